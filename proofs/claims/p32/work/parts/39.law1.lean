set_option maxRecDepth 100000 in
theorem kV_RL_13 : CalV RL 13 yX11_now cX11_now 2 (some .boolean) 1 := ⟨⟨wk2_3 9 rfl rfl, wk2_3 10 rfl rfl, wk2_3 11 rfl rfl, wk1_0 1 rfl rfl, wk2_4 0 rfl rfl⟩, ⟨nmh_0.1, nmh_0.2, pd_15⟩⟩
set_option maxRecDepth 100000 in
theorem kV_RL_17 : CalV RL 17 yX12_now cX12_now 2 (some .boolean) 1 := ⟨⟨wk7_12 4 rfl rfl, wk7_12 5 rfl rfl, wk7_12 6 rfl rfl, wk1_1 1 rfl rfl, wk7_12 7 rfl rfl⟩, ⟨nmh_13.1, nmh_13.2, pd_15⟩⟩
set_option maxRecDepth 100000 in
theorem kV_RL_18 : CalV RL 18 yX11_kitchen cX11_kitchen 6 (some .int) 4 := ⟨⟨wk2_4 7 rfl rfl, wk2_4 8 rfl rfl, wk2_4 9 rfl rfl, wk1_0 1 rfl rfl, wk2_4 10 rfl rfl⟩, ⟨nmh_0.1, nmh_0.2, pd_27⟩⟩
set_option maxRecDepth 100000 in
theorem kV_RL_22 : CalV RL 22 yX12_kitchen cX12_kitchen 5 (some .int) 4 := ⟨⟨wk7_12 11 rfl rfl, wk7_13 0 rfl rfl, wk7_13 1 rfl rfl, wk1_1 1 rfl rfl, wk7_13 2 rfl rfl⟩, ⟨nmh_13.1, nmh_13.2, pd_27⟩⟩
set_option maxRecDepth 100000 in
theorem kV_RL_23 : CalV RL 23 yX11_likely cX11_likely 4 (some .int) 2 := ⟨⟨wk2_14 5 rfl rfl, wk2_14 6 rfl rfl, wk2_14 7 rfl rfl, wk1_0 1 rfl rfl, wk2_14 8 rfl rfl⟩, ⟨nmh_0.1, nmh_0.2, pd_17⟩⟩
set_option maxRecDepth 100000 in
theorem kV_RL_27 : CalV RL 27 yX12_likely cX12_likely 3 (some .int) 2 := ⟨⟨wk7_13 3 rfl rfl, wk7_13 4 rfl rfl, wk7_13 5 rfl rfl, wk1_1 1 rfl rfl, wk7_13 6 rfl rfl⟩, ⟨nmh_13.1, nmh_13.2, pd_17⟩⟩
set_option maxRecDepth 100000 in
theorem kV_RL_28 : CalV RL 28 yX11_fetch cX11_fetch 9 (some .int) 6 := ⟨⟨wk2_16 8 rfl rfl, wk2_16 9 rfl rfl, wk2_16 10 rfl rfl, wk1_0 1 rfl rfl, wk2_16 11 rfl rfl⟩, ⟨nmh_0.1, nmh_0.2, pd_33⟩⟩
set_option maxRecDepth 100000 in
theorem kV_RL_32 : CalV RL 32 yX12_fetch cX12_fetch 9 (some .int) 6 := ⟨⟨wk7_14 3 rfl rfl, wk7_14 4 rfl rfl, wk7_14 5 rfl rfl, wk1_1 1 rfl rfl, wk7_14 6 rfl rfl⟩, ⟨nmh_13.1, nmh_13.2, pd_33⟩⟩
set_option maxRecDepth 100000 in
theorem kV_RL_33 : CalV RL 33 yX11_feed cX11_feed 6 (some .int) 5 := ⟨⟨wk3_2 9 rfl rfl, wk3_2 10 rfl rfl, wk3_2 11 rfl rfl, wk1_0 1 rfl rfl, wk3_3 0 rfl rfl⟩, ⟨nmh_0.1, nmh_0.2, pd_30⟩⟩
set_option maxRecDepth 100000 in
theorem kV_RL_37 : CalV RL 37 yX12_feed cX12_feed 6 (some .int) 5 := ⟨⟨wk7_14 7 rfl rfl, wk7_14 8 rfl rfl, wk7_14 9 rfl rfl, wk1_1 1 rfl rfl, wk7_14 10 rfl rfl⟩, ⟨nmh_13.1, nmh_13.2, pd_30⟩⟩
set_option maxRecDepth 100000 in
theorem kV_RL_38 : CalV RL 38 yX11_contract cX11_contract 5 (some .int) 2 := ⟨⟨wk3_3 11 rfl rfl, wk3_4 0 rfl rfl, wk3_4 1 rfl rfl, wk1_0 1 rfl rfl, wk3_4 2 rfl rfl⟩, ⟨nmh_0.1, nmh_0.2, pd_17⟩⟩
set_option maxRecDepth 100000 in
theorem kV_RL_41 : CalV RL 41 yX12_contract cX12_contract 3 (some .int) 2 := ⟨⟨wk7_15 3 rfl rfl, wk7_15 4 rfl rfl, wk7_15 5 rfl rfl, wk1_1 1 rfl rfl, wk7_15 6 rfl rfl⟩, ⟨nmh_13.1, nmh_13.2, pd_17⟩⟩
set_option maxRecDepth 100000 in
theorem kV_RL_42 : CalV RL 42 yX11_law cX11_law 3 (some .int) 1 := ⟨⟨wk3_17 11 rfl rfl, wk3_18 0 rfl rfl, wk3_18 1 rfl rfl, wk1_0 1 rfl rfl, wk3_18 2 rfl rfl⟩, ⟨nmh_0.1, nmh_0.2, pd_8⟩⟩
set_option maxRecDepth 100000 in
theorem kV_RL_46 : CalV RL 46 yX12_law cX12_law 2 (some .int) 1 := ⟨⟨wk8_2 6 rfl rfl, wk8_2 7 rfl rfl, wk8_2 8 rfl rfl, wk1_1 1 rfl rfl, wk8_2 9 rfl rfl⟩, ⟨nmh_13.1, nmh_13.2, pd_8⟩⟩
set_option maxRecDepth 100000 in
theorem kV_RL_47 : CalV RL 47 yX11_price cX11_price 3 (some .boolean) 2 := ⟨⟨wk3_18 3 rfl rfl, wk3_18 4 rfl rfl, wk3_18 5 rfl rfl, wk1_0 1 rfl rfl, wk3_18 6 rfl rfl⟩, ⟨nmh_0.1, nmh_0.2, pd_21⟩⟩
set_option maxRecDepth 100000 in
theorem kV_RL_51 : CalV RL 51 yX12_price cX12_price 3 (some .boolean) 2 := ⟨⟨wk8_2 10 rfl rfl, wk8_2 11 rfl rfl, wk8_3 0 rfl rfl, wk1_1 1 rfl rfl, wk8_3 1 rfl rfl⟩, ⟨nmh_13.1, nmh_13.2, pd_21⟩⟩
set_option maxRecDepth 100000 in
theorem kV_RL_52 : CalV RL 52 yX11_pence cX11_pence 4 (some .int) 1 := ⟨⟨wk3_18 10 rfl rfl, wk3_18 11 rfl rfl, wk3_19 0 rfl rfl, wk1_0 1 rfl rfl, wk3_19 1 rfl rfl⟩, ⟨nmh_0.1, nmh_0.2, pd_8⟩⟩
set_option maxRecDepth 100000 in
theorem kV_RL_55 : CalV RL 55 yX12_pence cX12_pence 2 (some .int) 1 := ⟨⟨wk8_3 2 rfl rfl, wk8_3 3 rfl rfl, wk8_3 4 rfl rfl, wk1_1 1 rfl rfl, wk8_3 5 rfl rfl⟩, ⟨nmh_13.1, nmh_13.2, pd_8⟩⟩
set_option maxRecDepth 100000 in
theorem kV_RL_56 : CalV RL 56 yX11_paid cX11_paid 4 (some .int) 2 := ⟨⟨wk4_3 9 rfl rfl, wk4_3 10 rfl rfl, wk4_3 11 rfl rfl, wk1_0 1 rfl rfl, wk4_4 0 rfl rfl⟩, ⟨nmh_0.1, nmh_0.2, pd_17⟩⟩
set_option maxRecDepth 100000 in
theorem kV_RL_59 : CalV RL 59 yX12_paid cX12_paid 5 (some .int) 2 := ⟨⟨wk8_4 10 rfl rfl, wk8_4 11 rfl rfl, wk8_5 0 rfl rfl, wk1_1 1 rfl rfl, wk8_5 1 rfl rfl⟩, ⟨nmh_13.1, nmh_13.2, pd_17⟩⟩
set_option maxRecDepth 100000 in
theorem kV_RL_60 : CalV RL 60 yX11_missing cX11_missing 3 (some .int) 1 := ⟨⟨wk3_2 1 rfl rfl, wk3_2 2 rfl rfl, wk3_2 3 rfl rfl, wk1_0 1 rfl rfl, wk3_2 4 rfl rfl⟩, ⟨nmh_0.1, nmh_0.2, pd_8⟩⟩
set_option maxRecDepth 100000 in
theorem kV_RL_63 : CalV RL 63 yX12_missing cX12_missing 2 (some .int) 1 := ⟨⟨wk8_5 9 rfl rfl, wk8_5 10 rfl rfl, wk8_5 11 rfl rfl, wk1_1 1 rfl rfl, wk8_6 0 rfl rfl⟩, ⟨nmh_13.1, nmh_13.2, pd_8⟩⟩
set_option maxRecDepth 100000 in
theorem kV_RL_64 : CalV RL 64 yX11_beyond cX11_beyond 9 (some .long) 2 := ⟨⟨wk4_4 9 rfl rfl, wk4_4 10 rfl rfl, wk4_4 11 rfl rfl, wk1_0 1 rfl rfl, wk4_5 0 rfl rfl⟩, ⟨nmh_0.1, nmh_0.2, pd_18⟩⟩
set_option maxRecDepth 100000 in
theorem kV_RL_68 : CalV RL 68 yX12_beyond cX12_beyond 6 (some .long) 2 := ⟨⟨wk8_6 1 rfl rfl, wk8_6 2 rfl rfl, wk8_6 3 rfl rfl, wk1_1 1 rfl rfl, wk8_6 4 rfl rfl⟩, ⟨nmh_13.1, nmh_13.2, pd_18⟩⟩
set_option maxRecDepth 100000 in
theorem kV_RL_69 : CalV RL 69 yX11_round cX11_round 4 (some .int) 3 := ⟨⟨wk4_6 11 rfl rfl, wk4_7 0 rfl rfl, wk4_7 1 rfl rfl, wk1_0 1 rfl rfl, wk4_7 2 rfl rfl⟩, ⟨nmh_0.1, nmh_0.2, pd_22⟩⟩
set_option maxRecDepth 100000 in
theorem kV_RL_73 : CalV RL 73 yX12_round cX12_round 8 (some .int) 3 := ⟨⟨wk8_9 5 rfl rfl, wk8_9 6 rfl rfl, wk8_9 7 rfl rfl, wk1_1 1 rfl rfl, wk8_9 8 rfl rfl⟩, ⟨nmh_13.1, nmh_13.2, pd_22⟩⟩
set_option maxRecDepth 100000 in
theorem kV_RL_74 : CalV RL 74 yX11_driven cX11_driven 3 (some .int) 1 := ⟨⟨wk4_11 11 rfl rfl, wk4_12 0 rfl rfl, wk4_12 1 rfl rfl, wk1_0 1 rfl rfl, wk4_12 2 rfl rfl⟩, ⟨nmh_0.1, nmh_0.2, pd_8⟩⟩
set_option maxRecDepth 100000 in
theorem kV_RL_77 : CalV RL 77 yX12_driven cX12_driven 7 (some .int) 1 := ⟨⟨wk8_16 1 rfl rfl, wk8_16 2 rfl rfl, wk8_16 3 rfl rfl, wk1_1 1 rfl rfl, wk8_16 4 rfl rfl⟩, ⟨nmh_13.1, nmh_13.2, pd_8⟩⟩
set_option maxRecDepth 100000 in
theorem kV_RL_78 : CalV RL 78 yX11_batch cX11_batch 4 (some .int) 1 := ⟨⟨wk4_16 10 rfl rfl, wk4_16 11 rfl rfl, wk4_17 0 rfl rfl, wk1_0 1 rfl rfl, wk4_17 1 rfl rfl⟩, ⟨nmh_0.1, nmh_0.2, pd_8⟩⟩
set_option maxRecDepth 100000 in
theorem kV_RL_81 : CalV RL 81 yX12_batch cX12_batch 4 (some .int) 1 := ⟨⟨wk8_16 5 rfl rfl, wk8_16 6 rfl rfl, wk8_16 7 rfl rfl, wk1_1 1 rfl rfl, wk8_16 8 rfl rfl⟩, ⟨nmh_13.1, nmh_13.2, pd_8⟩⟩
noncomputable def sxL_law_2277 : List UInt8 := []
noncomputable def sxL_law_2276 : List UInt8 := 172 :: sxL_law_2277
noncomputable def sxL_law_2275 : List UInt8 := 4 :: sxL_law_2276
noncomputable def sxL_law_2272 : List UInt8 := 167 :: 247 :: 50 :: sxL_law_2275
noncomputable def sxL_law_2269 : List UInt8 := 132 :: 3 :: 7 :: sxL_law_2272
noncomputable def sxL_law_2266 : List UInt8 := 167 :: 0 :: 3 :: sxL_law_2269
noncomputable def sxL_law_2265 : List UInt8 := 87 :: sxL_law_2266
noncomputable def sxL_law_2262 : List UInt8 := 182 :: 1 :: 5 :: sxL_law_2265
noncomputable def sxL_law_2261 : List UInt8 := 46 :: sxL_law_2262
noncomputable def sxL_law_2260 : List UInt8 := 96 :: sxL_law_2261
noncomputable def sxL_law_2259 : List UInt8 := 4 :: sxL_law_2260
noncomputable def sxL_law_2258 : List UInt8 := 29 :: sxL_law_2259
noncomputable def sxL_law_2257 : List UInt8 := 42 :: sxL_law_2258
noncomputable def sxL_law_2256 : List UInt8 := 44 :: sxL_law_2257
noncomputable def sxL_law_2255 : List UInt8 := 87 :: sxL_law_2256
noncomputable def sxL_law_2252 : List UInt8 := 182 :: 1 :: 2 :: sxL_law_2255
noncomputable def sxL_law_2251 : List UInt8 := 46 :: sxL_law_2252
noncomputable def sxL_law_2250 : List UInt8 := 96 :: sxL_law_2251
noncomputable def sxL_law_2249 : List UInt8 := 4 :: sxL_law_2250
noncomputable def sxL_law_2248 : List UInt8 := 29 :: sxL_law_2249
noncomputable def sxL_law_2247 : List UInt8 := 42 :: sxL_law_2248
noncomputable def sxL_law_2246 : List UInt8 := 43 :: sxL_law_2247
noncomputable def sxL_law_2243 : List UInt8 := 167 :: 0 :: 26 :: sxL_law_2246
noncomputable def sxL_law_2242 : List UInt8 := 87 :: sxL_law_2243
noncomputable def sxL_law_2239 : List UInt8 := 182 :: 1 :: 1 :: sxL_law_2242
noncomputable def sxL_law_2238 : List UInt8 := 46 :: sxL_law_2239
noncomputable def sxL_law_2237 : List UInt8 := 96 :: sxL_law_2238
noncomputable def sxL_law_2236 : List UInt8 := 5 :: sxL_law_2237
noncomputable def sxL_law_2235 : List UInt8 := 29 :: sxL_law_2236
noncomputable def sxL_law_2234 : List UInt8 := 42 :: sxL_law_2235
noncomputable def sxL_law_2233 : List UInt8 := 46 :: sxL_law_2234
noncomputable def sxL_law_2232 : List UInt8 := 96 :: sxL_law_2233
noncomputable def sxL_law_2231 : List UInt8 := 4 :: sxL_law_2232
noncomputable def sxL_law_2230 : List UInt8 := 29 :: sxL_law_2231
noncomputable def sxL_law_2229 : List UInt8 := 42 :: sxL_law_2230
noncomputable def sxL_law_2228 : List UInt8 := 44 :: sxL_law_2229
noncomputable def sxL_law_2227 : List UInt8 := 87 :: sxL_law_2228
noncomputable def sxL_law_2224 : List UInt8 := 182 :: 0 :: 254 :: sxL_law_2227
noncomputable def sxL_law_2223 : List UInt8 := 46 :: sxL_law_2224
noncomputable def sxL_law_2222 : List UInt8 := 96 :: sxL_law_2223
noncomputable def sxL_law_2221 : List UInt8 := 5 :: sxL_law_2222
noncomputable def sxL_law_2220 : List UInt8 := 29 :: sxL_law_2221
noncomputable def sxL_law_2219 : List UInt8 := 42 :: sxL_law_2220
noncomputable def sxL_law_2218 : List UInt8 := 46 :: sxL_law_2219
noncomputable def sxL_law_2217 : List UInt8 := 96 :: sxL_law_2218
noncomputable def sxL_law_2216 : List UInt8 := 4 :: sxL_law_2217
noncomputable def sxL_law_2215 : List UInt8 := 29 :: sxL_law_2216
noncomputable def sxL_law_2214 : List UInt8 := 42 :: sxL_law_2215
noncomputable def sxL_law_2213 : List UInt8 := 43 :: sxL_law_2214
noncomputable def sxL_law_2210 : List UInt8 := 167 :: 0 :: 59 :: sxL_law_2213
noncomputable def sxL_law_2209 : List UInt8 := 87 :: sxL_law_2210
noncomputable def sxL_law_2206 : List UInt8 := 182 :: 0 :: 253 :: sxL_law_2209
noncomputable def sxL_law_2205 : List UInt8 := 46 :: sxL_law_2206
noncomputable def sxL_law_2204 : List UInt8 := 96 :: sxL_law_2205
noncomputable def sxL_law_2203 : List UInt8 := 4 :: sxL_law_2204
noncomputable def sxL_law_2202 : List UInt8 := 29 :: sxL_law_2203
noncomputable def sxL_law_2201 : List UInt8 := 42 :: sxL_law_2202
noncomputable def sxL_law_2200 : List UInt8 := 44 :: sxL_law_2201
noncomputable def sxL_law_2199 : List UInt8 := 87 :: sxL_law_2200
noncomputable def sxL_law_2196 : List UInt8 := 182 :: 0 :: 250 :: sxL_law_2199
noncomputable def sxL_law_2195 : List UInt8 := 46 :: sxL_law_2196
noncomputable def sxL_law_2194 : List UInt8 := 96 :: sxL_law_2195
noncomputable def sxL_law_2193 : List UInt8 := 4 :: sxL_law_2194
noncomputable def sxL_law_2192 : List UInt8 := 29 :: sxL_law_2193
noncomputable def sxL_law_2191 : List UInt8 := 42 :: sxL_law_2192
noncomputable def sxL_law_2190 : List UInt8 := 43 :: sxL_law_2191
noncomputable def sxL_law_2187 : List UInt8 := 167 :: 0 :: 82 :: sxL_law_2190
noncomputable def sxL_law_2186 : List UInt8 := 87 :: sxL_law_2187
noncomputable def sxL_law_2183 : List UInt8 := 182 :: 0 :: 249 :: sxL_law_2186
noncomputable def sxL_law_2182 : List UInt8 := 46 :: sxL_law_2183
noncomputable def sxL_law_2181 : List UInt8 := 96 :: sxL_law_2182
noncomputable def sxL_law_2180 : List UInt8 := 4 :: sxL_law_2181
noncomputable def sxL_law_2179 : List UInt8 := 29 :: sxL_law_2180
noncomputable def sxL_law_2178 : List UInt8 := 42 :: sxL_law_2179
noncomputable def sxL_law_2177 : List UInt8 := 44 :: sxL_law_2178
noncomputable def sxL_law_2176 : List UInt8 := 87 :: sxL_law_2177
noncomputable def sxL_law_2173 : List UInt8 := 182 :: 0 :: 246 :: sxL_law_2176
noncomputable def sxL_law_2172 : List UInt8 := 46 :: sxL_law_2173
noncomputable def sxL_law_2171 : List UInt8 := 96 :: sxL_law_2172
noncomputable def sxL_law_2170 : List UInt8 := 4 :: sxL_law_2171
noncomputable def sxL_law_2169 : List UInt8 := 29 :: sxL_law_2170
noncomputable def sxL_law_2168 : List UInt8 := 42 :: sxL_law_2169
noncomputable def sxL_law_2167 : List UInt8 := 43 :: sxL_law_2168
noncomputable def sxL_law_2164 : List UInt8 := 167 :: 0 :: 105 :: sxL_law_2167
noncomputable def sxL_law_2163 : List UInt8 := 87 :: sxL_law_2164
noncomputable def sxL_law_2160 : List UInt8 := 182 :: 0 :: 245 :: sxL_law_2163
noncomputable def sxL_law_2159 : List UInt8 := 46 :: sxL_law_2160
noncomputable def sxL_law_2158 : List UInt8 := 96 :: sxL_law_2159
noncomputable def sxL_law_2157 : List UInt8 := 5 :: sxL_law_2158
noncomputable def sxL_law_2156 : List UInt8 := 29 :: sxL_law_2157
noncomputable def sxL_law_2155 : List UInt8 := 42 :: sxL_law_2156
noncomputable def sxL_law_2154 : List UInt8 := 46 :: sxL_law_2155
noncomputable def sxL_law_2153 : List UInt8 := 96 :: sxL_law_2154
noncomputable def sxL_law_2152 : List UInt8 := 4 :: sxL_law_2153
noncomputable def sxL_law_2151 : List UInt8 := 29 :: sxL_law_2152
noncomputable def sxL_law_2150 : List UInt8 := 42 :: sxL_law_2151
noncomputable def sxL_law_2149 : List UInt8 := 44 :: sxL_law_2150
noncomputable def sxL_law_2148 : List UInt8 := 87 :: sxL_law_2149
noncomputable def sxL_law_2145 : List UInt8 := 182 :: 0 :: 242 :: sxL_law_2148
noncomputable def sxL_law_2144 : List UInt8 := 46 :: sxL_law_2145
noncomputable def sxL_law_2143 : List UInt8 := 96 :: sxL_law_2144
noncomputable def sxL_law_2142 : List UInt8 := 5 :: sxL_law_2143
noncomputable def sxL_law_2141 : List UInt8 := 29 :: sxL_law_2142
noncomputable def sxL_law_2140 : List UInt8 := 42 :: sxL_law_2141
noncomputable def sxL_law_2139 : List UInt8 := 46 :: sxL_law_2140
noncomputable def sxL_law_2138 : List UInt8 := 96 :: sxL_law_2139
noncomputable def sxL_law_2137 : List UInt8 := 4 :: sxL_law_2138
noncomputable def sxL_law_2136 : List UInt8 := 29 :: sxL_law_2137
noncomputable def sxL_law_2135 : List UInt8 := 42 :: sxL_law_2136
noncomputable def sxL_law_2134 : List UInt8 := 43 :: sxL_law_2135
noncomputable def sxL_law_2131 : List UInt8 := 167 :: 0 :: 138 :: sxL_law_2134
noncomputable def sxL_law_2130 : List UInt8 := 87 :: sxL_law_2131
noncomputable def sxL_law_2127 : List UInt8 := 182 :: 0 :: 241 :: sxL_law_2130
noncomputable def sxL_law_2126 : List UInt8 := 46 :: sxL_law_2127
noncomputable def sxL_law_2125 : List UInt8 := 96 :: sxL_law_2126
noncomputable def sxL_law_2124 : List UInt8 := 6 :: sxL_law_2125
noncomputable def sxL_law_2123 : List UInt8 := 29 :: sxL_law_2124
noncomputable def sxL_law_2122 : List UInt8 := 42 :: sxL_law_2123
noncomputable def sxL_law_2121 : List UInt8 := 46 :: sxL_law_2122
noncomputable def sxL_law_2120 : List UInt8 := 96 :: sxL_law_2121
noncomputable def sxL_law_2119 : List UInt8 := 5 :: sxL_law_2120
noncomputable def sxL_law_2118 : List UInt8 := 29 :: sxL_law_2119
noncomputable def sxL_law_2117 : List UInt8 := 42 :: sxL_law_2118
noncomputable def sxL_law_2116 : List UInt8 := 46 :: sxL_law_2117
noncomputable def sxL_law_2115 : List UInt8 := 96 :: sxL_law_2116
noncomputable def sxL_law_2114 : List UInt8 := 4 :: sxL_law_2115
noncomputable def sxL_law_2113 : List UInt8 := 29 :: sxL_law_2114
noncomputable def sxL_law_2112 : List UInt8 := 42 :: sxL_law_2113
noncomputable def sxL_law_2111 : List UInt8 := 44 :: sxL_law_2112
noncomputable def sxL_law_2110 : List UInt8 := 87 :: sxL_law_2111
noncomputable def sxL_law_2107 : List UInt8 := 182 :: 0 :: 238 :: sxL_law_2110
noncomputable def sxL_law_2106 : List UInt8 := 46 :: sxL_law_2107
noncomputable def sxL_law_2105 : List UInt8 := 96 :: sxL_law_2106
noncomputable def sxL_law_2104 : List UInt8 := 6 :: sxL_law_2105
noncomputable def sxL_law_2103 : List UInt8 := 29 :: sxL_law_2104
noncomputable def sxL_law_2102 : List UInt8 := 42 :: sxL_law_2103
noncomputable def sxL_law_2101 : List UInt8 := 46 :: sxL_law_2102
noncomputable def sxL_law_2100 : List UInt8 := 96 :: sxL_law_2101
noncomputable def sxL_law_2099 : List UInt8 := 5 :: sxL_law_2100
noncomputable def sxL_law_2098 : List UInt8 := 29 :: sxL_law_2099
noncomputable def sxL_law_2097 : List UInt8 := 42 :: sxL_law_2098
noncomputable def sxL_law_2096 : List UInt8 := 46 :: sxL_law_2097
noncomputable def sxL_law_2095 : List UInt8 := 96 :: sxL_law_2096
noncomputable def sxL_law_2094 : List UInt8 := 4 :: sxL_law_2095
noncomputable def sxL_law_2093 : List UInt8 := 29 :: sxL_law_2094
noncomputable def sxL_law_2092 : List UInt8 := 42 :: sxL_law_2093
noncomputable def sxL_law_2091 : List UInt8 := 43 :: sxL_law_2092
noncomputable def sxL_law_2088 : List UInt8 := 167 :: 0 :: 181 :: sxL_law_2091
noncomputable def sxL_law_2087 : List UInt8 := 87 :: sxL_law_2088
noncomputable def sxL_law_2084 : List UInt8 := 182 :: 0 :: 237 :: sxL_law_2087
noncomputable def sxL_law_2083 : List UInt8 := 46 :: sxL_law_2084
noncomputable def sxL_law_2082 : List UInt8 := 96 :: sxL_law_2083
noncomputable def sxL_law_2081 : List UInt8 := 5 :: sxL_law_2082
noncomputable def sxL_law_2080 : List UInt8 := 29 :: sxL_law_2081
noncomputable def sxL_law_2079 : List UInt8 := 42 :: sxL_law_2080
noncomputable def sxL_law_2078 : List UInt8 := 46 :: sxL_law_2079
noncomputable def sxL_law_2077 : List UInt8 := 96 :: sxL_law_2078
noncomputable def sxL_law_2076 : List UInt8 := 4 :: sxL_law_2077
noncomputable def sxL_law_2075 : List UInt8 := 29 :: sxL_law_2076
noncomputable def sxL_law_2074 : List UInt8 := 42 :: sxL_law_2075
noncomputable def sxL_law_2073 : List UInt8 := 44 :: sxL_law_2074
noncomputable def sxL_law_2072 : List UInt8 := 87 :: sxL_law_2073
noncomputable def sxL_law_2069 : List UInt8 := 182 :: 0 :: 234 :: sxL_law_2072
noncomputable def sxL_law_2068 : List UInt8 := 46 :: sxL_law_2069
noncomputable def sxL_law_2067 : List UInt8 := 96 :: sxL_law_2068
noncomputable def sxL_law_2066 : List UInt8 := 5 :: sxL_law_2067
noncomputable def sxL_law_2065 : List UInt8 := 29 :: sxL_law_2066
noncomputable def sxL_law_2064 : List UInt8 := 42 :: sxL_law_2065
noncomputable def sxL_law_2063 : List UInt8 := 46 :: sxL_law_2064
noncomputable def sxL_law_2062 : List UInt8 := 96 :: sxL_law_2063
noncomputable def sxL_law_2061 : List UInt8 := 4 :: sxL_law_2062
noncomputable def sxL_law_2060 : List UInt8 := 29 :: sxL_law_2061
noncomputable def sxL_law_2059 : List UInt8 := 42 :: sxL_law_2060
noncomputable def sxL_law_2058 : List UInt8 := 43 :: sxL_law_2059
noncomputable def sxL_law_2055 : List UInt8 := 167 :: 0 :: 214 :: sxL_law_2058
noncomputable def sxL_law_2054 : List UInt8 := 87 :: sxL_law_2055
noncomputable def sxL_law_2051 : List UInt8 := 182 :: 0 :: 233 :: sxL_law_2054
noncomputable def sxL_law_2050 : List UInt8 := 46 :: sxL_law_2051
noncomputable def sxL_law_2049 : List UInt8 := 96 :: sxL_law_2050
noncomputable def sxL_law_2048 : List UInt8 := 4 :: sxL_law_2049
noncomputable def sxL_law_2047 : List UInt8 := 29 :: sxL_law_2048
noncomputable def sxL_law_2046 : List UInt8 := 42 :: sxL_law_2047
noncomputable def sxL_law_2045 : List UInt8 := 44 :: sxL_law_2046
noncomputable def sxL_law_2044 : List UInt8 := 87 :: sxL_law_2045
noncomputable def sxL_law_2041 : List UInt8 := 182 :: 0 :: 230 :: sxL_law_2044
noncomputable def sxL_law_2040 : List UInt8 := 46 :: sxL_law_2041
noncomputable def sxL_law_2039 : List UInt8 := 96 :: sxL_law_2040
noncomputable def sxL_law_2038 : List UInt8 := 4 :: sxL_law_2039
noncomputable def sxL_law_2037 : List UInt8 := 29 :: sxL_law_2038
noncomputable def sxL_law_2036 : List UInt8 := 42 :: sxL_law_2037
noncomputable def sxL_law_2035 : List UInt8 := 43 :: sxL_law_2036
noncomputable def sxL_law_2032 : List UInt8 := 167 :: 0 :: 237 :: sxL_law_2035
noncomputable def sxL_law_2031 : List UInt8 := 87 :: sxL_law_2032
noncomputable def sxL_law_2028 : List UInt8 := 182 :: 0 :: 229 :: sxL_law_2031
noncomputable def sxL_law_2027 : List UInt8 := 46 :: sxL_law_2028
noncomputable def sxL_law_2026 : List UInt8 := 96 :: sxL_law_2027
noncomputable def sxL_law_2025 : List UInt8 := 5 :: sxL_law_2026
noncomputable def sxL_law_2024 : List UInt8 := 29 :: sxL_law_2025
noncomputable def sxL_law_2023 : List UInt8 := 42 :: sxL_law_2024
noncomputable def sxL_law_2022 : List UInt8 := 46 :: sxL_law_2023
noncomputable def sxL_law_2021 : List UInt8 := 96 :: sxL_law_2022
noncomputable def sxL_law_2020 : List UInt8 := 4 :: sxL_law_2021
noncomputable def sxL_law_2019 : List UInt8 := 29 :: sxL_law_2020
noncomputable def sxL_law_2018 : List UInt8 := 42 :: sxL_law_2019
noncomputable def sxL_law_2017 : List UInt8 := 44 :: sxL_law_2018
noncomputable def sxL_law_2016 : List UInt8 := 87 :: sxL_law_2017
noncomputable def sxL_law_2013 : List UInt8 := 182 :: 0 :: 226 :: sxL_law_2016
noncomputable def sxL_law_2012 : List UInt8 := 46 :: sxL_law_2013
noncomputable def sxL_law_2011 : List UInt8 := 96 :: sxL_law_2012
noncomputable def sxL_law_2010 : List UInt8 := 5 :: sxL_law_2011
noncomputable def sxL_law_2009 : List UInt8 := 29 :: sxL_law_2010
noncomputable def sxL_law_2008 : List UInt8 := 42 :: sxL_law_2009
noncomputable def sxL_law_2007 : List UInt8 := 46 :: sxL_law_2008
noncomputable def sxL_law_2006 : List UInt8 := 96 :: sxL_law_2007
noncomputable def sxL_law_2005 : List UInt8 := 4 :: sxL_law_2006
noncomputable def sxL_law_2004 : List UInt8 := 29 :: sxL_law_2005
noncomputable def sxL_law_2003 : List UInt8 := 42 :: sxL_law_2004
noncomputable def sxL_law_2002 : List UInt8 := 43 :: sxL_law_2003
noncomputable def sxL_law_1999 : List UInt8 := 167 :: 1 :: 14 :: sxL_law_2002
noncomputable def sxL_law_1998 : List UInt8 := 87 :: sxL_law_1999
noncomputable def sxL_law_1995 : List UInt8 := 182 :: 0 :: 225 :: sxL_law_1998
noncomputable def sxL_law_1994 : List UInt8 := 46 :: sxL_law_1995
noncomputable def sxL_law_1993 : List UInt8 := 96 :: sxL_law_1994
noncomputable def sxL_law_1992 : List UInt8 := 4 :: sxL_law_1993
noncomputable def sxL_law_1991 : List UInt8 := 29 :: sxL_law_1992
noncomputable def sxL_law_1990 : List UInt8 := 42 :: sxL_law_1991
noncomputable def sxL_law_1989 : List UInt8 := 44 :: sxL_law_1990
noncomputable def sxL_law_1988 : List UInt8 := 87 :: sxL_law_1989
noncomputable def sxL_law_1985 : List UInt8 := 182 :: 0 :: 222 :: sxL_law_1988
noncomputable def sxL_law_1984 : List UInt8 := 46 :: sxL_law_1985
noncomputable def sxL_law_1983 : List UInt8 := 96 :: sxL_law_1984
noncomputable def sxL_law_1982 : List UInt8 := 4 :: sxL_law_1983
noncomputable def sxL_law_1981 : List UInt8 := 29 :: sxL_law_1982
noncomputable def sxL_law_1980 : List UInt8 := 42 :: sxL_law_1981
noncomputable def sxL_law_1979 : List UInt8 := 43 :: sxL_law_1980
noncomputable def sxL_law_1976 : List UInt8 := 167 :: 1 :: 37 :: sxL_law_1979
noncomputable def sxL_law_1975 : List UInt8 := 87 :: sxL_law_1976
noncomputable def sxL_law_1972 : List UInt8 := 182 :: 0 :: 221 :: sxL_law_1975
noncomputable def sxL_law_1971 : List UInt8 := 46 :: sxL_law_1972
noncomputable def sxL_law_1970 : List UInt8 := 96 :: sxL_law_1971
noncomputable def sxL_law_1969 : List UInt8 := 6 :: sxL_law_1970
noncomputable def sxL_law_1968 : List UInt8 := 29 :: sxL_law_1969
noncomputable def sxL_law_1967 : List UInt8 := 42 :: sxL_law_1968
noncomputable def sxL_law_1966 : List UInt8 := 46 :: sxL_law_1967
noncomputable def sxL_law_1965 : List UInt8 := 96 :: sxL_law_1966
noncomputable def sxL_law_1964 : List UInt8 := 5 :: sxL_law_1965
noncomputable def sxL_law_1963 : List UInt8 := 29 :: sxL_law_1964
noncomputable def sxL_law_1962 : List UInt8 := 42 :: sxL_law_1963
noncomputable def sxL_law_1961 : List UInt8 := 46 :: sxL_law_1962
noncomputable def sxL_law_1960 : List UInt8 := 96 :: sxL_law_1961
noncomputable def sxL_law_1959 : List UInt8 := 4 :: sxL_law_1960
noncomputable def sxL_law_1958 : List UInt8 := 29 :: sxL_law_1959
noncomputable def sxL_law_1957 : List UInt8 := 42 :: sxL_law_1958
noncomputable def sxL_law_1956 : List UInt8 := 44 :: sxL_law_1957
noncomputable def sxL_law_1955 : List UInt8 := 87 :: sxL_law_1956
noncomputable def sxL_law_1952 : List UInt8 := 182 :: 0 :: 218 :: sxL_law_1955
noncomputable def sxL_law_1951 : List UInt8 := 46 :: sxL_law_1952
noncomputable def sxL_law_1950 : List UInt8 := 96 :: sxL_law_1951
noncomputable def sxL_law_1949 : List UInt8 := 6 :: sxL_law_1950
noncomputable def sxL_law_1948 : List UInt8 := 29 :: sxL_law_1949
noncomputable def sxL_law_1947 : List UInt8 := 42 :: sxL_law_1948
noncomputable def sxL_law_1946 : List UInt8 := 46 :: sxL_law_1947
noncomputable def sxL_law_1945 : List UInt8 := 96 :: sxL_law_1946
noncomputable def sxL_law_1944 : List UInt8 := 5 :: sxL_law_1945
noncomputable def sxL_law_1943 : List UInt8 := 29 :: sxL_law_1944
noncomputable def sxL_law_1942 : List UInt8 := 42 :: sxL_law_1943
noncomputable def sxL_law_1941 : List UInt8 := 46 :: sxL_law_1942
noncomputable def sxL_law_1940 : List UInt8 := 96 :: sxL_law_1941
noncomputable def sxL_law_1939 : List UInt8 := 4 :: sxL_law_1940
noncomputable def sxL_law_1938 : List UInt8 := 29 :: sxL_law_1939
noncomputable def sxL_law_1937 : List UInt8 := 42 :: sxL_law_1938
noncomputable def sxL_law_1936 : List UInt8 := 43 :: sxL_law_1937
noncomputable def sxL_law_1933 : List UInt8 := 167 :: 1 :: 80 :: sxL_law_1936
noncomputable def sxL_law_1932 : List UInt8 := 87 :: sxL_law_1933
noncomputable def sxL_law_1929 : List UInt8 := 182 :: 0 :: 217 :: sxL_law_1932
noncomputable def sxL_law_1928 : List UInt8 := 46 :: sxL_law_1929
noncomputable def sxL_law_1927 : List UInt8 := 96 :: sxL_law_1928
noncomputable def sxL_law_1926 : List UInt8 := 5 :: sxL_law_1927
noncomputable def sxL_law_1925 : List UInt8 := 29 :: sxL_law_1926
noncomputable def sxL_law_1924 : List UInt8 := 42 :: sxL_law_1925
noncomputable def sxL_law_1923 : List UInt8 := 46 :: sxL_law_1924
noncomputable def sxL_law_1922 : List UInt8 := 96 :: sxL_law_1923
noncomputable def sxL_law_1921 : List UInt8 := 4 :: sxL_law_1922
noncomputable def sxL_law_1920 : List UInt8 := 29 :: sxL_law_1921
noncomputable def sxL_law_1919 : List UInt8 := 42 :: sxL_law_1920
noncomputable def sxL_law_1918 : List UInt8 := 44 :: sxL_law_1919
noncomputable def sxL_law_1917 : List UInt8 := 87 :: sxL_law_1918
noncomputable def sxL_law_1914 : List UInt8 := 182 :: 0 :: 214 :: sxL_law_1917
noncomputable def sxL_law_1913 : List UInt8 := 46 :: sxL_law_1914
noncomputable def sxL_law_1912 : List UInt8 := 96 :: sxL_law_1913
noncomputable def sxL_law_1911 : List UInt8 := 5 :: sxL_law_1912
noncomputable def sxL_law_1910 : List UInt8 := 29 :: sxL_law_1911
noncomputable def sxL_law_1909 : List UInt8 := 42 :: sxL_law_1910
noncomputable def sxL_law_1908 : List UInt8 := 46 :: sxL_law_1909
noncomputable def sxL_law_1907 : List UInt8 := 96 :: sxL_law_1908
noncomputable def sxL_law_1906 : List UInt8 := 4 :: sxL_law_1907
noncomputable def sxL_law_1905 : List UInt8 := 29 :: sxL_law_1906
noncomputable def sxL_law_1904 : List UInt8 := 42 :: sxL_law_1905
noncomputable def sxL_law_1903 : List UInt8 := 43 :: sxL_law_1904
noncomputable def sxL_law_1900 : List UInt8 := 167 :: 1 :: 113 :: sxL_law_1903
noncomputable def sxL_law_1899 : List UInt8 := 87 :: sxL_law_1900
noncomputable def sxL_law_1896 : List UInt8 := 182 :: 0 :: 213 :: sxL_law_1899
noncomputable def sxL_law_1895 : List UInt8 := 46 :: sxL_law_1896
noncomputable def sxL_law_1894 : List UInt8 := 96 :: sxL_law_1895
noncomputable def sxL_law_1893 : List UInt8 := 5 :: sxL_law_1894
noncomputable def sxL_law_1892 : List UInt8 := 29 :: sxL_law_1893
noncomputable def sxL_law_1891 : List UInt8 := 42 :: sxL_law_1892
noncomputable def sxL_law_1890 : List UInt8 := 46 :: sxL_law_1891
noncomputable def sxL_law_1889 : List UInt8 := 96 :: sxL_law_1890
noncomputable def sxL_law_1888 : List UInt8 := 4 :: sxL_law_1889
noncomputable def sxL_law_1887 : List UInt8 := 29 :: sxL_law_1888
noncomputable def sxL_law_1886 : List UInt8 := 42 :: sxL_law_1887
noncomputable def sxL_law_1885 : List UInt8 := 44 :: sxL_law_1886
noncomputable def sxL_law_1884 : List UInt8 := 87 :: sxL_law_1885
noncomputable def sxL_law_1881 : List UInt8 := 182 :: 0 :: 210 :: sxL_law_1884
noncomputable def sxL_law_1880 : List UInt8 := 46 :: sxL_law_1881
noncomputable def sxL_law_1879 : List UInt8 := 96 :: sxL_law_1880
noncomputable def sxL_law_1878 : List UInt8 := 5 :: sxL_law_1879
noncomputable def sxL_law_1877 : List UInt8 := 29 :: sxL_law_1878
noncomputable def sxL_law_1876 : List UInt8 := 42 :: sxL_law_1877
noncomputable def sxL_law_1875 : List UInt8 := 46 :: sxL_law_1876
noncomputable def sxL_law_1874 : List UInt8 := 96 :: sxL_law_1875
noncomputable def sxL_law_1873 : List UInt8 := 4 :: sxL_law_1874
noncomputable def sxL_law_1872 : List UInt8 := 29 :: sxL_law_1873
noncomputable def sxL_law_1871 : List UInt8 := 42 :: sxL_law_1872
noncomputable def sxL_law_1870 : List UInt8 := 43 :: sxL_law_1871
noncomputable def sxL_law_1867 : List UInt8 := 167 :: 1 :: 146 :: sxL_law_1870
noncomputable def sxL_law_1866 : List UInt8 := 87 :: sxL_law_1867
noncomputable def sxL_law_1863 : List UInt8 := 182 :: 0 :: 209 :: sxL_law_1866
noncomputable def sxL_law_1862 : List UInt8 := 46 :: sxL_law_1863
noncomputable def sxL_law_1861 : List UInt8 := 96 :: sxL_law_1862
noncomputable def sxL_law_1860 : List UInt8 := 5 :: sxL_law_1861
noncomputable def sxL_law_1859 : List UInt8 := 29 :: sxL_law_1860
noncomputable def sxL_law_1858 : List UInt8 := 42 :: sxL_law_1859
noncomputable def sxL_law_1857 : List UInt8 := 46 :: sxL_law_1858
noncomputable def sxL_law_1856 : List UInt8 := 96 :: sxL_law_1857
noncomputable def sxL_law_1855 : List UInt8 := 4 :: sxL_law_1856
noncomputable def sxL_law_1854 : List UInt8 := 29 :: sxL_law_1855
noncomputable def sxL_law_1853 : List UInt8 := 42 :: sxL_law_1854
noncomputable def sxL_law_1852 : List UInt8 := 44 :: sxL_law_1853
noncomputable def sxL_law_1851 : List UInt8 := 87 :: sxL_law_1852
noncomputable def sxL_law_1848 : List UInt8 := 182 :: 0 :: 206 :: sxL_law_1851
noncomputable def sxL_law_1847 : List UInt8 := 46 :: sxL_law_1848
noncomputable def sxL_law_1846 : List UInt8 := 96 :: sxL_law_1847
noncomputable def sxL_law_1845 : List UInt8 := 5 :: sxL_law_1846
noncomputable def sxL_law_1844 : List UInt8 := 29 :: sxL_law_1845
noncomputable def sxL_law_1843 : List UInt8 := 42 :: sxL_law_1844
noncomputable def sxL_law_1842 : List UInt8 := 46 :: sxL_law_1843
noncomputable def sxL_law_1841 : List UInt8 := 96 :: sxL_law_1842
noncomputable def sxL_law_1840 : List UInt8 := 4 :: sxL_law_1841
noncomputable def sxL_law_1839 : List UInt8 := 29 :: sxL_law_1840
noncomputable def sxL_law_1838 : List UInt8 := 42 :: sxL_law_1839
noncomputable def sxL_law_1837 : List UInt8 := 43 :: sxL_law_1838
noncomputable def sxL_law_1834 : List UInt8 := 167 :: 1 :: 179 :: sxL_law_1837
noncomputable def sxL_law_1833 : List UInt8 := 87 :: sxL_law_1834
noncomputable def sxL_law_1830 : List UInt8 := 182 :: 0 :: 205 :: sxL_law_1833
noncomputable def sxL_law_1829 : List UInt8 := 46 :: sxL_law_1830
noncomputable def sxL_law_1828 : List UInt8 := 96 :: sxL_law_1829
noncomputable def sxL_law_1827 : List UInt8 := 4 :: sxL_law_1828
noncomputable def sxL_law_1826 : List UInt8 := 29 :: sxL_law_1827
noncomputable def sxL_law_1825 : List UInt8 := 42 :: sxL_law_1826
noncomputable def sxL_law_1824 : List UInt8 := 44 :: sxL_law_1825
noncomputable def sxL_law_1823 : List UInt8 := 87 :: sxL_law_1824
noncomputable def sxL_law_1820 : List UInt8 := 182 :: 0 :: 202 :: sxL_law_1823
noncomputable def sxL_law_1819 : List UInt8 := 46 :: sxL_law_1820
noncomputable def sxL_law_1818 : List UInt8 := 96 :: sxL_law_1819
noncomputable def sxL_law_1817 : List UInt8 := 4 :: sxL_law_1818
noncomputable def sxL_law_1816 : List UInt8 := 29 :: sxL_law_1817
noncomputable def sxL_law_1815 : List UInt8 := 42 :: sxL_law_1816
noncomputable def sxL_law_1814 : List UInt8 := 43 :: sxL_law_1815
noncomputable def sxL_law_1811 : List UInt8 := 167 :: 1 :: 202 :: sxL_law_1814
noncomputable def sxL_law_1810 : List UInt8 := 87 :: sxL_law_1811
noncomputable def sxL_law_1807 : List UInt8 := 182 :: 0 :: 201 :: sxL_law_1810
noncomputable def sxL_law_1806 : List UInt8 := 46 :: sxL_law_1807
noncomputable def sxL_law_1805 : List UInt8 := 96 :: sxL_law_1806
noncomputable def sxL_law_1804 : List UInt8 := 5 :: sxL_law_1805
noncomputable def sxL_law_1803 : List UInt8 := 29 :: sxL_law_1804
noncomputable def sxL_law_1802 : List UInt8 := 42 :: sxL_law_1803
noncomputable def sxL_law_1801 : List UInt8 := 46 :: sxL_law_1802
noncomputable def sxL_law_1800 : List UInt8 := 96 :: sxL_law_1801
noncomputable def sxL_law_1799 : List UInt8 := 4 :: sxL_law_1800
noncomputable def sxL_law_1798 : List UInt8 := 29 :: sxL_law_1799
noncomputable def sxL_law_1797 : List UInt8 := 42 :: sxL_law_1798
noncomputable def sxL_law_1796 : List UInt8 := 44 :: sxL_law_1797
noncomputable def sxL_law_1795 : List UInt8 := 87 :: sxL_law_1796
noncomputable def sxL_law_1792 : List UInt8 := 182 :: 0 :: 198 :: sxL_law_1795
noncomputable def sxL_law_1791 : List UInt8 := 46 :: sxL_law_1792
noncomputable def sxL_law_1790 : List UInt8 := 96 :: sxL_law_1791
noncomputable def sxL_law_1789 : List UInt8 := 5 :: sxL_law_1790
noncomputable def sxL_law_1788 : List UInt8 := 29 :: sxL_law_1789
noncomputable def sxL_law_1787 : List UInt8 := 42 :: sxL_law_1788
noncomputable def sxL_law_1786 : List UInt8 := 46 :: sxL_law_1787
noncomputable def sxL_law_1785 : List UInt8 := 96 :: sxL_law_1786
noncomputable def sxL_law_1784 : List UInt8 := 4 :: sxL_law_1785
noncomputable def sxL_law_1783 : List UInt8 := 29 :: sxL_law_1784
noncomputable def sxL_law_1782 : List UInt8 := 42 :: sxL_law_1783
noncomputable def sxL_law_1781 : List UInt8 := 43 :: sxL_law_1782
noncomputable def sxL_law_1778 : List UInt8 := 167 :: 1 :: 235 :: sxL_law_1781
noncomputable def sxL_law_1777 : List UInt8 := 87 :: sxL_law_1778
noncomputable def sxL_law_1774 : List UInt8 := 182 :: 0 :: 197 :: sxL_law_1777
noncomputable def sxL_law_1773 : List UInt8 := 46 :: sxL_law_1774
noncomputable def sxL_law_1772 : List UInt8 := 96 :: sxL_law_1773
noncomputable def sxL_law_1771 : List UInt8 := 6 :: sxL_law_1772
noncomputable def sxL_law_1770 : List UInt8 := 29 :: sxL_law_1771
noncomputable def sxL_law_1769 : List UInt8 := 42 :: sxL_law_1770
noncomputable def sxL_law_1768 : List UInt8 := 46 :: sxL_law_1769
noncomputable def sxL_law_1767 : List UInt8 := 96 :: sxL_law_1768
noncomputable def sxL_law_1766 : List UInt8 := 5 :: sxL_law_1767
noncomputable def sxL_law_1765 : List UInt8 := 29 :: sxL_law_1766
noncomputable def sxL_law_1764 : List UInt8 := 42 :: sxL_law_1765
noncomputable def sxL_law_1763 : List UInt8 := 46 :: sxL_law_1764
noncomputable def sxL_law_1762 : List UInt8 := 96 :: sxL_law_1763
noncomputable def sxL_law_1761 : List UInt8 := 4 :: sxL_law_1762
noncomputable def sxL_law_1760 : List UInt8 := 29 :: sxL_law_1761
noncomputable def sxL_law_1759 : List UInt8 := 42 :: sxL_law_1760
noncomputable def sxL_law_1758 : List UInt8 := 44 :: sxL_law_1759
noncomputable def sxL_law_1757 : List UInt8 := 87 :: sxL_law_1758
noncomputable def sxL_law_1754 : List UInt8 := 182 :: 0 :: 194 :: sxL_law_1757
noncomputable def sxL_law_1753 : List UInt8 := 46 :: sxL_law_1754
noncomputable def sxL_law_1752 : List UInt8 := 96 :: sxL_law_1753
noncomputable def sxL_law_1751 : List UInt8 := 6 :: sxL_law_1752
noncomputable def sxL_law_1750 : List UInt8 := 29 :: sxL_law_1751
noncomputable def sxL_law_1749 : List UInt8 := 42 :: sxL_law_1750
noncomputable def sxL_law_1748 : List UInt8 := 46 :: sxL_law_1749
noncomputable def sxL_law_1747 : List UInt8 := 96 :: sxL_law_1748
noncomputable def sxL_law_1746 : List UInt8 := 5 :: sxL_law_1747
noncomputable def sxL_law_1745 : List UInt8 := 29 :: sxL_law_1746
noncomputable def sxL_law_1744 : List UInt8 := 42 :: sxL_law_1745
noncomputable def sxL_law_1743 : List UInt8 := 46 :: sxL_law_1744
noncomputable def sxL_law_1742 : List UInt8 := 96 :: sxL_law_1743
noncomputable def sxL_law_1741 : List UInt8 := 4 :: sxL_law_1742
noncomputable def sxL_law_1740 : List UInt8 := 29 :: sxL_law_1741
noncomputable def sxL_law_1739 : List UInt8 := 42 :: sxL_law_1740
noncomputable def sxL_law_1738 : List UInt8 := 43 :: sxL_law_1739
noncomputable def sxL_law_1735 : List UInt8 := 167 :: 2 :: 22 :: sxL_law_1738
noncomputable def sxL_law_1734 : List UInt8 := 87 :: sxL_law_1735
noncomputable def sxL_law_1731 : List UInt8 := 182 :: 0 :: 193 :: sxL_law_1734
noncomputable def sxL_law_1730 : List UInt8 := 44 :: sxL_law_1731
noncomputable def sxL_law_1729 : List UInt8 := 87 :: sxL_law_1730
noncomputable def sxL_law_1726 : List UInt8 := 182 :: 0 :: 190 :: sxL_law_1729
noncomputable def sxL_law_1725 : List UInt8 := 43 :: sxL_law_1726
noncomputable def sxL_law_1722 : List UInt8 := 167 :: 2 :: 35 :: sxL_law_1725
noncomputable def sxL_law_1721 : List UInt8 := 87 :: sxL_law_1722
noncomputable def sxL_law_1718 : List UInt8 := 182 :: 0 :: 189 :: sxL_law_1721
noncomputable def sxL_law_1717 : List UInt8 := 46 :: sxL_law_1718
noncomputable def sxL_law_1716 : List UInt8 := 96 :: sxL_law_1717
noncomputable def sxL_law_1715 : List UInt8 := 5 :: sxL_law_1716
noncomputable def sxL_law_1714 : List UInt8 := 29 :: sxL_law_1715
noncomputable def sxL_law_1713 : List UInt8 := 42 :: sxL_law_1714
noncomputable def sxL_law_1712 : List UInt8 := 46 :: sxL_law_1713
noncomputable def sxL_law_1711 : List UInt8 := 96 :: sxL_law_1712
noncomputable def sxL_law_1710 : List UInt8 := 4 :: sxL_law_1711
noncomputable def sxL_law_1709 : List UInt8 := 29 :: sxL_law_1710
noncomputable def sxL_law_1708 : List UInt8 := 42 :: sxL_law_1709
noncomputable def sxL_law_1707 : List UInt8 := 44 :: sxL_law_1708
noncomputable def sxL_law_1706 : List UInt8 := 87 :: sxL_law_1707
noncomputable def sxL_law_1703 : List UInt8 := 182 :: 0 :: 186 :: sxL_law_1706
noncomputable def sxL_law_1702 : List UInt8 := 46 :: sxL_law_1703
noncomputable def sxL_law_1701 : List UInt8 := 96 :: sxL_law_1702
noncomputable def sxL_law_1700 : List UInt8 := 5 :: sxL_law_1701
noncomputable def sxL_law_1699 : List UInt8 := 29 :: sxL_law_1700
noncomputable def sxL_law_1698 : List UInt8 := 42 :: sxL_law_1699
noncomputable def sxL_law_1697 : List UInt8 := 46 :: sxL_law_1698
noncomputable def sxL_law_1696 : List UInt8 := 96 :: sxL_law_1697
noncomputable def sxL_law_1695 : List UInt8 := 4 :: sxL_law_1696
noncomputable def sxL_law_1694 : List UInt8 := 29 :: sxL_law_1695
noncomputable def sxL_law_1693 : List UInt8 := 42 :: sxL_law_1694
noncomputable def sxL_law_1692 : List UInt8 := 43 :: sxL_law_1693
noncomputable def sxL_law_1689 : List UInt8 := 167 :: 2 :: 68 :: sxL_law_1692
noncomputable def sxL_law_1688 : List UInt8 := 87 :: sxL_law_1689
noncomputable def sxL_law_1685 : List UInt8 := 182 :: 0 :: 185 :: sxL_law_1688
noncomputable def sxL_law_1684 : List UInt8 := 46 :: sxL_law_1685
noncomputable def sxL_law_1683 : List UInt8 := 96 :: sxL_law_1684
noncomputable def sxL_law_1682 : List UInt8 := 5 :: sxL_law_1683
noncomputable def sxL_law_1681 : List UInt8 := 29 :: sxL_law_1682
noncomputable def sxL_law_1680 : List UInt8 := 42 :: sxL_law_1681
noncomputable def sxL_law_1679 : List UInt8 := 46 :: sxL_law_1680
noncomputable def sxL_law_1678 : List UInt8 := 96 :: sxL_law_1679
noncomputable def sxL_law_1677 : List UInt8 := 4 :: sxL_law_1678
noncomputable def sxL_law_1676 : List UInt8 := 29 :: sxL_law_1677
noncomputable def sxL_law_1675 : List UInt8 := 42 :: sxL_law_1676
noncomputable def sxL_law_1674 : List UInt8 := 44 :: sxL_law_1675
noncomputable def sxL_law_1673 : List UInt8 := 87 :: sxL_law_1674
noncomputable def sxL_law_1670 : List UInt8 := 182 :: 0 :: 182 :: sxL_law_1673
noncomputable def sxL_law_1669 : List UInt8 := 46 :: sxL_law_1670
noncomputable def sxL_law_1668 : List UInt8 := 96 :: sxL_law_1669
noncomputable def sxL_law_1667 : List UInt8 := 5 :: sxL_law_1668
noncomputable def sxL_law_1666 : List UInt8 := 29 :: sxL_law_1667
noncomputable def sxL_law_1665 : List UInt8 := 42 :: sxL_law_1666
noncomputable def sxL_law_1664 : List UInt8 := 46 :: sxL_law_1665
noncomputable def sxL_law_1663 : List UInt8 := 96 :: sxL_law_1664
noncomputable def sxL_law_1662 : List UInt8 := 4 :: sxL_law_1663
noncomputable def sxL_law_1661 : List UInt8 := 29 :: sxL_law_1662
noncomputable def sxL_law_1660 : List UInt8 := 42 :: sxL_law_1661
noncomputable def sxL_law_1659 : List UInt8 := 43 :: sxL_law_1660
noncomputable def sxL_law_1656 : List UInt8 := 167 :: 2 :: 101 :: sxL_law_1659
noncomputable def sxL_law_1655 : List UInt8 := 87 :: sxL_law_1656
noncomputable def sxL_law_1652 : List UInt8 := 182 :: 0 :: 181 :: sxL_law_1655
noncomputable def sxL_law_1651 : List UInt8 := 46 :: sxL_law_1652
noncomputable def sxL_law_1650 : List UInt8 := 96 :: sxL_law_1651
noncomputable def sxL_law_1649 : List UInt8 := 7 :: sxL_law_1650
noncomputable def sxL_law_1648 : List UInt8 := 29 :: sxL_law_1649
noncomputable def sxL_law_1647 : List UInt8 := 42 :: sxL_law_1648
noncomputable def sxL_law_1646 : List UInt8 := 46 :: sxL_law_1647
noncomputable def sxL_law_1645 : List UInt8 := 96 :: sxL_law_1646
noncomputable def sxL_law_1644 : List UInt8 := 6 :: sxL_law_1645
noncomputable def sxL_law_1643 : List UInt8 := 29 :: sxL_law_1644
noncomputable def sxL_law_1642 : List UInt8 := 42 :: sxL_law_1643
noncomputable def sxL_law_1641 : List UInt8 := 46 :: sxL_law_1642
noncomputable def sxL_law_1640 : List UInt8 := 96 :: sxL_law_1641
noncomputable def sxL_law_1639 : List UInt8 := 5 :: sxL_law_1640
noncomputable def sxL_law_1638 : List UInt8 := 29 :: sxL_law_1639
noncomputable def sxL_law_1637 : List UInt8 := 42 :: sxL_law_1638
noncomputable def sxL_law_1636 : List UInt8 := 46 :: sxL_law_1637
noncomputable def sxL_law_1635 : List UInt8 := 96 :: sxL_law_1636
noncomputable def sxL_law_1634 : List UInt8 := 4 :: sxL_law_1635
noncomputable def sxL_law_1633 : List UInt8 := 29 :: sxL_law_1634
noncomputable def sxL_law_1632 : List UInt8 := 42 :: sxL_law_1633
noncomputable def sxL_law_1631 : List UInt8 := 44 :: sxL_law_1632
noncomputable def sxL_law_1630 : List UInt8 := 87 :: sxL_law_1631
noncomputable def sxL_law_1627 : List UInt8 := 182 :: 0 :: 178 :: sxL_law_1630
noncomputable def sxL_law_1626 : List UInt8 := 46 :: sxL_law_1627
noncomputable def sxL_law_1625 : List UInt8 := 96 :: sxL_law_1626
noncomputable def sxL_law_1624 : List UInt8 := 7 :: sxL_law_1625
noncomputable def sxL_law_1623 : List UInt8 := 29 :: sxL_law_1624
noncomputable def sxL_law_1622 : List UInt8 := 42 :: sxL_law_1623
noncomputable def sxL_law_1621 : List UInt8 := 46 :: sxL_law_1622
noncomputable def sxL_law_1620 : List UInt8 := 96 :: sxL_law_1621
noncomputable def sxL_law_1619 : List UInt8 := 6 :: sxL_law_1620
noncomputable def sxL_law_1618 : List UInt8 := 29 :: sxL_law_1619
noncomputable def sxL_law_1617 : List UInt8 := 42 :: sxL_law_1618
noncomputable def sxL_law_1616 : List UInt8 := 46 :: sxL_law_1617
noncomputable def sxL_law_1615 : List UInt8 := 96 :: sxL_law_1616
noncomputable def sxL_law_1614 : List UInt8 := 5 :: sxL_law_1615
noncomputable def sxL_law_1613 : List UInt8 := 29 :: sxL_law_1614
noncomputable def sxL_law_1612 : List UInt8 := 42 :: sxL_law_1613
noncomputable def sxL_law_1611 : List UInt8 := 46 :: sxL_law_1612
noncomputable def sxL_law_1610 : List UInt8 := 96 :: sxL_law_1611
noncomputable def sxL_law_1609 : List UInt8 := 4 :: sxL_law_1610
noncomputable def sxL_law_1608 : List UInt8 := 29 :: sxL_law_1609
noncomputable def sxL_law_1607 : List UInt8 := 42 :: sxL_law_1608
noncomputable def sxL_law_1606 : List UInt8 := 43 :: sxL_law_1607
noncomputable def sxL_law_1603 : List UInt8 := 167 :: 2 :: 154 :: sxL_law_1606
noncomputable def sxL_law_1602 : List UInt8 := 87 :: sxL_law_1603
noncomputable def sxL_law_1599 : List UInt8 := 182 :: 0 :: 177 :: sxL_law_1602
noncomputable def sxL_law_1598 : List UInt8 := 46 :: sxL_law_1599
noncomputable def sxL_law_1597 : List UInt8 := 96 :: sxL_law_1598
noncomputable def sxL_law_1596 : List UInt8 := 6 :: sxL_law_1597
noncomputable def sxL_law_1595 : List UInt8 := 29 :: sxL_law_1596
noncomputable def sxL_law_1594 : List UInt8 := 42 :: sxL_law_1595
noncomputable def sxL_law_1593 : List UInt8 := 46 :: sxL_law_1594
noncomputable def sxL_law_1592 : List UInt8 := 96 :: sxL_law_1593
noncomputable def sxL_law_1591 : List UInt8 := 5 :: sxL_law_1592
noncomputable def sxL_law_1590 : List UInt8 := 29 :: sxL_law_1591
noncomputable def sxL_law_1589 : List UInt8 := 42 :: sxL_law_1590
noncomputable def sxL_law_1588 : List UInt8 := 46 :: sxL_law_1589
noncomputable def sxL_law_1587 : List UInt8 := 96 :: sxL_law_1588
noncomputable def sxL_law_1586 : List UInt8 := 4 :: sxL_law_1587
noncomputable def sxL_law_1585 : List UInt8 := 29 :: sxL_law_1586
noncomputable def sxL_law_1584 : List UInt8 := 42 :: sxL_law_1585
noncomputable def sxL_law_1583 : List UInt8 := 44 :: sxL_law_1584
noncomputable def sxL_law_1582 : List UInt8 := 87 :: sxL_law_1583
noncomputable def sxL_law_1579 : List UInt8 := 182 :: 0 :: 174 :: sxL_law_1582
noncomputable def sxL_law_1578 : List UInt8 := 46 :: sxL_law_1579
noncomputable def sxL_law_1577 : List UInt8 := 96 :: sxL_law_1578
noncomputable def sxL_law_1576 : List UInt8 := 6 :: sxL_law_1577
noncomputable def sxL_law_1575 : List UInt8 := 29 :: sxL_law_1576
noncomputable def sxL_law_1574 : List UInt8 := 42 :: sxL_law_1575
noncomputable def sxL_law_1573 : List UInt8 := 46 :: sxL_law_1574
noncomputable def sxL_law_1572 : List UInt8 := 96 :: sxL_law_1573
noncomputable def sxL_law_1571 : List UInt8 := 5 :: sxL_law_1572
noncomputable def sxL_law_1570 : List UInt8 := 29 :: sxL_law_1571
noncomputable def sxL_law_1569 : List UInt8 := 42 :: sxL_law_1570
noncomputable def sxL_law_1568 : List UInt8 := 46 :: sxL_law_1569
noncomputable def sxL_law_1567 : List UInt8 := 96 :: sxL_law_1568
noncomputable def sxL_law_1566 : List UInt8 := 4 :: sxL_law_1567
noncomputable def sxL_law_1565 : List UInt8 := 29 :: sxL_law_1566
noncomputable def sxL_law_1564 : List UInt8 := 42 :: sxL_law_1565
noncomputable def sxL_law_1563 : List UInt8 := 43 :: sxL_law_1564
noncomputable def sxL_law_1560 : List UInt8 := 167 :: 2 :: 197 :: sxL_law_1563
noncomputable def sxL_law_1559 : List UInt8 := 87 :: sxL_law_1560
noncomputable def sxL_law_1556 : List UInt8 := 182 :: 0 :: 173 :: sxL_law_1559
noncomputable def sxL_law_1555 : List UInt8 := 3 :: sxL_law_1556
noncomputable def sxL_law_1552 : List UInt8 := 167 :: 0 :: 4 :: sxL_law_1555
noncomputable def sxL_law_1551 : List UInt8 := 4 :: sxL_law_1552
noncomputable def sxL_law_1548 : List UInt8 := 153 :: 0 :: 7 :: sxL_law_1551
noncomputable def sxL_law_1547 : List UInt8 := 46 :: sxL_law_1548
noncomputable def sxL_law_1546 : List UInt8 := 96 :: sxL_law_1547
noncomputable def sxL_law_1545 : List UInt8 := 6 :: sxL_law_1546
noncomputable def sxL_law_1544 : List UInt8 := 29 :: sxL_law_1545
noncomputable def sxL_law_1543 : List UInt8 := 42 :: sxL_law_1544
noncomputable def sxL_law_1542 : List UInt8 := 46 :: sxL_law_1543
noncomputable def sxL_law_1541 : List UInt8 := 96 :: sxL_law_1542
noncomputable def sxL_law_1540 : List UInt8 := 5 :: sxL_law_1541
noncomputable def sxL_law_1539 : List UInt8 := 29 :: sxL_law_1540
noncomputable def sxL_law_1538 : List UInt8 := 42 :: sxL_law_1539
noncomputable def sxL_law_1537 : List UInt8 := 46 :: sxL_law_1538
noncomputable def sxL_law_1536 : List UInt8 := 96 :: sxL_law_1537
noncomputable def sxL_law_1535 : List UInt8 := 4 :: sxL_law_1536
noncomputable def sxL_law_1534 : List UInt8 := 29 :: sxL_law_1535
noncomputable def sxL_law_1533 : List UInt8 := 42 :: sxL_law_1534
noncomputable def sxL_law_1532 : List UInt8 := 44 :: sxL_law_1533
noncomputable def sxL_law_1531 : List UInt8 := 87 :: sxL_law_1532
noncomputable def sxL_law_1528 : List UInt8 := 182 :: 0 :: 169 :: sxL_law_1531
noncomputable def sxL_law_1527 : List UInt8 := 3 :: sxL_law_1528
noncomputable def sxL_law_1524 : List UInt8 := 167 :: 0 :: 4 :: sxL_law_1527
noncomputable def sxL_law_1523 : List UInt8 := 4 :: sxL_law_1524
noncomputable def sxL_law_1520 : List UInt8 := 153 :: 0 :: 7 :: sxL_law_1523
noncomputable def sxL_law_1519 : List UInt8 := 46 :: sxL_law_1520
noncomputable def sxL_law_1518 : List UInt8 := 96 :: sxL_law_1519
noncomputable def sxL_law_1517 : List UInt8 := 6 :: sxL_law_1518
noncomputable def sxL_law_1516 : List UInt8 := 29 :: sxL_law_1517
noncomputable def sxL_law_1515 : List UInt8 := 42 :: sxL_law_1516
noncomputable def sxL_law_1514 : List UInt8 := 46 :: sxL_law_1515
noncomputable def sxL_law_1513 : List UInt8 := 96 :: sxL_law_1514
noncomputable def sxL_law_1512 : List UInt8 := 5 :: sxL_law_1513
noncomputable def sxL_law_1511 : List UInt8 := 29 :: sxL_law_1512
noncomputable def sxL_law_1510 : List UInt8 := 42 :: sxL_law_1511
noncomputable def sxL_law_1509 : List UInt8 := 46 :: sxL_law_1510
noncomputable def sxL_law_1508 : List UInt8 := 96 :: sxL_law_1509
noncomputable def sxL_law_1507 : List UInt8 := 4 :: sxL_law_1508
noncomputable def sxL_law_1506 : List UInt8 := 29 :: sxL_law_1507
noncomputable def sxL_law_1505 : List UInt8 := 42 :: sxL_law_1506
noncomputable def sxL_law_1504 : List UInt8 := 43 :: sxL_law_1505
noncomputable def sxL_law_1501 : List UInt8 := 167 :: 3 :: 0 :: sxL_law_1504
noncomputable def sxL_law_1500 : List UInt8 := 87 :: sxL_law_1501
noncomputable def sxL_law_1497 : List UInt8 := 182 :: 0 :: 168 :: sxL_law_1500
noncomputable def sxL_law_1496 : List UInt8 := 46 :: sxL_law_1497
noncomputable def sxL_law_1495 : List UInt8 := 96 :: sxL_law_1496
noncomputable def sxL_law_1494 : List UInt8 := 4 :: sxL_law_1495
noncomputable def sxL_law_1493 : List UInt8 := 29 :: sxL_law_1494
noncomputable def sxL_law_1492 : List UInt8 := 42 :: sxL_law_1493
noncomputable def sxL_law_1491 : List UInt8 := 44 :: sxL_law_1492
noncomputable def sxL_law_1490 : List UInt8 := 87 :: sxL_law_1491
noncomputable def sxL_law_1487 : List UInt8 := 182 :: 0 :: 165 :: sxL_law_1490
noncomputable def sxL_law_1486 : List UInt8 := 46 :: sxL_law_1487
noncomputable def sxL_law_1485 : List UInt8 := 96 :: sxL_law_1486
noncomputable def sxL_law_1484 : List UInt8 := 4 :: sxL_law_1485
noncomputable def sxL_law_1483 : List UInt8 := 29 :: sxL_law_1484
noncomputable def sxL_law_1482 : List UInt8 := 42 :: sxL_law_1483
noncomputable def sxL_law_1481 : List UInt8 := 43 :: sxL_law_1482
noncomputable def sxL_law_1478 : List UInt8 := 167 :: 3 :: 23 :: sxL_law_1481
noncomputable def sxL_law_1477 : List UInt8 := 87 :: sxL_law_1478
noncomputable def sxL_law_1474 : List UInt8 := 182 :: 0 :: 164 :: sxL_law_1477
noncomputable def sxL_law_1473 : List UInt8 := 46 :: sxL_law_1474
noncomputable def sxL_law_1472 : List UInt8 := 96 :: sxL_law_1473
noncomputable def sxL_law_1471 : List UInt8 := 5 :: sxL_law_1472
noncomputable def sxL_law_1470 : List UInt8 := 29 :: sxL_law_1471
noncomputable def sxL_law_1469 : List UInt8 := 42 :: sxL_law_1470
noncomputable def sxL_law_1468 : List UInt8 := 46 :: sxL_law_1469
noncomputable def sxL_law_1467 : List UInt8 := 96 :: sxL_law_1468
noncomputable def sxL_law_1466 : List UInt8 := 4 :: sxL_law_1467
noncomputable def sxL_law_1465 : List UInt8 := 29 :: sxL_law_1466
noncomputable def sxL_law_1464 : List UInt8 := 42 :: sxL_law_1465
noncomputable def sxL_law_1463 : List UInt8 := 44 :: sxL_law_1464
noncomputable def sxL_law_1462 : List UInt8 := 87 :: sxL_law_1463
noncomputable def sxL_law_1459 : List UInt8 := 182 :: 0 :: 161 :: sxL_law_1462
noncomputable def sxL_law_1458 : List UInt8 := 46 :: sxL_law_1459
noncomputable def sxL_law_1457 : List UInt8 := 96 :: sxL_law_1458
noncomputable def sxL_law_1456 : List UInt8 := 5 :: sxL_law_1457
noncomputable def sxL_law_1455 : List UInt8 := 29 :: sxL_law_1456
noncomputable def sxL_law_1454 : List UInt8 := 42 :: sxL_law_1455
noncomputable def sxL_law_1453 : List UInt8 := 46 :: sxL_law_1454
noncomputable def sxL_law_1452 : List UInt8 := 96 :: sxL_law_1453
noncomputable def sxL_law_1451 : List UInt8 := 4 :: sxL_law_1452
noncomputable def sxL_law_1450 : List UInt8 := 29 :: sxL_law_1451
noncomputable def sxL_law_1449 : List UInt8 := 42 :: sxL_law_1450
noncomputable def sxL_law_1448 : List UInt8 := 43 :: sxL_law_1449
noncomputable def sxL_law_1445 : List UInt8 := 167 :: 3 :: 56 :: sxL_law_1448
noncomputable def sxL_law_1444 : List UInt8 := 88 :: sxL_law_1445
noncomputable def sxL_law_1441 : List UInt8 := 182 :: 0 :: 160 :: sxL_law_1444
noncomputable def sxL_law_1440 : List UInt8 := 46 :: sxL_law_1441
noncomputable def sxL_law_1439 : List UInt8 := 96 :: sxL_law_1440
noncomputable def sxL_law_1438 : List UInt8 := 6 :: sxL_law_1439
noncomputable def sxL_law_1437 : List UInt8 := 29 :: sxL_law_1438
noncomputable def sxL_law_1436 : List UInt8 := 42 :: sxL_law_1437
noncomputable def sxL_law_1435 : List UInt8 := 46 :: sxL_law_1436
noncomputable def sxL_law_1434 : List UInt8 := 96 :: sxL_law_1435
noncomputable def sxL_law_1433 : List UInt8 := 5 :: sxL_law_1434
noncomputable def sxL_law_1432 : List UInt8 := 29 :: sxL_law_1433
noncomputable def sxL_law_1431 : List UInt8 := 42 :: sxL_law_1432
noncomputable def sxL_law_1430 : List UInt8 := 46 :: sxL_law_1431
noncomputable def sxL_law_1429 : List UInt8 := 96 :: sxL_law_1430
noncomputable def sxL_law_1428 : List UInt8 := 4 :: sxL_law_1429
noncomputable def sxL_law_1427 : List UInt8 := 29 :: sxL_law_1428
noncomputable def sxL_law_1426 : List UInt8 := 42 :: sxL_law_1427
noncomputable def sxL_law_1425 : List UInt8 := 44 :: sxL_law_1426
noncomputable def sxL_law_1424 : List UInt8 := 88 :: sxL_law_1425
noncomputable def sxL_law_1421 : List UInt8 := 182 :: 0 :: 156 :: sxL_law_1424
noncomputable def sxL_law_1420 : List UInt8 := 46 :: sxL_law_1421
noncomputable def sxL_law_1419 : List UInt8 := 96 :: sxL_law_1420
noncomputable def sxL_law_1418 : List UInt8 := 6 :: sxL_law_1419
noncomputable def sxL_law_1417 : List UInt8 := 29 :: sxL_law_1418
noncomputable def sxL_law_1416 : List UInt8 := 42 :: sxL_law_1417
noncomputable def sxL_law_1415 : List UInt8 := 46 :: sxL_law_1416
noncomputable def sxL_law_1414 : List UInt8 := 96 :: sxL_law_1415
noncomputable def sxL_law_1413 : List UInt8 := 5 :: sxL_law_1414
noncomputable def sxL_law_1412 : List UInt8 := 29 :: sxL_law_1413
noncomputable def sxL_law_1411 : List UInt8 := 42 :: sxL_law_1412
noncomputable def sxL_law_1410 : List UInt8 := 46 :: sxL_law_1411
noncomputable def sxL_law_1409 : List UInt8 := 96 :: sxL_law_1410
noncomputable def sxL_law_1408 : List UInt8 := 4 :: sxL_law_1409
noncomputable def sxL_law_1407 : List UInt8 := 29 :: sxL_law_1408
noncomputable def sxL_law_1406 : List UInt8 := 42 :: sxL_law_1407
noncomputable def sxL_law_1405 : List UInt8 := 43 :: sxL_law_1406
noncomputable def sxL_law_1402 : List UInt8 := 167 :: 3 :: 99 :: sxL_law_1405
noncomputable def sxL_law_1401 : List UInt8 := 88 :: sxL_law_1402
noncomputable def sxL_law_1398 : List UInt8 := 182 :: 0 :: 155 :: sxL_law_1401
noncomputable def sxL_law_1397 : List UInt8 := 46 :: sxL_law_1398
noncomputable def sxL_law_1396 : List UInt8 := 96 :: sxL_law_1397
noncomputable def sxL_law_1395 : List UInt8 := 5 :: sxL_law_1396
noncomputable def sxL_law_1394 : List UInt8 := 29 :: sxL_law_1395
noncomputable def sxL_law_1393 : List UInt8 := 42 :: sxL_law_1394
noncomputable def sxL_law_1392 : List UInt8 := 46 :: sxL_law_1393
noncomputable def sxL_law_1391 : List UInt8 := 96 :: sxL_law_1392
noncomputable def sxL_law_1390 : List UInt8 := 4 :: sxL_law_1391
noncomputable def sxL_law_1389 : List UInt8 := 29 :: sxL_law_1390
noncomputable def sxL_law_1388 : List UInt8 := 42 :: sxL_law_1389
noncomputable def sxL_law_1387 : List UInt8 := 44 :: sxL_law_1388
noncomputable def sxL_law_1386 : List UInt8 := 88 :: sxL_law_1387
noncomputable def sxL_law_1383 : List UInt8 := 182 :: 0 :: 152 :: sxL_law_1386
noncomputable def sxL_law_1382 : List UInt8 := 46 :: sxL_law_1383
noncomputable def sxL_law_1381 : List UInt8 := 96 :: sxL_law_1382
noncomputable def sxL_law_1380 : List UInt8 := 5 :: sxL_law_1381
noncomputable def sxL_law_1379 : List UInt8 := 29 :: sxL_law_1380
noncomputable def sxL_law_1378 : List UInt8 := 42 :: sxL_law_1379
noncomputable def sxL_law_1377 : List UInt8 := 46 :: sxL_law_1378
noncomputable def sxL_law_1376 : List UInt8 := 96 :: sxL_law_1377
noncomputable def sxL_law_1375 : List UInt8 := 4 :: sxL_law_1376
noncomputable def sxL_law_1374 : List UInt8 := 29 :: sxL_law_1375
noncomputable def sxL_law_1373 : List UInt8 := 42 :: sxL_law_1374
noncomputable def sxL_law_1372 : List UInt8 := 43 :: sxL_law_1373
noncomputable def sxL_law_1369 : List UInt8 := 167 :: 3 :: 132 :: sxL_law_1372
noncomputable def sxL_law_1368 : List UInt8 := 87 :: sxL_law_1369
noncomputable def sxL_law_1365 : List UInt8 := 182 :: 0 :: 151 :: sxL_law_1368
noncomputable def sxL_law_1364 : List UInt8 := 46 :: sxL_law_1365
noncomputable def sxL_law_1363 : List UInt8 := 96 :: sxL_law_1364
noncomputable def sxL_law_1362 : List UInt8 := 5 :: sxL_law_1363
noncomputable def sxL_law_1361 : List UInt8 := 29 :: sxL_law_1362
noncomputable def sxL_law_1360 : List UInt8 := 42 :: sxL_law_1361
noncomputable def sxL_law_1359 : List UInt8 := 46 :: sxL_law_1360
noncomputable def sxL_law_1358 : List UInt8 := 96 :: sxL_law_1359
noncomputable def sxL_law_1357 : List UInt8 := 4 :: sxL_law_1358
noncomputable def sxL_law_1356 : List UInt8 := 29 :: sxL_law_1357
noncomputable def sxL_law_1355 : List UInt8 := 42 :: sxL_law_1356
noncomputable def sxL_law_1354 : List UInt8 := 44 :: sxL_law_1355
noncomputable def sxL_law_1353 : List UInt8 := 87 :: sxL_law_1354
noncomputable def sxL_law_1350 : List UInt8 := 182 :: 0 :: 148 :: sxL_law_1353
noncomputable def sxL_law_1349 : List UInt8 := 46 :: sxL_law_1350
noncomputable def sxL_law_1348 : List UInt8 := 96 :: sxL_law_1349
noncomputable def sxL_law_1347 : List UInt8 := 5 :: sxL_law_1348
noncomputable def sxL_law_1346 : List UInt8 := 29 :: sxL_law_1347
noncomputable def sxL_law_1345 : List UInt8 := 42 :: sxL_law_1346
noncomputable def sxL_law_1344 : List UInt8 := 46 :: sxL_law_1345
noncomputable def sxL_law_1343 : List UInt8 := 96 :: sxL_law_1344
noncomputable def sxL_law_1342 : List UInt8 := 4 :: sxL_law_1343
noncomputable def sxL_law_1341 : List UInt8 := 29 :: sxL_law_1342
noncomputable def sxL_law_1340 : List UInt8 := 42 :: sxL_law_1341
noncomputable def sxL_law_1339 : List UInt8 := 43 :: sxL_law_1340
noncomputable def sxL_law_1338 : List UInt8 := 172 :: sxL_law_1339
noncomputable def sxL_law_1337 : List UInt8 := 3 :: sxL_law_1338
noncomputable def sxL_law_1334 : List UInt8 := 159 :: 3 :: 167 :: sxL_law_1337
noncomputable def sxL_law_1331 : List UInt8 := 182 :: 0 :: 147 :: sxL_law_1334
noncomputable def sxL_law_1330 : List UInt8 := 46 :: sxL_law_1331
noncomputable def sxL_law_1329 : List UInt8 := 96 :: sxL_law_1330
noncomputable def sxL_law_1328 : List UInt8 := 5 :: sxL_law_1329
noncomputable def sxL_law_1327 : List UInt8 := 29 :: sxL_law_1328
noncomputable def sxL_law_1326 : List UInt8 := 42 :: sxL_law_1327
noncomputable def sxL_law_1325 : List UInt8 := 46 :: sxL_law_1326
noncomputable def sxL_law_1324 : List UInt8 := 96 :: sxL_law_1325
noncomputable def sxL_law_1323 : List UInt8 := 4 :: sxL_law_1324
noncomputable def sxL_law_1322 : List UInt8 := 29 :: sxL_law_1323
noncomputable def sxL_law_1321 : List UInt8 := 42 :: sxL_law_1322
noncomputable def sxL_law_1320 : List UInt8 := 44 :: sxL_law_1321
noncomputable def sxL_law_1317 : List UInt8 := 182 :: 0 :: 144 :: sxL_law_1320
noncomputable def sxL_law_1316 : List UInt8 := 46 :: sxL_law_1317
noncomputable def sxL_law_1315 : List UInt8 := 96 :: sxL_law_1316
noncomputable def sxL_law_1314 : List UInt8 := 5 :: sxL_law_1315
noncomputable def sxL_law_1313 : List UInt8 := 29 :: sxL_law_1314
noncomputable def sxL_law_1312 : List UInt8 := 42 :: sxL_law_1313
noncomputable def sxL_law_1311 : List UInt8 := 46 :: sxL_law_1312
noncomputable def sxL_law_1310 : List UInt8 := 96 :: sxL_law_1311
noncomputable def sxL_law_1309 : List UInt8 := 4 :: sxL_law_1310
noncomputable def sxL_law_1308 : List UInt8 := 29 :: sxL_law_1309
noncomputable def sxL_law_1307 : List UInt8 := 42 :: sxL_law_1308
noncomputable def sxL_law_1306 : List UInt8 := 43 :: sxL_law_1307
noncomputable def sxL_law_1303 : List UInt8 := 167 :: 3 :: 198 :: sxL_law_1306
noncomputable def sxL_law_1302 : List UInt8 := 87 :: sxL_law_1303
noncomputable def sxL_law_1299 : List UInt8 := 182 :: 0 :: 143 :: sxL_law_1302
noncomputable def sxL_law_1298 : List UInt8 := 46 :: sxL_law_1299
noncomputable def sxL_law_1297 : List UInt8 := 96 :: sxL_law_1298
noncomputable def sxL_law_1296 : List UInt8 := 5 :: sxL_law_1297
noncomputable def sxL_law_1295 : List UInt8 := 29 :: sxL_law_1296
noncomputable def sxL_law_1294 : List UInt8 := 42 :: sxL_law_1295
noncomputable def sxL_law_1293 : List UInt8 := 46 :: sxL_law_1294
noncomputable def sxL_law_1292 : List UInt8 := 96 :: sxL_law_1293
noncomputable def sxL_law_1291 : List UInt8 := 4 :: sxL_law_1292
noncomputable def sxL_law_1290 : List UInt8 := 29 :: sxL_law_1291
noncomputable def sxL_law_1289 : List UInt8 := 42 :: sxL_law_1290
noncomputable def sxL_law_1288 : List UInt8 := 44 :: sxL_law_1289
noncomputable def sxL_law_1287 : List UInt8 := 87 :: sxL_law_1288
noncomputable def sxL_law_1284 : List UInt8 := 182 :: 0 :: 140 :: sxL_law_1287
noncomputable def sxL_law_1283 : List UInt8 := 46 :: sxL_law_1284
noncomputable def sxL_law_1282 : List UInt8 := 96 :: sxL_law_1283
noncomputable def sxL_law_1281 : List UInt8 := 5 :: sxL_law_1282
noncomputable def sxL_law_1280 : List UInt8 := 29 :: sxL_law_1281
noncomputable def sxL_law_1279 : List UInt8 := 42 :: sxL_law_1280
noncomputable def sxL_law_1278 : List UInt8 := 46 :: sxL_law_1279
noncomputable def sxL_law_1277 : List UInt8 := 96 :: sxL_law_1278
noncomputable def sxL_law_1276 : List UInt8 := 4 :: sxL_law_1277
noncomputable def sxL_law_1275 : List UInt8 := 29 :: sxL_law_1276
noncomputable def sxL_law_1274 : List UInt8 := 42 :: sxL_law_1275
noncomputable def sxL_law_1273 : List UInt8 := 43 :: sxL_law_1274
noncomputable def sxL_law_1270 : List UInt8 := 167 :: 3 :: 231 :: sxL_law_1273
noncomputable def sxL_law_1269 : List UInt8 := 87 :: sxL_law_1270
noncomputable def sxL_law_1266 : List UInt8 := 182 :: 0 :: 139 :: sxL_law_1269
noncomputable def sxL_law_1265 : List UInt8 := 46 :: sxL_law_1266
noncomputable def sxL_law_1264 : List UInt8 := 96 :: sxL_law_1265
noncomputable def sxL_law_1263 : List UInt8 := 5 :: sxL_law_1264
noncomputable def sxL_law_1262 : List UInt8 := 29 :: sxL_law_1263
noncomputable def sxL_law_1261 : List UInt8 := 42 :: sxL_law_1262
noncomputable def sxL_law_1260 : List UInt8 := 46 :: sxL_law_1261
noncomputable def sxL_law_1259 : List UInt8 := 96 :: sxL_law_1260
noncomputable def sxL_law_1258 : List UInt8 := 4 :: sxL_law_1259
noncomputable def sxL_law_1257 : List UInt8 := 29 :: sxL_law_1258
noncomputable def sxL_law_1256 : List UInt8 := 42 :: sxL_law_1257
noncomputable def sxL_law_1255 : List UInt8 := 44 :: sxL_law_1256
noncomputable def sxL_law_1254 : List UInt8 := 87 :: sxL_law_1255
noncomputable def sxL_law_1251 : List UInt8 := 182 :: 0 :: 136 :: sxL_law_1254
noncomputable def sxL_law_1250 : List UInt8 := 46 :: sxL_law_1251
noncomputable def sxL_law_1249 : List UInt8 := 96 :: sxL_law_1250
noncomputable def sxL_law_1248 : List UInt8 := 5 :: sxL_law_1249
noncomputable def sxL_law_1247 : List UInt8 := 29 :: sxL_law_1248
noncomputable def sxL_law_1246 : List UInt8 := 42 :: sxL_law_1247
noncomputable def sxL_law_1245 : List UInt8 := 46 :: sxL_law_1246
noncomputable def sxL_law_1244 : List UInt8 := 96 :: sxL_law_1245
noncomputable def sxL_law_1243 : List UInt8 := 4 :: sxL_law_1244
noncomputable def sxL_law_1242 : List UInt8 := 29 :: sxL_law_1243
noncomputable def sxL_law_1241 : List UInt8 := 42 :: sxL_law_1242
noncomputable def sxL_law_1240 : List UInt8 := 43 :: sxL_law_1241
noncomputable def sxL_law_1237 : List UInt8 := 167 :: 4 :: 8 :: sxL_law_1240
noncomputable def sxL_law_1236 : List UInt8 := 87 :: sxL_law_1237
noncomputable def sxL_law_1233 : List UInt8 := 182 :: 0 :: 135 :: sxL_law_1236
noncomputable def sxL_law_1232 : List UInt8 := 46 :: sxL_law_1233
noncomputable def sxL_law_1231 : List UInt8 := 96 :: sxL_law_1232
noncomputable def sxL_law_1230 : List UInt8 := 5 :: sxL_law_1231
noncomputable def sxL_law_1229 : List UInt8 := 29 :: sxL_law_1230
noncomputable def sxL_law_1228 : List UInt8 := 42 :: sxL_law_1229
noncomputable def sxL_law_1227 : List UInt8 := 46 :: sxL_law_1228
noncomputable def sxL_law_1226 : List UInt8 := 96 :: sxL_law_1227
noncomputable def sxL_law_1225 : List UInt8 := 4 :: sxL_law_1226
noncomputable def sxL_law_1224 : List UInt8 := 29 :: sxL_law_1225
noncomputable def sxL_law_1223 : List UInt8 := 42 :: sxL_law_1224
noncomputable def sxL_law_1222 : List UInt8 := 44 :: sxL_law_1223
noncomputable def sxL_law_1221 : List UInt8 := 87 :: sxL_law_1222
noncomputable def sxL_law_1218 : List UInt8 := 182 :: 0 :: 132 :: sxL_law_1221
noncomputable def sxL_law_1217 : List UInt8 := 46 :: sxL_law_1218
noncomputable def sxL_law_1216 : List UInt8 := 96 :: sxL_law_1217
noncomputable def sxL_law_1215 : List UInt8 := 5 :: sxL_law_1216
noncomputable def sxL_law_1214 : List UInt8 := 29 :: sxL_law_1215
noncomputable def sxL_law_1213 : List UInt8 := 42 :: sxL_law_1214
noncomputable def sxL_law_1212 : List UInt8 := 46 :: sxL_law_1213
noncomputable def sxL_law_1211 : List UInt8 := 96 :: sxL_law_1212
noncomputable def sxL_law_1210 : List UInt8 := 4 :: sxL_law_1211
noncomputable def sxL_law_1209 : List UInt8 := 29 :: sxL_law_1210
noncomputable def sxL_law_1208 : List UInt8 := 42 :: sxL_law_1209
noncomputable def sxL_law_1207 : List UInt8 := 43 :: sxL_law_1208
noncomputable def sxL_law_1204 : List UInt8 := 167 :: 4 :: 41 :: sxL_law_1207
noncomputable def sxL_law_1203 : List UInt8 := 87 :: sxL_law_1204
noncomputable def sxL_law_1200 : List UInt8 := 182 :: 0 :: 131 :: sxL_law_1203
noncomputable def sxL_law_1199 : List UInt8 := 46 :: sxL_law_1200
noncomputable def sxL_law_1198 : List UInt8 := 96 :: sxL_law_1199
noncomputable def sxL_law_1197 : List UInt8 := 4 :: sxL_law_1198
noncomputable def sxL_law_1196 : List UInt8 := 29 :: sxL_law_1197
noncomputable def sxL_law_1195 : List UInt8 := 42 :: sxL_law_1196
noncomputable def sxL_law_1194 : List UInt8 := 44 :: sxL_law_1195
noncomputable def sxL_law_1193 : List UInt8 := 87 :: sxL_law_1194
noncomputable def sxL_law_1190 : List UInt8 := 182 :: 0 :: 128 :: sxL_law_1193
noncomputable def sxL_law_1189 : List UInt8 := 46 :: sxL_law_1190
noncomputable def sxL_law_1188 : List UInt8 := 96 :: sxL_law_1189
noncomputable def sxL_law_1187 : List UInt8 := 4 :: sxL_law_1188
noncomputable def sxL_law_1186 : List UInt8 := 29 :: sxL_law_1187
noncomputable def sxL_law_1185 : List UInt8 := 42 :: sxL_law_1186
noncomputable def sxL_law_1184 : List UInt8 := 43 :: sxL_law_1185
noncomputable def sxL_law_1181 : List UInt8 := 167 :: 4 :: 64 :: sxL_law_1184
noncomputable def sxL_law_1180 : List UInt8 := 87 :: sxL_law_1181
noncomputable def sxL_law_1177 : List UInt8 := 182 :: 0 :: 127 :: sxL_law_1180
noncomputable def sxL_law_1176 : List UInt8 := 46 :: sxL_law_1177
noncomputable def sxL_law_1175 : List UInt8 := 96 :: sxL_law_1176
noncomputable def sxL_law_1174 : List UInt8 := 5 :: sxL_law_1175
noncomputable def sxL_law_1173 : List UInt8 := 29 :: sxL_law_1174
noncomputable def sxL_law_1172 : List UInt8 := 42 :: sxL_law_1173
noncomputable def sxL_law_1171 : List UInt8 := 46 :: sxL_law_1172
noncomputable def sxL_law_1170 : List UInt8 := 96 :: sxL_law_1171
noncomputable def sxL_law_1169 : List UInt8 := 4 :: sxL_law_1170
noncomputable def sxL_law_1168 : List UInt8 := 29 :: sxL_law_1169
noncomputable def sxL_law_1167 : List UInt8 := 42 :: sxL_law_1168
noncomputable def sxL_law_1166 : List UInt8 := 44 :: sxL_law_1167
noncomputable def sxL_law_1165 : List UInt8 := 87 :: sxL_law_1166
noncomputable def sxL_law_1162 : List UInt8 := 182 :: 0 :: 124 :: sxL_law_1165
noncomputable def sxL_law_1161 : List UInt8 := 46 :: sxL_law_1162
noncomputable def sxL_law_1160 : List UInt8 := 96 :: sxL_law_1161
noncomputable def sxL_law_1159 : List UInt8 := 5 :: sxL_law_1160
noncomputable def sxL_law_1158 : List UInt8 := 29 :: sxL_law_1159
noncomputable def sxL_law_1157 : List UInt8 := 42 :: sxL_law_1158
noncomputable def sxL_law_1156 : List UInt8 := 46 :: sxL_law_1157
noncomputable def sxL_law_1155 : List UInt8 := 96 :: sxL_law_1156
noncomputable def sxL_law_1154 : List UInt8 := 4 :: sxL_law_1155
noncomputable def sxL_law_1153 : List UInt8 := 29 :: sxL_law_1154
noncomputable def sxL_law_1152 : List UInt8 := 42 :: sxL_law_1153
noncomputable def sxL_law_1151 : List UInt8 := 43 :: sxL_law_1152
noncomputable def sxL_law_1148 : List UInt8 := 167 :: 4 :: 97 :: sxL_law_1151
noncomputable def sxL_law_1147 : List UInt8 := 87 :: sxL_law_1148
noncomputable def sxL_law_1144 : List UInt8 := 182 :: 0 :: 123 :: sxL_law_1147
noncomputable def sxL_law_1143 : List UInt8 := 46 :: sxL_law_1144
noncomputable def sxL_law_1142 : List UInt8 := 96 :: sxL_law_1143
noncomputable def sxL_law_1141 : List UInt8 := 5 :: sxL_law_1142
noncomputable def sxL_law_1140 : List UInt8 := 29 :: sxL_law_1141
noncomputable def sxL_law_1139 : List UInt8 := 42 :: sxL_law_1140
noncomputable def sxL_law_1138 : List UInt8 := 46 :: sxL_law_1139
noncomputable def sxL_law_1137 : List UInt8 := 96 :: sxL_law_1138
noncomputable def sxL_law_1136 : List UInt8 := 4 :: sxL_law_1137
noncomputable def sxL_law_1135 : List UInt8 := 29 :: sxL_law_1136
noncomputable def sxL_law_1134 : List UInt8 := 42 :: sxL_law_1135
noncomputable def sxL_law_1133 : List UInt8 := 44 :: sxL_law_1134
noncomputable def sxL_law_1132 : List UInt8 := 87 :: sxL_law_1133
noncomputable def sxL_law_1129 : List UInt8 := 182 :: 0 :: 120 :: sxL_law_1132
noncomputable def sxL_law_1128 : List UInt8 := 46 :: sxL_law_1129
noncomputable def sxL_law_1127 : List UInt8 := 96 :: sxL_law_1128
noncomputable def sxL_law_1126 : List UInt8 := 5 :: sxL_law_1127
noncomputable def sxL_law_1125 : List UInt8 := 29 :: sxL_law_1126
noncomputable def sxL_law_1124 : List UInt8 := 42 :: sxL_law_1125
noncomputable def sxL_law_1123 : List UInt8 := 46 :: sxL_law_1124
noncomputable def sxL_law_1122 : List UInt8 := 96 :: sxL_law_1123
noncomputable def sxL_law_1121 : List UInt8 := 4 :: sxL_law_1122
noncomputable def sxL_law_1120 : List UInt8 := 29 :: sxL_law_1121
noncomputable def sxL_law_1119 : List UInt8 := 42 :: sxL_law_1120
noncomputable def sxL_law_1118 : List UInt8 := 43 :: sxL_law_1119
noncomputable def sxL_law_1115 : List UInt8 := 167 :: 4 :: 130 :: sxL_law_1118
noncomputable def sxL_law_1114 : List UInt8 := 87 :: sxL_law_1115
noncomputable def sxL_law_1111 : List UInt8 := 182 :: 0 :: 119 :: sxL_law_1114
noncomputable def sxL_law_1110 : List UInt8 := 46 :: sxL_law_1111
noncomputable def sxL_law_1109 : List UInt8 := 96 :: sxL_law_1110
noncomputable def sxL_law_1108 : List UInt8 := 5 :: sxL_law_1109
noncomputable def sxL_law_1107 : List UInt8 := 29 :: sxL_law_1108
noncomputable def sxL_law_1106 : List UInt8 := 42 :: sxL_law_1107
noncomputable def sxL_law_1105 : List UInt8 := 46 :: sxL_law_1106
noncomputable def sxL_law_1104 : List UInt8 := 96 :: sxL_law_1105
noncomputable def sxL_law_1103 : List UInt8 := 4 :: sxL_law_1104
noncomputable def sxL_law_1102 : List UInt8 := 29 :: sxL_law_1103
noncomputable def sxL_law_1101 : List UInt8 := 42 :: sxL_law_1102
noncomputable def sxL_law_1100 : List UInt8 := 44 :: sxL_law_1101
noncomputable def sxL_law_1099 : List UInt8 := 87 :: sxL_law_1100
noncomputable def sxL_law_1096 : List UInt8 := 182 :: 0 :: 116 :: sxL_law_1099
noncomputable def sxL_law_1095 : List UInt8 := 46 :: sxL_law_1096
noncomputable def sxL_law_1094 : List UInt8 := 96 :: sxL_law_1095
noncomputable def sxL_law_1093 : List UInt8 := 5 :: sxL_law_1094
noncomputable def sxL_law_1092 : List UInt8 := 29 :: sxL_law_1093
noncomputable def sxL_law_1091 : List UInt8 := 42 :: sxL_law_1092
noncomputable def sxL_law_1090 : List UInt8 := 46 :: sxL_law_1091
noncomputable def sxL_law_1089 : List UInt8 := 96 :: sxL_law_1090
noncomputable def sxL_law_1088 : List UInt8 := 4 :: sxL_law_1089
noncomputable def sxL_law_1087 : List UInt8 := 29 :: sxL_law_1088
noncomputable def sxL_law_1086 : List UInt8 := 42 :: sxL_law_1087
noncomputable def sxL_law_1085 : List UInt8 := 43 :: sxL_law_1086
noncomputable def sxL_law_1082 : List UInt8 := 167 :: 4 :: 163 :: sxL_law_1085
noncomputable def sxL_law_1081 : List UInt8 := 87 :: sxL_law_1082
noncomputable def sxL_law_1078 : List UInt8 := 182 :: 0 :: 115 :: sxL_law_1081
noncomputable def sxL_law_1077 : List UInt8 := 46 :: sxL_law_1078
noncomputable def sxL_law_1076 : List UInt8 := 96 :: sxL_law_1077
noncomputable def sxL_law_1075 : List UInt8 := 5 :: sxL_law_1076
noncomputable def sxL_law_1074 : List UInt8 := 29 :: sxL_law_1075
noncomputable def sxL_law_1073 : List UInt8 := 42 :: sxL_law_1074
noncomputable def sxL_law_1072 : List UInt8 := 46 :: sxL_law_1073
noncomputable def sxL_law_1071 : List UInt8 := 96 :: sxL_law_1072
noncomputable def sxL_law_1070 : List UInt8 := 4 :: sxL_law_1071
noncomputable def sxL_law_1069 : List UInt8 := 29 :: sxL_law_1070
noncomputable def sxL_law_1068 : List UInt8 := 42 :: sxL_law_1069
noncomputable def sxL_law_1067 : List UInt8 := 44 :: sxL_law_1068
noncomputable def sxL_law_1066 : List UInt8 := 87 :: sxL_law_1067
noncomputable def sxL_law_1063 : List UInt8 := 182 :: 0 :: 112 :: sxL_law_1066
noncomputable def sxL_law_1062 : List UInt8 := 46 :: sxL_law_1063
noncomputable def sxL_law_1061 : List UInt8 := 96 :: sxL_law_1062
noncomputable def sxL_law_1060 : List UInt8 := 5 :: sxL_law_1061
noncomputable def sxL_law_1059 : List UInt8 := 29 :: sxL_law_1060
noncomputable def sxL_law_1058 : List UInt8 := 42 :: sxL_law_1059
noncomputable def sxL_law_1057 : List UInt8 := 46 :: sxL_law_1058
noncomputable def sxL_law_1056 : List UInt8 := 96 :: sxL_law_1057
noncomputable def sxL_law_1055 : List UInt8 := 4 :: sxL_law_1056
noncomputable def sxL_law_1054 : List UInt8 := 29 :: sxL_law_1055
noncomputable def sxL_law_1053 : List UInt8 := 42 :: sxL_law_1054
noncomputable def sxL_law_1052 : List UInt8 := 43 :: sxL_law_1053
noncomputable def sxL_law_1049 : List UInt8 := 167 :: 4 :: 196 :: sxL_law_1052
noncomputable def sxL_law_1048 : List UInt8 := 87 :: sxL_law_1049
noncomputable def sxL_law_1045 : List UInt8 := 182 :: 0 :: 111 :: sxL_law_1048
noncomputable def sxL_law_1044 : List UInt8 := 46 :: sxL_law_1045
noncomputable def sxL_law_1043 : List UInt8 := 96 :: sxL_law_1044
noncomputable def sxL_law_1042 : List UInt8 := 5 :: sxL_law_1043
noncomputable def sxL_law_1041 : List UInt8 := 29 :: sxL_law_1042
noncomputable def sxL_law_1040 : List UInt8 := 42 :: sxL_law_1041
noncomputable def sxL_law_1039 : List UInt8 := 46 :: sxL_law_1040
noncomputable def sxL_law_1038 : List UInt8 := 96 :: sxL_law_1039
noncomputable def sxL_law_1037 : List UInt8 := 4 :: sxL_law_1038
noncomputable def sxL_law_1036 : List UInt8 := 29 :: sxL_law_1037
noncomputable def sxL_law_1035 : List UInt8 := 42 :: sxL_law_1036
noncomputable def sxL_law_1034 : List UInt8 := 44 :: sxL_law_1035
noncomputable def sxL_law_1033 : List UInt8 := 87 :: sxL_law_1034
noncomputable def sxL_law_1030 : List UInt8 := 182 :: 0 :: 108 :: sxL_law_1033
noncomputable def sxL_law_1029 : List UInt8 := 46 :: sxL_law_1030
noncomputable def sxL_law_1028 : List UInt8 := 96 :: sxL_law_1029
noncomputable def sxL_law_1027 : List UInt8 := 5 :: sxL_law_1028
noncomputable def sxL_law_1026 : List UInt8 := 29 :: sxL_law_1027
noncomputable def sxL_law_1025 : List UInt8 := 42 :: sxL_law_1026
noncomputable def sxL_law_1024 : List UInt8 := 46 :: sxL_law_1025
noncomputable def sxL_law_1023 : List UInt8 := 96 :: sxL_law_1024
noncomputable def sxL_law_1022 : List UInt8 := 4 :: sxL_law_1023
noncomputable def sxL_law_1021 : List UInt8 := 29 :: sxL_law_1022
noncomputable def sxL_law_1020 : List UInt8 := 42 :: sxL_law_1021
noncomputable def sxL_law_1019 : List UInt8 := 43 :: sxL_law_1020
noncomputable def sxL_law_1016 : List UInt8 := 167 :: 4 :: 229 :: sxL_law_1019
noncomputable def sxL_law_1015 : List UInt8 := 87 :: sxL_law_1016
noncomputable def sxL_law_1012 : List UInt8 := 182 :: 0 :: 107 :: sxL_law_1015
noncomputable def sxL_law_1011 : List UInt8 := 46 :: sxL_law_1012
noncomputable def sxL_law_1010 : List UInt8 := 96 :: sxL_law_1011
noncomputable def sxL_law_1009 : List UInt8 := 6 :: sxL_law_1010
noncomputable def sxL_law_1008 : List UInt8 := 29 :: sxL_law_1009
noncomputable def sxL_law_1007 : List UInt8 := 42 :: sxL_law_1008
noncomputable def sxL_law_1006 : List UInt8 := 46 :: sxL_law_1007
noncomputable def sxL_law_1005 : List UInt8 := 96 :: sxL_law_1006
noncomputable def sxL_law_1004 : List UInt8 := 5 :: sxL_law_1005
noncomputable def sxL_law_1003 : List UInt8 := 29 :: sxL_law_1004
noncomputable def sxL_law_1002 : List UInt8 := 42 :: sxL_law_1003
noncomputable def sxL_law_1001 : List UInt8 := 46 :: sxL_law_1002
noncomputable def sxL_law_1000 : List UInt8 := 96 :: sxL_law_1001
noncomputable def sxL_law_999 : List UInt8 := 4 :: sxL_law_1000
noncomputable def sxL_law_998 : List UInt8 := 29 :: sxL_law_999
noncomputable def sxL_law_997 : List UInt8 := 42 :: sxL_law_998
noncomputable def sxL_law_996 : List UInt8 := 44 :: sxL_law_997
noncomputable def sxL_law_995 : List UInt8 := 87 :: sxL_law_996
noncomputable def sxL_law_992 : List UInt8 := 182 :: 0 :: 103 :: sxL_law_995
noncomputable def sxL_law_991 : List UInt8 := 46 :: sxL_law_992
noncomputable def sxL_law_990 : List UInt8 := 96 :: sxL_law_991
noncomputable def sxL_law_989 : List UInt8 := 6 :: sxL_law_990
noncomputable def sxL_law_988 : List UInt8 := 29 :: sxL_law_989
noncomputable def sxL_law_987 : List UInt8 := 42 :: sxL_law_988
noncomputable def sxL_law_986 : List UInt8 := 46 :: sxL_law_987
noncomputable def sxL_law_985 : List UInt8 := 96 :: sxL_law_986
noncomputable def sxL_law_984 : List UInt8 := 5 :: sxL_law_985
noncomputable def sxL_law_983 : List UInt8 := 29 :: sxL_law_984
noncomputable def sxL_law_982 : List UInt8 := 42 :: sxL_law_983
noncomputable def sxL_law_981 : List UInt8 := 46 :: sxL_law_982
noncomputable def sxL_law_980 : List UInt8 := 96 :: sxL_law_981
noncomputable def sxL_law_979 : List UInt8 := 4 :: sxL_law_980
noncomputable def sxL_law_978 : List UInt8 := 29 :: sxL_law_979
noncomputable def sxL_law_977 : List UInt8 := 42 :: sxL_law_978
noncomputable def sxL_law_976 : List UInt8 := 43 :: sxL_law_977
noncomputable def sxL_law_973 : List UInt8 := 167 :: 5 :: 16 :: sxL_law_976
noncomputable def sxL_law_972 : List UInt8 := 87 :: sxL_law_973
noncomputable def sxL_law_969 : List UInt8 := 182 :: 0 :: 102 :: sxL_law_972
noncomputable def sxL_law_968 : List UInt8 := 46 :: sxL_law_969
noncomputable def sxL_law_967 : List UInt8 := 96 :: sxL_law_968
noncomputable def sxL_law_966 : List UInt8 := 5 :: sxL_law_967
noncomputable def sxL_law_965 : List UInt8 := 29 :: sxL_law_966
noncomputable def sxL_law_964 : List UInt8 := 42 :: sxL_law_965
noncomputable def sxL_law_963 : List UInt8 := 46 :: sxL_law_964
noncomputable def sxL_law_962 : List UInt8 := 96 :: sxL_law_963
noncomputable def sxL_law_961 : List UInt8 := 4 :: sxL_law_962
noncomputable def sxL_law_960 : List UInt8 := 29 :: sxL_law_961
noncomputable def sxL_law_959 : List UInt8 := 42 :: sxL_law_960
noncomputable def sxL_law_958 : List UInt8 := 44 :: sxL_law_959
noncomputable def sxL_law_957 : List UInt8 := 87 :: sxL_law_958
noncomputable def sxL_law_954 : List UInt8 := 182 :: 0 :: 99 :: sxL_law_957
noncomputable def sxL_law_953 : List UInt8 := 46 :: sxL_law_954
noncomputable def sxL_law_952 : List UInt8 := 96 :: sxL_law_953
noncomputable def sxL_law_951 : List UInt8 := 5 :: sxL_law_952
noncomputable def sxL_law_950 : List UInt8 := 29 :: sxL_law_951
noncomputable def sxL_law_949 : List UInt8 := 42 :: sxL_law_950
noncomputable def sxL_law_948 : List UInt8 := 46 :: sxL_law_949
noncomputable def sxL_law_947 : List UInt8 := 96 :: sxL_law_948
noncomputable def sxL_law_946 : List UInt8 := 4 :: sxL_law_947
noncomputable def sxL_law_945 : List UInt8 := 29 :: sxL_law_946
noncomputable def sxL_law_944 : List UInt8 := 42 :: sxL_law_945
noncomputable def sxL_law_943 : List UInt8 := 43 :: sxL_law_944
noncomputable def sxL_law_940 : List UInt8 := 167 :: 5 :: 49 :: sxL_law_943
noncomputable def sxL_law_939 : List UInt8 := 87 :: sxL_law_940
noncomputable def sxL_law_936 : List UInt8 := 182 :: 0 :: 98 :: sxL_law_939
noncomputable def sxL_law_935 : List UInt8 := 46 :: sxL_law_936
noncomputable def sxL_law_934 : List UInt8 := 96 :: sxL_law_935
noncomputable def sxL_law_933 : List UInt8 := 4 :: sxL_law_934
noncomputable def sxL_law_932 : List UInt8 := 29 :: sxL_law_933
noncomputable def sxL_law_931 : List UInt8 := 42 :: sxL_law_932
noncomputable def sxL_law_930 : List UInt8 := 44 :: sxL_law_931
noncomputable def sxL_law_929 : List UInt8 := 87 :: sxL_law_930
noncomputable def sxL_law_926 : List UInt8 := 182 :: 0 :: 95 :: sxL_law_929
noncomputable def sxL_law_925 : List UInt8 := 46 :: sxL_law_926
noncomputable def sxL_law_924 : List UInt8 := 96 :: sxL_law_925
noncomputable def sxL_law_923 : List UInt8 := 4 :: sxL_law_924
noncomputable def sxL_law_922 : List UInt8 := 29 :: sxL_law_923
noncomputable def sxL_law_921 : List UInt8 := 42 :: sxL_law_922
noncomputable def sxL_law_920 : List UInt8 := 43 :: sxL_law_921
noncomputable def sxL_law_917 : List UInt8 := 167 :: 5 :: 72 :: sxL_law_920
noncomputable def sxL_law_916 : List UInt8 := 87 :: sxL_law_917
noncomputable def sxL_law_913 : List UInt8 := 182 :: 0 :: 94 :: sxL_law_916
noncomputable def sxL_law_912 : List UInt8 := 46 :: sxL_law_913
noncomputable def sxL_law_911 : List UInt8 := 96 :: sxL_law_912
noncomputable def sxL_law_910 : List UInt8 := 7 :: sxL_law_911
noncomputable def sxL_law_909 : List UInt8 := 29 :: sxL_law_910
noncomputable def sxL_law_908 : List UInt8 := 42 :: sxL_law_909
noncomputable def sxL_law_907 : List UInt8 := 46 :: sxL_law_908
noncomputable def sxL_law_906 : List UInt8 := 96 :: sxL_law_907
noncomputable def sxL_law_905 : List UInt8 := 6 :: sxL_law_906
noncomputable def sxL_law_904 : List UInt8 := 29 :: sxL_law_905
noncomputable def sxL_law_903 : List UInt8 := 42 :: sxL_law_904
noncomputable def sxL_law_902 : List UInt8 := 46 :: sxL_law_903
noncomputable def sxL_law_901 : List UInt8 := 96 :: sxL_law_902
noncomputable def sxL_law_900 : List UInt8 := 5 :: sxL_law_901
noncomputable def sxL_law_899 : List UInt8 := 29 :: sxL_law_900
noncomputable def sxL_law_898 : List UInt8 := 42 :: sxL_law_899
noncomputable def sxL_law_897 : List UInt8 := 46 :: sxL_law_898
noncomputable def sxL_law_896 : List UInt8 := 96 :: sxL_law_897
noncomputable def sxL_law_895 : List UInt8 := 4 :: sxL_law_896
noncomputable def sxL_law_894 : List UInt8 := 29 :: sxL_law_895
noncomputable def sxL_law_893 : List UInt8 := 42 :: sxL_law_894
noncomputable def sxL_law_892 : List UInt8 := 44 :: sxL_law_893
noncomputable def sxL_law_891 : List UInt8 := 87 :: sxL_law_892
noncomputable def sxL_law_888 : List UInt8 := 182 :: 0 :: 91 :: sxL_law_891
noncomputable def sxL_law_887 : List UInt8 := 46 :: sxL_law_888
noncomputable def sxL_law_886 : List UInt8 := 96 :: sxL_law_887
noncomputable def sxL_law_885 : List UInt8 := 7 :: sxL_law_886
noncomputable def sxL_law_884 : List UInt8 := 29 :: sxL_law_885
noncomputable def sxL_law_883 : List UInt8 := 42 :: sxL_law_884
noncomputable def sxL_law_882 : List UInt8 := 46 :: sxL_law_883
noncomputable def sxL_law_881 : List UInt8 := 96 :: sxL_law_882
noncomputable def sxL_law_880 : List UInt8 := 6 :: sxL_law_881
noncomputable def sxL_law_879 : List UInt8 := 29 :: sxL_law_880
noncomputable def sxL_law_878 : List UInt8 := 42 :: sxL_law_879
noncomputable def sxL_law_877 : List UInt8 := 46 :: sxL_law_878
noncomputable def sxL_law_876 : List UInt8 := 96 :: sxL_law_877
noncomputable def sxL_law_875 : List UInt8 := 5 :: sxL_law_876
noncomputable def sxL_law_874 : List UInt8 := 29 :: sxL_law_875
noncomputable def sxL_law_873 : List UInt8 := 42 :: sxL_law_874
noncomputable def sxL_law_872 : List UInt8 := 46 :: sxL_law_873
noncomputable def sxL_law_871 : List UInt8 := 96 :: sxL_law_872
noncomputable def sxL_law_870 : List UInt8 := 4 :: sxL_law_871
noncomputable def sxL_law_869 : List UInt8 := 29 :: sxL_law_870
noncomputable def sxL_law_868 : List UInt8 := 42 :: sxL_law_869
noncomputable def sxL_law_867 : List UInt8 := 43 :: sxL_law_868
noncomputable def sxL_law_864 : List UInt8 := 167 :: 5 :: 125 :: sxL_law_867
noncomputable def sxL_law_863 : List UInt8 := 87 :: sxL_law_864
noncomputable def sxL_law_860 : List UInt8 := 182 :: 0 :: 90 :: sxL_law_863
noncomputable def sxL_law_859 : List UInt8 := 44 :: sxL_law_860
noncomputable def sxL_law_858 : List UInt8 := 87 :: sxL_law_859
noncomputable def sxL_law_855 : List UInt8 := 182 :: 0 :: 86 :: sxL_law_858
noncomputable def sxL_law_854 : List UInt8 := 43 :: sxL_law_855
noncomputable def sxL_law_851 : List UInt8 := 167 :: 5 :: 138 :: sxL_law_854
noncomputable def sxL_law_850 : List UInt8 := 87 :: sxL_law_851
noncomputable def sxL_law_847 : List UInt8 := 182 :: 0 :: 85 :: sxL_law_850
noncomputable def sxL_law_846 : List UInt8 := 46 :: sxL_law_847
noncomputable def sxL_law_845 : List UInt8 := 96 :: sxL_law_846
noncomputable def sxL_law_844 : List UInt8 := 5 :: sxL_law_845
noncomputable def sxL_law_843 : List UInt8 := 29 :: sxL_law_844
noncomputable def sxL_law_842 : List UInt8 := 42 :: sxL_law_843
noncomputable def sxL_law_841 : List UInt8 := 46 :: sxL_law_842
noncomputable def sxL_law_840 : List UInt8 := 96 :: sxL_law_841
noncomputable def sxL_law_839 : List UInt8 := 4 :: sxL_law_840
noncomputable def sxL_law_838 : List UInt8 := 29 :: sxL_law_839
noncomputable def sxL_law_837 : List UInt8 := 42 :: sxL_law_838
noncomputable def sxL_law_836 : List UInt8 := 44 :: sxL_law_837
noncomputable def sxL_law_835 : List UInt8 := 87 :: sxL_law_836
noncomputable def sxL_law_832 : List UInt8 := 182 :: 0 :: 82 :: sxL_law_835
noncomputable def sxL_law_831 : List UInt8 := 46 :: sxL_law_832
noncomputable def sxL_law_830 : List UInt8 := 96 :: sxL_law_831
noncomputable def sxL_law_829 : List UInt8 := 5 :: sxL_law_830
noncomputable def sxL_law_828 : List UInt8 := 29 :: sxL_law_829
noncomputable def sxL_law_827 : List UInt8 := 42 :: sxL_law_828
noncomputable def sxL_law_826 : List UInt8 := 46 :: sxL_law_827
noncomputable def sxL_law_825 : List UInt8 := 96 :: sxL_law_826
noncomputable def sxL_law_824 : List UInt8 := 4 :: sxL_law_825
noncomputable def sxL_law_823 : List UInt8 := 29 :: sxL_law_824
noncomputable def sxL_law_822 : List UInt8 := 42 :: sxL_law_823
noncomputable def sxL_law_821 : List UInt8 := 43 :: sxL_law_822
noncomputable def sxL_law_818 : List UInt8 := 167 :: 5 :: 171 :: sxL_law_821
noncomputable def sxL_law_817 : List UInt8 := 87 :: sxL_law_818
noncomputable def sxL_law_814 : List UInt8 := 182 :: 0 :: 81 :: sxL_law_817
noncomputable def sxL_law_813 : List UInt8 := 46 :: sxL_law_814
noncomputable def sxL_law_812 : List UInt8 := 96 :: sxL_law_813
noncomputable def sxL_law_811 : List UInt8 := 4 :: sxL_law_812
noncomputable def sxL_law_810 : List UInt8 := 29 :: sxL_law_811
noncomputable def sxL_law_809 : List UInt8 := 42 :: sxL_law_810
noncomputable def sxL_law_808 : List UInt8 := 44 :: sxL_law_809
noncomputable def sxL_law_807 : List UInt8 := 87 :: sxL_law_808
noncomputable def sxL_law_804 : List UInt8 := 182 :: 0 :: 78 :: sxL_law_807
noncomputable def sxL_law_803 : List UInt8 := 46 :: sxL_law_804
noncomputable def sxL_law_802 : List UInt8 := 96 :: sxL_law_803
noncomputable def sxL_law_801 : List UInt8 := 4 :: sxL_law_802
noncomputable def sxL_law_800 : List UInt8 := 29 :: sxL_law_801
noncomputable def sxL_law_799 : List UInt8 := 42 :: sxL_law_800
noncomputable def sxL_law_798 : List UInt8 := 43 :: sxL_law_799
noncomputable def sxL_law_795 : List UInt8 := 167 :: 5 :: 194 :: sxL_law_798
noncomputable def sxL_law_794 : List UInt8 := 87 :: sxL_law_795
noncomputable def sxL_law_791 : List UInt8 := 182 :: 0 :: 77 :: sxL_law_794
noncomputable def sxL_law_790 : List UInt8 := 46 :: sxL_law_791
noncomputable def sxL_law_789 : List UInt8 := 96 :: sxL_law_790
noncomputable def sxL_law_788 : List UInt8 := 4 :: sxL_law_789
noncomputable def sxL_law_787 : List UInt8 := 29 :: sxL_law_788
noncomputable def sxL_law_786 : List UInt8 := 42 :: sxL_law_787
noncomputable def sxL_law_785 : List UInt8 := 44 :: sxL_law_786
noncomputable def sxL_law_784 : List UInt8 := 87 :: sxL_law_785
noncomputable def sxL_law_781 : List UInt8 := 182 :: 0 :: 74 :: sxL_law_784
noncomputable def sxL_law_780 : List UInt8 := 46 :: sxL_law_781
noncomputable def sxL_law_779 : List UInt8 := 96 :: sxL_law_780
noncomputable def sxL_law_778 : List UInt8 := 4 :: sxL_law_779
noncomputable def sxL_law_777 : List UInt8 := 29 :: sxL_law_778
noncomputable def sxL_law_776 : List UInt8 := 42 :: sxL_law_777
noncomputable def sxL_law_775 : List UInt8 := 43 :: sxL_law_776
noncomputable def sxL_law_772 : List UInt8 := 167 :: 5 :: 217 :: sxL_law_775
noncomputable def sxL_law_771 : List UInt8 := 87 :: sxL_law_772
noncomputable def sxL_law_768 : List UInt8 := 182 :: 0 :: 73 :: sxL_law_771
noncomputable def sxL_law_767 : List UInt8 := 46 :: sxL_law_768
noncomputable def sxL_law_766 : List UInt8 := 96 :: sxL_law_767
noncomputable def sxL_law_765 : List UInt8 := 6 :: sxL_law_766
noncomputable def sxL_law_764 : List UInt8 := 29 :: sxL_law_765
noncomputable def sxL_law_763 : List UInt8 := 42 :: sxL_law_764
noncomputable def sxL_law_762 : List UInt8 := 46 :: sxL_law_763
noncomputable def sxL_law_761 : List UInt8 := 96 :: sxL_law_762
noncomputable def sxL_law_760 : List UInt8 := 5 :: sxL_law_761
noncomputable def sxL_law_759 : List UInt8 := 29 :: sxL_law_760
noncomputable def sxL_law_758 : List UInt8 := 42 :: sxL_law_759
noncomputable def sxL_law_757 : List UInt8 := 46 :: sxL_law_758
noncomputable def sxL_law_756 : List UInt8 := 96 :: sxL_law_757
noncomputable def sxL_law_755 : List UInt8 := 4 :: sxL_law_756
noncomputable def sxL_law_754 : List UInt8 := 29 :: sxL_law_755
noncomputable def sxL_law_753 : List UInt8 := 42 :: sxL_law_754
noncomputable def sxL_law_752 : List UInt8 := 44 :: sxL_law_753
noncomputable def sxL_law_751 : List UInt8 := 87 :: sxL_law_752
noncomputable def sxL_law_748 : List UInt8 := 182 :: 0 :: 69 :: sxL_law_751
noncomputable def sxL_law_747 : List UInt8 := 46 :: sxL_law_748
noncomputable def sxL_law_746 : List UInt8 := 96 :: sxL_law_747
noncomputable def sxL_law_745 : List UInt8 := 6 :: sxL_law_746
noncomputable def sxL_law_744 : List UInt8 := 29 :: sxL_law_745
noncomputable def sxL_law_743 : List UInt8 := 42 :: sxL_law_744
noncomputable def sxL_law_742 : List UInt8 := 46 :: sxL_law_743
noncomputable def sxL_law_741 : List UInt8 := 96 :: sxL_law_742
noncomputable def sxL_law_740 : List UInt8 := 5 :: sxL_law_741
noncomputable def sxL_law_739 : List UInt8 := 29 :: sxL_law_740
noncomputable def sxL_law_738 : List UInt8 := 42 :: sxL_law_739
noncomputable def sxL_law_737 : List UInt8 := 46 :: sxL_law_738
noncomputable def sxL_law_736 : List UInt8 := 96 :: sxL_law_737
noncomputable def sxL_law_735 : List UInt8 := 4 :: sxL_law_736
noncomputable def sxL_law_734 : List UInt8 := 29 :: sxL_law_735
noncomputable def sxL_law_733 : List UInt8 := 42 :: sxL_law_734
noncomputable def sxL_law_732 : List UInt8 := 43 :: sxL_law_733
noncomputable def sxL_law_729 : List UInt8 := 167 :: 6 :: 4 :: sxL_law_732
noncomputable def sxL_law_728 : List UInt8 := 88 :: sxL_law_729
noncomputable def sxL_law_725 : List UInt8 := 182 :: 0 :: 68 :: sxL_law_728
noncomputable def sxL_law_724 : List UInt8 := 46 :: sxL_law_725
noncomputable def sxL_law_723 : List UInt8 := 96 :: sxL_law_724
noncomputable def sxL_law_722 : List UInt8 := 5 :: sxL_law_723
noncomputable def sxL_law_721 : List UInt8 := 29 :: sxL_law_722
noncomputable def sxL_law_720 : List UInt8 := 42 :: sxL_law_721
noncomputable def sxL_law_719 : List UInt8 := 46 :: sxL_law_720
noncomputable def sxL_law_718 : List UInt8 := 96 :: sxL_law_719
noncomputable def sxL_law_717 : List UInt8 := 4 :: sxL_law_718
noncomputable def sxL_law_716 : List UInt8 := 29 :: sxL_law_717
noncomputable def sxL_law_715 : List UInt8 := 42 :: sxL_law_716
noncomputable def sxL_law_714 : List UInt8 := 44 :: sxL_law_715
noncomputable def sxL_law_713 : List UInt8 := 88 :: sxL_law_714
noncomputable def sxL_law_710 : List UInt8 := 182 :: 0 :: 64 :: sxL_law_713
noncomputable def sxL_law_709 : List UInt8 := 46 :: sxL_law_710
noncomputable def sxL_law_708 : List UInt8 := 96 :: sxL_law_709
noncomputable def sxL_law_707 : List UInt8 := 5 :: sxL_law_708
noncomputable def sxL_law_706 : List UInt8 := 29 :: sxL_law_707
noncomputable def sxL_law_705 : List UInt8 := 42 :: sxL_law_706
noncomputable def sxL_law_704 : List UInt8 := 46 :: sxL_law_705
noncomputable def sxL_law_703 : List UInt8 := 96 :: sxL_law_704
noncomputable def sxL_law_702 : List UInt8 := 4 :: sxL_law_703
noncomputable def sxL_law_701 : List UInt8 := 29 :: sxL_law_702
noncomputable def sxL_law_700 : List UInt8 := 42 :: sxL_law_701
noncomputable def sxL_law_699 : List UInt8 := 43 :: sxL_law_700
noncomputable def sxL_law_696 : List UInt8 := 167 :: 6 :: 37 :: sxL_law_699
noncomputable def sxL_law_695 : List UInt8 := 87 :: sxL_law_696
noncomputable def sxL_law_692 : List UInt8 := 182 :: 0 :: 63 :: sxL_law_695
noncomputable def sxL_law_691 : List UInt8 := 46 :: sxL_law_692
noncomputable def sxL_law_690 : List UInt8 := 96 :: sxL_law_691
noncomputable def sxL_law_689 : List UInt8 := 4 :: sxL_law_690
noncomputable def sxL_law_688 : List UInt8 := 29 :: sxL_law_689
noncomputable def sxL_law_687 : List UInt8 := 42 :: sxL_law_688
noncomputable def sxL_law_686 : List UInt8 := 44 :: sxL_law_687
noncomputable def sxL_law_685 : List UInt8 := 87 :: sxL_law_686
noncomputable def sxL_law_682 : List UInt8 := 182 :: 0 :: 60 :: sxL_law_685
noncomputable def sxL_law_681 : List UInt8 := 46 :: sxL_law_682
noncomputable def sxL_law_680 : List UInt8 := 96 :: sxL_law_681
noncomputable def sxL_law_679 : List UInt8 := 4 :: sxL_law_680
noncomputable def sxL_law_678 : List UInt8 := 29 :: sxL_law_679
noncomputable def sxL_law_677 : List UInt8 := 42 :: sxL_law_678
noncomputable def sxL_law_676 : List UInt8 := 43 :: sxL_law_677
noncomputable def sxL_law_673 : List UInt8 := 167 :: 6 :: 60 :: sxL_law_676
noncomputable def sxL_law_672 : List UInt8 := 87 :: sxL_law_673
noncomputable def sxL_law_669 : List UInt8 := 182 :: 0 :: 59 :: sxL_law_672
noncomputable def sxL_law_668 : List UInt8 := 46 :: sxL_law_669
noncomputable def sxL_law_667 : List UInt8 := 96 :: sxL_law_668
noncomputable def sxL_law_666 : List UInt8 := 5 :: sxL_law_667
noncomputable def sxL_law_665 : List UInt8 := 29 :: sxL_law_666
noncomputable def sxL_law_664 : List UInt8 := 42 :: sxL_law_665
noncomputable def sxL_law_663 : List UInt8 := 46 :: sxL_law_664
noncomputable def sxL_law_662 : List UInt8 := 96 :: sxL_law_663
noncomputable def sxL_law_661 : List UInt8 := 4 :: sxL_law_662
noncomputable def sxL_law_660 : List UInt8 := 29 :: sxL_law_661
noncomputable def sxL_law_659 : List UInt8 := 42 :: sxL_law_660
noncomputable def sxL_law_658 : List UInt8 := 44 :: sxL_law_659
noncomputable def sxL_law_657 : List UInt8 := 87 :: sxL_law_658
noncomputable def sxL_law_654 : List UInt8 := 182 :: 0 :: 56 :: sxL_law_657
noncomputable def sxL_law_653 : List UInt8 := 46 :: sxL_law_654
noncomputable def sxL_law_652 : List UInt8 := 96 :: sxL_law_653
noncomputable def sxL_law_651 : List UInt8 := 5 :: sxL_law_652
noncomputable def sxL_law_650 : List UInt8 := 29 :: sxL_law_651
noncomputable def sxL_law_649 : List UInt8 := 42 :: sxL_law_650
noncomputable def sxL_law_648 : List UInt8 := 46 :: sxL_law_649
noncomputable def sxL_law_647 : List UInt8 := 96 :: sxL_law_648
noncomputable def sxL_law_646 : List UInt8 := 4 :: sxL_law_647
noncomputable def sxL_law_645 : List UInt8 := 29 :: sxL_law_646
noncomputable def sxL_law_644 : List UInt8 := 42 :: sxL_law_645
noncomputable def sxL_law_643 : List UInt8 := 43 :: sxL_law_644
noncomputable def sxL_law_640 : List UInt8 := 167 :: 6 :: 93 :: sxL_law_643
noncomputable def sxL_law_639 : List UInt8 := 87 :: sxL_law_640
noncomputable def sxL_law_636 : List UInt8 := 182 :: 0 :: 55 :: sxL_law_639
noncomputable def sxL_law_635 : List UInt8 := 46 :: sxL_law_636
noncomputable def sxL_law_634 : List UInt8 := 96 :: sxL_law_635
noncomputable def sxL_law_633 : List UInt8 := 4 :: sxL_law_634
noncomputable def sxL_law_632 : List UInt8 := 29 :: sxL_law_633
noncomputable def sxL_law_631 : List UInt8 := 42 :: sxL_law_632
noncomputable def sxL_law_630 : List UInt8 := 44 :: sxL_law_631
noncomputable def sxL_law_629 : List UInt8 := 87 :: sxL_law_630
noncomputable def sxL_law_626 : List UInt8 := 182 :: 0 :: 52 :: sxL_law_629
noncomputable def sxL_law_625 : List UInt8 := 46 :: sxL_law_626
noncomputable def sxL_law_624 : List UInt8 := 96 :: sxL_law_625
noncomputable def sxL_law_623 : List UInt8 := 4 :: sxL_law_624
noncomputable def sxL_law_622 : List UInt8 := 29 :: sxL_law_623
noncomputable def sxL_law_621 : List UInt8 := 42 :: sxL_law_622
noncomputable def sxL_law_620 : List UInt8 := 43 :: sxL_law_621
noncomputable def sxL_law_617 : List UInt8 := 167 :: 6 :: 116 :: sxL_law_620
noncomputable def sxL_law_616 : List UInt8 := 87 :: sxL_law_617
noncomputable def sxL_law_613 : List UInt8 := 182 :: 0 :: 51 :: sxL_law_616
noncomputable def sxL_law_612 : List UInt8 := 46 :: sxL_law_613
noncomputable def sxL_law_611 : List UInt8 := 96 :: sxL_law_612
noncomputable def sxL_law_610 : List UInt8 := 5 :: sxL_law_611
noncomputable def sxL_law_609 : List UInt8 := 29 :: sxL_law_610
noncomputable def sxL_law_608 : List UInt8 := 42 :: sxL_law_609
noncomputable def sxL_law_607 : List UInt8 := 46 :: sxL_law_608
noncomputable def sxL_law_606 : List UInt8 := 96 :: sxL_law_607
noncomputable def sxL_law_605 : List UInt8 := 4 :: sxL_law_606
noncomputable def sxL_law_604 : List UInt8 := 29 :: sxL_law_605
noncomputable def sxL_law_603 : List UInt8 := 42 :: sxL_law_604
noncomputable def sxL_law_602 : List UInt8 := 44 :: sxL_law_603
noncomputable def sxL_law_601 : List UInt8 := 87 :: sxL_law_602
noncomputable def sxL_law_598 : List UInt8 := 182 :: 0 :: 47 :: sxL_law_601
noncomputable def sxL_law_597 : List UInt8 := 46 :: sxL_law_598
noncomputable def sxL_law_596 : List UInt8 := 96 :: sxL_law_597
noncomputable def sxL_law_595 : List UInt8 := 5 :: sxL_law_596
noncomputable def sxL_law_594 : List UInt8 := 29 :: sxL_law_595
noncomputable def sxL_law_593 : List UInt8 := 42 :: sxL_law_594
noncomputable def sxL_law_592 : List UInt8 := 46 :: sxL_law_593
noncomputable def sxL_law_591 : List UInt8 := 96 :: sxL_law_592
noncomputable def sxL_law_590 : List UInt8 := 4 :: sxL_law_591
noncomputable def sxL_law_589 : List UInt8 := 29 :: sxL_law_590
noncomputable def sxL_law_588 : List UInt8 := 42 :: sxL_law_589
noncomputable def sxL_law_587 : List UInt8 := 43 :: sxL_law_588
noncomputable def sxL_law_584 : List UInt8 := 167 :: 6 :: 149 :: sxL_law_587
noncomputable def sxL_law_583 : List UInt8 := 87 :: sxL_law_584
noncomputable def sxL_law_580 : List UInt8 := 182 :: 0 :: 46 :: sxL_law_583
noncomputable def sxL_law_579 : List UInt8 := 46 :: sxL_law_580
noncomputable def sxL_law_578 : List UInt8 := 96 :: sxL_law_579
noncomputable def sxL_law_577 : List UInt8 := 4 :: sxL_law_578
noncomputable def sxL_law_576 : List UInt8 := 29 :: sxL_law_577
noncomputable def sxL_law_575 : List UInt8 := 42 :: sxL_law_576
noncomputable def sxL_law_574 : List UInt8 := 44 :: sxL_law_575
noncomputable def sxL_law_573 : List UInt8 := 87 :: sxL_law_574
noncomputable def sxL_law_570 : List UInt8 := 182 :: 0 :: 42 :: sxL_law_573
noncomputable def sxL_law_569 : List UInt8 := 46 :: sxL_law_570
noncomputable def sxL_law_568 : List UInt8 := 96 :: sxL_law_569
noncomputable def sxL_law_567 : List UInt8 := 4 :: sxL_law_568
noncomputable def sxL_law_566 : List UInt8 := 29 :: sxL_law_567
noncomputable def sxL_law_565 : List UInt8 := 42 :: sxL_law_566
noncomputable def sxL_law_564 : List UInt8 := 43 :: sxL_law_565
noncomputable def sxL_law_561 : List UInt8 := 167 :: 6 :: 172 :: sxL_law_564
noncomputable def sxL_law_560 : List UInt8 := 87 :: sxL_law_561
noncomputable def sxL_law_557 : List UInt8 := 182 :: 0 :: 41 :: sxL_law_560
noncomputable def sxL_law_556 : List UInt8 := 46 :: sxL_law_557
noncomputable def sxL_law_555 : List UInt8 := 96 :: sxL_law_556
noncomputable def sxL_law_554 : List UInt8 := 5 :: sxL_law_555
noncomputable def sxL_law_553 : List UInt8 := 29 :: sxL_law_554
noncomputable def sxL_law_552 : List UInt8 := 42 :: sxL_law_553
noncomputable def sxL_law_551 : List UInt8 := 46 :: sxL_law_552
noncomputable def sxL_law_550 : List UInt8 := 96 :: sxL_law_551
noncomputable def sxL_law_549 : List UInt8 := 4 :: sxL_law_550
noncomputable def sxL_law_548 : List UInt8 := 29 :: sxL_law_549
noncomputable def sxL_law_547 : List UInt8 := 42 :: sxL_law_548
noncomputable def sxL_law_546 : List UInt8 := 44 :: sxL_law_547
noncomputable def sxL_law_545 : List UInt8 := 87 :: sxL_law_546
noncomputable def sxL_law_542 : List UInt8 := 182 :: 0 :: 38 :: sxL_law_545
noncomputable def sxL_law_541 : List UInt8 := 46 :: sxL_law_542
noncomputable def sxL_law_540 : List UInt8 := 96 :: sxL_law_541
noncomputable def sxL_law_539 : List UInt8 := 5 :: sxL_law_540
noncomputable def sxL_law_538 : List UInt8 := 29 :: sxL_law_539
noncomputable def sxL_law_537 : List UInt8 := 42 :: sxL_law_538
noncomputable def sxL_law_536 : List UInt8 := 46 :: sxL_law_537
noncomputable def sxL_law_535 : List UInt8 := 96 :: sxL_law_536
noncomputable def sxL_law_534 : List UInt8 := 4 :: sxL_law_535
noncomputable def sxL_law_533 : List UInt8 := 29 :: sxL_law_534
noncomputable def sxL_law_532 : List UInt8 := 42 :: sxL_law_533
noncomputable def sxL_law_531 : List UInt8 := 43 :: sxL_law_532
noncomputable def sxL_law_528 : List UInt8 := 167 :: 6 :: 205 :: sxL_law_531
noncomputable def sxL_law_527 : List UInt8 := 87 :: sxL_law_528
noncomputable def sxL_law_524 : List UInt8 := 182 :: 0 :: 37 :: sxL_law_527
noncomputable def sxL_law_523 : List UInt8 := 46 :: sxL_law_524
noncomputable def sxL_law_522 : List UInt8 := 96 :: sxL_law_523
noncomputable def sxL_law_521 : List UInt8 := 8 :: sxL_law_522
noncomputable def sxL_law_520 : List UInt8 := 29 :: sxL_law_521
noncomputable def sxL_law_519 : List UInt8 := 42 :: sxL_law_520
noncomputable def sxL_law_518 : List UInt8 := 46 :: sxL_law_519
noncomputable def sxL_law_517 : List UInt8 := 96 :: sxL_law_518
noncomputable def sxL_law_516 : List UInt8 := 7 :: sxL_law_517
noncomputable def sxL_law_515 : List UInt8 := 29 :: sxL_law_516
noncomputable def sxL_law_514 : List UInt8 := 42 :: sxL_law_515
noncomputable def sxL_law_513 : List UInt8 := 46 :: sxL_law_514
noncomputable def sxL_law_512 : List UInt8 := 96 :: sxL_law_513
noncomputable def sxL_law_511 : List UInt8 := 6 :: sxL_law_512
noncomputable def sxL_law_510 : List UInt8 := 29 :: sxL_law_511
noncomputable def sxL_law_509 : List UInt8 := 42 :: sxL_law_510
noncomputable def sxL_law_508 : List UInt8 := 46 :: sxL_law_509
noncomputable def sxL_law_507 : List UInt8 := 96 :: sxL_law_508
noncomputable def sxL_law_506 : List UInt8 := 5 :: sxL_law_507
noncomputable def sxL_law_505 : List UInt8 := 29 :: sxL_law_506
noncomputable def sxL_law_504 : List UInt8 := 42 :: sxL_law_505
noncomputable def sxL_law_503 : List UInt8 := 46 :: sxL_law_504
noncomputable def sxL_law_502 : List UInt8 := 96 :: sxL_law_503
noncomputable def sxL_law_501 : List UInt8 := 4 :: sxL_law_502
noncomputable def sxL_law_500 : List UInt8 := 29 :: sxL_law_501
noncomputable def sxL_law_499 : List UInt8 := 42 :: sxL_law_500
noncomputable def sxL_law_498 : List UInt8 := 44 :: sxL_law_499
noncomputable def sxL_law_497 : List UInt8 := 87 :: sxL_law_498
noncomputable def sxL_law_494 : List UInt8 := 182 :: 0 :: 33 :: sxL_law_497
noncomputable def sxL_law_493 : List UInt8 := 46 :: sxL_law_494
noncomputable def sxL_law_492 : List UInt8 := 96 :: sxL_law_493
noncomputable def sxL_law_491 : List UInt8 := 8 :: sxL_law_492
noncomputable def sxL_law_490 : List UInt8 := 29 :: sxL_law_491
noncomputable def sxL_law_489 : List UInt8 := 42 :: sxL_law_490
noncomputable def sxL_law_488 : List UInt8 := 46 :: sxL_law_489
noncomputable def sxL_law_487 : List UInt8 := 96 :: sxL_law_488
noncomputable def sxL_law_486 : List UInt8 := 7 :: sxL_law_487
noncomputable def sxL_law_485 : List UInt8 := 29 :: sxL_law_486
noncomputable def sxL_law_484 : List UInt8 := 42 :: sxL_law_485
noncomputable def sxL_law_483 : List UInt8 := 46 :: sxL_law_484
noncomputable def sxL_law_482 : List UInt8 := 96 :: sxL_law_483
noncomputable def sxL_law_481 : List UInt8 := 6 :: sxL_law_482
noncomputable def sxL_law_480 : List UInt8 := 29 :: sxL_law_481
noncomputable def sxL_law_479 : List UInt8 := 42 :: sxL_law_480
noncomputable def sxL_law_478 : List UInt8 := 46 :: sxL_law_479
noncomputable def sxL_law_477 : List UInt8 := 96 :: sxL_law_478
noncomputable def sxL_law_476 : List UInt8 := 5 :: sxL_law_477
noncomputable def sxL_law_475 : List UInt8 := 29 :: sxL_law_476
noncomputable def sxL_law_474 : List UInt8 := 42 :: sxL_law_475
noncomputable def sxL_law_473 : List UInt8 := 46 :: sxL_law_474
noncomputable def sxL_law_472 : List UInt8 := 96 :: sxL_law_473
noncomputable def sxL_law_471 : List UInt8 := 4 :: sxL_law_472
noncomputable def sxL_law_470 : List UInt8 := 29 :: sxL_law_471
noncomputable def sxL_law_469 : List UInt8 := 42 :: sxL_law_470
noncomputable def sxL_law_468 : List UInt8 := 43 :: sxL_law_469
noncomputable def sxL_law_465 : List UInt8 := 167 :: 7 :: 12 :: sxL_law_468
noncomputable def sxL_law_464 : List UInt8 := 87 :: sxL_law_465
noncomputable def sxL_law_461 : List UInt8 := 182 :: 0 :: 32 :: sxL_law_464
noncomputable def sxL_law_460 : List UInt8 := 46 :: sxL_law_461
noncomputable def sxL_law_459 : List UInt8 := 96 :: sxL_law_460
noncomputable def sxL_law_457 : List UInt8 := 16 :: 6 :: sxL_law_459
noncomputable def sxL_law_456 : List UInt8 := 29 :: sxL_law_457
noncomputable def sxL_law_455 : List UInt8 := 42 :: sxL_law_456
noncomputable def sxL_law_454 : List UInt8 := 46 :: sxL_law_455
noncomputable def sxL_law_453 : List UInt8 := 96 :: sxL_law_454
noncomputable def sxL_law_452 : List UInt8 := 8 :: sxL_law_453
noncomputable def sxL_law_451 : List UInt8 := 29 :: sxL_law_452
noncomputable def sxL_law_450 : List UInt8 := 42 :: sxL_law_451
noncomputable def sxL_law_449 : List UInt8 := 46 :: sxL_law_450
noncomputable def sxL_law_448 : List UInt8 := 96 :: sxL_law_449
noncomputable def sxL_law_447 : List UInt8 := 7 :: sxL_law_448
noncomputable def sxL_law_446 : List UInt8 := 29 :: sxL_law_447
noncomputable def sxL_law_445 : List UInt8 := 42 :: sxL_law_446
noncomputable def sxL_law_444 : List UInt8 := 46 :: sxL_law_445
noncomputable def sxL_law_443 : List UInt8 := 96 :: sxL_law_444
noncomputable def sxL_law_442 : List UInt8 := 6 :: sxL_law_443
noncomputable def sxL_law_441 : List UInt8 := 29 :: sxL_law_442
noncomputable def sxL_law_440 : List UInt8 := 42 :: sxL_law_441
noncomputable def sxL_law_439 : List UInt8 := 46 :: sxL_law_440
noncomputable def sxL_law_438 : List UInt8 := 96 :: sxL_law_439
noncomputable def sxL_law_437 : List UInt8 := 5 :: sxL_law_438
noncomputable def sxL_law_436 : List UInt8 := 29 :: sxL_law_437
noncomputable def sxL_law_435 : List UInt8 := 42 :: sxL_law_436
noncomputable def sxL_law_434 : List UInt8 := 46 :: sxL_law_435
noncomputable def sxL_law_433 : List UInt8 := 96 :: sxL_law_434
noncomputable def sxL_law_432 : List UInt8 := 4 :: sxL_law_433
noncomputable def sxL_law_431 : List UInt8 := 29 :: sxL_law_432
noncomputable def sxL_law_430 : List UInt8 := 42 :: sxL_law_431
noncomputable def sxL_law_429 : List UInt8 := 44 :: sxL_law_430
noncomputable def sxL_law_428 : List UInt8 := 87 :: sxL_law_429
noncomputable def sxL_law_425 : List UInt8 := 182 :: 0 :: 28 :: sxL_law_428
noncomputable def sxL_law_424 : List UInt8 := 46 :: sxL_law_425
noncomputable def sxL_law_423 : List UInt8 := 96 :: sxL_law_424
noncomputable def sxL_law_421 : List UInt8 := 16 :: 6 :: sxL_law_423
noncomputable def sxL_law_420 : List UInt8 := 29 :: sxL_law_421
noncomputable def sxL_law_419 : List UInt8 := 42 :: sxL_law_420
noncomputable def sxL_law_418 : List UInt8 := 46 :: sxL_law_419
noncomputable def sxL_law_417 : List UInt8 := 96 :: sxL_law_418
noncomputable def sxL_law_416 : List UInt8 := 8 :: sxL_law_417
noncomputable def sxL_law_415 : List UInt8 := 29 :: sxL_law_416
noncomputable def sxL_law_414 : List UInt8 := 42 :: sxL_law_415
noncomputable def sxL_law_413 : List UInt8 := 46 :: sxL_law_414
noncomputable def sxL_law_412 : List UInt8 := 96 :: sxL_law_413
noncomputable def sxL_law_411 : List UInt8 := 7 :: sxL_law_412
noncomputable def sxL_law_410 : List UInt8 := 29 :: sxL_law_411
noncomputable def sxL_law_409 : List UInt8 := 42 :: sxL_law_410
noncomputable def sxL_law_408 : List UInt8 := 46 :: sxL_law_409
noncomputable def sxL_law_407 : List UInt8 := 96 :: sxL_law_408
noncomputable def sxL_law_406 : List UInt8 := 6 :: sxL_law_407
noncomputable def sxL_law_405 : List UInt8 := 29 :: sxL_law_406
noncomputable def sxL_law_404 : List UInt8 := 42 :: sxL_law_405
noncomputable def sxL_law_403 : List UInt8 := 46 :: sxL_law_404
noncomputable def sxL_law_402 : List UInt8 := 96 :: sxL_law_403
noncomputable def sxL_law_401 : List UInt8 := 5 :: sxL_law_402
noncomputable def sxL_law_400 : List UInt8 := 29 :: sxL_law_401
noncomputable def sxL_law_399 : List UInt8 := 42 :: sxL_law_400
noncomputable def sxL_law_398 : List UInt8 := 46 :: sxL_law_399
noncomputable def sxL_law_397 : List UInt8 := 96 :: sxL_law_398
noncomputable def sxL_law_396 : List UInt8 := 4 :: sxL_law_397
noncomputable def sxL_law_395 : List UInt8 := 29 :: sxL_law_396
noncomputable def sxL_law_394 : List UInt8 := 42 :: sxL_law_395
noncomputable def sxL_law_393 : List UInt8 := 43 :: sxL_law_394
noncomputable def sxL_law_390 : List UInt8 := 167 :: 7 :: 87 :: sxL_law_393
noncomputable def sxL_law_389 : List UInt8 := 87 :: sxL_law_390
noncomputable def sxL_law_386 : List UInt8 := 182 :: 0 :: 27 :: sxL_law_389
noncomputable def sxL_law_385 : List UInt8 := 46 :: sxL_law_386
noncomputable def sxL_law_384 : List UInt8 := 96 :: sxL_law_385
noncomputable def sxL_law_383 : List UInt8 := 5 :: sxL_law_384
noncomputable def sxL_law_382 : List UInt8 := 29 :: sxL_law_383
noncomputable def sxL_law_381 : List UInt8 := 42 :: sxL_law_382
noncomputable def sxL_law_380 : List UInt8 := 46 :: sxL_law_381
noncomputable def sxL_law_379 : List UInt8 := 96 :: sxL_law_380
noncomputable def sxL_law_378 : List UInt8 := 4 :: sxL_law_379
noncomputable def sxL_law_377 : List UInt8 := 29 :: sxL_law_378
noncomputable def sxL_law_376 : List UInt8 := 42 :: sxL_law_377
noncomputable def sxL_law_375 : List UInt8 := 44 :: sxL_law_376
noncomputable def sxL_law_374 : List UInt8 := 87 :: sxL_law_375
noncomputable def sxL_law_371 : List UInt8 := 182 :: 0 :: 23 :: sxL_law_374
noncomputable def sxL_law_370 : List UInt8 := 46 :: sxL_law_371
noncomputable def sxL_law_369 : List UInt8 := 96 :: sxL_law_370
noncomputable def sxL_law_368 : List UInt8 := 5 :: sxL_law_369
noncomputable def sxL_law_367 : List UInt8 := 29 :: sxL_law_368
noncomputable def sxL_law_366 : List UInt8 := 42 :: sxL_law_367
noncomputable def sxL_law_365 : List UInt8 := 46 :: sxL_law_366
noncomputable def sxL_law_364 : List UInt8 := 96 :: sxL_law_365
noncomputable def sxL_law_363 : List UInt8 := 4 :: sxL_law_364
noncomputable def sxL_law_362 : List UInt8 := 29 :: sxL_law_363
noncomputable def sxL_law_361 : List UInt8 := 42 :: sxL_law_362
noncomputable def sxL_law_360 : List UInt8 := 43 :: sxL_law_361
noncomputable def sxL_law_357 : List UInt8 := 167 :: 7 :: 120 :: sxL_law_360
noncomputable def sxL_law_356 : List UInt8 := 87 :: sxL_law_357
noncomputable def sxL_law_353 : List UInt8 := 182 :: 0 :: 22 :: sxL_law_356
noncomputable def sxL_law_352 : List UInt8 := 46 :: sxL_law_353
noncomputable def sxL_law_351 : List UInt8 := 96 :: sxL_law_352
noncomputable def sxL_law_350 : List UInt8 := 7 :: sxL_law_351
noncomputable def sxL_law_349 : List UInt8 := 29 :: sxL_law_350
noncomputable def sxL_law_348 : List UInt8 := 42 :: sxL_law_349
noncomputable def sxL_law_347 : List UInt8 := 46 :: sxL_law_348
noncomputable def sxL_law_346 : List UInt8 := 96 :: sxL_law_347
noncomputable def sxL_law_345 : List UInt8 := 6 :: sxL_law_346
noncomputable def sxL_law_344 : List UInt8 := 29 :: sxL_law_345
noncomputable def sxL_law_343 : List UInt8 := 42 :: sxL_law_344
noncomputable def sxL_law_342 : List UInt8 := 46 :: sxL_law_343
noncomputable def sxL_law_341 : List UInt8 := 96 :: sxL_law_342
noncomputable def sxL_law_340 : List UInt8 := 5 :: sxL_law_341
noncomputable def sxL_law_339 : List UInt8 := 29 :: sxL_law_340
noncomputable def sxL_law_338 : List UInt8 := 42 :: sxL_law_339
noncomputable def sxL_law_337 : List UInt8 := 46 :: sxL_law_338
noncomputable def sxL_law_336 : List UInt8 := 96 :: sxL_law_337
noncomputable def sxL_law_335 : List UInt8 := 4 :: sxL_law_336
noncomputable def sxL_law_334 : List UInt8 := 29 :: sxL_law_335
noncomputable def sxL_law_333 : List UInt8 := 42 :: sxL_law_334
noncomputable def sxL_law_332 : List UInt8 := 44 :: sxL_law_333
noncomputable def sxL_law_331 : List UInt8 := 87 :: sxL_law_332
noncomputable def sxL_law_328 : List UInt8 := 182 :: 0 :: 18 :: sxL_law_331
noncomputable def sxL_law_327 : List UInt8 := 46 :: sxL_law_328
noncomputable def sxL_law_326 : List UInt8 := 96 :: sxL_law_327
noncomputable def sxL_law_325 : List UInt8 := 7 :: sxL_law_326
noncomputable def sxL_law_324 : List UInt8 := 29 :: sxL_law_325
noncomputable def sxL_law_323 : List UInt8 := 42 :: sxL_law_324
noncomputable def sxL_law_322 : List UInt8 := 46 :: sxL_law_323
noncomputable def sxL_law_321 : List UInt8 := 96 :: sxL_law_322
noncomputable def sxL_law_320 : List UInt8 := 6 :: sxL_law_321
noncomputable def sxL_law_319 : List UInt8 := 29 :: sxL_law_320
noncomputable def sxL_law_318 : List UInt8 := 42 :: sxL_law_319
noncomputable def sxL_law_317 : List UInt8 := 46 :: sxL_law_318
noncomputable def sxL_law_316 : List UInt8 := 96 :: sxL_law_317
noncomputable def sxL_law_315 : List UInt8 := 5 :: sxL_law_316
noncomputable def sxL_law_314 : List UInt8 := 29 :: sxL_law_315
noncomputable def sxL_law_313 : List UInt8 := 42 :: sxL_law_314
noncomputable def sxL_law_312 : List UInt8 := 46 :: sxL_law_313
noncomputable def sxL_law_311 : List UInt8 := 96 :: sxL_law_312
noncomputable def sxL_law_310 : List UInt8 := 4 :: sxL_law_311
noncomputable def sxL_law_309 : List UInt8 := 29 :: sxL_law_310
noncomputable def sxL_law_308 : List UInt8 := 42 :: sxL_law_309
noncomputable def sxL_law_307 : List UInt8 := 43 :: sxL_law_308
noncomputable def sxL_law_304 : List UInt8 := 167 :: 7 :: 173 :: sxL_law_307
noncomputable def sxL_law_303 : List UInt8 := 87 :: sxL_law_304
noncomputable def sxL_law_300 : List UInt8 := 182 :: 0 :: 17 :: sxL_law_303
noncomputable def sxL_law_299 : List UInt8 := 46 :: sxL_law_300
noncomputable def sxL_law_298 : List UInt8 := 96 :: sxL_law_299
noncomputable def sxL_law_297 : List UInt8 := 4 :: sxL_law_298
noncomputable def sxL_law_296 : List UInt8 := 29 :: sxL_law_297
noncomputable def sxL_law_295 : List UInt8 := 42 :: sxL_law_296
noncomputable def sxL_law_294 : List UInt8 := 44 :: sxL_law_295
noncomputable def sxL_law_293 : List UInt8 := 87 :: sxL_law_294
noncomputable def sxL_law_290 : List UInt8 := 182 :: 0 :: 13 :: sxL_law_293
noncomputable def sxL_law_289 : List UInt8 := 46 :: sxL_law_290
noncomputable def sxL_law_288 : List UInt8 := 96 :: sxL_law_289
noncomputable def sxL_law_287 : List UInt8 := 4 :: sxL_law_288
noncomputable def sxL_law_286 : List UInt8 := 29 :: sxL_law_287
noncomputable def sxL_law_285 : List UInt8 := 42 :: sxL_law_286
noncomputable def sxL_law_284 : List UInt8 := 43 :: sxL_law_285
noncomputable def sxL_law_33 : List UInt8 := 170 :: 0 :: 0 :: 0 :: 0 :: 8 :: 188 :: 0 :: 0 :: 0 :: 0 :: 0 :: 0 :: 0 :: 58 :: 0 :: 0 :: 0 :: 251 :: 0 :: 0 :: 1 :: 18 :: 0 :: 0 :: 1 :: 71 :: 0 :: 0 :: 1 :: 104 :: 0 :: 0 :: 1 :: 179 :: 0 :: 0 :: 1 :: 242 :: 0 :: 0 :: 2 :: 19 :: 0 :: 0 :: 2 :: 42 :: 0 :: 0 :: 2 :: 75 :: 0 :: 0 :: 2 :: 98 :: 0 :: 0 :: 2 :: 131 :: 0 :: 0 :: 2 :: 154 :: 0 :: 0 :: 2 :: 187 :: 0 :: 0 :: 2 :: 230 :: 0 :: 0 :: 2 :: 253 :: 0 :: 0 :: 3 :: 20 :: 0 :: 0 :: 3 :: 53 :: 0 :: 0 :: 3 :: 66 :: 0 :: 0 :: 3 :: 119 :: 0 :: 0 :: 3 :: 142 :: 0 :: 0 :: 3 :: 175 :: 0 :: 0 :: 3 :: 218 :: 0 :: 0 :: 3 :: 251 :: 0 :: 0 :: 4 :: 28 :: 0 :: 0 :: 4 :: 61 :: 0 :: 0 :: 4 :: 94 :: 0 :: 0 :: 4 :: 127 :: 0 :: 0 :: 4 :: 150 :: 0 :: 0 :: 4 :: 183 :: 0 :: 0 :: 4 :: 216 :: 0 :: 0 :: 4 :: 249 :: 0 :: 0 :: 5 :: 26 :: 0 :: 0 :: 5 :: 59 :: 0 :: 0 :: 5 :: 92 :: 0 :: 0 :: 5 :: 135 :: 0 :: 0 :: 5 :: 168 :: 0 :: 0 :: 5 :: 191 :: 0 :: 0 :: 5 :: 250 :: 0 :: 0 :: 6 :: 37 :: 0 :: 0 :: 6 :: 90 :: 0 :: 0 :: 6 :: 123 :: 0 :: 0 :: 6 :: 156 :: 0 :: 0 :: 6 :: 169 :: 0 :: 0 :: 6 :: 212 :: 0 :: 0 :: 6 :: 245 :: 0 :: 0 :: 7 :: 12 :: 0 :: 0 :: 7 :: 45 :: 0 :: 0 :: 7 :: 78 :: 0 :: 0 :: 7 :: 111 :: 0 :: 0 :: 7 :: 154 :: 0 :: 0 :: 7 :: 177 :: 0 :: 0 :: 7 :: 210 :: 0 :: 0 :: 7 :: 233 :: 0 :: 0 :: 8 :: 10 :: 0 :: 0 :: 8 :: 53 :: 0 :: 0 :: 8 :: 86 :: 0 :: 0 :: 8 :: 109 :: 0 :: 0 :: 8 :: 132 :: 0 :: 0 :: 8 :: 165 :: sxL_law_284
noncomputable def sxL_law_32 : List UInt8 := 126 :: sxL_law_33
noncomputable def sxL_law_30 : List UInt8 := 16 :: 63 :: sxL_law_32
noncomputable def sxL_law_29 : List UInt8 := 46 :: sxL_law_30
noncomputable def sxL_law_28 : List UInt8 := 29 :: sxL_law_29
noncomputable def sxL_law_27 : List UInt8 := 42 :: sxL_law_28
noncomputable def sxL_law_24 : List UInt8 := 163 :: 8 :: 203 :: sxL_law_27
noncomputable def sxL_law_23 : List UInt8 := 100 :: sxL_law_24
noncomputable def sxL_law_21 : List UInt8 := 16 :: 7 :: sxL_law_23
noncomputable def sxL_law_20 : List UInt8 := 190 :: sxL_law_21
noncomputable def sxL_law_19 : List UInt8 := 42 :: sxL_law_20
noncomputable def sxL_law_18 : List UInt8 := 29 :: sxL_law_19
noncomputable def sxL_law_17 : List UInt8 := 62 :: sxL_law_18
noncomputable def sxL_law_16 : List UInt8 := 3 :: sxL_law_17
noncomputable def sxL_law_15 : List UInt8 := 77 :: sxL_law_16
noncomputable def sxL_law_12 : List UInt8 := 183 :: 0 :: 12 :: sxL_law_15
noncomputable def sxL_law_11 : List UInt8 := 89 :: sxL_law_12
noncomputable def sxL_law_8 : List UInt8 := 187 :: 0 :: 10 :: sxL_law_11
noncomputable def sxL_law_7 : List UInt8 := 76 :: sxL_law_8
noncomputable def sxL_law_4 : List UInt8 := 183 :: 0 :: 9 :: sxL_law_7
noncomputable def sxL_law_3 : List UInt8 := 89 :: sxL_law_4
noncomputable def sxL_law_0 : List UInt8 := 187 :: 0 :: 7 :: sxL_law_3
set_option maxRecDepth 100000 in
theorem shL_law_0 : code.data.toList.drop 0 = sxL_law_0 := rfl
theorem shL_law_3 : code.data.toList.drop 3 = sxL_law_3 := dSn 3 shL_law_0
theorem shL_law_4 : code.data.toList.drop 4 = sxL_law_4 := dSn 1 shL_law_3
theorem shL_law_7 : code.data.toList.drop 7 = sxL_law_7 := dSn 3 shL_law_4
theorem shL_law_8 : code.data.toList.drop 8 = sxL_law_8 := dSn 1 shL_law_7
theorem shL_law_11 : code.data.toList.drop 11 = sxL_law_11 := dSn 3 shL_law_8
theorem shL_law_12 : code.data.toList.drop 12 = sxL_law_12 := dSn 1 shL_law_11
theorem shL_law_15 : code.data.toList.drop 15 = sxL_law_15 := dSn 3 shL_law_12
theorem shL_law_16 : code.data.toList.drop 16 = sxL_law_16 := dSn 1 shL_law_15
theorem shL_law_17 : code.data.toList.drop 17 = sxL_law_17 := dSn 1 shL_law_16
theorem shL_law_18 : code.data.toList.drop 18 = sxL_law_18 := dSn 1 shL_law_17
theorem shL_law_19 : code.data.toList.drop 19 = sxL_law_19 := dSn 1 shL_law_18
theorem shL_law_20 : code.data.toList.drop 20 = sxL_law_20 := dSn 1 shL_law_19
theorem shL_law_21 : code.data.toList.drop 21 = sxL_law_21 := dSn 1 shL_law_20
theorem shL_law_23 : code.data.toList.drop 23 = sxL_law_23 := dSn 2 shL_law_21
theorem shL_law_24 : code.data.toList.drop 24 = sxL_law_24 := dSn 1 shL_law_23
theorem shL_law_27 : code.data.toList.drop 27 = sxL_law_27 := dSn 3 shL_law_24
theorem shL_law_28 : code.data.toList.drop 28 = sxL_law_28 := dSn 1 shL_law_27
theorem shL_law_29 : code.data.toList.drop 29 = sxL_law_29 := dSn 1 shL_law_28
theorem shL_law_30 : code.data.toList.drop 30 = sxL_law_30 := dSn 1 shL_law_29
theorem shL_law_32 : code.data.toList.drop 32 = sxL_law_32 := dSn 2 shL_law_30
theorem shL_law_33 : code.data.toList.drop 33 = sxL_law_33 := dSn 1 shL_law_32
theorem shL_law_284 : code.data.toList.drop 284 = sxL_law_284 := dSn 251 shL_law_33
theorem shL_law_285 : code.data.toList.drop 285 = sxL_law_285 := dSn 1 shL_law_284
theorem shL_law_286 : code.data.toList.drop 286 = sxL_law_286 := dSn 1 shL_law_285
theorem shL_law_287 : code.data.toList.drop 287 = sxL_law_287 := dSn 1 shL_law_286
theorem shL_law_288 : code.data.toList.drop 288 = sxL_law_288 := dSn 1 shL_law_287
theorem shL_law_289 : code.data.toList.drop 289 = sxL_law_289 := dSn 1 shL_law_288
theorem shL_law_290 : code.data.toList.drop 290 = sxL_law_290 := dSn 1 shL_law_289
theorem shL_law_293 : code.data.toList.drop 293 = sxL_law_293 := dSn 3 shL_law_290
theorem shL_law_294 : code.data.toList.drop 294 = sxL_law_294 := dSn 1 shL_law_293
theorem shL_law_295 : code.data.toList.drop 295 = sxL_law_295 := dSn 1 shL_law_294
theorem shL_law_296 : code.data.toList.drop 296 = sxL_law_296 := dSn 1 shL_law_295
theorem shL_law_297 : code.data.toList.drop 297 = sxL_law_297 := dSn 1 shL_law_296
theorem shL_law_298 : code.data.toList.drop 298 = sxL_law_298 := dSn 1 shL_law_297
theorem shL_law_299 : code.data.toList.drop 299 = sxL_law_299 := dSn 1 shL_law_298
theorem shL_law_300 : code.data.toList.drop 300 = sxL_law_300 := dSn 1 shL_law_299
theorem shL_law_303 : code.data.toList.drop 303 = sxL_law_303 := dSn 3 shL_law_300
theorem shL_law_304 : code.data.toList.drop 304 = sxL_law_304 := dSn 1 shL_law_303
theorem shL_law_307 : code.data.toList.drop 307 = sxL_law_307 := dSn 3 shL_law_304
theorem shL_law_308 : code.data.toList.drop 308 = sxL_law_308 := dSn 1 shL_law_307
theorem shL_law_309 : code.data.toList.drop 309 = sxL_law_309 := dSn 1 shL_law_308
theorem shL_law_310 : code.data.toList.drop 310 = sxL_law_310 := dSn 1 shL_law_309
theorem shL_law_311 : code.data.toList.drop 311 = sxL_law_311 := dSn 1 shL_law_310
theorem shL_law_312 : code.data.toList.drop 312 = sxL_law_312 := dSn 1 shL_law_311
theorem shL_law_313 : code.data.toList.drop 313 = sxL_law_313 := dSn 1 shL_law_312
theorem shL_law_314 : code.data.toList.drop 314 = sxL_law_314 := dSn 1 shL_law_313
theorem shL_law_315 : code.data.toList.drop 315 = sxL_law_315 := dSn 1 shL_law_314
theorem shL_law_316 : code.data.toList.drop 316 = sxL_law_316 := dSn 1 shL_law_315
theorem shL_law_317 : code.data.toList.drop 317 = sxL_law_317 := dSn 1 shL_law_316
theorem shL_law_318 : code.data.toList.drop 318 = sxL_law_318 := dSn 1 shL_law_317
theorem shL_law_319 : code.data.toList.drop 319 = sxL_law_319 := dSn 1 shL_law_318
theorem shL_law_320 : code.data.toList.drop 320 = sxL_law_320 := dSn 1 shL_law_319
theorem shL_law_321 : code.data.toList.drop 321 = sxL_law_321 := dSn 1 shL_law_320
theorem shL_law_322 : code.data.toList.drop 322 = sxL_law_322 := dSn 1 shL_law_321
theorem shL_law_323 : code.data.toList.drop 323 = sxL_law_323 := dSn 1 shL_law_322
theorem shL_law_324 : code.data.toList.drop 324 = sxL_law_324 := dSn 1 shL_law_323
theorem shL_law_325 : code.data.toList.drop 325 = sxL_law_325 := dSn 1 shL_law_324
theorem shL_law_326 : code.data.toList.drop 326 = sxL_law_326 := dSn 1 shL_law_325
theorem shL_law_327 : code.data.toList.drop 327 = sxL_law_327 := dSn 1 shL_law_326
theorem shL_law_328 : code.data.toList.drop 328 = sxL_law_328 := dSn 1 shL_law_327
theorem shL_law_331 : code.data.toList.drop 331 = sxL_law_331 := dSn 3 shL_law_328
theorem shL_law_332 : code.data.toList.drop 332 = sxL_law_332 := dSn 1 shL_law_331
theorem shL_law_333 : code.data.toList.drop 333 = sxL_law_333 := dSn 1 shL_law_332
theorem shL_law_334 : code.data.toList.drop 334 = sxL_law_334 := dSn 1 shL_law_333
theorem shL_law_335 : code.data.toList.drop 335 = sxL_law_335 := dSn 1 shL_law_334
theorem shL_law_336 : code.data.toList.drop 336 = sxL_law_336 := dSn 1 shL_law_335
theorem shL_law_337 : code.data.toList.drop 337 = sxL_law_337 := dSn 1 shL_law_336
theorem shL_law_338 : code.data.toList.drop 338 = sxL_law_338 := dSn 1 shL_law_337
theorem shL_law_339 : code.data.toList.drop 339 = sxL_law_339 := dSn 1 shL_law_338
theorem shL_law_340 : code.data.toList.drop 340 = sxL_law_340 := dSn 1 shL_law_339
theorem shL_law_341 : code.data.toList.drop 341 = sxL_law_341 := dSn 1 shL_law_340
theorem shL_law_342 : code.data.toList.drop 342 = sxL_law_342 := dSn 1 shL_law_341
theorem shL_law_343 : code.data.toList.drop 343 = sxL_law_343 := dSn 1 shL_law_342
theorem shL_law_344 : code.data.toList.drop 344 = sxL_law_344 := dSn 1 shL_law_343
theorem shL_law_345 : code.data.toList.drop 345 = sxL_law_345 := dSn 1 shL_law_344
theorem shL_law_346 : code.data.toList.drop 346 = sxL_law_346 := dSn 1 shL_law_345
theorem shL_law_347 : code.data.toList.drop 347 = sxL_law_347 := dSn 1 shL_law_346
theorem shL_law_348 : code.data.toList.drop 348 = sxL_law_348 := dSn 1 shL_law_347
theorem shL_law_349 : code.data.toList.drop 349 = sxL_law_349 := dSn 1 shL_law_348
theorem shL_law_350 : code.data.toList.drop 350 = sxL_law_350 := dSn 1 shL_law_349
theorem shL_law_351 : code.data.toList.drop 351 = sxL_law_351 := dSn 1 shL_law_350
theorem shL_law_352 : code.data.toList.drop 352 = sxL_law_352 := dSn 1 shL_law_351
theorem shL_law_353 : code.data.toList.drop 353 = sxL_law_353 := dSn 1 shL_law_352
theorem shL_law_356 : code.data.toList.drop 356 = sxL_law_356 := dSn 3 shL_law_353
theorem shL_law_357 : code.data.toList.drop 357 = sxL_law_357 := dSn 1 shL_law_356
theorem shL_law_360 : code.data.toList.drop 360 = sxL_law_360 := dSn 3 shL_law_357
theorem shL_law_361 : code.data.toList.drop 361 = sxL_law_361 := dSn 1 shL_law_360
theorem shL_law_362 : code.data.toList.drop 362 = sxL_law_362 := dSn 1 shL_law_361
theorem shL_law_363 : code.data.toList.drop 363 = sxL_law_363 := dSn 1 shL_law_362
theorem shL_law_364 : code.data.toList.drop 364 = sxL_law_364 := dSn 1 shL_law_363
theorem shL_law_365 : code.data.toList.drop 365 = sxL_law_365 := dSn 1 shL_law_364
theorem shL_law_366 : code.data.toList.drop 366 = sxL_law_366 := dSn 1 shL_law_365
theorem shL_law_367 : code.data.toList.drop 367 = sxL_law_367 := dSn 1 shL_law_366
theorem shL_law_368 : code.data.toList.drop 368 = sxL_law_368 := dSn 1 shL_law_367
theorem shL_law_369 : code.data.toList.drop 369 = sxL_law_369 := dSn 1 shL_law_368
theorem shL_law_370 : code.data.toList.drop 370 = sxL_law_370 := dSn 1 shL_law_369
theorem shL_law_371 : code.data.toList.drop 371 = sxL_law_371 := dSn 1 shL_law_370
theorem shL_law_374 : code.data.toList.drop 374 = sxL_law_374 := dSn 3 shL_law_371
theorem shL_law_375 : code.data.toList.drop 375 = sxL_law_375 := dSn 1 shL_law_374
theorem shL_law_376 : code.data.toList.drop 376 = sxL_law_376 := dSn 1 shL_law_375
theorem shL_law_377 : code.data.toList.drop 377 = sxL_law_377 := dSn 1 shL_law_376
theorem shL_law_378 : code.data.toList.drop 378 = sxL_law_378 := dSn 1 shL_law_377
theorem shL_law_379 : code.data.toList.drop 379 = sxL_law_379 := dSn 1 shL_law_378
theorem shL_law_380 : code.data.toList.drop 380 = sxL_law_380 := dSn 1 shL_law_379
theorem shL_law_381 : code.data.toList.drop 381 = sxL_law_381 := dSn 1 shL_law_380
theorem shL_law_382 : code.data.toList.drop 382 = sxL_law_382 := dSn 1 shL_law_381
theorem shL_law_383 : code.data.toList.drop 383 = sxL_law_383 := dSn 1 shL_law_382
theorem shL_law_384 : code.data.toList.drop 384 = sxL_law_384 := dSn 1 shL_law_383
theorem shL_law_385 : code.data.toList.drop 385 = sxL_law_385 := dSn 1 shL_law_384
theorem shL_law_386 : code.data.toList.drop 386 = sxL_law_386 := dSn 1 shL_law_385
theorem shL_law_389 : code.data.toList.drop 389 = sxL_law_389 := dSn 3 shL_law_386
theorem shL_law_390 : code.data.toList.drop 390 = sxL_law_390 := dSn 1 shL_law_389
theorem shL_law_393 : code.data.toList.drop 393 = sxL_law_393 := dSn 3 shL_law_390
theorem shL_law_394 : code.data.toList.drop 394 = sxL_law_394 := dSn 1 shL_law_393
theorem shL_law_395 : code.data.toList.drop 395 = sxL_law_395 := dSn 1 shL_law_394
theorem shL_law_396 : code.data.toList.drop 396 = sxL_law_396 := dSn 1 shL_law_395
theorem shL_law_397 : code.data.toList.drop 397 = sxL_law_397 := dSn 1 shL_law_396
theorem shL_law_398 : code.data.toList.drop 398 = sxL_law_398 := dSn 1 shL_law_397
theorem shL_law_399 : code.data.toList.drop 399 = sxL_law_399 := dSn 1 shL_law_398
theorem shL_law_400 : code.data.toList.drop 400 = sxL_law_400 := dSn 1 shL_law_399
theorem shL_law_401 : code.data.toList.drop 401 = sxL_law_401 := dSn 1 shL_law_400
theorem shL_law_402 : code.data.toList.drop 402 = sxL_law_402 := dSn 1 shL_law_401
theorem shL_law_403 : code.data.toList.drop 403 = sxL_law_403 := dSn 1 shL_law_402
theorem shL_law_404 : code.data.toList.drop 404 = sxL_law_404 := dSn 1 shL_law_403
theorem shL_law_405 : code.data.toList.drop 405 = sxL_law_405 := dSn 1 shL_law_404
theorem shL_law_406 : code.data.toList.drop 406 = sxL_law_406 := dSn 1 shL_law_405
theorem shL_law_407 : code.data.toList.drop 407 = sxL_law_407 := dSn 1 shL_law_406
theorem shL_law_408 : code.data.toList.drop 408 = sxL_law_408 := dSn 1 shL_law_407
theorem shL_law_409 : code.data.toList.drop 409 = sxL_law_409 := dSn 1 shL_law_408
theorem shL_law_410 : code.data.toList.drop 410 = sxL_law_410 := dSn 1 shL_law_409
theorem shL_law_411 : code.data.toList.drop 411 = sxL_law_411 := dSn 1 shL_law_410
theorem shL_law_412 : code.data.toList.drop 412 = sxL_law_412 := dSn 1 shL_law_411
theorem shL_law_413 : code.data.toList.drop 413 = sxL_law_413 := dSn 1 shL_law_412
theorem shL_law_414 : code.data.toList.drop 414 = sxL_law_414 := dSn 1 shL_law_413
theorem shL_law_415 : code.data.toList.drop 415 = sxL_law_415 := dSn 1 shL_law_414
theorem shL_law_416 : code.data.toList.drop 416 = sxL_law_416 := dSn 1 shL_law_415
theorem shL_law_417 : code.data.toList.drop 417 = sxL_law_417 := dSn 1 shL_law_416
theorem shL_law_418 : code.data.toList.drop 418 = sxL_law_418 := dSn 1 shL_law_417
theorem shL_law_419 : code.data.toList.drop 419 = sxL_law_419 := dSn 1 shL_law_418
theorem shL_law_420 : code.data.toList.drop 420 = sxL_law_420 := dSn 1 shL_law_419
theorem shL_law_421 : code.data.toList.drop 421 = sxL_law_421 := dSn 1 shL_law_420
theorem shL_law_423 : code.data.toList.drop 423 = sxL_law_423 := dSn 2 shL_law_421
theorem shL_law_424 : code.data.toList.drop 424 = sxL_law_424 := dSn 1 shL_law_423
theorem shL_law_425 : code.data.toList.drop 425 = sxL_law_425 := dSn 1 shL_law_424
theorem shL_law_428 : code.data.toList.drop 428 = sxL_law_428 := dSn 3 shL_law_425
theorem shL_law_429 : code.data.toList.drop 429 = sxL_law_429 := dSn 1 shL_law_428
theorem shL_law_430 : code.data.toList.drop 430 = sxL_law_430 := dSn 1 shL_law_429
theorem shL_law_431 : code.data.toList.drop 431 = sxL_law_431 := dSn 1 shL_law_430
theorem shL_law_432 : code.data.toList.drop 432 = sxL_law_432 := dSn 1 shL_law_431
theorem shL_law_433 : code.data.toList.drop 433 = sxL_law_433 := dSn 1 shL_law_432
theorem shL_law_434 : code.data.toList.drop 434 = sxL_law_434 := dSn 1 shL_law_433
theorem shL_law_435 : code.data.toList.drop 435 = sxL_law_435 := dSn 1 shL_law_434
theorem shL_law_436 : code.data.toList.drop 436 = sxL_law_436 := dSn 1 shL_law_435
theorem shL_law_437 : code.data.toList.drop 437 = sxL_law_437 := dSn 1 shL_law_436
theorem shL_law_438 : code.data.toList.drop 438 = sxL_law_438 := dSn 1 shL_law_437
theorem shL_law_439 : code.data.toList.drop 439 = sxL_law_439 := dSn 1 shL_law_438
theorem shL_law_440 : code.data.toList.drop 440 = sxL_law_440 := dSn 1 shL_law_439
theorem shL_law_441 : code.data.toList.drop 441 = sxL_law_441 := dSn 1 shL_law_440
theorem shL_law_442 : code.data.toList.drop 442 = sxL_law_442 := dSn 1 shL_law_441
theorem shL_law_443 : code.data.toList.drop 443 = sxL_law_443 := dSn 1 shL_law_442
theorem shL_law_444 : code.data.toList.drop 444 = sxL_law_444 := dSn 1 shL_law_443
theorem shL_law_445 : code.data.toList.drop 445 = sxL_law_445 := dSn 1 shL_law_444
theorem shL_law_446 : code.data.toList.drop 446 = sxL_law_446 := dSn 1 shL_law_445
theorem shL_law_447 : code.data.toList.drop 447 = sxL_law_447 := dSn 1 shL_law_446
theorem shL_law_448 : code.data.toList.drop 448 = sxL_law_448 := dSn 1 shL_law_447
theorem shL_law_449 : code.data.toList.drop 449 = sxL_law_449 := dSn 1 shL_law_448
theorem shL_law_450 : code.data.toList.drop 450 = sxL_law_450 := dSn 1 shL_law_449
theorem shL_law_451 : code.data.toList.drop 451 = sxL_law_451 := dSn 1 shL_law_450
theorem shL_law_452 : code.data.toList.drop 452 = sxL_law_452 := dSn 1 shL_law_451
theorem shL_law_453 : code.data.toList.drop 453 = sxL_law_453 := dSn 1 shL_law_452
theorem shL_law_454 : code.data.toList.drop 454 = sxL_law_454 := dSn 1 shL_law_453
theorem shL_law_455 : code.data.toList.drop 455 = sxL_law_455 := dSn 1 shL_law_454
theorem shL_law_456 : code.data.toList.drop 456 = sxL_law_456 := dSn 1 shL_law_455
theorem shL_law_457 : code.data.toList.drop 457 = sxL_law_457 := dSn 1 shL_law_456
theorem shL_law_459 : code.data.toList.drop 459 = sxL_law_459 := dSn 2 shL_law_457
theorem shL_law_460 : code.data.toList.drop 460 = sxL_law_460 := dSn 1 shL_law_459
theorem shL_law_461 : code.data.toList.drop 461 = sxL_law_461 := dSn 1 shL_law_460
theorem shL_law_464 : code.data.toList.drop 464 = sxL_law_464 := dSn 3 shL_law_461
theorem shL_law_465 : code.data.toList.drop 465 = sxL_law_465 := dSn 1 shL_law_464
theorem shL_law_468 : code.data.toList.drop 468 = sxL_law_468 := dSn 3 shL_law_465
theorem shL_law_469 : code.data.toList.drop 469 = sxL_law_469 := dSn 1 shL_law_468
theorem shL_law_470 : code.data.toList.drop 470 = sxL_law_470 := dSn 1 shL_law_469
theorem shL_law_471 : code.data.toList.drop 471 = sxL_law_471 := dSn 1 shL_law_470
theorem shL_law_472 : code.data.toList.drop 472 = sxL_law_472 := dSn 1 shL_law_471
theorem shL_law_473 : code.data.toList.drop 473 = sxL_law_473 := dSn 1 shL_law_472
theorem shL_law_474 : code.data.toList.drop 474 = sxL_law_474 := dSn 1 shL_law_473
theorem shL_law_475 : code.data.toList.drop 475 = sxL_law_475 := dSn 1 shL_law_474
theorem shL_law_476 : code.data.toList.drop 476 = sxL_law_476 := dSn 1 shL_law_475
theorem shL_law_477 : code.data.toList.drop 477 = sxL_law_477 := dSn 1 shL_law_476
theorem shL_law_478 : code.data.toList.drop 478 = sxL_law_478 := dSn 1 shL_law_477
theorem shL_law_479 : code.data.toList.drop 479 = sxL_law_479 := dSn 1 shL_law_478
theorem shL_law_480 : code.data.toList.drop 480 = sxL_law_480 := dSn 1 shL_law_479
theorem shL_law_481 : code.data.toList.drop 481 = sxL_law_481 := dSn 1 shL_law_480
theorem shL_law_482 : code.data.toList.drop 482 = sxL_law_482 := dSn 1 shL_law_481
theorem shL_law_483 : code.data.toList.drop 483 = sxL_law_483 := dSn 1 shL_law_482
theorem shL_law_484 : code.data.toList.drop 484 = sxL_law_484 := dSn 1 shL_law_483
theorem shL_law_485 : code.data.toList.drop 485 = sxL_law_485 := dSn 1 shL_law_484
theorem shL_law_486 : code.data.toList.drop 486 = sxL_law_486 := dSn 1 shL_law_485
theorem shL_law_487 : code.data.toList.drop 487 = sxL_law_487 := dSn 1 shL_law_486
theorem shL_law_488 : code.data.toList.drop 488 = sxL_law_488 := dSn 1 shL_law_487
theorem shL_law_489 : code.data.toList.drop 489 = sxL_law_489 := dSn 1 shL_law_488
theorem shL_law_490 : code.data.toList.drop 490 = sxL_law_490 := dSn 1 shL_law_489
theorem shL_law_491 : code.data.toList.drop 491 = sxL_law_491 := dSn 1 shL_law_490
theorem shL_law_492 : code.data.toList.drop 492 = sxL_law_492 := dSn 1 shL_law_491
theorem shL_law_493 : code.data.toList.drop 493 = sxL_law_493 := dSn 1 shL_law_492
theorem shL_law_494 : code.data.toList.drop 494 = sxL_law_494 := dSn 1 shL_law_493
theorem shL_law_497 : code.data.toList.drop 497 = sxL_law_497 := dSn 3 shL_law_494
theorem shL_law_498 : code.data.toList.drop 498 = sxL_law_498 := dSn 1 shL_law_497
theorem shL_law_499 : code.data.toList.drop 499 = sxL_law_499 := dSn 1 shL_law_498
theorem shL_law_500 : code.data.toList.drop 500 = sxL_law_500 := dSn 1 shL_law_499
theorem shL_law_501 : code.data.toList.drop 501 = sxL_law_501 := dSn 1 shL_law_500
theorem shL_law_502 : code.data.toList.drop 502 = sxL_law_502 := dSn 1 shL_law_501
theorem shL_law_503 : code.data.toList.drop 503 = sxL_law_503 := dSn 1 shL_law_502
theorem shL_law_504 : code.data.toList.drop 504 = sxL_law_504 := dSn 1 shL_law_503
theorem shL_law_505 : code.data.toList.drop 505 = sxL_law_505 := dSn 1 shL_law_504
theorem shL_law_506 : code.data.toList.drop 506 = sxL_law_506 := dSn 1 shL_law_505
theorem shL_law_507 : code.data.toList.drop 507 = sxL_law_507 := dSn 1 shL_law_506
theorem shL_law_508 : code.data.toList.drop 508 = sxL_law_508 := dSn 1 shL_law_507
theorem shL_law_509 : code.data.toList.drop 509 = sxL_law_509 := dSn 1 shL_law_508
theorem shL_law_510 : code.data.toList.drop 510 = sxL_law_510 := dSn 1 shL_law_509
theorem shL_law_511 : code.data.toList.drop 511 = sxL_law_511 := dSn 1 shL_law_510
theorem shL_law_512 : code.data.toList.drop 512 = sxL_law_512 := dSn 1 shL_law_511
theorem shL_law_513 : code.data.toList.drop 513 = sxL_law_513 := dSn 1 shL_law_512
theorem shL_law_514 : code.data.toList.drop 514 = sxL_law_514 := dSn 1 shL_law_513
theorem shL_law_515 : code.data.toList.drop 515 = sxL_law_515 := dSn 1 shL_law_514
theorem shL_law_516 : code.data.toList.drop 516 = sxL_law_516 := dSn 1 shL_law_515
theorem shL_law_517 : code.data.toList.drop 517 = sxL_law_517 := dSn 1 shL_law_516
theorem shL_law_518 : code.data.toList.drop 518 = sxL_law_518 := dSn 1 shL_law_517
theorem shL_law_519 : code.data.toList.drop 519 = sxL_law_519 := dSn 1 shL_law_518
theorem shL_law_520 : code.data.toList.drop 520 = sxL_law_520 := dSn 1 shL_law_519
theorem shL_law_521 : code.data.toList.drop 521 = sxL_law_521 := dSn 1 shL_law_520
theorem shL_law_522 : code.data.toList.drop 522 = sxL_law_522 := dSn 1 shL_law_521
theorem shL_law_523 : code.data.toList.drop 523 = sxL_law_523 := dSn 1 shL_law_522
theorem shL_law_524 : code.data.toList.drop 524 = sxL_law_524 := dSn 1 shL_law_523
theorem shL_law_527 : code.data.toList.drop 527 = sxL_law_527 := dSn 3 shL_law_524
theorem shL_law_528 : code.data.toList.drop 528 = sxL_law_528 := dSn 1 shL_law_527
theorem shL_law_531 : code.data.toList.drop 531 = sxL_law_531 := dSn 3 shL_law_528
theorem shL_law_532 : code.data.toList.drop 532 = sxL_law_532 := dSn 1 shL_law_531
theorem shL_law_533 : code.data.toList.drop 533 = sxL_law_533 := dSn 1 shL_law_532
theorem shL_law_534 : code.data.toList.drop 534 = sxL_law_534 := dSn 1 shL_law_533
theorem shL_law_535 : code.data.toList.drop 535 = sxL_law_535 := dSn 1 shL_law_534
theorem shL_law_536 : code.data.toList.drop 536 = sxL_law_536 := dSn 1 shL_law_535
theorem shL_law_537 : code.data.toList.drop 537 = sxL_law_537 := dSn 1 shL_law_536
theorem shL_law_538 : code.data.toList.drop 538 = sxL_law_538 := dSn 1 shL_law_537
theorem shL_law_539 : code.data.toList.drop 539 = sxL_law_539 := dSn 1 shL_law_538
theorem shL_law_540 : code.data.toList.drop 540 = sxL_law_540 := dSn 1 shL_law_539
theorem shL_law_541 : code.data.toList.drop 541 = sxL_law_541 := dSn 1 shL_law_540
theorem shL_law_542 : code.data.toList.drop 542 = sxL_law_542 := dSn 1 shL_law_541
theorem shL_law_545 : code.data.toList.drop 545 = sxL_law_545 := dSn 3 shL_law_542
theorem shL_law_546 : code.data.toList.drop 546 = sxL_law_546 := dSn 1 shL_law_545
theorem shL_law_547 : code.data.toList.drop 547 = sxL_law_547 := dSn 1 shL_law_546
theorem shL_law_548 : code.data.toList.drop 548 = sxL_law_548 := dSn 1 shL_law_547
theorem shL_law_549 : code.data.toList.drop 549 = sxL_law_549 := dSn 1 shL_law_548
theorem shL_law_550 : code.data.toList.drop 550 = sxL_law_550 := dSn 1 shL_law_549
theorem shL_law_551 : code.data.toList.drop 551 = sxL_law_551 := dSn 1 shL_law_550
theorem shL_law_552 : code.data.toList.drop 552 = sxL_law_552 := dSn 1 shL_law_551
theorem shL_law_553 : code.data.toList.drop 553 = sxL_law_553 := dSn 1 shL_law_552
theorem shL_law_554 : code.data.toList.drop 554 = sxL_law_554 := dSn 1 shL_law_553
theorem shL_law_555 : code.data.toList.drop 555 = sxL_law_555 := dSn 1 shL_law_554
theorem shL_law_556 : code.data.toList.drop 556 = sxL_law_556 := dSn 1 shL_law_555
theorem shL_law_557 : code.data.toList.drop 557 = sxL_law_557 := dSn 1 shL_law_556
theorem shL_law_560 : code.data.toList.drop 560 = sxL_law_560 := dSn 3 shL_law_557
theorem shL_law_561 : code.data.toList.drop 561 = sxL_law_561 := dSn 1 shL_law_560
theorem shL_law_564 : code.data.toList.drop 564 = sxL_law_564 := dSn 3 shL_law_561
theorem shL_law_565 : code.data.toList.drop 565 = sxL_law_565 := dSn 1 shL_law_564
theorem shL_law_566 : code.data.toList.drop 566 = sxL_law_566 := dSn 1 shL_law_565
theorem shL_law_567 : code.data.toList.drop 567 = sxL_law_567 := dSn 1 shL_law_566
theorem shL_law_568 : code.data.toList.drop 568 = sxL_law_568 := dSn 1 shL_law_567
theorem shL_law_569 : code.data.toList.drop 569 = sxL_law_569 := dSn 1 shL_law_568
theorem shL_law_570 : code.data.toList.drop 570 = sxL_law_570 := dSn 1 shL_law_569
theorem shL_law_573 : code.data.toList.drop 573 = sxL_law_573 := dSn 3 shL_law_570
theorem shL_law_574 : code.data.toList.drop 574 = sxL_law_574 := dSn 1 shL_law_573
theorem shL_law_575 : code.data.toList.drop 575 = sxL_law_575 := dSn 1 shL_law_574
theorem shL_law_576 : code.data.toList.drop 576 = sxL_law_576 := dSn 1 shL_law_575
theorem shL_law_577 : code.data.toList.drop 577 = sxL_law_577 := dSn 1 shL_law_576
theorem shL_law_578 : code.data.toList.drop 578 = sxL_law_578 := dSn 1 shL_law_577
theorem shL_law_579 : code.data.toList.drop 579 = sxL_law_579 := dSn 1 shL_law_578
theorem shL_law_580 : code.data.toList.drop 580 = sxL_law_580 := dSn 1 shL_law_579
theorem shL_law_583 : code.data.toList.drop 583 = sxL_law_583 := dSn 3 shL_law_580
theorem shL_law_584 : code.data.toList.drop 584 = sxL_law_584 := dSn 1 shL_law_583
theorem shL_law_587 : code.data.toList.drop 587 = sxL_law_587 := dSn 3 shL_law_584
theorem shL_law_588 : code.data.toList.drop 588 = sxL_law_588 := dSn 1 shL_law_587
theorem shL_law_589 : code.data.toList.drop 589 = sxL_law_589 := dSn 1 shL_law_588
theorem shL_law_590 : code.data.toList.drop 590 = sxL_law_590 := dSn 1 shL_law_589
theorem shL_law_591 : code.data.toList.drop 591 = sxL_law_591 := dSn 1 shL_law_590
theorem shL_law_592 : code.data.toList.drop 592 = sxL_law_592 := dSn 1 shL_law_591
theorem shL_law_593 : code.data.toList.drop 593 = sxL_law_593 := dSn 1 shL_law_592
theorem shL_law_594 : code.data.toList.drop 594 = sxL_law_594 := dSn 1 shL_law_593
theorem shL_law_595 : code.data.toList.drop 595 = sxL_law_595 := dSn 1 shL_law_594
theorem shL_law_596 : code.data.toList.drop 596 = sxL_law_596 := dSn 1 shL_law_595
theorem shL_law_597 : code.data.toList.drop 597 = sxL_law_597 := dSn 1 shL_law_596
theorem shL_law_598 : code.data.toList.drop 598 = sxL_law_598 := dSn 1 shL_law_597
theorem shL_law_601 : code.data.toList.drop 601 = sxL_law_601 := dSn 3 shL_law_598
theorem shL_law_602 : code.data.toList.drop 602 = sxL_law_602 := dSn 1 shL_law_601
theorem shL_law_603 : code.data.toList.drop 603 = sxL_law_603 := dSn 1 shL_law_602
theorem shL_law_604 : code.data.toList.drop 604 = sxL_law_604 := dSn 1 shL_law_603
theorem shL_law_605 : code.data.toList.drop 605 = sxL_law_605 := dSn 1 shL_law_604
theorem shL_law_606 : code.data.toList.drop 606 = sxL_law_606 := dSn 1 shL_law_605
theorem shL_law_607 : code.data.toList.drop 607 = sxL_law_607 := dSn 1 shL_law_606
theorem shL_law_608 : code.data.toList.drop 608 = sxL_law_608 := dSn 1 shL_law_607
theorem shL_law_609 : code.data.toList.drop 609 = sxL_law_609 := dSn 1 shL_law_608
theorem shL_law_610 : code.data.toList.drop 610 = sxL_law_610 := dSn 1 shL_law_609
theorem shL_law_611 : code.data.toList.drop 611 = sxL_law_611 := dSn 1 shL_law_610
theorem shL_law_612 : code.data.toList.drop 612 = sxL_law_612 := dSn 1 shL_law_611
theorem shL_law_613 : code.data.toList.drop 613 = sxL_law_613 := dSn 1 shL_law_612
theorem shL_law_616 : code.data.toList.drop 616 = sxL_law_616 := dSn 3 shL_law_613
theorem shL_law_617 : code.data.toList.drop 617 = sxL_law_617 := dSn 1 shL_law_616
theorem shL_law_620 : code.data.toList.drop 620 = sxL_law_620 := dSn 3 shL_law_617
theorem shL_law_621 : code.data.toList.drop 621 = sxL_law_621 := dSn 1 shL_law_620
theorem shL_law_622 : code.data.toList.drop 622 = sxL_law_622 := dSn 1 shL_law_621
theorem shL_law_623 : code.data.toList.drop 623 = sxL_law_623 := dSn 1 shL_law_622
theorem shL_law_624 : code.data.toList.drop 624 = sxL_law_624 := dSn 1 shL_law_623
theorem shL_law_625 : code.data.toList.drop 625 = sxL_law_625 := dSn 1 shL_law_624
theorem shL_law_626 : code.data.toList.drop 626 = sxL_law_626 := dSn 1 shL_law_625
theorem shL_law_629 : code.data.toList.drop 629 = sxL_law_629 := dSn 3 shL_law_626
theorem shL_law_630 : code.data.toList.drop 630 = sxL_law_630 := dSn 1 shL_law_629
theorem shL_law_631 : code.data.toList.drop 631 = sxL_law_631 := dSn 1 shL_law_630
theorem shL_law_632 : code.data.toList.drop 632 = sxL_law_632 := dSn 1 shL_law_631
theorem shL_law_633 : code.data.toList.drop 633 = sxL_law_633 := dSn 1 shL_law_632
theorem shL_law_634 : code.data.toList.drop 634 = sxL_law_634 := dSn 1 shL_law_633
theorem shL_law_635 : code.data.toList.drop 635 = sxL_law_635 := dSn 1 shL_law_634
theorem shL_law_636 : code.data.toList.drop 636 = sxL_law_636 := dSn 1 shL_law_635
theorem shL_law_639 : code.data.toList.drop 639 = sxL_law_639 := dSn 3 shL_law_636
theorem shL_law_640 : code.data.toList.drop 640 = sxL_law_640 := dSn 1 shL_law_639
theorem shL_law_643 : code.data.toList.drop 643 = sxL_law_643 := dSn 3 shL_law_640
theorem shL_law_644 : code.data.toList.drop 644 = sxL_law_644 := dSn 1 shL_law_643
theorem shL_law_645 : code.data.toList.drop 645 = sxL_law_645 := dSn 1 shL_law_644
theorem shL_law_646 : code.data.toList.drop 646 = sxL_law_646 := dSn 1 shL_law_645
theorem shL_law_647 : code.data.toList.drop 647 = sxL_law_647 := dSn 1 shL_law_646
theorem shL_law_648 : code.data.toList.drop 648 = sxL_law_648 := dSn 1 shL_law_647
theorem shL_law_649 : code.data.toList.drop 649 = sxL_law_649 := dSn 1 shL_law_648
theorem shL_law_650 : code.data.toList.drop 650 = sxL_law_650 := dSn 1 shL_law_649
theorem shL_law_651 : code.data.toList.drop 651 = sxL_law_651 := dSn 1 shL_law_650
theorem shL_law_652 : code.data.toList.drop 652 = sxL_law_652 := dSn 1 shL_law_651
theorem shL_law_653 : code.data.toList.drop 653 = sxL_law_653 := dSn 1 shL_law_652
theorem shL_law_654 : code.data.toList.drop 654 = sxL_law_654 := dSn 1 shL_law_653
theorem shL_law_657 : code.data.toList.drop 657 = sxL_law_657 := dSn 3 shL_law_654
theorem shL_law_658 : code.data.toList.drop 658 = sxL_law_658 := dSn 1 shL_law_657
theorem shL_law_659 : code.data.toList.drop 659 = sxL_law_659 := dSn 1 shL_law_658
theorem shL_law_660 : code.data.toList.drop 660 = sxL_law_660 := dSn 1 shL_law_659
theorem shL_law_661 : code.data.toList.drop 661 = sxL_law_661 := dSn 1 shL_law_660
theorem shL_law_662 : code.data.toList.drop 662 = sxL_law_662 := dSn 1 shL_law_661
theorem shL_law_663 : code.data.toList.drop 663 = sxL_law_663 := dSn 1 shL_law_662
theorem shL_law_664 : code.data.toList.drop 664 = sxL_law_664 := dSn 1 shL_law_663
theorem shL_law_665 : code.data.toList.drop 665 = sxL_law_665 := dSn 1 shL_law_664
theorem shL_law_666 : code.data.toList.drop 666 = sxL_law_666 := dSn 1 shL_law_665
theorem shL_law_667 : code.data.toList.drop 667 = sxL_law_667 := dSn 1 shL_law_666
theorem shL_law_668 : code.data.toList.drop 668 = sxL_law_668 := dSn 1 shL_law_667
theorem shL_law_669 : code.data.toList.drop 669 = sxL_law_669 := dSn 1 shL_law_668
theorem shL_law_672 : code.data.toList.drop 672 = sxL_law_672 := dSn 3 shL_law_669
theorem shL_law_673 : code.data.toList.drop 673 = sxL_law_673 := dSn 1 shL_law_672
theorem shL_law_676 : code.data.toList.drop 676 = sxL_law_676 := dSn 3 shL_law_673
theorem shL_law_677 : code.data.toList.drop 677 = sxL_law_677 := dSn 1 shL_law_676
theorem shL_law_678 : code.data.toList.drop 678 = sxL_law_678 := dSn 1 shL_law_677
theorem shL_law_679 : code.data.toList.drop 679 = sxL_law_679 := dSn 1 shL_law_678
theorem shL_law_680 : code.data.toList.drop 680 = sxL_law_680 := dSn 1 shL_law_679
theorem shL_law_681 : code.data.toList.drop 681 = sxL_law_681 := dSn 1 shL_law_680
theorem shL_law_682 : code.data.toList.drop 682 = sxL_law_682 := dSn 1 shL_law_681
theorem shL_law_685 : code.data.toList.drop 685 = sxL_law_685 := dSn 3 shL_law_682
theorem shL_law_686 : code.data.toList.drop 686 = sxL_law_686 := dSn 1 shL_law_685
theorem shL_law_687 : code.data.toList.drop 687 = sxL_law_687 := dSn 1 shL_law_686
theorem shL_law_688 : code.data.toList.drop 688 = sxL_law_688 := dSn 1 shL_law_687
theorem shL_law_689 : code.data.toList.drop 689 = sxL_law_689 := dSn 1 shL_law_688
theorem shL_law_690 : code.data.toList.drop 690 = sxL_law_690 := dSn 1 shL_law_689
theorem shL_law_691 : code.data.toList.drop 691 = sxL_law_691 := dSn 1 shL_law_690
theorem shL_law_692 : code.data.toList.drop 692 = sxL_law_692 := dSn 1 shL_law_691
theorem shL_law_695 : code.data.toList.drop 695 = sxL_law_695 := dSn 3 shL_law_692
theorem shL_law_696 : code.data.toList.drop 696 = sxL_law_696 := dSn 1 shL_law_695
theorem shL_law_699 : code.data.toList.drop 699 = sxL_law_699 := dSn 3 shL_law_696
theorem shL_law_700 : code.data.toList.drop 700 = sxL_law_700 := dSn 1 shL_law_699
theorem shL_law_701 : code.data.toList.drop 701 = sxL_law_701 := dSn 1 shL_law_700
theorem shL_law_702 : code.data.toList.drop 702 = sxL_law_702 := dSn 1 shL_law_701
theorem shL_law_703 : code.data.toList.drop 703 = sxL_law_703 := dSn 1 shL_law_702
theorem shL_law_704 : code.data.toList.drop 704 = sxL_law_704 := dSn 1 shL_law_703
theorem shL_law_705 : code.data.toList.drop 705 = sxL_law_705 := dSn 1 shL_law_704
theorem shL_law_706 : code.data.toList.drop 706 = sxL_law_706 := dSn 1 shL_law_705
theorem shL_law_707 : code.data.toList.drop 707 = sxL_law_707 := dSn 1 shL_law_706
theorem shL_law_708 : code.data.toList.drop 708 = sxL_law_708 := dSn 1 shL_law_707
theorem shL_law_709 : code.data.toList.drop 709 = sxL_law_709 := dSn 1 shL_law_708
theorem shL_law_710 : code.data.toList.drop 710 = sxL_law_710 := dSn 1 shL_law_709
theorem shL_law_713 : code.data.toList.drop 713 = sxL_law_713 := dSn 3 shL_law_710
theorem shL_law_714 : code.data.toList.drop 714 = sxL_law_714 := dSn 1 shL_law_713
theorem shL_law_715 : code.data.toList.drop 715 = sxL_law_715 := dSn 1 shL_law_714
theorem shL_law_716 : code.data.toList.drop 716 = sxL_law_716 := dSn 1 shL_law_715
theorem shL_law_717 : code.data.toList.drop 717 = sxL_law_717 := dSn 1 shL_law_716
theorem shL_law_718 : code.data.toList.drop 718 = sxL_law_718 := dSn 1 shL_law_717
theorem shL_law_719 : code.data.toList.drop 719 = sxL_law_719 := dSn 1 shL_law_718
theorem shL_law_720 : code.data.toList.drop 720 = sxL_law_720 := dSn 1 shL_law_719
theorem shL_law_721 : code.data.toList.drop 721 = sxL_law_721 := dSn 1 shL_law_720
theorem shL_law_722 : code.data.toList.drop 722 = sxL_law_722 := dSn 1 shL_law_721
theorem shL_law_723 : code.data.toList.drop 723 = sxL_law_723 := dSn 1 shL_law_722
theorem shL_law_724 : code.data.toList.drop 724 = sxL_law_724 := dSn 1 shL_law_723
theorem shL_law_725 : code.data.toList.drop 725 = sxL_law_725 := dSn 1 shL_law_724
theorem shL_law_728 : code.data.toList.drop 728 = sxL_law_728 := dSn 3 shL_law_725
theorem shL_law_729 : code.data.toList.drop 729 = sxL_law_729 := dSn 1 shL_law_728
theorem shL_law_732 : code.data.toList.drop 732 = sxL_law_732 := dSn 3 shL_law_729
theorem shL_law_733 : code.data.toList.drop 733 = sxL_law_733 := dSn 1 shL_law_732
theorem shL_law_734 : code.data.toList.drop 734 = sxL_law_734 := dSn 1 shL_law_733
theorem shL_law_735 : code.data.toList.drop 735 = sxL_law_735 := dSn 1 shL_law_734
theorem shL_law_736 : code.data.toList.drop 736 = sxL_law_736 := dSn 1 shL_law_735
theorem shL_law_737 : code.data.toList.drop 737 = sxL_law_737 := dSn 1 shL_law_736
theorem shL_law_738 : code.data.toList.drop 738 = sxL_law_738 := dSn 1 shL_law_737
theorem shL_law_739 : code.data.toList.drop 739 = sxL_law_739 := dSn 1 shL_law_738
theorem shL_law_740 : code.data.toList.drop 740 = sxL_law_740 := dSn 1 shL_law_739
theorem shL_law_741 : code.data.toList.drop 741 = sxL_law_741 := dSn 1 shL_law_740
theorem shL_law_742 : code.data.toList.drop 742 = sxL_law_742 := dSn 1 shL_law_741
theorem shL_law_743 : code.data.toList.drop 743 = sxL_law_743 := dSn 1 shL_law_742
theorem shL_law_744 : code.data.toList.drop 744 = sxL_law_744 := dSn 1 shL_law_743
theorem shL_law_745 : code.data.toList.drop 745 = sxL_law_745 := dSn 1 shL_law_744
theorem shL_law_746 : code.data.toList.drop 746 = sxL_law_746 := dSn 1 shL_law_745
theorem shL_law_747 : code.data.toList.drop 747 = sxL_law_747 := dSn 1 shL_law_746
theorem shL_law_748 : code.data.toList.drop 748 = sxL_law_748 := dSn 1 shL_law_747
theorem shL_law_751 : code.data.toList.drop 751 = sxL_law_751 := dSn 3 shL_law_748
theorem shL_law_752 : code.data.toList.drop 752 = sxL_law_752 := dSn 1 shL_law_751
theorem shL_law_753 : code.data.toList.drop 753 = sxL_law_753 := dSn 1 shL_law_752
theorem shL_law_754 : code.data.toList.drop 754 = sxL_law_754 := dSn 1 shL_law_753
theorem shL_law_755 : code.data.toList.drop 755 = sxL_law_755 := dSn 1 shL_law_754
theorem shL_law_756 : code.data.toList.drop 756 = sxL_law_756 := dSn 1 shL_law_755
theorem shL_law_757 : code.data.toList.drop 757 = sxL_law_757 := dSn 1 shL_law_756
theorem shL_law_758 : code.data.toList.drop 758 = sxL_law_758 := dSn 1 shL_law_757
theorem shL_law_759 : code.data.toList.drop 759 = sxL_law_759 := dSn 1 shL_law_758
theorem shL_law_760 : code.data.toList.drop 760 = sxL_law_760 := dSn 1 shL_law_759
theorem shL_law_761 : code.data.toList.drop 761 = sxL_law_761 := dSn 1 shL_law_760
theorem shL_law_762 : code.data.toList.drop 762 = sxL_law_762 := dSn 1 shL_law_761
theorem shL_law_763 : code.data.toList.drop 763 = sxL_law_763 := dSn 1 shL_law_762
theorem shL_law_764 : code.data.toList.drop 764 = sxL_law_764 := dSn 1 shL_law_763
theorem shL_law_765 : code.data.toList.drop 765 = sxL_law_765 := dSn 1 shL_law_764
theorem shL_law_766 : code.data.toList.drop 766 = sxL_law_766 := dSn 1 shL_law_765
theorem shL_law_767 : code.data.toList.drop 767 = sxL_law_767 := dSn 1 shL_law_766
theorem shL_law_768 : code.data.toList.drop 768 = sxL_law_768 := dSn 1 shL_law_767
theorem shL_law_771 : code.data.toList.drop 771 = sxL_law_771 := dSn 3 shL_law_768
theorem shL_law_772 : code.data.toList.drop 772 = sxL_law_772 := dSn 1 shL_law_771
theorem shL_law_775 : code.data.toList.drop 775 = sxL_law_775 := dSn 3 shL_law_772
theorem shL_law_776 : code.data.toList.drop 776 = sxL_law_776 := dSn 1 shL_law_775
theorem shL_law_777 : code.data.toList.drop 777 = sxL_law_777 := dSn 1 shL_law_776
theorem shL_law_778 : code.data.toList.drop 778 = sxL_law_778 := dSn 1 shL_law_777
theorem shL_law_779 : code.data.toList.drop 779 = sxL_law_779 := dSn 1 shL_law_778
theorem shL_law_780 : code.data.toList.drop 780 = sxL_law_780 := dSn 1 shL_law_779
theorem shL_law_781 : code.data.toList.drop 781 = sxL_law_781 := dSn 1 shL_law_780
theorem shL_law_784 : code.data.toList.drop 784 = sxL_law_784 := dSn 3 shL_law_781
theorem shL_law_785 : code.data.toList.drop 785 = sxL_law_785 := dSn 1 shL_law_784
theorem shL_law_786 : code.data.toList.drop 786 = sxL_law_786 := dSn 1 shL_law_785
theorem shL_law_787 : code.data.toList.drop 787 = sxL_law_787 := dSn 1 shL_law_786
theorem shL_law_788 : code.data.toList.drop 788 = sxL_law_788 := dSn 1 shL_law_787
theorem shL_law_789 : code.data.toList.drop 789 = sxL_law_789 := dSn 1 shL_law_788
theorem shL_law_790 : code.data.toList.drop 790 = sxL_law_790 := dSn 1 shL_law_789
theorem shL_law_791 : code.data.toList.drop 791 = sxL_law_791 := dSn 1 shL_law_790
theorem shL_law_794 : code.data.toList.drop 794 = sxL_law_794 := dSn 3 shL_law_791
theorem shL_law_795 : code.data.toList.drop 795 = sxL_law_795 := dSn 1 shL_law_794
theorem shL_law_798 : code.data.toList.drop 798 = sxL_law_798 := dSn 3 shL_law_795
theorem shL_law_799 : code.data.toList.drop 799 = sxL_law_799 := dSn 1 shL_law_798
theorem shL_law_800 : code.data.toList.drop 800 = sxL_law_800 := dSn 1 shL_law_799
theorem shL_law_801 : code.data.toList.drop 801 = sxL_law_801 := dSn 1 shL_law_800
theorem shL_law_802 : code.data.toList.drop 802 = sxL_law_802 := dSn 1 shL_law_801
theorem shL_law_803 : code.data.toList.drop 803 = sxL_law_803 := dSn 1 shL_law_802
theorem shL_law_804 : code.data.toList.drop 804 = sxL_law_804 := dSn 1 shL_law_803
theorem shL_law_807 : code.data.toList.drop 807 = sxL_law_807 := dSn 3 shL_law_804
theorem shL_law_808 : code.data.toList.drop 808 = sxL_law_808 := dSn 1 shL_law_807
theorem shL_law_809 : code.data.toList.drop 809 = sxL_law_809 := dSn 1 shL_law_808
theorem shL_law_810 : code.data.toList.drop 810 = sxL_law_810 := dSn 1 shL_law_809
theorem shL_law_811 : code.data.toList.drop 811 = sxL_law_811 := dSn 1 shL_law_810
theorem shL_law_812 : code.data.toList.drop 812 = sxL_law_812 := dSn 1 shL_law_811
theorem shL_law_813 : code.data.toList.drop 813 = sxL_law_813 := dSn 1 shL_law_812
theorem shL_law_814 : code.data.toList.drop 814 = sxL_law_814 := dSn 1 shL_law_813
theorem shL_law_817 : code.data.toList.drop 817 = sxL_law_817 := dSn 3 shL_law_814
theorem shL_law_818 : code.data.toList.drop 818 = sxL_law_818 := dSn 1 shL_law_817
theorem shL_law_821 : code.data.toList.drop 821 = sxL_law_821 := dSn 3 shL_law_818
theorem shL_law_822 : code.data.toList.drop 822 = sxL_law_822 := dSn 1 shL_law_821
theorem shL_law_823 : code.data.toList.drop 823 = sxL_law_823 := dSn 1 shL_law_822
theorem shL_law_824 : code.data.toList.drop 824 = sxL_law_824 := dSn 1 shL_law_823
theorem shL_law_825 : code.data.toList.drop 825 = sxL_law_825 := dSn 1 shL_law_824
theorem shL_law_826 : code.data.toList.drop 826 = sxL_law_826 := dSn 1 shL_law_825
theorem shL_law_827 : code.data.toList.drop 827 = sxL_law_827 := dSn 1 shL_law_826
theorem shL_law_828 : code.data.toList.drop 828 = sxL_law_828 := dSn 1 shL_law_827
theorem shL_law_829 : code.data.toList.drop 829 = sxL_law_829 := dSn 1 shL_law_828
theorem shL_law_830 : code.data.toList.drop 830 = sxL_law_830 := dSn 1 shL_law_829
theorem shL_law_831 : code.data.toList.drop 831 = sxL_law_831 := dSn 1 shL_law_830
theorem shL_law_832 : code.data.toList.drop 832 = sxL_law_832 := dSn 1 shL_law_831
theorem shL_law_835 : code.data.toList.drop 835 = sxL_law_835 := dSn 3 shL_law_832
theorem shL_law_836 : code.data.toList.drop 836 = sxL_law_836 := dSn 1 shL_law_835
theorem shL_law_837 : code.data.toList.drop 837 = sxL_law_837 := dSn 1 shL_law_836
theorem shL_law_838 : code.data.toList.drop 838 = sxL_law_838 := dSn 1 shL_law_837
theorem shL_law_839 : code.data.toList.drop 839 = sxL_law_839 := dSn 1 shL_law_838
theorem shL_law_840 : code.data.toList.drop 840 = sxL_law_840 := dSn 1 shL_law_839
theorem shL_law_841 : code.data.toList.drop 841 = sxL_law_841 := dSn 1 shL_law_840
theorem shL_law_842 : code.data.toList.drop 842 = sxL_law_842 := dSn 1 shL_law_841
theorem shL_law_843 : code.data.toList.drop 843 = sxL_law_843 := dSn 1 shL_law_842
theorem shL_law_844 : code.data.toList.drop 844 = sxL_law_844 := dSn 1 shL_law_843
theorem shL_law_845 : code.data.toList.drop 845 = sxL_law_845 := dSn 1 shL_law_844
theorem shL_law_846 : code.data.toList.drop 846 = sxL_law_846 := dSn 1 shL_law_845
theorem shL_law_847 : code.data.toList.drop 847 = sxL_law_847 := dSn 1 shL_law_846
theorem shL_law_850 : code.data.toList.drop 850 = sxL_law_850 := dSn 3 shL_law_847
theorem shL_law_851 : code.data.toList.drop 851 = sxL_law_851 := dSn 1 shL_law_850
theorem shL_law_854 : code.data.toList.drop 854 = sxL_law_854 := dSn 3 shL_law_851
theorem shL_law_855 : code.data.toList.drop 855 = sxL_law_855 := dSn 1 shL_law_854
theorem shL_law_858 : code.data.toList.drop 858 = sxL_law_858 := dSn 3 shL_law_855
theorem shL_law_859 : code.data.toList.drop 859 = sxL_law_859 := dSn 1 shL_law_858
theorem shL_law_860 : code.data.toList.drop 860 = sxL_law_860 := dSn 1 shL_law_859
theorem shL_law_863 : code.data.toList.drop 863 = sxL_law_863 := dSn 3 shL_law_860
theorem shL_law_864 : code.data.toList.drop 864 = sxL_law_864 := dSn 1 shL_law_863
theorem shL_law_867 : code.data.toList.drop 867 = sxL_law_867 := dSn 3 shL_law_864
theorem shL_law_868 : code.data.toList.drop 868 = sxL_law_868 := dSn 1 shL_law_867
theorem shL_law_869 : code.data.toList.drop 869 = sxL_law_869 := dSn 1 shL_law_868
theorem shL_law_870 : code.data.toList.drop 870 = sxL_law_870 := dSn 1 shL_law_869
theorem shL_law_871 : code.data.toList.drop 871 = sxL_law_871 := dSn 1 shL_law_870
theorem shL_law_872 : code.data.toList.drop 872 = sxL_law_872 := dSn 1 shL_law_871
theorem shL_law_873 : code.data.toList.drop 873 = sxL_law_873 := dSn 1 shL_law_872
theorem shL_law_874 : code.data.toList.drop 874 = sxL_law_874 := dSn 1 shL_law_873
theorem shL_law_875 : code.data.toList.drop 875 = sxL_law_875 := dSn 1 shL_law_874
theorem shL_law_876 : code.data.toList.drop 876 = sxL_law_876 := dSn 1 shL_law_875
theorem shL_law_877 : code.data.toList.drop 877 = sxL_law_877 := dSn 1 shL_law_876
theorem shL_law_878 : code.data.toList.drop 878 = sxL_law_878 := dSn 1 shL_law_877
theorem shL_law_879 : code.data.toList.drop 879 = sxL_law_879 := dSn 1 shL_law_878
theorem shL_law_880 : code.data.toList.drop 880 = sxL_law_880 := dSn 1 shL_law_879
theorem shL_law_881 : code.data.toList.drop 881 = sxL_law_881 := dSn 1 shL_law_880
theorem shL_law_882 : code.data.toList.drop 882 = sxL_law_882 := dSn 1 shL_law_881
theorem shL_law_883 : code.data.toList.drop 883 = sxL_law_883 := dSn 1 shL_law_882
theorem shL_law_884 : code.data.toList.drop 884 = sxL_law_884 := dSn 1 shL_law_883
theorem shL_law_885 : code.data.toList.drop 885 = sxL_law_885 := dSn 1 shL_law_884
theorem shL_law_886 : code.data.toList.drop 886 = sxL_law_886 := dSn 1 shL_law_885
theorem shL_law_887 : code.data.toList.drop 887 = sxL_law_887 := dSn 1 shL_law_886
theorem shL_law_888 : code.data.toList.drop 888 = sxL_law_888 := dSn 1 shL_law_887
theorem shL_law_891 : code.data.toList.drop 891 = sxL_law_891 := dSn 3 shL_law_888
theorem shL_law_892 : code.data.toList.drop 892 = sxL_law_892 := dSn 1 shL_law_891
theorem shL_law_893 : code.data.toList.drop 893 = sxL_law_893 := dSn 1 shL_law_892
theorem shL_law_894 : code.data.toList.drop 894 = sxL_law_894 := dSn 1 shL_law_893
theorem shL_law_895 : code.data.toList.drop 895 = sxL_law_895 := dSn 1 shL_law_894
theorem shL_law_896 : code.data.toList.drop 896 = sxL_law_896 := dSn 1 shL_law_895
theorem shL_law_897 : code.data.toList.drop 897 = sxL_law_897 := dSn 1 shL_law_896
theorem shL_law_898 : code.data.toList.drop 898 = sxL_law_898 := dSn 1 shL_law_897
theorem shL_law_899 : code.data.toList.drop 899 = sxL_law_899 := dSn 1 shL_law_898
theorem shL_law_900 : code.data.toList.drop 900 = sxL_law_900 := dSn 1 shL_law_899
theorem shL_law_901 : code.data.toList.drop 901 = sxL_law_901 := dSn 1 shL_law_900
theorem shL_law_902 : code.data.toList.drop 902 = sxL_law_902 := dSn 1 shL_law_901
theorem shL_law_903 : code.data.toList.drop 903 = sxL_law_903 := dSn 1 shL_law_902
theorem shL_law_904 : code.data.toList.drop 904 = sxL_law_904 := dSn 1 shL_law_903
theorem shL_law_905 : code.data.toList.drop 905 = sxL_law_905 := dSn 1 shL_law_904
theorem shL_law_906 : code.data.toList.drop 906 = sxL_law_906 := dSn 1 shL_law_905
theorem shL_law_907 : code.data.toList.drop 907 = sxL_law_907 := dSn 1 shL_law_906
theorem shL_law_908 : code.data.toList.drop 908 = sxL_law_908 := dSn 1 shL_law_907
theorem shL_law_909 : code.data.toList.drop 909 = sxL_law_909 := dSn 1 shL_law_908
theorem shL_law_910 : code.data.toList.drop 910 = sxL_law_910 := dSn 1 shL_law_909
theorem shL_law_911 : code.data.toList.drop 911 = sxL_law_911 := dSn 1 shL_law_910
theorem shL_law_912 : code.data.toList.drop 912 = sxL_law_912 := dSn 1 shL_law_911
theorem shL_law_913 : code.data.toList.drop 913 = sxL_law_913 := dSn 1 shL_law_912
theorem shL_law_916 : code.data.toList.drop 916 = sxL_law_916 := dSn 3 shL_law_913
theorem shL_law_917 : code.data.toList.drop 917 = sxL_law_917 := dSn 1 shL_law_916
theorem shL_law_920 : code.data.toList.drop 920 = sxL_law_920 := dSn 3 shL_law_917
theorem shL_law_921 : code.data.toList.drop 921 = sxL_law_921 := dSn 1 shL_law_920
theorem shL_law_922 : code.data.toList.drop 922 = sxL_law_922 := dSn 1 shL_law_921
theorem shL_law_923 : code.data.toList.drop 923 = sxL_law_923 := dSn 1 shL_law_922
theorem shL_law_924 : code.data.toList.drop 924 = sxL_law_924 := dSn 1 shL_law_923
theorem shL_law_925 : code.data.toList.drop 925 = sxL_law_925 := dSn 1 shL_law_924
theorem shL_law_926 : code.data.toList.drop 926 = sxL_law_926 := dSn 1 shL_law_925
theorem shL_law_929 : code.data.toList.drop 929 = sxL_law_929 := dSn 3 shL_law_926
theorem shL_law_930 : code.data.toList.drop 930 = sxL_law_930 := dSn 1 shL_law_929
theorem shL_law_931 : code.data.toList.drop 931 = sxL_law_931 := dSn 1 shL_law_930
theorem shL_law_932 : code.data.toList.drop 932 = sxL_law_932 := dSn 1 shL_law_931
theorem shL_law_933 : code.data.toList.drop 933 = sxL_law_933 := dSn 1 shL_law_932
theorem shL_law_934 : code.data.toList.drop 934 = sxL_law_934 := dSn 1 shL_law_933
theorem shL_law_935 : code.data.toList.drop 935 = sxL_law_935 := dSn 1 shL_law_934
theorem shL_law_936 : code.data.toList.drop 936 = sxL_law_936 := dSn 1 shL_law_935
theorem shL_law_939 : code.data.toList.drop 939 = sxL_law_939 := dSn 3 shL_law_936
theorem shL_law_940 : code.data.toList.drop 940 = sxL_law_940 := dSn 1 shL_law_939
theorem shL_law_943 : code.data.toList.drop 943 = sxL_law_943 := dSn 3 shL_law_940
theorem shL_law_944 : code.data.toList.drop 944 = sxL_law_944 := dSn 1 shL_law_943
theorem shL_law_945 : code.data.toList.drop 945 = sxL_law_945 := dSn 1 shL_law_944
theorem shL_law_946 : code.data.toList.drop 946 = sxL_law_946 := dSn 1 shL_law_945
theorem shL_law_947 : code.data.toList.drop 947 = sxL_law_947 := dSn 1 shL_law_946
theorem shL_law_948 : code.data.toList.drop 948 = sxL_law_948 := dSn 1 shL_law_947
theorem shL_law_949 : code.data.toList.drop 949 = sxL_law_949 := dSn 1 shL_law_948
theorem shL_law_950 : code.data.toList.drop 950 = sxL_law_950 := dSn 1 shL_law_949
theorem shL_law_951 : code.data.toList.drop 951 = sxL_law_951 := dSn 1 shL_law_950
theorem shL_law_952 : code.data.toList.drop 952 = sxL_law_952 := dSn 1 shL_law_951
theorem shL_law_953 : code.data.toList.drop 953 = sxL_law_953 := dSn 1 shL_law_952
theorem shL_law_954 : code.data.toList.drop 954 = sxL_law_954 := dSn 1 shL_law_953
theorem shL_law_957 : code.data.toList.drop 957 = sxL_law_957 := dSn 3 shL_law_954
theorem shL_law_958 : code.data.toList.drop 958 = sxL_law_958 := dSn 1 shL_law_957
theorem shL_law_959 : code.data.toList.drop 959 = sxL_law_959 := dSn 1 shL_law_958
theorem shL_law_960 : code.data.toList.drop 960 = sxL_law_960 := dSn 1 shL_law_959
theorem shL_law_961 : code.data.toList.drop 961 = sxL_law_961 := dSn 1 shL_law_960
theorem shL_law_962 : code.data.toList.drop 962 = sxL_law_962 := dSn 1 shL_law_961
theorem shL_law_963 : code.data.toList.drop 963 = sxL_law_963 := dSn 1 shL_law_962
theorem shL_law_964 : code.data.toList.drop 964 = sxL_law_964 := dSn 1 shL_law_963
theorem shL_law_965 : code.data.toList.drop 965 = sxL_law_965 := dSn 1 shL_law_964
theorem shL_law_966 : code.data.toList.drop 966 = sxL_law_966 := dSn 1 shL_law_965
theorem shL_law_967 : code.data.toList.drop 967 = sxL_law_967 := dSn 1 shL_law_966
theorem shL_law_968 : code.data.toList.drop 968 = sxL_law_968 := dSn 1 shL_law_967
theorem shL_law_969 : code.data.toList.drop 969 = sxL_law_969 := dSn 1 shL_law_968
theorem shL_law_972 : code.data.toList.drop 972 = sxL_law_972 := dSn 3 shL_law_969
theorem shL_law_973 : code.data.toList.drop 973 = sxL_law_973 := dSn 1 shL_law_972
theorem shL_law_976 : code.data.toList.drop 976 = sxL_law_976 := dSn 3 shL_law_973
theorem shL_law_977 : code.data.toList.drop 977 = sxL_law_977 := dSn 1 shL_law_976
theorem shL_law_978 : code.data.toList.drop 978 = sxL_law_978 := dSn 1 shL_law_977
theorem shL_law_979 : code.data.toList.drop 979 = sxL_law_979 := dSn 1 shL_law_978
theorem shL_law_980 : code.data.toList.drop 980 = sxL_law_980 := dSn 1 shL_law_979
theorem shL_law_981 : code.data.toList.drop 981 = sxL_law_981 := dSn 1 shL_law_980
theorem shL_law_982 : code.data.toList.drop 982 = sxL_law_982 := dSn 1 shL_law_981
theorem shL_law_983 : code.data.toList.drop 983 = sxL_law_983 := dSn 1 shL_law_982
theorem shL_law_984 : code.data.toList.drop 984 = sxL_law_984 := dSn 1 shL_law_983
theorem shL_law_985 : code.data.toList.drop 985 = sxL_law_985 := dSn 1 shL_law_984
theorem shL_law_986 : code.data.toList.drop 986 = sxL_law_986 := dSn 1 shL_law_985
theorem shL_law_987 : code.data.toList.drop 987 = sxL_law_987 := dSn 1 shL_law_986
theorem shL_law_988 : code.data.toList.drop 988 = sxL_law_988 := dSn 1 shL_law_987
theorem shL_law_989 : code.data.toList.drop 989 = sxL_law_989 := dSn 1 shL_law_988
theorem shL_law_990 : code.data.toList.drop 990 = sxL_law_990 := dSn 1 shL_law_989
theorem shL_law_991 : code.data.toList.drop 991 = sxL_law_991 := dSn 1 shL_law_990
theorem shL_law_992 : code.data.toList.drop 992 = sxL_law_992 := dSn 1 shL_law_991
theorem shL_law_995 : code.data.toList.drop 995 = sxL_law_995 := dSn 3 shL_law_992
theorem shL_law_996 : code.data.toList.drop 996 = sxL_law_996 := dSn 1 shL_law_995
theorem shL_law_997 : code.data.toList.drop 997 = sxL_law_997 := dSn 1 shL_law_996
theorem shL_law_998 : code.data.toList.drop 998 = sxL_law_998 := dSn 1 shL_law_997
theorem shL_law_999 : code.data.toList.drop 999 = sxL_law_999 := dSn 1 shL_law_998
theorem shL_law_1000 : code.data.toList.drop 1000 = sxL_law_1000 := dSn 1 shL_law_999
theorem shL_law_1001 : code.data.toList.drop 1001 = sxL_law_1001 := dSn 1 shL_law_1000
theorem shL_law_1002 : code.data.toList.drop 1002 = sxL_law_1002 := dSn 1 shL_law_1001
theorem shL_law_1003 : code.data.toList.drop 1003 = sxL_law_1003 := dSn 1 shL_law_1002
theorem shL_law_1004 : code.data.toList.drop 1004 = sxL_law_1004 := dSn 1 shL_law_1003
theorem shL_law_1005 : code.data.toList.drop 1005 = sxL_law_1005 := dSn 1 shL_law_1004
theorem shL_law_1006 : code.data.toList.drop 1006 = sxL_law_1006 := dSn 1 shL_law_1005
theorem shL_law_1007 : code.data.toList.drop 1007 = sxL_law_1007 := dSn 1 shL_law_1006
theorem shL_law_1008 : code.data.toList.drop 1008 = sxL_law_1008 := dSn 1 shL_law_1007
theorem shL_law_1009 : code.data.toList.drop 1009 = sxL_law_1009 := dSn 1 shL_law_1008
theorem shL_law_1010 : code.data.toList.drop 1010 = sxL_law_1010 := dSn 1 shL_law_1009
theorem shL_law_1011 : code.data.toList.drop 1011 = sxL_law_1011 := dSn 1 shL_law_1010
theorem shL_law_1012 : code.data.toList.drop 1012 = sxL_law_1012 := dSn 1 shL_law_1011
theorem shL_law_1015 : code.data.toList.drop 1015 = sxL_law_1015 := dSn 3 shL_law_1012
theorem shL_law_1016 : code.data.toList.drop 1016 = sxL_law_1016 := dSn 1 shL_law_1015
theorem shL_law_1019 : code.data.toList.drop 1019 = sxL_law_1019 := dSn 3 shL_law_1016
theorem shL_law_1020 : code.data.toList.drop 1020 = sxL_law_1020 := dSn 1 shL_law_1019
theorem shL_law_1021 : code.data.toList.drop 1021 = sxL_law_1021 := dSn 1 shL_law_1020
theorem shL_law_1022 : code.data.toList.drop 1022 = sxL_law_1022 := dSn 1 shL_law_1021
theorem shL_law_1023 : code.data.toList.drop 1023 = sxL_law_1023 := dSn 1 shL_law_1022
theorem shL_law_1024 : code.data.toList.drop 1024 = sxL_law_1024 := dSn 1 shL_law_1023
theorem shL_law_1025 : code.data.toList.drop 1025 = sxL_law_1025 := dSn 1 shL_law_1024
theorem shL_law_1026 : code.data.toList.drop 1026 = sxL_law_1026 := dSn 1 shL_law_1025
theorem shL_law_1027 : code.data.toList.drop 1027 = sxL_law_1027 := dSn 1 shL_law_1026
theorem shL_law_1028 : code.data.toList.drop 1028 = sxL_law_1028 := dSn 1 shL_law_1027
theorem shL_law_1029 : code.data.toList.drop 1029 = sxL_law_1029 := dSn 1 shL_law_1028
theorem shL_law_1030 : code.data.toList.drop 1030 = sxL_law_1030 := dSn 1 shL_law_1029
theorem shL_law_1033 : code.data.toList.drop 1033 = sxL_law_1033 := dSn 3 shL_law_1030
theorem shL_law_1034 : code.data.toList.drop 1034 = sxL_law_1034 := dSn 1 shL_law_1033
theorem shL_law_1035 : code.data.toList.drop 1035 = sxL_law_1035 := dSn 1 shL_law_1034
theorem shL_law_1036 : code.data.toList.drop 1036 = sxL_law_1036 := dSn 1 shL_law_1035
theorem shL_law_1037 : code.data.toList.drop 1037 = sxL_law_1037 := dSn 1 shL_law_1036
theorem shL_law_1038 : code.data.toList.drop 1038 = sxL_law_1038 := dSn 1 shL_law_1037
theorem shL_law_1039 : code.data.toList.drop 1039 = sxL_law_1039 := dSn 1 shL_law_1038
theorem shL_law_1040 : code.data.toList.drop 1040 = sxL_law_1040 := dSn 1 shL_law_1039
theorem shL_law_1041 : code.data.toList.drop 1041 = sxL_law_1041 := dSn 1 shL_law_1040
theorem shL_law_1042 : code.data.toList.drop 1042 = sxL_law_1042 := dSn 1 shL_law_1041
theorem shL_law_1043 : code.data.toList.drop 1043 = sxL_law_1043 := dSn 1 shL_law_1042
theorem shL_law_1044 : code.data.toList.drop 1044 = sxL_law_1044 := dSn 1 shL_law_1043
theorem shL_law_1045 : code.data.toList.drop 1045 = sxL_law_1045 := dSn 1 shL_law_1044
theorem shL_law_1048 : code.data.toList.drop 1048 = sxL_law_1048 := dSn 3 shL_law_1045
theorem shL_law_1049 : code.data.toList.drop 1049 = sxL_law_1049 := dSn 1 shL_law_1048
theorem shL_law_1052 : code.data.toList.drop 1052 = sxL_law_1052 := dSn 3 shL_law_1049
theorem shL_law_1053 : code.data.toList.drop 1053 = sxL_law_1053 := dSn 1 shL_law_1052
theorem shL_law_1054 : code.data.toList.drop 1054 = sxL_law_1054 := dSn 1 shL_law_1053
theorem shL_law_1055 : code.data.toList.drop 1055 = sxL_law_1055 := dSn 1 shL_law_1054
theorem shL_law_1056 : code.data.toList.drop 1056 = sxL_law_1056 := dSn 1 shL_law_1055
theorem shL_law_1057 : code.data.toList.drop 1057 = sxL_law_1057 := dSn 1 shL_law_1056
theorem shL_law_1058 : code.data.toList.drop 1058 = sxL_law_1058 := dSn 1 shL_law_1057
theorem shL_law_1059 : code.data.toList.drop 1059 = sxL_law_1059 := dSn 1 shL_law_1058
theorem shL_law_1060 : code.data.toList.drop 1060 = sxL_law_1060 := dSn 1 shL_law_1059
theorem shL_law_1061 : code.data.toList.drop 1061 = sxL_law_1061 := dSn 1 shL_law_1060
theorem shL_law_1062 : code.data.toList.drop 1062 = sxL_law_1062 := dSn 1 shL_law_1061
theorem shL_law_1063 : code.data.toList.drop 1063 = sxL_law_1063 := dSn 1 shL_law_1062
theorem shL_law_1066 : code.data.toList.drop 1066 = sxL_law_1066 := dSn 3 shL_law_1063
theorem shL_law_1067 : code.data.toList.drop 1067 = sxL_law_1067 := dSn 1 shL_law_1066
theorem shL_law_1068 : code.data.toList.drop 1068 = sxL_law_1068 := dSn 1 shL_law_1067
theorem shL_law_1069 : code.data.toList.drop 1069 = sxL_law_1069 := dSn 1 shL_law_1068
theorem shL_law_1070 : code.data.toList.drop 1070 = sxL_law_1070 := dSn 1 shL_law_1069
theorem shL_law_1071 : code.data.toList.drop 1071 = sxL_law_1071 := dSn 1 shL_law_1070
theorem shL_law_1072 : code.data.toList.drop 1072 = sxL_law_1072 := dSn 1 shL_law_1071
theorem shL_law_1073 : code.data.toList.drop 1073 = sxL_law_1073 := dSn 1 shL_law_1072
theorem shL_law_1074 : code.data.toList.drop 1074 = sxL_law_1074 := dSn 1 shL_law_1073
theorem shL_law_1075 : code.data.toList.drop 1075 = sxL_law_1075 := dSn 1 shL_law_1074
theorem shL_law_1076 : code.data.toList.drop 1076 = sxL_law_1076 := dSn 1 shL_law_1075
theorem shL_law_1077 : code.data.toList.drop 1077 = sxL_law_1077 := dSn 1 shL_law_1076
theorem shL_law_1078 : code.data.toList.drop 1078 = sxL_law_1078 := dSn 1 shL_law_1077
theorem shL_law_1081 : code.data.toList.drop 1081 = sxL_law_1081 := dSn 3 shL_law_1078
theorem shL_law_1082 : code.data.toList.drop 1082 = sxL_law_1082 := dSn 1 shL_law_1081
theorem shL_law_1085 : code.data.toList.drop 1085 = sxL_law_1085 := dSn 3 shL_law_1082
theorem shL_law_1086 : code.data.toList.drop 1086 = sxL_law_1086 := dSn 1 shL_law_1085
theorem shL_law_1087 : code.data.toList.drop 1087 = sxL_law_1087 := dSn 1 shL_law_1086
theorem shL_law_1088 : code.data.toList.drop 1088 = sxL_law_1088 := dSn 1 shL_law_1087
theorem shL_law_1089 : code.data.toList.drop 1089 = sxL_law_1089 := dSn 1 shL_law_1088
theorem shL_law_1090 : code.data.toList.drop 1090 = sxL_law_1090 := dSn 1 shL_law_1089
theorem shL_law_1091 : code.data.toList.drop 1091 = sxL_law_1091 := dSn 1 shL_law_1090
theorem shL_law_1092 : code.data.toList.drop 1092 = sxL_law_1092 := dSn 1 shL_law_1091
theorem shL_law_1093 : code.data.toList.drop 1093 = sxL_law_1093 := dSn 1 shL_law_1092
theorem shL_law_1094 : code.data.toList.drop 1094 = sxL_law_1094 := dSn 1 shL_law_1093
theorem shL_law_1095 : code.data.toList.drop 1095 = sxL_law_1095 := dSn 1 shL_law_1094
theorem shL_law_1096 : code.data.toList.drop 1096 = sxL_law_1096 := dSn 1 shL_law_1095
theorem shL_law_1099 : code.data.toList.drop 1099 = sxL_law_1099 := dSn 3 shL_law_1096
theorem shL_law_1100 : code.data.toList.drop 1100 = sxL_law_1100 := dSn 1 shL_law_1099
theorem shL_law_1101 : code.data.toList.drop 1101 = sxL_law_1101 := dSn 1 shL_law_1100
theorem shL_law_1102 : code.data.toList.drop 1102 = sxL_law_1102 := dSn 1 shL_law_1101
theorem shL_law_1103 : code.data.toList.drop 1103 = sxL_law_1103 := dSn 1 shL_law_1102
theorem shL_law_1104 : code.data.toList.drop 1104 = sxL_law_1104 := dSn 1 shL_law_1103
theorem shL_law_1105 : code.data.toList.drop 1105 = sxL_law_1105 := dSn 1 shL_law_1104
theorem shL_law_1106 : code.data.toList.drop 1106 = sxL_law_1106 := dSn 1 shL_law_1105
theorem shL_law_1107 : code.data.toList.drop 1107 = sxL_law_1107 := dSn 1 shL_law_1106
theorem shL_law_1108 : code.data.toList.drop 1108 = sxL_law_1108 := dSn 1 shL_law_1107
theorem shL_law_1109 : code.data.toList.drop 1109 = sxL_law_1109 := dSn 1 shL_law_1108
theorem shL_law_1110 : code.data.toList.drop 1110 = sxL_law_1110 := dSn 1 shL_law_1109
theorem shL_law_1111 : code.data.toList.drop 1111 = sxL_law_1111 := dSn 1 shL_law_1110
theorem shL_law_1114 : code.data.toList.drop 1114 = sxL_law_1114 := dSn 3 shL_law_1111
theorem shL_law_1115 : code.data.toList.drop 1115 = sxL_law_1115 := dSn 1 shL_law_1114
theorem shL_law_1118 : code.data.toList.drop 1118 = sxL_law_1118 := dSn 3 shL_law_1115
theorem shL_law_1119 : code.data.toList.drop 1119 = sxL_law_1119 := dSn 1 shL_law_1118
theorem shL_law_1120 : code.data.toList.drop 1120 = sxL_law_1120 := dSn 1 shL_law_1119
theorem shL_law_1121 : code.data.toList.drop 1121 = sxL_law_1121 := dSn 1 shL_law_1120
theorem shL_law_1122 : code.data.toList.drop 1122 = sxL_law_1122 := dSn 1 shL_law_1121
theorem shL_law_1123 : code.data.toList.drop 1123 = sxL_law_1123 := dSn 1 shL_law_1122
theorem shL_law_1124 : code.data.toList.drop 1124 = sxL_law_1124 := dSn 1 shL_law_1123
theorem shL_law_1125 : code.data.toList.drop 1125 = sxL_law_1125 := dSn 1 shL_law_1124
theorem shL_law_1126 : code.data.toList.drop 1126 = sxL_law_1126 := dSn 1 shL_law_1125
theorem shL_law_1127 : code.data.toList.drop 1127 = sxL_law_1127 := dSn 1 shL_law_1126
theorem shL_law_1128 : code.data.toList.drop 1128 = sxL_law_1128 := dSn 1 shL_law_1127
theorem shL_law_1129 : code.data.toList.drop 1129 = sxL_law_1129 := dSn 1 shL_law_1128
theorem shL_law_1132 : code.data.toList.drop 1132 = sxL_law_1132 := dSn 3 shL_law_1129
theorem shL_law_1133 : code.data.toList.drop 1133 = sxL_law_1133 := dSn 1 shL_law_1132
theorem shL_law_1134 : code.data.toList.drop 1134 = sxL_law_1134 := dSn 1 shL_law_1133
theorem shL_law_1135 : code.data.toList.drop 1135 = sxL_law_1135 := dSn 1 shL_law_1134
theorem shL_law_1136 : code.data.toList.drop 1136 = sxL_law_1136 := dSn 1 shL_law_1135
theorem shL_law_1137 : code.data.toList.drop 1137 = sxL_law_1137 := dSn 1 shL_law_1136
theorem shL_law_1138 : code.data.toList.drop 1138 = sxL_law_1138 := dSn 1 shL_law_1137
theorem shL_law_1139 : code.data.toList.drop 1139 = sxL_law_1139 := dSn 1 shL_law_1138
theorem shL_law_1140 : code.data.toList.drop 1140 = sxL_law_1140 := dSn 1 shL_law_1139
theorem shL_law_1141 : code.data.toList.drop 1141 = sxL_law_1141 := dSn 1 shL_law_1140
theorem shL_law_1142 : code.data.toList.drop 1142 = sxL_law_1142 := dSn 1 shL_law_1141
theorem shL_law_1143 : code.data.toList.drop 1143 = sxL_law_1143 := dSn 1 shL_law_1142
theorem shL_law_1144 : code.data.toList.drop 1144 = sxL_law_1144 := dSn 1 shL_law_1143
theorem shL_law_1147 : code.data.toList.drop 1147 = sxL_law_1147 := dSn 3 shL_law_1144
theorem shL_law_1148 : code.data.toList.drop 1148 = sxL_law_1148 := dSn 1 shL_law_1147
theorem shL_law_1151 : code.data.toList.drop 1151 = sxL_law_1151 := dSn 3 shL_law_1148
theorem shL_law_1152 : code.data.toList.drop 1152 = sxL_law_1152 := dSn 1 shL_law_1151
theorem shL_law_1153 : code.data.toList.drop 1153 = sxL_law_1153 := dSn 1 shL_law_1152
theorem shL_law_1154 : code.data.toList.drop 1154 = sxL_law_1154 := dSn 1 shL_law_1153
theorem shL_law_1155 : code.data.toList.drop 1155 = sxL_law_1155 := dSn 1 shL_law_1154
theorem shL_law_1156 : code.data.toList.drop 1156 = sxL_law_1156 := dSn 1 shL_law_1155
theorem shL_law_1157 : code.data.toList.drop 1157 = sxL_law_1157 := dSn 1 shL_law_1156
theorem shL_law_1158 : code.data.toList.drop 1158 = sxL_law_1158 := dSn 1 shL_law_1157
theorem shL_law_1159 : code.data.toList.drop 1159 = sxL_law_1159 := dSn 1 shL_law_1158
theorem shL_law_1160 : code.data.toList.drop 1160 = sxL_law_1160 := dSn 1 shL_law_1159
theorem shL_law_1161 : code.data.toList.drop 1161 = sxL_law_1161 := dSn 1 shL_law_1160
theorem shL_law_1162 : code.data.toList.drop 1162 = sxL_law_1162 := dSn 1 shL_law_1161
theorem shL_law_1165 : code.data.toList.drop 1165 = sxL_law_1165 := dSn 3 shL_law_1162
theorem shL_law_1166 : code.data.toList.drop 1166 = sxL_law_1166 := dSn 1 shL_law_1165
theorem shL_law_1167 : code.data.toList.drop 1167 = sxL_law_1167 := dSn 1 shL_law_1166
theorem shL_law_1168 : code.data.toList.drop 1168 = sxL_law_1168 := dSn 1 shL_law_1167
theorem shL_law_1169 : code.data.toList.drop 1169 = sxL_law_1169 := dSn 1 shL_law_1168
theorem shL_law_1170 : code.data.toList.drop 1170 = sxL_law_1170 := dSn 1 shL_law_1169
theorem shL_law_1171 : code.data.toList.drop 1171 = sxL_law_1171 := dSn 1 shL_law_1170
theorem shL_law_1172 : code.data.toList.drop 1172 = sxL_law_1172 := dSn 1 shL_law_1171
theorem shL_law_1173 : code.data.toList.drop 1173 = sxL_law_1173 := dSn 1 shL_law_1172
theorem shL_law_1174 : code.data.toList.drop 1174 = sxL_law_1174 := dSn 1 shL_law_1173
theorem shL_law_1175 : code.data.toList.drop 1175 = sxL_law_1175 := dSn 1 shL_law_1174
theorem shL_law_1176 : code.data.toList.drop 1176 = sxL_law_1176 := dSn 1 shL_law_1175
theorem shL_law_1177 : code.data.toList.drop 1177 = sxL_law_1177 := dSn 1 shL_law_1176
theorem shL_law_1180 : code.data.toList.drop 1180 = sxL_law_1180 := dSn 3 shL_law_1177
theorem shL_law_1181 : code.data.toList.drop 1181 = sxL_law_1181 := dSn 1 shL_law_1180
theorem shL_law_1184 : code.data.toList.drop 1184 = sxL_law_1184 := dSn 3 shL_law_1181
theorem shL_law_1185 : code.data.toList.drop 1185 = sxL_law_1185 := dSn 1 shL_law_1184
theorem shL_law_1186 : code.data.toList.drop 1186 = sxL_law_1186 := dSn 1 shL_law_1185
theorem shL_law_1187 : code.data.toList.drop 1187 = sxL_law_1187 := dSn 1 shL_law_1186
theorem shL_law_1188 : code.data.toList.drop 1188 = sxL_law_1188 := dSn 1 shL_law_1187
theorem shL_law_1189 : code.data.toList.drop 1189 = sxL_law_1189 := dSn 1 shL_law_1188
theorem shL_law_1190 : code.data.toList.drop 1190 = sxL_law_1190 := dSn 1 shL_law_1189
theorem shL_law_1193 : code.data.toList.drop 1193 = sxL_law_1193 := dSn 3 shL_law_1190
theorem shL_law_1194 : code.data.toList.drop 1194 = sxL_law_1194 := dSn 1 shL_law_1193
theorem shL_law_1195 : code.data.toList.drop 1195 = sxL_law_1195 := dSn 1 shL_law_1194
theorem shL_law_1196 : code.data.toList.drop 1196 = sxL_law_1196 := dSn 1 shL_law_1195
theorem shL_law_1197 : code.data.toList.drop 1197 = sxL_law_1197 := dSn 1 shL_law_1196
theorem shL_law_1198 : code.data.toList.drop 1198 = sxL_law_1198 := dSn 1 shL_law_1197
theorem shL_law_1199 : code.data.toList.drop 1199 = sxL_law_1199 := dSn 1 shL_law_1198
theorem shL_law_1200 : code.data.toList.drop 1200 = sxL_law_1200 := dSn 1 shL_law_1199
theorem shL_law_1203 : code.data.toList.drop 1203 = sxL_law_1203 := dSn 3 shL_law_1200
theorem shL_law_1204 : code.data.toList.drop 1204 = sxL_law_1204 := dSn 1 shL_law_1203
theorem shL_law_1207 : code.data.toList.drop 1207 = sxL_law_1207 := dSn 3 shL_law_1204
theorem shL_law_1208 : code.data.toList.drop 1208 = sxL_law_1208 := dSn 1 shL_law_1207
theorem shL_law_1209 : code.data.toList.drop 1209 = sxL_law_1209 := dSn 1 shL_law_1208
theorem shL_law_1210 : code.data.toList.drop 1210 = sxL_law_1210 := dSn 1 shL_law_1209
theorem shL_law_1211 : code.data.toList.drop 1211 = sxL_law_1211 := dSn 1 shL_law_1210
theorem shL_law_1212 : code.data.toList.drop 1212 = sxL_law_1212 := dSn 1 shL_law_1211
theorem shL_law_1213 : code.data.toList.drop 1213 = sxL_law_1213 := dSn 1 shL_law_1212
theorem shL_law_1214 : code.data.toList.drop 1214 = sxL_law_1214 := dSn 1 shL_law_1213
theorem shL_law_1215 : code.data.toList.drop 1215 = sxL_law_1215 := dSn 1 shL_law_1214
theorem shL_law_1216 : code.data.toList.drop 1216 = sxL_law_1216 := dSn 1 shL_law_1215
theorem shL_law_1217 : code.data.toList.drop 1217 = sxL_law_1217 := dSn 1 shL_law_1216
theorem shL_law_1218 : code.data.toList.drop 1218 = sxL_law_1218 := dSn 1 shL_law_1217
theorem shL_law_1221 : code.data.toList.drop 1221 = sxL_law_1221 := dSn 3 shL_law_1218
theorem shL_law_1222 : code.data.toList.drop 1222 = sxL_law_1222 := dSn 1 shL_law_1221
theorem shL_law_1223 : code.data.toList.drop 1223 = sxL_law_1223 := dSn 1 shL_law_1222
theorem shL_law_1224 : code.data.toList.drop 1224 = sxL_law_1224 := dSn 1 shL_law_1223
theorem shL_law_1225 : code.data.toList.drop 1225 = sxL_law_1225 := dSn 1 shL_law_1224
theorem shL_law_1226 : code.data.toList.drop 1226 = sxL_law_1226 := dSn 1 shL_law_1225
theorem shL_law_1227 : code.data.toList.drop 1227 = sxL_law_1227 := dSn 1 shL_law_1226
theorem shL_law_1228 : code.data.toList.drop 1228 = sxL_law_1228 := dSn 1 shL_law_1227
theorem shL_law_1229 : code.data.toList.drop 1229 = sxL_law_1229 := dSn 1 shL_law_1228
theorem shL_law_1230 : code.data.toList.drop 1230 = sxL_law_1230 := dSn 1 shL_law_1229
theorem shL_law_1231 : code.data.toList.drop 1231 = sxL_law_1231 := dSn 1 shL_law_1230
theorem shL_law_1232 : code.data.toList.drop 1232 = sxL_law_1232 := dSn 1 shL_law_1231
theorem shL_law_1233 : code.data.toList.drop 1233 = sxL_law_1233 := dSn 1 shL_law_1232
theorem shL_law_1236 : code.data.toList.drop 1236 = sxL_law_1236 := dSn 3 shL_law_1233
theorem shL_law_1237 : code.data.toList.drop 1237 = sxL_law_1237 := dSn 1 shL_law_1236
theorem shL_law_1240 : code.data.toList.drop 1240 = sxL_law_1240 := dSn 3 shL_law_1237
theorem shL_law_1241 : code.data.toList.drop 1241 = sxL_law_1241 := dSn 1 shL_law_1240
theorem shL_law_1242 : code.data.toList.drop 1242 = sxL_law_1242 := dSn 1 shL_law_1241
theorem shL_law_1243 : code.data.toList.drop 1243 = sxL_law_1243 := dSn 1 shL_law_1242
theorem shL_law_1244 : code.data.toList.drop 1244 = sxL_law_1244 := dSn 1 shL_law_1243
theorem shL_law_1245 : code.data.toList.drop 1245 = sxL_law_1245 := dSn 1 shL_law_1244
theorem shL_law_1246 : code.data.toList.drop 1246 = sxL_law_1246 := dSn 1 shL_law_1245
theorem shL_law_1247 : code.data.toList.drop 1247 = sxL_law_1247 := dSn 1 shL_law_1246
theorem shL_law_1248 : code.data.toList.drop 1248 = sxL_law_1248 := dSn 1 shL_law_1247
theorem shL_law_1249 : code.data.toList.drop 1249 = sxL_law_1249 := dSn 1 shL_law_1248
theorem shL_law_1250 : code.data.toList.drop 1250 = sxL_law_1250 := dSn 1 shL_law_1249
theorem shL_law_1251 : code.data.toList.drop 1251 = sxL_law_1251 := dSn 1 shL_law_1250
theorem shL_law_1254 : code.data.toList.drop 1254 = sxL_law_1254 := dSn 3 shL_law_1251
theorem shL_law_1255 : code.data.toList.drop 1255 = sxL_law_1255 := dSn 1 shL_law_1254
theorem shL_law_1256 : code.data.toList.drop 1256 = sxL_law_1256 := dSn 1 shL_law_1255
theorem shL_law_1257 : code.data.toList.drop 1257 = sxL_law_1257 := dSn 1 shL_law_1256
theorem shL_law_1258 : code.data.toList.drop 1258 = sxL_law_1258 := dSn 1 shL_law_1257
theorem shL_law_1259 : code.data.toList.drop 1259 = sxL_law_1259 := dSn 1 shL_law_1258
theorem shL_law_1260 : code.data.toList.drop 1260 = sxL_law_1260 := dSn 1 shL_law_1259
theorem shL_law_1261 : code.data.toList.drop 1261 = sxL_law_1261 := dSn 1 shL_law_1260
theorem shL_law_1262 : code.data.toList.drop 1262 = sxL_law_1262 := dSn 1 shL_law_1261
theorem shL_law_1263 : code.data.toList.drop 1263 = sxL_law_1263 := dSn 1 shL_law_1262
theorem shL_law_1264 : code.data.toList.drop 1264 = sxL_law_1264 := dSn 1 shL_law_1263
theorem shL_law_1265 : code.data.toList.drop 1265 = sxL_law_1265 := dSn 1 shL_law_1264
theorem shL_law_1266 : code.data.toList.drop 1266 = sxL_law_1266 := dSn 1 shL_law_1265
theorem shL_law_1269 : code.data.toList.drop 1269 = sxL_law_1269 := dSn 3 shL_law_1266
theorem shL_law_1270 : code.data.toList.drop 1270 = sxL_law_1270 := dSn 1 shL_law_1269
theorem shL_law_1273 : code.data.toList.drop 1273 = sxL_law_1273 := dSn 3 shL_law_1270
theorem shL_law_1274 : code.data.toList.drop 1274 = sxL_law_1274 := dSn 1 shL_law_1273
theorem shL_law_1275 : code.data.toList.drop 1275 = sxL_law_1275 := dSn 1 shL_law_1274
theorem shL_law_1276 : code.data.toList.drop 1276 = sxL_law_1276 := dSn 1 shL_law_1275
theorem shL_law_1277 : code.data.toList.drop 1277 = sxL_law_1277 := dSn 1 shL_law_1276
theorem shL_law_1278 : code.data.toList.drop 1278 = sxL_law_1278 := dSn 1 shL_law_1277
theorem shL_law_1279 : code.data.toList.drop 1279 = sxL_law_1279 := dSn 1 shL_law_1278
theorem shL_law_1280 : code.data.toList.drop 1280 = sxL_law_1280 := dSn 1 shL_law_1279
theorem shL_law_1281 : code.data.toList.drop 1281 = sxL_law_1281 := dSn 1 shL_law_1280
theorem shL_law_1282 : code.data.toList.drop 1282 = sxL_law_1282 := dSn 1 shL_law_1281
theorem shL_law_1283 : code.data.toList.drop 1283 = sxL_law_1283 := dSn 1 shL_law_1282
theorem shL_law_1284 : code.data.toList.drop 1284 = sxL_law_1284 := dSn 1 shL_law_1283
theorem shL_law_1287 : code.data.toList.drop 1287 = sxL_law_1287 := dSn 3 shL_law_1284
theorem shL_law_1288 : code.data.toList.drop 1288 = sxL_law_1288 := dSn 1 shL_law_1287
theorem shL_law_1289 : code.data.toList.drop 1289 = sxL_law_1289 := dSn 1 shL_law_1288
theorem shL_law_1290 : code.data.toList.drop 1290 = sxL_law_1290 := dSn 1 shL_law_1289
theorem shL_law_1291 : code.data.toList.drop 1291 = sxL_law_1291 := dSn 1 shL_law_1290
theorem shL_law_1292 : code.data.toList.drop 1292 = sxL_law_1292 := dSn 1 shL_law_1291
theorem shL_law_1293 : code.data.toList.drop 1293 = sxL_law_1293 := dSn 1 shL_law_1292
theorem shL_law_1294 : code.data.toList.drop 1294 = sxL_law_1294 := dSn 1 shL_law_1293
theorem shL_law_1295 : code.data.toList.drop 1295 = sxL_law_1295 := dSn 1 shL_law_1294
theorem shL_law_1296 : code.data.toList.drop 1296 = sxL_law_1296 := dSn 1 shL_law_1295
theorem shL_law_1297 : code.data.toList.drop 1297 = sxL_law_1297 := dSn 1 shL_law_1296
theorem shL_law_1298 : code.data.toList.drop 1298 = sxL_law_1298 := dSn 1 shL_law_1297
theorem shL_law_1299 : code.data.toList.drop 1299 = sxL_law_1299 := dSn 1 shL_law_1298
theorem shL_law_1302 : code.data.toList.drop 1302 = sxL_law_1302 := dSn 3 shL_law_1299
theorem shL_law_1303 : code.data.toList.drop 1303 = sxL_law_1303 := dSn 1 shL_law_1302
theorem shL_law_1306 : code.data.toList.drop 1306 = sxL_law_1306 := dSn 3 shL_law_1303
theorem shL_law_1307 : code.data.toList.drop 1307 = sxL_law_1307 := dSn 1 shL_law_1306
theorem shL_law_1308 : code.data.toList.drop 1308 = sxL_law_1308 := dSn 1 shL_law_1307
theorem shL_law_1309 : code.data.toList.drop 1309 = sxL_law_1309 := dSn 1 shL_law_1308
theorem shL_law_1310 : code.data.toList.drop 1310 = sxL_law_1310 := dSn 1 shL_law_1309
theorem shL_law_1311 : code.data.toList.drop 1311 = sxL_law_1311 := dSn 1 shL_law_1310
theorem shL_law_1312 : code.data.toList.drop 1312 = sxL_law_1312 := dSn 1 shL_law_1311
theorem shL_law_1313 : code.data.toList.drop 1313 = sxL_law_1313 := dSn 1 shL_law_1312
theorem shL_law_1314 : code.data.toList.drop 1314 = sxL_law_1314 := dSn 1 shL_law_1313
theorem shL_law_1315 : code.data.toList.drop 1315 = sxL_law_1315 := dSn 1 shL_law_1314
theorem shL_law_1316 : code.data.toList.drop 1316 = sxL_law_1316 := dSn 1 shL_law_1315
theorem shL_law_1317 : code.data.toList.drop 1317 = sxL_law_1317 := dSn 1 shL_law_1316
theorem shL_law_1320 : code.data.toList.drop 1320 = sxL_law_1320 := dSn 3 shL_law_1317
theorem shL_law_1321 : code.data.toList.drop 1321 = sxL_law_1321 := dSn 1 shL_law_1320
theorem shL_law_1322 : code.data.toList.drop 1322 = sxL_law_1322 := dSn 1 shL_law_1321
theorem shL_law_1323 : code.data.toList.drop 1323 = sxL_law_1323 := dSn 1 shL_law_1322
theorem shL_law_1324 : code.data.toList.drop 1324 = sxL_law_1324 := dSn 1 shL_law_1323
theorem shL_law_1325 : code.data.toList.drop 1325 = sxL_law_1325 := dSn 1 shL_law_1324
theorem shL_law_1326 : code.data.toList.drop 1326 = sxL_law_1326 := dSn 1 shL_law_1325
theorem shL_law_1327 : code.data.toList.drop 1327 = sxL_law_1327 := dSn 1 shL_law_1326
theorem shL_law_1328 : code.data.toList.drop 1328 = sxL_law_1328 := dSn 1 shL_law_1327
theorem shL_law_1329 : code.data.toList.drop 1329 = sxL_law_1329 := dSn 1 shL_law_1328
theorem shL_law_1330 : code.data.toList.drop 1330 = sxL_law_1330 := dSn 1 shL_law_1329
theorem shL_law_1331 : code.data.toList.drop 1331 = sxL_law_1331 := dSn 1 shL_law_1330
theorem shL_law_1334 : code.data.toList.drop 1334 = sxL_law_1334 := dSn 3 shL_law_1331
theorem shL_law_1337 : code.data.toList.drop 1337 = sxL_law_1337 := dSn 3 shL_law_1334
theorem shL_law_1338 : code.data.toList.drop 1338 = sxL_law_1338 := dSn 1 shL_law_1337
theorem shL_law_1339 : code.data.toList.drop 1339 = sxL_law_1339 := dSn 1 shL_law_1338
theorem shL_law_1340 : code.data.toList.drop 1340 = sxL_law_1340 := dSn 1 shL_law_1339
theorem shL_law_1341 : code.data.toList.drop 1341 = sxL_law_1341 := dSn 1 shL_law_1340
theorem shL_law_1342 : code.data.toList.drop 1342 = sxL_law_1342 := dSn 1 shL_law_1341
theorem shL_law_1343 : code.data.toList.drop 1343 = sxL_law_1343 := dSn 1 shL_law_1342
theorem shL_law_1344 : code.data.toList.drop 1344 = sxL_law_1344 := dSn 1 shL_law_1343
theorem shL_law_1345 : code.data.toList.drop 1345 = sxL_law_1345 := dSn 1 shL_law_1344
theorem shL_law_1346 : code.data.toList.drop 1346 = sxL_law_1346 := dSn 1 shL_law_1345
theorem shL_law_1347 : code.data.toList.drop 1347 = sxL_law_1347 := dSn 1 shL_law_1346
theorem shL_law_1348 : code.data.toList.drop 1348 = sxL_law_1348 := dSn 1 shL_law_1347
theorem shL_law_1349 : code.data.toList.drop 1349 = sxL_law_1349 := dSn 1 shL_law_1348
theorem shL_law_1350 : code.data.toList.drop 1350 = sxL_law_1350 := dSn 1 shL_law_1349
theorem shL_law_1353 : code.data.toList.drop 1353 = sxL_law_1353 := dSn 3 shL_law_1350
theorem shL_law_1354 : code.data.toList.drop 1354 = sxL_law_1354 := dSn 1 shL_law_1353
theorem shL_law_1355 : code.data.toList.drop 1355 = sxL_law_1355 := dSn 1 shL_law_1354
theorem shL_law_1356 : code.data.toList.drop 1356 = sxL_law_1356 := dSn 1 shL_law_1355
theorem shL_law_1357 : code.data.toList.drop 1357 = sxL_law_1357 := dSn 1 shL_law_1356
theorem shL_law_1358 : code.data.toList.drop 1358 = sxL_law_1358 := dSn 1 shL_law_1357
theorem shL_law_1359 : code.data.toList.drop 1359 = sxL_law_1359 := dSn 1 shL_law_1358
theorem shL_law_1360 : code.data.toList.drop 1360 = sxL_law_1360 := dSn 1 shL_law_1359
theorem shL_law_1361 : code.data.toList.drop 1361 = sxL_law_1361 := dSn 1 shL_law_1360
theorem shL_law_1362 : code.data.toList.drop 1362 = sxL_law_1362 := dSn 1 shL_law_1361
theorem shL_law_1363 : code.data.toList.drop 1363 = sxL_law_1363 := dSn 1 shL_law_1362
theorem shL_law_1364 : code.data.toList.drop 1364 = sxL_law_1364 := dSn 1 shL_law_1363
theorem shL_law_1365 : code.data.toList.drop 1365 = sxL_law_1365 := dSn 1 shL_law_1364
theorem shL_law_1368 : code.data.toList.drop 1368 = sxL_law_1368 := dSn 3 shL_law_1365
theorem shL_law_1369 : code.data.toList.drop 1369 = sxL_law_1369 := dSn 1 shL_law_1368
theorem shL_law_1372 : code.data.toList.drop 1372 = sxL_law_1372 := dSn 3 shL_law_1369
theorem shL_law_1373 : code.data.toList.drop 1373 = sxL_law_1373 := dSn 1 shL_law_1372
theorem shL_law_1374 : code.data.toList.drop 1374 = sxL_law_1374 := dSn 1 shL_law_1373
theorem shL_law_1375 : code.data.toList.drop 1375 = sxL_law_1375 := dSn 1 shL_law_1374
theorem shL_law_1376 : code.data.toList.drop 1376 = sxL_law_1376 := dSn 1 shL_law_1375
theorem shL_law_1377 : code.data.toList.drop 1377 = sxL_law_1377 := dSn 1 shL_law_1376
theorem shL_law_1378 : code.data.toList.drop 1378 = sxL_law_1378 := dSn 1 shL_law_1377
theorem shL_law_1379 : code.data.toList.drop 1379 = sxL_law_1379 := dSn 1 shL_law_1378
theorem shL_law_1380 : code.data.toList.drop 1380 = sxL_law_1380 := dSn 1 shL_law_1379
theorem shL_law_1381 : code.data.toList.drop 1381 = sxL_law_1381 := dSn 1 shL_law_1380
theorem shL_law_1382 : code.data.toList.drop 1382 = sxL_law_1382 := dSn 1 shL_law_1381
theorem shL_law_1383 : code.data.toList.drop 1383 = sxL_law_1383 := dSn 1 shL_law_1382
theorem shL_law_1386 : code.data.toList.drop 1386 = sxL_law_1386 := dSn 3 shL_law_1383
theorem shL_law_1387 : code.data.toList.drop 1387 = sxL_law_1387 := dSn 1 shL_law_1386
theorem shL_law_1388 : code.data.toList.drop 1388 = sxL_law_1388 := dSn 1 shL_law_1387
theorem shL_law_1389 : code.data.toList.drop 1389 = sxL_law_1389 := dSn 1 shL_law_1388
theorem shL_law_1390 : code.data.toList.drop 1390 = sxL_law_1390 := dSn 1 shL_law_1389
theorem shL_law_1391 : code.data.toList.drop 1391 = sxL_law_1391 := dSn 1 shL_law_1390
theorem shL_law_1392 : code.data.toList.drop 1392 = sxL_law_1392 := dSn 1 shL_law_1391
theorem shL_law_1393 : code.data.toList.drop 1393 = sxL_law_1393 := dSn 1 shL_law_1392
theorem shL_law_1394 : code.data.toList.drop 1394 = sxL_law_1394 := dSn 1 shL_law_1393
theorem shL_law_1395 : code.data.toList.drop 1395 = sxL_law_1395 := dSn 1 shL_law_1394
theorem shL_law_1396 : code.data.toList.drop 1396 = sxL_law_1396 := dSn 1 shL_law_1395
theorem shL_law_1397 : code.data.toList.drop 1397 = sxL_law_1397 := dSn 1 shL_law_1396
theorem shL_law_1398 : code.data.toList.drop 1398 = sxL_law_1398 := dSn 1 shL_law_1397
theorem shL_law_1401 : code.data.toList.drop 1401 = sxL_law_1401 := dSn 3 shL_law_1398
theorem shL_law_1402 : code.data.toList.drop 1402 = sxL_law_1402 := dSn 1 shL_law_1401
theorem shL_law_1405 : code.data.toList.drop 1405 = sxL_law_1405 := dSn 3 shL_law_1402
theorem shL_law_1406 : code.data.toList.drop 1406 = sxL_law_1406 := dSn 1 shL_law_1405
theorem shL_law_1407 : code.data.toList.drop 1407 = sxL_law_1407 := dSn 1 shL_law_1406
theorem shL_law_1408 : code.data.toList.drop 1408 = sxL_law_1408 := dSn 1 shL_law_1407
theorem shL_law_1409 : code.data.toList.drop 1409 = sxL_law_1409 := dSn 1 shL_law_1408
theorem shL_law_1410 : code.data.toList.drop 1410 = sxL_law_1410 := dSn 1 shL_law_1409
theorem shL_law_1411 : code.data.toList.drop 1411 = sxL_law_1411 := dSn 1 shL_law_1410
theorem shL_law_1412 : code.data.toList.drop 1412 = sxL_law_1412 := dSn 1 shL_law_1411
theorem shL_law_1413 : code.data.toList.drop 1413 = sxL_law_1413 := dSn 1 shL_law_1412
theorem shL_law_1414 : code.data.toList.drop 1414 = sxL_law_1414 := dSn 1 shL_law_1413
theorem shL_law_1415 : code.data.toList.drop 1415 = sxL_law_1415 := dSn 1 shL_law_1414
theorem shL_law_1416 : code.data.toList.drop 1416 = sxL_law_1416 := dSn 1 shL_law_1415
theorem shL_law_1417 : code.data.toList.drop 1417 = sxL_law_1417 := dSn 1 shL_law_1416
theorem shL_law_1418 : code.data.toList.drop 1418 = sxL_law_1418 := dSn 1 shL_law_1417
theorem shL_law_1419 : code.data.toList.drop 1419 = sxL_law_1419 := dSn 1 shL_law_1418
theorem shL_law_1420 : code.data.toList.drop 1420 = sxL_law_1420 := dSn 1 shL_law_1419
theorem shL_law_1421 : code.data.toList.drop 1421 = sxL_law_1421 := dSn 1 shL_law_1420
theorem shL_law_1424 : code.data.toList.drop 1424 = sxL_law_1424 := dSn 3 shL_law_1421
theorem shL_law_1425 : code.data.toList.drop 1425 = sxL_law_1425 := dSn 1 shL_law_1424
theorem shL_law_1426 : code.data.toList.drop 1426 = sxL_law_1426 := dSn 1 shL_law_1425
theorem shL_law_1427 : code.data.toList.drop 1427 = sxL_law_1427 := dSn 1 shL_law_1426
theorem shL_law_1428 : code.data.toList.drop 1428 = sxL_law_1428 := dSn 1 shL_law_1427
theorem shL_law_1429 : code.data.toList.drop 1429 = sxL_law_1429 := dSn 1 shL_law_1428
theorem shL_law_1430 : code.data.toList.drop 1430 = sxL_law_1430 := dSn 1 shL_law_1429
theorem shL_law_1431 : code.data.toList.drop 1431 = sxL_law_1431 := dSn 1 shL_law_1430
theorem shL_law_1432 : code.data.toList.drop 1432 = sxL_law_1432 := dSn 1 shL_law_1431
theorem shL_law_1433 : code.data.toList.drop 1433 = sxL_law_1433 := dSn 1 shL_law_1432
theorem shL_law_1434 : code.data.toList.drop 1434 = sxL_law_1434 := dSn 1 shL_law_1433
theorem shL_law_1435 : code.data.toList.drop 1435 = sxL_law_1435 := dSn 1 shL_law_1434
theorem shL_law_1436 : code.data.toList.drop 1436 = sxL_law_1436 := dSn 1 shL_law_1435
theorem shL_law_1437 : code.data.toList.drop 1437 = sxL_law_1437 := dSn 1 shL_law_1436
theorem shL_law_1438 : code.data.toList.drop 1438 = sxL_law_1438 := dSn 1 shL_law_1437
theorem shL_law_1439 : code.data.toList.drop 1439 = sxL_law_1439 := dSn 1 shL_law_1438
theorem shL_law_1440 : code.data.toList.drop 1440 = sxL_law_1440 := dSn 1 shL_law_1439
theorem shL_law_1441 : code.data.toList.drop 1441 = sxL_law_1441 := dSn 1 shL_law_1440
theorem shL_law_1444 : code.data.toList.drop 1444 = sxL_law_1444 := dSn 3 shL_law_1441
theorem shL_law_1445 : code.data.toList.drop 1445 = sxL_law_1445 := dSn 1 shL_law_1444
theorem shL_law_1448 : code.data.toList.drop 1448 = sxL_law_1448 := dSn 3 shL_law_1445
theorem shL_law_1449 : code.data.toList.drop 1449 = sxL_law_1449 := dSn 1 shL_law_1448
theorem shL_law_1450 : code.data.toList.drop 1450 = sxL_law_1450 := dSn 1 shL_law_1449
theorem shL_law_1451 : code.data.toList.drop 1451 = sxL_law_1451 := dSn 1 shL_law_1450
theorem shL_law_1452 : code.data.toList.drop 1452 = sxL_law_1452 := dSn 1 shL_law_1451
theorem shL_law_1453 : code.data.toList.drop 1453 = sxL_law_1453 := dSn 1 shL_law_1452
theorem shL_law_1454 : code.data.toList.drop 1454 = sxL_law_1454 := dSn 1 shL_law_1453
theorem shL_law_1455 : code.data.toList.drop 1455 = sxL_law_1455 := dSn 1 shL_law_1454
theorem shL_law_1456 : code.data.toList.drop 1456 = sxL_law_1456 := dSn 1 shL_law_1455
theorem shL_law_1457 : code.data.toList.drop 1457 = sxL_law_1457 := dSn 1 shL_law_1456
theorem shL_law_1458 : code.data.toList.drop 1458 = sxL_law_1458 := dSn 1 shL_law_1457
theorem shL_law_1459 : code.data.toList.drop 1459 = sxL_law_1459 := dSn 1 shL_law_1458
theorem shL_law_1462 : code.data.toList.drop 1462 = sxL_law_1462 := dSn 3 shL_law_1459
theorem shL_law_1463 : code.data.toList.drop 1463 = sxL_law_1463 := dSn 1 shL_law_1462
theorem shL_law_1464 : code.data.toList.drop 1464 = sxL_law_1464 := dSn 1 shL_law_1463
theorem shL_law_1465 : code.data.toList.drop 1465 = sxL_law_1465 := dSn 1 shL_law_1464
theorem shL_law_1466 : code.data.toList.drop 1466 = sxL_law_1466 := dSn 1 shL_law_1465
theorem shL_law_1467 : code.data.toList.drop 1467 = sxL_law_1467 := dSn 1 shL_law_1466
theorem shL_law_1468 : code.data.toList.drop 1468 = sxL_law_1468 := dSn 1 shL_law_1467
theorem shL_law_1469 : code.data.toList.drop 1469 = sxL_law_1469 := dSn 1 shL_law_1468
theorem shL_law_1470 : code.data.toList.drop 1470 = sxL_law_1470 := dSn 1 shL_law_1469
theorem shL_law_1471 : code.data.toList.drop 1471 = sxL_law_1471 := dSn 1 shL_law_1470
theorem shL_law_1472 : code.data.toList.drop 1472 = sxL_law_1472 := dSn 1 shL_law_1471
theorem shL_law_1473 : code.data.toList.drop 1473 = sxL_law_1473 := dSn 1 shL_law_1472
theorem shL_law_1474 : code.data.toList.drop 1474 = sxL_law_1474 := dSn 1 shL_law_1473
theorem shL_law_1477 : code.data.toList.drop 1477 = sxL_law_1477 := dSn 3 shL_law_1474
theorem shL_law_1478 : code.data.toList.drop 1478 = sxL_law_1478 := dSn 1 shL_law_1477
theorem shL_law_1481 : code.data.toList.drop 1481 = sxL_law_1481 := dSn 3 shL_law_1478
theorem shL_law_1482 : code.data.toList.drop 1482 = sxL_law_1482 := dSn 1 shL_law_1481
theorem shL_law_1483 : code.data.toList.drop 1483 = sxL_law_1483 := dSn 1 shL_law_1482
theorem shL_law_1484 : code.data.toList.drop 1484 = sxL_law_1484 := dSn 1 shL_law_1483
theorem shL_law_1485 : code.data.toList.drop 1485 = sxL_law_1485 := dSn 1 shL_law_1484
theorem shL_law_1486 : code.data.toList.drop 1486 = sxL_law_1486 := dSn 1 shL_law_1485
theorem shL_law_1487 : code.data.toList.drop 1487 = sxL_law_1487 := dSn 1 shL_law_1486
theorem shL_law_1490 : code.data.toList.drop 1490 = sxL_law_1490 := dSn 3 shL_law_1487
theorem shL_law_1491 : code.data.toList.drop 1491 = sxL_law_1491 := dSn 1 shL_law_1490
theorem shL_law_1492 : code.data.toList.drop 1492 = sxL_law_1492 := dSn 1 shL_law_1491
theorem shL_law_1493 : code.data.toList.drop 1493 = sxL_law_1493 := dSn 1 shL_law_1492
theorem shL_law_1494 : code.data.toList.drop 1494 = sxL_law_1494 := dSn 1 shL_law_1493
theorem shL_law_1495 : code.data.toList.drop 1495 = sxL_law_1495 := dSn 1 shL_law_1494
theorem shL_law_1496 : code.data.toList.drop 1496 = sxL_law_1496 := dSn 1 shL_law_1495
theorem shL_law_1497 : code.data.toList.drop 1497 = sxL_law_1497 := dSn 1 shL_law_1496
theorem shL_law_1500 : code.data.toList.drop 1500 = sxL_law_1500 := dSn 3 shL_law_1497
theorem shL_law_1501 : code.data.toList.drop 1501 = sxL_law_1501 := dSn 1 shL_law_1500
theorem shL_law_1504 : code.data.toList.drop 1504 = sxL_law_1504 := dSn 3 shL_law_1501
theorem shL_law_1505 : code.data.toList.drop 1505 = sxL_law_1505 := dSn 1 shL_law_1504
theorem shL_law_1506 : code.data.toList.drop 1506 = sxL_law_1506 := dSn 1 shL_law_1505
theorem shL_law_1507 : code.data.toList.drop 1507 = sxL_law_1507 := dSn 1 shL_law_1506
theorem shL_law_1508 : code.data.toList.drop 1508 = sxL_law_1508 := dSn 1 shL_law_1507
theorem shL_law_1509 : code.data.toList.drop 1509 = sxL_law_1509 := dSn 1 shL_law_1508
theorem shL_law_1510 : code.data.toList.drop 1510 = sxL_law_1510 := dSn 1 shL_law_1509
theorem shL_law_1511 : code.data.toList.drop 1511 = sxL_law_1511 := dSn 1 shL_law_1510
theorem shL_law_1512 : code.data.toList.drop 1512 = sxL_law_1512 := dSn 1 shL_law_1511
theorem shL_law_1513 : code.data.toList.drop 1513 = sxL_law_1513 := dSn 1 shL_law_1512
theorem shL_law_1514 : code.data.toList.drop 1514 = sxL_law_1514 := dSn 1 shL_law_1513
theorem shL_law_1515 : code.data.toList.drop 1515 = sxL_law_1515 := dSn 1 shL_law_1514
theorem shL_law_1516 : code.data.toList.drop 1516 = sxL_law_1516 := dSn 1 shL_law_1515
theorem shL_law_1517 : code.data.toList.drop 1517 = sxL_law_1517 := dSn 1 shL_law_1516
theorem shL_law_1518 : code.data.toList.drop 1518 = sxL_law_1518 := dSn 1 shL_law_1517
theorem shL_law_1519 : code.data.toList.drop 1519 = sxL_law_1519 := dSn 1 shL_law_1518
theorem shL_law_1520 : code.data.toList.drop 1520 = sxL_law_1520 := dSn 1 shL_law_1519
theorem shL_law_1523 : code.data.toList.drop 1523 = sxL_law_1523 := dSn 3 shL_law_1520
theorem shL_law_1524 : code.data.toList.drop 1524 = sxL_law_1524 := dSn 1 shL_law_1523
theorem shL_law_1527 : code.data.toList.drop 1527 = sxL_law_1527 := dSn 3 shL_law_1524
theorem shL_law_1528 : code.data.toList.drop 1528 = sxL_law_1528 := dSn 1 shL_law_1527
theorem shL_law_1531 : code.data.toList.drop 1531 = sxL_law_1531 := dSn 3 shL_law_1528
theorem shL_law_1532 : code.data.toList.drop 1532 = sxL_law_1532 := dSn 1 shL_law_1531
theorem shL_law_1533 : code.data.toList.drop 1533 = sxL_law_1533 := dSn 1 shL_law_1532
theorem shL_law_1534 : code.data.toList.drop 1534 = sxL_law_1534 := dSn 1 shL_law_1533
theorem shL_law_1535 : code.data.toList.drop 1535 = sxL_law_1535 := dSn 1 shL_law_1534
theorem shL_law_1536 : code.data.toList.drop 1536 = sxL_law_1536 := dSn 1 shL_law_1535
theorem shL_law_1537 : code.data.toList.drop 1537 = sxL_law_1537 := dSn 1 shL_law_1536
theorem shL_law_1538 : code.data.toList.drop 1538 = sxL_law_1538 := dSn 1 shL_law_1537
theorem shL_law_1539 : code.data.toList.drop 1539 = sxL_law_1539 := dSn 1 shL_law_1538
theorem shL_law_1540 : code.data.toList.drop 1540 = sxL_law_1540 := dSn 1 shL_law_1539
theorem shL_law_1541 : code.data.toList.drop 1541 = sxL_law_1541 := dSn 1 shL_law_1540
theorem shL_law_1542 : code.data.toList.drop 1542 = sxL_law_1542 := dSn 1 shL_law_1541
theorem shL_law_1543 : code.data.toList.drop 1543 = sxL_law_1543 := dSn 1 shL_law_1542
theorem shL_law_1544 : code.data.toList.drop 1544 = sxL_law_1544 := dSn 1 shL_law_1543
theorem shL_law_1545 : code.data.toList.drop 1545 = sxL_law_1545 := dSn 1 shL_law_1544
theorem shL_law_1546 : code.data.toList.drop 1546 = sxL_law_1546 := dSn 1 shL_law_1545
theorem shL_law_1547 : code.data.toList.drop 1547 = sxL_law_1547 := dSn 1 shL_law_1546
theorem shL_law_1548 : code.data.toList.drop 1548 = sxL_law_1548 := dSn 1 shL_law_1547
theorem shL_law_1551 : code.data.toList.drop 1551 = sxL_law_1551 := dSn 3 shL_law_1548
theorem shL_law_1552 : code.data.toList.drop 1552 = sxL_law_1552 := dSn 1 shL_law_1551
theorem shL_law_1555 : code.data.toList.drop 1555 = sxL_law_1555 := dSn 3 shL_law_1552
theorem shL_law_1556 : code.data.toList.drop 1556 = sxL_law_1556 := dSn 1 shL_law_1555
theorem shL_law_1559 : code.data.toList.drop 1559 = sxL_law_1559 := dSn 3 shL_law_1556
theorem shL_law_1560 : code.data.toList.drop 1560 = sxL_law_1560 := dSn 1 shL_law_1559
theorem shL_law_1563 : code.data.toList.drop 1563 = sxL_law_1563 := dSn 3 shL_law_1560
theorem shL_law_1564 : code.data.toList.drop 1564 = sxL_law_1564 := dSn 1 shL_law_1563
theorem shL_law_1565 : code.data.toList.drop 1565 = sxL_law_1565 := dSn 1 shL_law_1564
theorem shL_law_1566 : code.data.toList.drop 1566 = sxL_law_1566 := dSn 1 shL_law_1565
theorem shL_law_1567 : code.data.toList.drop 1567 = sxL_law_1567 := dSn 1 shL_law_1566
theorem shL_law_1568 : code.data.toList.drop 1568 = sxL_law_1568 := dSn 1 shL_law_1567
theorem shL_law_1569 : code.data.toList.drop 1569 = sxL_law_1569 := dSn 1 shL_law_1568
theorem shL_law_1570 : code.data.toList.drop 1570 = sxL_law_1570 := dSn 1 shL_law_1569
theorem shL_law_1571 : code.data.toList.drop 1571 = sxL_law_1571 := dSn 1 shL_law_1570
theorem shL_law_1572 : code.data.toList.drop 1572 = sxL_law_1572 := dSn 1 shL_law_1571
theorem shL_law_1573 : code.data.toList.drop 1573 = sxL_law_1573 := dSn 1 shL_law_1572
theorem shL_law_1574 : code.data.toList.drop 1574 = sxL_law_1574 := dSn 1 shL_law_1573
theorem shL_law_1575 : code.data.toList.drop 1575 = sxL_law_1575 := dSn 1 shL_law_1574
theorem shL_law_1576 : code.data.toList.drop 1576 = sxL_law_1576 := dSn 1 shL_law_1575
theorem shL_law_1577 : code.data.toList.drop 1577 = sxL_law_1577 := dSn 1 shL_law_1576
theorem shL_law_1578 : code.data.toList.drop 1578 = sxL_law_1578 := dSn 1 shL_law_1577
theorem shL_law_1579 : code.data.toList.drop 1579 = sxL_law_1579 := dSn 1 shL_law_1578
theorem shL_law_1582 : code.data.toList.drop 1582 = sxL_law_1582 := dSn 3 shL_law_1579
theorem shL_law_1583 : code.data.toList.drop 1583 = sxL_law_1583 := dSn 1 shL_law_1582
theorem shL_law_1584 : code.data.toList.drop 1584 = sxL_law_1584 := dSn 1 shL_law_1583
theorem shL_law_1585 : code.data.toList.drop 1585 = sxL_law_1585 := dSn 1 shL_law_1584
theorem shL_law_1586 : code.data.toList.drop 1586 = sxL_law_1586 := dSn 1 shL_law_1585
theorem shL_law_1587 : code.data.toList.drop 1587 = sxL_law_1587 := dSn 1 shL_law_1586
theorem shL_law_1588 : code.data.toList.drop 1588 = sxL_law_1588 := dSn 1 shL_law_1587
theorem shL_law_1589 : code.data.toList.drop 1589 = sxL_law_1589 := dSn 1 shL_law_1588
theorem shL_law_1590 : code.data.toList.drop 1590 = sxL_law_1590 := dSn 1 shL_law_1589
theorem shL_law_1591 : code.data.toList.drop 1591 = sxL_law_1591 := dSn 1 shL_law_1590
theorem shL_law_1592 : code.data.toList.drop 1592 = sxL_law_1592 := dSn 1 shL_law_1591
theorem shL_law_1593 : code.data.toList.drop 1593 = sxL_law_1593 := dSn 1 shL_law_1592
theorem shL_law_1594 : code.data.toList.drop 1594 = sxL_law_1594 := dSn 1 shL_law_1593
theorem shL_law_1595 : code.data.toList.drop 1595 = sxL_law_1595 := dSn 1 shL_law_1594
theorem shL_law_1596 : code.data.toList.drop 1596 = sxL_law_1596 := dSn 1 shL_law_1595
theorem shL_law_1597 : code.data.toList.drop 1597 = sxL_law_1597 := dSn 1 shL_law_1596
theorem shL_law_1598 : code.data.toList.drop 1598 = sxL_law_1598 := dSn 1 shL_law_1597
theorem shL_law_1599 : code.data.toList.drop 1599 = sxL_law_1599 := dSn 1 shL_law_1598
theorem shL_law_1602 : code.data.toList.drop 1602 = sxL_law_1602 := dSn 3 shL_law_1599
theorem shL_law_1603 : code.data.toList.drop 1603 = sxL_law_1603 := dSn 1 shL_law_1602
theorem shL_law_1606 : code.data.toList.drop 1606 = sxL_law_1606 := dSn 3 shL_law_1603
theorem shL_law_1607 : code.data.toList.drop 1607 = sxL_law_1607 := dSn 1 shL_law_1606
theorem shL_law_1608 : code.data.toList.drop 1608 = sxL_law_1608 := dSn 1 shL_law_1607
theorem shL_law_1609 : code.data.toList.drop 1609 = sxL_law_1609 := dSn 1 shL_law_1608
theorem shL_law_1610 : code.data.toList.drop 1610 = sxL_law_1610 := dSn 1 shL_law_1609
theorem shL_law_1611 : code.data.toList.drop 1611 = sxL_law_1611 := dSn 1 shL_law_1610
theorem shL_law_1612 : code.data.toList.drop 1612 = sxL_law_1612 := dSn 1 shL_law_1611
theorem shL_law_1613 : code.data.toList.drop 1613 = sxL_law_1613 := dSn 1 shL_law_1612
theorem shL_law_1614 : code.data.toList.drop 1614 = sxL_law_1614 := dSn 1 shL_law_1613
theorem shL_law_1615 : code.data.toList.drop 1615 = sxL_law_1615 := dSn 1 shL_law_1614
theorem shL_law_1616 : code.data.toList.drop 1616 = sxL_law_1616 := dSn 1 shL_law_1615
theorem shL_law_1617 : code.data.toList.drop 1617 = sxL_law_1617 := dSn 1 shL_law_1616
theorem shL_law_1618 : code.data.toList.drop 1618 = sxL_law_1618 := dSn 1 shL_law_1617
theorem shL_law_1619 : code.data.toList.drop 1619 = sxL_law_1619 := dSn 1 shL_law_1618
theorem shL_law_1620 : code.data.toList.drop 1620 = sxL_law_1620 := dSn 1 shL_law_1619
theorem shL_law_1621 : code.data.toList.drop 1621 = sxL_law_1621 := dSn 1 shL_law_1620
theorem shL_law_1622 : code.data.toList.drop 1622 = sxL_law_1622 := dSn 1 shL_law_1621
theorem shL_law_1623 : code.data.toList.drop 1623 = sxL_law_1623 := dSn 1 shL_law_1622
theorem shL_law_1624 : code.data.toList.drop 1624 = sxL_law_1624 := dSn 1 shL_law_1623
theorem shL_law_1625 : code.data.toList.drop 1625 = sxL_law_1625 := dSn 1 shL_law_1624
theorem shL_law_1626 : code.data.toList.drop 1626 = sxL_law_1626 := dSn 1 shL_law_1625
theorem shL_law_1627 : code.data.toList.drop 1627 = sxL_law_1627 := dSn 1 shL_law_1626
theorem shL_law_1630 : code.data.toList.drop 1630 = sxL_law_1630 := dSn 3 shL_law_1627
theorem shL_law_1631 : code.data.toList.drop 1631 = sxL_law_1631 := dSn 1 shL_law_1630
theorem shL_law_1632 : code.data.toList.drop 1632 = sxL_law_1632 := dSn 1 shL_law_1631
theorem shL_law_1633 : code.data.toList.drop 1633 = sxL_law_1633 := dSn 1 shL_law_1632
theorem shL_law_1634 : code.data.toList.drop 1634 = sxL_law_1634 := dSn 1 shL_law_1633
theorem shL_law_1635 : code.data.toList.drop 1635 = sxL_law_1635 := dSn 1 shL_law_1634
theorem shL_law_1636 : code.data.toList.drop 1636 = sxL_law_1636 := dSn 1 shL_law_1635
theorem shL_law_1637 : code.data.toList.drop 1637 = sxL_law_1637 := dSn 1 shL_law_1636
theorem shL_law_1638 : code.data.toList.drop 1638 = sxL_law_1638 := dSn 1 shL_law_1637
theorem shL_law_1639 : code.data.toList.drop 1639 = sxL_law_1639 := dSn 1 shL_law_1638
theorem shL_law_1640 : code.data.toList.drop 1640 = sxL_law_1640 := dSn 1 shL_law_1639
theorem shL_law_1641 : code.data.toList.drop 1641 = sxL_law_1641 := dSn 1 shL_law_1640
theorem shL_law_1642 : code.data.toList.drop 1642 = sxL_law_1642 := dSn 1 shL_law_1641
theorem shL_law_1643 : code.data.toList.drop 1643 = sxL_law_1643 := dSn 1 shL_law_1642
theorem shL_law_1644 : code.data.toList.drop 1644 = sxL_law_1644 := dSn 1 shL_law_1643
theorem shL_law_1645 : code.data.toList.drop 1645 = sxL_law_1645 := dSn 1 shL_law_1644
theorem shL_law_1646 : code.data.toList.drop 1646 = sxL_law_1646 := dSn 1 shL_law_1645
theorem shL_law_1647 : code.data.toList.drop 1647 = sxL_law_1647 := dSn 1 shL_law_1646
theorem shL_law_1648 : code.data.toList.drop 1648 = sxL_law_1648 := dSn 1 shL_law_1647
theorem shL_law_1649 : code.data.toList.drop 1649 = sxL_law_1649 := dSn 1 shL_law_1648
theorem shL_law_1650 : code.data.toList.drop 1650 = sxL_law_1650 := dSn 1 shL_law_1649
theorem shL_law_1651 : code.data.toList.drop 1651 = sxL_law_1651 := dSn 1 shL_law_1650
theorem shL_law_1652 : code.data.toList.drop 1652 = sxL_law_1652 := dSn 1 shL_law_1651
theorem shL_law_1655 : code.data.toList.drop 1655 = sxL_law_1655 := dSn 3 shL_law_1652
theorem shL_law_1656 : code.data.toList.drop 1656 = sxL_law_1656 := dSn 1 shL_law_1655
theorem shL_law_1659 : code.data.toList.drop 1659 = sxL_law_1659 := dSn 3 shL_law_1656
theorem shL_law_1660 : code.data.toList.drop 1660 = sxL_law_1660 := dSn 1 shL_law_1659
theorem shL_law_1661 : code.data.toList.drop 1661 = sxL_law_1661 := dSn 1 shL_law_1660
theorem shL_law_1662 : code.data.toList.drop 1662 = sxL_law_1662 := dSn 1 shL_law_1661
theorem shL_law_1663 : code.data.toList.drop 1663 = sxL_law_1663 := dSn 1 shL_law_1662
theorem shL_law_1664 : code.data.toList.drop 1664 = sxL_law_1664 := dSn 1 shL_law_1663
theorem shL_law_1665 : code.data.toList.drop 1665 = sxL_law_1665 := dSn 1 shL_law_1664
theorem shL_law_1666 : code.data.toList.drop 1666 = sxL_law_1666 := dSn 1 shL_law_1665
theorem shL_law_1667 : code.data.toList.drop 1667 = sxL_law_1667 := dSn 1 shL_law_1666
theorem shL_law_1668 : code.data.toList.drop 1668 = sxL_law_1668 := dSn 1 shL_law_1667
theorem shL_law_1669 : code.data.toList.drop 1669 = sxL_law_1669 := dSn 1 shL_law_1668
theorem shL_law_1670 : code.data.toList.drop 1670 = sxL_law_1670 := dSn 1 shL_law_1669
theorem shL_law_1673 : code.data.toList.drop 1673 = sxL_law_1673 := dSn 3 shL_law_1670
theorem shL_law_1674 : code.data.toList.drop 1674 = sxL_law_1674 := dSn 1 shL_law_1673
theorem shL_law_1675 : code.data.toList.drop 1675 = sxL_law_1675 := dSn 1 shL_law_1674
theorem shL_law_1676 : code.data.toList.drop 1676 = sxL_law_1676 := dSn 1 shL_law_1675
theorem shL_law_1677 : code.data.toList.drop 1677 = sxL_law_1677 := dSn 1 shL_law_1676
theorem shL_law_1678 : code.data.toList.drop 1678 = sxL_law_1678 := dSn 1 shL_law_1677
theorem shL_law_1679 : code.data.toList.drop 1679 = sxL_law_1679 := dSn 1 shL_law_1678
theorem shL_law_1680 : code.data.toList.drop 1680 = sxL_law_1680 := dSn 1 shL_law_1679
theorem shL_law_1681 : code.data.toList.drop 1681 = sxL_law_1681 := dSn 1 shL_law_1680
theorem shL_law_1682 : code.data.toList.drop 1682 = sxL_law_1682 := dSn 1 shL_law_1681
theorem shL_law_1683 : code.data.toList.drop 1683 = sxL_law_1683 := dSn 1 shL_law_1682
theorem shL_law_1684 : code.data.toList.drop 1684 = sxL_law_1684 := dSn 1 shL_law_1683
theorem shL_law_1685 : code.data.toList.drop 1685 = sxL_law_1685 := dSn 1 shL_law_1684
theorem shL_law_1688 : code.data.toList.drop 1688 = sxL_law_1688 := dSn 3 shL_law_1685
theorem shL_law_1689 : code.data.toList.drop 1689 = sxL_law_1689 := dSn 1 shL_law_1688
theorem shL_law_1692 : code.data.toList.drop 1692 = sxL_law_1692 := dSn 3 shL_law_1689
theorem shL_law_1693 : code.data.toList.drop 1693 = sxL_law_1693 := dSn 1 shL_law_1692
theorem shL_law_1694 : code.data.toList.drop 1694 = sxL_law_1694 := dSn 1 shL_law_1693
theorem shL_law_1695 : code.data.toList.drop 1695 = sxL_law_1695 := dSn 1 shL_law_1694
theorem shL_law_1696 : code.data.toList.drop 1696 = sxL_law_1696 := dSn 1 shL_law_1695
theorem shL_law_1697 : code.data.toList.drop 1697 = sxL_law_1697 := dSn 1 shL_law_1696
theorem shL_law_1698 : code.data.toList.drop 1698 = sxL_law_1698 := dSn 1 shL_law_1697
theorem shL_law_1699 : code.data.toList.drop 1699 = sxL_law_1699 := dSn 1 shL_law_1698
theorem shL_law_1700 : code.data.toList.drop 1700 = sxL_law_1700 := dSn 1 shL_law_1699
theorem shL_law_1701 : code.data.toList.drop 1701 = sxL_law_1701 := dSn 1 shL_law_1700
theorem shL_law_1702 : code.data.toList.drop 1702 = sxL_law_1702 := dSn 1 shL_law_1701
theorem shL_law_1703 : code.data.toList.drop 1703 = sxL_law_1703 := dSn 1 shL_law_1702
theorem shL_law_1706 : code.data.toList.drop 1706 = sxL_law_1706 := dSn 3 shL_law_1703
theorem shL_law_1707 : code.data.toList.drop 1707 = sxL_law_1707 := dSn 1 shL_law_1706
theorem shL_law_1708 : code.data.toList.drop 1708 = sxL_law_1708 := dSn 1 shL_law_1707
theorem shL_law_1709 : code.data.toList.drop 1709 = sxL_law_1709 := dSn 1 shL_law_1708
theorem shL_law_1710 : code.data.toList.drop 1710 = sxL_law_1710 := dSn 1 shL_law_1709
theorem shL_law_1711 : code.data.toList.drop 1711 = sxL_law_1711 := dSn 1 shL_law_1710
theorem shL_law_1712 : code.data.toList.drop 1712 = sxL_law_1712 := dSn 1 shL_law_1711
theorem shL_law_1713 : code.data.toList.drop 1713 = sxL_law_1713 := dSn 1 shL_law_1712
theorem shL_law_1714 : code.data.toList.drop 1714 = sxL_law_1714 := dSn 1 shL_law_1713
theorem shL_law_1715 : code.data.toList.drop 1715 = sxL_law_1715 := dSn 1 shL_law_1714
theorem shL_law_1716 : code.data.toList.drop 1716 = sxL_law_1716 := dSn 1 shL_law_1715
theorem shL_law_1717 : code.data.toList.drop 1717 = sxL_law_1717 := dSn 1 shL_law_1716
theorem shL_law_1718 : code.data.toList.drop 1718 = sxL_law_1718 := dSn 1 shL_law_1717
theorem shL_law_1721 : code.data.toList.drop 1721 = sxL_law_1721 := dSn 3 shL_law_1718
theorem shL_law_1722 : code.data.toList.drop 1722 = sxL_law_1722 := dSn 1 shL_law_1721
theorem shL_law_1725 : code.data.toList.drop 1725 = sxL_law_1725 := dSn 3 shL_law_1722
theorem shL_law_1726 : code.data.toList.drop 1726 = sxL_law_1726 := dSn 1 shL_law_1725
theorem shL_law_1729 : code.data.toList.drop 1729 = sxL_law_1729 := dSn 3 shL_law_1726
theorem shL_law_1730 : code.data.toList.drop 1730 = sxL_law_1730 := dSn 1 shL_law_1729
theorem shL_law_1731 : code.data.toList.drop 1731 = sxL_law_1731 := dSn 1 shL_law_1730
theorem shL_law_1734 : code.data.toList.drop 1734 = sxL_law_1734 := dSn 3 shL_law_1731
theorem shL_law_1735 : code.data.toList.drop 1735 = sxL_law_1735 := dSn 1 shL_law_1734
theorem shL_law_1738 : code.data.toList.drop 1738 = sxL_law_1738 := dSn 3 shL_law_1735
theorem shL_law_1739 : code.data.toList.drop 1739 = sxL_law_1739 := dSn 1 shL_law_1738
theorem shL_law_1740 : code.data.toList.drop 1740 = sxL_law_1740 := dSn 1 shL_law_1739
theorem shL_law_1741 : code.data.toList.drop 1741 = sxL_law_1741 := dSn 1 shL_law_1740
theorem shL_law_1742 : code.data.toList.drop 1742 = sxL_law_1742 := dSn 1 shL_law_1741
theorem shL_law_1743 : code.data.toList.drop 1743 = sxL_law_1743 := dSn 1 shL_law_1742
theorem shL_law_1744 : code.data.toList.drop 1744 = sxL_law_1744 := dSn 1 shL_law_1743
theorem shL_law_1745 : code.data.toList.drop 1745 = sxL_law_1745 := dSn 1 shL_law_1744
theorem shL_law_1746 : code.data.toList.drop 1746 = sxL_law_1746 := dSn 1 shL_law_1745
theorem shL_law_1747 : code.data.toList.drop 1747 = sxL_law_1747 := dSn 1 shL_law_1746
theorem shL_law_1748 : code.data.toList.drop 1748 = sxL_law_1748 := dSn 1 shL_law_1747
theorem shL_law_1749 : code.data.toList.drop 1749 = sxL_law_1749 := dSn 1 shL_law_1748
theorem shL_law_1750 : code.data.toList.drop 1750 = sxL_law_1750 := dSn 1 shL_law_1749
theorem shL_law_1751 : code.data.toList.drop 1751 = sxL_law_1751 := dSn 1 shL_law_1750
theorem shL_law_1752 : code.data.toList.drop 1752 = sxL_law_1752 := dSn 1 shL_law_1751
theorem shL_law_1753 : code.data.toList.drop 1753 = sxL_law_1753 := dSn 1 shL_law_1752
theorem shL_law_1754 : code.data.toList.drop 1754 = sxL_law_1754 := dSn 1 shL_law_1753
theorem shL_law_1757 : code.data.toList.drop 1757 = sxL_law_1757 := dSn 3 shL_law_1754
theorem shL_law_1758 : code.data.toList.drop 1758 = sxL_law_1758 := dSn 1 shL_law_1757
theorem shL_law_1759 : code.data.toList.drop 1759 = sxL_law_1759 := dSn 1 shL_law_1758
theorem shL_law_1760 : code.data.toList.drop 1760 = sxL_law_1760 := dSn 1 shL_law_1759
theorem shL_law_1761 : code.data.toList.drop 1761 = sxL_law_1761 := dSn 1 shL_law_1760
theorem shL_law_1762 : code.data.toList.drop 1762 = sxL_law_1762 := dSn 1 shL_law_1761
theorem shL_law_1763 : code.data.toList.drop 1763 = sxL_law_1763 := dSn 1 shL_law_1762
theorem shL_law_1764 : code.data.toList.drop 1764 = sxL_law_1764 := dSn 1 shL_law_1763
theorem shL_law_1765 : code.data.toList.drop 1765 = sxL_law_1765 := dSn 1 shL_law_1764
theorem shL_law_1766 : code.data.toList.drop 1766 = sxL_law_1766 := dSn 1 shL_law_1765
theorem shL_law_1767 : code.data.toList.drop 1767 = sxL_law_1767 := dSn 1 shL_law_1766
theorem shL_law_1768 : code.data.toList.drop 1768 = sxL_law_1768 := dSn 1 shL_law_1767
theorem shL_law_1769 : code.data.toList.drop 1769 = sxL_law_1769 := dSn 1 shL_law_1768
theorem shL_law_1770 : code.data.toList.drop 1770 = sxL_law_1770 := dSn 1 shL_law_1769
theorem shL_law_1771 : code.data.toList.drop 1771 = sxL_law_1771 := dSn 1 shL_law_1770
theorem shL_law_1772 : code.data.toList.drop 1772 = sxL_law_1772 := dSn 1 shL_law_1771
theorem shL_law_1773 : code.data.toList.drop 1773 = sxL_law_1773 := dSn 1 shL_law_1772
theorem shL_law_1774 : code.data.toList.drop 1774 = sxL_law_1774 := dSn 1 shL_law_1773
theorem shL_law_1777 : code.data.toList.drop 1777 = sxL_law_1777 := dSn 3 shL_law_1774
theorem shL_law_1778 : code.data.toList.drop 1778 = sxL_law_1778 := dSn 1 shL_law_1777
theorem shL_law_1781 : code.data.toList.drop 1781 = sxL_law_1781 := dSn 3 shL_law_1778
theorem shL_law_1782 : code.data.toList.drop 1782 = sxL_law_1782 := dSn 1 shL_law_1781
theorem shL_law_1783 : code.data.toList.drop 1783 = sxL_law_1783 := dSn 1 shL_law_1782
theorem shL_law_1784 : code.data.toList.drop 1784 = sxL_law_1784 := dSn 1 shL_law_1783
theorem shL_law_1785 : code.data.toList.drop 1785 = sxL_law_1785 := dSn 1 shL_law_1784
theorem shL_law_1786 : code.data.toList.drop 1786 = sxL_law_1786 := dSn 1 shL_law_1785
theorem shL_law_1787 : code.data.toList.drop 1787 = sxL_law_1787 := dSn 1 shL_law_1786
theorem shL_law_1788 : code.data.toList.drop 1788 = sxL_law_1788 := dSn 1 shL_law_1787
theorem shL_law_1789 : code.data.toList.drop 1789 = sxL_law_1789 := dSn 1 shL_law_1788
theorem shL_law_1790 : code.data.toList.drop 1790 = sxL_law_1790 := dSn 1 shL_law_1789
theorem shL_law_1791 : code.data.toList.drop 1791 = sxL_law_1791 := dSn 1 shL_law_1790
theorem shL_law_1792 : code.data.toList.drop 1792 = sxL_law_1792 := dSn 1 shL_law_1791
theorem shL_law_1795 : code.data.toList.drop 1795 = sxL_law_1795 := dSn 3 shL_law_1792
theorem shL_law_1796 : code.data.toList.drop 1796 = sxL_law_1796 := dSn 1 shL_law_1795
theorem shL_law_1797 : code.data.toList.drop 1797 = sxL_law_1797 := dSn 1 shL_law_1796
theorem shL_law_1798 : code.data.toList.drop 1798 = sxL_law_1798 := dSn 1 shL_law_1797
theorem shL_law_1799 : code.data.toList.drop 1799 = sxL_law_1799 := dSn 1 shL_law_1798
theorem shL_law_1800 : code.data.toList.drop 1800 = sxL_law_1800 := dSn 1 shL_law_1799
theorem shL_law_1801 : code.data.toList.drop 1801 = sxL_law_1801 := dSn 1 shL_law_1800
theorem shL_law_1802 : code.data.toList.drop 1802 = sxL_law_1802 := dSn 1 shL_law_1801
theorem shL_law_1803 : code.data.toList.drop 1803 = sxL_law_1803 := dSn 1 shL_law_1802
theorem shL_law_1804 : code.data.toList.drop 1804 = sxL_law_1804 := dSn 1 shL_law_1803
theorem shL_law_1805 : code.data.toList.drop 1805 = sxL_law_1805 := dSn 1 shL_law_1804
theorem shL_law_1806 : code.data.toList.drop 1806 = sxL_law_1806 := dSn 1 shL_law_1805
theorem shL_law_1807 : code.data.toList.drop 1807 = sxL_law_1807 := dSn 1 shL_law_1806
theorem shL_law_1810 : code.data.toList.drop 1810 = sxL_law_1810 := dSn 3 shL_law_1807
theorem shL_law_1811 : code.data.toList.drop 1811 = sxL_law_1811 := dSn 1 shL_law_1810
theorem shL_law_1814 : code.data.toList.drop 1814 = sxL_law_1814 := dSn 3 shL_law_1811
theorem shL_law_1815 : code.data.toList.drop 1815 = sxL_law_1815 := dSn 1 shL_law_1814
theorem shL_law_1816 : code.data.toList.drop 1816 = sxL_law_1816 := dSn 1 shL_law_1815
theorem shL_law_1817 : code.data.toList.drop 1817 = sxL_law_1817 := dSn 1 shL_law_1816
theorem shL_law_1818 : code.data.toList.drop 1818 = sxL_law_1818 := dSn 1 shL_law_1817
theorem shL_law_1819 : code.data.toList.drop 1819 = sxL_law_1819 := dSn 1 shL_law_1818
theorem shL_law_1820 : code.data.toList.drop 1820 = sxL_law_1820 := dSn 1 shL_law_1819
theorem shL_law_1823 : code.data.toList.drop 1823 = sxL_law_1823 := dSn 3 shL_law_1820
theorem shL_law_1824 : code.data.toList.drop 1824 = sxL_law_1824 := dSn 1 shL_law_1823
theorem shL_law_1825 : code.data.toList.drop 1825 = sxL_law_1825 := dSn 1 shL_law_1824
theorem shL_law_1826 : code.data.toList.drop 1826 = sxL_law_1826 := dSn 1 shL_law_1825
theorem shL_law_1827 : code.data.toList.drop 1827 = sxL_law_1827 := dSn 1 shL_law_1826
theorem shL_law_1828 : code.data.toList.drop 1828 = sxL_law_1828 := dSn 1 shL_law_1827
theorem shL_law_1829 : code.data.toList.drop 1829 = sxL_law_1829 := dSn 1 shL_law_1828
theorem shL_law_1830 : code.data.toList.drop 1830 = sxL_law_1830 := dSn 1 shL_law_1829
theorem shL_law_1833 : code.data.toList.drop 1833 = sxL_law_1833 := dSn 3 shL_law_1830
theorem shL_law_1834 : code.data.toList.drop 1834 = sxL_law_1834 := dSn 1 shL_law_1833
theorem shL_law_1837 : code.data.toList.drop 1837 = sxL_law_1837 := dSn 3 shL_law_1834
theorem shL_law_1838 : code.data.toList.drop 1838 = sxL_law_1838 := dSn 1 shL_law_1837
theorem shL_law_1839 : code.data.toList.drop 1839 = sxL_law_1839 := dSn 1 shL_law_1838
theorem shL_law_1840 : code.data.toList.drop 1840 = sxL_law_1840 := dSn 1 shL_law_1839
theorem shL_law_1841 : code.data.toList.drop 1841 = sxL_law_1841 := dSn 1 shL_law_1840
theorem shL_law_1842 : code.data.toList.drop 1842 = sxL_law_1842 := dSn 1 shL_law_1841
theorem shL_law_1843 : code.data.toList.drop 1843 = sxL_law_1843 := dSn 1 shL_law_1842
theorem shL_law_1844 : code.data.toList.drop 1844 = sxL_law_1844 := dSn 1 shL_law_1843
theorem shL_law_1845 : code.data.toList.drop 1845 = sxL_law_1845 := dSn 1 shL_law_1844
theorem shL_law_1846 : code.data.toList.drop 1846 = sxL_law_1846 := dSn 1 shL_law_1845
theorem shL_law_1847 : code.data.toList.drop 1847 = sxL_law_1847 := dSn 1 shL_law_1846
theorem shL_law_1848 : code.data.toList.drop 1848 = sxL_law_1848 := dSn 1 shL_law_1847
theorem shL_law_1851 : code.data.toList.drop 1851 = sxL_law_1851 := dSn 3 shL_law_1848
theorem shL_law_1852 : code.data.toList.drop 1852 = sxL_law_1852 := dSn 1 shL_law_1851
theorem shL_law_1853 : code.data.toList.drop 1853 = sxL_law_1853 := dSn 1 shL_law_1852
theorem shL_law_1854 : code.data.toList.drop 1854 = sxL_law_1854 := dSn 1 shL_law_1853
theorem shL_law_1855 : code.data.toList.drop 1855 = sxL_law_1855 := dSn 1 shL_law_1854
theorem shL_law_1856 : code.data.toList.drop 1856 = sxL_law_1856 := dSn 1 shL_law_1855
theorem shL_law_1857 : code.data.toList.drop 1857 = sxL_law_1857 := dSn 1 shL_law_1856
theorem shL_law_1858 : code.data.toList.drop 1858 = sxL_law_1858 := dSn 1 shL_law_1857
theorem shL_law_1859 : code.data.toList.drop 1859 = sxL_law_1859 := dSn 1 shL_law_1858
theorem shL_law_1860 : code.data.toList.drop 1860 = sxL_law_1860 := dSn 1 shL_law_1859
theorem shL_law_1861 : code.data.toList.drop 1861 = sxL_law_1861 := dSn 1 shL_law_1860
theorem shL_law_1862 : code.data.toList.drop 1862 = sxL_law_1862 := dSn 1 shL_law_1861
theorem shL_law_1863 : code.data.toList.drop 1863 = sxL_law_1863 := dSn 1 shL_law_1862
theorem shL_law_1866 : code.data.toList.drop 1866 = sxL_law_1866 := dSn 3 shL_law_1863
theorem shL_law_1867 : code.data.toList.drop 1867 = sxL_law_1867 := dSn 1 shL_law_1866
theorem shL_law_1870 : code.data.toList.drop 1870 = sxL_law_1870 := dSn 3 shL_law_1867
theorem shL_law_1871 : code.data.toList.drop 1871 = sxL_law_1871 := dSn 1 shL_law_1870
theorem shL_law_1872 : code.data.toList.drop 1872 = sxL_law_1872 := dSn 1 shL_law_1871
theorem shL_law_1873 : code.data.toList.drop 1873 = sxL_law_1873 := dSn 1 shL_law_1872
theorem shL_law_1874 : code.data.toList.drop 1874 = sxL_law_1874 := dSn 1 shL_law_1873
theorem shL_law_1875 : code.data.toList.drop 1875 = sxL_law_1875 := dSn 1 shL_law_1874
theorem shL_law_1876 : code.data.toList.drop 1876 = sxL_law_1876 := dSn 1 shL_law_1875
theorem shL_law_1877 : code.data.toList.drop 1877 = sxL_law_1877 := dSn 1 shL_law_1876
theorem shL_law_1878 : code.data.toList.drop 1878 = sxL_law_1878 := dSn 1 shL_law_1877
theorem shL_law_1879 : code.data.toList.drop 1879 = sxL_law_1879 := dSn 1 shL_law_1878
theorem shL_law_1880 : code.data.toList.drop 1880 = sxL_law_1880 := dSn 1 shL_law_1879
theorem shL_law_1881 : code.data.toList.drop 1881 = sxL_law_1881 := dSn 1 shL_law_1880
theorem shL_law_1884 : code.data.toList.drop 1884 = sxL_law_1884 := dSn 3 shL_law_1881
theorem shL_law_1885 : code.data.toList.drop 1885 = sxL_law_1885 := dSn 1 shL_law_1884
theorem shL_law_1886 : code.data.toList.drop 1886 = sxL_law_1886 := dSn 1 shL_law_1885
theorem shL_law_1887 : code.data.toList.drop 1887 = sxL_law_1887 := dSn 1 shL_law_1886
theorem shL_law_1888 : code.data.toList.drop 1888 = sxL_law_1888 := dSn 1 shL_law_1887
theorem shL_law_1889 : code.data.toList.drop 1889 = sxL_law_1889 := dSn 1 shL_law_1888
theorem shL_law_1890 : code.data.toList.drop 1890 = sxL_law_1890 := dSn 1 shL_law_1889
theorem shL_law_1891 : code.data.toList.drop 1891 = sxL_law_1891 := dSn 1 shL_law_1890
theorem shL_law_1892 : code.data.toList.drop 1892 = sxL_law_1892 := dSn 1 shL_law_1891
theorem shL_law_1893 : code.data.toList.drop 1893 = sxL_law_1893 := dSn 1 shL_law_1892
theorem shL_law_1894 : code.data.toList.drop 1894 = sxL_law_1894 := dSn 1 shL_law_1893
theorem shL_law_1895 : code.data.toList.drop 1895 = sxL_law_1895 := dSn 1 shL_law_1894
theorem shL_law_1896 : code.data.toList.drop 1896 = sxL_law_1896 := dSn 1 shL_law_1895
theorem shL_law_1899 : code.data.toList.drop 1899 = sxL_law_1899 := dSn 3 shL_law_1896
theorem shL_law_1900 : code.data.toList.drop 1900 = sxL_law_1900 := dSn 1 shL_law_1899
theorem shL_law_1903 : code.data.toList.drop 1903 = sxL_law_1903 := dSn 3 shL_law_1900
theorem shL_law_1904 : code.data.toList.drop 1904 = sxL_law_1904 := dSn 1 shL_law_1903
theorem shL_law_1905 : code.data.toList.drop 1905 = sxL_law_1905 := dSn 1 shL_law_1904
theorem shL_law_1906 : code.data.toList.drop 1906 = sxL_law_1906 := dSn 1 shL_law_1905
theorem shL_law_1907 : code.data.toList.drop 1907 = sxL_law_1907 := dSn 1 shL_law_1906
theorem shL_law_1908 : code.data.toList.drop 1908 = sxL_law_1908 := dSn 1 shL_law_1907
theorem shL_law_1909 : code.data.toList.drop 1909 = sxL_law_1909 := dSn 1 shL_law_1908
theorem shL_law_1910 : code.data.toList.drop 1910 = sxL_law_1910 := dSn 1 shL_law_1909
theorem shL_law_1911 : code.data.toList.drop 1911 = sxL_law_1911 := dSn 1 shL_law_1910
theorem shL_law_1912 : code.data.toList.drop 1912 = sxL_law_1912 := dSn 1 shL_law_1911
theorem shL_law_1913 : code.data.toList.drop 1913 = sxL_law_1913 := dSn 1 shL_law_1912
theorem shL_law_1914 : code.data.toList.drop 1914 = sxL_law_1914 := dSn 1 shL_law_1913
theorem shL_law_1917 : code.data.toList.drop 1917 = sxL_law_1917 := dSn 3 shL_law_1914
theorem shL_law_1918 : code.data.toList.drop 1918 = sxL_law_1918 := dSn 1 shL_law_1917
theorem shL_law_1919 : code.data.toList.drop 1919 = sxL_law_1919 := dSn 1 shL_law_1918
theorem shL_law_1920 : code.data.toList.drop 1920 = sxL_law_1920 := dSn 1 shL_law_1919
theorem shL_law_1921 : code.data.toList.drop 1921 = sxL_law_1921 := dSn 1 shL_law_1920
theorem shL_law_1922 : code.data.toList.drop 1922 = sxL_law_1922 := dSn 1 shL_law_1921
theorem shL_law_1923 : code.data.toList.drop 1923 = sxL_law_1923 := dSn 1 shL_law_1922
theorem shL_law_1924 : code.data.toList.drop 1924 = sxL_law_1924 := dSn 1 shL_law_1923
theorem shL_law_1925 : code.data.toList.drop 1925 = sxL_law_1925 := dSn 1 shL_law_1924
theorem shL_law_1926 : code.data.toList.drop 1926 = sxL_law_1926 := dSn 1 shL_law_1925
theorem shL_law_1927 : code.data.toList.drop 1927 = sxL_law_1927 := dSn 1 shL_law_1926
theorem shL_law_1928 : code.data.toList.drop 1928 = sxL_law_1928 := dSn 1 shL_law_1927
theorem shL_law_1929 : code.data.toList.drop 1929 = sxL_law_1929 := dSn 1 shL_law_1928
theorem shL_law_1932 : code.data.toList.drop 1932 = sxL_law_1932 := dSn 3 shL_law_1929
theorem shL_law_1933 : code.data.toList.drop 1933 = sxL_law_1933 := dSn 1 shL_law_1932
theorem shL_law_1936 : code.data.toList.drop 1936 = sxL_law_1936 := dSn 3 shL_law_1933
theorem shL_law_1937 : code.data.toList.drop 1937 = sxL_law_1937 := dSn 1 shL_law_1936
theorem shL_law_1938 : code.data.toList.drop 1938 = sxL_law_1938 := dSn 1 shL_law_1937
theorem shL_law_1939 : code.data.toList.drop 1939 = sxL_law_1939 := dSn 1 shL_law_1938
theorem shL_law_1940 : code.data.toList.drop 1940 = sxL_law_1940 := dSn 1 shL_law_1939
theorem shL_law_1941 : code.data.toList.drop 1941 = sxL_law_1941 := dSn 1 shL_law_1940
theorem shL_law_1942 : code.data.toList.drop 1942 = sxL_law_1942 := dSn 1 shL_law_1941
theorem shL_law_1943 : code.data.toList.drop 1943 = sxL_law_1943 := dSn 1 shL_law_1942
theorem shL_law_1944 : code.data.toList.drop 1944 = sxL_law_1944 := dSn 1 shL_law_1943
theorem shL_law_1945 : code.data.toList.drop 1945 = sxL_law_1945 := dSn 1 shL_law_1944
theorem shL_law_1946 : code.data.toList.drop 1946 = sxL_law_1946 := dSn 1 shL_law_1945
theorem shL_law_1947 : code.data.toList.drop 1947 = sxL_law_1947 := dSn 1 shL_law_1946
theorem shL_law_1948 : code.data.toList.drop 1948 = sxL_law_1948 := dSn 1 shL_law_1947
theorem shL_law_1949 : code.data.toList.drop 1949 = sxL_law_1949 := dSn 1 shL_law_1948
theorem shL_law_1950 : code.data.toList.drop 1950 = sxL_law_1950 := dSn 1 shL_law_1949
theorem shL_law_1951 : code.data.toList.drop 1951 = sxL_law_1951 := dSn 1 shL_law_1950
theorem shL_law_1952 : code.data.toList.drop 1952 = sxL_law_1952 := dSn 1 shL_law_1951
theorem shL_law_1955 : code.data.toList.drop 1955 = sxL_law_1955 := dSn 3 shL_law_1952
theorem shL_law_1956 : code.data.toList.drop 1956 = sxL_law_1956 := dSn 1 shL_law_1955
theorem shL_law_1957 : code.data.toList.drop 1957 = sxL_law_1957 := dSn 1 shL_law_1956
theorem shL_law_1958 : code.data.toList.drop 1958 = sxL_law_1958 := dSn 1 shL_law_1957
theorem shL_law_1959 : code.data.toList.drop 1959 = sxL_law_1959 := dSn 1 shL_law_1958
theorem shL_law_1960 : code.data.toList.drop 1960 = sxL_law_1960 := dSn 1 shL_law_1959
theorem shL_law_1961 : code.data.toList.drop 1961 = sxL_law_1961 := dSn 1 shL_law_1960
theorem shL_law_1962 : code.data.toList.drop 1962 = sxL_law_1962 := dSn 1 shL_law_1961
theorem shL_law_1963 : code.data.toList.drop 1963 = sxL_law_1963 := dSn 1 shL_law_1962
theorem shL_law_1964 : code.data.toList.drop 1964 = sxL_law_1964 := dSn 1 shL_law_1963
theorem shL_law_1965 : code.data.toList.drop 1965 = sxL_law_1965 := dSn 1 shL_law_1964
theorem shL_law_1966 : code.data.toList.drop 1966 = sxL_law_1966 := dSn 1 shL_law_1965
theorem shL_law_1967 : code.data.toList.drop 1967 = sxL_law_1967 := dSn 1 shL_law_1966
theorem shL_law_1968 : code.data.toList.drop 1968 = sxL_law_1968 := dSn 1 shL_law_1967
theorem shL_law_1969 : code.data.toList.drop 1969 = sxL_law_1969 := dSn 1 shL_law_1968
theorem shL_law_1970 : code.data.toList.drop 1970 = sxL_law_1970 := dSn 1 shL_law_1969
theorem shL_law_1971 : code.data.toList.drop 1971 = sxL_law_1971 := dSn 1 shL_law_1970
theorem shL_law_1972 : code.data.toList.drop 1972 = sxL_law_1972 := dSn 1 shL_law_1971
theorem shL_law_1975 : code.data.toList.drop 1975 = sxL_law_1975 := dSn 3 shL_law_1972
theorem shL_law_1976 : code.data.toList.drop 1976 = sxL_law_1976 := dSn 1 shL_law_1975
theorem shL_law_1979 : code.data.toList.drop 1979 = sxL_law_1979 := dSn 3 shL_law_1976
theorem shL_law_1980 : code.data.toList.drop 1980 = sxL_law_1980 := dSn 1 shL_law_1979
theorem shL_law_1981 : code.data.toList.drop 1981 = sxL_law_1981 := dSn 1 shL_law_1980
theorem shL_law_1982 : code.data.toList.drop 1982 = sxL_law_1982 := dSn 1 shL_law_1981
theorem shL_law_1983 : code.data.toList.drop 1983 = sxL_law_1983 := dSn 1 shL_law_1982
theorem shL_law_1984 : code.data.toList.drop 1984 = sxL_law_1984 := dSn 1 shL_law_1983
theorem shL_law_1985 : code.data.toList.drop 1985 = sxL_law_1985 := dSn 1 shL_law_1984
theorem shL_law_1988 : code.data.toList.drop 1988 = sxL_law_1988 := dSn 3 shL_law_1985
theorem shL_law_1989 : code.data.toList.drop 1989 = sxL_law_1989 := dSn 1 shL_law_1988
theorem shL_law_1990 : code.data.toList.drop 1990 = sxL_law_1990 := dSn 1 shL_law_1989
theorem shL_law_1991 : code.data.toList.drop 1991 = sxL_law_1991 := dSn 1 shL_law_1990
theorem shL_law_1992 : code.data.toList.drop 1992 = sxL_law_1992 := dSn 1 shL_law_1991
theorem shL_law_1993 : code.data.toList.drop 1993 = sxL_law_1993 := dSn 1 shL_law_1992
theorem shL_law_1994 : code.data.toList.drop 1994 = sxL_law_1994 := dSn 1 shL_law_1993
theorem shL_law_1995 : code.data.toList.drop 1995 = sxL_law_1995 := dSn 1 shL_law_1994
theorem shL_law_1998 : code.data.toList.drop 1998 = sxL_law_1998 := dSn 3 shL_law_1995
theorem shL_law_1999 : code.data.toList.drop 1999 = sxL_law_1999 := dSn 1 shL_law_1998
theorem shL_law_2002 : code.data.toList.drop 2002 = sxL_law_2002 := dSn 3 shL_law_1999
theorem shL_law_2003 : code.data.toList.drop 2003 = sxL_law_2003 := dSn 1 shL_law_2002
theorem shL_law_2004 : code.data.toList.drop 2004 = sxL_law_2004 := dSn 1 shL_law_2003
theorem shL_law_2005 : code.data.toList.drop 2005 = sxL_law_2005 := dSn 1 shL_law_2004
theorem shL_law_2006 : code.data.toList.drop 2006 = sxL_law_2006 := dSn 1 shL_law_2005
theorem shL_law_2007 : code.data.toList.drop 2007 = sxL_law_2007 := dSn 1 shL_law_2006
theorem shL_law_2008 : code.data.toList.drop 2008 = sxL_law_2008 := dSn 1 shL_law_2007
theorem shL_law_2009 : code.data.toList.drop 2009 = sxL_law_2009 := dSn 1 shL_law_2008
theorem shL_law_2010 : code.data.toList.drop 2010 = sxL_law_2010 := dSn 1 shL_law_2009
theorem shL_law_2011 : code.data.toList.drop 2011 = sxL_law_2011 := dSn 1 shL_law_2010
theorem shL_law_2012 : code.data.toList.drop 2012 = sxL_law_2012 := dSn 1 shL_law_2011
theorem shL_law_2013 : code.data.toList.drop 2013 = sxL_law_2013 := dSn 1 shL_law_2012
theorem shL_law_2016 : code.data.toList.drop 2016 = sxL_law_2016 := dSn 3 shL_law_2013
theorem shL_law_2017 : code.data.toList.drop 2017 = sxL_law_2017 := dSn 1 shL_law_2016
theorem shL_law_2018 : code.data.toList.drop 2018 = sxL_law_2018 := dSn 1 shL_law_2017
theorem shL_law_2019 : code.data.toList.drop 2019 = sxL_law_2019 := dSn 1 shL_law_2018
theorem shL_law_2020 : code.data.toList.drop 2020 = sxL_law_2020 := dSn 1 shL_law_2019
theorem shL_law_2021 : code.data.toList.drop 2021 = sxL_law_2021 := dSn 1 shL_law_2020
theorem shL_law_2022 : code.data.toList.drop 2022 = sxL_law_2022 := dSn 1 shL_law_2021
theorem shL_law_2023 : code.data.toList.drop 2023 = sxL_law_2023 := dSn 1 shL_law_2022
theorem shL_law_2024 : code.data.toList.drop 2024 = sxL_law_2024 := dSn 1 shL_law_2023
theorem shL_law_2025 : code.data.toList.drop 2025 = sxL_law_2025 := dSn 1 shL_law_2024
theorem shL_law_2026 : code.data.toList.drop 2026 = sxL_law_2026 := dSn 1 shL_law_2025
theorem shL_law_2027 : code.data.toList.drop 2027 = sxL_law_2027 := dSn 1 shL_law_2026
theorem shL_law_2028 : code.data.toList.drop 2028 = sxL_law_2028 := dSn 1 shL_law_2027
theorem shL_law_2031 : code.data.toList.drop 2031 = sxL_law_2031 := dSn 3 shL_law_2028
theorem shL_law_2032 : code.data.toList.drop 2032 = sxL_law_2032 := dSn 1 shL_law_2031
theorem shL_law_2035 : code.data.toList.drop 2035 = sxL_law_2035 := dSn 3 shL_law_2032
theorem shL_law_2036 : code.data.toList.drop 2036 = sxL_law_2036 := dSn 1 shL_law_2035
theorem shL_law_2037 : code.data.toList.drop 2037 = sxL_law_2037 := dSn 1 shL_law_2036
theorem shL_law_2038 : code.data.toList.drop 2038 = sxL_law_2038 := dSn 1 shL_law_2037
theorem shL_law_2039 : code.data.toList.drop 2039 = sxL_law_2039 := dSn 1 shL_law_2038
theorem shL_law_2040 : code.data.toList.drop 2040 = sxL_law_2040 := dSn 1 shL_law_2039
theorem shL_law_2041 : code.data.toList.drop 2041 = sxL_law_2041 := dSn 1 shL_law_2040
theorem shL_law_2044 : code.data.toList.drop 2044 = sxL_law_2044 := dSn 3 shL_law_2041
theorem shL_law_2045 : code.data.toList.drop 2045 = sxL_law_2045 := dSn 1 shL_law_2044
theorem shL_law_2046 : code.data.toList.drop 2046 = sxL_law_2046 := dSn 1 shL_law_2045
theorem shL_law_2047 : code.data.toList.drop 2047 = sxL_law_2047 := dSn 1 shL_law_2046
theorem shL_law_2048 : code.data.toList.drop 2048 = sxL_law_2048 := dSn 1 shL_law_2047
theorem shL_law_2049 : code.data.toList.drop 2049 = sxL_law_2049 := dSn 1 shL_law_2048
theorem shL_law_2050 : code.data.toList.drop 2050 = sxL_law_2050 := dSn 1 shL_law_2049
theorem shL_law_2051 : code.data.toList.drop 2051 = sxL_law_2051 := dSn 1 shL_law_2050
theorem shL_law_2054 : code.data.toList.drop 2054 = sxL_law_2054 := dSn 3 shL_law_2051
theorem shL_law_2055 : code.data.toList.drop 2055 = sxL_law_2055 := dSn 1 shL_law_2054
theorem shL_law_2058 : code.data.toList.drop 2058 = sxL_law_2058 := dSn 3 shL_law_2055
theorem shL_law_2059 : code.data.toList.drop 2059 = sxL_law_2059 := dSn 1 shL_law_2058
theorem shL_law_2060 : code.data.toList.drop 2060 = sxL_law_2060 := dSn 1 shL_law_2059
theorem shL_law_2061 : code.data.toList.drop 2061 = sxL_law_2061 := dSn 1 shL_law_2060
theorem shL_law_2062 : code.data.toList.drop 2062 = sxL_law_2062 := dSn 1 shL_law_2061
theorem shL_law_2063 : code.data.toList.drop 2063 = sxL_law_2063 := dSn 1 shL_law_2062
theorem shL_law_2064 : code.data.toList.drop 2064 = sxL_law_2064 := dSn 1 shL_law_2063
theorem shL_law_2065 : code.data.toList.drop 2065 = sxL_law_2065 := dSn 1 shL_law_2064
theorem shL_law_2066 : code.data.toList.drop 2066 = sxL_law_2066 := dSn 1 shL_law_2065
theorem shL_law_2067 : code.data.toList.drop 2067 = sxL_law_2067 := dSn 1 shL_law_2066
theorem shL_law_2068 : code.data.toList.drop 2068 = sxL_law_2068 := dSn 1 shL_law_2067
theorem shL_law_2069 : code.data.toList.drop 2069 = sxL_law_2069 := dSn 1 shL_law_2068
theorem shL_law_2072 : code.data.toList.drop 2072 = sxL_law_2072 := dSn 3 shL_law_2069
theorem shL_law_2073 : code.data.toList.drop 2073 = sxL_law_2073 := dSn 1 shL_law_2072
theorem shL_law_2074 : code.data.toList.drop 2074 = sxL_law_2074 := dSn 1 shL_law_2073
theorem shL_law_2075 : code.data.toList.drop 2075 = sxL_law_2075 := dSn 1 shL_law_2074
theorem shL_law_2076 : code.data.toList.drop 2076 = sxL_law_2076 := dSn 1 shL_law_2075
theorem shL_law_2077 : code.data.toList.drop 2077 = sxL_law_2077 := dSn 1 shL_law_2076
theorem shL_law_2078 : code.data.toList.drop 2078 = sxL_law_2078 := dSn 1 shL_law_2077
theorem shL_law_2079 : code.data.toList.drop 2079 = sxL_law_2079 := dSn 1 shL_law_2078
theorem shL_law_2080 : code.data.toList.drop 2080 = sxL_law_2080 := dSn 1 shL_law_2079
theorem shL_law_2081 : code.data.toList.drop 2081 = sxL_law_2081 := dSn 1 shL_law_2080
theorem shL_law_2082 : code.data.toList.drop 2082 = sxL_law_2082 := dSn 1 shL_law_2081
theorem shL_law_2083 : code.data.toList.drop 2083 = sxL_law_2083 := dSn 1 shL_law_2082
theorem shL_law_2084 : code.data.toList.drop 2084 = sxL_law_2084 := dSn 1 shL_law_2083
theorem shL_law_2087 : code.data.toList.drop 2087 = sxL_law_2087 := dSn 3 shL_law_2084
theorem shL_law_2088 : code.data.toList.drop 2088 = sxL_law_2088 := dSn 1 shL_law_2087
theorem shL_law_2091 : code.data.toList.drop 2091 = sxL_law_2091 := dSn 3 shL_law_2088
theorem shL_law_2092 : code.data.toList.drop 2092 = sxL_law_2092 := dSn 1 shL_law_2091
theorem shL_law_2093 : code.data.toList.drop 2093 = sxL_law_2093 := dSn 1 shL_law_2092
theorem shL_law_2094 : code.data.toList.drop 2094 = sxL_law_2094 := dSn 1 shL_law_2093
theorem shL_law_2095 : code.data.toList.drop 2095 = sxL_law_2095 := dSn 1 shL_law_2094
theorem shL_law_2096 : code.data.toList.drop 2096 = sxL_law_2096 := dSn 1 shL_law_2095
theorem shL_law_2097 : code.data.toList.drop 2097 = sxL_law_2097 := dSn 1 shL_law_2096
theorem shL_law_2098 : code.data.toList.drop 2098 = sxL_law_2098 := dSn 1 shL_law_2097
theorem shL_law_2099 : code.data.toList.drop 2099 = sxL_law_2099 := dSn 1 shL_law_2098
theorem shL_law_2100 : code.data.toList.drop 2100 = sxL_law_2100 := dSn 1 shL_law_2099
theorem shL_law_2101 : code.data.toList.drop 2101 = sxL_law_2101 := dSn 1 shL_law_2100
theorem shL_law_2102 : code.data.toList.drop 2102 = sxL_law_2102 := dSn 1 shL_law_2101
theorem shL_law_2103 : code.data.toList.drop 2103 = sxL_law_2103 := dSn 1 shL_law_2102
theorem shL_law_2104 : code.data.toList.drop 2104 = sxL_law_2104 := dSn 1 shL_law_2103
theorem shL_law_2105 : code.data.toList.drop 2105 = sxL_law_2105 := dSn 1 shL_law_2104
theorem shL_law_2106 : code.data.toList.drop 2106 = sxL_law_2106 := dSn 1 shL_law_2105
theorem shL_law_2107 : code.data.toList.drop 2107 = sxL_law_2107 := dSn 1 shL_law_2106
theorem shL_law_2110 : code.data.toList.drop 2110 = sxL_law_2110 := dSn 3 shL_law_2107
theorem shL_law_2111 : code.data.toList.drop 2111 = sxL_law_2111 := dSn 1 shL_law_2110
theorem shL_law_2112 : code.data.toList.drop 2112 = sxL_law_2112 := dSn 1 shL_law_2111
theorem shL_law_2113 : code.data.toList.drop 2113 = sxL_law_2113 := dSn 1 shL_law_2112
theorem shL_law_2114 : code.data.toList.drop 2114 = sxL_law_2114 := dSn 1 shL_law_2113
theorem shL_law_2115 : code.data.toList.drop 2115 = sxL_law_2115 := dSn 1 shL_law_2114
theorem shL_law_2116 : code.data.toList.drop 2116 = sxL_law_2116 := dSn 1 shL_law_2115
theorem shL_law_2117 : code.data.toList.drop 2117 = sxL_law_2117 := dSn 1 shL_law_2116
theorem shL_law_2118 : code.data.toList.drop 2118 = sxL_law_2118 := dSn 1 shL_law_2117
theorem shL_law_2119 : code.data.toList.drop 2119 = sxL_law_2119 := dSn 1 shL_law_2118
theorem shL_law_2120 : code.data.toList.drop 2120 = sxL_law_2120 := dSn 1 shL_law_2119
theorem shL_law_2121 : code.data.toList.drop 2121 = sxL_law_2121 := dSn 1 shL_law_2120
theorem shL_law_2122 : code.data.toList.drop 2122 = sxL_law_2122 := dSn 1 shL_law_2121
theorem shL_law_2123 : code.data.toList.drop 2123 = sxL_law_2123 := dSn 1 shL_law_2122
theorem shL_law_2124 : code.data.toList.drop 2124 = sxL_law_2124 := dSn 1 shL_law_2123
theorem shL_law_2125 : code.data.toList.drop 2125 = sxL_law_2125 := dSn 1 shL_law_2124
theorem shL_law_2126 : code.data.toList.drop 2126 = sxL_law_2126 := dSn 1 shL_law_2125
theorem shL_law_2127 : code.data.toList.drop 2127 = sxL_law_2127 := dSn 1 shL_law_2126
theorem shL_law_2130 : code.data.toList.drop 2130 = sxL_law_2130 := dSn 3 shL_law_2127
theorem shL_law_2131 : code.data.toList.drop 2131 = sxL_law_2131 := dSn 1 shL_law_2130
theorem shL_law_2134 : code.data.toList.drop 2134 = sxL_law_2134 := dSn 3 shL_law_2131
theorem shL_law_2135 : code.data.toList.drop 2135 = sxL_law_2135 := dSn 1 shL_law_2134
theorem shL_law_2136 : code.data.toList.drop 2136 = sxL_law_2136 := dSn 1 shL_law_2135
theorem shL_law_2137 : code.data.toList.drop 2137 = sxL_law_2137 := dSn 1 shL_law_2136
theorem shL_law_2138 : code.data.toList.drop 2138 = sxL_law_2138 := dSn 1 shL_law_2137
theorem shL_law_2139 : code.data.toList.drop 2139 = sxL_law_2139 := dSn 1 shL_law_2138
theorem shL_law_2140 : code.data.toList.drop 2140 = sxL_law_2140 := dSn 1 shL_law_2139
theorem shL_law_2141 : code.data.toList.drop 2141 = sxL_law_2141 := dSn 1 shL_law_2140
theorem shL_law_2142 : code.data.toList.drop 2142 = sxL_law_2142 := dSn 1 shL_law_2141
theorem shL_law_2143 : code.data.toList.drop 2143 = sxL_law_2143 := dSn 1 shL_law_2142
theorem shL_law_2144 : code.data.toList.drop 2144 = sxL_law_2144 := dSn 1 shL_law_2143
theorem shL_law_2145 : code.data.toList.drop 2145 = sxL_law_2145 := dSn 1 shL_law_2144
theorem shL_law_2148 : code.data.toList.drop 2148 = sxL_law_2148 := dSn 3 shL_law_2145
theorem shL_law_2149 : code.data.toList.drop 2149 = sxL_law_2149 := dSn 1 shL_law_2148
theorem shL_law_2150 : code.data.toList.drop 2150 = sxL_law_2150 := dSn 1 shL_law_2149
theorem shL_law_2151 : code.data.toList.drop 2151 = sxL_law_2151 := dSn 1 shL_law_2150
theorem shL_law_2152 : code.data.toList.drop 2152 = sxL_law_2152 := dSn 1 shL_law_2151
theorem shL_law_2153 : code.data.toList.drop 2153 = sxL_law_2153 := dSn 1 shL_law_2152
theorem shL_law_2154 : code.data.toList.drop 2154 = sxL_law_2154 := dSn 1 shL_law_2153
theorem shL_law_2155 : code.data.toList.drop 2155 = sxL_law_2155 := dSn 1 shL_law_2154
theorem shL_law_2156 : code.data.toList.drop 2156 = sxL_law_2156 := dSn 1 shL_law_2155
theorem shL_law_2157 : code.data.toList.drop 2157 = sxL_law_2157 := dSn 1 shL_law_2156
theorem shL_law_2158 : code.data.toList.drop 2158 = sxL_law_2158 := dSn 1 shL_law_2157
theorem shL_law_2159 : code.data.toList.drop 2159 = sxL_law_2159 := dSn 1 shL_law_2158
theorem shL_law_2160 : code.data.toList.drop 2160 = sxL_law_2160 := dSn 1 shL_law_2159
theorem shL_law_2163 : code.data.toList.drop 2163 = sxL_law_2163 := dSn 3 shL_law_2160
theorem shL_law_2164 : code.data.toList.drop 2164 = sxL_law_2164 := dSn 1 shL_law_2163
theorem shL_law_2167 : code.data.toList.drop 2167 = sxL_law_2167 := dSn 3 shL_law_2164
theorem shL_law_2168 : code.data.toList.drop 2168 = sxL_law_2168 := dSn 1 shL_law_2167
theorem shL_law_2169 : code.data.toList.drop 2169 = sxL_law_2169 := dSn 1 shL_law_2168
theorem shL_law_2170 : code.data.toList.drop 2170 = sxL_law_2170 := dSn 1 shL_law_2169
theorem shL_law_2171 : code.data.toList.drop 2171 = sxL_law_2171 := dSn 1 shL_law_2170
theorem shL_law_2172 : code.data.toList.drop 2172 = sxL_law_2172 := dSn 1 shL_law_2171
theorem shL_law_2173 : code.data.toList.drop 2173 = sxL_law_2173 := dSn 1 shL_law_2172
theorem shL_law_2176 : code.data.toList.drop 2176 = sxL_law_2176 := dSn 3 shL_law_2173
theorem shL_law_2177 : code.data.toList.drop 2177 = sxL_law_2177 := dSn 1 shL_law_2176
theorem shL_law_2178 : code.data.toList.drop 2178 = sxL_law_2178 := dSn 1 shL_law_2177
theorem shL_law_2179 : code.data.toList.drop 2179 = sxL_law_2179 := dSn 1 shL_law_2178
theorem shL_law_2180 : code.data.toList.drop 2180 = sxL_law_2180 := dSn 1 shL_law_2179
theorem shL_law_2181 : code.data.toList.drop 2181 = sxL_law_2181 := dSn 1 shL_law_2180
theorem shL_law_2182 : code.data.toList.drop 2182 = sxL_law_2182 := dSn 1 shL_law_2181
theorem shL_law_2183 : code.data.toList.drop 2183 = sxL_law_2183 := dSn 1 shL_law_2182
theorem shL_law_2186 : code.data.toList.drop 2186 = sxL_law_2186 := dSn 3 shL_law_2183
theorem shL_law_2187 : code.data.toList.drop 2187 = sxL_law_2187 := dSn 1 shL_law_2186
theorem shL_law_2190 : code.data.toList.drop 2190 = sxL_law_2190 := dSn 3 shL_law_2187
theorem shL_law_2191 : code.data.toList.drop 2191 = sxL_law_2191 := dSn 1 shL_law_2190
theorem shL_law_2192 : code.data.toList.drop 2192 = sxL_law_2192 := dSn 1 shL_law_2191
theorem shL_law_2193 : code.data.toList.drop 2193 = sxL_law_2193 := dSn 1 shL_law_2192
theorem shL_law_2194 : code.data.toList.drop 2194 = sxL_law_2194 := dSn 1 shL_law_2193
theorem shL_law_2195 : code.data.toList.drop 2195 = sxL_law_2195 := dSn 1 shL_law_2194
theorem shL_law_2196 : code.data.toList.drop 2196 = sxL_law_2196 := dSn 1 shL_law_2195
theorem shL_law_2199 : code.data.toList.drop 2199 = sxL_law_2199 := dSn 3 shL_law_2196
theorem shL_law_2200 : code.data.toList.drop 2200 = sxL_law_2200 := dSn 1 shL_law_2199
theorem shL_law_2201 : code.data.toList.drop 2201 = sxL_law_2201 := dSn 1 shL_law_2200
theorem shL_law_2202 : code.data.toList.drop 2202 = sxL_law_2202 := dSn 1 shL_law_2201
theorem shL_law_2203 : code.data.toList.drop 2203 = sxL_law_2203 := dSn 1 shL_law_2202
theorem shL_law_2204 : code.data.toList.drop 2204 = sxL_law_2204 := dSn 1 shL_law_2203
theorem shL_law_2205 : code.data.toList.drop 2205 = sxL_law_2205 := dSn 1 shL_law_2204
theorem shL_law_2206 : code.data.toList.drop 2206 = sxL_law_2206 := dSn 1 shL_law_2205
theorem shL_law_2209 : code.data.toList.drop 2209 = sxL_law_2209 := dSn 3 shL_law_2206
theorem shL_law_2210 : code.data.toList.drop 2210 = sxL_law_2210 := dSn 1 shL_law_2209
theorem shL_law_2213 : code.data.toList.drop 2213 = sxL_law_2213 := dSn 3 shL_law_2210
theorem shL_law_2214 : code.data.toList.drop 2214 = sxL_law_2214 := dSn 1 shL_law_2213
theorem shL_law_2215 : code.data.toList.drop 2215 = sxL_law_2215 := dSn 1 shL_law_2214
theorem shL_law_2216 : code.data.toList.drop 2216 = sxL_law_2216 := dSn 1 shL_law_2215
theorem shL_law_2217 : code.data.toList.drop 2217 = sxL_law_2217 := dSn 1 shL_law_2216
theorem shL_law_2218 : code.data.toList.drop 2218 = sxL_law_2218 := dSn 1 shL_law_2217
theorem shL_law_2219 : code.data.toList.drop 2219 = sxL_law_2219 := dSn 1 shL_law_2218
theorem shL_law_2220 : code.data.toList.drop 2220 = sxL_law_2220 := dSn 1 shL_law_2219
theorem shL_law_2221 : code.data.toList.drop 2221 = sxL_law_2221 := dSn 1 shL_law_2220
theorem shL_law_2222 : code.data.toList.drop 2222 = sxL_law_2222 := dSn 1 shL_law_2221
theorem shL_law_2223 : code.data.toList.drop 2223 = sxL_law_2223 := dSn 1 shL_law_2222
theorem shL_law_2224 : code.data.toList.drop 2224 = sxL_law_2224 := dSn 1 shL_law_2223
theorem shL_law_2227 : code.data.toList.drop 2227 = sxL_law_2227 := dSn 3 shL_law_2224
theorem shL_law_2228 : code.data.toList.drop 2228 = sxL_law_2228 := dSn 1 shL_law_2227
theorem shL_law_2229 : code.data.toList.drop 2229 = sxL_law_2229 := dSn 1 shL_law_2228
theorem shL_law_2230 : code.data.toList.drop 2230 = sxL_law_2230 := dSn 1 shL_law_2229
theorem shL_law_2231 : code.data.toList.drop 2231 = sxL_law_2231 := dSn 1 shL_law_2230
theorem shL_law_2232 : code.data.toList.drop 2232 = sxL_law_2232 := dSn 1 shL_law_2231
theorem shL_law_2233 : code.data.toList.drop 2233 = sxL_law_2233 := dSn 1 shL_law_2232
theorem shL_law_2234 : code.data.toList.drop 2234 = sxL_law_2234 := dSn 1 shL_law_2233
theorem shL_law_2235 : code.data.toList.drop 2235 = sxL_law_2235 := dSn 1 shL_law_2234
theorem shL_law_2236 : code.data.toList.drop 2236 = sxL_law_2236 := dSn 1 shL_law_2235
theorem shL_law_2237 : code.data.toList.drop 2237 = sxL_law_2237 := dSn 1 shL_law_2236
theorem shL_law_2238 : code.data.toList.drop 2238 = sxL_law_2238 := dSn 1 shL_law_2237
theorem shL_law_2239 : code.data.toList.drop 2239 = sxL_law_2239 := dSn 1 shL_law_2238
theorem shL_law_2242 : code.data.toList.drop 2242 = sxL_law_2242 := dSn 3 shL_law_2239
theorem shL_law_2243 : code.data.toList.drop 2243 = sxL_law_2243 := dSn 1 shL_law_2242
theorem shL_law_2246 : code.data.toList.drop 2246 = sxL_law_2246 := dSn 3 shL_law_2243
theorem shL_law_2247 : code.data.toList.drop 2247 = sxL_law_2247 := dSn 1 shL_law_2246
theorem shL_law_2248 : code.data.toList.drop 2248 = sxL_law_2248 := dSn 1 shL_law_2247
theorem shL_law_2249 : code.data.toList.drop 2249 = sxL_law_2249 := dSn 1 shL_law_2248
theorem shL_law_2250 : code.data.toList.drop 2250 = sxL_law_2250 := dSn 1 shL_law_2249
theorem shL_law_2251 : code.data.toList.drop 2251 = sxL_law_2251 := dSn 1 shL_law_2250
theorem shL_law_2252 : code.data.toList.drop 2252 = sxL_law_2252 := dSn 1 shL_law_2251
theorem shL_law_2255 : code.data.toList.drop 2255 = sxL_law_2255 := dSn 3 shL_law_2252
theorem shL_law_2256 : code.data.toList.drop 2256 = sxL_law_2256 := dSn 1 shL_law_2255
theorem shL_law_2257 : code.data.toList.drop 2257 = sxL_law_2257 := dSn 1 shL_law_2256
theorem shL_law_2258 : code.data.toList.drop 2258 = sxL_law_2258 := dSn 1 shL_law_2257
theorem shL_law_2259 : code.data.toList.drop 2259 = sxL_law_2259 := dSn 1 shL_law_2258
theorem shL_law_2260 : code.data.toList.drop 2260 = sxL_law_2260 := dSn 1 shL_law_2259
theorem shL_law_2261 : code.data.toList.drop 2261 = sxL_law_2261 := dSn 1 shL_law_2260
theorem shL_law_2262 : code.data.toList.drop 2262 = sxL_law_2262 := dSn 1 shL_law_2261
theorem shL_law_2265 : code.data.toList.drop 2265 = sxL_law_2265 := dSn 3 shL_law_2262
theorem shL_law_2266 : code.data.toList.drop 2266 = sxL_law_2266 := dSn 1 shL_law_2265
theorem shL_law_2269 : code.data.toList.drop 2269 = sxL_law_2269 := dSn 3 shL_law_2266
theorem shL_law_2272 : code.data.toList.drop 2272 = sxL_law_2272 := dSn 3 shL_law_2269
theorem shL_law_2275 : code.data.toList.drop 2275 = sxL_law_2275 := dSn 3 shL_law_2272
theorem shL_law_2276 : code.data.toList.drop 2276 = sxL_law_2276 := dSn 1 shL_law_2275
theorem dL_law_284 : decode code 284 = .ok (.aload_n 1, 1) := oc_43 shL_law_284
theorem dL_law_285 : decode code 285 = .ok (.aload_n 0, 1) := oc_42 shL_law_285
theorem dL_law_286 : decode code 286 = .ok (.iload_n 3, 1) := oc_29 shL_law_286
theorem dL_law_287 : decode code 287 = .ok (.iconst 1, 1) := oc_4 shL_law_287
theorem dL_law_288 : decode code 288 = .ok (.iadd, 1) := oc_96 shL_law_288
theorem dL_law_289 : decode code 289 = .ok (.iaload, 1) := oc_46 shL_law_289
theorem dL_law_290 : decode code 290 = .ok (.invokevirtual 13, 3) := oc_182 shL_law_290
theorem dL_law_293 : decode code 293 = .ok (.pop, 1) := oc_87 shL_law_293
theorem dL_law_294 : decode code 294 = .ok (.aload_n 2, 1) := oc_44 shL_law_294
theorem dL_law_295 : decode code 295 = .ok (.aload_n 0, 1) := oc_42 shL_law_295
theorem dL_law_296 : decode code 296 = .ok (.iload_n 3, 1) := oc_29 shL_law_296
theorem dL_law_297 : decode code 297 = .ok (.iconst 1, 1) := oc_4 shL_law_297
theorem dL_law_298 : decode code 298 = .ok (.iadd, 1) := oc_96 shL_law_298
theorem dL_law_299 : decode code 299 = .ok (.iaload, 1) := oc_46 shL_law_299
theorem dL_law_300 : decode code 300 = .ok (.invokevirtual 17, 3) := oc_182 shL_law_300
theorem dL_law_303 : decode code 303 = .ok (.pop, 1) := oc_87 shL_law_303
theorem dL_law_304 : decode code 304 = .ok (.goto 1965, 3) := oc_167 shL_law_304 sgw_7_173
theorem dL_law_307 : decode code 307 = .ok (.aload_n 1, 1) := oc_43 shL_law_307
theorem dL_law_308 : decode code 308 = .ok (.aload_n 0, 1) := oc_42 shL_law_308
theorem dL_law_309 : decode code 309 = .ok (.iload_n 3, 1) := oc_29 shL_law_309
theorem dL_law_310 : decode code 310 = .ok (.iconst 1, 1) := oc_4 shL_law_310
theorem dL_law_311 : decode code 311 = .ok (.iadd, 1) := oc_96 shL_law_311
theorem dL_law_312 : decode code 312 = .ok (.iaload, 1) := oc_46 shL_law_312
theorem dL_law_313 : decode code 313 = .ok (.aload_n 0, 1) := oc_42 shL_law_313
theorem dL_law_314 : decode code 314 = .ok (.iload_n 3, 1) := oc_29 shL_law_314
theorem dL_law_315 : decode code 315 = .ok (.iconst 2, 1) := oc_5 shL_law_315
theorem dL_law_316 : decode code 316 = .ok (.iadd, 1) := oc_96 shL_law_316
theorem dL_law_317 : decode code 317 = .ok (.iaload, 1) := oc_46 shL_law_317
theorem dL_law_318 : decode code 318 = .ok (.aload_n 0, 1) := oc_42 shL_law_318
theorem dL_law_319 : decode code 319 = .ok (.iload_n 3, 1) := oc_29 shL_law_319
theorem dL_law_320 : decode code 320 = .ok (.iconst 3, 1) := oc_6 shL_law_320
theorem dL_law_321 : decode code 321 = .ok (.iadd, 1) := oc_96 shL_law_321
theorem dL_law_322 : decode code 322 = .ok (.iaload, 1) := oc_46 shL_law_322
theorem dL_law_323 : decode code 323 = .ok (.aload_n 0, 1) := oc_42 shL_law_323
theorem dL_law_324 : decode code 324 = .ok (.iload_n 3, 1) := oc_29 shL_law_324
theorem dL_law_325 : decode code 325 = .ok (.iconst 4, 1) := oc_7 shL_law_325
theorem dL_law_326 : decode code 326 = .ok (.iadd, 1) := oc_96 shL_law_326
theorem dL_law_327 : decode code 327 = .ok (.iaload, 1) := oc_46 shL_law_327
theorem dL_law_328 : decode code 328 = .ok (.invokevirtual 18, 3) := oc_182 shL_law_328
theorem dL_law_331 : decode code 331 = .ok (.pop, 1) := oc_87 shL_law_331
theorem dL_law_332 : decode code 332 = .ok (.aload_n 2, 1) := oc_44 shL_law_332
theorem dL_law_333 : decode code 333 = .ok (.aload_n 0, 1) := oc_42 shL_law_333
theorem dL_law_334 : decode code 334 = .ok (.iload_n 3, 1) := oc_29 shL_law_334
theorem dL_law_335 : decode code 335 = .ok (.iconst 1, 1) := oc_4 shL_law_335
theorem dL_law_336 : decode code 336 = .ok (.iadd, 1) := oc_96 shL_law_336
theorem dL_law_337 : decode code 337 = .ok (.iaload, 1) := oc_46 shL_law_337
theorem dL_law_338 : decode code 338 = .ok (.aload_n 0, 1) := oc_42 shL_law_338
theorem dL_law_339 : decode code 339 = .ok (.iload_n 3, 1) := oc_29 shL_law_339
theorem dL_law_340 : decode code 340 = .ok (.iconst 2, 1) := oc_5 shL_law_340
theorem dL_law_341 : decode code 341 = .ok (.iadd, 1) := oc_96 shL_law_341
theorem dL_law_342 : decode code 342 = .ok (.iaload, 1) := oc_46 shL_law_342
theorem dL_law_343 : decode code 343 = .ok (.aload_n 0, 1) := oc_42 shL_law_343
theorem dL_law_344 : decode code 344 = .ok (.iload_n 3, 1) := oc_29 shL_law_344
theorem dL_law_345 : decode code 345 = .ok (.iconst 3, 1) := oc_6 shL_law_345
theorem dL_law_346 : decode code 346 = .ok (.iadd, 1) := oc_96 shL_law_346
theorem dL_law_347 : decode code 347 = .ok (.iaload, 1) := oc_46 shL_law_347
theorem dL_law_348 : decode code 348 = .ok (.aload_n 0, 1) := oc_42 shL_law_348
theorem dL_law_349 : decode code 349 = .ok (.iload_n 3, 1) := oc_29 shL_law_349
theorem dL_law_350 : decode code 350 = .ok (.iconst 4, 1) := oc_7 shL_law_350
theorem dL_law_351 : decode code 351 = .ok (.iadd, 1) := oc_96 shL_law_351
theorem dL_law_352 : decode code 352 = .ok (.iaload, 1) := oc_46 shL_law_352
theorem dL_law_353 : decode code 353 = .ok (.invokevirtual 22, 3) := oc_182 shL_law_353
theorem dL_law_356 : decode code 356 = .ok (.pop, 1) := oc_87 shL_law_356
theorem dL_law_357 : decode code 357 = .ok (.goto 1912, 3) := oc_167 shL_law_357 sgw_7_120
theorem dL_law_360 : decode code 360 = .ok (.aload_n 1, 1) := oc_43 shL_law_360
theorem dL_law_361 : decode code 361 = .ok (.aload_n 0, 1) := oc_42 shL_law_361
theorem dL_law_362 : decode code 362 = .ok (.iload_n 3, 1) := oc_29 shL_law_362
theorem dL_law_363 : decode code 363 = .ok (.iconst 1, 1) := oc_4 shL_law_363
theorem dL_law_364 : decode code 364 = .ok (.iadd, 1) := oc_96 shL_law_364
theorem dL_law_365 : decode code 365 = .ok (.iaload, 1) := oc_46 shL_law_365
theorem dL_law_366 : decode code 366 = .ok (.aload_n 0, 1) := oc_42 shL_law_366
theorem dL_law_367 : decode code 367 = .ok (.iload_n 3, 1) := oc_29 shL_law_367
theorem dL_law_368 : decode code 368 = .ok (.iconst 2, 1) := oc_5 shL_law_368
theorem dL_law_369 : decode code 369 = .ok (.iadd, 1) := oc_96 shL_law_369
theorem dL_law_370 : decode code 370 = .ok (.iaload, 1) := oc_46 shL_law_370
theorem dL_law_371 : decode code 371 = .ok (.invokevirtual 23, 3) := oc_182 shL_law_371
theorem dL_law_374 : decode code 374 = .ok (.pop, 1) := oc_87 shL_law_374
theorem dL_law_375 : decode code 375 = .ok (.aload_n 2, 1) := oc_44 shL_law_375
theorem dL_law_376 : decode code 376 = .ok (.aload_n 0, 1) := oc_42 shL_law_376
theorem dL_law_377 : decode code 377 = .ok (.iload_n 3, 1) := oc_29 shL_law_377
theorem dL_law_378 : decode code 378 = .ok (.iconst 1, 1) := oc_4 shL_law_378
theorem dL_law_379 : decode code 379 = .ok (.iadd, 1) := oc_96 shL_law_379
theorem dL_law_380 : decode code 380 = .ok (.iaload, 1) := oc_46 shL_law_380
theorem dL_law_381 : decode code 381 = .ok (.aload_n 0, 1) := oc_42 shL_law_381
theorem dL_law_382 : decode code 382 = .ok (.iload_n 3, 1) := oc_29 shL_law_382
theorem dL_law_383 : decode code 383 = .ok (.iconst 2, 1) := oc_5 shL_law_383
theorem dL_law_384 : decode code 384 = .ok (.iadd, 1) := oc_96 shL_law_384
theorem dL_law_385 : decode code 385 = .ok (.iaload, 1) := oc_46 shL_law_385
theorem dL_law_386 : decode code 386 = .ok (.invokevirtual 27, 3) := oc_182 shL_law_386
theorem dL_law_389 : decode code 389 = .ok (.pop, 1) := oc_87 shL_law_389
theorem dL_law_390 : decode code 390 = .ok (.goto 1879, 3) := oc_167 shL_law_390 sgw_7_87
theorem dL_law_393 : decode code 393 = .ok (.aload_n 1, 1) := oc_43 shL_law_393
theorem dL_law_394 : decode code 394 = .ok (.aload_n 0, 1) := oc_42 shL_law_394
theorem dL_law_395 : decode code 395 = .ok (.iload_n 3, 1) := oc_29 shL_law_395
theorem dL_law_396 : decode code 396 = .ok (.iconst 1, 1) := oc_4 shL_law_396
theorem dL_law_397 : decode code 397 = .ok (.iadd, 1) := oc_96 shL_law_397
theorem dL_law_398 : decode code 398 = .ok (.iaload, 1) := oc_46 shL_law_398
theorem dL_law_399 : decode code 399 = .ok (.aload_n 0, 1) := oc_42 shL_law_399
theorem dL_law_400 : decode code 400 = .ok (.iload_n 3, 1) := oc_29 shL_law_400
theorem dL_law_401 : decode code 401 = .ok (.iconst 2, 1) := oc_5 shL_law_401
theorem dL_law_402 : decode code 402 = .ok (.iadd, 1) := oc_96 shL_law_402
theorem dL_law_403 : decode code 403 = .ok (.iaload, 1) := oc_46 shL_law_403
theorem dL_law_404 : decode code 404 = .ok (.aload_n 0, 1) := oc_42 shL_law_404
theorem dL_law_405 : decode code 405 = .ok (.iload_n 3, 1) := oc_29 shL_law_405
theorem dL_law_406 : decode code 406 = .ok (.iconst 3, 1) := oc_6 shL_law_406
theorem dL_law_407 : decode code 407 = .ok (.iadd, 1) := oc_96 shL_law_407
theorem dL_law_408 : decode code 408 = .ok (.iaload, 1) := oc_46 shL_law_408
theorem dL_law_409 : decode code 409 = .ok (.aload_n 0, 1) := oc_42 shL_law_409
theorem dL_law_410 : decode code 410 = .ok (.iload_n 3, 1) := oc_29 shL_law_410
theorem dL_law_411 : decode code 411 = .ok (.iconst 4, 1) := oc_7 shL_law_411
theorem dL_law_412 : decode code 412 = .ok (.iadd, 1) := oc_96 shL_law_412
theorem dL_law_413 : decode code 413 = .ok (.iaload, 1) := oc_46 shL_law_413
theorem dL_law_414 : decode code 414 = .ok (.aload_n 0, 1) := oc_42 shL_law_414
theorem dL_law_415 : decode code 415 = .ok (.iload_n 3, 1) := oc_29 shL_law_415
theorem dL_law_416 : decode code 416 = .ok (.iconst 5, 1) := oc_8 shL_law_416
theorem dL_law_417 : decode code 417 = .ok (.iadd, 1) := oc_96 shL_law_417
theorem dL_law_418 : decode code 418 = .ok (.iaload, 1) := oc_46 shL_law_418
theorem dL_law_419 : decode code 419 = .ok (.aload_n 0, 1) := oc_42 shL_law_419
theorem dL_law_420 : decode code 420 = .ok (.iload_n 3, 1) := oc_29 shL_law_420
theorem dL_law_421 : decode code 421 = .ok (.bipush 6, 2) := oc_16 shL_law_421 sgb_6
theorem dL_law_423 : decode code 423 = .ok (.iadd, 1) := oc_96 shL_law_423
theorem dL_law_424 : decode code 424 = .ok (.iaload, 1) := oc_46 shL_law_424
theorem dL_law_425 : decode code 425 = .ok (.invokevirtual 28, 3) := oc_182 shL_law_425
theorem dL_law_428 : decode code 428 = .ok (.pop, 1) := oc_87 shL_law_428
theorem dL_law_429 : decode code 429 = .ok (.aload_n 2, 1) := oc_44 shL_law_429
theorem dL_law_430 : decode code 430 = .ok (.aload_n 0, 1) := oc_42 shL_law_430
theorem dL_law_431 : decode code 431 = .ok (.iload_n 3, 1) := oc_29 shL_law_431
theorem dL_law_432 : decode code 432 = .ok (.iconst 1, 1) := oc_4 shL_law_432
theorem dL_law_433 : decode code 433 = .ok (.iadd, 1) := oc_96 shL_law_433
theorem dL_law_434 : decode code 434 = .ok (.iaload, 1) := oc_46 shL_law_434
theorem dL_law_435 : decode code 435 = .ok (.aload_n 0, 1) := oc_42 shL_law_435
theorem dL_law_436 : decode code 436 = .ok (.iload_n 3, 1) := oc_29 shL_law_436
theorem dL_law_437 : decode code 437 = .ok (.iconst 2, 1) := oc_5 shL_law_437
theorem dL_law_438 : decode code 438 = .ok (.iadd, 1) := oc_96 shL_law_438
theorem dL_law_439 : decode code 439 = .ok (.iaload, 1) := oc_46 shL_law_439
theorem dL_law_440 : decode code 440 = .ok (.aload_n 0, 1) := oc_42 shL_law_440
theorem dL_law_441 : decode code 441 = .ok (.iload_n 3, 1) := oc_29 shL_law_441
theorem dL_law_442 : decode code 442 = .ok (.iconst 3, 1) := oc_6 shL_law_442
theorem dL_law_443 : decode code 443 = .ok (.iadd, 1) := oc_96 shL_law_443
theorem dL_law_444 : decode code 444 = .ok (.iaload, 1) := oc_46 shL_law_444
theorem dL_law_445 : decode code 445 = .ok (.aload_n 0, 1) := oc_42 shL_law_445
theorem dL_law_446 : decode code 446 = .ok (.iload_n 3, 1) := oc_29 shL_law_446
theorem dL_law_447 : decode code 447 = .ok (.iconst 4, 1) := oc_7 shL_law_447
theorem dL_law_448 : decode code 448 = .ok (.iadd, 1) := oc_96 shL_law_448
theorem dL_law_449 : decode code 449 = .ok (.iaload, 1) := oc_46 shL_law_449
theorem dL_law_450 : decode code 450 = .ok (.aload_n 0, 1) := oc_42 shL_law_450
theorem dL_law_451 : decode code 451 = .ok (.iload_n 3, 1) := oc_29 shL_law_451
theorem dL_law_452 : decode code 452 = .ok (.iconst 5, 1) := oc_8 shL_law_452
theorem dL_law_453 : decode code 453 = .ok (.iadd, 1) := oc_96 shL_law_453
theorem dL_law_454 : decode code 454 = .ok (.iaload, 1) := oc_46 shL_law_454
theorem dL_law_455 : decode code 455 = .ok (.aload_n 0, 1) := oc_42 shL_law_455
theorem dL_law_456 : decode code 456 = .ok (.iload_n 3, 1) := oc_29 shL_law_456
theorem dL_law_457 : decode code 457 = .ok (.bipush 6, 2) := oc_16 shL_law_457 sgb_6
theorem dL_law_459 : decode code 459 = .ok (.iadd, 1) := oc_96 shL_law_459
theorem dL_law_460 : decode code 460 = .ok (.iaload, 1) := oc_46 shL_law_460
theorem dL_law_461 : decode code 461 = .ok (.invokevirtual 32, 3) := oc_182 shL_law_461
theorem dL_law_464 : decode code 464 = .ok (.pop, 1) := oc_87 shL_law_464
theorem dL_law_465 : decode code 465 = .ok (.goto 1804, 3) := oc_167 shL_law_465 sgw_7_12
theorem dL_law_468 : decode code 468 = .ok (.aload_n 1, 1) := oc_43 shL_law_468
theorem dL_law_469 : decode code 469 = .ok (.aload_n 0, 1) := oc_42 shL_law_469
theorem dL_law_470 : decode code 470 = .ok (.iload_n 3, 1) := oc_29 shL_law_470
theorem dL_law_471 : decode code 471 = .ok (.iconst 1, 1) := oc_4 shL_law_471
theorem dL_law_472 : decode code 472 = .ok (.iadd, 1) := oc_96 shL_law_472
theorem dL_law_473 : decode code 473 = .ok (.iaload, 1) := oc_46 shL_law_473
theorem dL_law_474 : decode code 474 = .ok (.aload_n 0, 1) := oc_42 shL_law_474
theorem dL_law_475 : decode code 475 = .ok (.iload_n 3, 1) := oc_29 shL_law_475
theorem dL_law_476 : decode code 476 = .ok (.iconst 2, 1) := oc_5 shL_law_476
theorem dL_law_477 : decode code 477 = .ok (.iadd, 1) := oc_96 shL_law_477
theorem dL_law_478 : decode code 478 = .ok (.iaload, 1) := oc_46 shL_law_478
theorem dL_law_479 : decode code 479 = .ok (.aload_n 0, 1) := oc_42 shL_law_479
theorem dL_law_480 : decode code 480 = .ok (.iload_n 3, 1) := oc_29 shL_law_480
theorem dL_law_481 : decode code 481 = .ok (.iconst 3, 1) := oc_6 shL_law_481
theorem dL_law_482 : decode code 482 = .ok (.iadd, 1) := oc_96 shL_law_482
theorem dL_law_483 : decode code 483 = .ok (.iaload, 1) := oc_46 shL_law_483
theorem dL_law_484 : decode code 484 = .ok (.aload_n 0, 1) := oc_42 shL_law_484
theorem dL_law_485 : decode code 485 = .ok (.iload_n 3, 1) := oc_29 shL_law_485
theorem dL_law_486 : decode code 486 = .ok (.iconst 4, 1) := oc_7 shL_law_486
theorem dL_law_487 : decode code 487 = .ok (.iadd, 1) := oc_96 shL_law_487
theorem dL_law_488 : decode code 488 = .ok (.iaload, 1) := oc_46 shL_law_488
theorem dL_law_489 : decode code 489 = .ok (.aload_n 0, 1) := oc_42 shL_law_489
theorem dL_law_490 : decode code 490 = .ok (.iload_n 3, 1) := oc_29 shL_law_490
theorem dL_law_491 : decode code 491 = .ok (.iconst 5, 1) := oc_8 shL_law_491
theorem dL_law_492 : decode code 492 = .ok (.iadd, 1) := oc_96 shL_law_492
theorem dL_law_493 : decode code 493 = .ok (.iaload, 1) := oc_46 shL_law_493
theorem dL_law_494 : decode code 494 = .ok (.invokevirtual 33, 3) := oc_182 shL_law_494
theorem dL_law_497 : decode code 497 = .ok (.pop, 1) := oc_87 shL_law_497
theorem dL_law_498 : decode code 498 = .ok (.aload_n 2, 1) := oc_44 shL_law_498
theorem dL_law_499 : decode code 499 = .ok (.aload_n 0, 1) := oc_42 shL_law_499
theorem dL_law_500 : decode code 500 = .ok (.iload_n 3, 1) := oc_29 shL_law_500
theorem dL_law_501 : decode code 501 = .ok (.iconst 1, 1) := oc_4 shL_law_501
theorem dL_law_502 : decode code 502 = .ok (.iadd, 1) := oc_96 shL_law_502
theorem dL_law_503 : decode code 503 = .ok (.iaload, 1) := oc_46 shL_law_503
theorem dL_law_504 : decode code 504 = .ok (.aload_n 0, 1) := oc_42 shL_law_504
theorem dL_law_505 : decode code 505 = .ok (.iload_n 3, 1) := oc_29 shL_law_505
theorem dL_law_506 : decode code 506 = .ok (.iconst 2, 1) := oc_5 shL_law_506
theorem dL_law_507 : decode code 507 = .ok (.iadd, 1) := oc_96 shL_law_507
theorem dL_law_508 : decode code 508 = .ok (.iaload, 1) := oc_46 shL_law_508
theorem dL_law_509 : decode code 509 = .ok (.aload_n 0, 1) := oc_42 shL_law_509
theorem dL_law_510 : decode code 510 = .ok (.iload_n 3, 1) := oc_29 shL_law_510
theorem dL_law_511 : decode code 511 = .ok (.iconst 3, 1) := oc_6 shL_law_511
theorem dL_law_512 : decode code 512 = .ok (.iadd, 1) := oc_96 shL_law_512
theorem dL_law_513 : decode code 513 = .ok (.iaload, 1) := oc_46 shL_law_513
theorem dL_law_514 : decode code 514 = .ok (.aload_n 0, 1) := oc_42 shL_law_514
theorem dL_law_515 : decode code 515 = .ok (.iload_n 3, 1) := oc_29 shL_law_515
theorem dL_law_516 : decode code 516 = .ok (.iconst 4, 1) := oc_7 shL_law_516
theorem dL_law_517 : decode code 517 = .ok (.iadd, 1) := oc_96 shL_law_517
theorem dL_law_518 : decode code 518 = .ok (.iaload, 1) := oc_46 shL_law_518
theorem dL_law_519 : decode code 519 = .ok (.aload_n 0, 1) := oc_42 shL_law_519
theorem dL_law_520 : decode code 520 = .ok (.iload_n 3, 1) := oc_29 shL_law_520
theorem dL_law_521 : decode code 521 = .ok (.iconst 5, 1) := oc_8 shL_law_521
theorem dL_law_522 : decode code 522 = .ok (.iadd, 1) := oc_96 shL_law_522
theorem dL_law_523 : decode code 523 = .ok (.iaload, 1) := oc_46 shL_law_523
theorem dL_law_524 : decode code 524 = .ok (.invokevirtual 37, 3) := oc_182 shL_law_524
theorem dL_law_527 : decode code 527 = .ok (.pop, 1) := oc_87 shL_law_527
theorem dL_law_528 : decode code 528 = .ok (.goto 1741, 3) := oc_167 shL_law_528 sgw_6_205
theorem dL_law_531 : decode code 531 = .ok (.aload_n 1, 1) := oc_43 shL_law_531
theorem dL_law_532 : decode code 532 = .ok (.aload_n 0, 1) := oc_42 shL_law_532
theorem dL_law_533 : decode code 533 = .ok (.iload_n 3, 1) := oc_29 shL_law_533
theorem dL_law_534 : decode code 534 = .ok (.iconst 1, 1) := oc_4 shL_law_534
theorem dL_law_535 : decode code 535 = .ok (.iadd, 1) := oc_96 shL_law_535
theorem dL_law_536 : decode code 536 = .ok (.iaload, 1) := oc_46 shL_law_536
theorem dL_law_537 : decode code 537 = .ok (.aload_n 0, 1) := oc_42 shL_law_537
theorem dL_law_538 : decode code 538 = .ok (.iload_n 3, 1) := oc_29 shL_law_538
theorem dL_law_539 : decode code 539 = .ok (.iconst 2, 1) := oc_5 shL_law_539
theorem dL_law_540 : decode code 540 = .ok (.iadd, 1) := oc_96 shL_law_540
theorem dL_law_541 : decode code 541 = .ok (.iaload, 1) := oc_46 shL_law_541
theorem dL_law_542 : decode code 542 = .ok (.invokevirtual 38, 3) := oc_182 shL_law_542
theorem dL_law_545 : decode code 545 = .ok (.pop, 1) := oc_87 shL_law_545
theorem dL_law_546 : decode code 546 = .ok (.aload_n 2, 1) := oc_44 shL_law_546
theorem dL_law_547 : decode code 547 = .ok (.aload_n 0, 1) := oc_42 shL_law_547
theorem dL_law_548 : decode code 548 = .ok (.iload_n 3, 1) := oc_29 shL_law_548
theorem dL_law_549 : decode code 549 = .ok (.iconst 1, 1) := oc_4 shL_law_549
theorem dL_law_550 : decode code 550 = .ok (.iadd, 1) := oc_96 shL_law_550
theorem dL_law_551 : decode code 551 = .ok (.iaload, 1) := oc_46 shL_law_551
theorem dL_law_552 : decode code 552 = .ok (.aload_n 0, 1) := oc_42 shL_law_552
theorem dL_law_553 : decode code 553 = .ok (.iload_n 3, 1) := oc_29 shL_law_553
theorem dL_law_554 : decode code 554 = .ok (.iconst 2, 1) := oc_5 shL_law_554
theorem dL_law_555 : decode code 555 = .ok (.iadd, 1) := oc_96 shL_law_555
theorem dL_law_556 : decode code 556 = .ok (.iaload, 1) := oc_46 shL_law_556
theorem dL_law_557 : decode code 557 = .ok (.invokevirtual 41, 3) := oc_182 shL_law_557
theorem dL_law_560 : decode code 560 = .ok (.pop, 1) := oc_87 shL_law_560
theorem dL_law_561 : decode code 561 = .ok (.goto 1708, 3) := oc_167 shL_law_561 sgw_6_172
theorem dL_law_564 : decode code 564 = .ok (.aload_n 1, 1) := oc_43 shL_law_564
theorem dL_law_565 : decode code 565 = .ok (.aload_n 0, 1) := oc_42 shL_law_565
theorem dL_law_566 : decode code 566 = .ok (.iload_n 3, 1) := oc_29 shL_law_566
theorem dL_law_567 : decode code 567 = .ok (.iconst 1, 1) := oc_4 shL_law_567
theorem dL_law_568 : decode code 568 = .ok (.iadd, 1) := oc_96 shL_law_568
theorem dL_law_569 : decode code 569 = .ok (.iaload, 1) := oc_46 shL_law_569
theorem dL_law_570 : decode code 570 = .ok (.invokevirtual 42, 3) := oc_182 shL_law_570
theorem dL_law_573 : decode code 573 = .ok (.pop, 1) := oc_87 shL_law_573
theorem dL_law_574 : decode code 574 = .ok (.aload_n 2, 1) := oc_44 shL_law_574
theorem dL_law_575 : decode code 575 = .ok (.aload_n 0, 1) := oc_42 shL_law_575
theorem dL_law_576 : decode code 576 = .ok (.iload_n 3, 1) := oc_29 shL_law_576
theorem dL_law_577 : decode code 577 = .ok (.iconst 1, 1) := oc_4 shL_law_577
theorem dL_law_578 : decode code 578 = .ok (.iadd, 1) := oc_96 shL_law_578
theorem dL_law_579 : decode code 579 = .ok (.iaload, 1) := oc_46 shL_law_579
theorem dL_law_580 : decode code 580 = .ok (.invokevirtual 46, 3) := oc_182 shL_law_580
theorem dL_law_583 : decode code 583 = .ok (.pop, 1) := oc_87 shL_law_583
theorem dL_law_584 : decode code 584 = .ok (.goto 1685, 3) := oc_167 shL_law_584 sgw_6_149
theorem dL_law_587 : decode code 587 = .ok (.aload_n 1, 1) := oc_43 shL_law_587
theorem dL_law_588 : decode code 588 = .ok (.aload_n 0, 1) := oc_42 shL_law_588
theorem dL_law_589 : decode code 589 = .ok (.iload_n 3, 1) := oc_29 shL_law_589
theorem dL_law_590 : decode code 590 = .ok (.iconst 1, 1) := oc_4 shL_law_590
theorem dL_law_591 : decode code 591 = .ok (.iadd, 1) := oc_96 shL_law_591
theorem dL_law_592 : decode code 592 = .ok (.iaload, 1) := oc_46 shL_law_592
theorem dL_law_593 : decode code 593 = .ok (.aload_n 0, 1) := oc_42 shL_law_593
theorem dL_law_594 : decode code 594 = .ok (.iload_n 3, 1) := oc_29 shL_law_594
theorem dL_law_595 : decode code 595 = .ok (.iconst 2, 1) := oc_5 shL_law_595
theorem dL_law_596 : decode code 596 = .ok (.iadd, 1) := oc_96 shL_law_596
theorem dL_law_597 : decode code 597 = .ok (.iaload, 1) := oc_46 shL_law_597
theorem dL_law_598 : decode code 598 = .ok (.invokevirtual 47, 3) := oc_182 shL_law_598
theorem dL_law_601 : decode code 601 = .ok (.pop, 1) := oc_87 shL_law_601
theorem dL_law_602 : decode code 602 = .ok (.aload_n 2, 1) := oc_44 shL_law_602
theorem dL_law_603 : decode code 603 = .ok (.aload_n 0, 1) := oc_42 shL_law_603
theorem dL_law_604 : decode code 604 = .ok (.iload_n 3, 1) := oc_29 shL_law_604
theorem dL_law_605 : decode code 605 = .ok (.iconst 1, 1) := oc_4 shL_law_605
theorem dL_law_606 : decode code 606 = .ok (.iadd, 1) := oc_96 shL_law_606
theorem dL_law_607 : decode code 607 = .ok (.iaload, 1) := oc_46 shL_law_607
theorem dL_law_608 : decode code 608 = .ok (.aload_n 0, 1) := oc_42 shL_law_608
theorem dL_law_609 : decode code 609 = .ok (.iload_n 3, 1) := oc_29 shL_law_609
theorem dL_law_610 : decode code 610 = .ok (.iconst 2, 1) := oc_5 shL_law_610
theorem dL_law_611 : decode code 611 = .ok (.iadd, 1) := oc_96 shL_law_611
theorem dL_law_612 : decode code 612 = .ok (.iaload, 1) := oc_46 shL_law_612
theorem dL_law_613 : decode code 613 = .ok (.invokevirtual 51, 3) := oc_182 shL_law_613
theorem dL_law_616 : decode code 616 = .ok (.pop, 1) := oc_87 shL_law_616
theorem dL_law_617 : decode code 617 = .ok (.goto 1652, 3) := oc_167 shL_law_617 sgw_6_116
theorem dL_law_620 : decode code 620 = .ok (.aload_n 1, 1) := oc_43 shL_law_620
theorem dL_law_621 : decode code 621 = .ok (.aload_n 0, 1) := oc_42 shL_law_621
theorem dL_law_622 : decode code 622 = .ok (.iload_n 3, 1) := oc_29 shL_law_622
theorem dL_law_623 : decode code 623 = .ok (.iconst 1, 1) := oc_4 shL_law_623
theorem dL_law_624 : decode code 624 = .ok (.iadd, 1) := oc_96 shL_law_624
theorem dL_law_625 : decode code 625 = .ok (.iaload, 1) := oc_46 shL_law_625
theorem dL_law_626 : decode code 626 = .ok (.invokevirtual 52, 3) := oc_182 shL_law_626
theorem dL_law_629 : decode code 629 = .ok (.pop, 1) := oc_87 shL_law_629
theorem dL_law_630 : decode code 630 = .ok (.aload_n 2, 1) := oc_44 shL_law_630
theorem dL_law_631 : decode code 631 = .ok (.aload_n 0, 1) := oc_42 shL_law_631
theorem dL_law_632 : decode code 632 = .ok (.iload_n 3, 1) := oc_29 shL_law_632
theorem dL_law_633 : decode code 633 = .ok (.iconst 1, 1) := oc_4 shL_law_633
theorem dL_law_634 : decode code 634 = .ok (.iadd, 1) := oc_96 shL_law_634
theorem dL_law_635 : decode code 635 = .ok (.iaload, 1) := oc_46 shL_law_635
theorem dL_law_636 : decode code 636 = .ok (.invokevirtual 55, 3) := oc_182 shL_law_636
theorem dL_law_639 : decode code 639 = .ok (.pop, 1) := oc_87 shL_law_639
theorem dL_law_640 : decode code 640 = .ok (.goto 1629, 3) := oc_167 shL_law_640 sgw_6_93
theorem dL_law_643 : decode code 643 = .ok (.aload_n 1, 1) := oc_43 shL_law_643
theorem dL_law_644 : decode code 644 = .ok (.aload_n 0, 1) := oc_42 shL_law_644
theorem dL_law_645 : decode code 645 = .ok (.iload_n 3, 1) := oc_29 shL_law_645
theorem dL_law_646 : decode code 646 = .ok (.iconst 1, 1) := oc_4 shL_law_646
theorem dL_law_647 : decode code 647 = .ok (.iadd, 1) := oc_96 shL_law_647
theorem dL_law_648 : decode code 648 = .ok (.iaload, 1) := oc_46 shL_law_648
theorem dL_law_649 : decode code 649 = .ok (.aload_n 0, 1) := oc_42 shL_law_649
theorem dL_law_650 : decode code 650 = .ok (.iload_n 3, 1) := oc_29 shL_law_650
theorem dL_law_651 : decode code 651 = .ok (.iconst 2, 1) := oc_5 shL_law_651
theorem dL_law_652 : decode code 652 = .ok (.iadd, 1) := oc_96 shL_law_652
theorem dL_law_653 : decode code 653 = .ok (.iaload, 1) := oc_46 shL_law_653
theorem dL_law_654 : decode code 654 = .ok (.invokevirtual 56, 3) := oc_182 shL_law_654
theorem dL_law_657 : decode code 657 = .ok (.pop, 1) := oc_87 shL_law_657
theorem dL_law_658 : decode code 658 = .ok (.aload_n 2, 1) := oc_44 shL_law_658
theorem dL_law_659 : decode code 659 = .ok (.aload_n 0, 1) := oc_42 shL_law_659
theorem dL_law_660 : decode code 660 = .ok (.iload_n 3, 1) := oc_29 shL_law_660
theorem dL_law_661 : decode code 661 = .ok (.iconst 1, 1) := oc_4 shL_law_661
theorem dL_law_662 : decode code 662 = .ok (.iadd, 1) := oc_96 shL_law_662
theorem dL_law_663 : decode code 663 = .ok (.iaload, 1) := oc_46 shL_law_663
theorem dL_law_664 : decode code 664 = .ok (.aload_n 0, 1) := oc_42 shL_law_664
theorem dL_law_665 : decode code 665 = .ok (.iload_n 3, 1) := oc_29 shL_law_665
theorem dL_law_666 : decode code 666 = .ok (.iconst 2, 1) := oc_5 shL_law_666
theorem dL_law_667 : decode code 667 = .ok (.iadd, 1) := oc_96 shL_law_667
theorem dL_law_668 : decode code 668 = .ok (.iaload, 1) := oc_46 shL_law_668
theorem dL_law_669 : decode code 669 = .ok (.invokevirtual 59, 3) := oc_182 shL_law_669
theorem dL_law_672 : decode code 672 = .ok (.pop, 1) := oc_87 shL_law_672
theorem dL_law_673 : decode code 673 = .ok (.goto 1596, 3) := oc_167 shL_law_673 sgw_6_60
theorem dL_law_676 : decode code 676 = .ok (.aload_n 1, 1) := oc_43 shL_law_676
theorem dL_law_677 : decode code 677 = .ok (.aload_n 0, 1) := oc_42 shL_law_677
theorem dL_law_678 : decode code 678 = .ok (.iload_n 3, 1) := oc_29 shL_law_678
theorem dL_law_679 : decode code 679 = .ok (.iconst 1, 1) := oc_4 shL_law_679
theorem dL_law_680 : decode code 680 = .ok (.iadd, 1) := oc_96 shL_law_680
theorem dL_law_681 : decode code 681 = .ok (.iaload, 1) := oc_46 shL_law_681
theorem dL_law_682 : decode code 682 = .ok (.invokevirtual 60, 3) := oc_182 shL_law_682
theorem dL_law_685 : decode code 685 = .ok (.pop, 1) := oc_87 shL_law_685
theorem dL_law_686 : decode code 686 = .ok (.aload_n 2, 1) := oc_44 shL_law_686
theorem dL_law_687 : decode code 687 = .ok (.aload_n 0, 1) := oc_42 shL_law_687
theorem dL_law_688 : decode code 688 = .ok (.iload_n 3, 1) := oc_29 shL_law_688
theorem dL_law_689 : decode code 689 = .ok (.iconst 1, 1) := oc_4 shL_law_689
theorem dL_law_690 : decode code 690 = .ok (.iadd, 1) := oc_96 shL_law_690
theorem dL_law_691 : decode code 691 = .ok (.iaload, 1) := oc_46 shL_law_691
theorem dL_law_692 : decode code 692 = .ok (.invokevirtual 63, 3) := oc_182 shL_law_692
theorem dL_law_695 : decode code 695 = .ok (.pop, 1) := oc_87 shL_law_695
theorem dL_law_696 : decode code 696 = .ok (.goto 1573, 3) := oc_167 shL_law_696 sgw_6_37
theorem dL_law_699 : decode code 699 = .ok (.aload_n 1, 1) := oc_43 shL_law_699
theorem dL_law_700 : decode code 700 = .ok (.aload_n 0, 1) := oc_42 shL_law_700
theorem dL_law_701 : decode code 701 = .ok (.iload_n 3, 1) := oc_29 shL_law_701
theorem dL_law_702 : decode code 702 = .ok (.iconst 1, 1) := oc_4 shL_law_702
theorem dL_law_703 : decode code 703 = .ok (.iadd, 1) := oc_96 shL_law_703
theorem dL_law_704 : decode code 704 = .ok (.iaload, 1) := oc_46 shL_law_704
theorem dL_law_705 : decode code 705 = .ok (.aload_n 0, 1) := oc_42 shL_law_705
theorem dL_law_706 : decode code 706 = .ok (.iload_n 3, 1) := oc_29 shL_law_706
theorem dL_law_707 : decode code 707 = .ok (.iconst 2, 1) := oc_5 shL_law_707
theorem dL_law_708 : decode code 708 = .ok (.iadd, 1) := oc_96 shL_law_708
theorem dL_law_709 : decode code 709 = .ok (.iaload, 1) := oc_46 shL_law_709
theorem dL_law_710 : decode code 710 = .ok (.invokevirtual 64, 3) := oc_182 shL_law_710
theorem dL_law_713 : decode code 713 = .ok (.pop2, 1) := oc_88 shL_law_713
theorem dL_law_714 : decode code 714 = .ok (.aload_n 2, 1) := oc_44 shL_law_714
theorem dL_law_715 : decode code 715 = .ok (.aload_n 0, 1) := oc_42 shL_law_715
theorem dL_law_716 : decode code 716 = .ok (.iload_n 3, 1) := oc_29 shL_law_716
theorem dL_law_717 : decode code 717 = .ok (.iconst 1, 1) := oc_4 shL_law_717
theorem dL_law_718 : decode code 718 = .ok (.iadd, 1) := oc_96 shL_law_718
theorem dL_law_719 : decode code 719 = .ok (.iaload, 1) := oc_46 shL_law_719
theorem dL_law_720 : decode code 720 = .ok (.aload_n 0, 1) := oc_42 shL_law_720
theorem dL_law_721 : decode code 721 = .ok (.iload_n 3, 1) := oc_29 shL_law_721
theorem dL_law_722 : decode code 722 = .ok (.iconst 2, 1) := oc_5 shL_law_722
theorem dL_law_723 : decode code 723 = .ok (.iadd, 1) := oc_96 shL_law_723
theorem dL_law_724 : decode code 724 = .ok (.iaload, 1) := oc_46 shL_law_724
theorem dL_law_725 : decode code 725 = .ok (.invokevirtual 68, 3) := oc_182 shL_law_725
theorem dL_law_728 : decode code 728 = .ok (.pop2, 1) := oc_88 shL_law_728
theorem dL_law_729 : decode code 729 = .ok (.goto 1540, 3) := oc_167 shL_law_729 sgw_6_4
theorem dL_law_732 : decode code 732 = .ok (.aload_n 1, 1) := oc_43 shL_law_732
theorem dL_law_733 : decode code 733 = .ok (.aload_n 0, 1) := oc_42 shL_law_733
theorem dL_law_734 : decode code 734 = .ok (.iload_n 3, 1) := oc_29 shL_law_734
theorem dL_law_735 : decode code 735 = .ok (.iconst 1, 1) := oc_4 shL_law_735
theorem dL_law_736 : decode code 736 = .ok (.iadd, 1) := oc_96 shL_law_736
theorem dL_law_737 : decode code 737 = .ok (.iaload, 1) := oc_46 shL_law_737
theorem dL_law_738 : decode code 738 = .ok (.aload_n 0, 1) := oc_42 shL_law_738
theorem dL_law_739 : decode code 739 = .ok (.iload_n 3, 1) := oc_29 shL_law_739
theorem dL_law_740 : decode code 740 = .ok (.iconst 2, 1) := oc_5 shL_law_740
theorem dL_law_741 : decode code 741 = .ok (.iadd, 1) := oc_96 shL_law_741
theorem dL_law_742 : decode code 742 = .ok (.iaload, 1) := oc_46 shL_law_742
theorem dL_law_743 : decode code 743 = .ok (.aload_n 0, 1) := oc_42 shL_law_743
theorem dL_law_744 : decode code 744 = .ok (.iload_n 3, 1) := oc_29 shL_law_744
theorem dL_law_745 : decode code 745 = .ok (.iconst 3, 1) := oc_6 shL_law_745
theorem dL_law_746 : decode code 746 = .ok (.iadd, 1) := oc_96 shL_law_746
theorem dL_law_747 : decode code 747 = .ok (.iaload, 1) := oc_46 shL_law_747
theorem dL_law_748 : decode code 748 = .ok (.invokevirtual 69, 3) := oc_182 shL_law_748
theorem dL_law_751 : decode code 751 = .ok (.pop, 1) := oc_87 shL_law_751
theorem dL_law_752 : decode code 752 = .ok (.aload_n 2, 1) := oc_44 shL_law_752
theorem dL_law_753 : decode code 753 = .ok (.aload_n 0, 1) := oc_42 shL_law_753
theorem dL_law_754 : decode code 754 = .ok (.iload_n 3, 1) := oc_29 shL_law_754
theorem dL_law_755 : decode code 755 = .ok (.iconst 1, 1) := oc_4 shL_law_755
theorem dL_law_756 : decode code 756 = .ok (.iadd, 1) := oc_96 shL_law_756
theorem dL_law_757 : decode code 757 = .ok (.iaload, 1) := oc_46 shL_law_757
theorem dL_law_758 : decode code 758 = .ok (.aload_n 0, 1) := oc_42 shL_law_758
theorem dL_law_759 : decode code 759 = .ok (.iload_n 3, 1) := oc_29 shL_law_759
theorem dL_law_760 : decode code 760 = .ok (.iconst 2, 1) := oc_5 shL_law_760
theorem dL_law_761 : decode code 761 = .ok (.iadd, 1) := oc_96 shL_law_761
theorem dL_law_762 : decode code 762 = .ok (.iaload, 1) := oc_46 shL_law_762
theorem dL_law_763 : decode code 763 = .ok (.aload_n 0, 1) := oc_42 shL_law_763
theorem dL_law_764 : decode code 764 = .ok (.iload_n 3, 1) := oc_29 shL_law_764
theorem dL_law_765 : decode code 765 = .ok (.iconst 3, 1) := oc_6 shL_law_765
theorem dL_law_766 : decode code 766 = .ok (.iadd, 1) := oc_96 shL_law_766
theorem dL_law_767 : decode code 767 = .ok (.iaload, 1) := oc_46 shL_law_767
theorem dL_law_768 : decode code 768 = .ok (.invokevirtual 73, 3) := oc_182 shL_law_768
theorem dL_law_771 : decode code 771 = .ok (.pop, 1) := oc_87 shL_law_771
theorem dL_law_772 : decode code 772 = .ok (.goto 1497, 3) := oc_167 shL_law_772 sgw_5_217
theorem dL_law_775 : decode code 775 = .ok (.aload_n 1, 1) := oc_43 shL_law_775
theorem dL_law_776 : decode code 776 = .ok (.aload_n 0, 1) := oc_42 shL_law_776
theorem dL_law_777 : decode code 777 = .ok (.iload_n 3, 1) := oc_29 shL_law_777
theorem dL_law_778 : decode code 778 = .ok (.iconst 1, 1) := oc_4 shL_law_778
theorem dL_law_779 : decode code 779 = .ok (.iadd, 1) := oc_96 shL_law_779
theorem dL_law_780 : decode code 780 = .ok (.iaload, 1) := oc_46 shL_law_780
theorem dL_law_781 : decode code 781 = .ok (.invokevirtual 74, 3) := oc_182 shL_law_781
theorem dL_law_784 : decode code 784 = .ok (.pop, 1) := oc_87 shL_law_784
theorem dL_law_785 : decode code 785 = .ok (.aload_n 2, 1) := oc_44 shL_law_785
theorem dL_law_786 : decode code 786 = .ok (.aload_n 0, 1) := oc_42 shL_law_786
theorem dL_law_787 : decode code 787 = .ok (.iload_n 3, 1) := oc_29 shL_law_787
theorem dL_law_788 : decode code 788 = .ok (.iconst 1, 1) := oc_4 shL_law_788
theorem dL_law_789 : decode code 789 = .ok (.iadd, 1) := oc_96 shL_law_789
theorem dL_law_790 : decode code 790 = .ok (.iaload, 1) := oc_46 shL_law_790
theorem dL_law_791 : decode code 791 = .ok (.invokevirtual 77, 3) := oc_182 shL_law_791
theorem dL_law_794 : decode code 794 = .ok (.pop, 1) := oc_87 shL_law_794
theorem dL_law_795 : decode code 795 = .ok (.goto 1474, 3) := oc_167 shL_law_795 sgw_5_194
theorem dL_law_798 : decode code 798 = .ok (.aload_n 1, 1) := oc_43 shL_law_798
theorem dL_law_799 : decode code 799 = .ok (.aload_n 0, 1) := oc_42 shL_law_799
theorem dL_law_800 : decode code 800 = .ok (.iload_n 3, 1) := oc_29 shL_law_800
theorem dL_law_801 : decode code 801 = .ok (.iconst 1, 1) := oc_4 shL_law_801
theorem dL_law_802 : decode code 802 = .ok (.iadd, 1) := oc_96 shL_law_802
theorem dL_law_803 : decode code 803 = .ok (.iaload, 1) := oc_46 shL_law_803
theorem dL_law_804 : decode code 804 = .ok (.invokevirtual 78, 3) := oc_182 shL_law_804
theorem dL_law_807 : decode code 807 = .ok (.pop, 1) := oc_87 shL_law_807
theorem dL_law_808 : decode code 808 = .ok (.aload_n 2, 1) := oc_44 shL_law_808
theorem dL_law_809 : decode code 809 = .ok (.aload_n 0, 1) := oc_42 shL_law_809
theorem dL_law_810 : decode code 810 = .ok (.iload_n 3, 1) := oc_29 shL_law_810
theorem dL_law_811 : decode code 811 = .ok (.iconst 1, 1) := oc_4 shL_law_811
theorem dL_law_812 : decode code 812 = .ok (.iadd, 1) := oc_96 shL_law_812
theorem dL_law_813 : decode code 813 = .ok (.iaload, 1) := oc_46 shL_law_813
theorem dL_law_814 : decode code 814 = .ok (.invokevirtual 81, 3) := oc_182 shL_law_814
theorem dL_law_817 : decode code 817 = .ok (.pop, 1) := oc_87 shL_law_817
theorem dL_law_818 : decode code 818 = .ok (.goto 1451, 3) := oc_167 shL_law_818 sgw_5_171
set_option maxRecDepth 100000 in
set_option maxHeartbeats 4000000 in
theorem lawc_0 {p : Program} {l : Launch} {e : Env} {s : State} {m : MethodId} {below : List Frame} {meth : Method} {c : Code} {b L : Nat} {xs : Nat → Int32} (C0 : lw_At p s m meth c b L xs) (hLN : L ≤ 3584) {A : Nat → Prop} (hA : ∀ q : Nat, s.heap.size ≤ q → A q) (hbA : ¬ A b) {D : va_G} {cI cB cZ : ClassId} {zz qq vv : Nat} {bt : Nat → Int32} {g g2 : Nat → Nat} (hK : KK D cI cB cZ s) (hXS : XS D zz qq vv bt A s s.heap) {ad : Nat → Nat → Nat} {cn : Nat → Nat} {In : Nat → Int32} {Fn : Nat → Nat → Int32} {c3 : Nat → Nat} {I3 : Nat → Int32} {F3 : Nat → Nat → Int32} (hI : IX ad cn Fn) (hM : IMM c3 F3) (hR : RR cn Fn c3 F3) {H : Heap} {locs : List Loc} (hP : va_P D vwCl (wX cI (D.1 99) zz g ad cn In Fn ++ wM cI cB cZ g2 c3 I3 F3) H) (hD : va_D A (wX cI (D.1 99) zz g ad cn In Fn ++ wM cI cB cZ g2 c3 I3 F3)) (hS : va_S A s.heap H locs) {K N i : Nat} (hi : i + 7 ≤ L) (hKN : K + 8 ≤ 600000 ∧ N + 240 ≤ 7302250) {ls : Array Slot} (hl : lv_has ls 4 [(0, .ref b), (1, .ref (g 0)), (2, .ref (g2 100)), (3, .int (nI i))]) (kk : ∀ (ad : Nat → Nat → Nat) (cn : Nat → Nat) (In : Nat → Int32) (Fn : Nat → Nat → Int32) (c3 : Nat → Nat) (I3 : Nat → Int32) (F3 : Nat → Nat → Int32) (H : Heap) (locs : List Loc), IX ad cn Fn → IMM c3 F3 → RR cn Fn c3 F3 → va_P D vwCl (wX cI (D.1 99) zz g ad cn In Fn ++ wM cI cB cZ g2 c3 I3 F3) H → va_D A (wX cI (D.1 99) zz g ad cn In Fn ++ wM cI cB cZ g2 c3 I3 F3) → va_S A s.heap H locs → ∀ ls : Array Slot, lv_has ls 4 [(0, .ref b), (1, .ref (g 0)), (2, .ref (g2 100)), (3, .int (nI i))] → W p l e room_1 s m #[Value.ref b] below meth c H locs (K + 8) (N + 240) (lw_Z below #[Value.ref b] s) (F0 m 2269 ls [])) : W p l e room_1 s m #[Value.ref b] below meth c H locs K N (lw_Z below #[Value.ref b] s) (F0 m 284 ls []) := by
  obtain ⟨hx, hb, hr, hml, hown, hts, hX, hbl, hlocks, hgv⟩ := id C0
  have S : SF p m c code 4 s #[Value.ref b] RL := ⟨hx, hb, hml, hown, fun w h => hts w (wT_lw h)⟩
  refine lv_aload_n hx hb dL_law_284 rfl (lvA1 hl) ?_
  refine lv_aload_n hx hb dL_law_285 rfl (lvA0 hl) ?_
  refine lv_iload_n hx hb dL_law_286 rfl (lvA3 hl) ?_
  refine lv_iconst (v := 1) hx hb dL_law_287 kic_1 ?_
  refine lv_iadd hx hb dL_law_288 ?_
  refine lv_topi (fun y_1 ey_1 => ?_)
  obtain rfl : y_1 = nI (i + 1) := ey_1.trans (nI_add i 1)
  refine va_sld hx hb hX hbl hbA hS (vp_in_nI (by omega) (by omega)) dL_law_289 ?_
  refine lv_topi (fun y_2 ey_2 => ?_)
  obtain rfl : y_2 = xs (nI (i + 1)).toNatClampNeg := ey_2
  have hFc := free_all (exD hD) hS hA
  refine va_calli (runV_xa (As := [.int (xs (nI (i + 1)).toNatClampNeg)]) (rest := []) S (q_Xnow l D cI cB cZ zz qq vv bt g ad cn In Fn (xs (nI (i + 1)).toNatClampNeg) H.size hI.1) kV_RL_13 hK hXS hS hFc (exP hP) (exD hD) 0 xo_0 rfl rfl ⟨Nat.le_of_ble_eq_true rfl, Nat.le_of_ble_eq_true rfl⟩ ⟨(by show K + 0 ≤ 600000; omega), (by show N + 0 ≤ 7302250; omega)⟩ rfl hl.1 rfl (Nat.le_of_ble_eq_true rfl) dL_law_290) hS (fun q _ h => hFc q h) hFc (fun r2 u t H1 locs ht hvm w2 hB1 hz1 hk1 hS => ?_)
  obtain ⟨c2, I2, F2⟩ := u
  obtain ⟨hP1, hD1⟩ := hB1
  rw [ht] at hP1
  obtain ⟨hP, hD⟩ := exjoinL hP hD hk1 hFc hP1 hD1
  generalize H1 = H at hP hS ⊢
  obtain ⟨hd2, hf2⟩ := fx_Xnow w2
  have hI := ix_Xnow hI w2
  have hR := RR.fx hR hd2 hf2 (by decide) (by decide)
  refine lv_pop hx hb dL_law_293 rfl ?_
  refine lv_aload_n hx hb dL_law_294 rfl (lvA2 hl) ?_
  refine lv_aload_n hx hb dL_law_295 rfl (lvA0 hl) ?_
  refine lv_iload_n hx hb dL_law_296 rfl (lvA3 hl) ?_
  refine lv_iconst (v := 1) hx hb dL_law_297 kic_1 ?_
  refine lv_iadd hx hb dL_law_298 ?_
  refine lv_topi (fun y_4 ey_4 => ?_)
  obtain rfl : y_4 = nI (i + 1) := ey_4.trans (nI_add i 1)
  refine va_sld hx hb hX hbl hbA hS (vp_in_nI (by omega) (by omega)) dL_law_299 ?_
  refine lv_topi (fun y_5 ey_5 => ?_)
  obtain rfl : y_5 = xs (nI (i + 1)).toNatClampNeg := ey_5
  have hFc := free_all (exDr hD) hS hA
  refine va_calli (runV_a (As := [.int (xs (nI (i + 1)).toNatClampNeg)]) (rest := []) S (q_now l D cI cB cZ g2 c3 I3 F3 (xs (nI (i + 1)).toNatClampNeg) H.size hM.1) kV_RL_17 hK (exPr hP) (exDr hD) 0 rfl rfl rfl ⟨Nat.le_of_ble_eq_true rfl, Nat.le_of_ble_eq_true rfl⟩ ⟨(by show K + 0 ≤ 600000; omega), (by show N + 0 ≤ 7302250; omega)⟩ rfl hl.1 rfl (Nat.le_of_ble_eq_true rfl) dL_law_300) hS (fun q _ h => hFc q h) hFc (fun r5 u t H1 locs ht hvm w5 hB1 hz1 hk1 hS => ?_)
  obtain ⟨c5, I5, F5⟩ := u
  obtain ⟨hP1, hD1⟩ := hB1
  rw [ht] at hP1
  obtain ⟨hP, hD⟩ := exjoin hP hD hk1 hFc hP1 hD1
  generalize H1 = H at hP hS ⊢
  obtain ⟨hM, hd5, hf5⟩ := imm_now hM w5
  have hR := RR.fm hR hd5 hf5 (by decide) (by decide)
  refine lv_pop hx hb dL_law_303 rfl ?_
  refine lv_goto (tgt := 2269) hx hb dL_law_304 rfl ?_
  refine W.widen (k := K + 8) (n := N + 240) (by omega) (by omega) ?_
  exact kk _ _ _ _ _ _ _ _ _ hI hM hR hP hD hS ls hl
set_option maxRecDepth 100000 in
set_option maxHeartbeats 4000000 in
theorem lawc_1 {p : Program} {l : Launch} {e : Env} {s : State} {m : MethodId} {below : List Frame} {meth : Method} {c : Code} {b L : Nat} {xs : Nat → Int32} (C0 : lw_At p s m meth c b L xs) (hLN : L ≤ 3584) {A : Nat → Prop} (hA : ∀ q : Nat, s.heap.size ≤ q → A q) (hbA : ¬ A b) {D : va_G} {cI cB cZ : ClassId} {zz qq vv : Nat} {bt : Nat → Int32} {g g2 : Nat → Nat} (hK : KK D cI cB cZ s) (hXS : XS D zz qq vv bt A s s.heap) {ad : Nat → Nat → Nat} {cn : Nat → Nat} {In : Nat → Int32} {Fn : Nat → Nat → Int32} {c3 : Nat → Nat} {I3 : Nat → Int32} {F3 : Nat → Nat → Int32} (hI : IX ad cn Fn) (hM : IMM c3 F3) (hR : RR cn Fn c3 F3) {H : Heap} {locs : List Loc} (hP : va_P D vwCl (wX cI (D.1 99) zz g ad cn In Fn ++ wM cI cB cZ g2 c3 I3 F3) H) (hD : va_D A (wX cI (D.1 99) zz g ad cn In Fn ++ wM cI cB cZ g2 c3 I3 F3)) (hS : va_S A s.heap H locs) {K N i : Nat} (hi : i + 7 ≤ L) (hKN : K + 8 ≤ 600000 ∧ N + 240 ≤ 7302250) {ls : Array Slot} (hl : lv_has ls 4 [(0, .ref b), (1, .ref (g 0)), (2, .ref (g2 100)), (3, .int (nI i))]) (kk : ∀ (ad : Nat → Nat → Nat) (cn : Nat → Nat) (In : Nat → Int32) (Fn : Nat → Nat → Int32) (c3 : Nat → Nat) (I3 : Nat → Int32) (F3 : Nat → Nat → Int32) (H : Heap) (locs : List Loc), IX ad cn Fn → IMM c3 F3 → RR cn Fn c3 F3 → va_P D vwCl (wX cI (D.1 99) zz g ad cn In Fn ++ wM cI cB cZ g2 c3 I3 F3) H → va_D A (wX cI (D.1 99) zz g ad cn In Fn ++ wM cI cB cZ g2 c3 I3 F3) → va_S A s.heap H locs → ∀ ls : Array Slot, lv_has ls 4 [(0, .ref b), (1, .ref (g 0)), (2, .ref (g2 100)), (3, .int (nI i))] → W p l e room_1 s m #[Value.ref b] below meth c H locs (K + 8) (N + 240) (lw_Z below #[Value.ref b] s) (F0 m 2269 ls [])) : W p l e room_1 s m #[Value.ref b] below meth c H locs K N (lw_Z below #[Value.ref b] s) (F0 m 307 ls []) := by
  obtain ⟨hx, hb, hr, hml, hown, hts, hX, hbl, hlocks, hgv⟩ := id C0
  have S : SF p m c code 4 s #[Value.ref b] RL := ⟨hx, hb, hml, hown, fun w h => hts w (wT_lw h)⟩
  refine lv_aload_n hx hb dL_law_307 rfl (lvA1 hl) ?_
  refine lv_aload_n hx hb dL_law_308 rfl (lvA0 hl) ?_
  refine lv_iload_n hx hb dL_law_309 rfl (lvA3 hl) ?_
  refine lv_iconst (v := 1) hx hb dL_law_310 kic_1 ?_
  refine lv_iadd hx hb dL_law_311 ?_
  refine lv_topi (fun y_1 ey_1 => ?_)
  obtain rfl : y_1 = nI (i + 1) := ey_1.trans (nI_add i 1)
  refine va_sld hx hb hX hbl hbA hS (vp_in_nI (by omega) (by omega)) dL_law_312 ?_
  refine lv_topi (fun y_2 ey_2 => ?_)
  obtain rfl : y_2 = xs (nI (i + 1)).toNatClampNeg := ey_2
  refine lv_aload_n hx hb dL_law_313 rfl (lvA0 hl) ?_
  refine lv_iload_n hx hb dL_law_314 rfl (lvA3 hl) ?_
  refine lv_iconst (v := 2) hx hb dL_law_315 kic_2 ?_
  refine lv_iadd hx hb dL_law_316 ?_
  refine lv_topi (fun y_3 ey_3 => ?_)
  obtain rfl : y_3 = nI (i + 2) := ey_3.trans (nI_add i 2)
  refine va_sld hx hb hX hbl hbA hS (vp_in_nI (by omega) (by omega)) dL_law_317 ?_
  refine lv_topi (fun y_4 ey_4 => ?_)
  obtain rfl : y_4 = xs (nI (i + 2)).toNatClampNeg := ey_4
  refine lv_aload_n hx hb dL_law_318 rfl (lvA0 hl) ?_
  refine lv_iload_n hx hb dL_law_319 rfl (lvA3 hl) ?_
  refine lv_iconst (v := 3) hx hb dL_law_320 kic_3 ?_
  refine lv_iadd hx hb dL_law_321 ?_
  refine lv_topi (fun y_5 ey_5 => ?_)
  obtain rfl : y_5 = nI (i + 3) := ey_5.trans (nI_add i 3)
  refine va_sld hx hb hX hbl hbA hS (vp_in_nI (by omega) (by omega)) dL_law_322 ?_
  refine lv_topi (fun y_6 ey_6 => ?_)
  obtain rfl : y_6 = xs (nI (i + 3)).toNatClampNeg := ey_6
  refine lv_aload_n hx hb dL_law_323 rfl (lvA0 hl) ?_
  refine lv_iload_n hx hb dL_law_324 rfl (lvA3 hl) ?_
  refine lv_iconst (v := 4) hx hb dL_law_325 kic_4 ?_
  refine lv_iadd hx hb dL_law_326 ?_
  refine lv_topi (fun y_7 ey_7 => ?_)
  obtain rfl : y_7 = nI (i + 4) := ey_7.trans (nI_add i 4)
  refine va_sld hx hb hX hbl hbA hS (vp_in_nI (by omega) (by omega)) dL_law_327 ?_
  refine lv_topi (fun y_8 ey_8 => ?_)
  obtain rfl : y_8 = xs (nI (i + 4)).toNatClampNeg := ey_8
  have hFc := free_all (exD hD) hS hA
  refine va_calli (runV_xa (As := [.int (xs (nI (i + 1)).toNatClampNeg), .int (xs (nI (i + 2)).toNatClampNeg), .int (xs (nI (i + 3)).toNatClampNeg), .int (xs (nI (i + 4)).toNatClampNeg)]) (rest := []) S (q_Xkitchen l D cI cB cZ zz qq vv bt g ad cn In Fn (xs (nI (i + 1)).toNatClampNeg) (xs (nI (i + 2)).toNatClampNeg) (xs (nI (i + 3)).toNatClampNeg) (xs (nI (i + 4)).toNatClampNeg) H.size hI.1 hI.2.1) kV_RL_18 hK hXS hS hFc (exP hP) (exD hD) 0 xo_0 rfl rfl ⟨Nat.le_of_ble_eq_true rfl, Nat.le_of_ble_eq_true rfl⟩ ⟨(by show K + 8 ≤ 600000; omega), (by show N + 188 ≤ 7302250; omega)⟩ rfl hl.1 rfl (Nat.le_of_ble_eq_true rfl) dL_law_328) hS (fun q _ h => hFc q h) hFc (fun r8 u t H1 locs ht hvm w8 hB1 hz1 hk1 hS => ?_)
  obtain ⟨a8, c8, I8, F8⟩ := u
  obtain ⟨hP1, hD1⟩ := hB1
  rw [ht] at hP1
  obtain ⟨hP, hD⟩ := exjoinL hP hD hk1 hFc hP1 hD1
  generalize H1 = H at hP hS ⊢
  obtain ⟨hI, hd8, hf8⟩ := ix_kitchen hI w8
  have hR := RR.fx hR hd8 hf8 (by decide) (by decide)
  refine lv_pop hx hb dL_law_331 rfl ?_
  refine lv_aload_n hx hb dL_law_332 rfl (lvA2 hl) ?_
  refine lv_aload_n hx hb dL_law_333 rfl (lvA0 hl) ?_
  refine lv_iload_n hx hb dL_law_334 rfl (lvA3 hl) ?_
  refine lv_iconst (v := 1) hx hb dL_law_335 kic_1 ?_
  refine lv_iadd hx hb dL_law_336 ?_
  refine lv_topi (fun y_10 ey_10 => ?_)
  obtain rfl : y_10 = nI (i + 1) := ey_10.trans (nI_add i 1)
  refine va_sld hx hb hX hbl hbA hS (vp_in_nI (by omega) (by omega)) dL_law_337 ?_
  refine lv_topi (fun y_11 ey_11 => ?_)
  obtain rfl : y_11 = xs (nI (i + 1)).toNatClampNeg := ey_11
  refine lv_aload_n hx hb dL_law_338 rfl (lvA0 hl) ?_
  refine lv_iload_n hx hb dL_law_339 rfl (lvA3 hl) ?_
  refine lv_iconst (v := 2) hx hb dL_law_340 kic_2 ?_
  refine lv_iadd hx hb dL_law_341 ?_
  refine lv_topi (fun y_12 ey_12 => ?_)
  obtain rfl : y_12 = nI (i + 2) := ey_12.trans (nI_add i 2)
  refine va_sld hx hb hX hbl hbA hS (vp_in_nI (by omega) (by omega)) dL_law_342 ?_
  refine lv_topi (fun y_13 ey_13 => ?_)
  obtain rfl : y_13 = xs (nI (i + 2)).toNatClampNeg := ey_13
  refine lv_aload_n hx hb dL_law_343 rfl (lvA0 hl) ?_
  refine lv_iload_n hx hb dL_law_344 rfl (lvA3 hl) ?_
  refine lv_iconst (v := 3) hx hb dL_law_345 kic_3 ?_
  refine lv_iadd hx hb dL_law_346 ?_
  refine lv_topi (fun y_14 ey_14 => ?_)
  obtain rfl : y_14 = nI (i + 3) := ey_14.trans (nI_add i 3)
  refine va_sld hx hb hX hbl hbA hS (vp_in_nI (by omega) (by omega)) dL_law_347 ?_
  refine lv_topi (fun y_15 ey_15 => ?_)
  obtain rfl : y_15 = xs (nI (i + 3)).toNatClampNeg := ey_15
  refine lv_aload_n hx hb dL_law_348 rfl (lvA0 hl) ?_
  refine lv_iload_n hx hb dL_law_349 rfl (lvA3 hl) ?_
  refine lv_iconst (v := 4) hx hb dL_law_350 kic_4 ?_
  refine lv_iadd hx hb dL_law_351 ?_
  refine lv_topi (fun y_16 ey_16 => ?_)
  obtain rfl : y_16 = nI (i + 4) := ey_16.trans (nI_add i 4)
  refine va_sld hx hb hX hbl hbA hS (vp_in_nI (by omega) (by omega)) dL_law_352 ?_
  refine lv_topi (fun y_17 ey_17 => ?_)
  obtain rfl : y_17 = xs (nI (i + 4)).toNatClampNeg := ey_17
  have hFc := free_all (exDr hD) hS hA
  refine va_calli (runV_a (As := [.int (xs (nI (i + 1)).toNatClampNeg), .int (xs (nI (i + 2)).toNatClampNeg), .int (xs (nI (i + 3)).toNatClampNeg), .int (xs (nI (i + 4)).toNatClampNeg)]) (rest := []) S (q_kitchen l D cI cB cZ g2 c3 I3 F3 (xs (nI (i + 1)).toNatClampNeg) (xs (nI (i + 2)).toNatClampNeg) (xs (nI (i + 3)).toNatClampNeg) (xs (nI (i + 4)).toNatClampNeg) H.size hM.1) kV_RL_22 hK (exPr hP) (exDr hD) 0 rfl rfl rfl ⟨Nat.le_of_ble_eq_true rfl, Nat.le_of_ble_eq_true rfl⟩ ⟨(by show K + 8 + 0 ≤ 600000; omega), (by show N + 188 + 0 ≤ 7302250; omega)⟩ rfl hl.1 rfl (Nat.le_of_ble_eq_true rfl) dL_law_353) hS (fun q _ h => hFc q h) hFc (fun r17 u t H1 locs ht hvm w17 hB1 hz1 hk1 hS => ?_)
  obtain ⟨c17, I17, F17⟩ := u
  obtain ⟨hP1, hD1⟩ := hB1
  rw [ht] at hP1
  obtain ⟨hP, hD⟩ := exjoin hP hD hk1 hFc hP1 hD1
  generalize H1 = H at hP hS ⊢
  obtain ⟨hM, hd17, hf17⟩ := imm_kitchen hM w17
  have hR := RR.fm hR hd17 hf17 (by decide) (by decide)
  refine lv_pop hx hb dL_law_356 rfl ?_
  refine lv_goto (tgt := 2269) hx hb dL_law_357 rfl ?_
  refine W.widen (k := K + 8) (n := N + 240) (by omega) (by omega) ?_
  exact kk _ _ _ _ _ _ _ _ _ hI hM hR hP hD hS ls hl
set_option maxRecDepth 100000 in
set_option maxHeartbeats 4000000 in
theorem lawc_2 {p : Program} {l : Launch} {e : Env} {s : State} {m : MethodId} {below : List Frame} {meth : Method} {c : Code} {b L : Nat} {xs : Nat → Int32} (C0 : lw_At p s m meth c b L xs) (hLN : L ≤ 3584) {A : Nat → Prop} (hA : ∀ q : Nat, s.heap.size ≤ q → A q) (hbA : ¬ A b) {D : va_G} {cI cB cZ : ClassId} {zz qq vv : Nat} {bt : Nat → Int32} {g g2 : Nat → Nat} (hK : KK D cI cB cZ s) (hXS : XS D zz qq vv bt A s s.heap) {ad : Nat → Nat → Nat} {cn : Nat → Nat} {In : Nat → Int32} {Fn : Nat → Nat → Int32} {c3 : Nat → Nat} {I3 : Nat → Int32} {F3 : Nat → Nat → Int32} (hI : IX ad cn Fn) (hM : IMM c3 F3) (hR : RR cn Fn c3 F3) {H : Heap} {locs : List Loc} (hP : va_P D vwCl (wX cI (D.1 99) zz g ad cn In Fn ++ wM cI cB cZ g2 c3 I3 F3) H) (hD : va_D A (wX cI (D.1 99) zz g ad cn In Fn ++ wM cI cB cZ g2 c3 I3 F3)) (hS : va_S A s.heap H locs) {K N i : Nat} (hi : i + 7 ≤ L) (hKN : K + 8 ≤ 600000 ∧ N + 240 ≤ 7302250) {ls : Array Slot} (hl : lv_has ls 4 [(0, .ref b), (1, .ref (g 0)), (2, .ref (g2 100)), (3, .int (nI i))]) (kk : ∀ (ad : Nat → Nat → Nat) (cn : Nat → Nat) (In : Nat → Int32) (Fn : Nat → Nat → Int32) (c3 : Nat → Nat) (I3 : Nat → Int32) (F3 : Nat → Nat → Int32) (H : Heap) (locs : List Loc), IX ad cn Fn → IMM c3 F3 → RR cn Fn c3 F3 → va_P D vwCl (wX cI (D.1 99) zz g ad cn In Fn ++ wM cI cB cZ g2 c3 I3 F3) H → va_D A (wX cI (D.1 99) zz g ad cn In Fn ++ wM cI cB cZ g2 c3 I3 F3) → va_S A s.heap H locs → ∀ ls : Array Slot, lv_has ls 4 [(0, .ref b), (1, .ref (g 0)), (2, .ref (g2 100)), (3, .int (nI i))] → W p l e room_1 s m #[Value.ref b] below meth c H locs (K + 8) (N + 240) (lw_Z below #[Value.ref b] s) (F0 m 2269 ls [])) : W p l e room_1 s m #[Value.ref b] below meth c H locs K N (lw_Z below #[Value.ref b] s) (F0 m 360 ls []) := by
  obtain ⟨hx, hb, hr, hml, hown, hts, hX, hbl, hlocks, hgv⟩ := id C0
  have S : SF p m c code 4 s #[Value.ref b] RL := ⟨hx, hb, hml, hown, fun w h => hts w (wT_lw h)⟩
  refine lv_aload_n hx hb dL_law_360 rfl (lvA1 hl) ?_
  refine lv_aload_n hx hb dL_law_361 rfl (lvA0 hl) ?_
  refine lv_iload_n hx hb dL_law_362 rfl (lvA3 hl) ?_
  refine lv_iconst (v := 1) hx hb dL_law_363 kic_1 ?_
  refine lv_iadd hx hb dL_law_364 ?_
  refine lv_topi (fun y_1 ey_1 => ?_)
  obtain rfl : y_1 = nI (i + 1) := ey_1.trans (nI_add i 1)
  refine va_sld hx hb hX hbl hbA hS (vp_in_nI (by omega) (by omega)) dL_law_365 ?_
  refine lv_topi (fun y_2 ey_2 => ?_)
  obtain rfl : y_2 = xs (nI (i + 1)).toNatClampNeg := ey_2
  refine lv_aload_n hx hb dL_law_366 rfl (lvA0 hl) ?_
  refine lv_iload_n hx hb dL_law_367 rfl (lvA3 hl) ?_
  refine lv_iconst (v := 2) hx hb dL_law_368 kic_2 ?_
  refine lv_iadd hx hb dL_law_369 ?_
  refine lv_topi (fun y_3 ey_3 => ?_)
  obtain rfl : y_3 = nI (i + 2) := ey_3.trans (nI_add i 2)
  refine va_sld hx hb hX hbl hbA hS (vp_in_nI (by omega) (by omega)) dL_law_370 ?_
  refine lv_topi (fun y_4 ey_4 => ?_)
  obtain rfl : y_4 = xs (nI (i + 2)).toNatClampNeg := ey_4
  refine vp_callSi (runV_rxa (As := [.int (xs (nI (i + 1)).toNatClampNeg), .int (xs (nI (i + 2)).toNatClampNeg)]) (rest := []) S (q_Xlikely l D cI cB cZ zz qq vv bt g ad cn In Fn (xs (nI (i + 1)).toNatClampNeg) (xs (nI (i + 2)).toNatClampNeg) hI.1) kV_RL_23 hK hXS hS (exP hP) 0 xo_0 rfl rfl ⟨Nat.le_of_ble_eq_true rfl, Nat.le_of_ble_eq_true rfl⟩ ⟨(by show K + 0 ≤ 600000; omega), (by show N + 0 ≤ 7302250; omega)⟩ rfl hl.1 rfl (Nat.le_of_ble_eq_true rfl) dL_law_371) (fun r4 w4 => ?_)
  refine lv_pop hx hb dL_law_374 rfl ?_
  refine lv_aload_n hx hb dL_law_375 rfl (lvA2 hl) ?_
  refine lv_aload_n hx hb dL_law_376 rfl (lvA0 hl) ?_
  refine lv_iload_n hx hb dL_law_377 rfl (lvA3 hl) ?_
  refine lv_iconst (v := 1) hx hb dL_law_378 kic_1 ?_
  refine lv_iadd hx hb dL_law_379 ?_
  refine lv_topi (fun y_6 ey_6 => ?_)
  obtain rfl : y_6 = nI (i + 1) := ey_6.trans (nI_add i 1)
  refine va_sld hx hb hX hbl hbA hS (vp_in_nI (by omega) (by omega)) dL_law_380 ?_
  refine lv_topi (fun y_7 ey_7 => ?_)
  obtain rfl : y_7 = xs (nI (i + 1)).toNatClampNeg := ey_7
  refine lv_aload_n hx hb dL_law_381 rfl (lvA0 hl) ?_
  refine lv_iload_n hx hb dL_law_382 rfl (lvA3 hl) ?_
  refine lv_iconst (v := 2) hx hb dL_law_383 kic_2 ?_
  refine lv_iadd hx hb dL_law_384 ?_
  refine lv_topi (fun y_8 ey_8 => ?_)
  obtain rfl : y_8 = nI (i + 2) := ey_8.trans (nI_add i 2)
  refine va_sld hx hb hX hbl hbA hS (vp_in_nI (by omega) (by omega)) dL_law_385 ?_
  refine lv_topi (fun y_9 ey_9 => ?_)
  obtain rfl : y_9 = xs (nI (i + 2)).toNatClampNeg := ey_9
  refine vp_callSi (runV_ra (As := [.int (xs (nI (i + 1)).toNatClampNeg), .int (xs (nI (i + 2)).toNatClampNeg)]) (rest := []) S (q_likely l D cI cB cZ g2 c3 I3 F3 (xs (nI (i + 1)).toNatClampNeg) (xs (nI (i + 2)).toNatClampNeg) hM.1) kV_RL_27 hK (exPr hP) 0 rfl rfl rfl ⟨Nat.le_of_ble_eq_true rfl, Nat.le_of_ble_eq_true rfl⟩ ⟨(by show K + 0 ≤ 600000; omega), (by show N + 0 ≤ 7302250; omega)⟩ rfl hl.1 rfl (Nat.le_of_ble_eq_true rfl) dL_law_386) (fun r9 w9 => ?_)
  refine lv_pop hx hb dL_law_389 rfl ?_
  refine lv_goto (tgt := 2269) hx hb dL_law_390 rfl ?_
  refine W.widen (k := K + 8) (n := N + 240) (by omega) (by omega) ?_
  exact kk _ _ _ _ _ _ _ _ _ hI hM hR hP hD hS ls hl
set_option maxRecDepth 100000 in
set_option maxHeartbeats 4000000 in
theorem lawc_3 {p : Program} {l : Launch} {e : Env} {s : State} {m : MethodId} {below : List Frame} {meth : Method} {c : Code} {b L : Nat} {xs : Nat → Int32} (C0 : lw_At p s m meth c b L xs) (hLN : L ≤ 3584) {A : Nat → Prop} (hA : ∀ q : Nat, s.heap.size ≤ q → A q) (hbA : ¬ A b) {D : va_G} {cI cB cZ : ClassId} {zz qq vv : Nat} {bt : Nat → Int32} {g g2 : Nat → Nat} (hK : KK D cI cB cZ s) (hXS : XS D zz qq vv bt A s s.heap) {ad : Nat → Nat → Nat} {cn : Nat → Nat} {In : Nat → Int32} {Fn : Nat → Nat → Int32} {c3 : Nat → Nat} {I3 : Nat → Int32} {F3 : Nat → Nat → Int32} (hI : IX ad cn Fn) (hM : IMM c3 F3) (hR : RR cn Fn c3 F3) {H : Heap} {locs : List Loc} (hP : va_P D vwCl (wX cI (D.1 99) zz g ad cn In Fn ++ wM cI cB cZ g2 c3 I3 F3) H) (hD : va_D A (wX cI (D.1 99) zz g ad cn In Fn ++ wM cI cB cZ g2 c3 I3 F3)) (hS : va_S A s.heap H locs) {K N i : Nat} (hi : i + 7 ≤ L) (hKN : K + 8 ≤ 600000 ∧ N + 240 ≤ 7302250) {ls : Array Slot} (hl : lv_has ls 4 [(0, .ref b), (1, .ref (g 0)), (2, .ref (g2 100)), (3, .int (nI i))]) (kk : ∀ (ad : Nat → Nat → Nat) (cn : Nat → Nat) (In : Nat → Int32) (Fn : Nat → Nat → Int32) (c3 : Nat → Nat) (I3 : Nat → Int32) (F3 : Nat → Nat → Int32) (H : Heap) (locs : List Loc), IX ad cn Fn → IMM c3 F3 → RR cn Fn c3 F3 → va_P D vwCl (wX cI (D.1 99) zz g ad cn In Fn ++ wM cI cB cZ g2 c3 I3 F3) H → va_D A (wX cI (D.1 99) zz g ad cn In Fn ++ wM cI cB cZ g2 c3 I3 F3) → va_S A s.heap H locs → ∀ ls : Array Slot, lv_has ls 4 [(0, .ref b), (1, .ref (g 0)), (2, .ref (g2 100)), (3, .int (nI i))] → W p l e room_1 s m #[Value.ref b] below meth c H locs (K + 8) (N + 240) (lw_Z below #[Value.ref b] s) (F0 m 2269 ls [])) : W p l e room_1 s m #[Value.ref b] below meth c H locs K N (lw_Z below #[Value.ref b] s) (F0 m 393 ls []) := by
  obtain ⟨hx, hb, hr, hml, hown, hts, hX, hbl, hlocks, hgv⟩ := id C0
  have S : SF p m c code 4 s #[Value.ref b] RL := ⟨hx, hb, hml, hown, fun w h => hts w (wT_lw h)⟩
  refine lv_aload_n hx hb dL_law_393 rfl (lvA1 hl) ?_
  refine lv_aload_n hx hb dL_law_394 rfl (lvA0 hl) ?_
  refine lv_iload_n hx hb dL_law_395 rfl (lvA3 hl) ?_
  refine lv_iconst (v := 1) hx hb dL_law_396 kic_1 ?_
  refine lv_iadd hx hb dL_law_397 ?_
  refine lv_topi (fun y_1 ey_1 => ?_)
  obtain rfl : y_1 = nI (i + 1) := ey_1.trans (nI_add i 1)
  refine va_sld hx hb hX hbl hbA hS (vp_in_nI (by omega) (by omega)) dL_law_398 ?_
  refine lv_topi (fun y_2 ey_2 => ?_)
  obtain rfl : y_2 = xs (nI (i + 1)).toNatClampNeg := ey_2
  refine lv_aload_n hx hb dL_law_399 rfl (lvA0 hl) ?_
  refine lv_iload_n hx hb dL_law_400 rfl (lvA3 hl) ?_
  refine lv_iconst (v := 2) hx hb dL_law_401 kic_2 ?_
  refine lv_iadd hx hb dL_law_402 ?_
  refine lv_topi (fun y_3 ey_3 => ?_)
  obtain rfl : y_3 = nI (i + 2) := ey_3.trans (nI_add i 2)
  refine va_sld hx hb hX hbl hbA hS (vp_in_nI (by omega) (by omega)) dL_law_403 ?_
  refine lv_topi (fun y_4 ey_4 => ?_)
  obtain rfl : y_4 = xs (nI (i + 2)).toNatClampNeg := ey_4
  refine lv_aload_n hx hb dL_law_404 rfl (lvA0 hl) ?_
  refine lv_iload_n hx hb dL_law_405 rfl (lvA3 hl) ?_
  refine lv_iconst (v := 3) hx hb dL_law_406 kic_3 ?_
  refine lv_iadd hx hb dL_law_407 ?_
  refine lv_topi (fun y_5 ey_5 => ?_)
  obtain rfl : y_5 = nI (i + 3) := ey_5.trans (nI_add i 3)
  refine va_sld hx hb hX hbl hbA hS (vp_in_nI (by omega) (by omega)) dL_law_408 ?_
  refine lv_topi (fun y_6 ey_6 => ?_)
  obtain rfl : y_6 = xs (nI (i + 3)).toNatClampNeg := ey_6
  refine lv_aload_n hx hb dL_law_409 rfl (lvA0 hl) ?_
  refine lv_iload_n hx hb dL_law_410 rfl (lvA3 hl) ?_
  refine lv_iconst (v := 4) hx hb dL_law_411 kic_4 ?_
  refine lv_iadd hx hb dL_law_412 ?_
  refine lv_topi (fun y_7 ey_7 => ?_)
  obtain rfl : y_7 = nI (i + 4) := ey_7.trans (nI_add i 4)
  refine va_sld hx hb hX hbl hbA hS (vp_in_nI (by omega) (by omega)) dL_law_413 ?_
  refine lv_topi (fun y_8 ey_8 => ?_)
  obtain rfl : y_8 = xs (nI (i + 4)).toNatClampNeg := ey_8
  refine lv_aload_n hx hb dL_law_414 rfl (lvA0 hl) ?_
  refine lv_iload_n hx hb dL_law_415 rfl (lvA3 hl) ?_
  refine lv_iconst (v := 5) hx hb dL_law_416 kic_5 ?_
  refine lv_iadd hx hb dL_law_417 ?_
  refine lv_topi (fun y_9 ey_9 => ?_)
  obtain rfl : y_9 = nI (i + 5) := ey_9.trans (nI_add i 5)
  refine va_sld hx hb hX hbl hbA hS (vp_in_nI (by omega) (by omega)) dL_law_418 ?_
  refine lv_topi (fun y_10 ey_10 => ?_)
  obtain rfl : y_10 = xs (nI (i + 5)).toNatClampNeg := ey_10
  refine lv_aload_n hx hb dL_law_419 rfl (lvA0 hl) ?_
  refine lv_iload_n hx hb dL_law_420 rfl (lvA3 hl) ?_
  refine lv_bipush (v := 6) hx hb dL_law_421 kbc_6 ?_
  refine lv_iadd hx hb dL_law_423 ?_
  refine lv_topi (fun y_11 ey_11 => ?_)
  obtain rfl : y_11 = nI (i + 6) := ey_11.trans (nI_add i 6)
  refine va_sld hx hb hX hbl hbA hS (vp_in_nI (by omega) (by omega)) dL_law_424 ?_
  refine lv_topi (fun y_12 ey_12 => ?_)
  obtain rfl : y_12 = xs (nI (i + 6)).toNatClampNeg := ey_12
  have hFc := free_all (exD hD) hS hA
  refine va_calli (runV_xa (As := [.int (xs (nI (i + 1)).toNatClampNeg), .int (xs (nI (i + 2)).toNatClampNeg), .int (xs (nI (i + 3)).toNatClampNeg), .int (xs (nI (i + 4)).toNatClampNeg), .int (xs (nI (i + 5)).toNatClampNeg), .int (xs (nI (i + 6)).toNatClampNeg)]) (rest := []) S (q_Xfetch l D cI cB cZ zz qq vv bt g ad cn In Fn (xs (nI (i + 1)).toNatClampNeg) (xs (nI (i + 2)).toNatClampNeg) (xs (nI (i + 3)).toNatClampNeg) (xs (nI (i + 4)).toNatClampNeg) (xs (nI (i + 5)).toNatClampNeg) (xs (nI (i + 6)).toNatClampNeg) H.size hI.1) kV_RL_28 hK hXS hS hFc (exP hP) (exD hD) 0 xo_0 rfl rfl ⟨Nat.le_of_ble_eq_true rfl, Nat.le_of_ble_eq_true rfl⟩ ⟨(by show K + 2 ≤ 600000; omega), (by show N + 110 ≤ 7302250; omega)⟩ rfl hl.1 rfl (Nat.le_of_ble_eq_true rfl) dL_law_425) hS (fun q _ h => hFc q h) hFc (fun r12 u t H1 locs ht hvm w12 hB1 hz1 hk1 hS => ?_)
  obtain ⟨a12, c12, I12, F12⟩ := u
  obtain ⟨hP1, hD1⟩ := hB1
  rw [ht] at hP1
  obtain ⟨hP, hD⟩ := exjoinL hP hD hk1 hFc hP1 hD1
  generalize H1 = H at hP hS ⊢
  obtain ⟨hI, hd12, hf12⟩ := ix_fetch hI w12
  have hR := RR.fx hR hd12 hf12 (by decide) (by decide)
  refine lv_pop hx hb dL_law_428 rfl ?_
  refine lv_aload_n hx hb dL_law_429 rfl (lvA2 hl) ?_
  refine lv_aload_n hx hb dL_law_430 rfl (lvA0 hl) ?_
  refine lv_iload_n hx hb dL_law_431 rfl (lvA3 hl) ?_
  refine lv_iconst (v := 1) hx hb dL_law_432 kic_1 ?_
  refine lv_iadd hx hb dL_law_433 ?_
  refine lv_topi (fun y_14 ey_14 => ?_)
  obtain rfl : y_14 = nI (i + 1) := ey_14.trans (nI_add i 1)
  refine va_sld hx hb hX hbl hbA hS (vp_in_nI (by omega) (by omega)) dL_law_434 ?_
  refine lv_topi (fun y_15 ey_15 => ?_)
  obtain rfl : y_15 = xs (nI (i + 1)).toNatClampNeg := ey_15
  refine lv_aload_n hx hb dL_law_435 rfl (lvA0 hl) ?_
  refine lv_iload_n hx hb dL_law_436 rfl (lvA3 hl) ?_
  refine lv_iconst (v := 2) hx hb dL_law_437 kic_2 ?_
  refine lv_iadd hx hb dL_law_438 ?_
  refine lv_topi (fun y_16 ey_16 => ?_)
  obtain rfl : y_16 = nI (i + 2) := ey_16.trans (nI_add i 2)
  refine va_sld hx hb hX hbl hbA hS (vp_in_nI (by omega) (by omega)) dL_law_439 ?_
  refine lv_topi (fun y_17 ey_17 => ?_)
  obtain rfl : y_17 = xs (nI (i + 2)).toNatClampNeg := ey_17
  refine lv_aload_n hx hb dL_law_440 rfl (lvA0 hl) ?_
  refine lv_iload_n hx hb dL_law_441 rfl (lvA3 hl) ?_
  refine lv_iconst (v := 3) hx hb dL_law_442 kic_3 ?_
  refine lv_iadd hx hb dL_law_443 ?_
  refine lv_topi (fun y_18 ey_18 => ?_)
  obtain rfl : y_18 = nI (i + 3) := ey_18.trans (nI_add i 3)
  refine va_sld hx hb hX hbl hbA hS (vp_in_nI (by omega) (by omega)) dL_law_444 ?_
  refine lv_topi (fun y_19 ey_19 => ?_)
  obtain rfl : y_19 = xs (nI (i + 3)).toNatClampNeg := ey_19
  refine lv_aload_n hx hb dL_law_445 rfl (lvA0 hl) ?_
  refine lv_iload_n hx hb dL_law_446 rfl (lvA3 hl) ?_
  refine lv_iconst (v := 4) hx hb dL_law_447 kic_4 ?_
  refine lv_iadd hx hb dL_law_448 ?_
  refine lv_topi (fun y_20 ey_20 => ?_)
  obtain rfl : y_20 = nI (i + 4) := ey_20.trans (nI_add i 4)
  refine va_sld hx hb hX hbl hbA hS (vp_in_nI (by omega) (by omega)) dL_law_449 ?_
  refine lv_topi (fun y_21 ey_21 => ?_)
  obtain rfl : y_21 = xs (nI (i + 4)).toNatClampNeg := ey_21
  refine lv_aload_n hx hb dL_law_450 rfl (lvA0 hl) ?_
  refine lv_iload_n hx hb dL_law_451 rfl (lvA3 hl) ?_
  refine lv_iconst (v := 5) hx hb dL_law_452 kic_5 ?_
  refine lv_iadd hx hb dL_law_453 ?_
  refine lv_topi (fun y_22 ey_22 => ?_)
  obtain rfl : y_22 = nI (i + 5) := ey_22.trans (nI_add i 5)
  refine va_sld hx hb hX hbl hbA hS (vp_in_nI (by omega) (by omega)) dL_law_454 ?_
  refine lv_topi (fun y_23 ey_23 => ?_)
  obtain rfl : y_23 = xs (nI (i + 5)).toNatClampNeg := ey_23
  refine lv_aload_n hx hb dL_law_455 rfl (lvA0 hl) ?_
  refine lv_iload_n hx hb dL_law_456 rfl (lvA3 hl) ?_
  refine lv_bipush (v := 6) hx hb dL_law_457 kbc_6 ?_
  refine lv_iadd hx hb dL_law_459 ?_
  refine lv_topi (fun y_24 ey_24 => ?_)
  obtain rfl : y_24 = nI (i + 6) := ey_24.trans (nI_add i 6)
  refine va_sld hx hb hX hbl hbA hS (vp_in_nI (by omega) (by omega)) dL_law_460 ?_
  refine lv_topi (fun y_25 ey_25 => ?_)
  obtain rfl : y_25 = xs (nI (i + 6)).toNatClampNeg := ey_25
  have hFc := free_all (exDr hD) hS hA
  refine va_calli (runV_a (As := [.int (xs (nI (i + 1)).toNatClampNeg), .int (xs (nI (i + 2)).toNatClampNeg), .int (xs (nI (i + 3)).toNatClampNeg), .int (xs (nI (i + 4)).toNatClampNeg), .int (xs (nI (i + 5)).toNatClampNeg), .int (xs (nI (i + 6)).toNatClampNeg)]) (rest := []) S (q_fetch l D cI cB cZ g2 c3 I3 F3 (xs (nI (i + 1)).toNatClampNeg) (xs (nI (i + 2)).toNatClampNeg) (xs (nI (i + 3)).toNatClampNeg) (xs (nI (i + 4)).toNatClampNeg) (xs (nI (i + 5)).toNatClampNeg) (xs (nI (i + 6)).toNatClampNeg) H.size hM.1) kV_RL_32 hK (exPr hP) (exDr hD) 0 rfl rfl rfl ⟨Nat.le_of_ble_eq_true rfl, Nat.le_of_ble_eq_true rfl⟩ ⟨(by show K + 2 + 0 ≤ 600000; omega), (by show N + 110 + 0 ≤ 7302250; omega)⟩ rfl hl.1 rfl (Nat.le_of_ble_eq_true rfl) dL_law_461) hS (fun q _ h => hFc q h) hFc (fun r25 u t H1 locs ht hvm w25 hB1 hz1 hk1 hS => ?_)
  obtain ⟨c25, I25, F25⟩ := u
  obtain ⟨hP1, hD1⟩ := hB1
  rw [ht] at hP1
  obtain ⟨hP, hD⟩ := exjoin hP hD hk1 hFc hP1 hD1
  generalize H1 = H at hP hS ⊢
  obtain ⟨hM, hd25, hf25⟩ := imm_fetch hM w25
  have hR := RR.fm hR hd25 hf25 (by decide) (by decide)
  refine lv_pop hx hb dL_law_464 rfl ?_
  refine lv_goto (tgt := 2269) hx hb dL_law_465 rfl ?_
  refine W.widen (k := K + 8) (n := N + 240) (by omega) (by omega) ?_
  exact kk _ _ _ _ _ _ _ _ _ hI hM hR hP hD hS ls hl
set_option maxRecDepth 100000 in
set_option maxHeartbeats 4000000 in
theorem lawc_4 {p : Program} {l : Launch} {e : Env} {s : State} {m : MethodId} {below : List Frame} {meth : Method} {c : Code} {b L : Nat} {xs : Nat → Int32} (C0 : lw_At p s m meth c b L xs) (hLN : L ≤ 3584) {A : Nat → Prop} (hA : ∀ q : Nat, s.heap.size ≤ q → A q) (hbA : ¬ A b) {D : va_G} {cI cB cZ : ClassId} {zz qq vv : Nat} {bt : Nat → Int32} {g g2 : Nat → Nat} (hK : KK D cI cB cZ s) (hXS : XS D zz qq vv bt A s s.heap) {ad : Nat → Nat → Nat} {cn : Nat → Nat} {In : Nat → Int32} {Fn : Nat → Nat → Int32} {c3 : Nat → Nat} {I3 : Nat → Int32} {F3 : Nat → Nat → Int32} (hI : IX ad cn Fn) (hM : IMM c3 F3) (hR : RR cn Fn c3 F3) {H : Heap} {locs : List Loc} (hP : va_P D vwCl (wX cI (D.1 99) zz g ad cn In Fn ++ wM cI cB cZ g2 c3 I3 F3) H) (hD : va_D A (wX cI (D.1 99) zz g ad cn In Fn ++ wM cI cB cZ g2 c3 I3 F3)) (hS : va_S A s.heap H locs) {K N i : Nat} (hi : i + 7 ≤ L) (hKN : K + 8 ≤ 600000 ∧ N + 240 ≤ 7302250) {ls : Array Slot} (hl : lv_has ls 4 [(0, .ref b), (1, .ref (g 0)), (2, .ref (g2 100)), (3, .int (nI i))]) (kk : ∀ (ad : Nat → Nat → Nat) (cn : Nat → Nat) (In : Nat → Int32) (Fn : Nat → Nat → Int32) (c3 : Nat → Nat) (I3 : Nat → Int32) (F3 : Nat → Nat → Int32) (H : Heap) (locs : List Loc), IX ad cn Fn → IMM c3 F3 → RR cn Fn c3 F3 → va_P D vwCl (wX cI (D.1 99) zz g ad cn In Fn ++ wM cI cB cZ g2 c3 I3 F3) H → va_D A (wX cI (D.1 99) zz g ad cn In Fn ++ wM cI cB cZ g2 c3 I3 F3) → va_S A s.heap H locs → ∀ ls : Array Slot, lv_has ls 4 [(0, .ref b), (1, .ref (g 0)), (2, .ref (g2 100)), (3, .int (nI i))] → W p l e room_1 s m #[Value.ref b] below meth c H locs (K + 8) (N + 240) (lw_Z below #[Value.ref b] s) (F0 m 2269 ls [])) : W p l e room_1 s m #[Value.ref b] below meth c H locs K N (lw_Z below #[Value.ref b] s) (F0 m 468 ls []) := by
  obtain ⟨hx, hb, hr, hml, hown, hts, hX, hbl, hlocks, hgv⟩ := id C0
  have S : SF p m c code 4 s #[Value.ref b] RL := ⟨hx, hb, hml, hown, fun w h => hts w (wT_lw h)⟩
  refine lv_aload_n hx hb dL_law_468 rfl (lvA1 hl) ?_
  refine lv_aload_n hx hb dL_law_469 rfl (lvA0 hl) ?_
  refine lv_iload_n hx hb dL_law_470 rfl (lvA3 hl) ?_
  refine lv_iconst (v := 1) hx hb dL_law_471 kic_1 ?_
  refine lv_iadd hx hb dL_law_472 ?_
  refine lv_topi (fun y_1 ey_1 => ?_)
  obtain rfl : y_1 = nI (i + 1) := ey_1.trans (nI_add i 1)
  refine va_sld hx hb hX hbl hbA hS (vp_in_nI (by omega) (by omega)) dL_law_473 ?_
  refine lv_topi (fun y_2 ey_2 => ?_)
  obtain rfl : y_2 = xs (nI (i + 1)).toNatClampNeg := ey_2
  refine lv_aload_n hx hb dL_law_474 rfl (lvA0 hl) ?_
  refine lv_iload_n hx hb dL_law_475 rfl (lvA3 hl) ?_
  refine lv_iconst (v := 2) hx hb dL_law_476 kic_2 ?_
  refine lv_iadd hx hb dL_law_477 ?_
  refine lv_topi (fun y_3 ey_3 => ?_)
  obtain rfl : y_3 = nI (i + 2) := ey_3.trans (nI_add i 2)
  refine va_sld hx hb hX hbl hbA hS (vp_in_nI (by omega) (by omega)) dL_law_478 ?_
  refine lv_topi (fun y_4 ey_4 => ?_)
  obtain rfl : y_4 = xs (nI (i + 2)).toNatClampNeg := ey_4
  refine lv_aload_n hx hb dL_law_479 rfl (lvA0 hl) ?_
  refine lv_iload_n hx hb dL_law_480 rfl (lvA3 hl) ?_
  refine lv_iconst (v := 3) hx hb dL_law_481 kic_3 ?_
  refine lv_iadd hx hb dL_law_482 ?_
  refine lv_topi (fun y_5 ey_5 => ?_)
  obtain rfl : y_5 = nI (i + 3) := ey_5.trans (nI_add i 3)
  refine va_sld hx hb hX hbl hbA hS (vp_in_nI (by omega) (by omega)) dL_law_483 ?_
  refine lv_topi (fun y_6 ey_6 => ?_)
  obtain rfl : y_6 = xs (nI (i + 3)).toNatClampNeg := ey_6
  refine lv_aload_n hx hb dL_law_484 rfl (lvA0 hl) ?_
  refine lv_iload_n hx hb dL_law_485 rfl (lvA3 hl) ?_
  refine lv_iconst (v := 4) hx hb dL_law_486 kic_4 ?_
  refine lv_iadd hx hb dL_law_487 ?_
  refine lv_topi (fun y_7 ey_7 => ?_)
  obtain rfl : y_7 = nI (i + 4) := ey_7.trans (nI_add i 4)
  refine va_sld hx hb hX hbl hbA hS (vp_in_nI (by omega) (by omega)) dL_law_488 ?_
  refine lv_topi (fun y_8 ey_8 => ?_)
  obtain rfl : y_8 = xs (nI (i + 4)).toNatClampNeg := ey_8
  refine lv_aload_n hx hb dL_law_489 rfl (lvA0 hl) ?_
  refine lv_iload_n hx hb dL_law_490 rfl (lvA3 hl) ?_
  refine lv_iconst (v := 5) hx hb dL_law_491 kic_5 ?_
  refine lv_iadd hx hb dL_law_492 ?_
  refine lv_topi (fun y_9 ey_9 => ?_)
  obtain rfl : y_9 = nI (i + 5) := ey_9.trans (nI_add i 5)
  refine va_sld hx hb hX hbl hbA hS (vp_in_nI (by omega) (by omega)) dL_law_493 ?_
  refine lv_topi (fun y_10 ey_10 => ?_)
  obtain rfl : y_10 = xs (nI (i + 5)).toNatClampNeg := ey_10
  have hFc := free_all (exD hD) hS hA
  refine va_calli (runV_xa (As := [.int (xs (nI (i + 1)).toNatClampNeg), .int (xs (nI (i + 2)).toNatClampNeg), .int (xs (nI (i + 3)).toNatClampNeg), .int (xs (nI (i + 4)).toNatClampNeg), .int (xs (nI (i + 5)).toNatClampNeg)]) (rest := []) S (q_Xfeed l D cI cB cZ zz qq vv bt g ad cn In Fn (xs (nI (i + 1)).toNatClampNeg) (xs (nI (i + 2)).toNatClampNeg) (xs (nI (i + 3)).toNatClampNeg) (xs (nI (i + 4)).toNatClampNeg) (xs (nI (i + 5)).toNatClampNeg) H.size hI.1) kV_RL_33 hK hXS hS hFc (exP hP) (exD hD) 0 xo_0 rfl rfl ⟨Nat.le_of_ble_eq_true rfl, Nat.le_of_ble_eq_true rfl⟩ ⟨(by show K + 0 ≤ 600000; omega), (by show N + 0 ≤ 7302250; omega)⟩ rfl hl.1 rfl (Nat.le_of_ble_eq_true rfl) dL_law_494) hS (fun q _ h => hFc q h) hFc (fun r10 u t H1 locs ht hvm w10 hB1 hz1 hk1 hS => ?_)
  obtain ⟨c10, I10, F10⟩ := u
  obtain ⟨hP1, hD1⟩ := hB1
  rw [ht] at hP1
  obtain ⟨hP, hD⟩ := exjoinL hP hD hk1 hFc hP1 hD1
  generalize H1 = H at hP hS ⊢
  have hd10 := w10.1.1
  have hf10 := w10.1.2.2
  have hI := IX.fr hI w10.1 w10.2.1 (by decide) (by decide)
  have hR := RR.fx hR hd10 hf10 (by decide) (by decide)
  refine lv_pop hx hb dL_law_497 rfl ?_
  refine lv_aload_n hx hb dL_law_498 rfl (lvA2 hl) ?_
  refine lv_aload_n hx hb dL_law_499 rfl (lvA0 hl) ?_
  refine lv_iload_n hx hb dL_law_500 rfl (lvA3 hl) ?_
  refine lv_iconst (v := 1) hx hb dL_law_501 kic_1 ?_
  refine lv_iadd hx hb dL_law_502 ?_
  refine lv_topi (fun y_12 ey_12 => ?_)
  obtain rfl : y_12 = nI (i + 1) := ey_12.trans (nI_add i 1)
  refine va_sld hx hb hX hbl hbA hS (vp_in_nI (by omega) (by omega)) dL_law_503 ?_
  refine lv_topi (fun y_13 ey_13 => ?_)
  obtain rfl : y_13 = xs (nI (i + 1)).toNatClampNeg := ey_13
  refine lv_aload_n hx hb dL_law_504 rfl (lvA0 hl) ?_
  refine lv_iload_n hx hb dL_law_505 rfl (lvA3 hl) ?_
  refine lv_iconst (v := 2) hx hb dL_law_506 kic_2 ?_
  refine lv_iadd hx hb dL_law_507 ?_
  refine lv_topi (fun y_14 ey_14 => ?_)
  obtain rfl : y_14 = nI (i + 2) := ey_14.trans (nI_add i 2)
  refine va_sld hx hb hX hbl hbA hS (vp_in_nI (by omega) (by omega)) dL_law_508 ?_
  refine lv_topi (fun y_15 ey_15 => ?_)
  obtain rfl : y_15 = xs (nI (i + 2)).toNatClampNeg := ey_15
  refine lv_aload_n hx hb dL_law_509 rfl (lvA0 hl) ?_
  refine lv_iload_n hx hb dL_law_510 rfl (lvA3 hl) ?_
  refine lv_iconst (v := 3) hx hb dL_law_511 kic_3 ?_
  refine lv_iadd hx hb dL_law_512 ?_
  refine lv_topi (fun y_16 ey_16 => ?_)
  obtain rfl : y_16 = nI (i + 3) := ey_16.trans (nI_add i 3)
  refine va_sld hx hb hX hbl hbA hS (vp_in_nI (by omega) (by omega)) dL_law_513 ?_
  refine lv_topi (fun y_17 ey_17 => ?_)
  obtain rfl : y_17 = xs (nI (i + 3)).toNatClampNeg := ey_17
  refine lv_aload_n hx hb dL_law_514 rfl (lvA0 hl) ?_
  refine lv_iload_n hx hb dL_law_515 rfl (lvA3 hl) ?_
  refine lv_iconst (v := 4) hx hb dL_law_516 kic_4 ?_
  refine lv_iadd hx hb dL_law_517 ?_
  refine lv_topi (fun y_18 ey_18 => ?_)
  obtain rfl : y_18 = nI (i + 4) := ey_18.trans (nI_add i 4)
  refine va_sld hx hb hX hbl hbA hS (vp_in_nI (by omega) (by omega)) dL_law_518 ?_
  refine lv_topi (fun y_19 ey_19 => ?_)
  obtain rfl : y_19 = xs (nI (i + 4)).toNatClampNeg := ey_19
  refine lv_aload_n hx hb dL_law_519 rfl (lvA0 hl) ?_
  refine lv_iload_n hx hb dL_law_520 rfl (lvA3 hl) ?_
  refine lv_iconst (v := 5) hx hb dL_law_521 kic_5 ?_
  refine lv_iadd hx hb dL_law_522 ?_
  refine lv_topi (fun y_20 ey_20 => ?_)
  obtain rfl : y_20 = nI (i + 5) := ey_20.trans (nI_add i 5)
  refine va_sld hx hb hX hbl hbA hS (vp_in_nI (by omega) (by omega)) dL_law_523 ?_
  refine lv_topi (fun y_21 ey_21 => ?_)
  obtain rfl : y_21 = xs (nI (i + 5)).toNatClampNeg := ey_21
  have hFc := free_all (exDr hD) hS hA
  refine va_calli (runV_a (As := [.int (xs (nI (i + 1)).toNatClampNeg), .int (xs (nI (i + 2)).toNatClampNeg), .int (xs (nI (i + 3)).toNatClampNeg), .int (xs (nI (i + 4)).toNatClampNeg), .int (xs (nI (i + 5)).toNatClampNeg)]) (rest := []) S (q_feed l D cI cB cZ g2 c3 I3 F3 (xs (nI (i + 1)).toNatClampNeg) (xs (nI (i + 2)).toNatClampNeg) (xs (nI (i + 3)).toNatClampNeg) (xs (nI (i + 4)).toNatClampNeg) (xs (nI (i + 5)).toNatClampNeg) H.size hM.1 hM.2) kV_RL_37 hK (exPr hP) (exDr hD) 0 rfl rfl rfl ⟨Nat.le_of_ble_eq_true rfl, Nat.le_of_ble_eq_true rfl⟩ ⟨(by show K + 0 ≤ 600000; omega), (by show N + 0 ≤ 7302250; omega)⟩ rfl hl.1 rfl (Nat.le_of_ble_eq_true rfl) dL_law_524) hS (fun q _ h => hFc q h) hFc (fun r21 u t H1 locs ht hvm w21 hB1 hz1 hk1 hS => ?_)
  obtain ⟨c21, I21, F21⟩ := u
  obtain ⟨hP1, hD1⟩ := hB1
  rw [ht] at hP1
  obtain ⟨hP, hD⟩ := exjoin hP hD hk1 hFc hP1 hD1
  generalize H1 = H at hP hS ⊢
  obtain ⟨hM, hd21, hf21⟩ := imm_feed hM w21
  have hR := RR.fm hR hd21 hf21 (by decide) (by decide)
  refine lv_pop hx hb dL_law_527 rfl ?_
  refine lv_goto (tgt := 2269) hx hb dL_law_528 rfl ?_
  refine W.widen (k := K + 8) (n := N + 240) (by omega) (by omega) ?_
  exact kk _ _ _ _ _ _ _ _ _ hI hM hR hP hD hS ls hl
set_option maxRecDepth 100000 in
set_option maxHeartbeats 4000000 in
theorem lawc_5 {p : Program} {l : Launch} {e : Env} {s : State} {m : MethodId} {below : List Frame} {meth : Method} {c : Code} {b L : Nat} {xs : Nat → Int32} (C0 : lw_At p s m meth c b L xs) (hLN : L ≤ 3584) {A : Nat → Prop} (hA : ∀ q : Nat, s.heap.size ≤ q → A q) (hbA : ¬ A b) {D : va_G} {cI cB cZ : ClassId} {zz qq vv : Nat} {bt : Nat → Int32} {g g2 : Nat → Nat} (hK : KK D cI cB cZ s) (hXS : XS D zz qq vv bt A s s.heap) {ad : Nat → Nat → Nat} {cn : Nat → Nat} {In : Nat → Int32} {Fn : Nat → Nat → Int32} {c3 : Nat → Nat} {I3 : Nat → Int32} {F3 : Nat → Nat → Int32} (hI : IX ad cn Fn) (hM : IMM c3 F3) (hR : RR cn Fn c3 F3) {H : Heap} {locs : List Loc} (hP : va_P D vwCl (wX cI (D.1 99) zz g ad cn In Fn ++ wM cI cB cZ g2 c3 I3 F3) H) (hD : va_D A (wX cI (D.1 99) zz g ad cn In Fn ++ wM cI cB cZ g2 c3 I3 F3)) (hS : va_S A s.heap H locs) {K N i : Nat} (hi : i + 7 ≤ L) (hKN : K + 8 ≤ 600000 ∧ N + 240 ≤ 7302250) {ls : Array Slot} (hl : lv_has ls 4 [(0, .ref b), (1, .ref (g 0)), (2, .ref (g2 100)), (3, .int (nI i))]) (kk : ∀ (ad : Nat → Nat → Nat) (cn : Nat → Nat) (In : Nat → Int32) (Fn : Nat → Nat → Int32) (c3 : Nat → Nat) (I3 : Nat → Int32) (F3 : Nat → Nat → Int32) (H : Heap) (locs : List Loc), IX ad cn Fn → IMM c3 F3 → RR cn Fn c3 F3 → va_P D vwCl (wX cI (D.1 99) zz g ad cn In Fn ++ wM cI cB cZ g2 c3 I3 F3) H → va_D A (wX cI (D.1 99) zz g ad cn In Fn ++ wM cI cB cZ g2 c3 I3 F3) → va_S A s.heap H locs → ∀ ls : Array Slot, lv_has ls 4 [(0, .ref b), (1, .ref (g 0)), (2, .ref (g2 100)), (3, .int (nI i))] → W p l e room_1 s m #[Value.ref b] below meth c H locs (K + 8) (N + 240) (lw_Z below #[Value.ref b] s) (F0 m 2269 ls [])) : W p l e room_1 s m #[Value.ref b] below meth c H locs K N (lw_Z below #[Value.ref b] s) (F0 m 531 ls []) := by
  obtain ⟨hx, hb, hr, hml, hown, hts, hX, hbl, hlocks, hgv⟩ := id C0
  have S : SF p m c code 4 s #[Value.ref b] RL := ⟨hx, hb, hml, hown, fun w h => hts w (wT_lw h)⟩
  refine lv_aload_n hx hb dL_law_531 rfl (lvA1 hl) ?_
  refine lv_aload_n hx hb dL_law_532 rfl (lvA0 hl) ?_
  refine lv_iload_n hx hb dL_law_533 rfl (lvA3 hl) ?_
  refine lv_iconst (v := 1) hx hb dL_law_534 kic_1 ?_
  refine lv_iadd hx hb dL_law_535 ?_
  refine lv_topi (fun y_1 ey_1 => ?_)
  obtain rfl : y_1 = nI (i + 1) := ey_1.trans (nI_add i 1)
  refine va_sld hx hb hX hbl hbA hS (vp_in_nI (by omega) (by omega)) dL_law_536 ?_
  refine lv_topi (fun y_2 ey_2 => ?_)
  obtain rfl : y_2 = xs (nI (i + 1)).toNatClampNeg := ey_2
  refine lv_aload_n hx hb dL_law_537 rfl (lvA0 hl) ?_
  refine lv_iload_n hx hb dL_law_538 rfl (lvA3 hl) ?_
  refine lv_iconst (v := 2) hx hb dL_law_539 kic_2 ?_
  refine lv_iadd hx hb dL_law_540 ?_
  refine lv_topi (fun y_3 ey_3 => ?_)
  obtain rfl : y_3 = nI (i + 2) := ey_3.trans (nI_add i 2)
  refine va_sld hx hb hX hbl hbA hS (vp_in_nI (by omega) (by omega)) dL_law_541 ?_
  refine lv_topi (fun y_4 ey_4 => ?_)
  obtain rfl : y_4 = xs (nI (i + 2)).toNatClampNeg := ey_4
  have hFc := free_all (exD hD) hS hA
  refine va_calli (runV_xa (As := [.int (xs (nI (i + 1)).toNatClampNeg), .int (xs (nI (i + 2)).toNatClampNeg)]) (rest := []) S (q_Xcontract l D cI cB cZ zz qq vv bt g ad cn In Fn (xs (nI (i + 1)).toNatClampNeg) (xs (nI (i + 2)).toNatClampNeg) H.size hI.1 hI.2.1 hI.2.2.1 hI.2.2.2.1) kV_RL_38 hK hXS hS hFc (exP hP) (exD hD) 0 xo_0 rfl rfl ⟨Nat.le_of_ble_eq_true rfl, Nat.le_of_ble_eq_true rfl⟩ ⟨(by show K + 6 ≤ 600000; omega), (by show N + 237 ≤ 7302250; omega)⟩ rfl hl.1 rfl (Nat.le_of_ble_eq_true rfl) dL_law_542) hS (fun q _ h => hFc q h) hFc (fun r4 u t H1 locs ht hvm w4 hB1 hz1 hk1 hS => ?_)
  obtain ⟨a4, c4, I4, F4⟩ := u
  obtain ⟨hP1, hD1⟩ := hB1
  rw [ht] at hP1
  obtain ⟨hP, hD⟩ := exjoinL hP hD hk1 hFc hP1 hD1
  generalize H1 = H at hP hS ⊢
  obtain ⟨hI, hd4, hf4⟩ := ix_contract hI w4
  have hR := RR.fx hR hd4 hf4 (by decide) (by decide)
  refine lv_pop hx hb dL_law_545 rfl ?_
  refine lv_aload_n hx hb dL_law_546 rfl (lvA2 hl) ?_
  refine lv_aload_n hx hb dL_law_547 rfl (lvA0 hl) ?_
  refine lv_iload_n hx hb dL_law_548 rfl (lvA3 hl) ?_
  refine lv_iconst (v := 1) hx hb dL_law_549 kic_1 ?_
  refine lv_iadd hx hb dL_law_550 ?_
  refine lv_topi (fun y_6 ey_6 => ?_)
  obtain rfl : y_6 = nI (i + 1) := ey_6.trans (nI_add i 1)
  refine va_sld hx hb hX hbl hbA hS (vp_in_nI (by omega) (by omega)) dL_law_551 ?_
  refine lv_topi (fun y_7 ey_7 => ?_)
  obtain rfl : y_7 = xs (nI (i + 1)).toNatClampNeg := ey_7
  refine lv_aload_n hx hb dL_law_552 rfl (lvA0 hl) ?_
  refine lv_iload_n hx hb dL_law_553 rfl (lvA3 hl) ?_
  refine lv_iconst (v := 2) hx hb dL_law_554 kic_2 ?_
  refine lv_iadd hx hb dL_law_555 ?_
  refine lv_topi (fun y_8 ey_8 => ?_)
  obtain rfl : y_8 = nI (i + 2) := ey_8.trans (nI_add i 2)
  refine va_sld hx hb hX hbl hbA hS (vp_in_nI (by omega) (by omega)) dL_law_556 ?_
  refine lv_topi (fun y_9 ey_9 => ?_)
  obtain rfl : y_9 = xs (nI (i + 2)).toNatClampNeg := ey_9
  have hFc := free_all (exDr hD) hS hA
  refine va_calli (runV_a (As := [.int (xs (nI (i + 1)).toNatClampNeg), .int (xs (nI (i + 2)).toNatClampNeg)]) (rest := []) S (q_contract8 l D cI cB cZ g2 c3 I3 F3 (xs (nI (i + 1)).toNatClampNeg) (xs (nI (i + 2)).toNatClampNeg) H.size hM.1 hM.2) kV_RL_41 hK (exPr hP) (exDr hD) 0 rfl rfl rfl ⟨Nat.le_of_ble_eq_true rfl, Nat.le_of_ble_eq_true rfl⟩ ⟨(by show K + 6 + 0 ≤ 600000; omega), (by show N + 237 + 0 ≤ 7302250; omega)⟩ rfl hl.1 rfl (Nat.le_of_ble_eq_true rfl) dL_law_557) hS (fun q _ h => hFc q h) hFc (fun r9 u t H1 locs ht hvm w9 hB1 hz1 hk1 hS => ?_)
  obtain ⟨c9, I9, F9⟩ := u
  obtain ⟨hP1, hD1⟩ := hB1
  rw [ht] at hP1
  obtain ⟨hP, hD⟩ := exjoin hP hD hk1 hFc hP1 hD1
  generalize H1 = H at hP hS ⊢
  obtain ⟨hM, hd9, hf9⟩ := imm_contract8 hM w9
  have hR := RR.fm hR hd9 hf9 (by decide) (by decide)
  refine lv_pop hx hb dL_law_560 rfl ?_
  refine lv_goto (tgt := 2269) hx hb dL_law_561 rfl ?_
  refine W.widen (k := K + 8) (n := N + 240) (by omega) (by omega) ?_
  exact kk _ _ _ _ _ _ _ _ _ hI hM hR hP hD hS ls hl
set_option maxRecDepth 100000 in
set_option maxHeartbeats 4000000 in
theorem lawc_6 {p : Program} {l : Launch} {e : Env} {s : State} {m : MethodId} {below : List Frame} {meth : Method} {c : Code} {b L : Nat} {xs : Nat → Int32} (C0 : lw_At p s m meth c b L xs) (hLN : L ≤ 3584) {A : Nat → Prop} (hA : ∀ q : Nat, s.heap.size ≤ q → A q) (hbA : ¬ A b) {D : va_G} {cI cB cZ : ClassId} {zz qq vv : Nat} {bt : Nat → Int32} {g g2 : Nat → Nat} (hK : KK D cI cB cZ s) (hXS : XS D zz qq vv bt A s s.heap) {ad : Nat → Nat → Nat} {cn : Nat → Nat} {In : Nat → Int32} {Fn : Nat → Nat → Int32} {c3 : Nat → Nat} {I3 : Nat → Int32} {F3 : Nat → Nat → Int32} (hI : IX ad cn Fn) (hM : IMM c3 F3) (hR : RR cn Fn c3 F3) {H : Heap} {locs : List Loc} (hP : va_P D vwCl (wX cI (D.1 99) zz g ad cn In Fn ++ wM cI cB cZ g2 c3 I3 F3) H) (hD : va_D A (wX cI (D.1 99) zz g ad cn In Fn ++ wM cI cB cZ g2 c3 I3 F3)) (hS : va_S A s.heap H locs) {K N i : Nat} (hi : i + 7 ≤ L) (hKN : K + 8 ≤ 600000 ∧ N + 240 ≤ 7302250) {ls : Array Slot} (hl : lv_has ls 4 [(0, .ref b), (1, .ref (g 0)), (2, .ref (g2 100)), (3, .int (nI i))]) (kk : ∀ (ad : Nat → Nat → Nat) (cn : Nat → Nat) (In : Nat → Int32) (Fn : Nat → Nat → Int32) (c3 : Nat → Nat) (I3 : Nat → Int32) (F3 : Nat → Nat → Int32) (H : Heap) (locs : List Loc), IX ad cn Fn → IMM c3 F3 → RR cn Fn c3 F3 → va_P D vwCl (wX cI (D.1 99) zz g ad cn In Fn ++ wM cI cB cZ g2 c3 I3 F3) H → va_D A (wX cI (D.1 99) zz g ad cn In Fn ++ wM cI cB cZ g2 c3 I3 F3) → va_S A s.heap H locs → ∀ ls : Array Slot, lv_has ls 4 [(0, .ref b), (1, .ref (g 0)), (2, .ref (g2 100)), (3, .int (nI i))] → W p l e room_1 s m #[Value.ref b] below meth c H locs (K + 8) (N + 240) (lw_Z below #[Value.ref b] s) (F0 m 2269 ls [])) : W p l e room_1 s m #[Value.ref b] below meth c H locs K N (lw_Z below #[Value.ref b] s) (F0 m 564 ls []) := by
  obtain ⟨hx, hb, hr, hml, hown, hts, hX, hbl, hlocks, hgv⟩ := id C0
  have S : SF p m c code 4 s #[Value.ref b] RL := ⟨hx, hb, hml, hown, fun w h => hts w (wT_lw h)⟩
  refine lv_aload_n hx hb dL_law_564 rfl (lvA1 hl) ?_
  refine lv_aload_n hx hb dL_law_565 rfl (lvA0 hl) ?_
  refine lv_iload_n hx hb dL_law_566 rfl (lvA3 hl) ?_
  refine lv_iconst (v := 1) hx hb dL_law_567 kic_1 ?_
  refine lv_iadd hx hb dL_law_568 ?_
  refine lv_topi (fun y_1 ey_1 => ?_)
  obtain rfl : y_1 = nI (i + 1) := ey_1.trans (nI_add i 1)
  refine va_sld hx hb hX hbl hbA hS (vp_in_nI (by omega) (by omega)) dL_law_569 ?_
  refine lv_topi (fun y_2 ey_2 => ?_)
  obtain rfl : y_2 = xs (nI (i + 1)).toNatClampNeg := ey_2
  have hFc := free_all (exD hD) hS hA
  refine va_calli (runV_xa (As := [.int (xs (nI (i + 1)).toNatClampNeg)]) (rest := []) S (q_Xlaw l D cI cB cZ zz qq vv bt g ad cn In Fn (xs (nI (i + 1)).toNatClampNeg) H.size hI.1 hI.2.1 hI.2.2.1 hI.2.2.2.1) kV_RL_42 hK hXS hS hFc (exP hP) (exD hD) 0 xo_0 rfl rfl ⟨Nat.le_of_ble_eq_true rfl, Nat.le_of_ble_eq_true rfl⟩ ⟨(by show K + 6 ≤ 600000; omega), (by show N + 237 ≤ 7302250; omega)⟩ rfl hl.1 rfl (Nat.le_of_ble_eq_true rfl) dL_law_570) hS (fun q _ h => hFc q h) hFc (fun r2 u t H1 locs ht hvm w2 hB1 hz1 hk1 hS => ?_)
  obtain ⟨a2, c2, I2, F2⟩ := u
  obtain ⟨hP1, hD1⟩ := hB1
  rw [ht] at hP1
  obtain ⟨hP, hD⟩ := exjoinL hP hD hk1 hFc hP1 hD1
  generalize H1 = H at hP hS ⊢
  obtain ⟨hI, hd2, hf2⟩ := ix_contract hI w2
  have hR := RR.fx hR hd2 hf2 (by decide) (by decide)
  refine lv_pop hx hb dL_law_573 rfl ?_
  refine lv_aload_n hx hb dL_law_574 rfl (lvA2 hl) ?_
  refine lv_aload_n hx hb dL_law_575 rfl (lvA0 hl) ?_
  refine lv_iload_n hx hb dL_law_576 rfl (lvA3 hl) ?_
  refine lv_iconst (v := 1) hx hb dL_law_577 kic_1 ?_
  refine lv_iadd hx hb dL_law_578 ?_
  refine lv_topi (fun y_4 ey_4 => ?_)
  obtain rfl : y_4 = nI (i + 1) := ey_4.trans (nI_add i 1)
  refine va_sld hx hb hX hbl hbA hS (vp_in_nI (by omega) (by omega)) dL_law_579 ?_
  refine lv_topi (fun y_5 ey_5 => ?_)
  obtain rfl : y_5 = xs (nI (i + 1)).toNatClampNeg := ey_5
  have hFc := free_all (exDr hD) hS hA
  refine va_calli (runV_a (As := [.int (xs (nI (i + 1)).toNatClampNeg)]) (rest := []) S (q_law8 l D cI cB cZ g2 c3 I3 F3 (xs (nI (i + 1)).toNatClampNeg) H.size hM.1 hM.2) kV_RL_46 hK (exPr hP) (exDr hD) 0 rfl rfl rfl ⟨Nat.le_of_ble_eq_true rfl, Nat.le_of_ble_eq_true rfl⟩ ⟨(by show K + 6 + 0 ≤ 600000; omega), (by show N + 237 + 0 ≤ 7302250; omega)⟩ rfl hl.1 rfl (Nat.le_of_ble_eq_true rfl) dL_law_580) hS (fun q _ h => hFc q h) hFc (fun r5 u t H1 locs ht hvm w5 hB1 hz1 hk1 hS => ?_)
  obtain ⟨c5, I5, F5⟩ := u
  obtain ⟨hP1, hD1⟩ := hB1
  rw [ht] at hP1
  obtain ⟨hP, hD⟩ := exjoin hP hD hk1 hFc hP1 hD1
  generalize H1 = H at hP hS ⊢
  obtain ⟨hM, hd5, hf5⟩ := imm_law8 hM w5
  have hR := RR.fm hR hd5 hf5 (by decide) (by decide)
  refine lv_pop hx hb dL_law_583 rfl ?_
  refine lv_goto (tgt := 2269) hx hb dL_law_584 rfl ?_
  refine W.widen (k := K + 8) (n := N + 240) (by omega) (by omega) ?_
  exact kk _ _ _ _ _ _ _ _ _ hI hM hR hP hD hS ls hl
set_option maxRecDepth 100000 in
set_option maxHeartbeats 4000000 in
theorem lawc_7 {p : Program} {l : Launch} {e : Env} {s : State} {m : MethodId} {below : List Frame} {meth : Method} {c : Code} {b L : Nat} {xs : Nat → Int32} (C0 : lw_At p s m meth c b L xs) (hLN : L ≤ 3584) {A : Nat → Prop} (hA : ∀ q : Nat, s.heap.size ≤ q → A q) (hbA : ¬ A b) {D : va_G} {cI cB cZ : ClassId} {zz qq vv : Nat} {bt : Nat → Int32} {g g2 : Nat → Nat} (hK : KK D cI cB cZ s) (hXS : XS D zz qq vv bt A s s.heap) {ad : Nat → Nat → Nat} {cn : Nat → Nat} {In : Nat → Int32} {Fn : Nat → Nat → Int32} {c3 : Nat → Nat} {I3 : Nat → Int32} {F3 : Nat → Nat → Int32} (hI : IX ad cn Fn) (hM : IMM c3 F3) (hR : RR cn Fn c3 F3) {H : Heap} {locs : List Loc} (hP : va_P D vwCl (wX cI (D.1 99) zz g ad cn In Fn ++ wM cI cB cZ g2 c3 I3 F3) H) (hD : va_D A (wX cI (D.1 99) zz g ad cn In Fn ++ wM cI cB cZ g2 c3 I3 F3)) (hS : va_S A s.heap H locs) {K N i : Nat} (hi : i + 7 ≤ L) (hKN : K + 8 ≤ 600000 ∧ N + 240 ≤ 7302250) {ls : Array Slot} (hl : lv_has ls 4 [(0, .ref b), (1, .ref (g 0)), (2, .ref (g2 100)), (3, .int (nI i))]) (kk : ∀ (ad : Nat → Nat → Nat) (cn : Nat → Nat) (In : Nat → Int32) (Fn : Nat → Nat → Int32) (c3 : Nat → Nat) (I3 : Nat → Int32) (F3 : Nat → Nat → Int32) (H : Heap) (locs : List Loc), IX ad cn Fn → IMM c3 F3 → RR cn Fn c3 F3 → va_P D vwCl (wX cI (D.1 99) zz g ad cn In Fn ++ wM cI cB cZ g2 c3 I3 F3) H → va_D A (wX cI (D.1 99) zz g ad cn In Fn ++ wM cI cB cZ g2 c3 I3 F3) → va_S A s.heap H locs → ∀ ls : Array Slot, lv_has ls 4 [(0, .ref b), (1, .ref (g 0)), (2, .ref (g2 100)), (3, .int (nI i))] → W p l e room_1 s m #[Value.ref b] below meth c H locs (K + 8) (N + 240) (lw_Z below #[Value.ref b] s) (F0 m 2269 ls [])) : W p l e room_1 s m #[Value.ref b] below meth c H locs K N (lw_Z below #[Value.ref b] s) (F0 m 587 ls []) := by
  obtain ⟨hx, hb, hr, hml, hown, hts, hX, hbl, hlocks, hgv⟩ := id C0
  have S : SF p m c code 4 s #[Value.ref b] RL := ⟨hx, hb, hml, hown, fun w h => hts w (wT_lw h)⟩
  refine lv_aload_n hx hb dL_law_587 rfl (lvA1 hl) ?_
  refine lv_aload_n hx hb dL_law_588 rfl (lvA0 hl) ?_
  refine lv_iload_n hx hb dL_law_589 rfl (lvA3 hl) ?_
  refine lv_iconst (v := 1) hx hb dL_law_590 kic_1 ?_
  refine lv_iadd hx hb dL_law_591 ?_
  refine lv_topi (fun y_1 ey_1 => ?_)
  obtain rfl : y_1 = nI (i + 1) := ey_1.trans (nI_add i 1)
  refine va_sld hx hb hX hbl hbA hS (vp_in_nI (by omega) (by omega)) dL_law_592 ?_
  refine lv_topi (fun y_2 ey_2 => ?_)
  obtain rfl : y_2 = xs (nI (i + 1)).toNatClampNeg := ey_2
  refine lv_aload_n hx hb dL_law_593 rfl (lvA0 hl) ?_
  refine lv_iload_n hx hb dL_law_594 rfl (lvA3 hl) ?_
  refine lv_iconst (v := 2) hx hb dL_law_595 kic_2 ?_
  refine lv_iadd hx hb dL_law_596 ?_
  refine lv_topi (fun y_3 ey_3 => ?_)
  obtain rfl : y_3 = nI (i + 2) := ey_3.trans (nI_add i 2)
  refine va_sld hx hb hX hbl hbA hS (vp_in_nI (by omega) (by omega)) dL_law_597 ?_
  refine lv_topi (fun y_4 ey_4 => ?_)
  obtain rfl : y_4 = xs (nI (i + 2)).toNatClampNeg := ey_4
  have hFc := free_all (exD hD) hS hA
  refine va_calli (runV_xa (As := [.int (xs (nI (i + 1)).toNatClampNeg), .int (xs (nI (i + 2)).toNatClampNeg)]) (rest := []) S (q_Xprice l D cI cB cZ zz qq vv bt g ad cn In Fn (xs (nI (i + 1)).toNatClampNeg) (xs (nI (i + 2)).toNatClampNeg) H.size hI.1) kV_RL_47 hK hXS hS hFc (exP hP) (exD hD) 0 xo_0 rfl rfl ⟨Nat.le_of_ble_eq_true rfl, Nat.le_of_ble_eq_true rfl⟩ ⟨(by show K + 0 ≤ 600000; omega), (by show N + 0 ≤ 7302250; omega)⟩ rfl hl.1 rfl (Nat.le_of_ble_eq_true rfl) dL_law_598) hS (fun q _ h => hFc q h) hFc (fun r4 u t H1 locs ht hvm w4 hB1 hz1 hk1 hS => ?_)
  obtain ⟨c4, I4, F4⟩ := u
  obtain ⟨hP1, hD1⟩ := hB1
  rw [ht] at hP1
  obtain ⟨hP, hD⟩ := exjoinL hP hD hk1 hFc hP1 hD1
  generalize H1 = H at hP hS ⊢
  have hd4 := w4.1.1
  have hf4 := w4.1.2.2
  have hI := IX.fr hI w4.1 w4.2.1 (by decide) (by decide)
  have hR := RR.fx hR hd4 hf4 (by decide) (by decide)
  refine lv_pop hx hb dL_law_601 rfl ?_
  refine lv_aload_n hx hb dL_law_602 rfl (lvA2 hl) ?_
  refine lv_aload_n hx hb dL_law_603 rfl (lvA0 hl) ?_
  refine lv_iload_n hx hb dL_law_604 rfl (lvA3 hl) ?_
  refine lv_iconst (v := 1) hx hb dL_law_605 kic_1 ?_
  refine lv_iadd hx hb dL_law_606 ?_
  refine lv_topi (fun y_6 ey_6 => ?_)
  obtain rfl : y_6 = nI (i + 1) := ey_6.trans (nI_add i 1)
  refine va_sld hx hb hX hbl hbA hS (vp_in_nI (by omega) (by omega)) dL_law_607 ?_
  refine lv_topi (fun y_7 ey_7 => ?_)
  obtain rfl : y_7 = xs (nI (i + 1)).toNatClampNeg := ey_7
  refine lv_aload_n hx hb dL_law_608 rfl (lvA0 hl) ?_
  refine lv_iload_n hx hb dL_law_609 rfl (lvA3 hl) ?_
  refine lv_iconst (v := 2) hx hb dL_law_610 kic_2 ?_
  refine lv_iadd hx hb dL_law_611 ?_
  refine lv_topi (fun y_8 ey_8 => ?_)
  obtain rfl : y_8 = nI (i + 2) := ey_8.trans (nI_add i 2)
  refine va_sld hx hb hX hbl hbA hS (vp_in_nI (by omega) (by omega)) dL_law_612 ?_
  refine lv_topi (fun y_9 ey_9 => ?_)
  obtain rfl : y_9 = xs (nI (i + 2)).toNatClampNeg := ey_9
  have hFc := free_all (exDr hD) hS hA
  refine va_calli (runV_a (As := [.int (xs (nI (i + 1)).toNatClampNeg), .int (xs (nI (i + 2)).toNatClampNeg)]) (rest := []) S (q_price l D cI cB cZ g2 c3 I3 F3 (xs (nI (i + 1)).toNatClampNeg) (xs (nI (i + 2)).toNatClampNeg) H.size hM.1) kV_RL_51 hK (exPr hP) (exDr hD) 0 rfl rfl rfl ⟨Nat.le_of_ble_eq_true rfl, Nat.le_of_ble_eq_true rfl⟩ ⟨(by show K + 0 ≤ 600000; omega), (by show N + 0 ≤ 7302250; omega)⟩ rfl hl.1 rfl (Nat.le_of_ble_eq_true rfl) dL_law_613) hS (fun q _ h => hFc q h) hFc (fun r9 u t H1 locs ht hvm w9 hB1 hz1 hk1 hS => ?_)
  obtain ⟨c9, I9, F9⟩ := u
  obtain ⟨hP1, hD1⟩ := hB1
  rw [ht] at hP1
  obtain ⟨hP, hD⟩ := exjoin hP hD hk1 hFc hP1 hD1
  generalize H1 = H at hP hS ⊢
  obtain ⟨hM, hd9, hf9⟩ := imm_price hM w9
  have hR := RR.fm hR hd9 hf9 (by decide) (by decide)
  refine lv_pop hx hb dL_law_616 rfl ?_
  refine lv_goto (tgt := 2269) hx hb dL_law_617 rfl ?_
  refine W.widen (k := K + 8) (n := N + 240) (by omega) (by omega) ?_
  exact kk _ _ _ _ _ _ _ _ _ hI hM hR hP hD hS ls hl
set_option maxRecDepth 100000 in
set_option maxHeartbeats 4000000 in
theorem lawc_8 {p : Program} {l : Launch} {e : Env} {s : State} {m : MethodId} {below : List Frame} {meth : Method} {c : Code} {b L : Nat} {xs : Nat → Int32} (C0 : lw_At p s m meth c b L xs) (hLN : L ≤ 3584) {A : Nat → Prop} (hA : ∀ q : Nat, s.heap.size ≤ q → A q) (hbA : ¬ A b) {D : va_G} {cI cB cZ : ClassId} {zz qq vv : Nat} {bt : Nat → Int32} {g g2 : Nat → Nat} (hK : KK D cI cB cZ s) (hXS : XS D zz qq vv bt A s s.heap) {ad : Nat → Nat → Nat} {cn : Nat → Nat} {In : Nat → Int32} {Fn : Nat → Nat → Int32} {c3 : Nat → Nat} {I3 : Nat → Int32} {F3 : Nat → Nat → Int32} (hI : IX ad cn Fn) (hM : IMM c3 F3) (hR : RR cn Fn c3 F3) {H : Heap} {locs : List Loc} (hP : va_P D vwCl (wX cI (D.1 99) zz g ad cn In Fn ++ wM cI cB cZ g2 c3 I3 F3) H) (hD : va_D A (wX cI (D.1 99) zz g ad cn In Fn ++ wM cI cB cZ g2 c3 I3 F3)) (hS : va_S A s.heap H locs) {K N i : Nat} (hi : i + 7 ≤ L) (hKN : K + 8 ≤ 600000 ∧ N + 240 ≤ 7302250) {ls : Array Slot} (hl : lv_has ls 4 [(0, .ref b), (1, .ref (g 0)), (2, .ref (g2 100)), (3, .int (nI i))]) (kk : ∀ (ad : Nat → Nat → Nat) (cn : Nat → Nat) (In : Nat → Int32) (Fn : Nat → Nat → Int32) (c3 : Nat → Nat) (I3 : Nat → Int32) (F3 : Nat → Nat → Int32) (H : Heap) (locs : List Loc), IX ad cn Fn → IMM c3 F3 → RR cn Fn c3 F3 → va_P D vwCl (wX cI (D.1 99) zz g ad cn In Fn ++ wM cI cB cZ g2 c3 I3 F3) H → va_D A (wX cI (D.1 99) zz g ad cn In Fn ++ wM cI cB cZ g2 c3 I3 F3) → va_S A s.heap H locs → ∀ ls : Array Slot, lv_has ls 4 [(0, .ref b), (1, .ref (g 0)), (2, .ref (g2 100)), (3, .int (nI i))] → W p l e room_1 s m #[Value.ref b] below meth c H locs (K + 8) (N + 240) (lw_Z below #[Value.ref b] s) (F0 m 2269 ls [])) : W p l e room_1 s m #[Value.ref b] below meth c H locs K N (lw_Z below #[Value.ref b] s) (F0 m 620 ls []) := by
  obtain ⟨hx, hb, hr, hml, hown, hts, hX, hbl, hlocks, hgv⟩ := id C0
  have S : SF p m c code 4 s #[Value.ref b] RL := ⟨hx, hb, hml, hown, fun w h => hts w (wT_lw h)⟩
  refine lv_aload_n hx hb dL_law_620 rfl (lvA1 hl) ?_
  refine lv_aload_n hx hb dL_law_621 rfl (lvA0 hl) ?_
  refine lv_iload_n hx hb dL_law_622 rfl (lvA3 hl) ?_
  refine lv_iconst (v := 1) hx hb dL_law_623 kic_1 ?_
  refine lv_iadd hx hb dL_law_624 ?_
  refine lv_topi (fun y_1 ey_1 => ?_)
  obtain rfl : y_1 = nI (i + 1) := ey_1.trans (nI_add i 1)
  refine va_sld hx hb hX hbl hbA hS (vp_in_nI (by omega) (by omega)) dL_law_625 ?_
  refine lv_topi (fun y_2 ey_2 => ?_)
  obtain rfl : y_2 = xs (nI (i + 1)).toNatClampNeg := ey_2
  have hFc := free_all (exD hD) hS hA
  refine va_calli (runV_xa (As := [.int (xs (nI (i + 1)).toNatClampNeg)]) (rest := []) S (q_Xpence l D cI cB cZ zz qq vv bt g ad cn In Fn (xs (nI (i + 1)).toNatClampNeg) H.size hI.1 hI.2.1 hI.2.2.1) kV_RL_52 hK hXS hS hFc (exP hP) (exD hD) 0 xo_0 rfl rfl ⟨Nat.le_of_ble_eq_true rfl, Nat.le_of_ble_eq_true rfl⟩ ⟨(by show K + 0 ≤ 600000; omega), (by show N + 0 ≤ 7302250; omega)⟩ rfl hl.1 rfl (Nat.le_of_ble_eq_true rfl) dL_law_626) hS (fun q _ h => hFc q h) hFc (fun r2 u t H1 locs ht hvm w2 hB1 hz1 hk1 hS => ?_)
  obtain ⟨c2, I2, F2⟩ := u
  obtain ⟨hP1, hD1⟩ := hB1
  rw [ht] at hP1
  obtain ⟨hP, hD⟩ := exjoinL hP hD hk1 hFc hP1 hD1
  generalize H1 = H at hP hS ⊢
  have hd2 := w2.1.1
  have hf2 := w2.1.2.2
  have hI := IX.fr hI w2.1 w2.2.1 (by decide) (by decide)
  have hR := RR.fx hR hd2 hf2 (by decide) (by decide)
  refine lv_pop hx hb dL_law_629 rfl ?_
  refine lv_aload_n hx hb dL_law_630 rfl (lvA2 hl) ?_
  refine lv_aload_n hx hb dL_law_631 rfl (lvA0 hl) ?_
  refine lv_iload_n hx hb dL_law_632 rfl (lvA3 hl) ?_
  refine lv_iconst (v := 1) hx hb dL_law_633 kic_1 ?_
  refine lv_iadd hx hb dL_law_634 ?_
  refine lv_topi (fun y_4 ey_4 => ?_)
  obtain rfl : y_4 = nI (i + 1) := ey_4.trans (nI_add i 1)
  refine va_sld hx hb hX hbl hbA hS (vp_in_nI (by omega) (by omega)) dL_law_635 ?_
  refine lv_topi (fun y_5 ey_5 => ?_)
  obtain rfl : y_5 = xs (nI (i + 1)).toNatClampNeg := ey_5
  have hFc := free_all (exDr hD) hS hA
  refine va_calli (runV_a (As := [.int (xs (nI (i + 1)).toNatClampNeg)]) (rest := []) S (q_pence l D cI cB cZ g2 c3 I3 F3 (xs (nI (i + 1)).toNatClampNeg) H.size hM.1) kV_RL_55 hK (exPr hP) (exDr hD) 0 rfl rfl rfl ⟨Nat.le_of_ble_eq_true rfl, Nat.le_of_ble_eq_true rfl⟩ ⟨(by show K + 0 ≤ 600000; omega), (by show N + 0 ≤ 7302250; omega)⟩ rfl hl.1 rfl (Nat.le_of_ble_eq_true rfl) dL_law_636) hS (fun q _ h => hFc q h) hFc (fun r5 u t H1 locs ht hvm w5 hB1 hz1 hk1 hS => ?_)
  obtain ⟨c5, I5, F5⟩ := u
  obtain ⟨hP1, hD1⟩ := hB1
  rw [ht] at hP1
  obtain ⟨hP, hD⟩ := exjoin hP hD hk1 hFc hP1 hD1
  generalize H1 = H at hP hS ⊢
  obtain ⟨hM, hd5, hf5⟩ := imm_pence hM w5
  have hR := RR.fm hR hd5 hf5 (by decide) (by decide)
  refine lv_pop hx hb dL_law_639 rfl ?_
  refine lv_goto (tgt := 2269) hx hb dL_law_640 rfl ?_
  refine W.widen (k := K + 8) (n := N + 240) (by omega) (by omega) ?_
  exact kk _ _ _ _ _ _ _ _ _ hI hM hR hP hD hS ls hl
set_option maxRecDepth 100000 in
set_option maxHeartbeats 4000000 in
theorem lawc_9 {p : Program} {l : Launch} {e : Env} {s : State} {m : MethodId} {below : List Frame} {meth : Method} {c : Code} {b L : Nat} {xs : Nat → Int32} (C0 : lw_At p s m meth c b L xs) (hLN : L ≤ 3584) {A : Nat → Prop} (hA : ∀ q : Nat, s.heap.size ≤ q → A q) (hbA : ¬ A b) {D : va_G} {cI cB cZ : ClassId} {zz qq vv : Nat} {bt : Nat → Int32} {g g2 : Nat → Nat} (hK : KK D cI cB cZ s) (hXS : XS D zz qq vv bt A s s.heap) {ad : Nat → Nat → Nat} {cn : Nat → Nat} {In : Nat → Int32} {Fn : Nat → Nat → Int32} {c3 : Nat → Nat} {I3 : Nat → Int32} {F3 : Nat → Nat → Int32} (hI : IX ad cn Fn) (hM : IMM c3 F3) (hR : RR cn Fn c3 F3) {H : Heap} {locs : List Loc} (hP : va_P D vwCl (wX cI (D.1 99) zz g ad cn In Fn ++ wM cI cB cZ g2 c3 I3 F3) H) (hD : va_D A (wX cI (D.1 99) zz g ad cn In Fn ++ wM cI cB cZ g2 c3 I3 F3)) (hS : va_S A s.heap H locs) {K N i : Nat} (hi : i + 7 ≤ L) (hKN : K + 8 ≤ 600000 ∧ N + 240 ≤ 7302250) {ls : Array Slot} (hl : lv_has ls 4 [(0, .ref b), (1, .ref (g 0)), (2, .ref (g2 100)), (3, .int (nI i))]) (kk : ∀ (ad : Nat → Nat → Nat) (cn : Nat → Nat) (In : Nat → Int32) (Fn : Nat → Nat → Int32) (c3 : Nat → Nat) (I3 : Nat → Int32) (F3 : Nat → Nat → Int32) (H : Heap) (locs : List Loc), IX ad cn Fn → IMM c3 F3 → RR cn Fn c3 F3 → va_P D vwCl (wX cI (D.1 99) zz g ad cn In Fn ++ wM cI cB cZ g2 c3 I3 F3) H → va_D A (wX cI (D.1 99) zz g ad cn In Fn ++ wM cI cB cZ g2 c3 I3 F3) → va_S A s.heap H locs → ∀ ls : Array Slot, lv_has ls 4 [(0, .ref b), (1, .ref (g 0)), (2, .ref (g2 100)), (3, .int (nI i))] → W p l e room_1 s m #[Value.ref b] below meth c H locs (K + 8) (N + 240) (lw_Z below #[Value.ref b] s) (F0 m 2269 ls [])) : W p l e room_1 s m #[Value.ref b] below meth c H locs K N (lw_Z below #[Value.ref b] s) (F0 m 643 ls []) := by
  obtain ⟨hx, hb, hr, hml, hown, hts, hX, hbl, hlocks, hgv⟩ := id C0
  have S : SF p m c code 4 s #[Value.ref b] RL := ⟨hx, hb, hml, hown, fun w h => hts w (wT_lw h)⟩
  refine lv_aload_n hx hb dL_law_643 rfl (lvA1 hl) ?_
  refine lv_aload_n hx hb dL_law_644 rfl (lvA0 hl) ?_
  refine lv_iload_n hx hb dL_law_645 rfl (lvA3 hl) ?_
  refine lv_iconst (v := 1) hx hb dL_law_646 kic_1 ?_
  refine lv_iadd hx hb dL_law_647 ?_
  refine lv_topi (fun y_1 ey_1 => ?_)
  obtain rfl : y_1 = nI (i + 1) := ey_1.trans (nI_add i 1)
  refine va_sld hx hb hX hbl hbA hS (vp_in_nI (by omega) (by omega)) dL_law_648 ?_
  refine lv_topi (fun y_2 ey_2 => ?_)
  obtain rfl : y_2 = xs (nI (i + 1)).toNatClampNeg := ey_2
  refine lv_aload_n hx hb dL_law_649 rfl (lvA0 hl) ?_
  refine lv_iload_n hx hb dL_law_650 rfl (lvA3 hl) ?_
  refine lv_iconst (v := 2) hx hb dL_law_651 kic_2 ?_
  refine lv_iadd hx hb dL_law_652 ?_
  refine lv_topi (fun y_3 ey_3 => ?_)
  obtain rfl : y_3 = nI (i + 2) := ey_3.trans (nI_add i 2)
  refine va_sld hx hb hX hbl hbA hS (vp_in_nI (by omega) (by omega)) dL_law_653 ?_
  refine lv_topi (fun y_4 ey_4 => ?_)
  obtain rfl : y_4 = xs (nI (i + 2)).toNatClampNeg := ey_4
  have hFc := free_all (exD hD) hS hA
  refine va_calli (runV_xa (As := [.int (xs (nI (i + 1)).toNatClampNeg), .int (xs (nI (i + 2)).toNatClampNeg)]) (rest := []) S (q_Xpaid l D cI cB cZ zz qq vv bt g ad cn In Fn (xs (nI (i + 1)).toNatClampNeg) (xs (nI (i + 2)).toNatClampNeg) H.size hI.1 hI.2.1 hI.2.2.1) kV_RL_56 hK hXS hS hFc (exP hP) (exD hD) 0 xo_0 rfl rfl ⟨Nat.le_of_ble_eq_true rfl, Nat.le_of_ble_eq_true rfl⟩ ⟨(by show K + 0 ≤ 600000; omega), (by show N + 0 ≤ 7302250; omega)⟩ rfl hl.1 rfl (Nat.le_of_ble_eq_true rfl) dL_law_654) hS (fun q _ h => hFc q h) hFc (fun r4 u t H1 locs ht hvm w4 hB1 hz1 hk1 hS => ?_)
  obtain ⟨c4, I4, F4⟩ := u
  obtain ⟨hP1, hD1⟩ := hB1
  rw [ht] at hP1
  obtain ⟨hP, hD⟩ := exjoinL hP hD hk1 hFc hP1 hD1
  generalize H1 = H at hP hS ⊢
  have hd4 := w4.1.1
  have hf4 := w4.1.2.2
  have hI := IX.fr hI w4.1 w4.2.1 (by decide) (by decide)
  have hR := RR.fx hR hd4 hf4 (by decide) (by decide)
  refine lv_pop hx hb dL_law_657 rfl ?_
  refine lv_aload_n hx hb dL_law_658 rfl (lvA2 hl) ?_
  refine lv_aload_n hx hb dL_law_659 rfl (lvA0 hl) ?_
  refine lv_iload_n hx hb dL_law_660 rfl (lvA3 hl) ?_
  refine lv_iconst (v := 1) hx hb dL_law_661 kic_1 ?_
  refine lv_iadd hx hb dL_law_662 ?_
  refine lv_topi (fun y_6 ey_6 => ?_)
  obtain rfl : y_6 = nI (i + 1) := ey_6.trans (nI_add i 1)
  refine va_sld hx hb hX hbl hbA hS (vp_in_nI (by omega) (by omega)) dL_law_663 ?_
  refine lv_topi (fun y_7 ey_7 => ?_)
  obtain rfl : y_7 = xs (nI (i + 1)).toNatClampNeg := ey_7
  refine lv_aload_n hx hb dL_law_664 rfl (lvA0 hl) ?_
  refine lv_iload_n hx hb dL_law_665 rfl (lvA3 hl) ?_
  refine lv_iconst (v := 2) hx hb dL_law_666 kic_2 ?_
  refine lv_iadd hx hb dL_law_667 ?_
  refine lv_topi (fun y_8 ey_8 => ?_)
  obtain rfl : y_8 = nI (i + 2) := ey_8.trans (nI_add i 2)
  refine va_sld hx hb hX hbl hbA hS (vp_in_nI (by omega) (by omega)) dL_law_668 ?_
  refine lv_topi (fun y_9 ey_9 => ?_)
  obtain rfl : y_9 = xs (nI (i + 2)).toNatClampNeg := ey_9
  have hFc := free_all (exDr hD) hS hA
  refine va_calli (runV_a (As := [.int (xs (nI (i + 1)).toNatClampNeg), .int (xs (nI (i + 2)).toNatClampNeg)]) (rest := []) S (q_paid l D cI cB cZ g2 c3 I3 F3 (xs (nI (i + 1)).toNatClampNeg) (xs (nI (i + 2)).toNatClampNeg) H.size hM.1) kV_RL_59 hK (exPr hP) (exDr hD) 0 rfl rfl rfl ⟨Nat.le_of_ble_eq_true rfl, Nat.le_of_ble_eq_true rfl⟩ ⟨(by show K + 0 ≤ 600000; omega), (by show N + 0 ≤ 7302250; omega)⟩ rfl hl.1 rfl (Nat.le_of_ble_eq_true rfl) dL_law_669) hS (fun q _ h => hFc q h) hFc (fun r9 u t H1 locs ht hvm w9 hB1 hz1 hk1 hS => ?_)
  obtain ⟨c9, I9, F9⟩ := u
  obtain ⟨hP1, hD1⟩ := hB1
  rw [ht] at hP1
  obtain ⟨hP, hD⟩ := exjoin hP hD hk1 hFc hP1 hD1
  generalize H1 = H at hP hS ⊢
  obtain ⟨hM, hd9, hf9⟩ := imm_paid hM w9
  have hR := RR.fm hR hd9 hf9 (by decide) (by decide)
  refine lv_pop hx hb dL_law_672 rfl ?_
  refine lv_goto (tgt := 2269) hx hb dL_law_673 rfl ?_
  refine W.widen (k := K + 8) (n := N + 240) (by omega) (by omega) ?_
  exact kk _ _ _ _ _ _ _ _ _ hI hM hR hP hD hS ls hl
set_option maxRecDepth 100000 in
set_option maxHeartbeats 4000000 in
theorem lawc_10 {p : Program} {l : Launch} {e : Env} {s : State} {m : MethodId} {below : List Frame} {meth : Method} {c : Code} {b L : Nat} {xs : Nat → Int32} (C0 : lw_At p s m meth c b L xs) (hLN : L ≤ 3584) {A : Nat → Prop} (hA : ∀ q : Nat, s.heap.size ≤ q → A q) (hbA : ¬ A b) {D : va_G} {cI cB cZ : ClassId} {zz qq vv : Nat} {bt : Nat → Int32} {g g2 : Nat → Nat} (hK : KK D cI cB cZ s) (hXS : XS D zz qq vv bt A s s.heap) {ad : Nat → Nat → Nat} {cn : Nat → Nat} {In : Nat → Int32} {Fn : Nat → Nat → Int32} {c3 : Nat → Nat} {I3 : Nat → Int32} {F3 : Nat → Nat → Int32} (hI : IX ad cn Fn) (hM : IMM c3 F3) (hR : RR cn Fn c3 F3) {H : Heap} {locs : List Loc} (hP : va_P D vwCl (wX cI (D.1 99) zz g ad cn In Fn ++ wM cI cB cZ g2 c3 I3 F3) H) (hD : va_D A (wX cI (D.1 99) zz g ad cn In Fn ++ wM cI cB cZ g2 c3 I3 F3)) (hS : va_S A s.heap H locs) {K N i : Nat} (hi : i + 7 ≤ L) (hKN : K + 8 ≤ 600000 ∧ N + 240 ≤ 7302250) {ls : Array Slot} (hl : lv_has ls 4 [(0, .ref b), (1, .ref (g 0)), (2, .ref (g2 100)), (3, .int (nI i))]) (kk : ∀ (ad : Nat → Nat → Nat) (cn : Nat → Nat) (In : Nat → Int32) (Fn : Nat → Nat → Int32) (c3 : Nat → Nat) (I3 : Nat → Int32) (F3 : Nat → Nat → Int32) (H : Heap) (locs : List Loc), IX ad cn Fn → IMM c3 F3 → RR cn Fn c3 F3 → va_P D vwCl (wX cI (D.1 99) zz g ad cn In Fn ++ wM cI cB cZ g2 c3 I3 F3) H → va_D A (wX cI (D.1 99) zz g ad cn In Fn ++ wM cI cB cZ g2 c3 I3 F3) → va_S A s.heap H locs → ∀ ls : Array Slot, lv_has ls 4 [(0, .ref b), (1, .ref (g 0)), (2, .ref (g2 100)), (3, .int (nI i))] → W p l e room_1 s m #[Value.ref b] below meth c H locs (K + 8) (N + 240) (lw_Z below #[Value.ref b] s) (F0 m 2269 ls [])) : W p l e room_1 s m #[Value.ref b] below meth c H locs K N (lw_Z below #[Value.ref b] s) (F0 m 676 ls []) := by
  obtain ⟨hx, hb, hr, hml, hown, hts, hX, hbl, hlocks, hgv⟩ := id C0
  have S : SF p m c code 4 s #[Value.ref b] RL := ⟨hx, hb, hml, hown, fun w h => hts w (wT_lw h)⟩
  refine lv_aload_n hx hb dL_law_676 rfl (lvA1 hl) ?_
  refine lv_aload_n hx hb dL_law_677 rfl (lvA0 hl) ?_
  refine lv_iload_n hx hb dL_law_678 rfl (lvA3 hl) ?_
  refine lv_iconst (v := 1) hx hb dL_law_679 kic_1 ?_
  refine lv_iadd hx hb dL_law_680 ?_
  refine lv_topi (fun y_1 ey_1 => ?_)
  obtain rfl : y_1 = nI (i + 1) := ey_1.trans (nI_add i 1)
  refine va_sld hx hb hX hbl hbA hS (vp_in_nI (by omega) (by omega)) dL_law_681 ?_
  refine lv_topi (fun y_2 ey_2 => ?_)
  obtain rfl : y_2 = xs (nI (i + 1)).toNatClampNeg := ey_2
  refine vp_callSi (runV_rxa (As := [.int (xs (nI (i + 1)).toNatClampNeg)]) (rest := []) S (q_Xmissing l D cI cB cZ zz qq vv bt g ad cn In Fn (xs (nI (i + 1)).toNatClampNeg) hI.1) kV_RL_60 hK hXS hS (exP hP) 0 xo_0 rfl rfl ⟨Nat.le_of_ble_eq_true rfl, Nat.le_of_ble_eq_true rfl⟩ ⟨(by show K + 0 ≤ 600000; omega), (by show N + 0 ≤ 7302250; omega)⟩ rfl hl.1 rfl (Nat.le_of_ble_eq_true rfl) dL_law_682) (fun r2 w2 => ?_)
  refine lv_pop hx hb dL_law_685 rfl ?_
  refine lv_aload_n hx hb dL_law_686 rfl (lvA2 hl) ?_
  refine lv_aload_n hx hb dL_law_687 rfl (lvA0 hl) ?_
  refine lv_iload_n hx hb dL_law_688 rfl (lvA3 hl) ?_
  refine lv_iconst (v := 1) hx hb dL_law_689 kic_1 ?_
  refine lv_iadd hx hb dL_law_690 ?_
  refine lv_topi (fun y_4 ey_4 => ?_)
  obtain rfl : y_4 = nI (i + 1) := ey_4.trans (nI_add i 1)
  refine va_sld hx hb hX hbl hbA hS (vp_in_nI (by omega) (by omega)) dL_law_691 ?_
  refine lv_topi (fun y_5 ey_5 => ?_)
  obtain rfl : y_5 = xs (nI (i + 1)).toNatClampNeg := ey_5
  refine vp_callSi (runV_ra (As := [.int (xs (nI (i + 1)).toNatClampNeg)]) (rest := []) S (q_missing l D cI cB cZ g2 c3 I3 F3 (xs (nI (i + 1)).toNatClampNeg) hM.1) kV_RL_63 hK (exPr hP) 0 rfl rfl rfl ⟨Nat.le_of_ble_eq_true rfl, Nat.le_of_ble_eq_true rfl⟩ ⟨(by show K + 0 ≤ 600000; omega), (by show N + 0 ≤ 7302250; omega)⟩ rfl hl.1 rfl (Nat.le_of_ble_eq_true rfl) dL_law_692) (fun r5 w5 => ?_)
  refine lv_pop hx hb dL_law_695 rfl ?_
  refine lv_goto (tgt := 2269) hx hb dL_law_696 rfl ?_
  refine W.widen (k := K + 8) (n := N + 240) (by omega) (by omega) ?_
  exact kk _ _ _ _ _ _ _ _ _ hI hM hR hP hD hS ls hl
set_option maxRecDepth 100000 in
set_option maxHeartbeats 4000000 in
theorem lawc_11 {p : Program} {l : Launch} {e : Env} {s : State} {m : MethodId} {below : List Frame} {meth : Method} {c : Code} {b L : Nat} {xs : Nat → Int32} (C0 : lw_At p s m meth c b L xs) (hLN : L ≤ 3584) {A : Nat → Prop} (hA : ∀ q : Nat, s.heap.size ≤ q → A q) (hbA : ¬ A b) {D : va_G} {cI cB cZ : ClassId} {zz qq vv : Nat} {bt : Nat → Int32} {g g2 : Nat → Nat} (hK : KK D cI cB cZ s) (hXS : XS D zz qq vv bt A s s.heap) {ad : Nat → Nat → Nat} {cn : Nat → Nat} {In : Nat → Int32} {Fn : Nat → Nat → Int32} {c3 : Nat → Nat} {I3 : Nat → Int32} {F3 : Nat → Nat → Int32} (hI : IX ad cn Fn) (hM : IMM c3 F3) (hR : RR cn Fn c3 F3) {H : Heap} {locs : List Loc} (hP : va_P D vwCl (wX cI (D.1 99) zz g ad cn In Fn ++ wM cI cB cZ g2 c3 I3 F3) H) (hD : va_D A (wX cI (D.1 99) zz g ad cn In Fn ++ wM cI cB cZ g2 c3 I3 F3)) (hS : va_S A s.heap H locs) {K N i : Nat} (hi : i + 7 ≤ L) (hKN : K + 8 ≤ 600000 ∧ N + 240 ≤ 7302250) {ls : Array Slot} (hl : lv_has ls 4 [(0, .ref b), (1, .ref (g 0)), (2, .ref (g2 100)), (3, .int (nI i))]) (kk : ∀ (ad : Nat → Nat → Nat) (cn : Nat → Nat) (In : Nat → Int32) (Fn : Nat → Nat → Int32) (c3 : Nat → Nat) (I3 : Nat → Int32) (F3 : Nat → Nat → Int32) (H : Heap) (locs : List Loc), IX ad cn Fn → IMM c3 F3 → RR cn Fn c3 F3 → va_P D vwCl (wX cI (D.1 99) zz g ad cn In Fn ++ wM cI cB cZ g2 c3 I3 F3) H → va_D A (wX cI (D.1 99) zz g ad cn In Fn ++ wM cI cB cZ g2 c3 I3 F3) → va_S A s.heap H locs → ∀ ls : Array Slot, lv_has ls 4 [(0, .ref b), (1, .ref (g 0)), (2, .ref (g2 100)), (3, .int (nI i))] → W p l e room_1 s m #[Value.ref b] below meth c H locs (K + 8) (N + 240) (lw_Z below #[Value.ref b] s) (F0 m 2269 ls [])) : W p l e room_1 s m #[Value.ref b] below meth c H locs K N (lw_Z below #[Value.ref b] s) (F0 m 699 ls []) := by
  obtain ⟨hx, hb, hr, hml, hown, hts, hX, hbl, hlocks, hgv⟩ := id C0
  have S : SF p m c code 4 s #[Value.ref b] RL := ⟨hx, hb, hml, hown, fun w h => hts w (wT_lw h)⟩
  refine lv_aload_n hx hb dL_law_699 rfl (lvA1 hl) ?_
  refine lv_aload_n hx hb dL_law_700 rfl (lvA0 hl) ?_
  refine lv_iload_n hx hb dL_law_701 rfl (lvA3 hl) ?_
  refine lv_iconst (v := 1) hx hb dL_law_702 kic_1 ?_
  refine lv_iadd hx hb dL_law_703 ?_
  refine lv_topi (fun y_1 ey_1 => ?_)
  obtain rfl : y_1 = nI (i + 1) := ey_1.trans (nI_add i 1)
  refine va_sld hx hb hX hbl hbA hS (vp_in_nI (by omega) (by omega)) dL_law_704 ?_
  refine lv_topi (fun y_2 ey_2 => ?_)
  obtain rfl : y_2 = xs (nI (i + 1)).toNatClampNeg := ey_2
  refine lv_aload_n hx hb dL_law_705 rfl (lvA0 hl) ?_
  refine lv_iload_n hx hb dL_law_706 rfl (lvA3 hl) ?_
  refine lv_iconst (v := 2) hx hb dL_law_707 kic_2 ?_
  refine lv_iadd hx hb dL_law_708 ?_
  refine lv_topi (fun y_3 ey_3 => ?_)
  obtain rfl : y_3 = nI (i + 2) := ey_3.trans (nI_add i 2)
  refine va_sld hx hb hX hbl hbA hS (vp_in_nI (by omega) (by omega)) dL_law_709 ?_
  refine lv_topi (fun y_4 ey_4 => ?_)
  obtain rfl : y_4 = xs (nI (i + 2)).toNatClampNeg := ey_4
  refine vp_callSl (runV_rxa (As := [.int (xs (nI (i + 1)).toNatClampNeg), .int (xs (nI (i + 2)).toNatClampNeg)]) (rest := []) S (q_Xbeyond l D cI cB cZ zz qq vv bt g ad cn In Fn (xs (nI (i + 1)).toNatClampNeg) (xs (nI (i + 2)).toNatClampNeg) hI.1) kV_RL_64 hK hXS hS (exP hP) 0 xo_0 rfl rfl ⟨Nat.le_of_ble_eq_true rfl, Nat.le_of_ble_eq_true rfl⟩ ⟨(by show K + 0 ≤ 600000; omega), (by show N + 0 ≤ 7302250; omega)⟩ rfl hl.1 rfl (Nat.le_of_ble_eq_true rfl) dL_law_710) (fun r4 w4 => ?_)
  refine lv_pop2_2 hx hb dL_law_713 rfl ?_
  refine lv_aload_n hx hb dL_law_714 rfl (lvA2 hl) ?_
  refine lv_aload_n hx hb dL_law_715 rfl (lvA0 hl) ?_
  refine lv_iload_n hx hb dL_law_716 rfl (lvA3 hl) ?_
  refine lv_iconst (v := 1) hx hb dL_law_717 kic_1 ?_
  refine lv_iadd hx hb dL_law_718 ?_
  refine lv_topi (fun y_6 ey_6 => ?_)
  obtain rfl : y_6 = nI (i + 1) := ey_6.trans (nI_add i 1)
  refine va_sld hx hb hX hbl hbA hS (vp_in_nI (by omega) (by omega)) dL_law_719 ?_
  refine lv_topi (fun y_7 ey_7 => ?_)
  obtain rfl : y_7 = xs (nI (i + 1)).toNatClampNeg := ey_7
  refine lv_aload_n hx hb dL_law_720 rfl (lvA0 hl) ?_
  refine lv_iload_n hx hb dL_law_721 rfl (lvA3 hl) ?_
  refine lv_iconst (v := 2) hx hb dL_law_722 kic_2 ?_
  refine lv_iadd hx hb dL_law_723 ?_
  refine lv_topi (fun y_8 ey_8 => ?_)
  obtain rfl : y_8 = nI (i + 2) := ey_8.trans (nI_add i 2)
  refine va_sld hx hb hX hbl hbA hS (vp_in_nI (by omega) (by omega)) dL_law_724 ?_
  refine lv_topi (fun y_9 ey_9 => ?_)
  obtain rfl : y_9 = xs (nI (i + 2)).toNatClampNeg := ey_9
  refine vp_callSl (runV_ra (As := [.int (xs (nI (i + 1)).toNatClampNeg), .int (xs (nI (i + 2)).toNatClampNeg)]) (rest := []) S (q_beyond l D cI cB cZ g2 c3 I3 F3 (xs (nI (i + 1)).toNatClampNeg) (xs (nI (i + 2)).toNatClampNeg) hM.1) kV_RL_68 hK (exPr hP) 0 rfl rfl rfl ⟨Nat.le_of_ble_eq_true rfl, Nat.le_of_ble_eq_true rfl⟩ ⟨(by show K + 0 ≤ 600000; omega), (by show N + 0 ≤ 7302250; omega)⟩ rfl hl.1 rfl (Nat.le_of_ble_eq_true rfl) dL_law_725) (fun r9 w9 => ?_)
  refine lv_pop2_2 hx hb dL_law_728 rfl ?_
  refine lv_goto (tgt := 2269) hx hb dL_law_729 rfl ?_
  refine W.widen (k := K + 8) (n := N + 240) (by omega) (by omega) ?_
  exact kk _ _ _ _ _ _ _ _ _ hI hM hR hP hD hS ls hl
set_option maxRecDepth 100000 in
set_option maxHeartbeats 4000000 in
theorem lawc_12 {p : Program} {l : Launch} {e : Env} {s : State} {m : MethodId} {below : List Frame} {meth : Method} {c : Code} {b L : Nat} {xs : Nat → Int32} (C0 : lw_At p s m meth c b L xs) (hLN : L ≤ 3584) {A : Nat → Prop} (hA : ∀ q : Nat, s.heap.size ≤ q → A q) (hbA : ¬ A b) {D : va_G} {cI cB cZ : ClassId} {zz qq vv : Nat} {bt : Nat → Int32} {g g2 : Nat → Nat} (hK : KK D cI cB cZ s) (hXS : XS D zz qq vv bt A s s.heap) {ad : Nat → Nat → Nat} {cn : Nat → Nat} {In : Nat → Int32} {Fn : Nat → Nat → Int32} {c3 : Nat → Nat} {I3 : Nat → Int32} {F3 : Nat → Nat → Int32} (hI : IX ad cn Fn) (hM : IMM c3 F3) (hR : RR cn Fn c3 F3) {H : Heap} {locs : List Loc} (hP : va_P D vwCl (wX cI (D.1 99) zz g ad cn In Fn ++ wM cI cB cZ g2 c3 I3 F3) H) (hD : va_D A (wX cI (D.1 99) zz g ad cn In Fn ++ wM cI cB cZ g2 c3 I3 F3)) (hS : va_S A s.heap H locs) {K N i : Nat} (hi : i + 7 ≤ L) (hKN : K + 8 ≤ 600000 ∧ N + 240 ≤ 7302250) {ls : Array Slot} (hl : lv_has ls 4 [(0, .ref b), (1, .ref (g 0)), (2, .ref (g2 100)), (3, .int (nI i))]) (kk : ∀ (ad : Nat → Nat → Nat) (cn : Nat → Nat) (In : Nat → Int32) (Fn : Nat → Nat → Int32) (c3 : Nat → Nat) (I3 : Nat → Int32) (F3 : Nat → Nat → Int32) (H : Heap) (locs : List Loc), IX ad cn Fn → IMM c3 F3 → RR cn Fn c3 F3 → va_P D vwCl (wX cI (D.1 99) zz g ad cn In Fn ++ wM cI cB cZ g2 c3 I3 F3) H → va_D A (wX cI (D.1 99) zz g ad cn In Fn ++ wM cI cB cZ g2 c3 I3 F3) → va_S A s.heap H locs → ∀ ls : Array Slot, lv_has ls 4 [(0, .ref b), (1, .ref (g 0)), (2, .ref (g2 100)), (3, .int (nI i))] → W p l e room_1 s m #[Value.ref b] below meth c H locs (K + 8) (N + 240) (lw_Z below #[Value.ref b] s) (F0 m 2269 ls [])) : W p l e room_1 s m #[Value.ref b] below meth c H locs K N (lw_Z below #[Value.ref b] s) (F0 m 732 ls []) := by
  obtain ⟨hx, hb, hr, hml, hown, hts, hX, hbl, hlocks, hgv⟩ := id C0
  have S : SF p m c code 4 s #[Value.ref b] RL := ⟨hx, hb, hml, hown, fun w h => hts w (wT_lw h)⟩
  refine lv_aload_n hx hb dL_law_732 rfl (lvA1 hl) ?_
  refine lv_aload_n hx hb dL_law_733 rfl (lvA0 hl) ?_
  refine lv_iload_n hx hb dL_law_734 rfl (lvA3 hl) ?_
  refine lv_iconst (v := 1) hx hb dL_law_735 kic_1 ?_
  refine lv_iadd hx hb dL_law_736 ?_
  refine lv_topi (fun y_1 ey_1 => ?_)
  obtain rfl : y_1 = nI (i + 1) := ey_1.trans (nI_add i 1)
  refine va_sld hx hb hX hbl hbA hS (vp_in_nI (by omega) (by omega)) dL_law_737 ?_
  refine lv_topi (fun y_2 ey_2 => ?_)
  obtain rfl : y_2 = xs (nI (i + 1)).toNatClampNeg := ey_2
  refine lv_aload_n hx hb dL_law_738 rfl (lvA0 hl) ?_
  refine lv_iload_n hx hb dL_law_739 rfl (lvA3 hl) ?_
  refine lv_iconst (v := 2) hx hb dL_law_740 kic_2 ?_
  refine lv_iadd hx hb dL_law_741 ?_
  refine lv_topi (fun y_3 ey_3 => ?_)
  obtain rfl : y_3 = nI (i + 2) := ey_3.trans (nI_add i 2)
  refine va_sld hx hb hX hbl hbA hS (vp_in_nI (by omega) (by omega)) dL_law_742 ?_
  refine lv_topi (fun y_4 ey_4 => ?_)
  obtain rfl : y_4 = xs (nI (i + 2)).toNatClampNeg := ey_4
  refine lv_aload_n hx hb dL_law_743 rfl (lvA0 hl) ?_
  refine lv_iload_n hx hb dL_law_744 rfl (lvA3 hl) ?_
  refine lv_iconst (v := 3) hx hb dL_law_745 kic_3 ?_
  refine lv_iadd hx hb dL_law_746 ?_
  refine lv_topi (fun y_5 ey_5 => ?_)
  obtain rfl : y_5 = nI (i + 3) := ey_5.trans (nI_add i 3)
  refine va_sld hx hb hX hbl hbA hS (vp_in_nI (by omega) (by omega)) dL_law_747 ?_
  refine lv_topi (fun y_6 ey_6 => ?_)
  obtain rfl : y_6 = xs (nI (i + 3)).toNatClampNeg := ey_6
  have hFc := free_all (exD hD) hS hA
  refine va_calli (runV_xa (As := [.int (xs (nI (i + 1)).toNatClampNeg), .int (xs (nI (i + 2)).toNatClampNeg), .int (xs (nI (i + 3)).toNatClampNeg)]) (rest := []) S (q_Xround l D cI cB cZ zz qq vv bt g ad cn In Fn (xs (nI (i + 1)).toNatClampNeg) (xs (nI (i + 2)).toNatClampNeg) (xs (nI (i + 3)).toNatClampNeg) H.size hI.1) kV_RL_69 hK hXS hS hFc (exP hP) (exD hD) 0 xo_0 rfl rfl ⟨Nat.le_of_ble_eq_true rfl, Nat.le_of_ble_eq_true rfl⟩ ⟨(by show K + 0 ≤ 600000; omega), (by show N + 0 ≤ 7302250; omega)⟩ rfl hl.1 rfl (Nat.le_of_ble_eq_true rfl) dL_law_748) hS (fun q _ h => hFc q h) hFc (fun r6 u t H1 locs ht hvm w6 hB1 hz1 hk1 hS => ?_)
  obtain ⟨c6, I6, F6⟩ := u
  obtain ⟨hP1, hD1⟩ := hB1
  rw [ht] at hP1
  obtain ⟨hP, hD⟩ := exjoinL hP hD hk1 hFc hP1 hD1
  generalize H1 = H at hP hS ⊢
  have hd6 := w6.1.1
  have hf6 := w6.1.2.2
  have hI := IX.fr hI w6.1 w6.2.1 (by decide) (by decide)
  have hR := RR.fx hR hd6 hf6 (by decide) (by decide)
  refine lv_pop hx hb dL_law_751 rfl ?_
  refine lv_aload_n hx hb dL_law_752 rfl (lvA2 hl) ?_
  refine lv_aload_n hx hb dL_law_753 rfl (lvA0 hl) ?_
  refine lv_iload_n hx hb dL_law_754 rfl (lvA3 hl) ?_
  refine lv_iconst (v := 1) hx hb dL_law_755 kic_1 ?_
  refine lv_iadd hx hb dL_law_756 ?_
  refine lv_topi (fun y_8 ey_8 => ?_)
  obtain rfl : y_8 = nI (i + 1) := ey_8.trans (nI_add i 1)
  refine va_sld hx hb hX hbl hbA hS (vp_in_nI (by omega) (by omega)) dL_law_757 ?_
  refine lv_topi (fun y_9 ey_9 => ?_)
  obtain rfl : y_9 = xs (nI (i + 1)).toNatClampNeg := ey_9
  refine lv_aload_n hx hb dL_law_758 rfl (lvA0 hl) ?_
  refine lv_iload_n hx hb dL_law_759 rfl (lvA3 hl) ?_
  refine lv_iconst (v := 2) hx hb dL_law_760 kic_2 ?_
  refine lv_iadd hx hb dL_law_761 ?_
  refine lv_topi (fun y_10 ey_10 => ?_)
  obtain rfl : y_10 = nI (i + 2) := ey_10.trans (nI_add i 2)
  refine va_sld hx hb hX hbl hbA hS (vp_in_nI (by omega) (by omega)) dL_law_762 ?_
  refine lv_topi (fun y_11 ey_11 => ?_)
  obtain rfl : y_11 = xs (nI (i + 2)).toNatClampNeg := ey_11
  refine lv_aload_n hx hb dL_law_763 rfl (lvA0 hl) ?_
  refine lv_iload_n hx hb dL_law_764 rfl (lvA3 hl) ?_
  refine lv_iconst (v := 3) hx hb dL_law_765 kic_3 ?_
  refine lv_iadd hx hb dL_law_766 ?_
  refine lv_topi (fun y_12 ey_12 => ?_)
  obtain rfl : y_12 = nI (i + 3) := ey_12.trans (nI_add i 3)
  refine va_sld hx hb hX hbl hbA hS (vp_in_nI (by omega) (by omega)) dL_law_767 ?_
  refine lv_topi (fun y_13 ey_13 => ?_)
  obtain rfl : y_13 = xs (nI (i + 3)).toNatClampNeg := ey_13
  have hFc := free_all (exDr hD) hS hA
  refine va_calli (runV_a (As := [.int (xs (nI (i + 1)).toNatClampNeg), .int (xs (nI (i + 2)).toNatClampNeg), .int (xs (nI (i + 3)).toNatClampNeg)]) (rest := []) S (q_round l D cI cB cZ g2 c3 I3 F3 (xs (nI (i + 1)).toNatClampNeg) (xs (nI (i + 2)).toNatClampNeg) (xs (nI (i + 3)).toNatClampNeg) H.size hM.1) kV_RL_73 hK (exPr hP) (exDr hD) 0 rfl rfl rfl ⟨Nat.le_of_ble_eq_true rfl, Nat.le_of_ble_eq_true rfl⟩ ⟨(by show K + 0 ≤ 600000; omega), (by show N + 0 ≤ 7302250; omega)⟩ rfl hl.1 rfl (Nat.le_of_ble_eq_true rfl) dL_law_768) hS (fun q _ h => hFc q h) hFc (fun r13 u t H1 locs ht hvm w13 hB1 hz1 hk1 hS => ?_)
  obtain ⟨c13, I13, F13⟩ := u
  obtain ⟨hP1, hD1⟩ := hB1
  rw [ht] at hP1
  obtain ⟨hP, hD⟩ := exjoin hP hD hk1 hFc hP1 hD1
  generalize H1 = H at hP hS ⊢
  obtain ⟨hM, hd13, hf13⟩ := imm_round hM w13
  have hR := RR.fm hR hd13 hf13 (by decide) (by decide)
  refine lv_pop hx hb dL_law_771 rfl ?_
  refine lv_goto (tgt := 2269) hx hb dL_law_772 rfl ?_
  refine W.widen (k := K + 8) (n := N + 240) (by omega) (by omega) ?_
  exact kk _ _ _ _ _ _ _ _ _ hI hM hR hP hD hS ls hl
set_option maxRecDepth 100000 in
set_option maxHeartbeats 4000000 in
theorem lawc_13 {p : Program} {l : Launch} {e : Env} {s : State} {m : MethodId} {below : List Frame} {meth : Method} {c : Code} {b L : Nat} {xs : Nat → Int32} (C0 : lw_At p s m meth c b L xs) (hLN : L ≤ 3584) {A : Nat → Prop} (hA : ∀ q : Nat, s.heap.size ≤ q → A q) (hbA : ¬ A b) {D : va_G} {cI cB cZ : ClassId} {zz qq vv : Nat} {bt : Nat → Int32} {g g2 : Nat → Nat} (hK : KK D cI cB cZ s) (hXS : XS D zz qq vv bt A s s.heap) {ad : Nat → Nat → Nat} {cn : Nat → Nat} {In : Nat → Int32} {Fn : Nat → Nat → Int32} {c3 : Nat → Nat} {I3 : Nat → Int32} {F3 : Nat → Nat → Int32} (hI : IX ad cn Fn) (hM : IMM c3 F3) (hR : RR cn Fn c3 F3) {H : Heap} {locs : List Loc} (hP : va_P D vwCl (wX cI (D.1 99) zz g ad cn In Fn ++ wM cI cB cZ g2 c3 I3 F3) H) (hD : va_D A (wX cI (D.1 99) zz g ad cn In Fn ++ wM cI cB cZ g2 c3 I3 F3)) (hS : va_S A s.heap H locs) {K N i : Nat} (hi : i + 7 ≤ L) (hKN : K + 8 ≤ 600000 ∧ N + 240 ≤ 7302250) {ls : Array Slot} (hl : lv_has ls 4 [(0, .ref b), (1, .ref (g 0)), (2, .ref (g2 100)), (3, .int (nI i))]) (kk : ∀ (ad : Nat → Nat → Nat) (cn : Nat → Nat) (In : Nat → Int32) (Fn : Nat → Nat → Int32) (c3 : Nat → Nat) (I3 : Nat → Int32) (F3 : Nat → Nat → Int32) (H : Heap) (locs : List Loc), IX ad cn Fn → IMM c3 F3 → RR cn Fn c3 F3 → va_P D vwCl (wX cI (D.1 99) zz g ad cn In Fn ++ wM cI cB cZ g2 c3 I3 F3) H → va_D A (wX cI (D.1 99) zz g ad cn In Fn ++ wM cI cB cZ g2 c3 I3 F3) → va_S A s.heap H locs → ∀ ls : Array Slot, lv_has ls 4 [(0, .ref b), (1, .ref (g 0)), (2, .ref (g2 100)), (3, .int (nI i))] → W p l e room_1 s m #[Value.ref b] below meth c H locs (K + 8) (N + 240) (lw_Z below #[Value.ref b] s) (F0 m 2269 ls [])) : W p l e room_1 s m #[Value.ref b] below meth c H locs K N (lw_Z below #[Value.ref b] s) (F0 m 775 ls []) := by
  obtain ⟨hx, hb, hr, hml, hown, hts, hX, hbl, hlocks, hgv⟩ := id C0
  have S : SF p m c code 4 s #[Value.ref b] RL := ⟨hx, hb, hml, hown, fun w h => hts w (wT_lw h)⟩
  refine lv_aload_n hx hb dL_law_775 rfl (lvA1 hl) ?_
  refine lv_aload_n hx hb dL_law_776 rfl (lvA0 hl) ?_
  refine lv_iload_n hx hb dL_law_777 rfl (lvA3 hl) ?_
  refine lv_iconst (v := 1) hx hb dL_law_778 kic_1 ?_
  refine lv_iadd hx hb dL_law_779 ?_
  refine lv_topi (fun y_1 ey_1 => ?_)
  obtain rfl : y_1 = nI (i + 1) := ey_1.trans (nI_add i 1)
  refine va_sld hx hb hX hbl hbA hS (vp_in_nI (by omega) (by omega)) dL_law_780 ?_
  refine lv_topi (fun y_2 ey_2 => ?_)
  obtain rfl : y_2 = xs (nI (i + 1)).toNatClampNeg := ey_2
  have hFc := free_all (exD hD) hS hA
  refine va_calli (runV_xa (As := [.int (xs (nI (i + 1)).toNatClampNeg)]) (rest := []) S (q_Xdriven l D cI cB cZ zz qq vv bt g ad cn In Fn (xs (nI (i + 1)).toNatClampNeg) H.size hI.1) kV_RL_74 hK hXS hS hFc (exP hP) (exD hD) 0 xo_0 rfl rfl ⟨Nat.le_of_ble_eq_true rfl, Nat.le_of_ble_eq_true rfl⟩ ⟨(by show K + 0 ≤ 600000; omega), (by show N + 0 ≤ 7302250; omega)⟩ rfl hl.1 rfl (Nat.le_of_ble_eq_true rfl) dL_law_781) hS (fun q _ h => hFc q h) hFc (fun r2 u t H1 locs ht hvm w2 hB1 hz1 hk1 hS => ?_)
  obtain ⟨c2, I2, F2⟩ := u
  obtain ⟨hP1, hD1⟩ := hB1
  rw [ht] at hP1
  obtain ⟨hP, hD⟩ := exjoinL hP hD hk1 hFc hP1 hD1
  generalize H1 = H at hP hS ⊢
  have hd2 := w2.1.1
  have hf2 := w2.1.2.2
  have hI := IX.fr hI w2.1 w2.2.1 (by decide) (by decide)
  have hR := RR.fx hR hd2 hf2 (by decide) (by decide)
  refine lv_pop hx hb dL_law_784 rfl ?_
  refine lv_aload_n hx hb dL_law_785 rfl (lvA2 hl) ?_
  refine lv_aload_n hx hb dL_law_786 rfl (lvA0 hl) ?_
  refine lv_iload_n hx hb dL_law_787 rfl (lvA3 hl) ?_
  refine lv_iconst (v := 1) hx hb dL_law_788 kic_1 ?_
  refine lv_iadd hx hb dL_law_789 ?_
  refine lv_topi (fun y_4 ey_4 => ?_)
  obtain rfl : y_4 = nI (i + 1) := ey_4.trans (nI_add i 1)
  refine va_sld hx hb hX hbl hbA hS (vp_in_nI (by omega) (by omega)) dL_law_790 ?_
  refine lv_topi (fun y_5 ey_5 => ?_)
  obtain rfl : y_5 = xs (nI (i + 1)).toNatClampNeg := ey_5
  have hFc := free_all (exDr hD) hS hA
  refine va_calli (runV_a (As := [.int (xs (nI (i + 1)).toNatClampNeg)]) (rest := []) S (q_driven8 l D cI cB cZ g2 c3 I3 F3 (xs (nI (i + 1)).toNatClampNeg) H.size hM.1 hM.2) kV_RL_77 hK (exPr hP) (exDr hD) 0 rfl rfl rfl ⟨Nat.le_of_ble_eq_true rfl, Nat.le_of_ble_eq_true rfl⟩ ⟨(by show K + 0 ≤ 600000; omega), (by show N + 0 ≤ 7302250; omega)⟩ rfl hl.1 rfl (Nat.le_of_ble_eq_true rfl) dL_law_791) hS (fun q _ h => hFc q h) hFc (fun r5 u t H1 locs ht hvm w5 hB1 hz1 hk1 hS => ?_)
  obtain ⟨c5, I5, F5⟩ := u
  obtain ⟨hP1, hD1⟩ := hB1
  rw [ht] at hP1
  obtain ⟨hP, hD⟩ := exjoin hP hD hk1 hFc hP1 hD1
  generalize H1 = H at hP hS ⊢
  obtain ⟨hM, hd5, hf5⟩ := imm_driven8 hM w5
  have hR := RR.fm hR hd5 hf5 (by decide) (by decide)
  refine lv_pop hx hb dL_law_794 rfl ?_
  refine lv_goto (tgt := 2269) hx hb dL_law_795 rfl ?_
  refine W.widen (k := K + 8) (n := N + 240) (by omega) (by omega) ?_
  exact kk _ _ _ _ _ _ _ _ _ hI hM hR hP hD hS ls hl
set_option maxRecDepth 100000 in
set_option maxHeartbeats 4000000 in
theorem lawc_14 {p : Program} {l : Launch} {e : Env} {s : State} {m : MethodId} {below : List Frame} {meth : Method} {c : Code} {b L : Nat} {xs : Nat → Int32} (C0 : lw_At p s m meth c b L xs) (hLN : L ≤ 3584) {A : Nat → Prop} (hA : ∀ q : Nat, s.heap.size ≤ q → A q) (hbA : ¬ A b) {D : va_G} {cI cB cZ : ClassId} {zz qq vv : Nat} {bt : Nat → Int32} {g g2 : Nat → Nat} (hK : KK D cI cB cZ s) (hXS : XS D zz qq vv bt A s s.heap) {ad : Nat → Nat → Nat} {cn : Nat → Nat} {In : Nat → Int32} {Fn : Nat → Nat → Int32} {c3 : Nat → Nat} {I3 : Nat → Int32} {F3 : Nat → Nat → Int32} (hI : IX ad cn Fn) (hM : IMM c3 F3) (hR : RR cn Fn c3 F3) {H : Heap} {locs : List Loc} (hP : va_P D vwCl (wX cI (D.1 99) zz g ad cn In Fn ++ wM cI cB cZ g2 c3 I3 F3) H) (hD : va_D A (wX cI (D.1 99) zz g ad cn In Fn ++ wM cI cB cZ g2 c3 I3 F3)) (hS : va_S A s.heap H locs) {K N i : Nat} (hi : i + 7 ≤ L) (hKN : K + 8 ≤ 600000 ∧ N + 240 ≤ 7302250) {ls : Array Slot} (hl : lv_has ls 4 [(0, .ref b), (1, .ref (g 0)), (2, .ref (g2 100)), (3, .int (nI i))]) (kk : ∀ (ad : Nat → Nat → Nat) (cn : Nat → Nat) (In : Nat → Int32) (Fn : Nat → Nat → Int32) (c3 : Nat → Nat) (I3 : Nat → Int32) (F3 : Nat → Nat → Int32) (H : Heap) (locs : List Loc), IX ad cn Fn → IMM c3 F3 → RR cn Fn c3 F3 → va_P D vwCl (wX cI (D.1 99) zz g ad cn In Fn ++ wM cI cB cZ g2 c3 I3 F3) H → va_D A (wX cI (D.1 99) zz g ad cn In Fn ++ wM cI cB cZ g2 c3 I3 F3) → va_S A s.heap H locs → ∀ ls : Array Slot, lv_has ls 4 [(0, .ref b), (1, .ref (g 0)), (2, .ref (g2 100)), (3, .int (nI i))] → W p l e room_1 s m #[Value.ref b] below meth c H locs (K + 8) (N + 240) (lw_Z below #[Value.ref b] s) (F0 m 2269 ls [])) : W p l e room_1 s m #[Value.ref b] below meth c H locs K N (lw_Z below #[Value.ref b] s) (F0 m 798 ls []) := by
  obtain ⟨hx, hb, hr, hml, hown, hts, hX, hbl, hlocks, hgv⟩ := id C0
  have S : SF p m c code 4 s #[Value.ref b] RL := ⟨hx, hb, hml, hown, fun w h => hts w (wT_lw h)⟩
  refine lv_aload_n hx hb dL_law_798 rfl (lvA1 hl) ?_
  refine lv_aload_n hx hb dL_law_799 rfl (lvA0 hl) ?_
  refine lv_iload_n hx hb dL_law_800 rfl (lvA3 hl) ?_
  refine lv_iconst (v := 1) hx hb dL_law_801 kic_1 ?_
  refine lv_iadd hx hb dL_law_802 ?_
  refine lv_topi (fun y_1 ey_1 => ?_)
  obtain rfl : y_1 = nI (i + 1) := ey_1.trans (nI_add i 1)
  refine va_sld hx hb hX hbl hbA hS (vp_in_nI (by omega) (by omega)) dL_law_803 ?_
  refine lv_topi (fun y_2 ey_2 => ?_)
  obtain rfl : y_2 = xs (nI (i + 1)).toNatClampNeg := ey_2
  have hFc := free_all (exD hD) hS hA
  refine va_calli (runV_xa (As := [.int (xs (nI (i + 1)).toNatClampNeg)]) (rest := []) S (q_Xbatch l D cI cB cZ zz qq vv bt g ad cn In Fn (xs (nI (i + 1)).toNatClampNeg) H.size hI.1 hI.2.1 hI.2.2.1) kV_RL_78 hK hXS hS hFc (exP hP) (exD hD) 0 xo_0 rfl rfl ⟨Nat.le_of_ble_eq_true rfl, Nat.le_of_ble_eq_true rfl⟩ ⟨(by show K + 3 ≤ 600000; omega), (by show N + 120 ≤ 7302250; omega)⟩ rfl hl.1 rfl (Nat.le_of_ble_eq_true rfl) dL_law_804) hS (fun q _ h => hFc q h) hFc (fun r2 u t H1 locs ht hvm w2 hB1 hz1 hk1 hS => ?_)
  obtain ⟨a2, c2, I2, F2⟩ := u
  obtain ⟨hP1, hD1⟩ := hB1
  rw [ht] at hP1
  obtain ⟨hP, hD⟩ := exjoinL hP hD hk1 hFc hP1 hD1
  generalize H1 = H at hP hS ⊢
  obtain ⟨hI, hd2, hf2⟩ := ix_batch hI w2
  have hR := RR.fx hR hd2 hf2 (by decide) (by decide)
  refine lv_pop hx hb dL_law_807 rfl ?_
  refine lv_aload_n hx hb dL_law_808 rfl (lvA2 hl) ?_
  refine lv_aload_n hx hb dL_law_809 rfl (lvA0 hl) ?_
  refine lv_iload_n hx hb dL_law_810 rfl (lvA3 hl) ?_
  refine lv_iconst (v := 1) hx hb dL_law_811 kic_1 ?_
  refine lv_iadd hx hb dL_law_812 ?_
  refine lv_topi (fun y_4 ey_4 => ?_)
  obtain rfl : y_4 = nI (i + 1) := ey_4.trans (nI_add i 1)
  refine va_sld hx hb hX hbl hbA hS (vp_in_nI (by omega) (by omega)) dL_law_813 ?_
  refine lv_topi (fun y_5 ey_5 => ?_)
  obtain rfl : y_5 = xs (nI (i + 1)).toNatClampNeg := ey_5
  have hFc := free_all (exDr hD) hS hA
  refine va_calli (runV_a (As := [.int (xs (nI (i + 1)).toNatClampNeg)]) (rest := []) S (q_batch l D cI cB cZ g2 c3 I3 F3 (xs (nI (i + 1)).toNatClampNeg) H.size hM.1) kV_RL_81 hK (exPr hP) (exDr hD) 0 rfl rfl rfl ⟨Nat.le_of_ble_eq_true rfl, Nat.le_of_ble_eq_true rfl⟩ ⟨(by show K + 3 + 0 ≤ 600000; omega), (by show N + 120 + 0 ≤ 7302250; omega)⟩ rfl hl.1 rfl (Nat.le_of_ble_eq_true rfl) dL_law_814) hS (fun q _ h => hFc q h) hFc (fun r5 u t H1 locs ht hvm w5 hB1 hz1 hk1 hS => ?_)
  obtain ⟨c5, I5, F5⟩ := u
  obtain ⟨hP1, hD1⟩ := hB1
  rw [ht] at hP1
  obtain ⟨hP, hD⟩ := exjoin hP hD hk1 hFc hP1 hD1
  generalize H1 = H at hP hS ⊢
  obtain ⟨hM, hd5, hf5⟩ := imm_batch hM w5
  have hR := RR.fm hR hd5 hf5 (by decide) (by decide)
  refine lv_pop hx hb dL_law_817 rfl ?_
  refine lv_goto (tgt := 2269) hx hb dL_law_818 rfl ?_
  refine W.widen (k := K + 8) (n := N + 240) (by omega) (by omega) ?_
  exact kk _ _ _ _ _ _ _ _ _ hI hM hR hP hD hS ls hl
