set_option maxRecDepth 100000 in
theorem kV_RL_13 : CalV RL 13 yX11_now cX11_now 2 (some .boolean) 1 := ⟨⟨wk2_3 9 rfl rfl, wk2_3 10 rfl rfl, wk2_3 11 rfl rfl, wk1_0 1 rfl rfl, wk2_4 0 rfl rfl⟩, ⟨nmh_0.1, nmh_0.2, pd_15⟩⟩
set_option maxRecDepth 100000 in
theorem kV_RL_17 : CalV RL 17 yX12_now cX12_now 2 (some .boolean) 1 := ⟨⟨wk7_12 4 rfl rfl, wk7_12 5 rfl rfl, wk7_12 6 rfl rfl, wk1_1 1 rfl rfl, wk7_12 7 rfl rfl⟩, ⟨nmh_13.1, nmh_13.2, pd_15⟩⟩
set_option maxRecDepth 100000 in
theorem kV_RL_18 : CalV RL 18 yX11_kitchen cX11_kitchen 6 (some .int) 4 := ⟨⟨wk2_4 7 rfl rfl, wk2_4 8 rfl rfl, wk2_4 9 rfl rfl, wk1_0 1 rfl rfl, wk2_4 10 rfl rfl⟩, ⟨nmh_0.1, nmh_0.2, pd_27⟩⟩
set_option maxRecDepth 100000 in
theorem kV_RL_22 : CalV RL 22 yX12_kitchen cX12_kitchen 5 (some .int) 4 := ⟨⟨wk7_12 11 rfl rfl, wk7_13 0 rfl rfl, wk7_13 1 rfl rfl, wk1_1 1 rfl rfl, wk7_13 2 rfl rfl⟩, ⟨nmh_13.1, nmh_13.2, pd_27⟩⟩
set_option maxRecDepth 100000 in
theorem kV_RL_23 : CalV RL 23 yX11_likely cX11_likely 4 (some .int) 2 := ⟨⟨wk2_14 5 rfl rfl, wk2_14 6 rfl rfl, wk2_14 7 rfl rfl, wk1_0 1 rfl rfl, wk2_14 8 rfl rfl⟩, ⟨nmh_0.1, nmh_0.2, pd_17⟩⟩
set_option maxRecDepth 100000 in
theorem kV_RL_27 : CalV RL 27 yX12_likely cX12_likely 3 (some .int) 2 := ⟨⟨wk7_13 3 rfl rfl, wk7_13 4 rfl rfl, wk7_13 5 rfl rfl, wk1_1 1 rfl rfl, wk7_13 6 rfl rfl⟩, ⟨nmh_13.1, nmh_13.2, pd_17⟩⟩
set_option maxRecDepth 100000 in
theorem kV_RL_28 : CalV RL 28 yX11_fetch cX11_fetch 9 (some .int) 6 := ⟨⟨wk2_16 8 rfl rfl, wk2_16 9 rfl rfl, wk2_16 10 rfl rfl, wk1_0 1 rfl rfl, wk2_16 11 rfl rfl⟩, ⟨nmh_0.1, nmh_0.2, pd_33⟩⟩
set_option maxRecDepth 100000 in
theorem kV_RL_32 : CalV RL 32 yX12_fetch cX12_fetch 9 (some .int) 6 := ⟨⟨wk7_14 3 rfl rfl, wk7_14 4 rfl rfl, wk7_14 5 rfl rfl, wk1_1 1 rfl rfl, wk7_14 6 rfl rfl⟩, ⟨nmh_13.1, nmh_13.2, pd_33⟩⟩
set_option maxRecDepth 100000 in
theorem kV_RL_33 : CalV RL 33 yX11_feed cX11_feed 6 (some .int) 5 := ⟨⟨wk3_2 9 rfl rfl, wk3_2 10 rfl rfl, wk3_2 11 rfl rfl, wk1_0 1 rfl rfl, wk3_3 0 rfl rfl⟩, ⟨nmh_0.1, nmh_0.2, pd_30⟩⟩
set_option maxRecDepth 100000 in
theorem kV_RL_37 : CalV RL 37 yX12_feed cX12_feed 6 (some .int) 5 := ⟨⟨wk7_14 7 rfl rfl, wk7_14 8 rfl rfl, wk7_14 9 rfl rfl, wk1_1 1 rfl rfl, wk7_14 10 rfl rfl⟩, ⟨nmh_13.1, nmh_13.2, pd_30⟩⟩
set_option maxRecDepth 100000 in
theorem kV_RL_38 : CalV RL 38 yX11_contract cX11_contract 5 (some .int) 2 := ⟨⟨wk3_3 11 rfl rfl, wk3_4 0 rfl rfl, wk3_4 1 rfl rfl, wk1_0 1 rfl rfl, wk3_4 2 rfl rfl⟩, ⟨nmh_0.1, nmh_0.2, pd_17⟩⟩
set_option maxRecDepth 100000 in
theorem kV_RL_41 : CalV RL 41 yX12_contract cX12_contract 3 (some .int) 2 := ⟨⟨wk7_15 3 rfl rfl, wk7_15 4 rfl rfl, wk7_15 5 rfl rfl, wk1_1 1 rfl rfl, wk7_15 6 rfl rfl⟩, ⟨nmh_13.1, nmh_13.2, pd_17⟩⟩
set_option maxRecDepth 100000 in
theorem kV_RL_42 : CalV RL 42 yX11_law cX11_law 3 (some .int) 1 := ⟨⟨wk3_17 11 rfl rfl, wk3_18 0 rfl rfl, wk3_18 1 rfl rfl, wk1_0 1 rfl rfl, wk3_18 2 rfl rfl⟩, ⟨nmh_0.1, nmh_0.2, pd_8⟩⟩
set_option maxRecDepth 100000 in
theorem kV_RL_46 : CalV RL 46 yX12_law cX12_law 2 (some .int) 1 := ⟨⟨wk8_2 6 rfl rfl, wk8_2 7 rfl rfl, wk8_2 8 rfl rfl, wk1_1 1 rfl rfl, wk8_2 9 rfl rfl⟩, ⟨nmh_13.1, nmh_13.2, pd_8⟩⟩
set_option maxRecDepth 100000 in
theorem kV_RL_47 : CalV RL 47 yX11_price cX11_price 3 (some .boolean) 2 := ⟨⟨wk3_18 3 rfl rfl, wk3_18 4 rfl rfl, wk3_18 5 rfl rfl, wk1_0 1 rfl rfl, wk3_18 6 rfl rfl⟩, ⟨nmh_0.1, nmh_0.2, pd_21⟩⟩
set_option maxRecDepth 100000 in
theorem kV_RL_51 : CalV RL 51 yX12_price cX12_price 3 (some .boolean) 2 := ⟨⟨wk8_2 10 rfl rfl, wk8_2 11 rfl rfl, wk8_3 0 rfl rfl, wk1_1 1 rfl rfl, wk8_3 1 rfl rfl⟩, ⟨nmh_13.1, nmh_13.2, pd_21⟩⟩
set_option maxRecDepth 100000 in
theorem kV_RL_52 : CalV RL 52 yX11_pence cX11_pence 4 (some .int) 1 := ⟨⟨wk3_18 10 rfl rfl, wk3_18 11 rfl rfl, wk3_19 0 rfl rfl, wk1_0 1 rfl rfl, wk3_19 1 rfl rfl⟩, ⟨nmh_0.1, nmh_0.2, pd_8⟩⟩
set_option maxRecDepth 100000 in
theorem kV_RL_55 : CalV RL 55 yX12_pence cX12_pence 2 (some .int) 1 := ⟨⟨wk8_3 2 rfl rfl, wk8_3 3 rfl rfl, wk8_3 4 rfl rfl, wk1_1 1 rfl rfl, wk8_3 5 rfl rfl⟩, ⟨nmh_13.1, nmh_13.2, pd_8⟩⟩
set_option maxRecDepth 100000 in
theorem kV_RL_56 : CalV RL 56 yX11_paid cX11_paid 4 (some .int) 2 := ⟨⟨wk4_3 9 rfl rfl, wk4_3 10 rfl rfl, wk4_3 11 rfl rfl, wk1_0 1 rfl rfl, wk4_4 0 rfl rfl⟩, ⟨nmh_0.1, nmh_0.2, pd_17⟩⟩
set_option maxRecDepth 100000 in
theorem kV_RL_59 : CalV RL 59 yX12_paid cX12_paid 5 (some .int) 2 := ⟨⟨wk8_4 10 rfl rfl, wk8_4 11 rfl rfl, wk8_5 0 rfl rfl, wk1_1 1 rfl rfl, wk8_5 1 rfl rfl⟩, ⟨nmh_13.1, nmh_13.2, pd_17⟩⟩
set_option maxRecDepth 100000 in
theorem kV_RL_60 : CalV RL 60 yX11_missing cX11_missing 3 (some .int) 1 := ⟨⟨wk3_2 1 rfl rfl, wk3_2 2 rfl rfl, wk3_2 3 rfl rfl, wk1_0 1 rfl rfl, wk3_2 4 rfl rfl⟩, ⟨nmh_0.1, nmh_0.2, pd_8⟩⟩
set_option maxRecDepth 100000 in
theorem kV_RL_63 : CalV RL 63 yX12_missing cX12_missing 2 (some .int) 1 := ⟨⟨wk8_5 9 rfl rfl, wk8_5 10 rfl rfl, wk8_5 11 rfl rfl, wk1_1 1 rfl rfl, wk8_6 0 rfl rfl⟩, ⟨nmh_13.1, nmh_13.2, pd_8⟩⟩
set_option maxRecDepth 100000 in
theorem kV_RL_64 : CalV RL 64 yX11_beyond cX11_beyond 9 (some .long) 2 := ⟨⟨wk4_4 9 rfl rfl, wk4_4 10 rfl rfl, wk4_4 11 rfl rfl, wk1_0 1 rfl rfl, wk4_5 0 rfl rfl⟩, ⟨nmh_0.1, nmh_0.2, pd_18⟩⟩
set_option maxRecDepth 100000 in
theorem kV_RL_68 : CalV RL 68 yX12_beyond cX12_beyond 6 (some .long) 2 := ⟨⟨wk8_6 1 rfl rfl, wk8_6 2 rfl rfl, wk8_6 3 rfl rfl, wk1_1 1 rfl rfl, wk8_6 4 rfl rfl⟩, ⟨nmh_13.1, nmh_13.2, pd_18⟩⟩
set_option maxRecDepth 100000 in
theorem kV_RL_69 : CalV RL 69 yX11_round cX11_round 4 (some .int) 3 := ⟨⟨wk4_6 11 rfl rfl, wk4_7 0 rfl rfl, wk4_7 1 rfl rfl, wk1_0 1 rfl rfl, wk4_7 2 rfl rfl⟩, ⟨nmh_0.1, nmh_0.2, pd_22⟩⟩
set_option maxRecDepth 100000 in
theorem kV_RL_73 : CalV RL 73 yX12_round cX12_round 8 (some .int) 3 := ⟨⟨wk8_9 5 rfl rfl, wk8_9 6 rfl rfl, wk8_9 7 rfl rfl, wk1_1 1 rfl rfl, wk8_9 8 rfl rfl⟩, ⟨nmh_13.1, nmh_13.2, pd_22⟩⟩
set_option maxRecDepth 100000 in
theorem kV_RL_74 : CalV RL 74 yX11_driven cX11_driven 3 (some .int) 1 := ⟨⟨wk4_11 11 rfl rfl, wk4_12 0 rfl rfl, wk4_12 1 rfl rfl, wk1_0 1 rfl rfl, wk4_12 2 rfl rfl⟩, ⟨nmh_0.1, nmh_0.2, pd_8⟩⟩
set_option maxRecDepth 100000 in
theorem kV_RL_77 : CalV RL 77 yX12_driven cX12_driven 7 (some .int) 1 := ⟨⟨wk8_16 1 rfl rfl, wk8_16 2 rfl rfl, wk8_16 3 rfl rfl, wk1_1 1 rfl rfl, wk8_16 4 rfl rfl⟩, ⟨nmh_13.1, nmh_13.2, pd_8⟩⟩
set_option maxRecDepth 100000 in
theorem kV_RL_78 : CalV RL 78 yX11_batch cX11_batch 4 (some .int) 1 := ⟨⟨wk4_16 10 rfl rfl, wk4_16 11 rfl rfl, wk4_17 0 rfl rfl, wk1_0 1 rfl rfl, wk4_17 1 rfl rfl⟩, ⟨nmh_0.1, nmh_0.2, pd_8⟩⟩
set_option maxRecDepth 100000 in
theorem kV_RL_81 : CalV RL 81 yX12_batch cX12_batch 4 (some .int) 1 := ⟨⟨wk8_16 5 rfl rfl, wk8_16 6 rfl rfl, wk8_16 7 rfl rfl, wk1_1 1 rfl rfl, wk8_16 8 rfl rfl⟩, ⟨nmh_13.1, nmh_13.2, pd_8⟩⟩
noncomputable def sxL_law_2277 : List UInt8 := []
noncomputable def sxL_law_2275 : List UInt8 := 4 :: 172 :: sxL_law_2277
noncomputable def sxL_law_2251 : List UInt8 := 46 :: 182 :: 1 :: 2 :: 87 :: 44 :: 42 :: 29 :: 4 :: 96 :: 46 :: 182 :: 1 :: 5 :: 87 :: 167 :: 0 :: 3 :: 132 :: 3 :: 7 :: 167 :: 247 :: 50 :: sxL_law_2275
noncomputable def sxL_law_2227 : List UInt8 := 87 :: 44 :: 42 :: 29 :: 4 :: 96 :: 46 :: 42 :: 29 :: 5 :: 96 :: 46 :: 182 :: 1 :: 1 :: 87 :: 167 :: 0 :: 26 :: 43 :: 42 :: 29 :: 4 :: 96 :: sxL_law_2251
noncomputable def sxL_law_2202 : List UInt8 := 29 :: 4 :: 96 :: 46 :: 182 :: 0 :: 253 :: 87 :: 167 :: 0 :: 59 :: 43 :: 42 :: 29 :: 4 :: 96 :: 46 :: 42 :: 29 :: 5 :: 96 :: 46 :: 182 :: 0 :: 254 :: sxL_law_2227
noncomputable def sxL_law_2178 : List UInt8 := 42 :: 29 :: 4 :: 96 :: 46 :: 182 :: 0 :: 249 :: 87 :: 167 :: 0 :: 82 :: 43 :: 42 :: 29 :: 4 :: 96 :: 46 :: 182 :: 0 :: 250 :: 87 :: 44 :: 42 :: sxL_law_2202
noncomputable def sxL_law_2154 : List UInt8 := 46 :: 42 :: 29 :: 5 :: 96 :: 46 :: 182 :: 0 :: 245 :: 87 :: 167 :: 0 :: 105 :: 43 :: 42 :: 29 :: 4 :: 96 :: 46 :: 182 :: 0 :: 246 :: 87 :: 44 :: sxL_law_2178
noncomputable def sxL_law_2130 : List UInt8 := 87 :: 167 :: 0 :: 138 :: 43 :: 42 :: 29 :: 4 :: 96 :: 46 :: 42 :: 29 :: 5 :: 96 :: 46 :: 182 :: 0 :: 242 :: 87 :: 44 :: 42 :: 29 :: 4 :: 96 :: sxL_law_2154
noncomputable def sxL_law_2106 : List UInt8 := 46 :: 182 :: 0 :: 238 :: 87 :: 44 :: 42 :: 29 :: 4 :: 96 :: 46 :: 42 :: 29 :: 5 :: 96 :: 46 :: 42 :: 29 :: 6 :: 96 :: 46 :: 182 :: 0 :: 241 :: sxL_law_2130
noncomputable def sxL_law_2082 : List UInt8 := 96 :: 46 :: 182 :: 0 :: 237 :: 87 :: 167 :: 0 :: 181 :: 43 :: 42 :: 29 :: 4 :: 96 :: 46 :: 42 :: 29 :: 5 :: 96 :: 46 :: 42 :: 29 :: 6 :: 96 :: sxL_law_2106
noncomputable def sxL_law_2058 : List UInt8 := 43 :: 42 :: 29 :: 4 :: 96 :: 46 :: 42 :: 29 :: 5 :: 96 :: 46 :: 182 :: 0 :: 234 :: 87 :: 44 :: 42 :: 29 :: 4 :: 96 :: 46 :: 42 :: 29 :: 5 :: sxL_law_2082
noncomputable def sxL_law_2032 : List UInt8 := 167 :: 0 :: 237 :: 43 :: 42 :: 29 :: 4 :: 96 :: 46 :: 182 :: 0 :: 230 :: 87 :: 44 :: 42 :: 29 :: 4 :: 96 :: 46 :: 182 :: 0 :: 233 :: 87 :: 167 :: 0 :: 214 :: sxL_law_2058
noncomputable def sxL_law_2008 : List UInt8 := 42 :: 29 :: 5 :: 96 :: 46 :: 182 :: 0 :: 226 :: 87 :: 44 :: 42 :: 29 :: 4 :: 96 :: 46 :: 42 :: 29 :: 5 :: 96 :: 46 :: 182 :: 0 :: 229 :: 87 :: sxL_law_2032
noncomputable def sxL_law_1984 : List UInt8 := 46 :: 182 :: 0 :: 222 :: 87 :: 44 :: 42 :: 29 :: 4 :: 96 :: 46 :: 182 :: 0 :: 225 :: 87 :: 167 :: 1 :: 14 :: 43 :: 42 :: 29 :: 4 :: 96 :: 46 :: sxL_law_2008
noncomputable def sxL_law_1960 : List UInt8 := 96 :: 46 :: 42 :: 29 :: 5 :: 96 :: 46 :: 42 :: 29 :: 6 :: 96 :: 46 :: 182 :: 0 :: 221 :: 87 :: 167 :: 1 :: 37 :: 43 :: 42 :: 29 :: 4 :: 96 :: sxL_law_1984
noncomputable def sxL_law_1936 : List UInt8 := 43 :: 42 :: 29 :: 4 :: 96 :: 46 :: 42 :: 29 :: 5 :: 96 :: 46 :: 42 :: 29 :: 6 :: 96 :: 46 :: 182 :: 0 :: 218 :: 87 :: 44 :: 42 :: 29 :: 4 :: sxL_law_1960
noncomputable def sxL_law_1910 : List UInt8 := 29 :: 5 :: 96 :: 46 :: 182 :: 0 :: 214 :: 87 :: 44 :: 42 :: 29 :: 4 :: 96 :: 46 :: 42 :: 29 :: 5 :: 96 :: 46 :: 182 :: 0 :: 217 :: 87 :: 167 :: 1 :: 80 :: sxL_law_1936
noncomputable def sxL_law_1886 : List UInt8 := 42 :: 29 :: 4 :: 96 :: 46 :: 42 :: 29 :: 5 :: 96 :: 46 :: 182 :: 0 :: 213 :: 87 :: 167 :: 1 :: 113 :: 43 :: 42 :: 29 :: 4 :: 96 :: 46 :: 42 :: sxL_law_1910
noncomputable def sxL_law_1862 : List UInt8 := 46 :: 182 :: 0 :: 209 :: 87 :: 167 :: 1 :: 146 :: 43 :: 42 :: 29 :: 4 :: 96 :: 46 :: 42 :: 29 :: 5 :: 96 :: 46 :: 182 :: 0 :: 210 :: 87 :: 44 :: sxL_law_1886
noncomputable def sxL_law_1838 : List UInt8 := 42 :: 29 :: 4 :: 96 :: 46 :: 42 :: 29 :: 5 :: 96 :: 46 :: 182 :: 0 :: 206 :: 87 :: 44 :: 42 :: 29 :: 4 :: 96 :: 46 :: 42 :: 29 :: 5 :: 96 :: sxL_law_1862
noncomputable def sxL_law_1814 : List UInt8 := 43 :: 42 :: 29 :: 4 :: 96 :: 46 :: 182 :: 0 :: 202 :: 87 :: 44 :: 42 :: 29 :: 4 :: 96 :: 46 :: 182 :: 0 :: 205 :: 87 :: 167 :: 1 :: 179 :: 43 :: sxL_law_1838
noncomputable def sxL_law_1788 : List UInt8 := 29 :: 5 :: 96 :: 46 :: 182 :: 0 :: 198 :: 87 :: 44 :: 42 :: 29 :: 4 :: 96 :: 46 :: 42 :: 29 :: 5 :: 96 :: 46 :: 182 :: 0 :: 201 :: 87 :: 167 :: 1 :: 202 :: sxL_law_1814
noncomputable def sxL_law_1764 : List UInt8 := 42 :: 29 :: 5 :: 96 :: 46 :: 42 :: 29 :: 6 :: 96 :: 46 :: 182 :: 0 :: 197 :: 87 :: 167 :: 1 :: 235 :: 43 :: 42 :: 29 :: 4 :: 96 :: 46 :: 42 :: sxL_law_1788
noncomputable def sxL_law_1740 : List UInt8 := 29 :: 4 :: 96 :: 46 :: 42 :: 29 :: 5 :: 96 :: 46 :: 42 :: 29 :: 6 :: 96 :: 46 :: 182 :: 0 :: 194 :: 87 :: 44 :: 42 :: 29 :: 4 :: 96 :: 46 :: sxL_law_1764
noncomputable def sxL_law_1716 : List UInt8 := 96 :: 46 :: 182 :: 0 :: 189 :: 87 :: 167 :: 2 :: 35 :: 43 :: 182 :: 0 :: 190 :: 44 :: 182 :: 0 :: 193 :: 159 :: 2 :: 24 :: 3 :: 172 :: 43 :: 42 :: sxL_law_1740
noncomputable def sxL_law_1692 : List UInt8 := 43 :: 42 :: 29 :: 4 :: 96 :: 46 :: 42 :: 29 :: 5 :: 96 :: 46 :: 182 :: 0 :: 186 :: 87 :: 44 :: 42 :: 29 :: 4 :: 96 :: 46 :: 42 :: 29 :: 5 :: sxL_law_1716
noncomputable def sxL_law_1667 : List UInt8 := 5 :: 96 :: 46 :: 182 :: 0 :: 182 :: 87 :: 44 :: 42 :: 29 :: 4 :: 96 :: 46 :: 42 :: 29 :: 5 :: 96 :: 46 :: 182 :: 0 :: 185 :: 87 :: 167 :: 2 :: 68 :: sxL_law_1692
noncomputable def sxL_law_1643 : List UInt8 := 29 :: 6 :: 96 :: 46 :: 42 :: 29 :: 7 :: 96 :: 46 :: 182 :: 0 :: 181 :: 87 :: 167 :: 2 :: 101 :: 43 :: 42 :: 29 :: 4 :: 96 :: 46 :: 42 :: 29 :: sxL_law_1667
noncomputable def sxL_law_1619 : List UInt8 := 6 :: 96 :: 46 :: 42 :: 29 :: 7 :: 96 :: 46 :: 182 :: 0 :: 178 :: 87 :: 44 :: 42 :: 29 :: 4 :: 96 :: 46 :: 42 :: 29 :: 5 :: 96 :: 46 :: 42 :: sxL_law_1643
noncomputable def sxL_law_1595 : List UInt8 := 29 :: 6 :: 96 :: 46 :: 182 :: 0 :: 177 :: 87 :: 167 :: 2 :: 154 :: 43 :: 42 :: 29 :: 4 :: 96 :: 46 :: 42 :: 29 :: 5 :: 96 :: 46 :: 42 :: 29 :: sxL_law_1619
noncomputable def sxL_law_1571 : List UInt8 := 5 :: 96 :: 46 :: 42 :: 29 :: 6 :: 96 :: 46 :: 182 :: 0 :: 174 :: 87 :: 44 :: 42 :: 29 :: 4 :: 96 :: 46 :: 42 :: 29 :: 5 :: 96 :: 46 :: 42 :: sxL_law_1595
noncomputable def sxL_law_1547 : List UInt8 := 46 :: 153 :: 0 :: 7 :: 4 :: 167 :: 0 :: 4 :: 3 :: 182 :: 0 :: 173 :: 87 :: 167 :: 2 :: 197 :: 43 :: 42 :: 29 :: 4 :: 96 :: 46 :: 42 :: 29 :: sxL_law_1571
noncomputable def sxL_law_1523 : List UInt8 := 4 :: 167 :: 0 :: 4 :: 3 :: 182 :: 0 :: 169 :: 87 :: 44 :: 42 :: 29 :: 4 :: 96 :: 46 :: 42 :: 29 :: 5 :: 96 :: 46 :: 42 :: 29 :: 6 :: 96 :: sxL_law_1547
noncomputable def sxL_law_1497 : List UInt8 := 182 :: 0 :: 168 :: 87 :: 167 :: 3 :: 0 :: 43 :: 42 :: 29 :: 4 :: 96 :: 46 :: 42 :: 29 :: 5 :: 96 :: 46 :: 42 :: 29 :: 6 :: 96 :: 46 :: 153 :: 0 :: 7 :: sxL_law_1523
noncomputable def sxL_law_1473 : List UInt8 := 46 :: 182 :: 0 :: 164 :: 87 :: 167 :: 3 :: 23 :: 43 :: 42 :: 29 :: 4 :: 96 :: 46 :: 182 :: 0 :: 165 :: 87 :: 44 :: 42 :: 29 :: 4 :: 96 :: 46 :: sxL_law_1497
noncomputable def sxL_law_1449 : List UInt8 := 42 :: 29 :: 4 :: 96 :: 46 :: 42 :: 29 :: 5 :: 96 :: 46 :: 182 :: 0 :: 161 :: 87 :: 44 :: 42 :: 29 :: 4 :: 96 :: 46 :: 42 :: 29 :: 5 :: 96 :: sxL_law_1473
noncomputable def sxL_law_1425 : List UInt8 := 44 :: 42 :: 29 :: 4 :: 96 :: 46 :: 42 :: 29 :: 5 :: 96 :: 46 :: 42 :: 29 :: 6 :: 96 :: 46 :: 182 :: 0 :: 160 :: 88 :: 167 :: 3 :: 56 :: 43 :: sxL_law_1449
noncomputable def sxL_law_1401 : List UInt8 := 88 :: 167 :: 3 :: 99 :: 43 :: 42 :: 29 :: 4 :: 96 :: 46 :: 42 :: 29 :: 5 :: 96 :: 46 :: 42 :: 29 :: 6 :: 96 :: 46 :: 182 :: 0 :: 156 :: 88 :: sxL_law_1425
noncomputable def sxL_law_1377 : List UInt8 := 46 :: 42 :: 29 :: 5 :: 96 :: 46 :: 182 :: 0 :: 152 :: 88 :: 44 :: 42 :: 29 :: 4 :: 96 :: 46 :: 42 :: 29 :: 5 :: 96 :: 46 :: 182 :: 0 :: 155 :: sxL_law_1401
noncomputable def sxL_law_1353 : List UInt8 := 87 :: 44 :: 42 :: 29 :: 4 :: 96 :: 46 :: 42 :: 29 :: 5 :: 96 :: 46 :: 182 :: 0 :: 151 :: 87 :: 167 :: 3 :: 132 :: 43 :: 42 :: 29 :: 4 :: 96 :: sxL_law_1377
noncomputable def sxL_law_1327 : List UInt8 := 42 :: 29 :: 5 :: 96 :: 46 :: 182 :: 0 :: 147 :: 87 :: 167 :: 3 :: 165 :: 43 :: 42 :: 29 :: 4 :: 96 :: 46 :: 42 :: 29 :: 5 :: 96 :: 46 :: 182 :: 0 :: 148 :: sxL_law_1353
noncomputable def sxL_law_1303 : List UInt8 := 167 :: 3 :: 198 :: 43 :: 42 :: 29 :: 4 :: 96 :: 46 :: 42 :: 29 :: 5 :: 96 :: 46 :: 182 :: 0 :: 144 :: 87 :: 44 :: 42 :: 29 :: 4 :: 96 :: 46 :: sxL_law_1327
noncomputable def sxL_law_1279 : List UInt8 := 42 :: 29 :: 5 :: 96 :: 46 :: 182 :: 0 :: 140 :: 87 :: 44 :: 42 :: 29 :: 4 :: 96 :: 46 :: 42 :: 29 :: 5 :: 96 :: 46 :: 182 :: 0 :: 143 :: 87 :: sxL_law_1303
noncomputable def sxL_law_1255 : List UInt8 := 44 :: 42 :: 29 :: 4 :: 96 :: 46 :: 42 :: 29 :: 5 :: 96 :: 46 :: 182 :: 0 :: 139 :: 87 :: 167 :: 3 :: 231 :: 43 :: 42 :: 29 :: 4 :: 96 :: 46 :: sxL_law_1279
noncomputable def sxL_law_1231 : List UInt8 := 96 :: 46 :: 182 :: 0 :: 135 :: 87 :: 167 :: 4 :: 8 :: 43 :: 42 :: 29 :: 4 :: 96 :: 46 :: 42 :: 29 :: 5 :: 96 :: 46 :: 182 :: 0 :: 136 :: 87 :: sxL_law_1255
noncomputable def sxL_law_1207 : List UInt8 := 43 :: 42 :: 29 :: 4 :: 96 :: 46 :: 42 :: 29 :: 5 :: 96 :: 46 :: 182 :: 0 :: 132 :: 87 :: 44 :: 42 :: 29 :: 4 :: 96 :: 46 :: 42 :: 29 :: 5 :: sxL_law_1231
noncomputable def sxL_law_1181 : List UInt8 := 167 :: 4 :: 64 :: 43 :: 42 :: 29 :: 4 :: 96 :: 46 :: 182 :: 0 :: 128 :: 87 :: 44 :: 42 :: 29 :: 4 :: 96 :: 46 :: 182 :: 0 :: 131 :: 87 :: 167 :: 4 :: 41 :: sxL_law_1207
noncomputable def sxL_law_1157 : List UInt8 := 42 :: 29 :: 5 :: 96 :: 46 :: 182 :: 0 :: 124 :: 87 :: 44 :: 42 :: 29 :: 4 :: 96 :: 46 :: 42 :: 29 :: 5 :: 96 :: 46 :: 182 :: 0 :: 127 :: 87 :: sxL_law_1181
noncomputable def sxL_law_1133 : List UInt8 := 44 :: 42 :: 29 :: 4 :: 96 :: 46 :: 42 :: 29 :: 5 :: 96 :: 46 :: 182 :: 0 :: 123 :: 87 :: 167 :: 4 :: 97 :: 43 :: 42 :: 29 :: 4 :: 96 :: 46 :: sxL_law_1157
noncomputable def sxL_law_1109 : List UInt8 := 96 :: 46 :: 182 :: 0 :: 119 :: 87 :: 167 :: 4 :: 130 :: 43 :: 42 :: 29 :: 4 :: 96 :: 46 :: 42 :: 29 :: 5 :: 96 :: 46 :: 182 :: 0 :: 120 :: 87 :: sxL_law_1133
noncomputable def sxL_law_1085 : List UInt8 := 43 :: 42 :: 29 :: 4 :: 96 :: 46 :: 42 :: 29 :: 5 :: 96 :: 46 :: 182 :: 0 :: 116 :: 87 :: 44 :: 42 :: 29 :: 4 :: 96 :: 46 :: 42 :: 29 :: 5 :: sxL_law_1109
noncomputable def sxL_law_1060 : List UInt8 := 5 :: 96 :: 46 :: 182 :: 0 :: 112 :: 87 :: 44 :: 42 :: 29 :: 4 :: 96 :: 46 :: 42 :: 29 :: 5 :: 96 :: 46 :: 182 :: 0 :: 115 :: 87 :: 167 :: 4 :: 163 :: sxL_law_1085
noncomputable def sxL_law_1036 : List UInt8 := 29 :: 4 :: 96 :: 46 :: 42 :: 29 :: 5 :: 96 :: 46 :: 182 :: 0 :: 111 :: 87 :: 167 :: 4 :: 196 :: 43 :: 42 :: 29 :: 4 :: 96 :: 46 :: 42 :: 29 :: sxL_law_1060
noncomputable def sxL_law_1012 : List UInt8 := 182 :: 0 :: 107 :: 87 :: 167 :: 4 :: 229 :: 43 :: 42 :: 29 :: 4 :: 96 :: 46 :: 42 :: 29 :: 5 :: 96 :: 46 :: 182 :: 0 :: 108 :: 87 :: 44 :: 42 :: sxL_law_1036
noncomputable def sxL_law_988 : List UInt8 := 29 :: 6 :: 96 :: 46 :: 182 :: 0 :: 103 :: 87 :: 44 :: 42 :: 29 :: 4 :: 96 :: 46 :: 42 :: 29 :: 5 :: 96 :: 46 :: 42 :: 29 :: 6 :: 96 :: 46 :: sxL_law_1012
noncomputable def sxL_law_964 : List UInt8 := 42 :: 29 :: 5 :: 96 :: 46 :: 182 :: 0 :: 102 :: 87 :: 167 :: 5 :: 16 :: 43 :: 42 :: 29 :: 4 :: 96 :: 46 :: 42 :: 29 :: 5 :: 96 :: 46 :: 42 :: sxL_law_988
noncomputable def sxL_law_940 : List UInt8 := 167 :: 5 :: 49 :: 43 :: 42 :: 29 :: 4 :: 96 :: 46 :: 42 :: 29 :: 5 :: 96 :: 46 :: 182 :: 0 :: 99 :: 87 :: 44 :: 42 :: 29 :: 4 :: 96 :: 46 :: sxL_law_964
noncomputable def sxL_law_916 : List UInt8 := 87 :: 167 :: 5 :: 72 :: 43 :: 42 :: 29 :: 4 :: 96 :: 46 :: 182 :: 0 :: 95 :: 87 :: 44 :: 42 :: 29 :: 4 :: 96 :: 46 :: 182 :: 0 :: 98 :: 87 :: sxL_law_940
noncomputable def sxL_law_891 : List UInt8 := 87 :: 44 :: 42 :: 29 :: 4 :: 96 :: 46 :: 42 :: 29 :: 5 :: 96 :: 46 :: 42 :: 29 :: 6 :: 96 :: 46 :: 42 :: 29 :: 7 :: 96 :: 46 :: 182 :: 0 :: 94 :: sxL_law_916
noncomputable def sxL_law_867 : List UInt8 := 43 :: 42 :: 29 :: 4 :: 96 :: 46 :: 42 :: 29 :: 5 :: 96 :: 46 :: 42 :: 29 :: 6 :: 96 :: 46 :: 42 :: 29 :: 7 :: 96 :: 46 :: 182 :: 0 :: 91 :: sxL_law_891
noncomputable def sxL_law_841 : List UInt8 := 46 :: 42 :: 29 :: 5 :: 96 :: 46 :: 182 :: 0 :: 85 :: 87 :: 167 :: 5 :: 138 :: 43 :: 182 :: 0 :: 86 :: 87 :: 44 :: 182 :: 0 :: 90 :: 87 :: 167 :: 5 :: 125 :: sxL_law_867
noncomputable def sxL_law_817 : List UInt8 := 87 :: 167 :: 5 :: 171 :: 43 :: 42 :: 29 :: 4 :: 96 :: 46 :: 42 :: 29 :: 5 :: 96 :: 46 :: 182 :: 0 :: 82 :: 87 :: 44 :: 42 :: 29 :: 4 :: 96 :: sxL_law_841
noncomputable def sxL_law_791 : List UInt8 := 182 :: 0 :: 77 :: 87 :: 167 :: 5 :: 194 :: 43 :: 42 :: 29 :: 4 :: 96 :: 46 :: 182 :: 0 :: 78 :: 87 :: 44 :: 42 :: 29 :: 4 :: 96 :: 46 :: 182 :: 0 :: 81 :: sxL_law_817
noncomputable def sxL_law_767 : List UInt8 := 46 :: 182 :: 0 :: 73 :: 87 :: 167 :: 5 :: 217 :: 43 :: 42 :: 29 :: 4 :: 96 :: 46 :: 182 :: 0 :: 74 :: 87 :: 44 :: 42 :: 29 :: 4 :: 96 :: 46 :: sxL_law_791
noncomputable def sxL_law_743 : List UInt8 := 42 :: 29 :: 6 :: 96 :: 46 :: 182 :: 0 :: 69 :: 87 :: 44 :: 42 :: 29 :: 4 :: 96 :: 46 :: 42 :: 29 :: 5 :: 96 :: 46 :: 42 :: 29 :: 6 :: 96 :: sxL_law_767
noncomputable def sxL_law_719 : List UInt8 := 46 :: 42 :: 29 :: 5 :: 96 :: 46 :: 182 :: 0 :: 68 :: 88 :: 167 :: 6 :: 4 :: 43 :: 42 :: 29 :: 4 :: 96 :: 46 :: 42 :: 29 :: 5 :: 96 :: 46 :: sxL_law_743
noncomputable def sxL_law_695 : List UInt8 := 87 :: 167 :: 6 :: 37 :: 43 :: 42 :: 29 :: 4 :: 96 :: 46 :: 42 :: 29 :: 5 :: 96 :: 46 :: 182 :: 0 :: 64 :: 88 :: 44 :: 42 :: 29 :: 4 :: 96 :: sxL_law_719
noncomputable def sxL_law_669 : List UInt8 := 182 :: 0 :: 59 :: 87 :: 167 :: 6 :: 60 :: 43 :: 42 :: 29 :: 4 :: 96 :: 46 :: 182 :: 0 :: 60 :: 87 :: 44 :: 42 :: 29 :: 4 :: 96 :: 46 :: 182 :: 0 :: 63 :: sxL_law_695
noncomputable def sxL_law_645 : List UInt8 := 29 :: 4 :: 96 :: 46 :: 42 :: 29 :: 5 :: 96 :: 46 :: 182 :: 0 :: 56 :: 87 :: 44 :: 42 :: 29 :: 4 :: 96 :: 46 :: 42 :: 29 :: 5 :: 96 :: 46 :: sxL_law_669
noncomputable def sxL_law_621 : List UInt8 := 42 :: 29 :: 4 :: 96 :: 46 :: 182 :: 0 :: 52 :: 87 :: 44 :: 42 :: 29 :: 4 :: 96 :: 46 :: 182 :: 0 :: 55 :: 87 :: 167 :: 6 :: 93 :: 43 :: 42 :: sxL_law_645
noncomputable def sxL_law_597 : List UInt8 := 46 :: 182 :: 0 :: 47 :: 87 :: 44 :: 42 :: 29 :: 4 :: 96 :: 46 :: 42 :: 29 :: 5 :: 96 :: 46 :: 182 :: 0 :: 51 :: 87 :: 167 :: 6 :: 116 :: 43 :: sxL_law_621
noncomputable def sxL_law_573 : List UInt8 := 87 :: 44 :: 42 :: 29 :: 4 :: 96 :: 46 :: 182 :: 0 :: 46 :: 87 :: 167 :: 6 :: 149 :: 43 :: 42 :: 29 :: 4 :: 96 :: 46 :: 42 :: 29 :: 5 :: 96 :: sxL_law_597
noncomputable def sxL_law_548 : List UInt8 := 29 :: 4 :: 96 :: 46 :: 42 :: 29 :: 5 :: 96 :: 46 :: 182 :: 0 :: 41 :: 87 :: 167 :: 6 :: 172 :: 43 :: 42 :: 29 :: 4 :: 96 :: 46 :: 182 :: 0 :: 42 :: sxL_law_573
noncomputable def sxL_law_524 : List UInt8 := 182 :: 0 :: 37 :: 87 :: 167 :: 6 :: 205 :: 43 :: 42 :: 29 :: 4 :: 96 :: 46 :: 42 :: 29 :: 5 :: 96 :: 46 :: 182 :: 0 :: 38 :: 87 :: 44 :: 42 :: sxL_law_548
noncomputable def sxL_law_500 : List UInt8 := 29 :: 4 :: 96 :: 46 :: 42 :: 29 :: 5 :: 96 :: 46 :: 42 :: 29 :: 6 :: 96 :: 46 :: 42 :: 29 :: 7 :: 96 :: 46 :: 42 :: 29 :: 8 :: 96 :: 46 :: sxL_law_524
noncomputable def sxL_law_476 : List UInt8 := 5 :: 96 :: 46 :: 42 :: 29 :: 6 :: 96 :: 46 :: 42 :: 29 :: 7 :: 96 :: 46 :: 42 :: 29 :: 8 :: 96 :: 46 :: 182 :: 0 :: 33 :: 87 :: 44 :: 42 :: sxL_law_500
noncomputable def sxL_law_452 : List UInt8 := 8 :: 96 :: 46 :: 42 :: 29 :: 16 :: 6 :: 96 :: 46 :: 182 :: 0 :: 32 :: 87 :: 167 :: 7 :: 12 :: 43 :: 42 :: 29 :: 4 :: 96 :: 46 :: 42 :: 29 :: sxL_law_476
noncomputable def sxL_law_428 : List UInt8 := 87 :: 44 :: 42 :: 29 :: 4 :: 96 :: 46 :: 42 :: 29 :: 5 :: 96 :: 46 :: 42 :: 29 :: 6 :: 96 :: 46 :: 42 :: 29 :: 7 :: 96 :: 46 :: 42 :: 29 :: sxL_law_452
noncomputable def sxL_law_404 : List UInt8 := 42 :: 29 :: 6 :: 96 :: 46 :: 42 :: 29 :: 7 :: 96 :: 46 :: 42 :: 29 :: 8 :: 96 :: 46 :: 42 :: 29 :: 16 :: 6 :: 96 :: 46 :: 182 :: 0 :: 28 :: sxL_law_428
noncomputable def sxL_law_380 : List UInt8 := 46 :: 42 :: 29 :: 5 :: 96 :: 46 :: 182 :: 0 :: 27 :: 87 :: 167 :: 7 :: 87 :: 43 :: 42 :: 29 :: 4 :: 96 :: 46 :: 42 :: 29 :: 5 :: 96 :: 46 :: sxL_law_404
noncomputable def sxL_law_356 : List UInt8 := 87 :: 167 :: 7 :: 120 :: 43 :: 42 :: 29 :: 4 :: 96 :: 46 :: 42 :: 29 :: 5 :: 96 :: 46 :: 182 :: 0 :: 23 :: 87 :: 44 :: 42 :: 29 :: 4 :: 96 :: sxL_law_380
noncomputable def sxL_law_332 : List UInt8 := 44 :: 42 :: 29 :: 4 :: 96 :: 46 :: 42 :: 29 :: 5 :: 96 :: 46 :: 42 :: 29 :: 6 :: 96 :: 46 :: 42 :: 29 :: 7 :: 96 :: 46 :: 182 :: 0 :: 22 :: sxL_law_356
noncomputable def sxL_law_308 : List UInt8 := 42 :: 29 :: 4 :: 96 :: 46 :: 42 :: 29 :: 5 :: 96 :: 46 :: 42 :: 29 :: 6 :: 96 :: 46 :: 42 :: 29 :: 7 :: 96 :: 46 :: 182 :: 0 :: 18 :: 87 :: sxL_law_332
noncomputable def sxL_law_284 : List UInt8 := 43 :: 42 :: 29 :: 4 :: 96 :: 46 :: 182 :: 0 :: 13 :: 87 :: 44 :: 42 :: 29 :: 4 :: 96 :: 46 :: 182 :: 0 :: 17 :: 87 :: 167 :: 7 :: 173 :: 43 :: sxL_law_308
set_option maxRecDepth 100000 in
noncomputable def sxL_law_24 : List UInt8 := 163 :: 8 :: 203 :: 42 :: 29 :: 46 :: 16 :: 63 :: 126 :: 170 :: 0 :: 0 :: 0 :: 0 :: 8 :: 188 :: 0 :: 0 :: 0 :: 0 :: 0 :: 0 :: 0 :: 58 :: 0 :: 0 :: 0 :: 251 :: 0 :: 0 :: 1 :: 18 :: 0 :: 0 :: 1 :: 71 :: 0 :: 0 :: 1 :: 104 :: 0 :: 0 :: 1 :: 179 :: 0 :: 0 :: 1 :: 242 :: 0 :: 0 :: 2 :: 19 :: 0 :: 0 :: 2 :: 42 :: 0 :: 0 :: 2 :: 75 :: 0 :: 0 :: 2 :: 98 :: 0 :: 0 :: 2 :: 131 :: 0 :: 0 :: 2 :: 154 :: 0 :: 0 :: 2 :: 187 :: 0 :: 0 :: 2 :: 230 :: 0 :: 0 :: 2 :: 253 :: 0 :: 0 :: 3 :: 20 :: 0 :: 0 :: 3 :: 53 :: 0 :: 0 :: 3 :: 66 :: 0 :: 0 :: 3 :: 119 :: 0 :: 0 :: 3 :: 142 :: 0 :: 0 :: 3 :: 175 :: 0 :: 0 :: 3 :: 218 :: 0 :: 0 :: 3 :: 251 :: 0 :: 0 :: 4 :: 28 :: 0 :: 0 :: 4 :: 61 :: 0 :: 0 :: 4 :: 94 :: 0 :: 0 :: 4 :: 127 :: 0 :: 0 :: 4 :: 150 :: 0 :: 0 :: 4 :: 183 :: 0 :: 0 :: 4 :: 216 :: 0 :: 0 :: 4 :: 249 :: 0 :: 0 :: 5 :: 26 :: 0 :: 0 :: 5 :: 59 :: 0 :: 0 :: 5 :: 92 :: 0 :: 0 :: 5 :: 135 :: 0 :: 0 :: 5 :: 168 :: 0 :: 0 :: 5 :: 191 :: 0 :: 0 :: 5 :: 250 :: 0 :: 0 :: 6 :: 37 :: 0 :: 0 :: 6 :: 90 :: 0 :: 0 :: 6 :: 123 :: 0 :: 0 :: 6 :: 156 :: 0 :: 0 :: 6 :: 169 :: 0 :: 0 :: 6 :: 212 :: 0 :: 0 :: 6 :: 245 :: 0 :: 0 :: 7 :: 12 :: 0 :: 0 :: 7 :: 45 :: 0 :: 0 :: 7 :: 78 :: 0 :: 0 :: 7 :: 111 :: 0 :: 0 :: 7 :: 154 :: 0 :: 0 :: 7 :: 177 :: 0 :: 0 :: 7 :: 210 :: 0 :: 0 :: 7 :: 233 :: 0 :: 0 :: 8 :: 10 :: 0 :: 0 :: 8 :: 53 :: 0 :: 0 :: 8 :: 86 :: 0 :: 0 :: 8 :: 109 :: 0 :: 0 :: 8 :: 132 :: 0 :: 0 :: 8 :: 165 :: sxL_law_284
set_option maxRecDepth 100000 in
theorem shL_law_0 : code.data.toList.drop 0 = 187 :: 0 :: 7 :: 89 :: 183 :: 0 :: 9 :: 76 :: 187 :: 0 :: 10 :: 89 :: 183 :: 0 :: 12 :: 77 :: 3 :: 62 :: 29 :: 42 :: 190 :: 16 :: 7 :: 100 :: sxL_law_24 := rfl
set_option maxRecDepth 100000 in
theorem shL_law_24 : code.data.toList.drop 24 = 163 :: 8 :: 203 :: 42 :: 29 :: 46 :: 16 :: 63 :: 126 :: 170 :: 0 :: 0 :: 0 :: 0 :: 8 :: 188 :: 0 :: 0 :: 0 :: 0 :: 0 :: 0 :: 0 :: 58 :: 0 :: 0 :: 0 :: 251 :: 0 :: 0 :: 1 :: 18 :: 0 :: 0 :: 1 :: 71 :: 0 :: 0 :: 1 :: 104 :: 0 :: 0 :: 1 :: 179 :: 0 :: 0 :: 1 :: 242 :: 0 :: 0 :: 2 :: 19 :: 0 :: 0 :: 2 :: 42 :: 0 :: 0 :: 2 :: 75 :: 0 :: 0 :: 2 :: 98 :: 0 :: 0 :: 2 :: 131 :: 0 :: 0 :: 2 :: 154 :: 0 :: 0 :: 2 :: 187 :: 0 :: 0 :: 2 :: 230 :: 0 :: 0 :: 2 :: 253 :: 0 :: 0 :: 3 :: 20 :: 0 :: 0 :: 3 :: 53 :: 0 :: 0 :: 3 :: 66 :: 0 :: 0 :: 3 :: 119 :: 0 :: 0 :: 3 :: 142 :: 0 :: 0 :: 3 :: 175 :: 0 :: 0 :: 3 :: 218 :: 0 :: 0 :: 3 :: 251 :: 0 :: 0 :: 4 :: 28 :: 0 :: 0 :: 4 :: 61 :: 0 :: 0 :: 4 :: 94 :: 0 :: 0 :: 4 :: 127 :: 0 :: 0 :: 4 :: 150 :: 0 :: 0 :: 4 :: 183 :: 0 :: 0 :: 4 :: 216 :: 0 :: 0 :: 4 :: 249 :: 0 :: 0 :: 5 :: 26 :: 0 :: 0 :: 5 :: 59 :: 0 :: 0 :: 5 :: 92 :: 0 :: 0 :: 5 :: 135 :: 0 :: 0 :: 5 :: 168 :: 0 :: 0 :: 5 :: 191 :: 0 :: 0 :: 5 :: 250 :: 0 :: 0 :: 6 :: 37 :: 0 :: 0 :: 6 :: 90 :: 0 :: 0 :: 6 :: 123 :: 0 :: 0 :: 6 :: 156 :: 0 :: 0 :: 6 :: 169 :: 0 :: 0 :: 6 :: 212 :: 0 :: 0 :: 6 :: 245 :: 0 :: 0 :: 7 :: 12 :: 0 :: 0 :: 7 :: 45 :: 0 :: 0 :: 7 :: 78 :: 0 :: 0 :: 7 :: 111 :: 0 :: 0 :: 7 :: 154 :: 0 :: 0 :: 7 :: 177 :: 0 :: 0 :: 7 :: 210 :: 0 :: 0 :: 7 :: 233 :: 0 :: 0 :: 8 :: 10 :: 0 :: 0 :: 8 :: 53 :: 0 :: 0 :: 8 :: 86 :: 0 :: 0 :: 8 :: 109 :: 0 :: 0 :: 8 :: 132 :: 0 :: 0 :: 8 :: 165 :: sxL_law_284 := aq_24 shL_law_0
theorem shL_law_284 : code.data.toList.drop 284 = 43 :: 42 :: 29 :: 4 :: 96 :: 46 :: 182 :: 0 :: 13 :: 87 :: 44 :: 42 :: 29 :: 4 :: 96 :: 46 :: 182 :: 0 :: 17 :: 87 :: 167 :: 7 :: 173 :: 43 :: sxL_law_308 := dSn 260 shL_law_24
theorem shL_law_308 : code.data.toList.drop 308 = 42 :: 29 :: 4 :: 96 :: 46 :: 42 :: 29 :: 5 :: 96 :: 46 :: 42 :: 29 :: 6 :: 96 :: 46 :: 42 :: 29 :: 7 :: 96 :: 46 :: 182 :: 0 :: 18 :: 87 :: sxL_law_332 := aq_24 shL_law_284
theorem shL_law_332 : code.data.toList.drop 332 = 44 :: 42 :: 29 :: 4 :: 96 :: 46 :: 42 :: 29 :: 5 :: 96 :: 46 :: 42 :: 29 :: 6 :: 96 :: 46 :: 42 :: 29 :: 7 :: 96 :: 46 :: 182 :: 0 :: 22 :: sxL_law_356 := aq_24 shL_law_308
theorem shL_law_356 : code.data.toList.drop 356 = 87 :: 167 :: 7 :: 120 :: 43 :: 42 :: 29 :: 4 :: 96 :: 46 :: 42 :: 29 :: 5 :: 96 :: 46 :: 182 :: 0 :: 23 :: 87 :: 44 :: 42 :: 29 :: 4 :: 96 :: sxL_law_380 := aq_24 shL_law_332
theorem shL_law_380 : code.data.toList.drop 380 = 46 :: 42 :: 29 :: 5 :: 96 :: 46 :: 182 :: 0 :: 27 :: 87 :: 167 :: 7 :: 87 :: 43 :: 42 :: 29 :: 4 :: 96 :: 46 :: 42 :: 29 :: 5 :: 96 :: 46 :: sxL_law_404 := aq_24 shL_law_356
theorem shL_law_404 : code.data.toList.drop 404 = 42 :: 29 :: 6 :: 96 :: 46 :: 42 :: 29 :: 7 :: 96 :: 46 :: 42 :: 29 :: 8 :: 96 :: 46 :: 42 :: 29 :: 16 :: 6 :: 96 :: 46 :: 182 :: 0 :: 28 :: sxL_law_428 := aq_24 shL_law_380
theorem shL_law_428 : code.data.toList.drop 428 = 87 :: 44 :: 42 :: 29 :: 4 :: 96 :: 46 :: 42 :: 29 :: 5 :: 96 :: 46 :: 42 :: 29 :: 6 :: 96 :: 46 :: 42 :: 29 :: 7 :: 96 :: 46 :: 42 :: 29 :: sxL_law_452 := aq_24 shL_law_404
theorem shL_law_452 : code.data.toList.drop 452 = 8 :: 96 :: 46 :: 42 :: 29 :: 16 :: 6 :: 96 :: 46 :: 182 :: 0 :: 32 :: 87 :: 167 :: 7 :: 12 :: 43 :: 42 :: 29 :: 4 :: 96 :: 46 :: 42 :: 29 :: sxL_law_476 := aq_24 shL_law_428
theorem shL_law_476 : code.data.toList.drop 476 = 5 :: 96 :: 46 :: 42 :: 29 :: 6 :: 96 :: 46 :: 42 :: 29 :: 7 :: 96 :: 46 :: 42 :: 29 :: 8 :: 96 :: 46 :: 182 :: 0 :: 33 :: 87 :: 44 :: 42 :: sxL_law_500 := aq_24 shL_law_452
theorem shL_law_500 : code.data.toList.drop 500 = 29 :: 4 :: 96 :: 46 :: 42 :: 29 :: 5 :: 96 :: 46 :: 42 :: 29 :: 6 :: 96 :: 46 :: 42 :: 29 :: 7 :: 96 :: 46 :: 42 :: 29 :: 8 :: 96 :: 46 :: sxL_law_524 := aq_24 shL_law_476
theorem shL_law_524 : code.data.toList.drop 524 = 182 :: 0 :: 37 :: 87 :: 167 :: 6 :: 205 :: 43 :: 42 :: 29 :: 4 :: 96 :: 46 :: 42 :: 29 :: 5 :: 96 :: 46 :: 182 :: 0 :: 38 :: 87 :: 44 :: 42 :: sxL_law_548 := aq_24 shL_law_500
theorem shL_law_548 : code.data.toList.drop 548 = 29 :: 4 :: 96 :: 46 :: 42 :: 29 :: 5 :: 96 :: 46 :: 182 :: 0 :: 41 :: 87 :: 167 :: 6 :: 172 :: 43 :: 42 :: 29 :: 4 :: 96 :: 46 :: 182 :: 0 :: 42 :: sxL_law_573 := aq_24 shL_law_524
theorem shL_law_573 : code.data.toList.drop 573 = 87 :: 44 :: 42 :: 29 :: 4 :: 96 :: 46 :: 182 :: 0 :: 46 :: 87 :: 167 :: 6 :: 149 :: 43 :: 42 :: 29 :: 4 :: 96 :: 46 :: 42 :: 29 :: 5 :: 96 :: sxL_law_597 := aq_25 shL_law_548
theorem shL_law_597 : code.data.toList.drop 597 = 46 :: 182 :: 0 :: 47 :: 87 :: 44 :: 42 :: 29 :: 4 :: 96 :: 46 :: 42 :: 29 :: 5 :: 96 :: 46 :: 182 :: 0 :: 51 :: 87 :: 167 :: 6 :: 116 :: 43 :: sxL_law_621 := aq_24 shL_law_573
theorem shL_law_621 : code.data.toList.drop 621 = 42 :: 29 :: 4 :: 96 :: 46 :: 182 :: 0 :: 52 :: 87 :: 44 :: 42 :: 29 :: 4 :: 96 :: 46 :: 182 :: 0 :: 55 :: 87 :: 167 :: 6 :: 93 :: 43 :: 42 :: sxL_law_645 := aq_24 shL_law_597
theorem shL_law_645 : code.data.toList.drop 645 = 29 :: 4 :: 96 :: 46 :: 42 :: 29 :: 5 :: 96 :: 46 :: 182 :: 0 :: 56 :: 87 :: 44 :: 42 :: 29 :: 4 :: 96 :: 46 :: 42 :: 29 :: 5 :: 96 :: 46 :: sxL_law_669 := aq_24 shL_law_621
theorem shL_law_669 : code.data.toList.drop 669 = 182 :: 0 :: 59 :: 87 :: 167 :: 6 :: 60 :: 43 :: 42 :: 29 :: 4 :: 96 :: 46 :: 182 :: 0 :: 60 :: 87 :: 44 :: 42 :: 29 :: 4 :: 96 :: 46 :: 182 :: 0 :: 63 :: sxL_law_695 := aq_24 shL_law_645
theorem shL_law_695 : code.data.toList.drop 695 = 87 :: 167 :: 6 :: 37 :: 43 :: 42 :: 29 :: 4 :: 96 :: 46 :: 42 :: 29 :: 5 :: 96 :: 46 :: 182 :: 0 :: 64 :: 88 :: 44 :: 42 :: 29 :: 4 :: 96 :: sxL_law_719 := aq_26 shL_law_669
theorem shL_law_719 : code.data.toList.drop 719 = 46 :: 42 :: 29 :: 5 :: 96 :: 46 :: 182 :: 0 :: 68 :: 88 :: 167 :: 6 :: 4 :: 43 :: 42 :: 29 :: 4 :: 96 :: 46 :: 42 :: 29 :: 5 :: 96 :: 46 :: sxL_law_743 := aq_24 shL_law_695
theorem shL_law_743 : code.data.toList.drop 743 = 42 :: 29 :: 6 :: 96 :: 46 :: 182 :: 0 :: 69 :: 87 :: 44 :: 42 :: 29 :: 4 :: 96 :: 46 :: 42 :: 29 :: 5 :: 96 :: 46 :: 42 :: 29 :: 6 :: 96 :: sxL_law_767 := aq_24 shL_law_719
theorem shL_law_767 : code.data.toList.drop 767 = 46 :: 182 :: 0 :: 73 :: 87 :: 167 :: 5 :: 217 :: 43 :: 42 :: 29 :: 4 :: 96 :: 46 :: 182 :: 0 :: 74 :: 87 :: 44 :: 42 :: 29 :: 4 :: 96 :: 46 :: sxL_law_791 := aq_24 shL_law_743
theorem shL_law_791 : code.data.toList.drop 791 = 182 :: 0 :: 77 :: 87 :: 167 :: 5 :: 194 :: 43 :: 42 :: 29 :: 4 :: 96 :: 46 :: 182 :: 0 :: 78 :: 87 :: 44 :: 42 :: 29 :: 4 :: 96 :: 46 :: 182 :: 0 :: 81 :: sxL_law_817 := aq_24 shL_law_767
theorem shL_law_817 : code.data.toList.drop 817 = 87 :: 167 :: 5 :: 171 :: 43 :: 42 :: 29 :: 4 :: 96 :: 46 :: 42 :: 29 :: 5 :: 96 :: 46 :: 182 :: 0 :: 82 :: 87 :: 44 :: 42 :: 29 :: 4 :: 96 :: sxL_law_841 := aq_26 shL_law_791
theorem shL_law_841 : code.data.toList.drop 841 = 46 :: 42 :: 29 :: 5 :: 96 :: 46 :: 182 :: 0 :: 85 :: 87 :: 167 :: 5 :: 138 :: 43 :: 182 :: 0 :: 86 :: 87 :: 44 :: 182 :: 0 :: 90 :: 87 :: 167 :: 5 :: 125 :: sxL_law_867 := aq_24 shL_law_817
theorem shL_law_867 : code.data.toList.drop 867 = 43 :: 42 :: 29 :: 4 :: 96 :: 46 :: 42 :: 29 :: 5 :: 96 :: 46 :: 42 :: 29 :: 6 :: 96 :: 46 :: 42 :: 29 :: 7 :: 96 :: 46 :: 182 :: 0 :: 91 :: sxL_law_891 := aq_26 shL_law_841
theorem shL_law_891 : code.data.toList.drop 891 = 87 :: 44 :: 42 :: 29 :: 4 :: 96 :: 46 :: 42 :: 29 :: 5 :: 96 :: 46 :: 42 :: 29 :: 6 :: 96 :: 46 :: 42 :: 29 :: 7 :: 96 :: 46 :: 182 :: 0 :: 94 :: sxL_law_916 := aq_24 shL_law_867
theorem shL_law_916 : code.data.toList.drop 916 = 87 :: 167 :: 5 :: 72 :: 43 :: 42 :: 29 :: 4 :: 96 :: 46 :: 182 :: 0 :: 95 :: 87 :: 44 :: 42 :: 29 :: 4 :: 96 :: 46 :: 182 :: 0 :: 98 :: 87 :: sxL_law_940 := aq_25 shL_law_891
theorem shL_law_940 : code.data.toList.drop 940 = 167 :: 5 :: 49 :: 43 :: 42 :: 29 :: 4 :: 96 :: 46 :: 42 :: 29 :: 5 :: 96 :: 46 :: 182 :: 0 :: 99 :: 87 :: 44 :: 42 :: 29 :: 4 :: 96 :: 46 :: sxL_law_964 := aq_24 shL_law_916
theorem shL_law_964 : code.data.toList.drop 964 = 42 :: 29 :: 5 :: 96 :: 46 :: 182 :: 0 :: 102 :: 87 :: 167 :: 5 :: 16 :: 43 :: 42 :: 29 :: 4 :: 96 :: 46 :: 42 :: 29 :: 5 :: 96 :: 46 :: 42 :: sxL_law_988 := aq_24 shL_law_940
theorem shL_law_988 : code.data.toList.drop 988 = 29 :: 6 :: 96 :: 46 :: 182 :: 0 :: 103 :: 87 :: 44 :: 42 :: 29 :: 4 :: 96 :: 46 :: 42 :: 29 :: 5 :: 96 :: 46 :: 42 :: 29 :: 6 :: 96 :: 46 :: sxL_law_1012 := aq_24 shL_law_964
theorem shL_law_1012 : code.data.toList.drop 1012 = 182 :: 0 :: 107 :: 87 :: 167 :: 4 :: 229 :: 43 :: 42 :: 29 :: 4 :: 96 :: 46 :: 42 :: 29 :: 5 :: 96 :: 46 :: 182 :: 0 :: 108 :: 87 :: 44 :: 42 :: sxL_law_1036 := aq_24 shL_law_988
theorem shL_law_1036 : code.data.toList.drop 1036 = 29 :: 4 :: 96 :: 46 :: 42 :: 29 :: 5 :: 96 :: 46 :: 182 :: 0 :: 111 :: 87 :: 167 :: 4 :: 196 :: 43 :: 42 :: 29 :: 4 :: 96 :: 46 :: 42 :: 29 :: sxL_law_1060 := aq_24 shL_law_1012
theorem shL_law_1060 : code.data.toList.drop 1060 = 5 :: 96 :: 46 :: 182 :: 0 :: 112 :: 87 :: 44 :: 42 :: 29 :: 4 :: 96 :: 46 :: 42 :: 29 :: 5 :: 96 :: 46 :: 182 :: 0 :: 115 :: 87 :: 167 :: 4 :: 163 :: sxL_law_1085 := aq_24 shL_law_1036
theorem shL_law_1085 : code.data.toList.drop 1085 = 43 :: 42 :: 29 :: 4 :: 96 :: 46 :: 42 :: 29 :: 5 :: 96 :: 46 :: 182 :: 0 :: 116 :: 87 :: 44 :: 42 :: 29 :: 4 :: 96 :: 46 :: 42 :: 29 :: 5 :: sxL_law_1109 := aq_25 shL_law_1060
theorem shL_law_1109 : code.data.toList.drop 1109 = 96 :: 46 :: 182 :: 0 :: 119 :: 87 :: 167 :: 4 :: 130 :: 43 :: 42 :: 29 :: 4 :: 96 :: 46 :: 42 :: 29 :: 5 :: 96 :: 46 :: 182 :: 0 :: 120 :: 87 :: sxL_law_1133 := aq_24 shL_law_1085
theorem shL_law_1133 : code.data.toList.drop 1133 = 44 :: 42 :: 29 :: 4 :: 96 :: 46 :: 42 :: 29 :: 5 :: 96 :: 46 :: 182 :: 0 :: 123 :: 87 :: 167 :: 4 :: 97 :: 43 :: 42 :: 29 :: 4 :: 96 :: 46 :: sxL_law_1157 := aq_24 shL_law_1109
theorem shL_law_1157 : code.data.toList.drop 1157 = 42 :: 29 :: 5 :: 96 :: 46 :: 182 :: 0 :: 124 :: 87 :: 44 :: 42 :: 29 :: 4 :: 96 :: 46 :: 42 :: 29 :: 5 :: 96 :: 46 :: 182 :: 0 :: 127 :: 87 :: sxL_law_1181 := aq_24 shL_law_1133
theorem shL_law_1181 : code.data.toList.drop 1181 = 167 :: 4 :: 64 :: 43 :: 42 :: 29 :: 4 :: 96 :: 46 :: 182 :: 0 :: 128 :: 87 :: 44 :: 42 :: 29 :: 4 :: 96 :: 46 :: 182 :: 0 :: 131 :: 87 :: 167 :: 4 :: 41 :: sxL_law_1207 := aq_24 shL_law_1157
theorem shL_law_1207 : code.data.toList.drop 1207 = 43 :: 42 :: 29 :: 4 :: 96 :: 46 :: 42 :: 29 :: 5 :: 96 :: 46 :: 182 :: 0 :: 132 :: 87 :: 44 :: 42 :: 29 :: 4 :: 96 :: 46 :: 42 :: 29 :: 5 :: sxL_law_1231 := aq_26 shL_law_1181
theorem shL_law_1231 : code.data.toList.drop 1231 = 96 :: 46 :: 182 :: 0 :: 135 :: 87 :: 167 :: 4 :: 8 :: 43 :: 42 :: 29 :: 4 :: 96 :: 46 :: 42 :: 29 :: 5 :: 96 :: 46 :: 182 :: 0 :: 136 :: 87 :: sxL_law_1255 := aq_24 shL_law_1207
theorem shL_law_1255 : code.data.toList.drop 1255 = 44 :: 42 :: 29 :: 4 :: 96 :: 46 :: 42 :: 29 :: 5 :: 96 :: 46 :: 182 :: 0 :: 139 :: 87 :: 167 :: 3 :: 231 :: 43 :: 42 :: 29 :: 4 :: 96 :: 46 :: sxL_law_1279 := aq_24 shL_law_1231
theorem shL_law_1279 : code.data.toList.drop 1279 = 42 :: 29 :: 5 :: 96 :: 46 :: 182 :: 0 :: 140 :: 87 :: 44 :: 42 :: 29 :: 4 :: 96 :: 46 :: 42 :: 29 :: 5 :: 96 :: 46 :: 182 :: 0 :: 143 :: 87 :: sxL_law_1303 := aq_24 shL_law_1255
theorem shL_law_1303 : code.data.toList.drop 1303 = 167 :: 3 :: 198 :: 43 :: 42 :: 29 :: 4 :: 96 :: 46 :: 42 :: 29 :: 5 :: 96 :: 46 :: 182 :: 0 :: 144 :: 87 :: 44 :: 42 :: 29 :: 4 :: 96 :: 46 :: sxL_law_1327 := aq_24 shL_law_1279
theorem shL_law_1327 : code.data.toList.drop 1327 = 42 :: 29 :: 5 :: 96 :: 46 :: 182 :: 0 :: 147 :: 87 :: 167 :: 3 :: 165 :: 43 :: 42 :: 29 :: 4 :: 96 :: 46 :: 42 :: 29 :: 5 :: 96 :: 46 :: 182 :: 0 :: 148 :: sxL_law_1353 := aq_24 shL_law_1303
theorem shL_law_1353 : code.data.toList.drop 1353 = 87 :: 44 :: 42 :: 29 :: 4 :: 96 :: 46 :: 42 :: 29 :: 5 :: 96 :: 46 :: 182 :: 0 :: 151 :: 87 :: 167 :: 3 :: 132 :: 43 :: 42 :: 29 :: 4 :: 96 :: sxL_law_1377 := aq_26 shL_law_1327
theorem shL_law_1377 : code.data.toList.drop 1377 = 46 :: 42 :: 29 :: 5 :: 96 :: 46 :: 182 :: 0 :: 152 :: 88 :: 44 :: 42 :: 29 :: 4 :: 96 :: 46 :: 42 :: 29 :: 5 :: 96 :: 46 :: 182 :: 0 :: 155 :: sxL_law_1401 := aq_24 shL_law_1353
theorem shL_law_1401 : code.data.toList.drop 1401 = 88 :: 167 :: 3 :: 99 :: 43 :: 42 :: 29 :: 4 :: 96 :: 46 :: 42 :: 29 :: 5 :: 96 :: 46 :: 42 :: 29 :: 6 :: 96 :: 46 :: 182 :: 0 :: 156 :: 88 :: sxL_law_1425 := aq_24 shL_law_1377
theorem shL_law_1425 : code.data.toList.drop 1425 = 44 :: 42 :: 29 :: 4 :: 96 :: 46 :: 42 :: 29 :: 5 :: 96 :: 46 :: 42 :: 29 :: 6 :: 96 :: 46 :: 182 :: 0 :: 160 :: 88 :: 167 :: 3 :: 56 :: 43 :: sxL_law_1449 := aq_24 shL_law_1401
theorem shL_law_1449 : code.data.toList.drop 1449 = 42 :: 29 :: 4 :: 96 :: 46 :: 42 :: 29 :: 5 :: 96 :: 46 :: 182 :: 0 :: 161 :: 87 :: 44 :: 42 :: 29 :: 4 :: 96 :: 46 :: 42 :: 29 :: 5 :: 96 :: sxL_law_1473 := aq_24 shL_law_1425
theorem shL_law_1473 : code.data.toList.drop 1473 = 46 :: 182 :: 0 :: 164 :: 87 :: 167 :: 3 :: 23 :: 43 :: 42 :: 29 :: 4 :: 96 :: 46 :: 182 :: 0 :: 165 :: 87 :: 44 :: 42 :: 29 :: 4 :: 96 :: 46 :: sxL_law_1497 := aq_24 shL_law_1449
theorem shL_law_1497 : code.data.toList.drop 1497 = 182 :: 0 :: 168 :: 87 :: 167 :: 3 :: 0 :: 43 :: 42 :: 29 :: 4 :: 96 :: 46 :: 42 :: 29 :: 5 :: 96 :: 46 :: 42 :: 29 :: 6 :: 96 :: 46 :: 153 :: 0 :: 7 :: sxL_law_1523 := aq_24 shL_law_1473
theorem shL_law_1523 : code.data.toList.drop 1523 = 4 :: 167 :: 0 :: 4 :: 3 :: 182 :: 0 :: 169 :: 87 :: 44 :: 42 :: 29 :: 4 :: 96 :: 46 :: 42 :: 29 :: 5 :: 96 :: 46 :: 42 :: 29 :: 6 :: 96 :: sxL_law_1547 := aq_26 shL_law_1497
theorem shL_law_1547 : code.data.toList.drop 1547 = 46 :: 153 :: 0 :: 7 :: 4 :: 167 :: 0 :: 4 :: 3 :: 182 :: 0 :: 173 :: 87 :: 167 :: 2 :: 197 :: 43 :: 42 :: 29 :: 4 :: 96 :: 46 :: 42 :: 29 :: sxL_law_1571 := aq_24 shL_law_1523
theorem shL_law_1571 : code.data.toList.drop 1571 = 5 :: 96 :: 46 :: 42 :: 29 :: 6 :: 96 :: 46 :: 182 :: 0 :: 174 :: 87 :: 44 :: 42 :: 29 :: 4 :: 96 :: 46 :: 42 :: 29 :: 5 :: 96 :: 46 :: 42 :: sxL_law_1595 := aq_24 shL_law_1547
theorem shL_law_1595 : code.data.toList.drop 1595 = 29 :: 6 :: 96 :: 46 :: 182 :: 0 :: 177 :: 87 :: 167 :: 2 :: 154 :: 43 :: 42 :: 29 :: 4 :: 96 :: 46 :: 42 :: 29 :: 5 :: 96 :: 46 :: 42 :: 29 :: sxL_law_1619 := aq_24 shL_law_1571
theorem shL_law_1619 : code.data.toList.drop 1619 = 6 :: 96 :: 46 :: 42 :: 29 :: 7 :: 96 :: 46 :: 182 :: 0 :: 178 :: 87 :: 44 :: 42 :: 29 :: 4 :: 96 :: 46 :: 42 :: 29 :: 5 :: 96 :: 46 :: 42 :: sxL_law_1643 := aq_24 shL_law_1595
theorem shL_law_1643 : code.data.toList.drop 1643 = 29 :: 6 :: 96 :: 46 :: 42 :: 29 :: 7 :: 96 :: 46 :: 182 :: 0 :: 181 :: 87 :: 167 :: 2 :: 101 :: 43 :: 42 :: 29 :: 4 :: 96 :: 46 :: 42 :: 29 :: sxL_law_1667 := aq_24 shL_law_1619
theorem shL_law_1667 : code.data.toList.drop 1667 = 5 :: 96 :: 46 :: 182 :: 0 :: 182 :: 87 :: 44 :: 42 :: 29 :: 4 :: 96 :: 46 :: 42 :: 29 :: 5 :: 96 :: 46 :: 182 :: 0 :: 185 :: 87 :: 167 :: 2 :: 68 :: sxL_law_1692 := aq_24 shL_law_1643
theorem shL_law_1692 : code.data.toList.drop 1692 = 43 :: 42 :: 29 :: 4 :: 96 :: 46 :: 42 :: 29 :: 5 :: 96 :: 46 :: 182 :: 0 :: 186 :: 87 :: 44 :: 42 :: 29 :: 4 :: 96 :: 46 :: 42 :: 29 :: 5 :: sxL_law_1716 := aq_25 shL_law_1667
theorem shL_law_1716 : code.data.toList.drop 1716 = 96 :: 46 :: 182 :: 0 :: 189 :: 87 :: 167 :: 2 :: 35 :: 43 :: 182 :: 0 :: 190 :: 44 :: 182 :: 0 :: 193 :: 159 :: 2 :: 24 :: 3 :: 172 :: 43 :: 42 :: sxL_law_1740 := aq_24 shL_law_1692
theorem shL_law_1740 : code.data.toList.drop 1740 = 29 :: 4 :: 96 :: 46 :: 42 :: 29 :: 5 :: 96 :: 46 :: 42 :: 29 :: 6 :: 96 :: 46 :: 182 :: 0 :: 194 :: 87 :: 44 :: 42 :: 29 :: 4 :: 96 :: 46 :: sxL_law_1764 := aq_24 shL_law_1716
theorem shL_law_1764 : code.data.toList.drop 1764 = 42 :: 29 :: 5 :: 96 :: 46 :: 42 :: 29 :: 6 :: 96 :: 46 :: 182 :: 0 :: 197 :: 87 :: 167 :: 1 :: 235 :: 43 :: 42 :: 29 :: 4 :: 96 :: 46 :: 42 :: sxL_law_1788 := aq_24 shL_law_1740
theorem shL_law_1788 : code.data.toList.drop 1788 = 29 :: 5 :: 96 :: 46 :: 182 :: 0 :: 198 :: 87 :: 44 :: 42 :: 29 :: 4 :: 96 :: 46 :: 42 :: 29 :: 5 :: 96 :: 46 :: 182 :: 0 :: 201 :: 87 :: 167 :: 1 :: 202 :: sxL_law_1814 := aq_24 shL_law_1764
theorem shL_law_1814 : code.data.toList.drop 1814 = 43 :: 42 :: 29 :: 4 :: 96 :: 46 :: 182 :: 0 :: 202 :: 87 :: 44 :: 42 :: 29 :: 4 :: 96 :: 46 :: 182 :: 0 :: 205 :: 87 :: 167 :: 1 :: 179 :: 43 :: sxL_law_1838 := aq_26 shL_law_1788
theorem shL_law_1838 : code.data.toList.drop 1838 = 42 :: 29 :: 4 :: 96 :: 46 :: 42 :: 29 :: 5 :: 96 :: 46 :: 182 :: 0 :: 206 :: 87 :: 44 :: 42 :: 29 :: 4 :: 96 :: 46 :: 42 :: 29 :: 5 :: 96 :: sxL_law_1862 := aq_24 shL_law_1814
theorem shL_law_1862 : code.data.toList.drop 1862 = 46 :: 182 :: 0 :: 209 :: 87 :: 167 :: 1 :: 146 :: 43 :: 42 :: 29 :: 4 :: 96 :: 46 :: 42 :: 29 :: 5 :: 96 :: 46 :: 182 :: 0 :: 210 :: 87 :: 44 :: sxL_law_1886 := aq_24 shL_law_1838
theorem shL_law_1886 : code.data.toList.drop 1886 = 42 :: 29 :: 4 :: 96 :: 46 :: 42 :: 29 :: 5 :: 96 :: 46 :: 182 :: 0 :: 213 :: 87 :: 167 :: 1 :: 113 :: 43 :: 42 :: 29 :: 4 :: 96 :: 46 :: 42 :: sxL_law_1910 := aq_24 shL_law_1862
theorem shL_law_1910 : code.data.toList.drop 1910 = 29 :: 5 :: 96 :: 46 :: 182 :: 0 :: 214 :: 87 :: 44 :: 42 :: 29 :: 4 :: 96 :: 46 :: 42 :: 29 :: 5 :: 96 :: 46 :: 182 :: 0 :: 217 :: 87 :: 167 :: 1 :: 80 :: sxL_law_1936 := aq_24 shL_law_1886
theorem shL_law_1936 : code.data.toList.drop 1936 = 43 :: 42 :: 29 :: 4 :: 96 :: 46 :: 42 :: 29 :: 5 :: 96 :: 46 :: 42 :: 29 :: 6 :: 96 :: 46 :: 182 :: 0 :: 218 :: 87 :: 44 :: 42 :: 29 :: 4 :: sxL_law_1960 := aq_26 shL_law_1910
theorem shL_law_1960 : code.data.toList.drop 1960 = 96 :: 46 :: 42 :: 29 :: 5 :: 96 :: 46 :: 42 :: 29 :: 6 :: 96 :: 46 :: 182 :: 0 :: 221 :: 87 :: 167 :: 1 :: 37 :: 43 :: 42 :: 29 :: 4 :: 96 :: sxL_law_1984 := aq_24 shL_law_1936
theorem shL_law_1984 : code.data.toList.drop 1984 = 46 :: 182 :: 0 :: 222 :: 87 :: 44 :: 42 :: 29 :: 4 :: 96 :: 46 :: 182 :: 0 :: 225 :: 87 :: 167 :: 1 :: 14 :: 43 :: 42 :: 29 :: 4 :: 96 :: 46 :: sxL_law_2008 := aq_24 shL_law_1960
theorem shL_law_2008 : code.data.toList.drop 2008 = 42 :: 29 :: 5 :: 96 :: 46 :: 182 :: 0 :: 226 :: 87 :: 44 :: 42 :: 29 :: 4 :: 96 :: 46 :: 42 :: 29 :: 5 :: 96 :: 46 :: 182 :: 0 :: 229 :: 87 :: sxL_law_2032 := aq_24 shL_law_1984
theorem shL_law_2032 : code.data.toList.drop 2032 = 167 :: 0 :: 237 :: 43 :: 42 :: 29 :: 4 :: 96 :: 46 :: 182 :: 0 :: 230 :: 87 :: 44 :: 42 :: 29 :: 4 :: 96 :: 46 :: 182 :: 0 :: 233 :: 87 :: 167 :: 0 :: 214 :: sxL_law_2058 := aq_24 shL_law_2008
theorem shL_law_2058 : code.data.toList.drop 2058 = 43 :: 42 :: 29 :: 4 :: 96 :: 46 :: 42 :: 29 :: 5 :: 96 :: 46 :: 182 :: 0 :: 234 :: 87 :: 44 :: 42 :: 29 :: 4 :: 96 :: 46 :: 42 :: 29 :: 5 :: sxL_law_2082 := aq_26 shL_law_2032
theorem shL_law_2082 : code.data.toList.drop 2082 = 96 :: 46 :: 182 :: 0 :: 237 :: 87 :: 167 :: 0 :: 181 :: 43 :: 42 :: 29 :: 4 :: 96 :: 46 :: 42 :: 29 :: 5 :: 96 :: 46 :: 42 :: 29 :: 6 :: 96 :: sxL_law_2106 := aq_24 shL_law_2058
theorem shL_law_2106 : code.data.toList.drop 2106 = 46 :: 182 :: 0 :: 238 :: 87 :: 44 :: 42 :: 29 :: 4 :: 96 :: 46 :: 42 :: 29 :: 5 :: 96 :: 46 :: 42 :: 29 :: 6 :: 96 :: 46 :: 182 :: 0 :: 241 :: sxL_law_2130 := aq_24 shL_law_2082
theorem shL_law_2130 : code.data.toList.drop 2130 = 87 :: 167 :: 0 :: 138 :: 43 :: 42 :: 29 :: 4 :: 96 :: 46 :: 42 :: 29 :: 5 :: 96 :: 46 :: 182 :: 0 :: 242 :: 87 :: 44 :: 42 :: 29 :: 4 :: 96 :: sxL_law_2154 := aq_24 shL_law_2106
theorem shL_law_2154 : code.data.toList.drop 2154 = 46 :: 42 :: 29 :: 5 :: 96 :: 46 :: 182 :: 0 :: 245 :: 87 :: 167 :: 0 :: 105 :: 43 :: 42 :: 29 :: 4 :: 96 :: 46 :: 182 :: 0 :: 246 :: 87 :: 44 :: sxL_law_2178 := aq_24 shL_law_2130
theorem shL_law_2178 : code.data.toList.drop 2178 = 42 :: 29 :: 4 :: 96 :: 46 :: 182 :: 0 :: 249 :: 87 :: 167 :: 0 :: 82 :: 43 :: 42 :: 29 :: 4 :: 96 :: 46 :: 182 :: 0 :: 250 :: 87 :: 44 :: 42 :: sxL_law_2202 := aq_24 shL_law_2154
theorem shL_law_2202 : code.data.toList.drop 2202 = 29 :: 4 :: 96 :: 46 :: 182 :: 0 :: 253 :: 87 :: 167 :: 0 :: 59 :: 43 :: 42 :: 29 :: 4 :: 96 :: 46 :: 42 :: 29 :: 5 :: 96 :: 46 :: 182 :: 0 :: 254 :: sxL_law_2227 := aq_24 shL_law_2178
theorem shL_law_2227 : code.data.toList.drop 2227 = 87 :: 44 :: 42 :: 29 :: 4 :: 96 :: 46 :: 42 :: 29 :: 5 :: 96 :: 46 :: 182 :: 1 :: 1 :: 87 :: 167 :: 0 :: 26 :: 43 :: 42 :: 29 :: 4 :: 96 :: sxL_law_2251 := aq_25 shL_law_2202
theorem shL_law_2251 : code.data.toList.drop 2251 = 46 :: 182 :: 1 :: 2 :: 87 :: 44 :: 42 :: 29 :: 4 :: 96 :: 46 :: 182 :: 1 :: 5 :: 87 :: 167 :: 0 :: 3 :: 132 :: 3 :: 7 :: 167 :: 247 :: 50 :: sxL_law_2275 := aq_24 shL_law_2227
theorem shL_law_2275 : code.data.toList.drop 2275 = 4 :: 172 :: sxL_law_2277 := aq_24 shL_law_2251
set_option maxRecDepth 100000 in
set_option maxHeartbeats 4000000 in
theorem lawc_0 {p : Program} {l : Launch} {e : Env} {s : State} {m : MethodId} {below : List Frame} {meth : Method} {c : Code} {b L : Nat} {xs : Nat → Int32} (C0 : lw_At p s m meth c b L xs) (hLN : L ≤ 3584) {A : Nat → Prop} (hA : ∀ q : Nat, s.heap.size ≤ q → A q) (hbA : ¬ A b) {D : va_G} {cI cB cZ : ClassId} {zz qq vv : Nat} {bt : Nat → Int32} {g g2 : Nat → Nat} (hK : KK D cI cB cZ s) (hXS : XS D zz qq vv bt A s s.heap) {ad : Nat → Nat → Nat} {cn : Nat → Nat} {In : Nat → Int32} {Fn : Nat → Nat → Int32} {c3 : Nat → Nat} {I3 : Nat → Int32} {F3 : Nat → Nat → Int32} (hI : IX ad cn Fn) (hM : IMM c3 F3) (hR : RR cn Fn c3 F3) {H : Heap} {locs : List Loc} (hP : va_P D vwCl (wX cI (D.1 99) zz g ad cn In Fn ++ wM cI cB cZ g2 c3 I3 F3) H) (hD : va_D A (wX cI (D.1 99) zz g ad cn In Fn ++ wM cI cB cZ g2 c3 I3 F3)) (hS : va_S A s.heap H locs) {K N i : Nat} (hi : i + 7 ≤ L) (hKN : K + 8 ≤ 600000 ∧ N + 240 ≤ 7302250) {ls : Array Slot} (hl : lv_has ls 4 [(0, .ref b), (1, .ref (g 0)), (2, .ref (g2 100)), (3, .int (nI i))]) (kk : ∀ (ad : Nat → Nat → Nat) (cn : Nat → Nat) (In : Nat → Int32) (Fn : Nat → Nat → Int32) (c3 : Nat → Nat) (I3 : Nat → Int32) (F3 : Nat → Nat → Int32) (H : Heap) (locs : List Loc), IX ad cn Fn → IMM c3 F3 → RR cn Fn c3 F3 → va_P D vwCl (wX cI (D.1 99) zz g ad cn In Fn ++ wM cI cB cZ g2 c3 I3 F3) H → va_D A (wX cI (D.1 99) zz g ad cn In Fn ++ wM cI cB cZ g2 c3 I3 F3) → va_S A s.heap H locs → ∀ ls : Array Slot, lv_has ls 4 [(0, .ref b), (1, .ref (g 0)), (2, .ref (g2 100)), (3, .int (nI i))] → W p l e room_1 s m #[Value.ref b] below meth c H locs (K + 8) (N + 240) (lw_Z below #[Value.ref b] s) (F0 m 2269 ls [])) : W p l e room_1 s m #[Value.ref b] below meth c H locs K N (lw_Z below #[Value.ref b] s) (F0 m 284 ls []) := by
  obtain ⟨hx, hb, hr, hml, hown, hts, hX, hbl, hlocks, hgv⟩ := id C0
  have S : SF p m c code 4 s #[Value.ref b] RL := ⟨hx, hb, hml, hown, fun w h => hts w (wT_lw h)⟩
  refine lv_aload_n hx hb (oc_43 284 shL_law_284) rfl (lvA1 hl) ?_
  refine lv_aload_n hx hb (oc_42 285 (aq_1 shL_law_284)) rfl (lvA0 hl) ?_
  refine lv_iload_n hx hb (oc_29 286 (aq_2 shL_law_284)) rfl (lvA3 hl) ?_
  refine lv_iconst (v := 1) hx hb (oc_4 287 (aq_3 shL_law_284)) kic_1 ?_
  refine lv_iadd hx hb (oc_96 288 (aq_4 shL_law_284)) ?_
  refine lv_topi (fun y_1 ey_1 => ?_)
  obtain rfl : y_1 = nI (i + 1) := ey_1.trans (nI_add i 1)
  refine va_sld hx hb hX hbl hbA hS (vp_in_nI (by omega) (by omega)) (oc_46 289 (aq_5 shL_law_284)) ?_
  refine lv_topi (fun y_2 ey_2 => ?_)
  obtain rfl : y_2 = xs (nI (i + 1)).toNatClampNeg := ey_2
  have hFc := free_all (exD hD) hS hA
  refine va_calli (runV_xa (As := [.int (xs (nI (i + 1)).toNatClampNeg)]) (rest := []) S (q_Xnow l D cI cB cZ zz qq vv bt g ad cn In Fn (xs (nI (i + 1)).toNatClampNeg) H.size hI.1) kV_RL_13 hK hXS hS hFc (exP hP) (exD hD) 0 xo_0 rfl rfl ⟨Nat.le_of_ble_eq_true rfl, Nat.le_of_ble_eq_true rfl⟩ ⟨(by show K + 0 ≤ 600000; omega), (by show N + 0 ≤ 7302250; omega)⟩ rfl hl.1 rfl (Nat.le_of_ble_eq_true rfl) (oc_182 290 (aq_6 shL_law_284) uw_0_13)) hS (fun q _ h => hFc q h) hFc (fun r2 u t H1 locs ht hvm w2 hB1 hz1 hk1 hS => ?_)
  obtain ⟨c2, I2, F2⟩ := u
  obtain ⟨hP1, hD1⟩ := hB1
  rw [ht] at hP1
  obtain ⟨hP, hD⟩ := exjoinL hP hD hk1 hFc hP1 hD1
  generalize H1 = H at hP hS ⊢
  obtain ⟨hd2, hf2⟩ := fx_Xnow w2
  have hI := ix_Xnow hI w2
  have hR := RR.fx hR hd2 hf2 (by decide) (by decide)
  refine lv_pop hx hb (oc_87 293 (aq_9 shL_law_284)) rfl ?_
  refine lv_aload_n hx hb (oc_44 294 (aq_10 shL_law_284)) rfl (lvA2 hl) ?_
  refine lv_aload_n hx hb (oc_42 295 (aq_11 shL_law_284)) rfl (lvA0 hl) ?_
  refine lv_iload_n hx hb (oc_29 296 (aq_12 shL_law_284)) rfl (lvA3 hl) ?_
  refine lv_iconst (v := 1) hx hb (oc_4 297 (aq_13 shL_law_284)) kic_1 ?_
  refine lv_iadd hx hb (oc_96 298 (aq_14 shL_law_284)) ?_
  refine lv_topi (fun y_4 ey_4 => ?_)
  obtain rfl : y_4 = nI (i + 1) := ey_4.trans (nI_add i 1)
  refine va_sld hx hb hX hbl hbA hS (vp_in_nI (by omega) (by omega)) (oc_46 299 (aq_15 shL_law_284)) ?_
  refine lv_topi (fun y_5 ey_5 => ?_)
  obtain rfl : y_5 = xs (nI (i + 1)).toNatClampNeg := ey_5
  have hFc := free_all (exDr hD) hS hA
  refine va_calli (runV_a (As := [.int (xs (nI (i + 1)).toNatClampNeg)]) (rest := []) S (q_now l D cI cB cZ g2 c3 I3 F3 (xs (nI (i + 1)).toNatClampNeg) H.size hM.1) kV_RL_17 hK (exPr hP) (exDr hD) 0 rfl rfl rfl ⟨Nat.le_of_ble_eq_true rfl, Nat.le_of_ble_eq_true rfl⟩ ⟨(by show K + 0 ≤ 600000; omega), (by show N + 0 ≤ 7302250; omega)⟩ rfl hl.1 rfl (Nat.le_of_ble_eq_true rfl) (oc_182 300 (aq_16 shL_law_284) uw_0_17)) hS (fun q _ h => hFc q h) hFc (fun r5 u t H1 locs ht hvm w5 hB1 hz1 hk1 hS => ?_)
  obtain ⟨c5, I5, F5⟩ := u
  obtain ⟨hP1, hD1⟩ := hB1
  rw [ht] at hP1
  obtain ⟨hP, hD⟩ := exjoin hP hD hk1 hFc hP1 hD1
  generalize H1 = H at hP hS ⊢
  obtain ⟨hM, hd5, hf5⟩ := imm_now hM w5
  have hR := RR.fm hR hd5 hf5 (by decide) (by decide)
  refine lv_pop hx hb (oc_87 303 (aq_19 shL_law_284)) rfl ?_
  refine lv_goto (tgt := 2269) hx hb (oc_167 304 (aq_20 shL_law_284) sgw_7_173) rfl ?_
  refine W.widen (k := K + 8) (n := N + 240) (by omega) (by omega) ?_
  exact kk _ _ _ _ _ _ _ _ _ hI hM hR hP hD hS ls hl
set_option maxRecDepth 100000 in
set_option maxHeartbeats 4000000 in
theorem lawc_1 {p : Program} {l : Launch} {e : Env} {s : State} {m : MethodId} {below : List Frame} {meth : Method} {c : Code} {b L : Nat} {xs : Nat → Int32} (C0 : lw_At p s m meth c b L xs) (hLN : L ≤ 3584) {A : Nat → Prop} (hA : ∀ q : Nat, s.heap.size ≤ q → A q) (hbA : ¬ A b) {D : va_G} {cI cB cZ : ClassId} {zz qq vv : Nat} {bt : Nat → Int32} {g g2 : Nat → Nat} (hK : KK D cI cB cZ s) (hXS : XS D zz qq vv bt A s s.heap) {ad : Nat → Nat → Nat} {cn : Nat → Nat} {In : Nat → Int32} {Fn : Nat → Nat → Int32} {c3 : Nat → Nat} {I3 : Nat → Int32} {F3 : Nat → Nat → Int32} (hI : IX ad cn Fn) (hM : IMM c3 F3) (hR : RR cn Fn c3 F3) {H : Heap} {locs : List Loc} (hP : va_P D vwCl (wX cI (D.1 99) zz g ad cn In Fn ++ wM cI cB cZ g2 c3 I3 F3) H) (hD : va_D A (wX cI (D.1 99) zz g ad cn In Fn ++ wM cI cB cZ g2 c3 I3 F3)) (hS : va_S A s.heap H locs) {K N i : Nat} (hi : i + 7 ≤ L) (hKN : K + 8 ≤ 600000 ∧ N + 240 ≤ 7302250) {ls : Array Slot} (hl : lv_has ls 4 [(0, .ref b), (1, .ref (g 0)), (2, .ref (g2 100)), (3, .int (nI i))]) (kk : ∀ (ad : Nat → Nat → Nat) (cn : Nat → Nat) (In : Nat → Int32) (Fn : Nat → Nat → Int32) (c3 : Nat → Nat) (I3 : Nat → Int32) (F3 : Nat → Nat → Int32) (H : Heap) (locs : List Loc), IX ad cn Fn → IMM c3 F3 → RR cn Fn c3 F3 → va_P D vwCl (wX cI (D.1 99) zz g ad cn In Fn ++ wM cI cB cZ g2 c3 I3 F3) H → va_D A (wX cI (D.1 99) zz g ad cn In Fn ++ wM cI cB cZ g2 c3 I3 F3) → va_S A s.heap H locs → ∀ ls : Array Slot, lv_has ls 4 [(0, .ref b), (1, .ref (g 0)), (2, .ref (g2 100)), (3, .int (nI i))] → W p l e room_1 s m #[Value.ref b] below meth c H locs (K + 8) (N + 240) (lw_Z below #[Value.ref b] s) (F0 m 2269 ls [])) : W p l e room_1 s m #[Value.ref b] below meth c H locs K N (lw_Z below #[Value.ref b] s) (F0 m 307 ls []) := by
  obtain ⟨hx, hb, hr, hml, hown, hts, hX, hbl, hlocks, hgv⟩ := id C0
  have S : SF p m c code 4 s #[Value.ref b] RL := ⟨hx, hb, hml, hown, fun w h => hts w (wT_lw h)⟩
  refine lv_aload_n hx hb (oc_43 307 (aq_23 shL_law_284)) rfl (lvA1 hl) ?_
  refine lv_aload_n hx hb (oc_42 308 shL_law_308) rfl (lvA0 hl) ?_
  refine lv_iload_n hx hb (oc_29 309 (aq_1 shL_law_308)) rfl (lvA3 hl) ?_
  refine lv_iconst (v := 1) hx hb (oc_4 310 (aq_2 shL_law_308)) kic_1 ?_
  refine lv_iadd hx hb (oc_96 311 (aq_3 shL_law_308)) ?_
  refine lv_topi (fun y_1 ey_1 => ?_)
  obtain rfl : y_1 = nI (i + 1) := ey_1.trans (nI_add i 1)
  refine va_sld hx hb hX hbl hbA hS (vp_in_nI (by omega) (by omega)) (oc_46 312 (aq_4 shL_law_308)) ?_
  refine lv_topi (fun y_2 ey_2 => ?_)
  obtain rfl : y_2 = xs (nI (i + 1)).toNatClampNeg := ey_2
  refine lv_aload_n hx hb (oc_42 313 (aq_5 shL_law_308)) rfl (lvA0 hl) ?_
  refine lv_iload_n hx hb (oc_29 314 (aq_6 shL_law_308)) rfl (lvA3 hl) ?_
  refine lv_iconst (v := 2) hx hb (oc_5 315 (aq_7 shL_law_308)) kic_2 ?_
  refine lv_iadd hx hb (oc_96 316 (aq_8 shL_law_308)) ?_
  refine lv_topi (fun y_3 ey_3 => ?_)
  obtain rfl : y_3 = nI (i + 2) := ey_3.trans (nI_add i 2)
  refine va_sld hx hb hX hbl hbA hS (vp_in_nI (by omega) (by omega)) (oc_46 317 (aq_9 shL_law_308)) ?_
  refine lv_topi (fun y_4 ey_4 => ?_)
  obtain rfl : y_4 = xs (nI (i + 2)).toNatClampNeg := ey_4
  refine lv_aload_n hx hb (oc_42 318 (aq_10 shL_law_308)) rfl (lvA0 hl) ?_
  refine lv_iload_n hx hb (oc_29 319 (aq_11 shL_law_308)) rfl (lvA3 hl) ?_
  refine lv_iconst (v := 3) hx hb (oc_6 320 (aq_12 shL_law_308)) kic_3 ?_
  refine lv_iadd hx hb (oc_96 321 (aq_13 shL_law_308)) ?_
  refine lv_topi (fun y_5 ey_5 => ?_)
  obtain rfl : y_5 = nI (i + 3) := ey_5.trans (nI_add i 3)
  refine va_sld hx hb hX hbl hbA hS (vp_in_nI (by omega) (by omega)) (oc_46 322 (aq_14 shL_law_308)) ?_
  refine lv_topi (fun y_6 ey_6 => ?_)
  obtain rfl : y_6 = xs (nI (i + 3)).toNatClampNeg := ey_6
  refine lv_aload_n hx hb (oc_42 323 (aq_15 shL_law_308)) rfl (lvA0 hl) ?_
  refine lv_iload_n hx hb (oc_29 324 (aq_16 shL_law_308)) rfl (lvA3 hl) ?_
  refine lv_iconst (v := 4) hx hb (oc_7 325 (aq_17 shL_law_308)) kic_4 ?_
  refine lv_iadd hx hb (oc_96 326 (aq_18 shL_law_308)) ?_
  refine lv_topi (fun y_7 ey_7 => ?_)
  obtain rfl : y_7 = nI (i + 4) := ey_7.trans (nI_add i 4)
  refine va_sld hx hb hX hbl hbA hS (vp_in_nI (by omega) (by omega)) (oc_46 327 (aq_19 shL_law_308)) ?_
  refine lv_topi (fun y_8 ey_8 => ?_)
  obtain rfl : y_8 = xs (nI (i + 4)).toNatClampNeg := ey_8
  have hFc := free_all (exD hD) hS hA
  refine va_calli (runV_xa (As := [.int (xs (nI (i + 1)).toNatClampNeg), .int (xs (nI (i + 2)).toNatClampNeg), .int (xs (nI (i + 3)).toNatClampNeg), .int (xs (nI (i + 4)).toNatClampNeg)]) (rest := []) S (q_Xkitchen l D cI cB cZ zz qq vv bt g ad cn In Fn (xs (nI (i + 1)).toNatClampNeg) (xs (nI (i + 2)).toNatClampNeg) (xs (nI (i + 3)).toNatClampNeg) (xs (nI (i + 4)).toNatClampNeg) H.size hI.1 hI.2.1) kV_RL_18 hK hXS hS hFc (exP hP) (exD hD) 0 xo_0 rfl rfl ⟨Nat.le_of_ble_eq_true rfl, Nat.le_of_ble_eq_true rfl⟩ ⟨(by show K + 8 ≤ 600000; omega), (by show N + 188 ≤ 7302250; omega)⟩ rfl hl.1 rfl (Nat.le_of_ble_eq_true rfl) (oc_182 328 (aq_20 shL_law_308) uw_0_18)) hS (fun q _ h => hFc q h) hFc (fun r8 u t H1 locs ht hvm w8 hB1 hz1 hk1 hS => ?_)
  obtain ⟨a8, c8, I8, F8⟩ := u
  obtain ⟨hP1, hD1⟩ := hB1
  rw [ht] at hP1
  obtain ⟨hP, hD⟩ := exjoinL hP hD hk1 hFc hP1 hD1
  generalize H1 = H at hP hS ⊢
  obtain ⟨hI, hd8, hf8⟩ := ix_kitchen hI w8
  have hR := RR.fx hR hd8 hf8 (by decide) (by decide)
  refine lv_pop hx hb (oc_87 331 (aq_23 shL_law_308)) rfl ?_
  refine lv_aload_n hx hb (oc_44 332 shL_law_332) rfl (lvA2 hl) ?_
  refine lv_aload_n hx hb (oc_42 333 (aq_1 shL_law_332)) rfl (lvA0 hl) ?_
  refine lv_iload_n hx hb (oc_29 334 (aq_2 shL_law_332)) rfl (lvA3 hl) ?_
  refine lv_iconst (v := 1) hx hb (oc_4 335 (aq_3 shL_law_332)) kic_1 ?_
  refine lv_iadd hx hb (oc_96 336 (aq_4 shL_law_332)) ?_
  refine lv_topi (fun y_10 ey_10 => ?_)
  obtain rfl : y_10 = nI (i + 1) := ey_10.trans (nI_add i 1)
  refine va_sld hx hb hX hbl hbA hS (vp_in_nI (by omega) (by omega)) (oc_46 337 (aq_5 shL_law_332)) ?_
  refine lv_topi (fun y_11 ey_11 => ?_)
  obtain rfl : y_11 = xs (nI (i + 1)).toNatClampNeg := ey_11
  refine lv_aload_n hx hb (oc_42 338 (aq_6 shL_law_332)) rfl (lvA0 hl) ?_
  refine lv_iload_n hx hb (oc_29 339 (aq_7 shL_law_332)) rfl (lvA3 hl) ?_
  refine lv_iconst (v := 2) hx hb (oc_5 340 (aq_8 shL_law_332)) kic_2 ?_
  refine lv_iadd hx hb (oc_96 341 (aq_9 shL_law_332)) ?_
  refine lv_topi (fun y_12 ey_12 => ?_)
  obtain rfl : y_12 = nI (i + 2) := ey_12.trans (nI_add i 2)
  refine va_sld hx hb hX hbl hbA hS (vp_in_nI (by omega) (by omega)) (oc_46 342 (aq_10 shL_law_332)) ?_
  refine lv_topi (fun y_13 ey_13 => ?_)
  obtain rfl : y_13 = xs (nI (i + 2)).toNatClampNeg := ey_13
  refine lv_aload_n hx hb (oc_42 343 (aq_11 shL_law_332)) rfl (lvA0 hl) ?_
  refine lv_iload_n hx hb (oc_29 344 (aq_12 shL_law_332)) rfl (lvA3 hl) ?_
  refine lv_iconst (v := 3) hx hb (oc_6 345 (aq_13 shL_law_332)) kic_3 ?_
  refine lv_iadd hx hb (oc_96 346 (aq_14 shL_law_332)) ?_
  refine lv_topi (fun y_14 ey_14 => ?_)
  obtain rfl : y_14 = nI (i + 3) := ey_14.trans (nI_add i 3)
  refine va_sld hx hb hX hbl hbA hS (vp_in_nI (by omega) (by omega)) (oc_46 347 (aq_15 shL_law_332)) ?_
  refine lv_topi (fun y_15 ey_15 => ?_)
  obtain rfl : y_15 = xs (nI (i + 3)).toNatClampNeg := ey_15
  refine lv_aload_n hx hb (oc_42 348 (aq_16 shL_law_332)) rfl (lvA0 hl) ?_
  refine lv_iload_n hx hb (oc_29 349 (aq_17 shL_law_332)) rfl (lvA3 hl) ?_
  refine lv_iconst (v := 4) hx hb (oc_7 350 (aq_18 shL_law_332)) kic_4 ?_
  refine lv_iadd hx hb (oc_96 351 (aq_19 shL_law_332)) ?_
  refine lv_topi (fun y_16 ey_16 => ?_)
  obtain rfl : y_16 = nI (i + 4) := ey_16.trans (nI_add i 4)
  refine va_sld hx hb hX hbl hbA hS (vp_in_nI (by omega) (by omega)) (oc_46 352 (aq_20 shL_law_332)) ?_
  refine lv_topi (fun y_17 ey_17 => ?_)
  obtain rfl : y_17 = xs (nI (i + 4)).toNatClampNeg := ey_17
  have hFc := free_all (exDr hD) hS hA
  refine va_calli (runV_a (As := [.int (xs (nI (i + 1)).toNatClampNeg), .int (xs (nI (i + 2)).toNatClampNeg), .int (xs (nI (i + 3)).toNatClampNeg), .int (xs (nI (i + 4)).toNatClampNeg)]) (rest := []) S (q_kitchen l D cI cB cZ g2 c3 I3 F3 (xs (nI (i + 1)).toNatClampNeg) (xs (nI (i + 2)).toNatClampNeg) (xs (nI (i + 3)).toNatClampNeg) (xs (nI (i + 4)).toNatClampNeg) H.size hM.1) kV_RL_22 hK (exPr hP) (exDr hD) 0 rfl rfl rfl ⟨Nat.le_of_ble_eq_true rfl, Nat.le_of_ble_eq_true rfl⟩ ⟨(by show K + 8 + 0 ≤ 600000; omega), (by show N + 188 + 0 ≤ 7302250; omega)⟩ rfl hl.1 rfl (Nat.le_of_ble_eq_true rfl) (oc_182 353 (aq_21 shL_law_332) uw_0_22)) hS (fun q _ h => hFc q h) hFc (fun r17 u t H1 locs ht hvm w17 hB1 hz1 hk1 hS => ?_)
  obtain ⟨c17, I17, F17⟩ := u
  obtain ⟨hP1, hD1⟩ := hB1
  rw [ht] at hP1
  obtain ⟨hP, hD⟩ := exjoin hP hD hk1 hFc hP1 hD1
  generalize H1 = H at hP hS ⊢
  obtain ⟨hM, hd17, hf17⟩ := imm_kitchen hM w17
  have hR := RR.fm hR hd17 hf17 (by decide) (by decide)
  refine lv_pop hx hb (oc_87 356 shL_law_356) rfl ?_
  refine lv_goto (tgt := 2269) hx hb (oc_167 357 (aq_1 shL_law_356) sgw_7_120) rfl ?_
  refine W.widen (k := K + 8) (n := N + 240) (by omega) (by omega) ?_
  exact kk _ _ _ _ _ _ _ _ _ hI hM hR hP hD hS ls hl
set_option maxRecDepth 100000 in
set_option maxHeartbeats 4000000 in
theorem lawc_2 {p : Program} {l : Launch} {e : Env} {s : State} {m : MethodId} {below : List Frame} {meth : Method} {c : Code} {b L : Nat} {xs : Nat → Int32} (C0 : lw_At p s m meth c b L xs) (hLN : L ≤ 3584) {A : Nat → Prop} (hA : ∀ q : Nat, s.heap.size ≤ q → A q) (hbA : ¬ A b) {D : va_G} {cI cB cZ : ClassId} {zz qq vv : Nat} {bt : Nat → Int32} {g g2 : Nat → Nat} (hK : KK D cI cB cZ s) (hXS : XS D zz qq vv bt A s s.heap) {ad : Nat → Nat → Nat} {cn : Nat → Nat} {In : Nat → Int32} {Fn : Nat → Nat → Int32} {c3 : Nat → Nat} {I3 : Nat → Int32} {F3 : Nat → Nat → Int32} (hI : IX ad cn Fn) (hM : IMM c3 F3) (hR : RR cn Fn c3 F3) {H : Heap} {locs : List Loc} (hP : va_P D vwCl (wX cI (D.1 99) zz g ad cn In Fn ++ wM cI cB cZ g2 c3 I3 F3) H) (hD : va_D A (wX cI (D.1 99) zz g ad cn In Fn ++ wM cI cB cZ g2 c3 I3 F3)) (hS : va_S A s.heap H locs) {K N i : Nat} (hi : i + 7 ≤ L) (hKN : K + 8 ≤ 600000 ∧ N + 240 ≤ 7302250) {ls : Array Slot} (hl : lv_has ls 4 [(0, .ref b), (1, .ref (g 0)), (2, .ref (g2 100)), (3, .int (nI i))]) (kk : ∀ (ad : Nat → Nat → Nat) (cn : Nat → Nat) (In : Nat → Int32) (Fn : Nat → Nat → Int32) (c3 : Nat → Nat) (I3 : Nat → Int32) (F3 : Nat → Nat → Int32) (H : Heap) (locs : List Loc), IX ad cn Fn → IMM c3 F3 → RR cn Fn c3 F3 → va_P D vwCl (wX cI (D.1 99) zz g ad cn In Fn ++ wM cI cB cZ g2 c3 I3 F3) H → va_D A (wX cI (D.1 99) zz g ad cn In Fn ++ wM cI cB cZ g2 c3 I3 F3) → va_S A s.heap H locs → ∀ ls : Array Slot, lv_has ls 4 [(0, .ref b), (1, .ref (g 0)), (2, .ref (g2 100)), (3, .int (nI i))] → W p l e room_1 s m #[Value.ref b] below meth c H locs (K + 8) (N + 240) (lw_Z below #[Value.ref b] s) (F0 m 2269 ls [])) : W p l e room_1 s m #[Value.ref b] below meth c H locs K N (lw_Z below #[Value.ref b] s) (F0 m 360 ls []) := by
  obtain ⟨hx, hb, hr, hml, hown, hts, hX, hbl, hlocks, hgv⟩ := id C0
  have S : SF p m c code 4 s #[Value.ref b] RL := ⟨hx, hb, hml, hown, fun w h => hts w (wT_lw h)⟩
  refine lv_aload_n hx hb (oc_43 360 (aq_4 shL_law_356)) rfl (lvA1 hl) ?_
  refine lv_aload_n hx hb (oc_42 361 (aq_5 shL_law_356)) rfl (lvA0 hl) ?_
  refine lv_iload_n hx hb (oc_29 362 (aq_6 shL_law_356)) rfl (lvA3 hl) ?_
  refine lv_iconst (v := 1) hx hb (oc_4 363 (aq_7 shL_law_356)) kic_1 ?_
  refine lv_iadd hx hb (oc_96 364 (aq_8 shL_law_356)) ?_
  refine lv_topi (fun y_1 ey_1 => ?_)
  obtain rfl : y_1 = nI (i + 1) := ey_1.trans (nI_add i 1)
  refine va_sld hx hb hX hbl hbA hS (vp_in_nI (by omega) (by omega)) (oc_46 365 (aq_9 shL_law_356)) ?_
  refine lv_topi (fun y_2 ey_2 => ?_)
  obtain rfl : y_2 = xs (nI (i + 1)).toNatClampNeg := ey_2
  refine lv_aload_n hx hb (oc_42 366 (aq_10 shL_law_356)) rfl (lvA0 hl) ?_
  refine lv_iload_n hx hb (oc_29 367 (aq_11 shL_law_356)) rfl (lvA3 hl) ?_
  refine lv_iconst (v := 2) hx hb (oc_5 368 (aq_12 shL_law_356)) kic_2 ?_
  refine lv_iadd hx hb (oc_96 369 (aq_13 shL_law_356)) ?_
  refine lv_topi (fun y_3 ey_3 => ?_)
  obtain rfl : y_3 = nI (i + 2) := ey_3.trans (nI_add i 2)
  refine va_sld hx hb hX hbl hbA hS (vp_in_nI (by omega) (by omega)) (oc_46 370 (aq_14 shL_law_356)) ?_
  refine lv_topi (fun y_4 ey_4 => ?_)
  obtain rfl : y_4 = xs (nI (i + 2)).toNatClampNeg := ey_4
  refine vp_callSi (runV_rxa (As := [.int (xs (nI (i + 1)).toNatClampNeg), .int (xs (nI (i + 2)).toNatClampNeg)]) (rest := []) S (q_Xlikely l D cI cB cZ zz qq vv bt g ad cn In Fn (xs (nI (i + 1)).toNatClampNeg) (xs (nI (i + 2)).toNatClampNeg) hI.1) kV_RL_23 hK hXS hS (exP hP) 0 xo_0 rfl rfl ⟨Nat.le_of_ble_eq_true rfl, Nat.le_of_ble_eq_true rfl⟩ ⟨(by show K + 0 ≤ 600000; omega), (by show N + 0 ≤ 7302250; omega)⟩ rfl hl.1 rfl (Nat.le_of_ble_eq_true rfl) (oc_182 371 (aq_15 shL_law_356) uw_0_23)) (fun r4 w4 => ?_)
  refine lv_pop hx hb (oc_87 374 (aq_18 shL_law_356)) rfl ?_
  refine lv_aload_n hx hb (oc_44 375 (aq_19 shL_law_356)) rfl (lvA2 hl) ?_
  refine lv_aload_n hx hb (oc_42 376 (aq_20 shL_law_356)) rfl (lvA0 hl) ?_
  refine lv_iload_n hx hb (oc_29 377 (aq_21 shL_law_356)) rfl (lvA3 hl) ?_
  refine lv_iconst (v := 1) hx hb (oc_4 378 (aq_22 shL_law_356)) kic_1 ?_
  refine lv_iadd hx hb (oc_96 379 (aq_23 shL_law_356)) ?_
  refine lv_topi (fun y_6 ey_6 => ?_)
  obtain rfl : y_6 = nI (i + 1) := ey_6.trans (nI_add i 1)
  refine va_sld hx hb hX hbl hbA hS (vp_in_nI (by omega) (by omega)) (oc_46 380 shL_law_380) ?_
  refine lv_topi (fun y_7 ey_7 => ?_)
  obtain rfl : y_7 = xs (nI (i + 1)).toNatClampNeg := ey_7
  refine lv_aload_n hx hb (oc_42 381 (aq_1 shL_law_380)) rfl (lvA0 hl) ?_
  refine lv_iload_n hx hb (oc_29 382 (aq_2 shL_law_380)) rfl (lvA3 hl) ?_
  refine lv_iconst (v := 2) hx hb (oc_5 383 (aq_3 shL_law_380)) kic_2 ?_
  refine lv_iadd hx hb (oc_96 384 (aq_4 shL_law_380)) ?_
  refine lv_topi (fun y_8 ey_8 => ?_)
  obtain rfl : y_8 = nI (i + 2) := ey_8.trans (nI_add i 2)
  refine va_sld hx hb hX hbl hbA hS (vp_in_nI (by omega) (by omega)) (oc_46 385 (aq_5 shL_law_380)) ?_
  refine lv_topi (fun y_9 ey_9 => ?_)
  obtain rfl : y_9 = xs (nI (i + 2)).toNatClampNeg := ey_9
  refine vp_callSi (runV_ra (As := [.int (xs (nI (i + 1)).toNatClampNeg), .int (xs (nI (i + 2)).toNatClampNeg)]) (rest := []) S (q_likely l D cI cB cZ g2 c3 I3 F3 (xs (nI (i + 1)).toNatClampNeg) (xs (nI (i + 2)).toNatClampNeg) hM.1) kV_RL_27 hK (exPr hP) 0 rfl rfl rfl ⟨Nat.le_of_ble_eq_true rfl, Nat.le_of_ble_eq_true rfl⟩ ⟨(by show K + 0 ≤ 600000; omega), (by show N + 0 ≤ 7302250; omega)⟩ rfl hl.1 rfl (Nat.le_of_ble_eq_true rfl) (oc_182 386 (aq_6 shL_law_380) uw_0_27)) (fun r9 w9 => ?_)
  refine lv_pop hx hb (oc_87 389 (aq_9 shL_law_380)) rfl ?_
  refine lv_goto (tgt := 2269) hx hb (oc_167 390 (aq_10 shL_law_380) sgw_7_87) rfl ?_
  refine W.widen (k := K + 8) (n := N + 240) (by omega) (by omega) ?_
  exact kk _ _ _ _ _ _ _ _ _ hI hM hR hP hD hS ls hl
set_option maxRecDepth 100000 in
set_option maxHeartbeats 4000000 in
theorem lawc_3 {p : Program} {l : Launch} {e : Env} {s : State} {m : MethodId} {below : List Frame} {meth : Method} {c : Code} {b L : Nat} {xs : Nat → Int32} (C0 : lw_At p s m meth c b L xs) (hLN : L ≤ 3584) {A : Nat → Prop} (hA : ∀ q : Nat, s.heap.size ≤ q → A q) (hbA : ¬ A b) {D : va_G} {cI cB cZ : ClassId} {zz qq vv : Nat} {bt : Nat → Int32} {g g2 : Nat → Nat} (hK : KK D cI cB cZ s) (hXS : XS D zz qq vv bt A s s.heap) {ad : Nat → Nat → Nat} {cn : Nat → Nat} {In : Nat → Int32} {Fn : Nat → Nat → Int32} {c3 : Nat → Nat} {I3 : Nat → Int32} {F3 : Nat → Nat → Int32} (hI : IX ad cn Fn) (hM : IMM c3 F3) (hR : RR cn Fn c3 F3) {H : Heap} {locs : List Loc} (hP : va_P D vwCl (wX cI (D.1 99) zz g ad cn In Fn ++ wM cI cB cZ g2 c3 I3 F3) H) (hD : va_D A (wX cI (D.1 99) zz g ad cn In Fn ++ wM cI cB cZ g2 c3 I3 F3)) (hS : va_S A s.heap H locs) {K N i : Nat} (hi : i + 7 ≤ L) (hKN : K + 8 ≤ 600000 ∧ N + 240 ≤ 7302250) {ls : Array Slot} (hl : lv_has ls 4 [(0, .ref b), (1, .ref (g 0)), (2, .ref (g2 100)), (3, .int (nI i))]) (kk : ∀ (ad : Nat → Nat → Nat) (cn : Nat → Nat) (In : Nat → Int32) (Fn : Nat → Nat → Int32) (c3 : Nat → Nat) (I3 : Nat → Int32) (F3 : Nat → Nat → Int32) (H : Heap) (locs : List Loc), IX ad cn Fn → IMM c3 F3 → RR cn Fn c3 F3 → va_P D vwCl (wX cI (D.1 99) zz g ad cn In Fn ++ wM cI cB cZ g2 c3 I3 F3) H → va_D A (wX cI (D.1 99) zz g ad cn In Fn ++ wM cI cB cZ g2 c3 I3 F3) → va_S A s.heap H locs → ∀ ls : Array Slot, lv_has ls 4 [(0, .ref b), (1, .ref (g 0)), (2, .ref (g2 100)), (3, .int (nI i))] → W p l e room_1 s m #[Value.ref b] below meth c H locs (K + 8) (N + 240) (lw_Z below #[Value.ref b] s) (F0 m 2269 ls [])) : W p l e room_1 s m #[Value.ref b] below meth c H locs K N (lw_Z below #[Value.ref b] s) (F0 m 393 ls []) := by
  obtain ⟨hx, hb, hr, hml, hown, hts, hX, hbl, hlocks, hgv⟩ := id C0
  have S : SF p m c code 4 s #[Value.ref b] RL := ⟨hx, hb, hml, hown, fun w h => hts w (wT_lw h)⟩
  refine lv_aload_n hx hb (oc_43 393 (aq_13 shL_law_380)) rfl (lvA1 hl) ?_
  refine lv_aload_n hx hb (oc_42 394 (aq_14 shL_law_380)) rfl (lvA0 hl) ?_
  refine lv_iload_n hx hb (oc_29 395 (aq_15 shL_law_380)) rfl (lvA3 hl) ?_
  refine lv_iconst (v := 1) hx hb (oc_4 396 (aq_16 shL_law_380)) kic_1 ?_
  refine lv_iadd hx hb (oc_96 397 (aq_17 shL_law_380)) ?_
  refine lv_topi (fun y_1 ey_1 => ?_)
  obtain rfl : y_1 = nI (i + 1) := ey_1.trans (nI_add i 1)
  refine va_sld hx hb hX hbl hbA hS (vp_in_nI (by omega) (by omega)) (oc_46 398 (aq_18 shL_law_380)) ?_
  refine lv_topi (fun y_2 ey_2 => ?_)
  obtain rfl : y_2 = xs (nI (i + 1)).toNatClampNeg := ey_2
  refine lv_aload_n hx hb (oc_42 399 (aq_19 shL_law_380)) rfl (lvA0 hl) ?_
  refine lv_iload_n hx hb (oc_29 400 (aq_20 shL_law_380)) rfl (lvA3 hl) ?_
  refine lv_iconst (v := 2) hx hb (oc_5 401 (aq_21 shL_law_380)) kic_2 ?_
  refine lv_iadd hx hb (oc_96 402 (aq_22 shL_law_380)) ?_
  refine lv_topi (fun y_3 ey_3 => ?_)
  obtain rfl : y_3 = nI (i + 2) := ey_3.trans (nI_add i 2)
  refine va_sld hx hb hX hbl hbA hS (vp_in_nI (by omega) (by omega)) (oc_46 403 (aq_23 shL_law_380)) ?_
  refine lv_topi (fun y_4 ey_4 => ?_)
  obtain rfl : y_4 = xs (nI (i + 2)).toNatClampNeg := ey_4
  refine lv_aload_n hx hb (oc_42 404 shL_law_404) rfl (lvA0 hl) ?_
  refine lv_iload_n hx hb (oc_29 405 (aq_1 shL_law_404)) rfl (lvA3 hl) ?_
  refine lv_iconst (v := 3) hx hb (oc_6 406 (aq_2 shL_law_404)) kic_3 ?_
  refine lv_iadd hx hb (oc_96 407 (aq_3 shL_law_404)) ?_
  refine lv_topi (fun y_5 ey_5 => ?_)
  obtain rfl : y_5 = nI (i + 3) := ey_5.trans (nI_add i 3)
  refine va_sld hx hb hX hbl hbA hS (vp_in_nI (by omega) (by omega)) (oc_46 408 (aq_4 shL_law_404)) ?_
  refine lv_topi (fun y_6 ey_6 => ?_)
  obtain rfl : y_6 = xs (nI (i + 3)).toNatClampNeg := ey_6
  refine lv_aload_n hx hb (oc_42 409 (aq_5 shL_law_404)) rfl (lvA0 hl) ?_
  refine lv_iload_n hx hb (oc_29 410 (aq_6 shL_law_404)) rfl (lvA3 hl) ?_
  refine lv_iconst (v := 4) hx hb (oc_7 411 (aq_7 shL_law_404)) kic_4 ?_
  refine lv_iadd hx hb (oc_96 412 (aq_8 shL_law_404)) ?_
  refine lv_topi (fun y_7 ey_7 => ?_)
  obtain rfl : y_7 = nI (i + 4) := ey_7.trans (nI_add i 4)
  refine va_sld hx hb hX hbl hbA hS (vp_in_nI (by omega) (by omega)) (oc_46 413 (aq_9 shL_law_404)) ?_
  refine lv_topi (fun y_8 ey_8 => ?_)
  obtain rfl : y_8 = xs (nI (i + 4)).toNatClampNeg := ey_8
  refine lv_aload_n hx hb (oc_42 414 (aq_10 shL_law_404)) rfl (lvA0 hl) ?_
  refine lv_iload_n hx hb (oc_29 415 (aq_11 shL_law_404)) rfl (lvA3 hl) ?_
  refine lv_iconst (v := 5) hx hb (oc_8 416 (aq_12 shL_law_404)) kic_5 ?_
  refine lv_iadd hx hb (oc_96 417 (aq_13 shL_law_404)) ?_
  refine lv_topi (fun y_9 ey_9 => ?_)
  obtain rfl : y_9 = nI (i + 5) := ey_9.trans (nI_add i 5)
  refine va_sld hx hb hX hbl hbA hS (vp_in_nI (by omega) (by omega)) (oc_46 418 (aq_14 shL_law_404)) ?_
  refine lv_topi (fun y_10 ey_10 => ?_)
  obtain rfl : y_10 = xs (nI (i + 5)).toNatClampNeg := ey_10
  refine lv_aload_n hx hb (oc_42 419 (aq_15 shL_law_404)) rfl (lvA0 hl) ?_
  refine lv_iload_n hx hb (oc_29 420 (aq_16 shL_law_404)) rfl (lvA3 hl) ?_
  refine lv_bipush (v := 6) hx hb (oc_16 421 (aq_17 shL_law_404) sgb_6) kbc_6 ?_
  refine lv_iadd hx hb (oc_96 423 (aq_19 shL_law_404)) ?_
  refine lv_topi (fun y_11 ey_11 => ?_)
  obtain rfl : y_11 = nI (i + 6) := ey_11.trans (nI_add i 6)
  refine va_sld hx hb hX hbl hbA hS (vp_in_nI (by omega) (by omega)) (oc_46 424 (aq_20 shL_law_404)) ?_
  refine lv_topi (fun y_12 ey_12 => ?_)
  obtain rfl : y_12 = xs (nI (i + 6)).toNatClampNeg := ey_12
  have hFc := free_all (exD hD) hS hA
  refine va_calli (runV_xa (As := [.int (xs (nI (i + 1)).toNatClampNeg), .int (xs (nI (i + 2)).toNatClampNeg), .int (xs (nI (i + 3)).toNatClampNeg), .int (xs (nI (i + 4)).toNatClampNeg), .int (xs (nI (i + 5)).toNatClampNeg), .int (xs (nI (i + 6)).toNatClampNeg)]) (rest := []) S (q_Xfetch l D cI cB cZ zz qq vv bt g ad cn In Fn (xs (nI (i + 1)).toNatClampNeg) (xs (nI (i + 2)).toNatClampNeg) (xs (nI (i + 3)).toNatClampNeg) (xs (nI (i + 4)).toNatClampNeg) (xs (nI (i + 5)).toNatClampNeg) (xs (nI (i + 6)).toNatClampNeg) H.size hI.1) kV_RL_28 hK hXS hS hFc (exP hP) (exD hD) 0 xo_0 rfl rfl ⟨Nat.le_of_ble_eq_true rfl, Nat.le_of_ble_eq_true rfl⟩ ⟨(by show K + 2 ≤ 600000; omega), (by show N + 110 ≤ 7302250; omega)⟩ rfl hl.1 rfl (Nat.le_of_ble_eq_true rfl) (oc_182 425 (aq_21 shL_law_404) uw_0_28)) hS (fun q _ h => hFc q h) hFc (fun r12 u t H1 locs ht hvm w12 hB1 hz1 hk1 hS => ?_)
  obtain ⟨a12, c12, I12, F12⟩ := u
  obtain ⟨hP1, hD1⟩ := hB1
  rw [ht] at hP1
  obtain ⟨hP, hD⟩ := exjoinL hP hD hk1 hFc hP1 hD1
  generalize H1 = H at hP hS ⊢
  obtain ⟨hI, hd12, hf12⟩ := ix_fetch hI w12
  have hR := RR.fx hR hd12 hf12 (by decide) (by decide)
  refine lv_pop hx hb (oc_87 428 shL_law_428) rfl ?_
  refine lv_aload_n hx hb (oc_44 429 (aq_1 shL_law_428)) rfl (lvA2 hl) ?_
  refine lv_aload_n hx hb (oc_42 430 (aq_2 shL_law_428)) rfl (lvA0 hl) ?_
  refine lv_iload_n hx hb (oc_29 431 (aq_3 shL_law_428)) rfl (lvA3 hl) ?_
  refine lv_iconst (v := 1) hx hb (oc_4 432 (aq_4 shL_law_428)) kic_1 ?_
  refine lv_iadd hx hb (oc_96 433 (aq_5 shL_law_428)) ?_
  refine lv_topi (fun y_14 ey_14 => ?_)
  obtain rfl : y_14 = nI (i + 1) := ey_14.trans (nI_add i 1)
  refine va_sld hx hb hX hbl hbA hS (vp_in_nI (by omega) (by omega)) (oc_46 434 (aq_6 shL_law_428)) ?_
  refine lv_topi (fun y_15 ey_15 => ?_)
  obtain rfl : y_15 = xs (nI (i + 1)).toNatClampNeg := ey_15
  refine lv_aload_n hx hb (oc_42 435 (aq_7 shL_law_428)) rfl (lvA0 hl) ?_
  refine lv_iload_n hx hb (oc_29 436 (aq_8 shL_law_428)) rfl (lvA3 hl) ?_
  refine lv_iconst (v := 2) hx hb (oc_5 437 (aq_9 shL_law_428)) kic_2 ?_
  refine lv_iadd hx hb (oc_96 438 (aq_10 shL_law_428)) ?_
  refine lv_topi (fun y_16 ey_16 => ?_)
  obtain rfl : y_16 = nI (i + 2) := ey_16.trans (nI_add i 2)
  refine va_sld hx hb hX hbl hbA hS (vp_in_nI (by omega) (by omega)) (oc_46 439 (aq_11 shL_law_428)) ?_
  refine lv_topi (fun y_17 ey_17 => ?_)
  obtain rfl : y_17 = xs (nI (i + 2)).toNatClampNeg := ey_17
  refine lv_aload_n hx hb (oc_42 440 (aq_12 shL_law_428)) rfl (lvA0 hl) ?_
  refine lv_iload_n hx hb (oc_29 441 (aq_13 shL_law_428)) rfl (lvA3 hl) ?_
  refine lv_iconst (v := 3) hx hb (oc_6 442 (aq_14 shL_law_428)) kic_3 ?_
  refine lv_iadd hx hb (oc_96 443 (aq_15 shL_law_428)) ?_
  refine lv_topi (fun y_18 ey_18 => ?_)
  obtain rfl : y_18 = nI (i + 3) := ey_18.trans (nI_add i 3)
  refine va_sld hx hb hX hbl hbA hS (vp_in_nI (by omega) (by omega)) (oc_46 444 (aq_16 shL_law_428)) ?_
  refine lv_topi (fun y_19 ey_19 => ?_)
  obtain rfl : y_19 = xs (nI (i + 3)).toNatClampNeg := ey_19
  refine lv_aload_n hx hb (oc_42 445 (aq_17 shL_law_428)) rfl (lvA0 hl) ?_
  refine lv_iload_n hx hb (oc_29 446 (aq_18 shL_law_428)) rfl (lvA3 hl) ?_
  refine lv_iconst (v := 4) hx hb (oc_7 447 (aq_19 shL_law_428)) kic_4 ?_
  refine lv_iadd hx hb (oc_96 448 (aq_20 shL_law_428)) ?_
  refine lv_topi (fun y_20 ey_20 => ?_)
  obtain rfl : y_20 = nI (i + 4) := ey_20.trans (nI_add i 4)
  refine va_sld hx hb hX hbl hbA hS (vp_in_nI (by omega) (by omega)) (oc_46 449 (aq_21 shL_law_428)) ?_
  refine lv_topi (fun y_21 ey_21 => ?_)
  obtain rfl : y_21 = xs (nI (i + 4)).toNatClampNeg := ey_21
  refine lv_aload_n hx hb (oc_42 450 (aq_22 shL_law_428)) rfl (lvA0 hl) ?_
  refine lv_iload_n hx hb (oc_29 451 (aq_23 shL_law_428)) rfl (lvA3 hl) ?_
  refine lv_iconst (v := 5) hx hb (oc_8 452 shL_law_452) kic_5 ?_
  refine lv_iadd hx hb (oc_96 453 (aq_1 shL_law_452)) ?_
  refine lv_topi (fun y_22 ey_22 => ?_)
  obtain rfl : y_22 = nI (i + 5) := ey_22.trans (nI_add i 5)
  refine va_sld hx hb hX hbl hbA hS (vp_in_nI (by omega) (by omega)) (oc_46 454 (aq_2 shL_law_452)) ?_
  refine lv_topi (fun y_23 ey_23 => ?_)
  obtain rfl : y_23 = xs (nI (i + 5)).toNatClampNeg := ey_23
  refine lv_aload_n hx hb (oc_42 455 (aq_3 shL_law_452)) rfl (lvA0 hl) ?_
  refine lv_iload_n hx hb (oc_29 456 (aq_4 shL_law_452)) rfl (lvA3 hl) ?_
  refine lv_bipush (v := 6) hx hb (oc_16 457 (aq_5 shL_law_452) sgb_6) kbc_6 ?_
  refine lv_iadd hx hb (oc_96 459 (aq_7 shL_law_452)) ?_
  refine lv_topi (fun y_24 ey_24 => ?_)
  obtain rfl : y_24 = nI (i + 6) := ey_24.trans (nI_add i 6)
  refine va_sld hx hb hX hbl hbA hS (vp_in_nI (by omega) (by omega)) (oc_46 460 (aq_8 shL_law_452)) ?_
  refine lv_topi (fun y_25 ey_25 => ?_)
  obtain rfl : y_25 = xs (nI (i + 6)).toNatClampNeg := ey_25
  have hFc := free_all (exDr hD) hS hA
  refine va_calli (runV_a (As := [.int (xs (nI (i + 1)).toNatClampNeg), .int (xs (nI (i + 2)).toNatClampNeg), .int (xs (nI (i + 3)).toNatClampNeg), .int (xs (nI (i + 4)).toNatClampNeg), .int (xs (nI (i + 5)).toNatClampNeg), .int (xs (nI (i + 6)).toNatClampNeg)]) (rest := []) S (q_fetch l D cI cB cZ g2 c3 I3 F3 (xs (nI (i + 1)).toNatClampNeg) (xs (nI (i + 2)).toNatClampNeg) (xs (nI (i + 3)).toNatClampNeg) (xs (nI (i + 4)).toNatClampNeg) (xs (nI (i + 5)).toNatClampNeg) (xs (nI (i + 6)).toNatClampNeg) H.size hM.1) kV_RL_32 hK (exPr hP) (exDr hD) 0 rfl rfl rfl ⟨Nat.le_of_ble_eq_true rfl, Nat.le_of_ble_eq_true rfl⟩ ⟨(by show K + 2 + 0 ≤ 600000; omega), (by show N + 110 + 0 ≤ 7302250; omega)⟩ rfl hl.1 rfl (Nat.le_of_ble_eq_true rfl) (oc_182 461 (aq_9 shL_law_452) uw_0_32)) hS (fun q _ h => hFc q h) hFc (fun r25 u t H1 locs ht hvm w25 hB1 hz1 hk1 hS => ?_)
  obtain ⟨c25, I25, F25⟩ := u
  obtain ⟨hP1, hD1⟩ := hB1
  rw [ht] at hP1
  obtain ⟨hP, hD⟩ := exjoin hP hD hk1 hFc hP1 hD1
  generalize H1 = H at hP hS ⊢
  obtain ⟨hM, hd25, hf25⟩ := imm_fetch hM w25
  have hR := RR.fm hR hd25 hf25 (by decide) (by decide)
  refine lv_pop hx hb (oc_87 464 (aq_12 shL_law_452)) rfl ?_
  refine lv_goto (tgt := 2269) hx hb (oc_167 465 (aq_13 shL_law_452) sgw_7_12) rfl ?_
  refine W.widen (k := K + 8) (n := N + 240) (by omega) (by omega) ?_
  exact kk _ _ _ _ _ _ _ _ _ hI hM hR hP hD hS ls hl
set_option maxRecDepth 100000 in
set_option maxHeartbeats 4000000 in
theorem lawc_4 {p : Program} {l : Launch} {e : Env} {s : State} {m : MethodId} {below : List Frame} {meth : Method} {c : Code} {b L : Nat} {xs : Nat → Int32} (C0 : lw_At p s m meth c b L xs) (hLN : L ≤ 3584) {A : Nat → Prop} (hA : ∀ q : Nat, s.heap.size ≤ q → A q) (hbA : ¬ A b) {D : va_G} {cI cB cZ : ClassId} {zz qq vv : Nat} {bt : Nat → Int32} {g g2 : Nat → Nat} (hK : KK D cI cB cZ s) (hXS : XS D zz qq vv bt A s s.heap) {ad : Nat → Nat → Nat} {cn : Nat → Nat} {In : Nat → Int32} {Fn : Nat → Nat → Int32} {c3 : Nat → Nat} {I3 : Nat → Int32} {F3 : Nat → Nat → Int32} (hI : IX ad cn Fn) (hM : IMM c3 F3) (hR : RR cn Fn c3 F3) {H : Heap} {locs : List Loc} (hP : va_P D vwCl (wX cI (D.1 99) zz g ad cn In Fn ++ wM cI cB cZ g2 c3 I3 F3) H) (hD : va_D A (wX cI (D.1 99) zz g ad cn In Fn ++ wM cI cB cZ g2 c3 I3 F3)) (hS : va_S A s.heap H locs) {K N i : Nat} (hi : i + 7 ≤ L) (hKN : K + 8 ≤ 600000 ∧ N + 240 ≤ 7302250) {ls : Array Slot} (hl : lv_has ls 4 [(0, .ref b), (1, .ref (g 0)), (2, .ref (g2 100)), (3, .int (nI i))]) (kk : ∀ (ad : Nat → Nat → Nat) (cn : Nat → Nat) (In : Nat → Int32) (Fn : Nat → Nat → Int32) (c3 : Nat → Nat) (I3 : Nat → Int32) (F3 : Nat → Nat → Int32) (H : Heap) (locs : List Loc), IX ad cn Fn → IMM c3 F3 → RR cn Fn c3 F3 → va_P D vwCl (wX cI (D.1 99) zz g ad cn In Fn ++ wM cI cB cZ g2 c3 I3 F3) H → va_D A (wX cI (D.1 99) zz g ad cn In Fn ++ wM cI cB cZ g2 c3 I3 F3) → va_S A s.heap H locs → ∀ ls : Array Slot, lv_has ls 4 [(0, .ref b), (1, .ref (g 0)), (2, .ref (g2 100)), (3, .int (nI i))] → W p l e room_1 s m #[Value.ref b] below meth c H locs (K + 8) (N + 240) (lw_Z below #[Value.ref b] s) (F0 m 2269 ls [])) : W p l e room_1 s m #[Value.ref b] below meth c H locs K N (lw_Z below #[Value.ref b] s) (F0 m 468 ls []) := by
  obtain ⟨hx, hb, hr, hml, hown, hts, hX, hbl, hlocks, hgv⟩ := id C0
  have S : SF p m c code 4 s #[Value.ref b] RL := ⟨hx, hb, hml, hown, fun w h => hts w (wT_lw h)⟩
  refine lv_aload_n hx hb (oc_43 468 (aq_16 shL_law_452)) rfl (lvA1 hl) ?_
  refine lv_aload_n hx hb (oc_42 469 (aq_17 shL_law_452)) rfl (lvA0 hl) ?_
  refine lv_iload_n hx hb (oc_29 470 (aq_18 shL_law_452)) rfl (lvA3 hl) ?_
  refine lv_iconst (v := 1) hx hb (oc_4 471 (aq_19 shL_law_452)) kic_1 ?_
  refine lv_iadd hx hb (oc_96 472 (aq_20 shL_law_452)) ?_
  refine lv_topi (fun y_1 ey_1 => ?_)
  obtain rfl : y_1 = nI (i + 1) := ey_1.trans (nI_add i 1)
  refine va_sld hx hb hX hbl hbA hS (vp_in_nI (by omega) (by omega)) (oc_46 473 (aq_21 shL_law_452)) ?_
  refine lv_topi (fun y_2 ey_2 => ?_)
  obtain rfl : y_2 = xs (nI (i + 1)).toNatClampNeg := ey_2
  refine lv_aload_n hx hb (oc_42 474 (aq_22 shL_law_452)) rfl (lvA0 hl) ?_
  refine lv_iload_n hx hb (oc_29 475 (aq_23 shL_law_452)) rfl (lvA3 hl) ?_
  refine lv_iconst (v := 2) hx hb (oc_5 476 shL_law_476) kic_2 ?_
  refine lv_iadd hx hb (oc_96 477 (aq_1 shL_law_476)) ?_
  refine lv_topi (fun y_3 ey_3 => ?_)
  obtain rfl : y_3 = nI (i + 2) := ey_3.trans (nI_add i 2)
  refine va_sld hx hb hX hbl hbA hS (vp_in_nI (by omega) (by omega)) (oc_46 478 (aq_2 shL_law_476)) ?_
  refine lv_topi (fun y_4 ey_4 => ?_)
  obtain rfl : y_4 = xs (nI (i + 2)).toNatClampNeg := ey_4
  refine lv_aload_n hx hb (oc_42 479 (aq_3 shL_law_476)) rfl (lvA0 hl) ?_
  refine lv_iload_n hx hb (oc_29 480 (aq_4 shL_law_476)) rfl (lvA3 hl) ?_
  refine lv_iconst (v := 3) hx hb (oc_6 481 (aq_5 shL_law_476)) kic_3 ?_
  refine lv_iadd hx hb (oc_96 482 (aq_6 shL_law_476)) ?_
  refine lv_topi (fun y_5 ey_5 => ?_)
  obtain rfl : y_5 = nI (i + 3) := ey_5.trans (nI_add i 3)
  refine va_sld hx hb hX hbl hbA hS (vp_in_nI (by omega) (by omega)) (oc_46 483 (aq_7 shL_law_476)) ?_
  refine lv_topi (fun y_6 ey_6 => ?_)
  obtain rfl : y_6 = xs (nI (i + 3)).toNatClampNeg := ey_6
  refine lv_aload_n hx hb (oc_42 484 (aq_8 shL_law_476)) rfl (lvA0 hl) ?_
  refine lv_iload_n hx hb (oc_29 485 (aq_9 shL_law_476)) rfl (lvA3 hl) ?_
  refine lv_iconst (v := 4) hx hb (oc_7 486 (aq_10 shL_law_476)) kic_4 ?_
  refine lv_iadd hx hb (oc_96 487 (aq_11 shL_law_476)) ?_
  refine lv_topi (fun y_7 ey_7 => ?_)
  obtain rfl : y_7 = nI (i + 4) := ey_7.trans (nI_add i 4)
  refine va_sld hx hb hX hbl hbA hS (vp_in_nI (by omega) (by omega)) (oc_46 488 (aq_12 shL_law_476)) ?_
  refine lv_topi (fun y_8 ey_8 => ?_)
  obtain rfl : y_8 = xs (nI (i + 4)).toNatClampNeg := ey_8
  refine lv_aload_n hx hb (oc_42 489 (aq_13 shL_law_476)) rfl (lvA0 hl) ?_
  refine lv_iload_n hx hb (oc_29 490 (aq_14 shL_law_476)) rfl (lvA3 hl) ?_
  refine lv_iconst (v := 5) hx hb (oc_8 491 (aq_15 shL_law_476)) kic_5 ?_
  refine lv_iadd hx hb (oc_96 492 (aq_16 shL_law_476)) ?_
  refine lv_topi (fun y_9 ey_9 => ?_)
  obtain rfl : y_9 = nI (i + 5) := ey_9.trans (nI_add i 5)
  refine va_sld hx hb hX hbl hbA hS (vp_in_nI (by omega) (by omega)) (oc_46 493 (aq_17 shL_law_476)) ?_
  refine lv_topi (fun y_10 ey_10 => ?_)
  obtain rfl : y_10 = xs (nI (i + 5)).toNatClampNeg := ey_10
  have hFc := free_all (exD hD) hS hA
  refine va_calli (runV_xa (As := [.int (xs (nI (i + 1)).toNatClampNeg), .int (xs (nI (i + 2)).toNatClampNeg), .int (xs (nI (i + 3)).toNatClampNeg), .int (xs (nI (i + 4)).toNatClampNeg), .int (xs (nI (i + 5)).toNatClampNeg)]) (rest := []) S (q_Xfeed l D cI cB cZ zz qq vv bt g ad cn In Fn (xs (nI (i + 1)).toNatClampNeg) (xs (nI (i + 2)).toNatClampNeg) (xs (nI (i + 3)).toNatClampNeg) (xs (nI (i + 4)).toNatClampNeg) (xs (nI (i + 5)).toNatClampNeg) H.size hI.1) kV_RL_33 hK hXS hS hFc (exP hP) (exD hD) 0 xo_0 rfl rfl ⟨Nat.le_of_ble_eq_true rfl, Nat.le_of_ble_eq_true rfl⟩ ⟨(by show K + 0 ≤ 600000; omega), (by show N + 0 ≤ 7302250; omega)⟩ rfl hl.1 rfl (Nat.le_of_ble_eq_true rfl) (oc_182 494 (aq_18 shL_law_476) uw_0_33)) hS (fun q _ h => hFc q h) hFc (fun r10 u t H1 locs ht hvm w10 hB1 hz1 hk1 hS => ?_)
  obtain ⟨c10, I10, F10⟩ := u
  obtain ⟨hP1, hD1⟩ := hB1
  rw [ht] at hP1
  obtain ⟨hP, hD⟩ := exjoinL hP hD hk1 hFc hP1 hD1
  generalize H1 = H at hP hS ⊢
  have hd10 := w10.1.1
  have hf10 := w10.1.2.2
  have hI := IX.fr hI w10.1 w10.2.1 (by decide) (by decide)
  have hR := RR.fx hR hd10 hf10 (by decide) (by decide)
  refine lv_pop hx hb (oc_87 497 (aq_21 shL_law_476)) rfl ?_
  refine lv_aload_n hx hb (oc_44 498 (aq_22 shL_law_476)) rfl (lvA2 hl) ?_
  refine lv_aload_n hx hb (oc_42 499 (aq_23 shL_law_476)) rfl (lvA0 hl) ?_
  refine lv_iload_n hx hb (oc_29 500 shL_law_500) rfl (lvA3 hl) ?_
  refine lv_iconst (v := 1) hx hb (oc_4 501 (aq_1 shL_law_500)) kic_1 ?_
  refine lv_iadd hx hb (oc_96 502 (aq_2 shL_law_500)) ?_
  refine lv_topi (fun y_12 ey_12 => ?_)
  obtain rfl : y_12 = nI (i + 1) := ey_12.trans (nI_add i 1)
  refine va_sld hx hb hX hbl hbA hS (vp_in_nI (by omega) (by omega)) (oc_46 503 (aq_3 shL_law_500)) ?_
  refine lv_topi (fun y_13 ey_13 => ?_)
  obtain rfl : y_13 = xs (nI (i + 1)).toNatClampNeg := ey_13
  refine lv_aload_n hx hb (oc_42 504 (aq_4 shL_law_500)) rfl (lvA0 hl) ?_
  refine lv_iload_n hx hb (oc_29 505 (aq_5 shL_law_500)) rfl (lvA3 hl) ?_
  refine lv_iconst (v := 2) hx hb (oc_5 506 (aq_6 shL_law_500)) kic_2 ?_
  refine lv_iadd hx hb (oc_96 507 (aq_7 shL_law_500)) ?_
  refine lv_topi (fun y_14 ey_14 => ?_)
  obtain rfl : y_14 = nI (i + 2) := ey_14.trans (nI_add i 2)
  refine va_sld hx hb hX hbl hbA hS (vp_in_nI (by omega) (by omega)) (oc_46 508 (aq_8 shL_law_500)) ?_
  refine lv_topi (fun y_15 ey_15 => ?_)
  obtain rfl : y_15 = xs (nI (i + 2)).toNatClampNeg := ey_15
  refine lv_aload_n hx hb (oc_42 509 (aq_9 shL_law_500)) rfl (lvA0 hl) ?_
  refine lv_iload_n hx hb (oc_29 510 (aq_10 shL_law_500)) rfl (lvA3 hl) ?_
  refine lv_iconst (v := 3) hx hb (oc_6 511 (aq_11 shL_law_500)) kic_3 ?_
  refine lv_iadd hx hb (oc_96 512 (aq_12 shL_law_500)) ?_
  refine lv_topi (fun y_16 ey_16 => ?_)
  obtain rfl : y_16 = nI (i + 3) := ey_16.trans (nI_add i 3)
  refine va_sld hx hb hX hbl hbA hS (vp_in_nI (by omega) (by omega)) (oc_46 513 (aq_13 shL_law_500)) ?_
  refine lv_topi (fun y_17 ey_17 => ?_)
  obtain rfl : y_17 = xs (nI (i + 3)).toNatClampNeg := ey_17
  refine lv_aload_n hx hb (oc_42 514 (aq_14 shL_law_500)) rfl (lvA0 hl) ?_
  refine lv_iload_n hx hb (oc_29 515 (aq_15 shL_law_500)) rfl (lvA3 hl) ?_
  refine lv_iconst (v := 4) hx hb (oc_7 516 (aq_16 shL_law_500)) kic_4 ?_
  refine lv_iadd hx hb (oc_96 517 (aq_17 shL_law_500)) ?_
  refine lv_topi (fun y_18 ey_18 => ?_)
  obtain rfl : y_18 = nI (i + 4) := ey_18.trans (nI_add i 4)
  refine va_sld hx hb hX hbl hbA hS (vp_in_nI (by omega) (by omega)) (oc_46 518 (aq_18 shL_law_500)) ?_
  refine lv_topi (fun y_19 ey_19 => ?_)
  obtain rfl : y_19 = xs (nI (i + 4)).toNatClampNeg := ey_19
  refine lv_aload_n hx hb (oc_42 519 (aq_19 shL_law_500)) rfl (lvA0 hl) ?_
  refine lv_iload_n hx hb (oc_29 520 (aq_20 shL_law_500)) rfl (lvA3 hl) ?_
  refine lv_iconst (v := 5) hx hb (oc_8 521 (aq_21 shL_law_500)) kic_5 ?_
  refine lv_iadd hx hb (oc_96 522 (aq_22 shL_law_500)) ?_
  refine lv_topi (fun y_20 ey_20 => ?_)
  obtain rfl : y_20 = nI (i + 5) := ey_20.trans (nI_add i 5)
  refine va_sld hx hb hX hbl hbA hS (vp_in_nI (by omega) (by omega)) (oc_46 523 (aq_23 shL_law_500)) ?_
  refine lv_topi (fun y_21 ey_21 => ?_)
  obtain rfl : y_21 = xs (nI (i + 5)).toNatClampNeg := ey_21
  have hFc := free_all (exDr hD) hS hA
  refine va_calli (runV_a (As := [.int (xs (nI (i + 1)).toNatClampNeg), .int (xs (nI (i + 2)).toNatClampNeg), .int (xs (nI (i + 3)).toNatClampNeg), .int (xs (nI (i + 4)).toNatClampNeg), .int (xs (nI (i + 5)).toNatClampNeg)]) (rest := []) S (q_feed l D cI cB cZ g2 c3 I3 F3 (xs (nI (i + 1)).toNatClampNeg) (xs (nI (i + 2)).toNatClampNeg) (xs (nI (i + 3)).toNatClampNeg) (xs (nI (i + 4)).toNatClampNeg) (xs (nI (i + 5)).toNatClampNeg) H.size hM.1 hM.2) kV_RL_37 hK (exPr hP) (exDr hD) 0 rfl rfl rfl ⟨Nat.le_of_ble_eq_true rfl, Nat.le_of_ble_eq_true rfl⟩ ⟨(by show K + 0 ≤ 600000; omega), (by show N + 0 ≤ 7302250; omega)⟩ rfl hl.1 rfl (Nat.le_of_ble_eq_true rfl) (oc_182 524 shL_law_524 uw_0_37)) hS (fun q _ h => hFc q h) hFc (fun r21 u t H1 locs ht hvm w21 hB1 hz1 hk1 hS => ?_)
  obtain ⟨c21, I21, F21⟩ := u
  obtain ⟨hP1, hD1⟩ := hB1
  rw [ht] at hP1
  obtain ⟨hP, hD⟩ := exjoin hP hD hk1 hFc hP1 hD1
  generalize H1 = H at hP hS ⊢
  obtain ⟨hM, hd21, hf21⟩ := imm_feed hM w21
  have hR := RR.fm hR hd21 hf21 (by decide) (by decide)
  refine lv_pop hx hb (oc_87 527 (aq_3 shL_law_524)) rfl ?_
  refine lv_goto (tgt := 2269) hx hb (oc_167 528 (aq_4 shL_law_524) sgw_6_205) rfl ?_
  refine W.widen (k := K + 8) (n := N + 240) (by omega) (by omega) ?_
  exact kk _ _ _ _ _ _ _ _ _ hI hM hR hP hD hS ls hl
set_option maxRecDepth 100000 in
set_option maxHeartbeats 4000000 in
theorem lawc_5 {p : Program} {l : Launch} {e : Env} {s : State} {m : MethodId} {below : List Frame} {meth : Method} {c : Code} {b L : Nat} {xs : Nat → Int32} (C0 : lw_At p s m meth c b L xs) (hLN : L ≤ 3584) {A : Nat → Prop} (hA : ∀ q : Nat, s.heap.size ≤ q → A q) (hbA : ¬ A b) {D : va_G} {cI cB cZ : ClassId} {zz qq vv : Nat} {bt : Nat → Int32} {g g2 : Nat → Nat} (hK : KK D cI cB cZ s) (hXS : XS D zz qq vv bt A s s.heap) {ad : Nat → Nat → Nat} {cn : Nat → Nat} {In : Nat → Int32} {Fn : Nat → Nat → Int32} {c3 : Nat → Nat} {I3 : Nat → Int32} {F3 : Nat → Nat → Int32} (hI : IX ad cn Fn) (hM : IMM c3 F3) (hR : RR cn Fn c3 F3) {H : Heap} {locs : List Loc} (hP : va_P D vwCl (wX cI (D.1 99) zz g ad cn In Fn ++ wM cI cB cZ g2 c3 I3 F3) H) (hD : va_D A (wX cI (D.1 99) zz g ad cn In Fn ++ wM cI cB cZ g2 c3 I3 F3)) (hS : va_S A s.heap H locs) {K N i : Nat} (hi : i + 7 ≤ L) (hKN : K + 8 ≤ 600000 ∧ N + 240 ≤ 7302250) {ls : Array Slot} (hl : lv_has ls 4 [(0, .ref b), (1, .ref (g 0)), (2, .ref (g2 100)), (3, .int (nI i))]) (kk : ∀ (ad : Nat → Nat → Nat) (cn : Nat → Nat) (In : Nat → Int32) (Fn : Nat → Nat → Int32) (c3 : Nat → Nat) (I3 : Nat → Int32) (F3 : Nat → Nat → Int32) (H : Heap) (locs : List Loc), IX ad cn Fn → IMM c3 F3 → RR cn Fn c3 F3 → va_P D vwCl (wX cI (D.1 99) zz g ad cn In Fn ++ wM cI cB cZ g2 c3 I3 F3) H → va_D A (wX cI (D.1 99) zz g ad cn In Fn ++ wM cI cB cZ g2 c3 I3 F3) → va_S A s.heap H locs → ∀ ls : Array Slot, lv_has ls 4 [(0, .ref b), (1, .ref (g 0)), (2, .ref (g2 100)), (3, .int (nI i))] → W p l e room_1 s m #[Value.ref b] below meth c H locs (K + 8) (N + 240) (lw_Z below #[Value.ref b] s) (F0 m 2269 ls [])) : W p l e room_1 s m #[Value.ref b] below meth c H locs K N (lw_Z below #[Value.ref b] s) (F0 m 531 ls []) := by
  obtain ⟨hx, hb, hr, hml, hown, hts, hX, hbl, hlocks, hgv⟩ := id C0
  have S : SF p m c code 4 s #[Value.ref b] RL := ⟨hx, hb, hml, hown, fun w h => hts w (wT_lw h)⟩
  refine lv_aload_n hx hb (oc_43 531 (aq_7 shL_law_524)) rfl (lvA1 hl) ?_
  refine lv_aload_n hx hb (oc_42 532 (aq_8 shL_law_524)) rfl (lvA0 hl) ?_
  refine lv_iload_n hx hb (oc_29 533 (aq_9 shL_law_524)) rfl (lvA3 hl) ?_
  refine lv_iconst (v := 1) hx hb (oc_4 534 (aq_10 shL_law_524)) kic_1 ?_
  refine lv_iadd hx hb (oc_96 535 (aq_11 shL_law_524)) ?_
  refine lv_topi (fun y_1 ey_1 => ?_)
  obtain rfl : y_1 = nI (i + 1) := ey_1.trans (nI_add i 1)
  refine va_sld hx hb hX hbl hbA hS (vp_in_nI (by omega) (by omega)) (oc_46 536 (aq_12 shL_law_524)) ?_
  refine lv_topi (fun y_2 ey_2 => ?_)
  obtain rfl : y_2 = xs (nI (i + 1)).toNatClampNeg := ey_2
  refine lv_aload_n hx hb (oc_42 537 (aq_13 shL_law_524)) rfl (lvA0 hl) ?_
  refine lv_iload_n hx hb (oc_29 538 (aq_14 shL_law_524)) rfl (lvA3 hl) ?_
  refine lv_iconst (v := 2) hx hb (oc_5 539 (aq_15 shL_law_524)) kic_2 ?_
  refine lv_iadd hx hb (oc_96 540 (aq_16 shL_law_524)) ?_
  refine lv_topi (fun y_3 ey_3 => ?_)
  obtain rfl : y_3 = nI (i + 2) := ey_3.trans (nI_add i 2)
  refine va_sld hx hb hX hbl hbA hS (vp_in_nI (by omega) (by omega)) (oc_46 541 (aq_17 shL_law_524)) ?_
  refine lv_topi (fun y_4 ey_4 => ?_)
  obtain rfl : y_4 = xs (nI (i + 2)).toNatClampNeg := ey_4
  have hFc := free_all (exD hD) hS hA
  refine va_calli (runV_xa (As := [.int (xs (nI (i + 1)).toNatClampNeg), .int (xs (nI (i + 2)).toNatClampNeg)]) (rest := []) S (q_Xcontract l D cI cB cZ zz qq vv bt g ad cn In Fn (xs (nI (i + 1)).toNatClampNeg) (xs (nI (i + 2)).toNatClampNeg) H.size hI.1 hI.2.1 hI.2.2.1 hI.2.2.2.1) kV_RL_38 hK hXS hS hFc (exP hP) (exD hD) 0 xo_0 rfl rfl ⟨Nat.le_of_ble_eq_true rfl, Nat.le_of_ble_eq_true rfl⟩ ⟨(by show K + 6 ≤ 600000; omega), (by show N + 237 ≤ 7302250; omega)⟩ rfl hl.1 rfl (Nat.le_of_ble_eq_true rfl) (oc_182 542 (aq_18 shL_law_524) uw_0_38)) hS (fun q _ h => hFc q h) hFc (fun r4 u t H1 locs ht hvm w4 hB1 hz1 hk1 hS => ?_)
  obtain ⟨a4, c4, I4, F4⟩ := u
  obtain ⟨hP1, hD1⟩ := hB1
  rw [ht] at hP1
  obtain ⟨hP, hD⟩ := exjoinL hP hD hk1 hFc hP1 hD1
  generalize H1 = H at hP hS ⊢
  obtain ⟨hI, hd4, hf4⟩ := ix_contract hI w4
  have hR := RR.fx hR hd4 hf4 (by decide) (by decide)
  refine lv_pop hx hb (oc_87 545 (aq_21 shL_law_524)) rfl ?_
  refine lv_aload_n hx hb (oc_44 546 (aq_22 shL_law_524)) rfl (lvA2 hl) ?_
  refine lv_aload_n hx hb (oc_42 547 (aq_23 shL_law_524)) rfl (lvA0 hl) ?_
  refine lv_iload_n hx hb (oc_29 548 shL_law_548) rfl (lvA3 hl) ?_
  refine lv_iconst (v := 1) hx hb (oc_4 549 (aq_1 shL_law_548)) kic_1 ?_
  refine lv_iadd hx hb (oc_96 550 (aq_2 shL_law_548)) ?_
  refine lv_topi (fun y_6 ey_6 => ?_)
  obtain rfl : y_6 = nI (i + 1) := ey_6.trans (nI_add i 1)
  refine va_sld hx hb hX hbl hbA hS (vp_in_nI (by omega) (by omega)) (oc_46 551 (aq_3 shL_law_548)) ?_
  refine lv_topi (fun y_7 ey_7 => ?_)
  obtain rfl : y_7 = xs (nI (i + 1)).toNatClampNeg := ey_7
  refine lv_aload_n hx hb (oc_42 552 (aq_4 shL_law_548)) rfl (lvA0 hl) ?_
  refine lv_iload_n hx hb (oc_29 553 (aq_5 shL_law_548)) rfl (lvA3 hl) ?_
  refine lv_iconst (v := 2) hx hb (oc_5 554 (aq_6 shL_law_548)) kic_2 ?_
  refine lv_iadd hx hb (oc_96 555 (aq_7 shL_law_548)) ?_
  refine lv_topi (fun y_8 ey_8 => ?_)
  obtain rfl : y_8 = nI (i + 2) := ey_8.trans (nI_add i 2)
  refine va_sld hx hb hX hbl hbA hS (vp_in_nI (by omega) (by omega)) (oc_46 556 (aq_8 shL_law_548)) ?_
  refine lv_topi (fun y_9 ey_9 => ?_)
  obtain rfl : y_9 = xs (nI (i + 2)).toNatClampNeg := ey_9
  have hFc := free_all (exDr hD) hS hA
  refine va_calli (runV_a (As := [.int (xs (nI (i + 1)).toNatClampNeg), .int (xs (nI (i + 2)).toNatClampNeg)]) (rest := []) S (q_contract8 l D cI cB cZ g2 c3 I3 F3 (xs (nI (i + 1)).toNatClampNeg) (xs (nI (i + 2)).toNatClampNeg) H.size hM.1 hM.2) kV_RL_41 hK (exPr hP) (exDr hD) 0 rfl rfl rfl ⟨Nat.le_of_ble_eq_true rfl, Nat.le_of_ble_eq_true rfl⟩ ⟨(by show K + 6 + 0 ≤ 600000; omega), (by show N + 237 + 0 ≤ 7302250; omega)⟩ rfl hl.1 rfl (Nat.le_of_ble_eq_true rfl) (oc_182 557 (aq_9 shL_law_548) uw_0_41)) hS (fun q _ h => hFc q h) hFc (fun r9 u t H1 locs ht hvm w9 hB1 hz1 hk1 hS => ?_)
  obtain ⟨c9, I9, F9⟩ := u
  obtain ⟨hP1, hD1⟩ := hB1
  rw [ht] at hP1
  obtain ⟨hP, hD⟩ := exjoin hP hD hk1 hFc hP1 hD1
  generalize H1 = H at hP hS ⊢
  obtain ⟨hM, hd9, hf9⟩ := imm_contract8 hM w9
  have hR := RR.fm hR hd9 hf9 (by decide) (by decide)
  refine lv_pop hx hb (oc_87 560 (aq_12 shL_law_548)) rfl ?_
  refine lv_goto (tgt := 2269) hx hb (oc_167 561 (aq_13 shL_law_548) sgw_6_172) rfl ?_
  refine W.widen (k := K + 8) (n := N + 240) (by omega) (by omega) ?_
  exact kk _ _ _ _ _ _ _ _ _ hI hM hR hP hD hS ls hl
set_option maxRecDepth 100000 in
set_option maxHeartbeats 4000000 in
theorem lawc_6 {p : Program} {l : Launch} {e : Env} {s : State} {m : MethodId} {below : List Frame} {meth : Method} {c : Code} {b L : Nat} {xs : Nat → Int32} (C0 : lw_At p s m meth c b L xs) (hLN : L ≤ 3584) {A : Nat → Prop} (hA : ∀ q : Nat, s.heap.size ≤ q → A q) (hbA : ¬ A b) {D : va_G} {cI cB cZ : ClassId} {zz qq vv : Nat} {bt : Nat → Int32} {g g2 : Nat → Nat} (hK : KK D cI cB cZ s) (hXS : XS D zz qq vv bt A s s.heap) {ad : Nat → Nat → Nat} {cn : Nat → Nat} {In : Nat → Int32} {Fn : Nat → Nat → Int32} {c3 : Nat → Nat} {I3 : Nat → Int32} {F3 : Nat → Nat → Int32} (hI : IX ad cn Fn) (hM : IMM c3 F3) (hR : RR cn Fn c3 F3) {H : Heap} {locs : List Loc} (hP : va_P D vwCl (wX cI (D.1 99) zz g ad cn In Fn ++ wM cI cB cZ g2 c3 I3 F3) H) (hD : va_D A (wX cI (D.1 99) zz g ad cn In Fn ++ wM cI cB cZ g2 c3 I3 F3)) (hS : va_S A s.heap H locs) {K N i : Nat} (hi : i + 7 ≤ L) (hKN : K + 8 ≤ 600000 ∧ N + 240 ≤ 7302250) {ls : Array Slot} (hl : lv_has ls 4 [(0, .ref b), (1, .ref (g 0)), (2, .ref (g2 100)), (3, .int (nI i))]) (kk : ∀ (ad : Nat → Nat → Nat) (cn : Nat → Nat) (In : Nat → Int32) (Fn : Nat → Nat → Int32) (c3 : Nat → Nat) (I3 : Nat → Int32) (F3 : Nat → Nat → Int32) (H : Heap) (locs : List Loc), IX ad cn Fn → IMM c3 F3 → RR cn Fn c3 F3 → va_P D vwCl (wX cI (D.1 99) zz g ad cn In Fn ++ wM cI cB cZ g2 c3 I3 F3) H → va_D A (wX cI (D.1 99) zz g ad cn In Fn ++ wM cI cB cZ g2 c3 I3 F3) → va_S A s.heap H locs → ∀ ls : Array Slot, lv_has ls 4 [(0, .ref b), (1, .ref (g 0)), (2, .ref (g2 100)), (3, .int (nI i))] → W p l e room_1 s m #[Value.ref b] below meth c H locs (K + 8) (N + 240) (lw_Z below #[Value.ref b] s) (F0 m 2269 ls [])) : W p l e room_1 s m #[Value.ref b] below meth c H locs K N (lw_Z below #[Value.ref b] s) (F0 m 564 ls []) := by
  obtain ⟨hx, hb, hr, hml, hown, hts, hX, hbl, hlocks, hgv⟩ := id C0
  have S : SF p m c code 4 s #[Value.ref b] RL := ⟨hx, hb, hml, hown, fun w h => hts w (wT_lw h)⟩
  refine lv_aload_n hx hb (oc_43 564 (aq_16 shL_law_548)) rfl (lvA1 hl) ?_
  refine lv_aload_n hx hb (oc_42 565 (aq_17 shL_law_548)) rfl (lvA0 hl) ?_
  refine lv_iload_n hx hb (oc_29 566 (aq_18 shL_law_548)) rfl (lvA3 hl) ?_
  refine lv_iconst (v := 1) hx hb (oc_4 567 (aq_19 shL_law_548)) kic_1 ?_
  refine lv_iadd hx hb (oc_96 568 (aq_20 shL_law_548)) ?_
  refine lv_topi (fun y_1 ey_1 => ?_)
  obtain rfl : y_1 = nI (i + 1) := ey_1.trans (nI_add i 1)
  refine va_sld hx hb hX hbl hbA hS (vp_in_nI (by omega) (by omega)) (oc_46 569 (aq_21 shL_law_548)) ?_
  refine lv_topi (fun y_2 ey_2 => ?_)
  obtain rfl : y_2 = xs (nI (i + 1)).toNatClampNeg := ey_2
  have hFc := free_all (exD hD) hS hA
  refine va_calli (runV_xa (As := [.int (xs (nI (i + 1)).toNatClampNeg)]) (rest := []) S (q_Xlaw l D cI cB cZ zz qq vv bt g ad cn In Fn (xs (nI (i + 1)).toNatClampNeg) H.size hI.1 hI.2.1 hI.2.2.1 hI.2.2.2.1) kV_RL_42 hK hXS hS hFc (exP hP) (exD hD) 0 xo_0 rfl rfl ⟨Nat.le_of_ble_eq_true rfl, Nat.le_of_ble_eq_true rfl⟩ ⟨(by show K + 6 ≤ 600000; omega), (by show N + 237 ≤ 7302250; omega)⟩ rfl hl.1 rfl (Nat.le_of_ble_eq_true rfl) (oc_182 570 (aq_22 shL_law_548) uw_0_42)) hS (fun q _ h => hFc q h) hFc (fun r2 u t H1 locs ht hvm w2 hB1 hz1 hk1 hS => ?_)
  obtain ⟨a2, c2, I2, F2⟩ := u
  obtain ⟨hP1, hD1⟩ := hB1
  rw [ht] at hP1
  obtain ⟨hP, hD⟩ := exjoinL hP hD hk1 hFc hP1 hD1
  generalize H1 = H at hP hS ⊢
  obtain ⟨hI, hd2, hf2⟩ := ix_contract hI w2
  have hR := RR.fx hR hd2 hf2 (by decide) (by decide)
  refine lv_pop hx hb (oc_87 573 shL_law_573) rfl ?_
  refine lv_aload_n hx hb (oc_44 574 (aq_1 shL_law_573)) rfl (lvA2 hl) ?_
  refine lv_aload_n hx hb (oc_42 575 (aq_2 shL_law_573)) rfl (lvA0 hl) ?_
  refine lv_iload_n hx hb (oc_29 576 (aq_3 shL_law_573)) rfl (lvA3 hl) ?_
  refine lv_iconst (v := 1) hx hb (oc_4 577 (aq_4 shL_law_573)) kic_1 ?_
  refine lv_iadd hx hb (oc_96 578 (aq_5 shL_law_573)) ?_
  refine lv_topi (fun y_4 ey_4 => ?_)
  obtain rfl : y_4 = nI (i + 1) := ey_4.trans (nI_add i 1)
  refine va_sld hx hb hX hbl hbA hS (vp_in_nI (by omega) (by omega)) (oc_46 579 (aq_6 shL_law_573)) ?_
  refine lv_topi (fun y_5 ey_5 => ?_)
  obtain rfl : y_5 = xs (nI (i + 1)).toNatClampNeg := ey_5
  have hFc := free_all (exDr hD) hS hA
  refine va_calli (runV_a (As := [.int (xs (nI (i + 1)).toNatClampNeg)]) (rest := []) S (q_law8 l D cI cB cZ g2 c3 I3 F3 (xs (nI (i + 1)).toNatClampNeg) H.size hM.1 hM.2) kV_RL_46 hK (exPr hP) (exDr hD) 0 rfl rfl rfl ⟨Nat.le_of_ble_eq_true rfl, Nat.le_of_ble_eq_true rfl⟩ ⟨(by show K + 6 + 0 ≤ 600000; omega), (by show N + 237 + 0 ≤ 7302250; omega)⟩ rfl hl.1 rfl (Nat.le_of_ble_eq_true rfl) (oc_182 580 (aq_7 shL_law_573) uw_0_46)) hS (fun q _ h => hFc q h) hFc (fun r5 u t H1 locs ht hvm w5 hB1 hz1 hk1 hS => ?_)
  obtain ⟨c5, I5, F5⟩ := u
  obtain ⟨hP1, hD1⟩ := hB1
  rw [ht] at hP1
  obtain ⟨hP, hD⟩ := exjoin hP hD hk1 hFc hP1 hD1
  generalize H1 = H at hP hS ⊢
  obtain ⟨hM, hd5, hf5⟩ := imm_law8 hM w5
  have hR := RR.fm hR hd5 hf5 (by decide) (by decide)
  refine lv_pop hx hb (oc_87 583 (aq_10 shL_law_573)) rfl ?_
  refine lv_goto (tgt := 2269) hx hb (oc_167 584 (aq_11 shL_law_573) sgw_6_149) rfl ?_
  refine W.widen (k := K + 8) (n := N + 240) (by omega) (by omega) ?_
  exact kk _ _ _ _ _ _ _ _ _ hI hM hR hP hD hS ls hl
set_option maxRecDepth 100000 in
set_option maxHeartbeats 4000000 in
theorem lawc_7 {p : Program} {l : Launch} {e : Env} {s : State} {m : MethodId} {below : List Frame} {meth : Method} {c : Code} {b L : Nat} {xs : Nat → Int32} (C0 : lw_At p s m meth c b L xs) (hLN : L ≤ 3584) {A : Nat → Prop} (hA : ∀ q : Nat, s.heap.size ≤ q → A q) (hbA : ¬ A b) {D : va_G} {cI cB cZ : ClassId} {zz qq vv : Nat} {bt : Nat → Int32} {g g2 : Nat → Nat} (hK : KK D cI cB cZ s) (hXS : XS D zz qq vv bt A s s.heap) {ad : Nat → Nat → Nat} {cn : Nat → Nat} {In : Nat → Int32} {Fn : Nat → Nat → Int32} {c3 : Nat → Nat} {I3 : Nat → Int32} {F3 : Nat → Nat → Int32} (hI : IX ad cn Fn) (hM : IMM c3 F3) (hR : RR cn Fn c3 F3) {H : Heap} {locs : List Loc} (hP : va_P D vwCl (wX cI (D.1 99) zz g ad cn In Fn ++ wM cI cB cZ g2 c3 I3 F3) H) (hD : va_D A (wX cI (D.1 99) zz g ad cn In Fn ++ wM cI cB cZ g2 c3 I3 F3)) (hS : va_S A s.heap H locs) {K N i : Nat} (hi : i + 7 ≤ L) (hKN : K + 8 ≤ 600000 ∧ N + 240 ≤ 7302250) {ls : Array Slot} (hl : lv_has ls 4 [(0, .ref b), (1, .ref (g 0)), (2, .ref (g2 100)), (3, .int (nI i))]) (kk : ∀ (ad : Nat → Nat → Nat) (cn : Nat → Nat) (In : Nat → Int32) (Fn : Nat → Nat → Int32) (c3 : Nat → Nat) (I3 : Nat → Int32) (F3 : Nat → Nat → Int32) (H : Heap) (locs : List Loc), IX ad cn Fn → IMM c3 F3 → RR cn Fn c3 F3 → va_P D vwCl (wX cI (D.1 99) zz g ad cn In Fn ++ wM cI cB cZ g2 c3 I3 F3) H → va_D A (wX cI (D.1 99) zz g ad cn In Fn ++ wM cI cB cZ g2 c3 I3 F3) → va_S A s.heap H locs → ∀ ls : Array Slot, lv_has ls 4 [(0, .ref b), (1, .ref (g 0)), (2, .ref (g2 100)), (3, .int (nI i))] → W p l e room_1 s m #[Value.ref b] below meth c H locs (K + 8) (N + 240) (lw_Z below #[Value.ref b] s) (F0 m 2269 ls [])) : W p l e room_1 s m #[Value.ref b] below meth c H locs K N (lw_Z below #[Value.ref b] s) (F0 m 587 ls []) := by
  obtain ⟨hx, hb, hr, hml, hown, hts, hX, hbl, hlocks, hgv⟩ := id C0
  have S : SF p m c code 4 s #[Value.ref b] RL := ⟨hx, hb, hml, hown, fun w h => hts w (wT_lw h)⟩
  refine lv_aload_n hx hb (oc_43 587 (aq_14 shL_law_573)) rfl (lvA1 hl) ?_
  refine lv_aload_n hx hb (oc_42 588 (aq_15 shL_law_573)) rfl (lvA0 hl) ?_
  refine lv_iload_n hx hb (oc_29 589 (aq_16 shL_law_573)) rfl (lvA3 hl) ?_
  refine lv_iconst (v := 1) hx hb (oc_4 590 (aq_17 shL_law_573)) kic_1 ?_
  refine lv_iadd hx hb (oc_96 591 (aq_18 shL_law_573)) ?_
  refine lv_topi (fun y_1 ey_1 => ?_)
  obtain rfl : y_1 = nI (i + 1) := ey_1.trans (nI_add i 1)
  refine va_sld hx hb hX hbl hbA hS (vp_in_nI (by omega) (by omega)) (oc_46 592 (aq_19 shL_law_573)) ?_
  refine lv_topi (fun y_2 ey_2 => ?_)
  obtain rfl : y_2 = xs (nI (i + 1)).toNatClampNeg := ey_2
  refine lv_aload_n hx hb (oc_42 593 (aq_20 shL_law_573)) rfl (lvA0 hl) ?_
  refine lv_iload_n hx hb (oc_29 594 (aq_21 shL_law_573)) rfl (lvA3 hl) ?_
  refine lv_iconst (v := 2) hx hb (oc_5 595 (aq_22 shL_law_573)) kic_2 ?_
  refine lv_iadd hx hb (oc_96 596 (aq_23 shL_law_573)) ?_
  refine lv_topi (fun y_3 ey_3 => ?_)
  obtain rfl : y_3 = nI (i + 2) := ey_3.trans (nI_add i 2)
  refine va_sld hx hb hX hbl hbA hS (vp_in_nI (by omega) (by omega)) (oc_46 597 shL_law_597) ?_
  refine lv_topi (fun y_4 ey_4 => ?_)
  obtain rfl : y_4 = xs (nI (i + 2)).toNatClampNeg := ey_4
  have hFc := free_all (exD hD) hS hA
  refine va_calli (runV_xa (As := [.int (xs (nI (i + 1)).toNatClampNeg), .int (xs (nI (i + 2)).toNatClampNeg)]) (rest := []) S (q_Xprice l D cI cB cZ zz qq vv bt g ad cn In Fn (xs (nI (i + 1)).toNatClampNeg) (xs (nI (i + 2)).toNatClampNeg) H.size hI.1) kV_RL_47 hK hXS hS hFc (exP hP) (exD hD) 0 xo_0 rfl rfl ⟨Nat.le_of_ble_eq_true rfl, Nat.le_of_ble_eq_true rfl⟩ ⟨(by show K + 0 ≤ 600000; omega), (by show N + 0 ≤ 7302250; omega)⟩ rfl hl.1 rfl (Nat.le_of_ble_eq_true rfl) (oc_182 598 (aq_1 shL_law_597) uw_0_47)) hS (fun q _ h => hFc q h) hFc (fun r4 u t H1 locs ht hvm w4 hB1 hz1 hk1 hS => ?_)
  obtain ⟨c4, I4, F4⟩ := u
  obtain ⟨hP1, hD1⟩ := hB1
  rw [ht] at hP1
  obtain ⟨hP, hD⟩ := exjoinL hP hD hk1 hFc hP1 hD1
  generalize H1 = H at hP hS ⊢
  have hd4 := w4.1.1
  have hf4 := w4.1.2.2
  have hI := IX.fr hI w4.1 w4.2.1 (by decide) (by decide)
  have hR := RR.fx hR hd4 hf4 (by decide) (by decide)
  refine lv_pop hx hb (oc_87 601 (aq_4 shL_law_597)) rfl ?_
  refine lv_aload_n hx hb (oc_44 602 (aq_5 shL_law_597)) rfl (lvA2 hl) ?_
  refine lv_aload_n hx hb (oc_42 603 (aq_6 shL_law_597)) rfl (lvA0 hl) ?_
  refine lv_iload_n hx hb (oc_29 604 (aq_7 shL_law_597)) rfl (lvA3 hl) ?_
  refine lv_iconst (v := 1) hx hb (oc_4 605 (aq_8 shL_law_597)) kic_1 ?_
  refine lv_iadd hx hb (oc_96 606 (aq_9 shL_law_597)) ?_
  refine lv_topi (fun y_6 ey_6 => ?_)
  obtain rfl : y_6 = nI (i + 1) := ey_6.trans (nI_add i 1)
  refine va_sld hx hb hX hbl hbA hS (vp_in_nI (by omega) (by omega)) (oc_46 607 (aq_10 shL_law_597)) ?_
  refine lv_topi (fun y_7 ey_7 => ?_)
  obtain rfl : y_7 = xs (nI (i + 1)).toNatClampNeg := ey_7
  refine lv_aload_n hx hb (oc_42 608 (aq_11 shL_law_597)) rfl (lvA0 hl) ?_
  refine lv_iload_n hx hb (oc_29 609 (aq_12 shL_law_597)) rfl (lvA3 hl) ?_
  refine lv_iconst (v := 2) hx hb (oc_5 610 (aq_13 shL_law_597)) kic_2 ?_
  refine lv_iadd hx hb (oc_96 611 (aq_14 shL_law_597)) ?_
  refine lv_topi (fun y_8 ey_8 => ?_)
  obtain rfl : y_8 = nI (i + 2) := ey_8.trans (nI_add i 2)
  refine va_sld hx hb hX hbl hbA hS (vp_in_nI (by omega) (by omega)) (oc_46 612 (aq_15 shL_law_597)) ?_
  refine lv_topi (fun y_9 ey_9 => ?_)
  obtain rfl : y_9 = xs (nI (i + 2)).toNatClampNeg := ey_9
  have hFc := free_all (exDr hD) hS hA
  refine va_calli (runV_a (As := [.int (xs (nI (i + 1)).toNatClampNeg), .int (xs (nI (i + 2)).toNatClampNeg)]) (rest := []) S (q_price l D cI cB cZ g2 c3 I3 F3 (xs (nI (i + 1)).toNatClampNeg) (xs (nI (i + 2)).toNatClampNeg) H.size hM.1) kV_RL_51 hK (exPr hP) (exDr hD) 0 rfl rfl rfl ⟨Nat.le_of_ble_eq_true rfl, Nat.le_of_ble_eq_true rfl⟩ ⟨(by show K + 0 ≤ 600000; omega), (by show N + 0 ≤ 7302250; omega)⟩ rfl hl.1 rfl (Nat.le_of_ble_eq_true rfl) (oc_182 613 (aq_16 shL_law_597) uw_0_51)) hS (fun q _ h => hFc q h) hFc (fun r9 u t H1 locs ht hvm w9 hB1 hz1 hk1 hS => ?_)
  obtain ⟨c9, I9, F9⟩ := u
  obtain ⟨hP1, hD1⟩ := hB1
  rw [ht] at hP1
  obtain ⟨hP, hD⟩ := exjoin hP hD hk1 hFc hP1 hD1
  generalize H1 = H at hP hS ⊢
  obtain ⟨hM, hd9, hf9⟩ := imm_price hM w9
  have hR := RR.fm hR hd9 hf9 (by decide) (by decide)
  refine lv_pop hx hb (oc_87 616 (aq_19 shL_law_597)) rfl ?_
  refine lv_goto (tgt := 2269) hx hb (oc_167 617 (aq_20 shL_law_597) sgw_6_116) rfl ?_
  refine W.widen (k := K + 8) (n := N + 240) (by omega) (by omega) ?_
  exact kk _ _ _ _ _ _ _ _ _ hI hM hR hP hD hS ls hl
set_option maxRecDepth 100000 in
set_option maxHeartbeats 4000000 in
theorem lawc_8 {p : Program} {l : Launch} {e : Env} {s : State} {m : MethodId} {below : List Frame} {meth : Method} {c : Code} {b L : Nat} {xs : Nat → Int32} (C0 : lw_At p s m meth c b L xs) (hLN : L ≤ 3584) {A : Nat → Prop} (hA : ∀ q : Nat, s.heap.size ≤ q → A q) (hbA : ¬ A b) {D : va_G} {cI cB cZ : ClassId} {zz qq vv : Nat} {bt : Nat → Int32} {g g2 : Nat → Nat} (hK : KK D cI cB cZ s) (hXS : XS D zz qq vv bt A s s.heap) {ad : Nat → Nat → Nat} {cn : Nat → Nat} {In : Nat → Int32} {Fn : Nat → Nat → Int32} {c3 : Nat → Nat} {I3 : Nat → Int32} {F3 : Nat → Nat → Int32} (hI : IX ad cn Fn) (hM : IMM c3 F3) (hR : RR cn Fn c3 F3) {H : Heap} {locs : List Loc} (hP : va_P D vwCl (wX cI (D.1 99) zz g ad cn In Fn ++ wM cI cB cZ g2 c3 I3 F3) H) (hD : va_D A (wX cI (D.1 99) zz g ad cn In Fn ++ wM cI cB cZ g2 c3 I3 F3)) (hS : va_S A s.heap H locs) {K N i : Nat} (hi : i + 7 ≤ L) (hKN : K + 8 ≤ 600000 ∧ N + 240 ≤ 7302250) {ls : Array Slot} (hl : lv_has ls 4 [(0, .ref b), (1, .ref (g 0)), (2, .ref (g2 100)), (3, .int (nI i))]) (kk : ∀ (ad : Nat → Nat → Nat) (cn : Nat → Nat) (In : Nat → Int32) (Fn : Nat → Nat → Int32) (c3 : Nat → Nat) (I3 : Nat → Int32) (F3 : Nat → Nat → Int32) (H : Heap) (locs : List Loc), IX ad cn Fn → IMM c3 F3 → RR cn Fn c3 F3 → va_P D vwCl (wX cI (D.1 99) zz g ad cn In Fn ++ wM cI cB cZ g2 c3 I3 F3) H → va_D A (wX cI (D.1 99) zz g ad cn In Fn ++ wM cI cB cZ g2 c3 I3 F3) → va_S A s.heap H locs → ∀ ls : Array Slot, lv_has ls 4 [(0, .ref b), (1, .ref (g 0)), (2, .ref (g2 100)), (3, .int (nI i))] → W p l e room_1 s m #[Value.ref b] below meth c H locs (K + 8) (N + 240) (lw_Z below #[Value.ref b] s) (F0 m 2269 ls [])) : W p l e room_1 s m #[Value.ref b] below meth c H locs K N (lw_Z below #[Value.ref b] s) (F0 m 620 ls []) := by
  obtain ⟨hx, hb, hr, hml, hown, hts, hX, hbl, hlocks, hgv⟩ := id C0
  have S : SF p m c code 4 s #[Value.ref b] RL := ⟨hx, hb, hml, hown, fun w h => hts w (wT_lw h)⟩
  refine lv_aload_n hx hb (oc_43 620 (aq_23 shL_law_597)) rfl (lvA1 hl) ?_
  refine lv_aload_n hx hb (oc_42 621 shL_law_621) rfl (lvA0 hl) ?_
  refine lv_iload_n hx hb (oc_29 622 (aq_1 shL_law_621)) rfl (lvA3 hl) ?_
  refine lv_iconst (v := 1) hx hb (oc_4 623 (aq_2 shL_law_621)) kic_1 ?_
  refine lv_iadd hx hb (oc_96 624 (aq_3 shL_law_621)) ?_
  refine lv_topi (fun y_1 ey_1 => ?_)
  obtain rfl : y_1 = nI (i + 1) := ey_1.trans (nI_add i 1)
  refine va_sld hx hb hX hbl hbA hS (vp_in_nI (by omega) (by omega)) (oc_46 625 (aq_4 shL_law_621)) ?_
  refine lv_topi (fun y_2 ey_2 => ?_)
  obtain rfl : y_2 = xs (nI (i + 1)).toNatClampNeg := ey_2
  have hFc := free_all (exD hD) hS hA
  refine va_calli (runV_xa (As := [.int (xs (nI (i + 1)).toNatClampNeg)]) (rest := []) S (q_Xpence l D cI cB cZ zz qq vv bt g ad cn In Fn (xs (nI (i + 1)).toNatClampNeg) H.size hI.1 hI.2.1 hI.2.2.1) kV_RL_52 hK hXS hS hFc (exP hP) (exD hD) 0 xo_0 rfl rfl ⟨Nat.le_of_ble_eq_true rfl, Nat.le_of_ble_eq_true rfl⟩ ⟨(by show K + 0 ≤ 600000; omega), (by show N + 0 ≤ 7302250; omega)⟩ rfl hl.1 rfl (Nat.le_of_ble_eq_true rfl) (oc_182 626 (aq_5 shL_law_621) uw_0_52)) hS (fun q _ h => hFc q h) hFc (fun r2 u t H1 locs ht hvm w2 hB1 hz1 hk1 hS => ?_)
  obtain ⟨c2, I2, F2⟩ := u
  obtain ⟨hP1, hD1⟩ := hB1
  rw [ht] at hP1
  obtain ⟨hP, hD⟩ := exjoinL hP hD hk1 hFc hP1 hD1
  generalize H1 = H at hP hS ⊢
  have hd2 := w2.1.1
  have hf2 := w2.1.2.2
  have hI := IX.fr hI w2.1 w2.2.1 (by decide) (by decide)
  have hR := RR.fx hR hd2 hf2 (by decide) (by decide)
  refine lv_pop hx hb (oc_87 629 (aq_8 shL_law_621)) rfl ?_
  refine lv_aload_n hx hb (oc_44 630 (aq_9 shL_law_621)) rfl (lvA2 hl) ?_
  refine lv_aload_n hx hb (oc_42 631 (aq_10 shL_law_621)) rfl (lvA0 hl) ?_
  refine lv_iload_n hx hb (oc_29 632 (aq_11 shL_law_621)) rfl (lvA3 hl) ?_
  refine lv_iconst (v := 1) hx hb (oc_4 633 (aq_12 shL_law_621)) kic_1 ?_
  refine lv_iadd hx hb (oc_96 634 (aq_13 shL_law_621)) ?_
  refine lv_topi (fun y_4 ey_4 => ?_)
  obtain rfl : y_4 = nI (i + 1) := ey_4.trans (nI_add i 1)
  refine va_sld hx hb hX hbl hbA hS (vp_in_nI (by omega) (by omega)) (oc_46 635 (aq_14 shL_law_621)) ?_
  refine lv_topi (fun y_5 ey_5 => ?_)
  obtain rfl : y_5 = xs (nI (i + 1)).toNatClampNeg := ey_5
  have hFc := free_all (exDr hD) hS hA
  refine va_calli (runV_a (As := [.int (xs (nI (i + 1)).toNatClampNeg)]) (rest := []) S (q_pence l D cI cB cZ g2 c3 I3 F3 (xs (nI (i + 1)).toNatClampNeg) H.size hM.1) kV_RL_55 hK (exPr hP) (exDr hD) 0 rfl rfl rfl ⟨Nat.le_of_ble_eq_true rfl, Nat.le_of_ble_eq_true rfl⟩ ⟨(by show K + 0 ≤ 600000; omega), (by show N + 0 ≤ 7302250; omega)⟩ rfl hl.1 rfl (Nat.le_of_ble_eq_true rfl) (oc_182 636 (aq_15 shL_law_621) uw_0_55)) hS (fun q _ h => hFc q h) hFc (fun r5 u t H1 locs ht hvm w5 hB1 hz1 hk1 hS => ?_)
  obtain ⟨c5, I5, F5⟩ := u
  obtain ⟨hP1, hD1⟩ := hB1
  rw [ht] at hP1
  obtain ⟨hP, hD⟩ := exjoin hP hD hk1 hFc hP1 hD1
  generalize H1 = H at hP hS ⊢
  obtain ⟨hM, hd5, hf5⟩ := imm_pence hM w5
  have hR := RR.fm hR hd5 hf5 (by decide) (by decide)
  refine lv_pop hx hb (oc_87 639 (aq_18 shL_law_621)) rfl ?_
  refine lv_goto (tgt := 2269) hx hb (oc_167 640 (aq_19 shL_law_621) sgw_6_93) rfl ?_
  refine W.widen (k := K + 8) (n := N + 240) (by omega) (by omega) ?_
  exact kk _ _ _ _ _ _ _ _ _ hI hM hR hP hD hS ls hl
set_option maxRecDepth 100000 in
set_option maxHeartbeats 4000000 in
theorem lawc_9 {p : Program} {l : Launch} {e : Env} {s : State} {m : MethodId} {below : List Frame} {meth : Method} {c : Code} {b L : Nat} {xs : Nat → Int32} (C0 : lw_At p s m meth c b L xs) (hLN : L ≤ 3584) {A : Nat → Prop} (hA : ∀ q : Nat, s.heap.size ≤ q → A q) (hbA : ¬ A b) {D : va_G} {cI cB cZ : ClassId} {zz qq vv : Nat} {bt : Nat → Int32} {g g2 : Nat → Nat} (hK : KK D cI cB cZ s) (hXS : XS D zz qq vv bt A s s.heap) {ad : Nat → Nat → Nat} {cn : Nat → Nat} {In : Nat → Int32} {Fn : Nat → Nat → Int32} {c3 : Nat → Nat} {I3 : Nat → Int32} {F3 : Nat → Nat → Int32} (hI : IX ad cn Fn) (hM : IMM c3 F3) (hR : RR cn Fn c3 F3) {H : Heap} {locs : List Loc} (hP : va_P D vwCl (wX cI (D.1 99) zz g ad cn In Fn ++ wM cI cB cZ g2 c3 I3 F3) H) (hD : va_D A (wX cI (D.1 99) zz g ad cn In Fn ++ wM cI cB cZ g2 c3 I3 F3)) (hS : va_S A s.heap H locs) {K N i : Nat} (hi : i + 7 ≤ L) (hKN : K + 8 ≤ 600000 ∧ N + 240 ≤ 7302250) {ls : Array Slot} (hl : lv_has ls 4 [(0, .ref b), (1, .ref (g 0)), (2, .ref (g2 100)), (3, .int (nI i))]) (kk : ∀ (ad : Nat → Nat → Nat) (cn : Nat → Nat) (In : Nat → Int32) (Fn : Nat → Nat → Int32) (c3 : Nat → Nat) (I3 : Nat → Int32) (F3 : Nat → Nat → Int32) (H : Heap) (locs : List Loc), IX ad cn Fn → IMM c3 F3 → RR cn Fn c3 F3 → va_P D vwCl (wX cI (D.1 99) zz g ad cn In Fn ++ wM cI cB cZ g2 c3 I3 F3) H → va_D A (wX cI (D.1 99) zz g ad cn In Fn ++ wM cI cB cZ g2 c3 I3 F3) → va_S A s.heap H locs → ∀ ls : Array Slot, lv_has ls 4 [(0, .ref b), (1, .ref (g 0)), (2, .ref (g2 100)), (3, .int (nI i))] → W p l e room_1 s m #[Value.ref b] below meth c H locs (K + 8) (N + 240) (lw_Z below #[Value.ref b] s) (F0 m 2269 ls [])) : W p l e room_1 s m #[Value.ref b] below meth c H locs K N (lw_Z below #[Value.ref b] s) (F0 m 643 ls []) := by
  obtain ⟨hx, hb, hr, hml, hown, hts, hX, hbl, hlocks, hgv⟩ := id C0
  have S : SF p m c code 4 s #[Value.ref b] RL := ⟨hx, hb, hml, hown, fun w h => hts w (wT_lw h)⟩
  refine lv_aload_n hx hb (oc_43 643 (aq_22 shL_law_621)) rfl (lvA1 hl) ?_
  refine lv_aload_n hx hb (oc_42 644 (aq_23 shL_law_621)) rfl (lvA0 hl) ?_
  refine lv_iload_n hx hb (oc_29 645 shL_law_645) rfl (lvA3 hl) ?_
  refine lv_iconst (v := 1) hx hb (oc_4 646 (aq_1 shL_law_645)) kic_1 ?_
  refine lv_iadd hx hb (oc_96 647 (aq_2 shL_law_645)) ?_
  refine lv_topi (fun y_1 ey_1 => ?_)
  obtain rfl : y_1 = nI (i + 1) := ey_1.trans (nI_add i 1)
  refine va_sld hx hb hX hbl hbA hS (vp_in_nI (by omega) (by omega)) (oc_46 648 (aq_3 shL_law_645)) ?_
  refine lv_topi (fun y_2 ey_2 => ?_)
  obtain rfl : y_2 = xs (nI (i + 1)).toNatClampNeg := ey_2
  refine lv_aload_n hx hb (oc_42 649 (aq_4 shL_law_645)) rfl (lvA0 hl) ?_
  refine lv_iload_n hx hb (oc_29 650 (aq_5 shL_law_645)) rfl (lvA3 hl) ?_
  refine lv_iconst (v := 2) hx hb (oc_5 651 (aq_6 shL_law_645)) kic_2 ?_
  refine lv_iadd hx hb (oc_96 652 (aq_7 shL_law_645)) ?_
  refine lv_topi (fun y_3 ey_3 => ?_)
  obtain rfl : y_3 = nI (i + 2) := ey_3.trans (nI_add i 2)
  refine va_sld hx hb hX hbl hbA hS (vp_in_nI (by omega) (by omega)) (oc_46 653 (aq_8 shL_law_645)) ?_
  refine lv_topi (fun y_4 ey_4 => ?_)
  obtain rfl : y_4 = xs (nI (i + 2)).toNatClampNeg := ey_4
  have hFc := free_all (exD hD) hS hA
  refine va_calli (runV_xa (As := [.int (xs (nI (i + 1)).toNatClampNeg), .int (xs (nI (i + 2)).toNatClampNeg)]) (rest := []) S (q_Xpaid l D cI cB cZ zz qq vv bt g ad cn In Fn (xs (nI (i + 1)).toNatClampNeg) (xs (nI (i + 2)).toNatClampNeg) H.size hI.1 hI.2.1 hI.2.2.1) kV_RL_56 hK hXS hS hFc (exP hP) (exD hD) 0 xo_0 rfl rfl ⟨Nat.le_of_ble_eq_true rfl, Nat.le_of_ble_eq_true rfl⟩ ⟨(by show K + 0 ≤ 600000; omega), (by show N + 0 ≤ 7302250; omega)⟩ rfl hl.1 rfl (Nat.le_of_ble_eq_true rfl) (oc_182 654 (aq_9 shL_law_645) uw_0_56)) hS (fun q _ h => hFc q h) hFc (fun r4 u t H1 locs ht hvm w4 hB1 hz1 hk1 hS => ?_)
  obtain ⟨c4, I4, F4⟩ := u
  obtain ⟨hP1, hD1⟩ := hB1
  rw [ht] at hP1
  obtain ⟨hP, hD⟩ := exjoinL hP hD hk1 hFc hP1 hD1
  generalize H1 = H at hP hS ⊢
  have hd4 := w4.1.1
  have hf4 := w4.1.2.2
  have hI := IX.fr hI w4.1 w4.2.1 (by decide) (by decide)
  have hR := RR.fx hR hd4 hf4 (by decide) (by decide)
  refine lv_pop hx hb (oc_87 657 (aq_12 shL_law_645)) rfl ?_
  refine lv_aload_n hx hb (oc_44 658 (aq_13 shL_law_645)) rfl (lvA2 hl) ?_
  refine lv_aload_n hx hb (oc_42 659 (aq_14 shL_law_645)) rfl (lvA0 hl) ?_
  refine lv_iload_n hx hb (oc_29 660 (aq_15 shL_law_645)) rfl (lvA3 hl) ?_
  refine lv_iconst (v := 1) hx hb (oc_4 661 (aq_16 shL_law_645)) kic_1 ?_
  refine lv_iadd hx hb (oc_96 662 (aq_17 shL_law_645)) ?_
  refine lv_topi (fun y_6 ey_6 => ?_)
  obtain rfl : y_6 = nI (i + 1) := ey_6.trans (nI_add i 1)
  refine va_sld hx hb hX hbl hbA hS (vp_in_nI (by omega) (by omega)) (oc_46 663 (aq_18 shL_law_645)) ?_
  refine lv_topi (fun y_7 ey_7 => ?_)
  obtain rfl : y_7 = xs (nI (i + 1)).toNatClampNeg := ey_7
  refine lv_aload_n hx hb (oc_42 664 (aq_19 shL_law_645)) rfl (lvA0 hl) ?_
  refine lv_iload_n hx hb (oc_29 665 (aq_20 shL_law_645)) rfl (lvA3 hl) ?_
  refine lv_iconst (v := 2) hx hb (oc_5 666 (aq_21 shL_law_645)) kic_2 ?_
  refine lv_iadd hx hb (oc_96 667 (aq_22 shL_law_645)) ?_
  refine lv_topi (fun y_8 ey_8 => ?_)
  obtain rfl : y_8 = nI (i + 2) := ey_8.trans (nI_add i 2)
  refine va_sld hx hb hX hbl hbA hS (vp_in_nI (by omega) (by omega)) (oc_46 668 (aq_23 shL_law_645)) ?_
  refine lv_topi (fun y_9 ey_9 => ?_)
  obtain rfl : y_9 = xs (nI (i + 2)).toNatClampNeg := ey_9
  have hFc := free_all (exDr hD) hS hA
  refine va_calli (runV_a (As := [.int (xs (nI (i + 1)).toNatClampNeg), .int (xs (nI (i + 2)).toNatClampNeg)]) (rest := []) S (q_paid l D cI cB cZ g2 c3 I3 F3 (xs (nI (i + 1)).toNatClampNeg) (xs (nI (i + 2)).toNatClampNeg) H.size hM.1) kV_RL_59 hK (exPr hP) (exDr hD) 0 rfl rfl rfl ⟨Nat.le_of_ble_eq_true rfl, Nat.le_of_ble_eq_true rfl⟩ ⟨(by show K + 0 ≤ 600000; omega), (by show N + 0 ≤ 7302250; omega)⟩ rfl hl.1 rfl (Nat.le_of_ble_eq_true rfl) (oc_182 669 shL_law_669 uw_0_59)) hS (fun q _ h => hFc q h) hFc (fun r9 u t H1 locs ht hvm w9 hB1 hz1 hk1 hS => ?_)
  obtain ⟨c9, I9, F9⟩ := u
  obtain ⟨hP1, hD1⟩ := hB1
  rw [ht] at hP1
  obtain ⟨hP, hD⟩ := exjoin hP hD hk1 hFc hP1 hD1
  generalize H1 = H at hP hS ⊢
  obtain ⟨hM, hd9, hf9⟩ := imm_paid hM w9
  have hR := RR.fm hR hd9 hf9 (by decide) (by decide)
  refine lv_pop hx hb (oc_87 672 (aq_3 shL_law_669)) rfl ?_
  refine lv_goto (tgt := 2269) hx hb (oc_167 673 (aq_4 shL_law_669) sgw_6_60) rfl ?_
  refine W.widen (k := K + 8) (n := N + 240) (by omega) (by omega) ?_
  exact kk _ _ _ _ _ _ _ _ _ hI hM hR hP hD hS ls hl
set_option maxRecDepth 100000 in
set_option maxHeartbeats 4000000 in
theorem lawc_10 {p : Program} {l : Launch} {e : Env} {s : State} {m : MethodId} {below : List Frame} {meth : Method} {c : Code} {b L : Nat} {xs : Nat → Int32} (C0 : lw_At p s m meth c b L xs) (hLN : L ≤ 3584) {A : Nat → Prop} (hA : ∀ q : Nat, s.heap.size ≤ q → A q) (hbA : ¬ A b) {D : va_G} {cI cB cZ : ClassId} {zz qq vv : Nat} {bt : Nat → Int32} {g g2 : Nat → Nat} (hK : KK D cI cB cZ s) (hXS : XS D zz qq vv bt A s s.heap) {ad : Nat → Nat → Nat} {cn : Nat → Nat} {In : Nat → Int32} {Fn : Nat → Nat → Int32} {c3 : Nat → Nat} {I3 : Nat → Int32} {F3 : Nat → Nat → Int32} (hI : IX ad cn Fn) (hM : IMM c3 F3) (hR : RR cn Fn c3 F3) {H : Heap} {locs : List Loc} (hP : va_P D vwCl (wX cI (D.1 99) zz g ad cn In Fn ++ wM cI cB cZ g2 c3 I3 F3) H) (hD : va_D A (wX cI (D.1 99) zz g ad cn In Fn ++ wM cI cB cZ g2 c3 I3 F3)) (hS : va_S A s.heap H locs) {K N i : Nat} (hi : i + 7 ≤ L) (hKN : K + 8 ≤ 600000 ∧ N + 240 ≤ 7302250) {ls : Array Slot} (hl : lv_has ls 4 [(0, .ref b), (1, .ref (g 0)), (2, .ref (g2 100)), (3, .int (nI i))]) (kk : ∀ (ad : Nat → Nat → Nat) (cn : Nat → Nat) (In : Nat → Int32) (Fn : Nat → Nat → Int32) (c3 : Nat → Nat) (I3 : Nat → Int32) (F3 : Nat → Nat → Int32) (H : Heap) (locs : List Loc), IX ad cn Fn → IMM c3 F3 → RR cn Fn c3 F3 → va_P D vwCl (wX cI (D.1 99) zz g ad cn In Fn ++ wM cI cB cZ g2 c3 I3 F3) H → va_D A (wX cI (D.1 99) zz g ad cn In Fn ++ wM cI cB cZ g2 c3 I3 F3) → va_S A s.heap H locs → ∀ ls : Array Slot, lv_has ls 4 [(0, .ref b), (1, .ref (g 0)), (2, .ref (g2 100)), (3, .int (nI i))] → W p l e room_1 s m #[Value.ref b] below meth c H locs (K + 8) (N + 240) (lw_Z below #[Value.ref b] s) (F0 m 2269 ls [])) : W p l e room_1 s m #[Value.ref b] below meth c H locs K N (lw_Z below #[Value.ref b] s) (F0 m 676 ls []) := by
  obtain ⟨hx, hb, hr, hml, hown, hts, hX, hbl, hlocks, hgv⟩ := id C0
  have S : SF p m c code 4 s #[Value.ref b] RL := ⟨hx, hb, hml, hown, fun w h => hts w (wT_lw h)⟩
  refine lv_aload_n hx hb (oc_43 676 (aq_7 shL_law_669)) rfl (lvA1 hl) ?_
  refine lv_aload_n hx hb (oc_42 677 (aq_8 shL_law_669)) rfl (lvA0 hl) ?_
  refine lv_iload_n hx hb (oc_29 678 (aq_9 shL_law_669)) rfl (lvA3 hl) ?_
  refine lv_iconst (v := 1) hx hb (oc_4 679 (aq_10 shL_law_669)) kic_1 ?_
  refine lv_iadd hx hb (oc_96 680 (aq_11 shL_law_669)) ?_
  refine lv_topi (fun y_1 ey_1 => ?_)
  obtain rfl : y_1 = nI (i + 1) := ey_1.trans (nI_add i 1)
  refine va_sld hx hb hX hbl hbA hS (vp_in_nI (by omega) (by omega)) (oc_46 681 (aq_12 shL_law_669)) ?_
  refine lv_topi (fun y_2 ey_2 => ?_)
  obtain rfl : y_2 = xs (nI (i + 1)).toNatClampNeg := ey_2
  refine vp_callSi (runV_rxa (As := [.int (xs (nI (i + 1)).toNatClampNeg)]) (rest := []) S (q_Xmissing l D cI cB cZ zz qq vv bt g ad cn In Fn (xs (nI (i + 1)).toNatClampNeg) hI.1) kV_RL_60 hK hXS hS (exP hP) 0 xo_0 rfl rfl ⟨Nat.le_of_ble_eq_true rfl, Nat.le_of_ble_eq_true rfl⟩ ⟨(by show K + 0 ≤ 600000; omega), (by show N + 0 ≤ 7302250; omega)⟩ rfl hl.1 rfl (Nat.le_of_ble_eq_true rfl) (oc_182 682 (aq_13 shL_law_669) uw_0_60)) (fun r2 w2 => ?_)
  refine lv_pop hx hb (oc_87 685 (aq_16 shL_law_669)) rfl ?_
  refine lv_aload_n hx hb (oc_44 686 (aq_17 shL_law_669)) rfl (lvA2 hl) ?_
  refine lv_aload_n hx hb (oc_42 687 (aq_18 shL_law_669)) rfl (lvA0 hl) ?_
  refine lv_iload_n hx hb (oc_29 688 (aq_19 shL_law_669)) rfl (lvA3 hl) ?_
  refine lv_iconst (v := 1) hx hb (oc_4 689 (aq_20 shL_law_669)) kic_1 ?_
  refine lv_iadd hx hb (oc_96 690 (aq_21 shL_law_669)) ?_
  refine lv_topi (fun y_4 ey_4 => ?_)
  obtain rfl : y_4 = nI (i + 1) := ey_4.trans (nI_add i 1)
  refine va_sld hx hb hX hbl hbA hS (vp_in_nI (by omega) (by omega)) (oc_46 691 (aq_22 shL_law_669)) ?_
  refine lv_topi (fun y_5 ey_5 => ?_)
  obtain rfl : y_5 = xs (nI (i + 1)).toNatClampNeg := ey_5
  refine vp_callSi (runV_ra (As := [.int (xs (nI (i + 1)).toNatClampNeg)]) (rest := []) S (q_missing l D cI cB cZ g2 c3 I3 F3 (xs (nI (i + 1)).toNatClampNeg) hM.1) kV_RL_63 hK (exPr hP) 0 rfl rfl rfl ⟨Nat.le_of_ble_eq_true rfl, Nat.le_of_ble_eq_true rfl⟩ ⟨(by show K + 0 ≤ 600000; omega), (by show N + 0 ≤ 7302250; omega)⟩ rfl hl.1 rfl (Nat.le_of_ble_eq_true rfl) (oc_182 692 (aq_23 shL_law_669) uw_0_63)) (fun r5 w5 => ?_)
  refine lv_pop hx hb (oc_87 695 shL_law_695) rfl ?_
  refine lv_goto (tgt := 2269) hx hb (oc_167 696 (aq_1 shL_law_695) sgw_6_37) rfl ?_
  refine W.widen (k := K + 8) (n := N + 240) (by omega) (by omega) ?_
  exact kk _ _ _ _ _ _ _ _ _ hI hM hR hP hD hS ls hl
set_option maxRecDepth 100000 in
set_option maxHeartbeats 4000000 in
theorem lawc_11 {p : Program} {l : Launch} {e : Env} {s : State} {m : MethodId} {below : List Frame} {meth : Method} {c : Code} {b L : Nat} {xs : Nat → Int32} (C0 : lw_At p s m meth c b L xs) (hLN : L ≤ 3584) {A : Nat → Prop} (hA : ∀ q : Nat, s.heap.size ≤ q → A q) (hbA : ¬ A b) {D : va_G} {cI cB cZ : ClassId} {zz qq vv : Nat} {bt : Nat → Int32} {g g2 : Nat → Nat} (hK : KK D cI cB cZ s) (hXS : XS D zz qq vv bt A s s.heap) {ad : Nat → Nat → Nat} {cn : Nat → Nat} {In : Nat → Int32} {Fn : Nat → Nat → Int32} {c3 : Nat → Nat} {I3 : Nat → Int32} {F3 : Nat → Nat → Int32} (hI : IX ad cn Fn) (hM : IMM c3 F3) (hR : RR cn Fn c3 F3) {H : Heap} {locs : List Loc} (hP : va_P D vwCl (wX cI (D.1 99) zz g ad cn In Fn ++ wM cI cB cZ g2 c3 I3 F3) H) (hD : va_D A (wX cI (D.1 99) zz g ad cn In Fn ++ wM cI cB cZ g2 c3 I3 F3)) (hS : va_S A s.heap H locs) {K N i : Nat} (hi : i + 7 ≤ L) (hKN : K + 8 ≤ 600000 ∧ N + 240 ≤ 7302250) {ls : Array Slot} (hl : lv_has ls 4 [(0, .ref b), (1, .ref (g 0)), (2, .ref (g2 100)), (3, .int (nI i))]) (kk : ∀ (ad : Nat → Nat → Nat) (cn : Nat → Nat) (In : Nat → Int32) (Fn : Nat → Nat → Int32) (c3 : Nat → Nat) (I3 : Nat → Int32) (F3 : Nat → Nat → Int32) (H : Heap) (locs : List Loc), IX ad cn Fn → IMM c3 F3 → RR cn Fn c3 F3 → va_P D vwCl (wX cI (D.1 99) zz g ad cn In Fn ++ wM cI cB cZ g2 c3 I3 F3) H → va_D A (wX cI (D.1 99) zz g ad cn In Fn ++ wM cI cB cZ g2 c3 I3 F3) → va_S A s.heap H locs → ∀ ls : Array Slot, lv_has ls 4 [(0, .ref b), (1, .ref (g 0)), (2, .ref (g2 100)), (3, .int (nI i))] → W p l e room_1 s m #[Value.ref b] below meth c H locs (K + 8) (N + 240) (lw_Z below #[Value.ref b] s) (F0 m 2269 ls [])) : W p l e room_1 s m #[Value.ref b] below meth c H locs K N (lw_Z below #[Value.ref b] s) (F0 m 699 ls []) := by
  obtain ⟨hx, hb, hr, hml, hown, hts, hX, hbl, hlocks, hgv⟩ := id C0
  have S : SF p m c code 4 s #[Value.ref b] RL := ⟨hx, hb, hml, hown, fun w h => hts w (wT_lw h)⟩
  refine lv_aload_n hx hb (oc_43 699 (aq_4 shL_law_695)) rfl (lvA1 hl) ?_
  refine lv_aload_n hx hb (oc_42 700 (aq_5 shL_law_695)) rfl (lvA0 hl) ?_
  refine lv_iload_n hx hb (oc_29 701 (aq_6 shL_law_695)) rfl (lvA3 hl) ?_
  refine lv_iconst (v := 1) hx hb (oc_4 702 (aq_7 shL_law_695)) kic_1 ?_
  refine lv_iadd hx hb (oc_96 703 (aq_8 shL_law_695)) ?_
  refine lv_topi (fun y_1 ey_1 => ?_)
  obtain rfl : y_1 = nI (i + 1) := ey_1.trans (nI_add i 1)
  refine va_sld hx hb hX hbl hbA hS (vp_in_nI (by omega) (by omega)) (oc_46 704 (aq_9 shL_law_695)) ?_
  refine lv_topi (fun y_2 ey_2 => ?_)
  obtain rfl : y_2 = xs (nI (i + 1)).toNatClampNeg := ey_2
  refine lv_aload_n hx hb (oc_42 705 (aq_10 shL_law_695)) rfl (lvA0 hl) ?_
  refine lv_iload_n hx hb (oc_29 706 (aq_11 shL_law_695)) rfl (lvA3 hl) ?_
  refine lv_iconst (v := 2) hx hb (oc_5 707 (aq_12 shL_law_695)) kic_2 ?_
  refine lv_iadd hx hb (oc_96 708 (aq_13 shL_law_695)) ?_
  refine lv_topi (fun y_3 ey_3 => ?_)
  obtain rfl : y_3 = nI (i + 2) := ey_3.trans (nI_add i 2)
  refine va_sld hx hb hX hbl hbA hS (vp_in_nI (by omega) (by omega)) (oc_46 709 (aq_14 shL_law_695)) ?_
  refine lv_topi (fun y_4 ey_4 => ?_)
  obtain rfl : y_4 = xs (nI (i + 2)).toNatClampNeg := ey_4
  refine vp_callSl (runV_rxa (As := [.int (xs (nI (i + 1)).toNatClampNeg), .int (xs (nI (i + 2)).toNatClampNeg)]) (rest := []) S (q_Xbeyond l D cI cB cZ zz qq vv bt g ad cn In Fn (xs (nI (i + 1)).toNatClampNeg) (xs (nI (i + 2)).toNatClampNeg) hI.1) kV_RL_64 hK hXS hS (exP hP) 0 xo_0 rfl rfl ⟨Nat.le_of_ble_eq_true rfl, Nat.le_of_ble_eq_true rfl⟩ ⟨(by show K + 0 ≤ 600000; omega), (by show N + 0 ≤ 7302250; omega)⟩ rfl hl.1 rfl (Nat.le_of_ble_eq_true rfl) (oc_182 710 (aq_15 shL_law_695) uw_0_64)) (fun r4 w4 => ?_)
  refine lv_pop2_2 hx hb (oc_88 713 (aq_18 shL_law_695)) rfl ?_
  refine lv_aload_n hx hb (oc_44 714 (aq_19 shL_law_695)) rfl (lvA2 hl) ?_
  refine lv_aload_n hx hb (oc_42 715 (aq_20 shL_law_695)) rfl (lvA0 hl) ?_
  refine lv_iload_n hx hb (oc_29 716 (aq_21 shL_law_695)) rfl (lvA3 hl) ?_
  refine lv_iconst (v := 1) hx hb (oc_4 717 (aq_22 shL_law_695)) kic_1 ?_
  refine lv_iadd hx hb (oc_96 718 (aq_23 shL_law_695)) ?_
  refine lv_topi (fun y_6 ey_6 => ?_)
  obtain rfl : y_6 = nI (i + 1) := ey_6.trans (nI_add i 1)
  refine va_sld hx hb hX hbl hbA hS (vp_in_nI (by omega) (by omega)) (oc_46 719 shL_law_719) ?_
  refine lv_topi (fun y_7 ey_7 => ?_)
  obtain rfl : y_7 = xs (nI (i + 1)).toNatClampNeg := ey_7
  refine lv_aload_n hx hb (oc_42 720 (aq_1 shL_law_719)) rfl (lvA0 hl) ?_
  refine lv_iload_n hx hb (oc_29 721 (aq_2 shL_law_719)) rfl (lvA3 hl) ?_
  refine lv_iconst (v := 2) hx hb (oc_5 722 (aq_3 shL_law_719)) kic_2 ?_
  refine lv_iadd hx hb (oc_96 723 (aq_4 shL_law_719)) ?_
  refine lv_topi (fun y_8 ey_8 => ?_)
  obtain rfl : y_8 = nI (i + 2) := ey_8.trans (nI_add i 2)
  refine va_sld hx hb hX hbl hbA hS (vp_in_nI (by omega) (by omega)) (oc_46 724 (aq_5 shL_law_719)) ?_
  refine lv_topi (fun y_9 ey_9 => ?_)
  obtain rfl : y_9 = xs (nI (i + 2)).toNatClampNeg := ey_9
  refine vp_callSl (runV_ra (As := [.int (xs (nI (i + 1)).toNatClampNeg), .int (xs (nI (i + 2)).toNatClampNeg)]) (rest := []) S (q_beyond l D cI cB cZ g2 c3 I3 F3 (xs (nI (i + 1)).toNatClampNeg) (xs (nI (i + 2)).toNatClampNeg) hM.1) kV_RL_68 hK (exPr hP) 0 rfl rfl rfl ⟨Nat.le_of_ble_eq_true rfl, Nat.le_of_ble_eq_true rfl⟩ ⟨(by show K + 0 ≤ 600000; omega), (by show N + 0 ≤ 7302250; omega)⟩ rfl hl.1 rfl (Nat.le_of_ble_eq_true rfl) (oc_182 725 (aq_6 shL_law_719) uw_0_68)) (fun r9 w9 => ?_)
  refine lv_pop2_2 hx hb (oc_88 728 (aq_9 shL_law_719)) rfl ?_
  refine lv_goto (tgt := 2269) hx hb (oc_167 729 (aq_10 shL_law_719) sgw_6_4) rfl ?_
  refine W.widen (k := K + 8) (n := N + 240) (by omega) (by omega) ?_
  exact kk _ _ _ _ _ _ _ _ _ hI hM hR hP hD hS ls hl
set_option maxRecDepth 100000 in
set_option maxHeartbeats 4000000 in
theorem lawc_12 {p : Program} {l : Launch} {e : Env} {s : State} {m : MethodId} {below : List Frame} {meth : Method} {c : Code} {b L : Nat} {xs : Nat → Int32} (C0 : lw_At p s m meth c b L xs) (hLN : L ≤ 3584) {A : Nat → Prop} (hA : ∀ q : Nat, s.heap.size ≤ q → A q) (hbA : ¬ A b) {D : va_G} {cI cB cZ : ClassId} {zz qq vv : Nat} {bt : Nat → Int32} {g g2 : Nat → Nat} (hK : KK D cI cB cZ s) (hXS : XS D zz qq vv bt A s s.heap) {ad : Nat → Nat → Nat} {cn : Nat → Nat} {In : Nat → Int32} {Fn : Nat → Nat → Int32} {c3 : Nat → Nat} {I3 : Nat → Int32} {F3 : Nat → Nat → Int32} (hI : IX ad cn Fn) (hM : IMM c3 F3) (hR : RR cn Fn c3 F3) {H : Heap} {locs : List Loc} (hP : va_P D vwCl (wX cI (D.1 99) zz g ad cn In Fn ++ wM cI cB cZ g2 c3 I3 F3) H) (hD : va_D A (wX cI (D.1 99) zz g ad cn In Fn ++ wM cI cB cZ g2 c3 I3 F3)) (hS : va_S A s.heap H locs) {K N i : Nat} (hi : i + 7 ≤ L) (hKN : K + 8 ≤ 600000 ∧ N + 240 ≤ 7302250) {ls : Array Slot} (hl : lv_has ls 4 [(0, .ref b), (1, .ref (g 0)), (2, .ref (g2 100)), (3, .int (nI i))]) (kk : ∀ (ad : Nat → Nat → Nat) (cn : Nat → Nat) (In : Nat → Int32) (Fn : Nat → Nat → Int32) (c3 : Nat → Nat) (I3 : Nat → Int32) (F3 : Nat → Nat → Int32) (H : Heap) (locs : List Loc), IX ad cn Fn → IMM c3 F3 → RR cn Fn c3 F3 → va_P D vwCl (wX cI (D.1 99) zz g ad cn In Fn ++ wM cI cB cZ g2 c3 I3 F3) H → va_D A (wX cI (D.1 99) zz g ad cn In Fn ++ wM cI cB cZ g2 c3 I3 F3) → va_S A s.heap H locs → ∀ ls : Array Slot, lv_has ls 4 [(0, .ref b), (1, .ref (g 0)), (2, .ref (g2 100)), (3, .int (nI i))] → W p l e room_1 s m #[Value.ref b] below meth c H locs (K + 8) (N + 240) (lw_Z below #[Value.ref b] s) (F0 m 2269 ls [])) : W p l e room_1 s m #[Value.ref b] below meth c H locs K N (lw_Z below #[Value.ref b] s) (F0 m 732 ls []) := by
  obtain ⟨hx, hb, hr, hml, hown, hts, hX, hbl, hlocks, hgv⟩ := id C0
  have S : SF p m c code 4 s #[Value.ref b] RL := ⟨hx, hb, hml, hown, fun w h => hts w (wT_lw h)⟩
  refine lv_aload_n hx hb (oc_43 732 (aq_13 shL_law_719)) rfl (lvA1 hl) ?_
  refine lv_aload_n hx hb (oc_42 733 (aq_14 shL_law_719)) rfl (lvA0 hl) ?_
  refine lv_iload_n hx hb (oc_29 734 (aq_15 shL_law_719)) rfl (lvA3 hl) ?_
  refine lv_iconst (v := 1) hx hb (oc_4 735 (aq_16 shL_law_719)) kic_1 ?_
  refine lv_iadd hx hb (oc_96 736 (aq_17 shL_law_719)) ?_
  refine lv_topi (fun y_1 ey_1 => ?_)
  obtain rfl : y_1 = nI (i + 1) := ey_1.trans (nI_add i 1)
  refine va_sld hx hb hX hbl hbA hS (vp_in_nI (by omega) (by omega)) (oc_46 737 (aq_18 shL_law_719)) ?_
  refine lv_topi (fun y_2 ey_2 => ?_)
  obtain rfl : y_2 = xs (nI (i + 1)).toNatClampNeg := ey_2
  refine lv_aload_n hx hb (oc_42 738 (aq_19 shL_law_719)) rfl (lvA0 hl) ?_
  refine lv_iload_n hx hb (oc_29 739 (aq_20 shL_law_719)) rfl (lvA3 hl) ?_
  refine lv_iconst (v := 2) hx hb (oc_5 740 (aq_21 shL_law_719)) kic_2 ?_
  refine lv_iadd hx hb (oc_96 741 (aq_22 shL_law_719)) ?_
  refine lv_topi (fun y_3 ey_3 => ?_)
  obtain rfl : y_3 = nI (i + 2) := ey_3.trans (nI_add i 2)
  refine va_sld hx hb hX hbl hbA hS (vp_in_nI (by omega) (by omega)) (oc_46 742 (aq_23 shL_law_719)) ?_
  refine lv_topi (fun y_4 ey_4 => ?_)
  obtain rfl : y_4 = xs (nI (i + 2)).toNatClampNeg := ey_4
  refine lv_aload_n hx hb (oc_42 743 shL_law_743) rfl (lvA0 hl) ?_
  refine lv_iload_n hx hb (oc_29 744 (aq_1 shL_law_743)) rfl (lvA3 hl) ?_
  refine lv_iconst (v := 3) hx hb (oc_6 745 (aq_2 shL_law_743)) kic_3 ?_
  refine lv_iadd hx hb (oc_96 746 (aq_3 shL_law_743)) ?_
  refine lv_topi (fun y_5 ey_5 => ?_)
  obtain rfl : y_5 = nI (i + 3) := ey_5.trans (nI_add i 3)
  refine va_sld hx hb hX hbl hbA hS (vp_in_nI (by omega) (by omega)) (oc_46 747 (aq_4 shL_law_743)) ?_
  refine lv_topi (fun y_6 ey_6 => ?_)
  obtain rfl : y_6 = xs (nI (i + 3)).toNatClampNeg := ey_6
  have hFc := free_all (exD hD) hS hA
  refine va_calli (runV_xa (As := [.int (xs (nI (i + 1)).toNatClampNeg), .int (xs (nI (i + 2)).toNatClampNeg), .int (xs (nI (i + 3)).toNatClampNeg)]) (rest := []) S (q_Xround l D cI cB cZ zz qq vv bt g ad cn In Fn (xs (nI (i + 1)).toNatClampNeg) (xs (nI (i + 2)).toNatClampNeg) (xs (nI (i + 3)).toNatClampNeg) H.size hI.1) kV_RL_69 hK hXS hS hFc (exP hP) (exD hD) 0 xo_0 rfl rfl ⟨Nat.le_of_ble_eq_true rfl, Nat.le_of_ble_eq_true rfl⟩ ⟨(by show K + 0 ≤ 600000; omega), (by show N + 0 ≤ 7302250; omega)⟩ rfl hl.1 rfl (Nat.le_of_ble_eq_true rfl) (oc_182 748 (aq_5 shL_law_743) uw_0_69)) hS (fun q _ h => hFc q h) hFc (fun r6 u t H1 locs ht hvm w6 hB1 hz1 hk1 hS => ?_)
  obtain ⟨c6, I6, F6⟩ := u
  obtain ⟨hP1, hD1⟩ := hB1
  rw [ht] at hP1
  obtain ⟨hP, hD⟩ := exjoinL hP hD hk1 hFc hP1 hD1
  generalize H1 = H at hP hS ⊢
  have hd6 := w6.1.1
  have hf6 := w6.1.2.2
  have hI := IX.fr hI w6.1 w6.2.1 (by decide) (by decide)
  have hR := RR.fx hR hd6 hf6 (by decide) (by decide)
  refine lv_pop hx hb (oc_87 751 (aq_8 shL_law_743)) rfl ?_
  refine lv_aload_n hx hb (oc_44 752 (aq_9 shL_law_743)) rfl (lvA2 hl) ?_
  refine lv_aload_n hx hb (oc_42 753 (aq_10 shL_law_743)) rfl (lvA0 hl) ?_
  refine lv_iload_n hx hb (oc_29 754 (aq_11 shL_law_743)) rfl (lvA3 hl) ?_
  refine lv_iconst (v := 1) hx hb (oc_4 755 (aq_12 shL_law_743)) kic_1 ?_
  refine lv_iadd hx hb (oc_96 756 (aq_13 shL_law_743)) ?_
  refine lv_topi (fun y_8 ey_8 => ?_)
  obtain rfl : y_8 = nI (i + 1) := ey_8.trans (nI_add i 1)
  refine va_sld hx hb hX hbl hbA hS (vp_in_nI (by omega) (by omega)) (oc_46 757 (aq_14 shL_law_743)) ?_
  refine lv_topi (fun y_9 ey_9 => ?_)
  obtain rfl : y_9 = xs (nI (i + 1)).toNatClampNeg := ey_9
  refine lv_aload_n hx hb (oc_42 758 (aq_15 shL_law_743)) rfl (lvA0 hl) ?_
  refine lv_iload_n hx hb (oc_29 759 (aq_16 shL_law_743)) rfl (lvA3 hl) ?_
  refine lv_iconst (v := 2) hx hb (oc_5 760 (aq_17 shL_law_743)) kic_2 ?_
  refine lv_iadd hx hb (oc_96 761 (aq_18 shL_law_743)) ?_
  refine lv_topi (fun y_10 ey_10 => ?_)
  obtain rfl : y_10 = nI (i + 2) := ey_10.trans (nI_add i 2)
  refine va_sld hx hb hX hbl hbA hS (vp_in_nI (by omega) (by omega)) (oc_46 762 (aq_19 shL_law_743)) ?_
  refine lv_topi (fun y_11 ey_11 => ?_)
  obtain rfl : y_11 = xs (nI (i + 2)).toNatClampNeg := ey_11
  refine lv_aload_n hx hb (oc_42 763 (aq_20 shL_law_743)) rfl (lvA0 hl) ?_
  refine lv_iload_n hx hb (oc_29 764 (aq_21 shL_law_743)) rfl (lvA3 hl) ?_
  refine lv_iconst (v := 3) hx hb (oc_6 765 (aq_22 shL_law_743)) kic_3 ?_
  refine lv_iadd hx hb (oc_96 766 (aq_23 shL_law_743)) ?_
  refine lv_topi (fun y_12 ey_12 => ?_)
  obtain rfl : y_12 = nI (i + 3) := ey_12.trans (nI_add i 3)
  refine va_sld hx hb hX hbl hbA hS (vp_in_nI (by omega) (by omega)) (oc_46 767 shL_law_767) ?_
  refine lv_topi (fun y_13 ey_13 => ?_)
  obtain rfl : y_13 = xs (nI (i + 3)).toNatClampNeg := ey_13
  have hFc := free_all (exDr hD) hS hA
  refine va_calli (runV_a (As := [.int (xs (nI (i + 1)).toNatClampNeg), .int (xs (nI (i + 2)).toNatClampNeg), .int (xs (nI (i + 3)).toNatClampNeg)]) (rest := []) S (q_round l D cI cB cZ g2 c3 I3 F3 (xs (nI (i + 1)).toNatClampNeg) (xs (nI (i + 2)).toNatClampNeg) (xs (nI (i + 3)).toNatClampNeg) H.size hM.1) kV_RL_73 hK (exPr hP) (exDr hD) 0 rfl rfl rfl ⟨Nat.le_of_ble_eq_true rfl, Nat.le_of_ble_eq_true rfl⟩ ⟨(by show K + 0 ≤ 600000; omega), (by show N + 0 ≤ 7302250; omega)⟩ rfl hl.1 rfl (Nat.le_of_ble_eq_true rfl) (oc_182 768 (aq_1 shL_law_767) uw_0_73)) hS (fun q _ h => hFc q h) hFc (fun r13 u t H1 locs ht hvm w13 hB1 hz1 hk1 hS => ?_)
  obtain ⟨c13, I13, F13⟩ := u
  obtain ⟨hP1, hD1⟩ := hB1
  rw [ht] at hP1
  obtain ⟨hP, hD⟩ := exjoin hP hD hk1 hFc hP1 hD1
  generalize H1 = H at hP hS ⊢
  obtain ⟨hM, hd13, hf13⟩ := imm_round hM w13
  have hR := RR.fm hR hd13 hf13 (by decide) (by decide)
  refine lv_pop hx hb (oc_87 771 (aq_4 shL_law_767)) rfl ?_
  refine lv_goto (tgt := 2269) hx hb (oc_167 772 (aq_5 shL_law_767) sgw_5_217) rfl ?_
  refine W.widen (k := K + 8) (n := N + 240) (by omega) (by omega) ?_
  exact kk _ _ _ _ _ _ _ _ _ hI hM hR hP hD hS ls hl
set_option maxRecDepth 100000 in
set_option maxHeartbeats 4000000 in
theorem lawc_13 {p : Program} {l : Launch} {e : Env} {s : State} {m : MethodId} {below : List Frame} {meth : Method} {c : Code} {b L : Nat} {xs : Nat → Int32} (C0 : lw_At p s m meth c b L xs) (hLN : L ≤ 3584) {A : Nat → Prop} (hA : ∀ q : Nat, s.heap.size ≤ q → A q) (hbA : ¬ A b) {D : va_G} {cI cB cZ : ClassId} {zz qq vv : Nat} {bt : Nat → Int32} {g g2 : Nat → Nat} (hK : KK D cI cB cZ s) (hXS : XS D zz qq vv bt A s s.heap) {ad : Nat → Nat → Nat} {cn : Nat → Nat} {In : Nat → Int32} {Fn : Nat → Nat → Int32} {c3 : Nat → Nat} {I3 : Nat → Int32} {F3 : Nat → Nat → Int32} (hI : IX ad cn Fn) (hM : IMM c3 F3) (hR : RR cn Fn c3 F3) {H : Heap} {locs : List Loc} (hP : va_P D vwCl (wX cI (D.1 99) zz g ad cn In Fn ++ wM cI cB cZ g2 c3 I3 F3) H) (hD : va_D A (wX cI (D.1 99) zz g ad cn In Fn ++ wM cI cB cZ g2 c3 I3 F3)) (hS : va_S A s.heap H locs) {K N i : Nat} (hi : i + 7 ≤ L) (hKN : K + 8 ≤ 600000 ∧ N + 240 ≤ 7302250) {ls : Array Slot} (hl : lv_has ls 4 [(0, .ref b), (1, .ref (g 0)), (2, .ref (g2 100)), (3, .int (nI i))]) (kk : ∀ (ad : Nat → Nat → Nat) (cn : Nat → Nat) (In : Nat → Int32) (Fn : Nat → Nat → Int32) (c3 : Nat → Nat) (I3 : Nat → Int32) (F3 : Nat → Nat → Int32) (H : Heap) (locs : List Loc), IX ad cn Fn → IMM c3 F3 → RR cn Fn c3 F3 → va_P D vwCl (wX cI (D.1 99) zz g ad cn In Fn ++ wM cI cB cZ g2 c3 I3 F3) H → va_D A (wX cI (D.1 99) zz g ad cn In Fn ++ wM cI cB cZ g2 c3 I3 F3) → va_S A s.heap H locs → ∀ ls : Array Slot, lv_has ls 4 [(0, .ref b), (1, .ref (g 0)), (2, .ref (g2 100)), (3, .int (nI i))] → W p l e room_1 s m #[Value.ref b] below meth c H locs (K + 8) (N + 240) (lw_Z below #[Value.ref b] s) (F0 m 2269 ls [])) : W p l e room_1 s m #[Value.ref b] below meth c H locs K N (lw_Z below #[Value.ref b] s) (F0 m 775 ls []) := by
  obtain ⟨hx, hb, hr, hml, hown, hts, hX, hbl, hlocks, hgv⟩ := id C0
  have S : SF p m c code 4 s #[Value.ref b] RL := ⟨hx, hb, hml, hown, fun w h => hts w (wT_lw h)⟩
  refine lv_aload_n hx hb (oc_43 775 (aq_8 shL_law_767)) rfl (lvA1 hl) ?_
  refine lv_aload_n hx hb (oc_42 776 (aq_9 shL_law_767)) rfl (lvA0 hl) ?_
  refine lv_iload_n hx hb (oc_29 777 (aq_10 shL_law_767)) rfl (lvA3 hl) ?_
  refine lv_iconst (v := 1) hx hb (oc_4 778 (aq_11 shL_law_767)) kic_1 ?_
  refine lv_iadd hx hb (oc_96 779 (aq_12 shL_law_767)) ?_
  refine lv_topi (fun y_1 ey_1 => ?_)
  obtain rfl : y_1 = nI (i + 1) := ey_1.trans (nI_add i 1)
  refine va_sld hx hb hX hbl hbA hS (vp_in_nI (by omega) (by omega)) (oc_46 780 (aq_13 shL_law_767)) ?_
  refine lv_topi (fun y_2 ey_2 => ?_)
  obtain rfl : y_2 = xs (nI (i + 1)).toNatClampNeg := ey_2
  have hFc := free_all (exD hD) hS hA
  refine va_calli (runV_xa (As := [.int (xs (nI (i + 1)).toNatClampNeg)]) (rest := []) S (q_Xdriven l D cI cB cZ zz qq vv bt g ad cn In Fn (xs (nI (i + 1)).toNatClampNeg) H.size hI.1) kV_RL_74 hK hXS hS hFc (exP hP) (exD hD) 0 xo_0 rfl rfl ⟨Nat.le_of_ble_eq_true rfl, Nat.le_of_ble_eq_true rfl⟩ ⟨(by show K + 0 ≤ 600000; omega), (by show N + 0 ≤ 7302250; omega)⟩ rfl hl.1 rfl (Nat.le_of_ble_eq_true rfl) (oc_182 781 (aq_14 shL_law_767) uw_0_74)) hS (fun q _ h => hFc q h) hFc (fun r2 u t H1 locs ht hvm w2 hB1 hz1 hk1 hS => ?_)
  obtain ⟨c2, I2, F2⟩ := u
  obtain ⟨hP1, hD1⟩ := hB1
  rw [ht] at hP1
  obtain ⟨hP, hD⟩ := exjoinL hP hD hk1 hFc hP1 hD1
  generalize H1 = H at hP hS ⊢
  have hd2 := w2.1.1
  have hf2 := w2.1.2.2
  have hI := IX.fr hI w2.1 w2.2.1 (by decide) (by decide)
  have hR := RR.fx hR hd2 hf2 (by decide) (by decide)
  refine lv_pop hx hb (oc_87 784 (aq_17 shL_law_767)) rfl ?_
  refine lv_aload_n hx hb (oc_44 785 (aq_18 shL_law_767)) rfl (lvA2 hl) ?_
  refine lv_aload_n hx hb (oc_42 786 (aq_19 shL_law_767)) rfl (lvA0 hl) ?_
  refine lv_iload_n hx hb (oc_29 787 (aq_20 shL_law_767)) rfl (lvA3 hl) ?_
  refine lv_iconst (v := 1) hx hb (oc_4 788 (aq_21 shL_law_767)) kic_1 ?_
  refine lv_iadd hx hb (oc_96 789 (aq_22 shL_law_767)) ?_
  refine lv_topi (fun y_4 ey_4 => ?_)
  obtain rfl : y_4 = nI (i + 1) := ey_4.trans (nI_add i 1)
  refine va_sld hx hb hX hbl hbA hS (vp_in_nI (by omega) (by omega)) (oc_46 790 (aq_23 shL_law_767)) ?_
  refine lv_topi (fun y_5 ey_5 => ?_)
  obtain rfl : y_5 = xs (nI (i + 1)).toNatClampNeg := ey_5
  have hFc := free_all (exDr hD) hS hA
  refine va_calli (runV_a (As := [.int (xs (nI (i + 1)).toNatClampNeg)]) (rest := []) S (q_driven8 l D cI cB cZ g2 c3 I3 F3 (xs (nI (i + 1)).toNatClampNeg) H.size hM.1 hM.2) kV_RL_77 hK (exPr hP) (exDr hD) 0 rfl rfl rfl ⟨Nat.le_of_ble_eq_true rfl, Nat.le_of_ble_eq_true rfl⟩ ⟨(by show K + 0 ≤ 600000; omega), (by show N + 0 ≤ 7302250; omega)⟩ rfl hl.1 rfl (Nat.le_of_ble_eq_true rfl) (oc_182 791 shL_law_791 uw_0_77)) hS (fun q _ h => hFc q h) hFc (fun r5 u t H1 locs ht hvm w5 hB1 hz1 hk1 hS => ?_)
  obtain ⟨c5, I5, F5⟩ := u
  obtain ⟨hP1, hD1⟩ := hB1
  rw [ht] at hP1
  obtain ⟨hP, hD⟩ := exjoin hP hD hk1 hFc hP1 hD1
  generalize H1 = H at hP hS ⊢
  obtain ⟨hM, hd5, hf5⟩ := imm_driven8 hM w5
  have hR := RR.fm hR hd5 hf5 (by decide) (by decide)
  refine lv_pop hx hb (oc_87 794 (aq_3 shL_law_791)) rfl ?_
  refine lv_goto (tgt := 2269) hx hb (oc_167 795 (aq_4 shL_law_791) sgw_5_194) rfl ?_
  refine W.widen (k := K + 8) (n := N + 240) (by omega) (by omega) ?_
  exact kk _ _ _ _ _ _ _ _ _ hI hM hR hP hD hS ls hl
set_option maxRecDepth 100000 in
set_option maxHeartbeats 4000000 in
theorem lawc_14 {p : Program} {l : Launch} {e : Env} {s : State} {m : MethodId} {below : List Frame} {meth : Method} {c : Code} {b L : Nat} {xs : Nat → Int32} (C0 : lw_At p s m meth c b L xs) (hLN : L ≤ 3584) {A : Nat → Prop} (hA : ∀ q : Nat, s.heap.size ≤ q → A q) (hbA : ¬ A b) {D : va_G} {cI cB cZ : ClassId} {zz qq vv : Nat} {bt : Nat → Int32} {g g2 : Nat → Nat} (hK : KK D cI cB cZ s) (hXS : XS D zz qq vv bt A s s.heap) {ad : Nat → Nat → Nat} {cn : Nat → Nat} {In : Nat → Int32} {Fn : Nat → Nat → Int32} {c3 : Nat → Nat} {I3 : Nat → Int32} {F3 : Nat → Nat → Int32} (hI : IX ad cn Fn) (hM : IMM c3 F3) (hR : RR cn Fn c3 F3) {H : Heap} {locs : List Loc} (hP : va_P D vwCl (wX cI (D.1 99) zz g ad cn In Fn ++ wM cI cB cZ g2 c3 I3 F3) H) (hD : va_D A (wX cI (D.1 99) zz g ad cn In Fn ++ wM cI cB cZ g2 c3 I3 F3)) (hS : va_S A s.heap H locs) {K N i : Nat} (hi : i + 7 ≤ L) (hKN : K + 8 ≤ 600000 ∧ N + 240 ≤ 7302250) {ls : Array Slot} (hl : lv_has ls 4 [(0, .ref b), (1, .ref (g 0)), (2, .ref (g2 100)), (3, .int (nI i))]) (kk : ∀ (ad : Nat → Nat → Nat) (cn : Nat → Nat) (In : Nat → Int32) (Fn : Nat → Nat → Int32) (c3 : Nat → Nat) (I3 : Nat → Int32) (F3 : Nat → Nat → Int32) (H : Heap) (locs : List Loc), IX ad cn Fn → IMM c3 F3 → RR cn Fn c3 F3 → va_P D vwCl (wX cI (D.1 99) zz g ad cn In Fn ++ wM cI cB cZ g2 c3 I3 F3) H → va_D A (wX cI (D.1 99) zz g ad cn In Fn ++ wM cI cB cZ g2 c3 I3 F3) → va_S A s.heap H locs → ∀ ls : Array Slot, lv_has ls 4 [(0, .ref b), (1, .ref (g 0)), (2, .ref (g2 100)), (3, .int (nI i))] → W p l e room_1 s m #[Value.ref b] below meth c H locs (K + 8) (N + 240) (lw_Z below #[Value.ref b] s) (F0 m 2269 ls [])) : W p l e room_1 s m #[Value.ref b] below meth c H locs K N (lw_Z below #[Value.ref b] s) (F0 m 798 ls []) := by
  obtain ⟨hx, hb, hr, hml, hown, hts, hX, hbl, hlocks, hgv⟩ := id C0
  have S : SF p m c code 4 s #[Value.ref b] RL := ⟨hx, hb, hml, hown, fun w h => hts w (wT_lw h)⟩
  refine lv_aload_n hx hb (oc_43 798 (aq_7 shL_law_791)) rfl (lvA1 hl) ?_
  refine lv_aload_n hx hb (oc_42 799 (aq_8 shL_law_791)) rfl (lvA0 hl) ?_
  refine lv_iload_n hx hb (oc_29 800 (aq_9 shL_law_791)) rfl (lvA3 hl) ?_
  refine lv_iconst (v := 1) hx hb (oc_4 801 (aq_10 shL_law_791)) kic_1 ?_
  refine lv_iadd hx hb (oc_96 802 (aq_11 shL_law_791)) ?_
  refine lv_topi (fun y_1 ey_1 => ?_)
  obtain rfl : y_1 = nI (i + 1) := ey_1.trans (nI_add i 1)
  refine va_sld hx hb hX hbl hbA hS (vp_in_nI (by omega) (by omega)) (oc_46 803 (aq_12 shL_law_791)) ?_
  refine lv_topi (fun y_2 ey_2 => ?_)
  obtain rfl : y_2 = xs (nI (i + 1)).toNatClampNeg := ey_2
  have hFc := free_all (exD hD) hS hA
  refine va_calli (runV_xa (As := [.int (xs (nI (i + 1)).toNatClampNeg)]) (rest := []) S (q_Xbatch l D cI cB cZ zz qq vv bt g ad cn In Fn (xs (nI (i + 1)).toNatClampNeg) H.size hI.1 hI.2.1 hI.2.2.1) kV_RL_78 hK hXS hS hFc (exP hP) (exD hD) 0 xo_0 rfl rfl ⟨Nat.le_of_ble_eq_true rfl, Nat.le_of_ble_eq_true rfl⟩ ⟨(by show K + 3 ≤ 600000; omega), (by show N + 120 ≤ 7302250; omega)⟩ rfl hl.1 rfl (Nat.le_of_ble_eq_true rfl) (oc_182 804 (aq_13 shL_law_791) uw_0_78)) hS (fun q _ h => hFc q h) hFc (fun r2 u t H1 locs ht hvm w2 hB1 hz1 hk1 hS => ?_)
  obtain ⟨a2, c2, I2, F2⟩ := u
  obtain ⟨hP1, hD1⟩ := hB1
  rw [ht] at hP1
  obtain ⟨hP, hD⟩ := exjoinL hP hD hk1 hFc hP1 hD1
  generalize H1 = H at hP hS ⊢
  obtain ⟨hI, hd2, hf2⟩ := ix_batch hI w2
  have hR := RR.fx hR hd2 hf2 (by decide) (by decide)
  refine lv_pop hx hb (oc_87 807 (aq_16 shL_law_791)) rfl ?_
  refine lv_aload_n hx hb (oc_44 808 (aq_17 shL_law_791)) rfl (lvA2 hl) ?_
  refine lv_aload_n hx hb (oc_42 809 (aq_18 shL_law_791)) rfl (lvA0 hl) ?_
  refine lv_iload_n hx hb (oc_29 810 (aq_19 shL_law_791)) rfl (lvA3 hl) ?_
  refine lv_iconst (v := 1) hx hb (oc_4 811 (aq_20 shL_law_791)) kic_1 ?_
  refine lv_iadd hx hb (oc_96 812 (aq_21 shL_law_791)) ?_
  refine lv_topi (fun y_4 ey_4 => ?_)
  obtain rfl : y_4 = nI (i + 1) := ey_4.trans (nI_add i 1)
  refine va_sld hx hb hX hbl hbA hS (vp_in_nI (by omega) (by omega)) (oc_46 813 (aq_22 shL_law_791)) ?_
  refine lv_topi (fun y_5 ey_5 => ?_)
  obtain rfl : y_5 = xs (nI (i + 1)).toNatClampNeg := ey_5
  have hFc := free_all (exDr hD) hS hA
  refine va_calli (runV_a (As := [.int (xs (nI (i + 1)).toNatClampNeg)]) (rest := []) S (q_batch l D cI cB cZ g2 c3 I3 F3 (xs (nI (i + 1)).toNatClampNeg) H.size hM.1) kV_RL_81 hK (exPr hP) (exDr hD) 0 rfl rfl rfl ⟨Nat.le_of_ble_eq_true rfl, Nat.le_of_ble_eq_true rfl⟩ ⟨(by show K + 3 + 0 ≤ 600000; omega), (by show N + 120 + 0 ≤ 7302250; omega)⟩ rfl hl.1 rfl (Nat.le_of_ble_eq_true rfl) (oc_182 814 (aq_23 shL_law_791) uw_0_81)) hS (fun q _ h => hFc q h) hFc (fun r5 u t H1 locs ht hvm w5 hB1 hz1 hk1 hS => ?_)
  obtain ⟨c5, I5, F5⟩ := u
  obtain ⟨hP1, hD1⟩ := hB1
  rw [ht] at hP1
  obtain ⟨hP, hD⟩ := exjoin hP hD hk1 hFc hP1 hD1
  generalize H1 = H at hP hS ⊢
  obtain ⟨hM, hd5, hf5⟩ := imm_batch hM w5
  have hR := RR.fm hR hd5 hf5 (by decide) (by decide)
  refine lv_pop hx hb (oc_87 817 shL_law_817) rfl ?_
  refine lv_goto (tgt := 2269) hx hb (oc_167 818 (aq_1 shL_law_817) sgw_5_171) rfl ?_
  refine W.widen (k := K + 8) (n := N + 240) (by omega) (by omega) ?_
  exact kk _ _ _ _ _ _ _ _ _ hI hM hR hP hD hS ls hl
