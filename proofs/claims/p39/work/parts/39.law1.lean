section
set_option maxRecDepth 100000 in
theorem kV_RL_13 : CalV RL 13 yX11_now cX11_now 2 (some .boolean) 1 := ⟨⟨wk2_3 9 rfl rfl, wk2_3 10 rfl rfl, wk2_3 11 rfl rfl, wk1_0 1 rfl rfl, wk2_4 0 rfl rfl⟩, ⟨nmh_0.1, nmh_0.2, pd_15⟩⟩
set_option maxRecDepth 100000 in
theorem kV_RL_17 : CalV RL 17 yX12_now cX12_now 2 (some .boolean) 1 := ⟨⟨wk7_12 4 rfl rfl, wk7_12 5 rfl rfl, wk7_12 6 rfl rfl, wk1_1 1 rfl rfl, wk7_12 7 rfl rfl⟩, ⟨nmh_13.1, nmh_13.2, pd_15⟩⟩
set_option maxRecDepth 100000 in
theorem kV_RL_18 : CalV RL 18 yX11_kitchen cX11_kitchen 6 (some .int) 4 := ⟨⟨wk2_4 7 rfl rfl, wk2_4 8 rfl rfl, wk2_4 9 rfl rfl, wk1_0 1 rfl rfl, wk2_4 10 rfl rfl⟩, ⟨nmh_0.1, nmh_0.2, pd_27⟩⟩
set_option maxRecDepth 100000 in
theorem kV_RL_22 : CalV RL 22 yX12_kitchen cX12_kitchen 5 (some .int) 4 := ⟨⟨wk7_12 11 rfl rfl, wk7_13 0 rfl rfl, wk7_13 1 rfl rfl, wk1_1 1 rfl rfl, wk7_13 2 rfl rfl⟩, ⟨nmh_13.1, nmh_13.2, pd_27⟩⟩
set_option maxRecDepth 100000 in
theorem kV_RL_23 : CalV RL 23 yX11_likely cX11_likely 4 (some .int) 2 := ⟨⟨wk2_14 5 rfl rfl, wk2_14 6 rfl rfl, wk2_14 7 rfl rfl, wk1_0 1 rfl rfl, wk2_14 8 rfl rfl⟩, ⟨nmh_0.1, nmh_0.2, pd_17⟩⟩
set_option maxRecDepth 100000 in
theorem kV_RL_27 : CalV RL 27 yX12_likely cX12_likely 3 (some .int) 2 := ⟨⟨wk7_13 3 rfl rfl, wk7_13 4 rfl rfl, wk7_13 5 rfl rfl, wk1_1 1 rfl rfl, wk7_13 6 rfl rfl⟩, ⟨nmh_13.1, nmh_13.2, pd_17⟩⟩
set_option maxRecDepth 100000 in
theorem kV_RL_28 : CalV RL 28 yX11_fetch cX11_fetch 9 (some .int) 6 := ⟨⟨wk2_16 8 rfl rfl, wk2_16 9 rfl rfl, wk2_16 10 rfl rfl, wk1_0 1 rfl rfl, wk2_16 11 rfl rfl⟩, ⟨nmh_0.1, nmh_0.2, pd_33⟩⟩
set_option maxRecDepth 100000 in
theorem kV_RL_32 : CalV RL 32 yX12_fetch cX12_fetch 9 (some .int) 6 := ⟨⟨wk7_14 3 rfl rfl, wk7_14 4 rfl rfl, wk7_14 5 rfl rfl, wk1_1 1 rfl rfl, wk7_14 6 rfl rfl⟩, ⟨nmh_13.1, nmh_13.2, pd_33⟩⟩
set_option maxRecDepth 100000 in
theorem kV_RL_33 : CalV RL 33 yX11_feed cX11_feed 6 (some .int) 5 := ⟨⟨wk3_2 9 rfl rfl, wk3_2 10 rfl rfl, wk3_2 11 rfl rfl, wk1_0 1 rfl rfl, wk3_3 0 rfl rfl⟩, ⟨nmh_0.1, nmh_0.2, pd_30⟩⟩
set_option maxRecDepth 100000 in
theorem kV_RL_37 : CalV RL 37 yX12_feed cX12_feed 6 (some .int) 5 := ⟨⟨wk7_14 7 rfl rfl, wk7_14 8 rfl rfl, wk7_14 9 rfl rfl, wk1_1 1 rfl rfl, wk7_14 10 rfl rfl⟩, ⟨nmh_13.1, nmh_13.2, pd_30⟩⟩
set_option maxRecDepth 100000 in
theorem kV_RL_38 : CalV RL 38 yX11_contract cX11_contract 5 (some .int) 2 := ⟨⟨wk3_3 11 rfl rfl, wk3_4 0 rfl rfl, wk3_4 1 rfl rfl, wk1_0 1 rfl rfl, wk3_4 2 rfl rfl⟩, ⟨nmh_0.1, nmh_0.2, pd_17⟩⟩
set_option maxRecDepth 100000 in
theorem kV_RL_41 : CalV RL 41 yX12_contract cX12_contract 3 (some .int) 2 := ⟨⟨wk7_15 3 rfl rfl, wk7_15 4 rfl rfl, wk7_15 5 rfl rfl, wk1_1 1 rfl rfl, wk7_15 6 rfl rfl⟩, ⟨nmh_13.1, nmh_13.2, pd_17⟩⟩
set_option maxRecDepth 100000 in
theorem kV_RL_42 : CalV RL 42 yX11_law cX11_law 3 (some .int) 1 := ⟨⟨wk3_17 11 rfl rfl, wk3_18 0 rfl rfl, wk3_18 1 rfl rfl, wk1_0 1 rfl rfl, wk3_18 2 rfl rfl⟩, ⟨nmh_0.1, nmh_0.2, pd_8⟩⟩
set_option maxRecDepth 100000 in
theorem kV_RL_46 : CalV RL 46 yX12_law cX12_law 2 (some .int) 1 := ⟨⟨wk8_2 6 rfl rfl, wk8_2 7 rfl rfl, wk8_2 8 rfl rfl, wk1_1 1 rfl rfl, wk8_2 9 rfl rfl⟩, ⟨nmh_13.1, nmh_13.2, pd_8⟩⟩
set_option maxRecDepth 100000 in
theorem kV_RL_47 : CalV RL 47 yX11_price cX11_price 3 (some .boolean) 2 := ⟨⟨wk3_18 3 rfl rfl, wk3_18 4 rfl rfl, wk3_18 5 rfl rfl, wk1_0 1 rfl rfl, wk3_18 6 rfl rfl⟩, ⟨nmh_0.1, nmh_0.2, pd_21⟩⟩
set_option maxRecDepth 100000 in
theorem kV_RL_51 : CalV RL 51 yX12_price cX12_price 3 (some .boolean) 2 := ⟨⟨wk8_2 10 rfl rfl, wk8_2 11 rfl rfl, wk8_3 0 rfl rfl, wk1_1 1 rfl rfl, wk8_3 1 rfl rfl⟩, ⟨nmh_13.1, nmh_13.2, pd_21⟩⟩
set_option maxRecDepth 100000 in
theorem kV_RL_52 : CalV RL 52 yX11_pence cX11_pence 4 (some .int) 1 := ⟨⟨wk3_18 10 rfl rfl, wk3_18 11 rfl rfl, wk3_19 0 rfl rfl, wk1_0 1 rfl rfl, wk3_19 1 rfl rfl⟩, ⟨nmh_0.1, nmh_0.2, pd_8⟩⟩
set_option maxRecDepth 100000 in
theorem kV_RL_55 : CalV RL 55 yX12_pence cX12_pence 2 (some .int) 1 := ⟨⟨wk8_3 2 rfl rfl, wk8_3 3 rfl rfl, wk8_3 4 rfl rfl, wk1_1 1 rfl rfl, wk8_3 5 rfl rfl⟩, ⟨nmh_13.1, nmh_13.2, pd_8⟩⟩
set_option maxRecDepth 100000 in
theorem kV_RL_56 : CalV RL 56 yX11_paid cX11_paid 4 (some .int) 2 := ⟨⟨wk4_3 9 rfl rfl, wk4_3 10 rfl rfl, wk4_3 11 rfl rfl, wk1_0 1 rfl rfl, wk4_4 0 rfl rfl⟩, ⟨nmh_0.1, nmh_0.2, pd_17⟩⟩
set_option maxRecDepth 100000 in
theorem kV_RL_59 : CalV RL 59 yX12_paid cX12_paid 5 (some .int) 2 := ⟨⟨wk8_4 10 rfl rfl, wk8_4 11 rfl rfl, wk8_5 0 rfl rfl, wk1_1 1 rfl rfl, wk8_5 1 rfl rfl⟩, ⟨nmh_13.1, nmh_13.2, pd_17⟩⟩
set_option maxRecDepth 100000 in
theorem kV_RL_60 : CalV RL 60 yX11_missing cX11_missing 3 (some .int) 1 := ⟨⟨wk3_2 1 rfl rfl, wk3_2 2 rfl rfl, wk3_2 3 rfl rfl, wk1_0 1 rfl rfl, wk3_2 4 rfl rfl⟩, ⟨nmh_0.1, nmh_0.2, pd_8⟩⟩
set_option maxRecDepth 100000 in
theorem kV_RL_63 : CalV RL 63 yX12_missing cX12_missing 2 (some .int) 1 := ⟨⟨wk8_5 9 rfl rfl, wk8_5 10 rfl rfl, wk8_5 11 rfl rfl, wk1_1 1 rfl rfl, wk8_6 0 rfl rfl⟩, ⟨nmh_13.1, nmh_13.2, pd_8⟩⟩
set_option maxRecDepth 100000 in
theorem kV_RL_64 : CalV RL 64 yX11_beyond cX11_beyond 9 (some .long) 2 := ⟨⟨wk4_4 9 rfl rfl, wk4_4 10 rfl rfl, wk4_4 11 rfl rfl, wk1_0 1 rfl rfl, wk4_5 0 rfl rfl⟩, ⟨nmh_0.1, nmh_0.2, pd_18⟩⟩
set_option maxRecDepth 100000 in
theorem kV_RL_68 : CalV RL 68 yX12_beyond cX12_beyond 6 (some .long) 2 := ⟨⟨wk8_6 1 rfl rfl, wk8_6 2 rfl rfl, wk8_6 3 rfl rfl, wk1_1 1 rfl rfl, wk8_6 4 rfl rfl⟩, ⟨nmh_13.1, nmh_13.2, pd_18⟩⟩
set_option maxRecDepth 100000 in
theorem kV_RL_69 : CalV RL 69 yX11_round cX11_round 4 (some .int) 3 := ⟨⟨wk4_6 11 rfl rfl, wk4_7 0 rfl rfl, wk4_7 1 rfl rfl, wk1_0 1 rfl rfl, wk4_7 2 rfl rfl⟩, ⟨nmh_0.1, nmh_0.2, pd_22⟩⟩
set_option maxRecDepth 100000 in
theorem kV_RL_73 : CalV RL 73 yX12_round cX12_round 8 (some .int) 3 := ⟨⟨wk8_9 5 rfl rfl, wk8_9 6 rfl rfl, wk8_9 7 rfl rfl, wk1_1 1 rfl rfl, wk8_9 8 rfl rfl⟩, ⟨nmh_13.1, nmh_13.2, pd_22⟩⟩
set_option maxRecDepth 100000 in
theorem kV_RL_74 : CalV RL 74 yX11_driven cX11_driven 3 (some .int) 1 := ⟨⟨wk4_11 11 rfl rfl, wk4_12 0 rfl rfl, wk4_12 1 rfl rfl, wk1_0 1 rfl rfl, wk4_12 2 rfl rfl⟩, ⟨nmh_0.1, nmh_0.2, pd_8⟩⟩
set_option maxRecDepth 100000 in
theorem kV_RL_77 : CalV RL 77 yX12_driven cX12_driven 7 (some .int) 1 := ⟨⟨wk8_16 1 rfl rfl, wk8_16 2 rfl rfl, wk8_16 3 rfl rfl, wk1_1 1 rfl rfl, wk8_16 4 rfl rfl⟩, ⟨nmh_13.1, nmh_13.2, pd_8⟩⟩
set_option maxRecDepth 100000 in
theorem kV_RL_78 : CalV RL 78 yX11_batch cX11_batch 4 (some .int) 1 := ⟨⟨wk4_16 10 rfl rfl, wk4_16 11 rfl rfl, wk4_17 0 rfl rfl, wk1_0 1 rfl rfl, wk4_17 1 rfl rfl⟩, ⟨nmh_0.1, nmh_0.2, pd_8⟩⟩
set_option maxRecDepth 100000 in
theorem kV_RL_81 : CalV RL 81 yX12_batch cX12_batch 4 (some .int) 1 := ⟨⟨wk8_16 5 rfl rfl, wk8_16 6 rfl rfl, wk8_16 7 rfl rfl, wk1_1 1 rfl rfl, wk8_16 8 rfl rfl⟩, ⟨nmh_13.1, nmh_13.2, pd_8⟩⟩
noncomputable def sxL_law_2277 : List UInt8 := []
noncomputable def sxL_law_2275 : List UInt8 := 4 :: 172 :: sxL_law_2277
noncomputable def sxL_law_2251 : List UInt8 := 46 :: 182 :: 1 :: 2 :: 87 :: 44 :: 42 :: 29 :: 4 :: 96 :: 46 :: 182 :: 1 :: 5 :: 87 :: 167 :: 0 :: 3 :: 132 :: 3 :: 7 :: 167 :: 247 :: 50 :: sxL_law_2275
noncomputable def sxL_law_2227 : List UInt8 := 87 :: 44 :: 42 :: 29 :: 4 :: 96 :: 46 :: 42 :: 29 :: 5 :: 96 :: 46 :: 182 :: 1 :: 1 :: 87 :: 167 :: 0 :: 26 :: 43 :: 42 :: 29 :: 4 :: 96 :: sxL_law_2251
noncomputable def sxL_law_2202 : List UInt8 := 29 :: 4 :: 96 :: 46 :: 182 :: 0 :: 253 :: 87 :: 167 :: 0 :: 59 :: 43 :: 42 :: 29 :: 4 :: 96 :: 46 :: 42 :: 29 :: 5 :: 96 :: 46 :: 182 :: 0 :: 254 :: sxL_law_2227
noncomputable def sxL_law_2178 : List UInt8 := 42 :: 29 :: 4 :: 96 :: 46 :: 182 :: 0 :: 249 :: 87 :: 167 :: 0 :: 82 :: 43 :: 42 :: 29 :: 4 :: 96 :: 46 :: 182 :: 0 :: 250 :: 87 :: 44 :: 42 :: sxL_law_2202
noncomputable def sxL_law_2154 : List UInt8 := 46 :: 42 :: 29 :: 5 :: 96 :: 46 :: 182 :: 0 :: 245 :: 87 :: 167 :: 0 :: 105 :: 43 :: 42 :: 29 :: 4 :: 96 :: 46 :: 182 :: 0 :: 246 :: 87 :: 44 :: sxL_law_2178
noncomputable def sxL_law_2130 : List UInt8 := 87 :: 167 :: 0 :: 138 :: 43 :: 42 :: 29 :: 4 :: 96 :: 46 :: 42 :: 29 :: 5 :: 96 :: 46 :: 182 :: 0 :: 242 :: 87 :: 44 :: 42 :: 29 :: 4 :: 96 :: sxL_law_2154
noncomputable def sxL_law_2106 : List UInt8 := 46 :: 182 :: 0 :: 238 :: 87 :: 44 :: 42 :: 29 :: 4 :: 96 :: 46 :: 42 :: 29 :: 5 :: 96 :: 46 :: 42 :: 29 :: 6 :: 96 :: 46 :: 182 :: 0 :: 241 :: sxL_law_2130
noncomputable def sxL_law_2082 : List UInt8 := 96 :: 46 :: 182 :: 0 :: 237 :: 87 :: 167 :: 0 :: 181 :: 43 :: 42 :: 29 :: 4 :: 96 :: 46 :: 42 :: 29 :: 5 :: 96 :: 46 :: 42 :: 29 :: 6 :: 96 :: sxL_law_2106
noncomputable def sxL_law_2058 : List UInt8 := 43 :: 42 :: 29 :: 4 :: 96 :: 46 :: 42 :: 29 :: 5 :: 96 :: 46 :: 182 :: 0 :: 234 :: 87 :: 44 :: 42 :: 29 :: 4 :: 96 :: 46 :: 42 :: 29 :: 5 :: sxL_law_2082
noncomputable def sxL_law_2032 : List UInt8 := 167 :: 0 :: 237 :: 43 :: 42 :: 29 :: 4 :: 96 :: 46 :: 182 :: 0 :: 230 :: 87 :: 44 :: 42 :: 29 :: 4 :: 96 :: 46 :: 182 :: 0 :: 233 :: 87 :: 167 :: 0 :: 214 :: sxL_law_2058
noncomputable def sxL_law_2008 : List UInt8 := 42 :: 29 :: 5 :: 96 :: 46 :: 182 :: 0 :: 226 :: 87 :: 44 :: 42 :: 29 :: 4 :: 96 :: 46 :: 42 :: 29 :: 5 :: 96 :: 46 :: 182 :: 0 :: 229 :: 87 :: sxL_law_2032
noncomputable def sxL_law_1984 : List UInt8 := 46 :: 182 :: 0 :: 222 :: 87 :: 44 :: 42 :: 29 :: 4 :: 96 :: 46 :: 182 :: 0 :: 225 :: 87 :: 167 :: 1 :: 14 :: 43 :: 42 :: 29 :: 4 :: 96 :: 46 :: sxL_law_2008
noncomputable def sxL_law_1960 : List UInt8 := 96 :: 46 :: 42 :: 29 :: 5 :: 96 :: 46 :: 42 :: 29 :: 6 :: 96 :: 46 :: 182 :: 0 :: 221 :: 87 :: 167 :: 1 :: 37 :: 43 :: 42 :: 29 :: 4 :: 96 :: sxL_law_1984
noncomputable def sxL_law_1936 : List UInt8 := 43 :: 42 :: 29 :: 4 :: 96 :: 46 :: 42 :: 29 :: 5 :: 96 :: 46 :: 42 :: 29 :: 6 :: 96 :: 46 :: 182 :: 0 :: 218 :: 87 :: 44 :: 42 :: 29 :: 4 :: sxL_law_1960
noncomputable def sxL_law_1910 : List UInt8 := 29 :: 5 :: 96 :: 46 :: 182 :: 0 :: 214 :: 87 :: 44 :: 42 :: 29 :: 4 :: 96 :: 46 :: 42 :: 29 :: 5 :: 96 :: 46 :: 182 :: 0 :: 217 :: 87 :: 167 :: 1 :: 80 :: sxL_law_1936
noncomputable def sxL_law_1886 : List UInt8 := 42 :: 29 :: 4 :: 96 :: 46 :: 42 :: 29 :: 5 :: 96 :: 46 :: 182 :: 0 :: 213 :: 87 :: 167 :: 1 :: 113 :: 43 :: 42 :: 29 :: 4 :: 96 :: 46 :: 42 :: sxL_law_1910
noncomputable def sxL_law_1862 : List UInt8 := 46 :: 182 :: 0 :: 209 :: 87 :: 167 :: 1 :: 146 :: 43 :: 42 :: 29 :: 4 :: 96 :: 46 :: 42 :: 29 :: 5 :: 96 :: 46 :: 182 :: 0 :: 210 :: 87 :: 44 :: sxL_law_1886
noncomputable def sxL_law_1838 : List UInt8 := 42 :: 29 :: 4 :: 96 :: 46 :: 42 :: 29 :: 5 :: 96 :: 46 :: 182 :: 0 :: 206 :: 87 :: 44 :: 42 :: 29 :: 4 :: 96 :: 46 :: 42 :: 29 :: 5 :: 96 :: sxL_law_1862
noncomputable def sxL_law_1814 : List UInt8 := 43 :: 42 :: 29 :: 4 :: 96 :: 46 :: 182 :: 0 :: 202 :: 87 :: 44 :: 42 :: 29 :: 4 :: 96 :: 46 :: 182 :: 0 :: 205 :: 87 :: 167 :: 1 :: 179 :: 43 :: sxL_law_1838
noncomputable def sxL_law_1788 : List UInt8 := 29 :: 5 :: 96 :: 46 :: 182 :: 0 :: 198 :: 87 :: 44 :: 42 :: 29 :: 4 :: 96 :: 46 :: 42 :: 29 :: 5 :: 96 :: 46 :: 182 :: 0 :: 201 :: 87 :: 167 :: 1 :: 202 :: sxL_law_1814
noncomputable def sxL_law_1764 : List UInt8 := 42 :: 29 :: 5 :: 96 :: 46 :: 42 :: 29 :: 6 :: 96 :: 46 :: 182 :: 0 :: 197 :: 87 :: 167 :: 1 :: 235 :: 43 :: 42 :: 29 :: 4 :: 96 :: 46 :: 42 :: sxL_law_1788
noncomputable def sxL_law_1740 : List UInt8 := 29 :: 4 :: 96 :: 46 :: 42 :: 29 :: 5 :: 96 :: 46 :: 42 :: 29 :: 6 :: 96 :: 46 :: 182 :: 0 :: 194 :: 87 :: 44 :: 42 :: 29 :: 4 :: 96 :: 46 :: sxL_law_1764
noncomputable def sxL_law_1716 : List UInt8 := 96 :: 46 :: 182 :: 0 :: 189 :: 87 :: 167 :: 2 :: 35 :: 43 :: 182 :: 0 :: 190 :: 87 :: 44 :: 182 :: 0 :: 193 :: 87 :: 167 :: 2 :: 22 :: 43 :: 42 :: sxL_law_1740
noncomputable def sxL_law_1692 : List UInt8 := 43 :: 42 :: 29 :: 4 :: 96 :: 46 :: 42 :: 29 :: 5 :: 96 :: 46 :: 182 :: 0 :: 186 :: 87 :: 44 :: 42 :: 29 :: 4 :: 96 :: 46 :: 42 :: 29 :: 5 :: sxL_law_1716
noncomputable def sxL_law_1667 : List UInt8 := 5 :: 96 :: 46 :: 182 :: 0 :: 182 :: 87 :: 44 :: 42 :: 29 :: 4 :: 96 :: 46 :: 42 :: 29 :: 5 :: 96 :: 46 :: 182 :: 0 :: 185 :: 87 :: 167 :: 2 :: 68 :: sxL_law_1692
noncomputable def sxL_law_1643 : List UInt8 := 29 :: 6 :: 96 :: 46 :: 42 :: 29 :: 7 :: 96 :: 46 :: 182 :: 0 :: 181 :: 87 :: 167 :: 2 :: 101 :: 43 :: 42 :: 29 :: 4 :: 96 :: 46 :: 42 :: 29 :: sxL_law_1667
noncomputable def sxL_law_1619 : List UInt8 := 6 :: 96 :: 46 :: 42 :: 29 :: 7 :: 96 :: 46 :: 182 :: 0 :: 178 :: 87 :: 44 :: 42 :: 29 :: 4 :: 96 :: 46 :: 42 :: 29 :: 5 :: 96 :: 46 :: 42 :: sxL_law_1643
noncomputable def sxL_law_1595 : List UInt8 := 6 :: 96 :: 46 :: 182 :: 0 :: 177 :: 159 :: 2 :: 156 :: 3 :: 172 :: 43 :: 42 :: 29 :: 4 :: 96 :: 46 :: 42 :: 29 :: 5 :: 96 :: 46 :: 42 :: 29 :: sxL_law_1619
noncomputable def sxL_law_1571 : List UInt8 := 5 :: 96 :: 46 :: 42 :: 29 :: 6 :: 96 :: 46 :: 182 :: 0 :: 174 :: 44 :: 42 :: 29 :: 4 :: 96 :: 46 :: 42 :: 29 :: 5 :: 96 :: 46 :: 42 :: 29 :: sxL_law_1595
noncomputable def sxL_law_1547 : List UInt8 := 46 :: 153 :: 0 :: 7 :: 4 :: 167 :: 0 :: 4 :: 3 :: 182 :: 0 :: 173 :: 87 :: 167 :: 2 :: 197 :: 43 :: 42 :: 29 :: 4 :: 96 :: 46 :: 42 :: 29 :: sxL_law_1571
noncomputable def sxL_law_1523 : List UInt8 := 4 :: 167 :: 0 :: 4 :: 3 :: 182 :: 0 :: 169 :: 87 :: 44 :: 42 :: 29 :: 4 :: 96 :: 46 :: 42 :: 29 :: 5 :: 96 :: 46 :: 42 :: 29 :: 6 :: 96 :: sxL_law_1547
noncomputable def sxL_law_1497 : List UInt8 := 182 :: 0 :: 168 :: 87 :: 167 :: 3 :: 0 :: 43 :: 42 :: 29 :: 4 :: 96 :: 46 :: 42 :: 29 :: 5 :: 96 :: 46 :: 42 :: 29 :: 6 :: 96 :: 46 :: 153 :: 0 :: 7 :: sxL_law_1523
noncomputable def sxL_law_1473 : List UInt8 := 46 :: 182 :: 0 :: 164 :: 87 :: 167 :: 3 :: 23 :: 43 :: 42 :: 29 :: 4 :: 96 :: 46 :: 182 :: 0 :: 165 :: 87 :: 44 :: 42 :: 29 :: 4 :: 96 :: 46 :: sxL_law_1497
noncomputable def sxL_law_1449 : List UInt8 := 42 :: 29 :: 4 :: 96 :: 46 :: 42 :: 29 :: 5 :: 96 :: 46 :: 182 :: 0 :: 161 :: 87 :: 44 :: 42 :: 29 :: 4 :: 96 :: 46 :: 42 :: 29 :: 5 :: 96 :: sxL_law_1473
noncomputable def sxL_law_1425 : List UInt8 := 44 :: 42 :: 29 :: 4 :: 96 :: 46 :: 42 :: 29 :: 5 :: 96 :: 46 :: 42 :: 29 :: 6 :: 96 :: 46 :: 182 :: 0 :: 160 :: 88 :: 167 :: 3 :: 56 :: 43 :: sxL_law_1449
noncomputable def sxL_law_1401 : List UInt8 := 88 :: 167 :: 3 :: 99 :: 43 :: 42 :: 29 :: 4 :: 96 :: 46 :: 42 :: 29 :: 5 :: 96 :: 46 :: 42 :: 29 :: 6 :: 96 :: 46 :: 182 :: 0 :: 156 :: 88 :: sxL_law_1425
noncomputable def sxL_law_1377 : List UInt8 := 46 :: 42 :: 29 :: 5 :: 96 :: 46 :: 182 :: 0 :: 152 :: 88 :: 44 :: 42 :: 29 :: 4 :: 96 :: 46 :: 42 :: 29 :: 5 :: 96 :: 46 :: 182 :: 0 :: 155 :: sxL_law_1401
noncomputable def sxL_law_1353 : List UInt8 := 87 :: 44 :: 42 :: 29 :: 4 :: 96 :: 46 :: 42 :: 29 :: 5 :: 96 :: 46 :: 182 :: 0 :: 151 :: 87 :: 167 :: 3 :: 132 :: 43 :: 42 :: 29 :: 4 :: 96 :: sxL_law_1377
noncomputable def sxL_law_1327 : List UInt8 := 42 :: 29 :: 5 :: 96 :: 46 :: 182 :: 0 :: 147 :: 87 :: 167 :: 3 :: 165 :: 43 :: 42 :: 29 :: 4 :: 96 :: 46 :: 42 :: 29 :: 5 :: 96 :: 46 :: 182 :: 0 :: 148 :: sxL_law_1353
noncomputable def sxL_law_1303 : List UInt8 := 167 :: 3 :: 198 :: 43 :: 42 :: 29 :: 4 :: 96 :: 46 :: 42 :: 29 :: 5 :: 96 :: 46 :: 182 :: 0 :: 144 :: 87 :: 44 :: 42 :: 29 :: 4 :: 96 :: 46 :: sxL_law_1327
noncomputable def sxL_law_1279 : List UInt8 := 42 :: 29 :: 5 :: 96 :: 46 :: 182 :: 0 :: 140 :: 87 :: 44 :: 42 :: 29 :: 4 :: 96 :: 46 :: 42 :: 29 :: 5 :: 96 :: 46 :: 182 :: 0 :: 143 :: 87 :: sxL_law_1303
noncomputable def sxL_law_1255 : List UInt8 := 44 :: 42 :: 29 :: 4 :: 96 :: 46 :: 42 :: 29 :: 5 :: 96 :: 46 :: 182 :: 0 :: 139 :: 87 :: 167 :: 3 :: 231 :: 43 :: 42 :: 29 :: 4 :: 96 :: 46 :: sxL_law_1279
noncomputable def sxL_law_1231 : List UInt8 := 96 :: 46 :: 182 :: 0 :: 135 :: 87 :: 167 :: 4 :: 8 :: 43 :: 42 :: 29 :: 4 :: 96 :: 46 :: 42 :: 29 :: 5 :: 96 :: 46 :: 182 :: 0 :: 136 :: 87 :: sxL_law_1255
noncomputable def sxL_law_1207 : List UInt8 := 43 :: 42 :: 29 :: 4 :: 96 :: 46 :: 42 :: 29 :: 5 :: 96 :: 46 :: 182 :: 0 :: 132 :: 87 :: 44 :: 42 :: 29 :: 4 :: 96 :: 46 :: 42 :: 29 :: 5 :: sxL_law_1231
noncomputable def sxL_law_1181 : List UInt8 := 167 :: 4 :: 64 :: 43 :: 42 :: 29 :: 4 :: 96 :: 46 :: 182 :: 0 :: 128 :: 87 :: 44 :: 42 :: 29 :: 4 :: 96 :: 46 :: 182 :: 0 :: 131 :: 87 :: 167 :: 4 :: 41 :: sxL_law_1207
noncomputable def sxL_law_1157 : List UInt8 := 42 :: 29 :: 5 :: 96 :: 46 :: 182 :: 0 :: 124 :: 87 :: 44 :: 42 :: 29 :: 4 :: 96 :: 46 :: 42 :: 29 :: 5 :: 96 :: 46 :: 182 :: 0 :: 127 :: 87 :: sxL_law_1181
noncomputable def sxL_law_1133 : List UInt8 := 44 :: 42 :: 29 :: 4 :: 96 :: 46 :: 42 :: 29 :: 5 :: 96 :: 46 :: 182 :: 0 :: 123 :: 87 :: 167 :: 4 :: 97 :: 43 :: 42 :: 29 :: 4 :: 96 :: 46 :: sxL_law_1157
noncomputable def sxL_law_1109 : List UInt8 := 96 :: 46 :: 182 :: 0 :: 119 :: 87 :: 167 :: 4 :: 130 :: 43 :: 42 :: 29 :: 4 :: 96 :: 46 :: 42 :: 29 :: 5 :: 96 :: 46 :: 182 :: 0 :: 120 :: 87 :: sxL_law_1133
noncomputable def sxL_law_1085 : List UInt8 := 43 :: 42 :: 29 :: 4 :: 96 :: 46 :: 42 :: 29 :: 5 :: 96 :: 46 :: 182 :: 0 :: 116 :: 87 :: 44 :: 42 :: 29 :: 4 :: 96 :: 46 :: 42 :: 29 :: 5 :: sxL_law_1109
noncomputable def sxL_law_1060 : List UInt8 := 5 :: 96 :: 46 :: 182 :: 0 :: 112 :: 87 :: 44 :: 42 :: 29 :: 4 :: 96 :: 46 :: 42 :: 29 :: 5 :: 96 :: 46 :: 182 :: 0 :: 115 :: 87 :: 167 :: 4 :: 163 :: sxL_law_1085
noncomputable def sxL_law_1036 : List UInt8 := 29 :: 4 :: 96 :: 46 :: 42 :: 29 :: 5 :: 96 :: 46 :: 182 :: 0 :: 111 :: 87 :: 167 :: 4 :: 196 :: 43 :: 42 :: 29 :: 4 :: 96 :: 46 :: 42 :: 29 :: sxL_law_1060
noncomputable def sxL_law_1012 : List UInt8 := 182 :: 0 :: 107 :: 87 :: 167 :: 4 :: 229 :: 43 :: 42 :: 29 :: 4 :: 96 :: 46 :: 42 :: 29 :: 5 :: 96 :: 46 :: 182 :: 0 :: 108 :: 87 :: 44 :: 42 :: sxL_law_1036
noncomputable def sxL_law_988 : List UInt8 := 29 :: 6 :: 96 :: 46 :: 182 :: 0 :: 103 :: 87 :: 44 :: 42 :: 29 :: 4 :: 96 :: 46 :: 42 :: 29 :: 5 :: 96 :: 46 :: 42 :: 29 :: 6 :: 96 :: 46 :: sxL_law_1012
noncomputable def sxL_law_964 : List UInt8 := 42 :: 29 :: 5 :: 96 :: 46 :: 182 :: 0 :: 102 :: 87 :: 167 :: 5 :: 16 :: 43 :: 42 :: 29 :: 4 :: 96 :: 46 :: 42 :: 29 :: 5 :: 96 :: 46 :: 42 :: sxL_law_988
noncomputable def sxL_law_940 : List UInt8 := 167 :: 5 :: 49 :: 43 :: 42 :: 29 :: 4 :: 96 :: 46 :: 42 :: 29 :: 5 :: 96 :: 46 :: 182 :: 0 :: 99 :: 87 :: 44 :: 42 :: 29 :: 4 :: 96 :: 46 :: sxL_law_964
noncomputable def sxL_law_916 : List UInt8 := 87 :: 167 :: 5 :: 72 :: 43 :: 42 :: 29 :: 4 :: 96 :: 46 :: 182 :: 0 :: 95 :: 87 :: 44 :: 42 :: 29 :: 4 :: 96 :: 46 :: 182 :: 0 :: 98 :: 87 :: sxL_law_940
noncomputable def sxL_law_891 : List UInt8 := 87 :: 44 :: 42 :: 29 :: 4 :: 96 :: 46 :: 42 :: 29 :: 5 :: 96 :: 46 :: 42 :: 29 :: 6 :: 96 :: 46 :: 42 :: 29 :: 7 :: 96 :: 46 :: 182 :: 0 :: 94 :: sxL_law_916
noncomputable def sxL_law_867 : List UInt8 := 43 :: 42 :: 29 :: 4 :: 96 :: 46 :: 42 :: 29 :: 5 :: 96 :: 46 :: 42 :: 29 :: 6 :: 96 :: 46 :: 42 :: 29 :: 7 :: 96 :: 46 :: 182 :: 0 :: 91 :: sxL_law_891
noncomputable def sxL_law_841 : List UInt8 := 46 :: 42 :: 29 :: 5 :: 96 :: 46 :: 182 :: 0 :: 85 :: 87 :: 167 :: 5 :: 138 :: 43 :: 182 :: 0 :: 86 :: 87 :: 44 :: 182 :: 0 :: 90 :: 87 :: 167 :: 5 :: 125 :: sxL_law_867
noncomputable def sxL_law_817 : List UInt8 := 87 :: 167 :: 5 :: 171 :: 43 :: 42 :: 29 :: 4 :: 96 :: 46 :: 42 :: 29 :: 5 :: 96 :: 46 :: 182 :: 0 :: 82 :: 87 :: 44 :: 42 :: 29 :: 4 :: 96 :: sxL_law_841
noncomputable def sxL_law_791 : List UInt8 := 182 :: 0 :: 77 :: 87 :: 167 :: 5 :: 194 :: 43 :: 42 :: 29 :: 4 :: 96 :: 46 :: 182 :: 0 :: 78 :: 87 :: 44 :: 42 :: 29 :: 4 :: 96 :: 46 :: 182 :: 0 :: 81 :: sxL_law_817
noncomputable def sxL_law_767 : List UInt8 := 46 :: 182 :: 0 :: 73 :: 87 :: 167 :: 5 :: 217 :: 43 :: 42 :: 29 :: 4 :: 96 :: 46 :: 182 :: 0 :: 74 :: 87 :: 44 :: 42 :: 29 :: 4 :: 96 :: 46 :: sxL_law_791
noncomputable def sxL_law_743 : List UInt8 := 42 :: 29 :: 6 :: 96 :: 46 :: 182 :: 0 :: 69 :: 87 :: 44 :: 42 :: 29 :: 4 :: 96 :: 46 :: 42 :: 29 :: 5 :: 96 :: 46 :: 42 :: 29 :: 6 :: 96 :: sxL_law_767
noncomputable def sxL_law_719 : List UInt8 := 46 :: 42 :: 29 :: 5 :: 96 :: 46 :: 182 :: 0 :: 68 :: 88 :: 167 :: 6 :: 4 :: 43 :: 42 :: 29 :: 4 :: 96 :: 46 :: 42 :: 29 :: 5 :: 96 :: 46 :: sxL_law_743
noncomputable def sxL_law_695 : List UInt8 := 87 :: 167 :: 6 :: 37 :: 43 :: 42 :: 29 :: 4 :: 96 :: 46 :: 42 :: 29 :: 5 :: 96 :: 46 :: 182 :: 0 :: 64 :: 88 :: 44 :: 42 :: 29 :: 4 :: 96 :: sxL_law_719
noncomputable def sxL_law_669 : List UInt8 := 182 :: 0 :: 59 :: 87 :: 167 :: 6 :: 60 :: 43 :: 42 :: 29 :: 4 :: 96 :: 46 :: 182 :: 0 :: 60 :: 87 :: 44 :: 42 :: 29 :: 4 :: 96 :: 46 :: 182 :: 0 :: 63 :: sxL_law_695
noncomputable def sxL_law_645 : List UInt8 := 29 :: 4 :: 96 :: 46 :: 42 :: 29 :: 5 :: 96 :: 46 :: 182 :: 0 :: 56 :: 87 :: 44 :: 42 :: 29 :: 4 :: 96 :: 46 :: 42 :: 29 :: 5 :: 96 :: 46 :: sxL_law_669
noncomputable def sxL_law_621 : List UInt8 := 42 :: 29 :: 4 :: 96 :: 46 :: 182 :: 0 :: 52 :: 87 :: 44 :: 42 :: 29 :: 4 :: 96 :: 46 :: 182 :: 0 :: 55 :: 87 :: 167 :: 6 :: 93 :: 43 :: 42 :: sxL_law_645
noncomputable def sxL_law_597 : List UInt8 := 46 :: 182 :: 0 :: 47 :: 87 :: 44 :: 42 :: 29 :: 4 :: 96 :: 46 :: 42 :: 29 :: 5 :: 96 :: 46 :: 182 :: 0 :: 51 :: 87 :: 167 :: 6 :: 116 :: 43 :: sxL_law_621
noncomputable def sxL_law_573 : List UInt8 := 87 :: 44 :: 42 :: 29 :: 4 :: 96 :: 46 :: 182 :: 0 :: 46 :: 87 :: 167 :: 6 :: 149 :: 43 :: 42 :: 29 :: 4 :: 96 :: 46 :: 42 :: 29 :: 5 :: 96 :: sxL_law_597
noncomputable def sxL_law_548 : List UInt8 := 29 :: 4 :: 96 :: 46 :: 42 :: 29 :: 5 :: 96 :: 46 :: 182 :: 0 :: 41 :: 87 :: 167 :: 6 :: 172 :: 43 :: 42 :: 29 :: 4 :: 96 :: 46 :: 182 :: 0 :: 42 :: sxL_law_573
noncomputable def sxL_law_524 : List UInt8 := 182 :: 0 :: 37 :: 87 :: 167 :: 6 :: 205 :: 43 :: 42 :: 29 :: 4 :: 96 :: 46 :: 42 :: 29 :: 5 :: 96 :: 46 :: 182 :: 0 :: 38 :: 87 :: 44 :: 42 :: sxL_law_548
noncomputable def sxL_law_500 : List UInt8 := 29 :: 4 :: 96 :: 46 :: 42 :: 29 :: 5 :: 96 :: 46 :: 42 :: 29 :: 6 :: 96 :: 46 :: 42 :: 29 :: 7 :: 96 :: 46 :: 42 :: 29 :: 8 :: 96 :: 46 :: sxL_law_524
noncomputable def sxL_law_476 : List UInt8 := 5 :: 96 :: 46 :: 42 :: 29 :: 6 :: 96 :: 46 :: 42 :: 29 :: 7 :: 96 :: 46 :: 42 :: 29 :: 8 :: 96 :: 46 :: 182 :: 0 :: 33 :: 87 :: 44 :: 42 :: sxL_law_500
noncomputable def sxL_law_452 : List UInt8 := 8 :: 96 :: 46 :: 42 :: 29 :: 16 :: 6 :: 96 :: 46 :: 182 :: 0 :: 32 :: 87 :: 167 :: 7 :: 12 :: 43 :: 42 :: 29 :: 4 :: 96 :: 46 :: 42 :: 29 :: sxL_law_476
noncomputable def sxL_law_428 : List UInt8 := 87 :: 44 :: 42 :: 29 :: 4 :: 96 :: 46 :: 42 :: 29 :: 5 :: 96 :: 46 :: 42 :: 29 :: 6 :: 96 :: 46 :: 42 :: 29 :: 7 :: 96 :: 46 :: 42 :: 29 :: sxL_law_452
noncomputable def sxL_law_404 : List UInt8 := 42 :: 29 :: 6 :: 96 :: 46 :: 42 :: 29 :: 7 :: 96 :: 46 :: 42 :: 29 :: 8 :: 96 :: 46 :: 42 :: 29 :: 16 :: 6 :: 96 :: 46 :: 182 :: 0 :: 28 :: sxL_law_428
noncomputable def sxL_law_380 : List UInt8 := 46 :: 42 :: 29 :: 5 :: 96 :: 46 :: 182 :: 0 :: 27 :: 87 :: 167 :: 7 :: 87 :: 43 :: 42 :: 29 :: 4 :: 96 :: 46 :: 42 :: 29 :: 5 :: 96 :: 46 :: sxL_law_404
noncomputable def sxL_law_356 : List UInt8 := 87 :: 167 :: 7 :: 120 :: 43 :: 42 :: 29 :: 4 :: 96 :: 46 :: 42 :: 29 :: 5 :: 96 :: 46 :: 182 :: 0 :: 23 :: 87 :: 44 :: 42 :: 29 :: 4 :: 96 :: sxL_law_380
noncomputable def sxL_law_332 : List UInt8 := 44 :: 42 :: 29 :: 4 :: 96 :: 46 :: 42 :: 29 :: 5 :: 96 :: 46 :: 42 :: 29 :: 6 :: 96 :: 46 :: 42 :: 29 :: 7 :: 96 :: 46 :: 182 :: 0 :: 22 :: sxL_law_356
noncomputable def sxL_law_308 : List UInt8 := 42 :: 29 :: 4 :: 96 :: 46 :: 42 :: 29 :: 5 :: 96 :: 46 :: 42 :: 29 :: 6 :: 96 :: 46 :: 42 :: 29 :: 7 :: 96 :: 46 :: 182 :: 0 :: 18 :: 87 :: sxL_law_332
noncomputable def sxL_law_284 : List UInt8 := 43 :: 42 :: 29 :: 4 :: 96 :: 46 :: 182 :: 0 :: 13 :: 87 :: 44 :: 42 :: 29 :: 4 :: 96 :: 46 :: 182 :: 0 :: 17 :: 87 :: 167 :: 7 :: 173 :: 43 :: sxL_law_308
set_option maxRecDepth 100000 in
noncomputable def sxL_law_24 : List UInt8 := 163 :: 8 :: 203 :: 42 :: 29 :: 46 :: 16 :: 63 :: 126 :: 170 :: 0 :: 0 :: 0 :: 0 :: 8 :: 188 :: 0 :: 0 :: 0 :: 0 :: 0 :: 0 :: 0 :: 58 :: 0 :: 0 :: 0 :: 251 :: 0 :: 0 :: 1 :: 18 :: 0 :: 0 :: 1 :: 71 :: 0 :: 0 :: 1 :: 104 :: 0 :: 0 :: 1 :: 179 :: 0 :: 0 :: 1 :: 242 :: 0 :: 0 :: 2 :: 19 :: 0 :: 0 :: 2 :: 42 :: 0 :: 0 :: 2 :: 75 :: 0 :: 0 :: 2 :: 98 :: 0 :: 0 :: 2 :: 131 :: 0 :: 0 :: 2 :: 154 :: 0 :: 0 :: 2 :: 187 :: 0 :: 0 :: 2 :: 230 :: 0 :: 0 :: 2 :: 253 :: 0 :: 0 :: 3 :: 20 :: 0 :: 0 :: 3 :: 53 :: 0 :: 0 :: 3 :: 66 :: 0 :: 0 :: 3 :: 119 :: 0 :: 0 :: 3 :: 142 :: 0 :: 0 :: 3 :: 175 :: 0 :: 0 :: 3 :: 218 :: 0 :: 0 :: 3 :: 251 :: 0 :: 0 :: 4 :: 28 :: 0 :: 0 :: 4 :: 61 :: 0 :: 0 :: 4 :: 94 :: 0 :: 0 :: 4 :: 127 :: 0 :: 0 :: 4 :: 150 :: 0 :: 0 :: 4 :: 183 :: 0 :: 0 :: 4 :: 216 :: 0 :: 0 :: 4 :: 249 :: 0 :: 0 :: 5 :: 26 :: 0 :: 0 :: 5 :: 59 :: 0 :: 0 :: 5 :: 92 :: 0 :: 0 :: 5 :: 135 :: 0 :: 0 :: 5 :: 168 :: 0 :: 0 :: 5 :: 191 :: 0 :: 0 :: 5 :: 250 :: 0 :: 0 :: 6 :: 37 :: 0 :: 0 :: 6 :: 90 :: 0 :: 0 :: 6 :: 123 :: 0 :: 0 :: 6 :: 156 :: 0 :: 0 :: 6 :: 169 :: 0 :: 0 :: 6 :: 212 :: 0 :: 0 :: 6 :: 245 :: 0 :: 0 :: 7 :: 12 :: 0 :: 0 :: 7 :: 45 :: 0 :: 0 :: 7 :: 78 :: 0 :: 0 :: 7 :: 111 :: 0 :: 0 :: 7 :: 154 :: 0 :: 0 :: 7 :: 177 :: 0 :: 0 :: 7 :: 210 :: 0 :: 0 :: 7 :: 233 :: 0 :: 0 :: 8 :: 10 :: 0 :: 0 :: 8 :: 53 :: 0 :: 0 :: 8 :: 86 :: 0 :: 0 :: 8 :: 109 :: 0 :: 0 :: 8 :: 132 :: 0 :: 0 :: 8 :: 165 :: sxL_law_284
set_option maxRecDepth 100000 in
theorem shL_law_0 : code.data.toList.drop 0 = 187 :: 0 :: 7 :: 89 :: 183 :: 0 :: 9 :: 76 :: 187 :: 0 :: 10 :: 89 :: 183 :: 0 :: 12 :: 77 :: 3 :: 62 :: 29 :: 42 :: 190 :: 16 :: 7 :: 100 :: sxL_law_24 := rfl
set_option maxRecDepth 100000 in
theorem shL_law_24 : code.data.toList.drop 24 = 163 :: 8 :: 203 :: 42 :: 29 :: 46 :: 16 :: 63 :: 126 :: 170 :: 0 :: 0 :: 0 :: 0 :: 8 :: 188 :: 0 :: 0 :: 0 :: 0 :: 0 :: 0 :: 0 :: 58 :: 0 :: 0 :: 0 :: 251 :: 0 :: 0 :: 1 :: 18 :: 0 :: 0 :: 1 :: 71 :: 0 :: 0 :: 1 :: 104 :: 0 :: 0 :: 1 :: 179 :: 0 :: 0 :: 1 :: 242 :: 0 :: 0 :: 2 :: 19 :: 0 :: 0 :: 2 :: 42 :: 0 :: 0 :: 2 :: 75 :: 0 :: 0 :: 2 :: 98 :: 0 :: 0 :: 2 :: 131 :: 0 :: 0 :: 2 :: 154 :: 0 :: 0 :: 2 :: 187 :: 0 :: 0 :: 2 :: 230 :: 0 :: 0 :: 2 :: 253 :: 0 :: 0 :: 3 :: 20 :: 0 :: 0 :: 3 :: 53 :: 0 :: 0 :: 3 :: 66 :: 0 :: 0 :: 3 :: 119 :: 0 :: 0 :: 3 :: 142 :: 0 :: 0 :: 3 :: 175 :: 0 :: 0 :: 3 :: 218 :: 0 :: 0 :: 3 :: 251 :: 0 :: 0 :: 4 :: 28 :: 0 :: 0 :: 4 :: 61 :: 0 :: 0 :: 4 :: 94 :: 0 :: 0 :: 4 :: 127 :: 0 :: 0 :: 4 :: 150 :: 0 :: 0 :: 4 :: 183 :: 0 :: 0 :: 4 :: 216 :: 0 :: 0 :: 4 :: 249 :: 0 :: 0 :: 5 :: 26 :: 0 :: 0 :: 5 :: 59 :: 0 :: 0 :: 5 :: 92 :: 0 :: 0 :: 5 :: 135 :: 0 :: 0 :: 5 :: 168 :: 0 :: 0 :: 5 :: 191 :: 0 :: 0 :: 5 :: 250 :: 0 :: 0 :: 6 :: 37 :: 0 :: 0 :: 6 :: 90 :: 0 :: 0 :: 6 :: 123 :: 0 :: 0 :: 6 :: 156 :: 0 :: 0 :: 6 :: 169 :: 0 :: 0 :: 6 :: 212 :: 0 :: 0 :: 6 :: 245 :: 0 :: 0 :: 7 :: 12 :: 0 :: 0 :: 7 :: 45 :: 0 :: 0 :: 7 :: 78 :: 0 :: 0 :: 7 :: 111 :: 0 :: 0 :: 7 :: 154 :: 0 :: 0 :: 7 :: 177 :: 0 :: 0 :: 7 :: 210 :: 0 :: 0 :: 7 :: 233 :: 0 :: 0 :: 8 :: 10 :: 0 :: 0 :: 8 :: 53 :: 0 :: 0 :: 8 :: 86 :: 0 :: 0 :: 8 :: 109 :: 0 :: 0 :: 8 :: 132 :: 0 :: 0 :: 8 :: 165 :: sxL_law_284 := aq_24 shL_law_0
theorem shL_law_284 : code.data.toList.drop 284 = 43 :: 42 :: 29 :: 4 :: 96 :: 46 :: 182 :: 0 :: 13 :: 87 :: 44 :: 42 :: 29 :: 4 :: 96 :: 46 :: 182 :: 0 :: 17 :: 87 :: 167 :: 7 :: 173 :: 43 :: sxL_law_308 := dSn 260 shL_law_24
theorem shL_law_308 : code.data.toList.drop 308 = 42 :: 29 :: 4 :: 96 :: 46 :: 42 :: 29 :: 5 :: 96 :: 46 :: 42 :: 29 :: 6 :: 96 :: 46 :: 42 :: 29 :: 7 :: 96 :: 46 :: 182 :: 0 :: 18 :: 87 :: sxL_law_332 := aq_24 shL_law_284
theorem shL_law_332 : code.data.toList.drop 332 = 44 :: 42 :: 29 :: 4 :: 96 :: 46 :: 42 :: 29 :: 5 :: 96 :: 46 :: 42 :: 29 :: 6 :: 96 :: 46 :: 42 :: 29 :: 7 :: 96 :: 46 :: 182 :: 0 :: 22 :: sxL_law_356 := aq_24 shL_law_308
theorem shL_law_356 : code.data.toList.drop 356 = 87 :: 167 :: 7 :: 120 :: 43 :: 42 :: 29 :: 4 :: 96 :: 46 :: 42 :: 29 :: 5 :: 96 :: 46 :: 182 :: 0 :: 23 :: 87 :: 44 :: 42 :: 29 :: 4 :: 96 :: sxL_law_380 := aq_24 shL_law_332
theorem shL_law_380 : code.data.toList.drop 380 = 46 :: 42 :: 29 :: 5 :: 96 :: 46 :: 182 :: 0 :: 27 :: 87 :: 167 :: 7 :: 87 :: 43 :: 42 :: 29 :: 4 :: 96 :: 46 :: 42 :: 29 :: 5 :: 96 :: 46 :: sxL_law_404 := aq_24 shL_law_356
theorem shL_law_404 : code.data.toList.drop 404 = 42 :: 29 :: 6 :: 96 :: 46 :: 42 :: 29 :: 7 :: 96 :: 46 :: 42 :: 29 :: 8 :: 96 :: 46 :: 42 :: 29 :: 16 :: 6 :: 96 :: 46 :: 182 :: 0 :: 28 :: sxL_law_428 := aq_24 shL_law_380
theorem shL_law_428 : code.data.toList.drop 428 = 87 :: 44 :: 42 :: 29 :: 4 :: 96 :: 46 :: 42 :: 29 :: 5 :: 96 :: 46 :: 42 :: 29 :: 6 :: 96 :: 46 :: 42 :: 29 :: 7 :: 96 :: 46 :: 42 :: 29 :: sxL_law_452 := aq_24 shL_law_404
theorem shL_law_452 : code.data.toList.drop 452 = 8 :: 96 :: 46 :: 42 :: 29 :: 16 :: 6 :: 96 :: 46 :: 182 :: 0 :: 32 :: 87 :: 167 :: 7 :: 12 :: 43 :: 42 :: 29 :: 4 :: 96 :: 46 :: 42 :: 29 :: sxL_law_476 := aq_24 shL_law_428
theorem shL_law_476 : code.data.toList.drop 476 = 5 :: 96 :: 46 :: 42 :: 29 :: 6 :: 96 :: 46 :: 42 :: 29 :: 7 :: 96 :: 46 :: 42 :: 29 :: 8 :: 96 :: 46 :: 182 :: 0 :: 33 :: 87 :: 44 :: 42 :: sxL_law_500 := aq_24 shL_law_452
theorem shL_law_500 : code.data.toList.drop 500 = 29 :: 4 :: 96 :: 46 :: 42 :: 29 :: 5 :: 96 :: 46 :: 42 :: 29 :: 6 :: 96 :: 46 :: 42 :: 29 :: 7 :: 96 :: 46 :: 42 :: 29 :: 8 :: 96 :: 46 :: sxL_law_524 := aq_24 shL_law_476
theorem shL_law_524 : code.data.toList.drop 524 = 182 :: 0 :: 37 :: 87 :: 167 :: 6 :: 205 :: 43 :: 42 :: 29 :: 4 :: 96 :: 46 :: 42 :: 29 :: 5 :: 96 :: 46 :: 182 :: 0 :: 38 :: 87 :: 44 :: 42 :: sxL_law_548 := aq_24 shL_law_500
theorem shL_law_548 : code.data.toList.drop 548 = 29 :: 4 :: 96 :: 46 :: 42 :: 29 :: 5 :: 96 :: 46 :: 182 :: 0 :: 41 :: 87 :: 167 :: 6 :: 172 :: 43 :: 42 :: 29 :: 4 :: 96 :: 46 :: 182 :: 0 :: 42 :: sxL_law_573 := aq_24 shL_law_524
theorem shL_law_573 : code.data.toList.drop 573 = 87 :: 44 :: 42 :: 29 :: 4 :: 96 :: 46 :: 182 :: 0 :: 46 :: 87 :: 167 :: 6 :: 149 :: 43 :: 42 :: 29 :: 4 :: 96 :: 46 :: 42 :: 29 :: 5 :: 96 :: sxL_law_597 := aq_25 shL_law_548
theorem shL_law_597 : code.data.toList.drop 597 = 46 :: 182 :: 0 :: 47 :: 87 :: 44 :: 42 :: 29 :: 4 :: 96 :: 46 :: 42 :: 29 :: 5 :: 96 :: 46 :: 182 :: 0 :: 51 :: 87 :: 167 :: 6 :: 116 :: 43 :: sxL_law_621 := aq_24 shL_law_573
theorem shL_law_621 : code.data.toList.drop 621 = 42 :: 29 :: 4 :: 96 :: 46 :: 182 :: 0 :: 52 :: 87 :: 44 :: 42 :: 29 :: 4 :: 96 :: 46 :: 182 :: 0 :: 55 :: 87 :: 167 :: 6 :: 93 :: 43 :: 42 :: sxL_law_645 := aq_24 shL_law_597
theorem shL_law_645 : code.data.toList.drop 645 = 29 :: 4 :: 96 :: 46 :: 42 :: 29 :: 5 :: 96 :: 46 :: 182 :: 0 :: 56 :: 87 :: 44 :: 42 :: 29 :: 4 :: 96 :: 46 :: 42 :: 29 :: 5 :: 96 :: 46 :: sxL_law_669 := aq_24 shL_law_621
theorem shL_law_669 : code.data.toList.drop 669 = 182 :: 0 :: 59 :: 87 :: 167 :: 6 :: 60 :: 43 :: 42 :: 29 :: 4 :: 96 :: 46 :: 182 :: 0 :: 60 :: 87 :: 44 :: 42 :: 29 :: 4 :: 96 :: 46 :: 182 :: 0 :: 63 :: sxL_law_695 := aq_24 shL_law_645
theorem shL_law_695 : code.data.toList.drop 695 = 87 :: 167 :: 6 :: 37 :: 43 :: 42 :: 29 :: 4 :: 96 :: 46 :: 42 :: 29 :: 5 :: 96 :: 46 :: 182 :: 0 :: 64 :: 88 :: 44 :: 42 :: 29 :: 4 :: 96 :: sxL_law_719 := aq_26 shL_law_669
theorem shL_law_719 : code.data.toList.drop 719 = 46 :: 42 :: 29 :: 5 :: 96 :: 46 :: 182 :: 0 :: 68 :: 88 :: 167 :: 6 :: 4 :: 43 :: 42 :: 29 :: 4 :: 96 :: 46 :: 42 :: 29 :: 5 :: 96 :: 46 :: sxL_law_743 := aq_24 shL_law_695
theorem shL_law_743 : code.data.toList.drop 743 = 42 :: 29 :: 6 :: 96 :: 46 :: 182 :: 0 :: 69 :: 87 :: 44 :: 42 :: 29 :: 4 :: 96 :: 46 :: 42 :: 29 :: 5 :: 96 :: 46 :: 42 :: 29 :: 6 :: 96 :: sxL_law_767 := aq_24 shL_law_719
theorem shL_law_767 : code.data.toList.drop 767 = 46 :: 182 :: 0 :: 73 :: 87 :: 167 :: 5 :: 217 :: 43 :: 42 :: 29 :: 4 :: 96 :: 46 :: 182 :: 0 :: 74 :: 87 :: 44 :: 42 :: 29 :: 4 :: 96 :: 46 :: sxL_law_791 := aq_24 shL_law_743
theorem shL_law_791 : code.data.toList.drop 791 = 182 :: 0 :: 77 :: 87 :: 167 :: 5 :: 194 :: 43 :: 42 :: 29 :: 4 :: 96 :: 46 :: 182 :: 0 :: 78 :: 87 :: 44 :: 42 :: 29 :: 4 :: 96 :: 46 :: 182 :: 0 :: 81 :: sxL_law_817 := aq_24 shL_law_767
theorem shL_law_817 : code.data.toList.drop 817 = 87 :: 167 :: 5 :: 171 :: 43 :: 42 :: 29 :: 4 :: 96 :: 46 :: 42 :: 29 :: 5 :: 96 :: 46 :: 182 :: 0 :: 82 :: 87 :: 44 :: 42 :: 29 :: 4 :: 96 :: sxL_law_841 := aq_26 shL_law_791
theorem shL_law_841 : code.data.toList.drop 841 = 46 :: 42 :: 29 :: 5 :: 96 :: 46 :: 182 :: 0 :: 85 :: 87 :: 167 :: 5 :: 138 :: 43 :: 182 :: 0 :: 86 :: 87 :: 44 :: 182 :: 0 :: 90 :: 87 :: 167 :: 5 :: 125 :: sxL_law_867 := aq_24 shL_law_817
theorem shL_law_867 : code.data.toList.drop 867 = 43 :: 42 :: 29 :: 4 :: 96 :: 46 :: 42 :: 29 :: 5 :: 96 :: 46 :: 42 :: 29 :: 6 :: 96 :: 46 :: 42 :: 29 :: 7 :: 96 :: 46 :: 182 :: 0 :: 91 :: sxL_law_891 := aq_26 shL_law_841
theorem shL_law_891 : code.data.toList.drop 891 = 87 :: 44 :: 42 :: 29 :: 4 :: 96 :: 46 :: 42 :: 29 :: 5 :: 96 :: 46 :: 42 :: 29 :: 6 :: 96 :: 46 :: 42 :: 29 :: 7 :: 96 :: 46 :: 182 :: 0 :: 94 :: sxL_law_916 := aq_24 shL_law_867
theorem shL_law_916 : code.data.toList.drop 916 = 87 :: 167 :: 5 :: 72 :: 43 :: 42 :: 29 :: 4 :: 96 :: 46 :: 182 :: 0 :: 95 :: 87 :: 44 :: 42 :: 29 :: 4 :: 96 :: 46 :: 182 :: 0 :: 98 :: 87 :: sxL_law_940 := aq_25 shL_law_891
theorem shL_law_940 : code.data.toList.drop 940 = 167 :: 5 :: 49 :: 43 :: 42 :: 29 :: 4 :: 96 :: 46 :: 42 :: 29 :: 5 :: 96 :: 46 :: 182 :: 0 :: 99 :: 87 :: 44 :: 42 :: 29 :: 4 :: 96 :: 46 :: sxL_law_964 := aq_24 shL_law_916
theorem shL_law_964 : code.data.toList.drop 964 = 42 :: 29 :: 5 :: 96 :: 46 :: 182 :: 0 :: 102 :: 87 :: 167 :: 5 :: 16 :: 43 :: 42 :: 29 :: 4 :: 96 :: 46 :: 42 :: 29 :: 5 :: 96 :: 46 :: 42 :: sxL_law_988 := aq_24 shL_law_940
theorem shL_law_988 : code.data.toList.drop 988 = 29 :: 6 :: 96 :: 46 :: 182 :: 0 :: 103 :: 87 :: 44 :: 42 :: 29 :: 4 :: 96 :: 46 :: 42 :: 29 :: 5 :: 96 :: 46 :: 42 :: 29 :: 6 :: 96 :: 46 :: sxL_law_1012 := aq_24 shL_law_964
theorem shL_law_1012 : code.data.toList.drop 1012 = 182 :: 0 :: 107 :: 87 :: 167 :: 4 :: 229 :: 43 :: 42 :: 29 :: 4 :: 96 :: 46 :: 42 :: 29 :: 5 :: 96 :: 46 :: 182 :: 0 :: 108 :: 87 :: 44 :: 42 :: sxL_law_1036 := aq_24 shL_law_988
theorem shL_law_1036 : code.data.toList.drop 1036 = 29 :: 4 :: 96 :: 46 :: 42 :: 29 :: 5 :: 96 :: 46 :: 182 :: 0 :: 111 :: 87 :: 167 :: 4 :: 196 :: 43 :: 42 :: 29 :: 4 :: 96 :: 46 :: 42 :: 29 :: sxL_law_1060 := aq_24 shL_law_1012
theorem shL_law_1060 : code.data.toList.drop 1060 = 5 :: 96 :: 46 :: 182 :: 0 :: 112 :: 87 :: 44 :: 42 :: 29 :: 4 :: 96 :: 46 :: 42 :: 29 :: 5 :: 96 :: 46 :: 182 :: 0 :: 115 :: 87 :: 167 :: 4 :: 163 :: sxL_law_1085 := aq_24 shL_law_1036
theorem shL_law_1085 : code.data.toList.drop 1085 = 43 :: 42 :: 29 :: 4 :: 96 :: 46 :: 42 :: 29 :: 5 :: 96 :: 46 :: 182 :: 0 :: 116 :: 87 :: 44 :: 42 :: 29 :: 4 :: 96 :: 46 :: 42 :: 29 :: 5 :: sxL_law_1109 := aq_25 shL_law_1060
theorem shL_law_1109 : code.data.toList.drop 1109 = 96 :: 46 :: 182 :: 0 :: 119 :: 87 :: 167 :: 4 :: 130 :: 43 :: 42 :: 29 :: 4 :: 96 :: 46 :: 42 :: 29 :: 5 :: 96 :: 46 :: 182 :: 0 :: 120 :: 87 :: sxL_law_1133 := aq_24 shL_law_1085
theorem shL_law_1133 : code.data.toList.drop 1133 = 44 :: 42 :: 29 :: 4 :: 96 :: 46 :: 42 :: 29 :: 5 :: 96 :: 46 :: 182 :: 0 :: 123 :: 87 :: 167 :: 4 :: 97 :: 43 :: 42 :: 29 :: 4 :: 96 :: 46 :: sxL_law_1157 := aq_24 shL_law_1109
theorem shL_law_1157 : code.data.toList.drop 1157 = 42 :: 29 :: 5 :: 96 :: 46 :: 182 :: 0 :: 124 :: 87 :: 44 :: 42 :: 29 :: 4 :: 96 :: 46 :: 42 :: 29 :: 5 :: 96 :: 46 :: 182 :: 0 :: 127 :: 87 :: sxL_law_1181 := aq_24 shL_law_1133
theorem shL_law_1181 : code.data.toList.drop 1181 = 167 :: 4 :: 64 :: 43 :: 42 :: 29 :: 4 :: 96 :: 46 :: 182 :: 0 :: 128 :: 87 :: 44 :: 42 :: 29 :: 4 :: 96 :: 46 :: 182 :: 0 :: 131 :: 87 :: 167 :: 4 :: 41 :: sxL_law_1207 := aq_24 shL_law_1157
theorem shL_law_1207 : code.data.toList.drop 1207 = 43 :: 42 :: 29 :: 4 :: 96 :: 46 :: 42 :: 29 :: 5 :: 96 :: 46 :: 182 :: 0 :: 132 :: 87 :: 44 :: 42 :: 29 :: 4 :: 96 :: 46 :: 42 :: 29 :: 5 :: sxL_law_1231 := aq_26 shL_law_1181
theorem shL_law_1231 : code.data.toList.drop 1231 = 96 :: 46 :: 182 :: 0 :: 135 :: 87 :: 167 :: 4 :: 8 :: 43 :: 42 :: 29 :: 4 :: 96 :: 46 :: 42 :: 29 :: 5 :: 96 :: 46 :: 182 :: 0 :: 136 :: 87 :: sxL_law_1255 := aq_24 shL_law_1207
theorem shL_law_1255 : code.data.toList.drop 1255 = 44 :: 42 :: 29 :: 4 :: 96 :: 46 :: 42 :: 29 :: 5 :: 96 :: 46 :: 182 :: 0 :: 139 :: 87 :: 167 :: 3 :: 231 :: 43 :: 42 :: 29 :: 4 :: 96 :: 46 :: sxL_law_1279 := aq_24 shL_law_1231
theorem shL_law_1279 : code.data.toList.drop 1279 = 42 :: 29 :: 5 :: 96 :: 46 :: 182 :: 0 :: 140 :: 87 :: 44 :: 42 :: 29 :: 4 :: 96 :: 46 :: 42 :: 29 :: 5 :: 96 :: 46 :: 182 :: 0 :: 143 :: 87 :: sxL_law_1303 := aq_24 shL_law_1255
theorem shL_law_1303 : code.data.toList.drop 1303 = 167 :: 3 :: 198 :: 43 :: 42 :: 29 :: 4 :: 96 :: 46 :: 42 :: 29 :: 5 :: 96 :: 46 :: 182 :: 0 :: 144 :: 87 :: 44 :: 42 :: 29 :: 4 :: 96 :: 46 :: sxL_law_1327 := aq_24 shL_law_1279
theorem shL_law_1327 : code.data.toList.drop 1327 = 42 :: 29 :: 5 :: 96 :: 46 :: 182 :: 0 :: 147 :: 87 :: 167 :: 3 :: 165 :: 43 :: 42 :: 29 :: 4 :: 96 :: 46 :: 42 :: 29 :: 5 :: 96 :: 46 :: 182 :: 0 :: 148 :: sxL_law_1353 := aq_24 shL_law_1303
theorem shL_law_1353 : code.data.toList.drop 1353 = 87 :: 44 :: 42 :: 29 :: 4 :: 96 :: 46 :: 42 :: 29 :: 5 :: 96 :: 46 :: 182 :: 0 :: 151 :: 87 :: 167 :: 3 :: 132 :: 43 :: 42 :: 29 :: 4 :: 96 :: sxL_law_1377 := aq_26 shL_law_1327
theorem shL_law_1377 : code.data.toList.drop 1377 = 46 :: 42 :: 29 :: 5 :: 96 :: 46 :: 182 :: 0 :: 152 :: 88 :: 44 :: 42 :: 29 :: 4 :: 96 :: 46 :: 42 :: 29 :: 5 :: 96 :: 46 :: 182 :: 0 :: 155 :: sxL_law_1401 := aq_24 shL_law_1353
theorem shL_law_1401 : code.data.toList.drop 1401 = 88 :: 167 :: 3 :: 99 :: 43 :: 42 :: 29 :: 4 :: 96 :: 46 :: 42 :: 29 :: 5 :: 96 :: 46 :: 42 :: 29 :: 6 :: 96 :: 46 :: 182 :: 0 :: 156 :: 88 :: sxL_law_1425 := aq_24 shL_law_1377
theorem shL_law_1425 : code.data.toList.drop 1425 = 44 :: 42 :: 29 :: 4 :: 96 :: 46 :: 42 :: 29 :: 5 :: 96 :: 46 :: 42 :: 29 :: 6 :: 96 :: 46 :: 182 :: 0 :: 160 :: 88 :: 167 :: 3 :: 56 :: 43 :: sxL_law_1449 := aq_24 shL_law_1401
theorem shL_law_1449 : code.data.toList.drop 1449 = 42 :: 29 :: 4 :: 96 :: 46 :: 42 :: 29 :: 5 :: 96 :: 46 :: 182 :: 0 :: 161 :: 87 :: 44 :: 42 :: 29 :: 4 :: 96 :: 46 :: 42 :: 29 :: 5 :: 96 :: sxL_law_1473 := aq_24 shL_law_1425
theorem shL_law_1473 : code.data.toList.drop 1473 = 46 :: 182 :: 0 :: 164 :: 87 :: 167 :: 3 :: 23 :: 43 :: 42 :: 29 :: 4 :: 96 :: 46 :: 182 :: 0 :: 165 :: 87 :: 44 :: 42 :: 29 :: 4 :: 96 :: 46 :: sxL_law_1497 := aq_24 shL_law_1449
theorem shL_law_1497 : code.data.toList.drop 1497 = 182 :: 0 :: 168 :: 87 :: 167 :: 3 :: 0 :: 43 :: 42 :: 29 :: 4 :: 96 :: 46 :: 42 :: 29 :: 5 :: 96 :: 46 :: 42 :: 29 :: 6 :: 96 :: 46 :: 153 :: 0 :: 7 :: sxL_law_1523 := aq_24 shL_law_1473
theorem shL_law_1523 : code.data.toList.drop 1523 = 4 :: 167 :: 0 :: 4 :: 3 :: 182 :: 0 :: 169 :: 87 :: 44 :: 42 :: 29 :: 4 :: 96 :: 46 :: 42 :: 29 :: 5 :: 96 :: 46 :: 42 :: 29 :: 6 :: 96 :: sxL_law_1547 := aq_26 shL_law_1497
theorem shL_law_1547 : code.data.toList.drop 1547 = 46 :: 153 :: 0 :: 7 :: 4 :: 167 :: 0 :: 4 :: 3 :: 182 :: 0 :: 173 :: 87 :: 167 :: 2 :: 197 :: 43 :: 42 :: 29 :: 4 :: 96 :: 46 :: 42 :: 29 :: sxL_law_1571 := aq_24 shL_law_1523
theorem shL_law_1571 : code.data.toList.drop 1571 = 5 :: 96 :: 46 :: 42 :: 29 :: 6 :: 96 :: 46 :: 182 :: 0 :: 174 :: 44 :: 42 :: 29 :: 4 :: 96 :: 46 :: 42 :: 29 :: 5 :: 96 :: 46 :: 42 :: 29 :: sxL_law_1595 := aq_24 shL_law_1547
theorem shL_law_1595 : code.data.toList.drop 1595 = 6 :: 96 :: 46 :: 182 :: 0 :: 177 :: 159 :: 2 :: 156 :: 3 :: 172 :: 43 :: 42 :: 29 :: 4 :: 96 :: 46 :: 42 :: 29 :: 5 :: 96 :: 46 :: 42 :: 29 :: sxL_law_1619 := aq_24 shL_law_1571
theorem shL_law_1619 : code.data.toList.drop 1619 = 6 :: 96 :: 46 :: 42 :: 29 :: 7 :: 96 :: 46 :: 182 :: 0 :: 178 :: 87 :: 44 :: 42 :: 29 :: 4 :: 96 :: 46 :: 42 :: 29 :: 5 :: 96 :: 46 :: 42 :: sxL_law_1643 := aq_24 shL_law_1595
theorem shL_law_1643 : code.data.toList.drop 1643 = 29 :: 6 :: 96 :: 46 :: 42 :: 29 :: 7 :: 96 :: 46 :: 182 :: 0 :: 181 :: 87 :: 167 :: 2 :: 101 :: 43 :: 42 :: 29 :: 4 :: 96 :: 46 :: 42 :: 29 :: sxL_law_1667 := aq_24 shL_law_1619
theorem shL_law_1667 : code.data.toList.drop 1667 = 5 :: 96 :: 46 :: 182 :: 0 :: 182 :: 87 :: 44 :: 42 :: 29 :: 4 :: 96 :: 46 :: 42 :: 29 :: 5 :: 96 :: 46 :: 182 :: 0 :: 185 :: 87 :: 167 :: 2 :: 68 :: sxL_law_1692 := aq_24 shL_law_1643
theorem shL_law_1692 : code.data.toList.drop 1692 = 43 :: 42 :: 29 :: 4 :: 96 :: 46 :: 42 :: 29 :: 5 :: 96 :: 46 :: 182 :: 0 :: 186 :: 87 :: 44 :: 42 :: 29 :: 4 :: 96 :: 46 :: 42 :: 29 :: 5 :: sxL_law_1716 := aq_25 shL_law_1667
theorem shL_law_1716 : code.data.toList.drop 1716 = 96 :: 46 :: 182 :: 0 :: 189 :: 87 :: 167 :: 2 :: 35 :: 43 :: 182 :: 0 :: 190 :: 87 :: 44 :: 182 :: 0 :: 193 :: 87 :: 167 :: 2 :: 22 :: 43 :: 42 :: sxL_law_1740 := aq_24 shL_law_1692
theorem shL_law_1740 : code.data.toList.drop 1740 = 29 :: 4 :: 96 :: 46 :: 42 :: 29 :: 5 :: 96 :: 46 :: 42 :: 29 :: 6 :: 96 :: 46 :: 182 :: 0 :: 194 :: 87 :: 44 :: 42 :: 29 :: 4 :: 96 :: 46 :: sxL_law_1764 := aq_24 shL_law_1716
theorem shL_law_1764 : code.data.toList.drop 1764 = 42 :: 29 :: 5 :: 96 :: 46 :: 42 :: 29 :: 6 :: 96 :: 46 :: 182 :: 0 :: 197 :: 87 :: 167 :: 1 :: 235 :: 43 :: 42 :: 29 :: 4 :: 96 :: 46 :: 42 :: sxL_law_1788 := aq_24 shL_law_1740
theorem shL_law_1788 : code.data.toList.drop 1788 = 29 :: 5 :: 96 :: 46 :: 182 :: 0 :: 198 :: 87 :: 44 :: 42 :: 29 :: 4 :: 96 :: 46 :: 42 :: 29 :: 5 :: 96 :: 46 :: 182 :: 0 :: 201 :: 87 :: 167 :: 1 :: 202 :: sxL_law_1814 := aq_24 shL_law_1764
theorem shL_law_1814 : code.data.toList.drop 1814 = 43 :: 42 :: 29 :: 4 :: 96 :: 46 :: 182 :: 0 :: 202 :: 87 :: 44 :: 42 :: 29 :: 4 :: 96 :: 46 :: 182 :: 0 :: 205 :: 87 :: 167 :: 1 :: 179 :: 43 :: sxL_law_1838 := aq_26 shL_law_1788
theorem shL_law_1838 : code.data.toList.drop 1838 = 42 :: 29 :: 4 :: 96 :: 46 :: 42 :: 29 :: 5 :: 96 :: 46 :: 182 :: 0 :: 206 :: 87 :: 44 :: 42 :: 29 :: 4 :: 96 :: 46 :: 42 :: 29 :: 5 :: 96 :: sxL_law_1862 := aq_24 shL_law_1814
theorem shL_law_1862 : code.data.toList.drop 1862 = 46 :: 182 :: 0 :: 209 :: 87 :: 167 :: 1 :: 146 :: 43 :: 42 :: 29 :: 4 :: 96 :: 46 :: 42 :: 29 :: 5 :: 96 :: 46 :: 182 :: 0 :: 210 :: 87 :: 44 :: sxL_law_1886 := aq_24 shL_law_1838
theorem shL_law_1886 : code.data.toList.drop 1886 = 42 :: 29 :: 4 :: 96 :: 46 :: 42 :: 29 :: 5 :: 96 :: 46 :: 182 :: 0 :: 213 :: 87 :: 167 :: 1 :: 113 :: 43 :: 42 :: 29 :: 4 :: 96 :: 46 :: 42 :: sxL_law_1910 := aq_24 shL_law_1862
theorem shL_law_1910 : code.data.toList.drop 1910 = 29 :: 5 :: 96 :: 46 :: 182 :: 0 :: 214 :: 87 :: 44 :: 42 :: 29 :: 4 :: 96 :: 46 :: 42 :: 29 :: 5 :: 96 :: 46 :: 182 :: 0 :: 217 :: 87 :: 167 :: 1 :: 80 :: sxL_law_1936 := aq_24 shL_law_1886
theorem shL_law_1936 : code.data.toList.drop 1936 = 43 :: 42 :: 29 :: 4 :: 96 :: 46 :: 42 :: 29 :: 5 :: 96 :: 46 :: 42 :: 29 :: 6 :: 96 :: 46 :: 182 :: 0 :: 218 :: 87 :: 44 :: 42 :: 29 :: 4 :: sxL_law_1960 := aq_26 shL_law_1910
theorem shL_law_1960 : code.data.toList.drop 1960 = 96 :: 46 :: 42 :: 29 :: 5 :: 96 :: 46 :: 42 :: 29 :: 6 :: 96 :: 46 :: 182 :: 0 :: 221 :: 87 :: 167 :: 1 :: 37 :: 43 :: 42 :: 29 :: 4 :: 96 :: sxL_law_1984 := aq_24 shL_law_1936
theorem shL_law_1984 : code.data.toList.drop 1984 = 46 :: 182 :: 0 :: 222 :: 87 :: 44 :: 42 :: 29 :: 4 :: 96 :: 46 :: 182 :: 0 :: 225 :: 87 :: 167 :: 1 :: 14 :: 43 :: 42 :: 29 :: 4 :: 96 :: 46 :: sxL_law_2008 := aq_24 shL_law_1960
theorem shL_law_2008 : code.data.toList.drop 2008 = 42 :: 29 :: 5 :: 96 :: 46 :: 182 :: 0 :: 226 :: 87 :: 44 :: 42 :: 29 :: 4 :: 96 :: 46 :: 42 :: 29 :: 5 :: 96 :: 46 :: 182 :: 0 :: 229 :: 87 :: sxL_law_2032 := aq_24 shL_law_1984
theorem shL_law_2032 : code.data.toList.drop 2032 = 167 :: 0 :: 237 :: 43 :: 42 :: 29 :: 4 :: 96 :: 46 :: 182 :: 0 :: 230 :: 87 :: 44 :: 42 :: 29 :: 4 :: 96 :: 46 :: 182 :: 0 :: 233 :: 87 :: 167 :: 0 :: 214 :: sxL_law_2058 := aq_24 shL_law_2008
theorem shL_law_2058 : code.data.toList.drop 2058 = 43 :: 42 :: 29 :: 4 :: 96 :: 46 :: 42 :: 29 :: 5 :: 96 :: 46 :: 182 :: 0 :: 234 :: 87 :: 44 :: 42 :: 29 :: 4 :: 96 :: 46 :: 42 :: 29 :: 5 :: sxL_law_2082 := aq_26 shL_law_2032
theorem shL_law_2082 : code.data.toList.drop 2082 = 96 :: 46 :: 182 :: 0 :: 237 :: 87 :: 167 :: 0 :: 181 :: 43 :: 42 :: 29 :: 4 :: 96 :: 46 :: 42 :: 29 :: 5 :: 96 :: 46 :: 42 :: 29 :: 6 :: 96 :: sxL_law_2106 := aq_24 shL_law_2058
theorem shL_law_2106 : code.data.toList.drop 2106 = 46 :: 182 :: 0 :: 238 :: 87 :: 44 :: 42 :: 29 :: 4 :: 96 :: 46 :: 42 :: 29 :: 5 :: 96 :: 46 :: 42 :: 29 :: 6 :: 96 :: 46 :: 182 :: 0 :: 241 :: sxL_law_2130 := aq_24 shL_law_2082
theorem shL_law_2130 : code.data.toList.drop 2130 = 87 :: 167 :: 0 :: 138 :: 43 :: 42 :: 29 :: 4 :: 96 :: 46 :: 42 :: 29 :: 5 :: 96 :: 46 :: 182 :: 0 :: 242 :: 87 :: 44 :: 42 :: 29 :: 4 :: 96 :: sxL_law_2154 := aq_24 shL_law_2106
theorem shL_law_2154 : code.data.toList.drop 2154 = 46 :: 42 :: 29 :: 5 :: 96 :: 46 :: 182 :: 0 :: 245 :: 87 :: 167 :: 0 :: 105 :: 43 :: 42 :: 29 :: 4 :: 96 :: 46 :: 182 :: 0 :: 246 :: 87 :: 44 :: sxL_law_2178 := aq_24 shL_law_2130
theorem shL_law_2178 : code.data.toList.drop 2178 = 42 :: 29 :: 4 :: 96 :: 46 :: 182 :: 0 :: 249 :: 87 :: 167 :: 0 :: 82 :: 43 :: 42 :: 29 :: 4 :: 96 :: 46 :: 182 :: 0 :: 250 :: 87 :: 44 :: 42 :: sxL_law_2202 := aq_24 shL_law_2154
theorem shL_law_2202 : code.data.toList.drop 2202 = 29 :: 4 :: 96 :: 46 :: 182 :: 0 :: 253 :: 87 :: 167 :: 0 :: 59 :: 43 :: 42 :: 29 :: 4 :: 96 :: 46 :: 42 :: 29 :: 5 :: 96 :: 46 :: 182 :: 0 :: 254 :: sxL_law_2227 := aq_24 shL_law_2178
theorem shL_law_2227 : code.data.toList.drop 2227 = 87 :: 44 :: 42 :: 29 :: 4 :: 96 :: 46 :: 42 :: 29 :: 5 :: 96 :: 46 :: 182 :: 1 :: 1 :: 87 :: 167 :: 0 :: 26 :: 43 :: 42 :: 29 :: 4 :: 96 :: sxL_law_2251 := aq_25 shL_law_2202
theorem shL_law_2251 : code.data.toList.drop 2251 = 46 :: 182 :: 1 :: 2 :: 87 :: 44 :: 42 :: 29 :: 4 :: 96 :: 46 :: 182 :: 1 :: 5 :: 87 :: 167 :: 0 :: 3 :: 132 :: 3 :: 7 :: 167 :: 247 :: 50 :: sxL_law_2275 := aq_24 shL_law_2227
theorem shL_law_2275 : code.data.toList.drop 2275 = 4 :: 172 :: sxL_law_2277 := aq_24 shL_law_2251
set_option maxRecDepth 100000 in
set_option maxHeartbeats 4000000 in
theorem lawc_0 {p : Program} {l : Launch} {e : Env} {s : State} {m : MethodId} {below : List Frame} {meth : Method} {c : Code} {b L : Nat} {xs : Nat → Int32} (C0 : lw_At p s m meth c b L xs) (hLN : L ≤ 3584) {A : Nat → Prop} (hA : ∀ q : Nat, s.heap.size ≤ q → A q) (hbA : ¬ A b) {D : va_G} {cI cB cZ : ClassId} {zz qq vv : Nat} {bt : Nat → Int32} {g g2 : Nat → Nat} (hK : KK D cI cB cZ s) (hXS : XS D zz qq vv bt A s s.heap) {ad : Nat → Nat → Nat} {cn : Nat → Nat} {In : Nat → Int32} {Fn : Nat → Nat → Int32} {c3 : Nat → Nat} {I3 : Nat → Int32} {F3 : Nat → Nat → Int32} (hI : IX ad cn Fn) (hM : IMM c3 F3) (hR : RR cn Fn c3 F3) {H : Heap} {locs : List Loc} (hP : va_P D vwCl (wX cI (D.1 99) zz g ad cn In Fn ++ wM cI cB cZ g2 c3 I3 F3) H) (hD : va_D A (wX cI (D.1 99) zz g ad cn In Fn ++ wM cI cB cZ g2 c3 I3 F3)) (hS : va_S A s.heap H locs) {K N i : Nat} (hi : i + 7 ≤ L) (hKN : K + 8 ≤ 600000 ∧ N + 240 ≤ 7302250) {ls : Array Slot} (hl : lv_has ls 4 [(0, .ref b), (1, .ref (g 0)), (2, .ref (g2 100)), (3, .int (nI i))]) (kk : ∀ (ad : Nat → Nat → Nat) (cn : Nat → Nat) (In : Nat → Int32) (Fn : Nat → Nat → Int32) (c3 : Nat → Nat) (I3 : Nat → Int32) (F3 : Nat → Nat → Int32) (H : Heap) (locs : List Loc), IX ad cn Fn → IMM c3 F3 → RR cn Fn c3 F3 → va_P D vwCl (wX cI (D.1 99) zz g ad cn In Fn ++ wM cI cB cZ g2 c3 I3 F3) H → va_D A (wX cI (D.1 99) zz g ad cn In Fn ++ wM cI cB cZ g2 c3 I3 F3) → va_S A s.heap H locs → ∀ ls : Array Slot, lv_has ls 4 [(0, .ref b), (1, .ref (g 0)), (2, .ref (g2 100)), (3, .int (nI i))] → W p l e room_1 s m #[Value.ref b] below meth c H locs (K + 8) (N + 240) (lw_Z below #[Value.ref b] s) (F0 m 2269 ls [])) : W p l e room_1 s m #[Value.ref b] below meth c H locs K N (lw_Z below #[Value.ref b] s) (F0 m 284 ls []) := by
  obtain ⟨hx, hb, hr, hml, hown, hts, hX, hbl, hlocks, hgv⟩ := id C0
  have S : SF p m c code 4 s #[Value.ref b] RL := ⟨hx, hb, hml, hown, fun w h => hts w (wT_lw h)⟩
  refine lv_aload_n hx hb (oc_43 284 shL_law_284) rfl (lvA1 hl) ?_
  refine lv_aload_n hx hb (oc_42 285 (aq_1 shL_law_284)) rfl (lvA0 hl) ?_
  refine lv_iload_n hx hb (oc_29 286 (aq_2 shL_law_284)) rfl (lvA3 hl) ?_
  refine lv_iconst (v := 1) hx hb (oc_4 287 (aq_3 shL_law_284)) kic_1 ?_
  refine lv_iadd hx hb (oc_96 288 (aq_4 shL_law_284)) ?_
  refine lv_topi (fun y_1 ey_1 => ?_)
  obtain rfl : y_1 = nI (i + 1) := ey_1.trans (nI_add i 1)
  refine va_sld hx hb hX hbl hbA hS (vp_in_nI (by omega) (by omega)) (oc_46 289 (aq_5 shL_law_284)) ?_
  refine lv_topi (fun y_2 ey_2 => ?_)
  obtain rfl : y_2 = xs (nI (i + 1)).toNatClampNeg := ey_2
  have hI0 := hI
  have hFc := free_all (exD hD) hS hA
  refine va_calli (runV_xa (As := [.int (xs (nI (i + 1)).toNatClampNeg)]) (rest := []) S (q_Xnow l D cI cB cZ zz qq vv bt g ad cn In Fn (xs (nI (i + 1)).toNatClampNeg) H.size hI.1) kV_RL_13 hK hXS hS hFc (exP hP) (exD hD) 0 xo_0 rfl rfl ⟨Nat.le_of_ble_eq_true rfl, Nat.le_of_ble_eq_true rfl⟩ ⟨(by show K + 0 ≤ 600000; omega), (by show N + 0 ≤ 7302250; omega)⟩ rfl hl.1 rfl (Nat.le_of_ble_eq_true rfl) (oc_182 290 (aq_6 shL_law_284) uw_0_13)) hS (fun q _ h => hFc q h) hFc (fun r2 u t H1 locs ht hvm w2 hB1 hz1 hk1 hS => ?_)
  obtain ⟨c2, I2, F2⟩ := u
  obtain ⟨hP1, hD1⟩ := hB1
  rw [ht] at hP1
  obtain ⟨hP, hD⟩ := exjoinL hP hD hk1 hFc hP1 hD1
  generalize H1 = H at hP hS ⊢
  have wx2 := w2
  have hI := ix_Xnow hI w2
  refine lv_pop hx hb (oc_87 293 (aq_9 shL_law_284)) rfl ?_
  refine lv_aload_n hx hb (oc_44 294 (aq_10 shL_law_284)) rfl (lvA2 hl) ?_
  refine lv_aload_n hx hb (oc_42 295 (aq_11 shL_law_284)) rfl (lvA0 hl) ?_
  refine lv_iload_n hx hb (oc_29 296 (aq_12 shL_law_284)) rfl (lvA3 hl) ?_
  refine lv_iconst (v := 1) hx hb (oc_4 297 (aq_13 shL_law_284)) kic_1 ?_
  refine lv_iadd hx hb (oc_96 298 (aq_14 shL_law_284)) ?_
  refine lv_topi (fun y_4 ey_4 => ?_)
  obtain rfl : y_4 = nI (i + 1) := ey_4.trans (nI_add i 1)
  refine va_sld hx hb hX hbl hbA hS (vp_in_nI (by omega) (by omega)) (oc_46 299 (aq_15 shL_law_284)) ?_
  refine lv_topi (fun y_5 ey_5 => ?_)
  obtain rfl : y_5 = xs (nI (i + 1)).toNatClampNeg := ey_5
  have hFc := free_all (exDr hD) hS hA
  refine va_calli (runV_a (As := [.int (xs (nI (i + 1)).toNatClampNeg)]) (rest := []) S (q_now l D cI cB cZ g2 c3 I3 F3 (xs (nI (i + 1)).toNatClampNeg) H.size hM.1) kV_RL_17 hK (exPr hP) (exDr hD) 0 rfl rfl rfl ⟨Nat.le_of_ble_eq_true rfl, Nat.le_of_ble_eq_true rfl⟩ ⟨(by show K + 0 ≤ 600000; omega), (by show N + 0 ≤ 7302250; omega)⟩ rfl hl.1 rfl (Nat.le_of_ble_eq_true rfl) (oc_182 300 (aq_16 shL_law_284) uw_0_17)) hS (fun q _ h => hFc q h) hFc (fun r5 u t H1 locs ht hvm w5 hB1 hz1 hk1 hS => ?_)
  obtain ⟨c5, I5, F5⟩ := u
  obtain ⟨hP1, hD1⟩ := hB1
  rw [ht] at hP1
  obtain ⟨hP, hD⟩ := exjoin hP hD hk1 hFc hP1 hD1
  generalize H1 = H at hP hS ⊢
  obtain ⟨he5, hR⟩ := eq_now hI0 hM hR wx2 w5
  obtain ⟨hM, -, -⟩ := imm_now hM w5
  refine lv_pop hx hb (oc_87 303 (aq_19 shL_law_284)) rfl ?_
  refine lv_goto (tgt := 2269) hx hb (oc_167 304 (aq_20 shL_law_284) sgw_7_173) rfl ?_
  refine W.widen (k := K + 8) (n := N + 240) (by omega) (by omega) ?_
  exact kk _ _ _ _ _ _ _ _ _ hI hM hR hP hD hS ls hl
set_option maxRecDepth 100000 in
set_option maxHeartbeats 4000000 in
theorem lawc_1 {p : Program} {l : Launch} {e : Env} {s : State} {m : MethodId} {below : List Frame} {meth : Method} {c : Code} {b L : Nat} {xs : Nat → Int32} (C0 : lw_At p s m meth c b L xs) (hLN : L ≤ 3584) {A : Nat → Prop} (hA : ∀ q : Nat, s.heap.size ≤ q → A q) (hbA : ¬ A b) {D : va_G} {cI cB cZ : ClassId} {zz qq vv : Nat} {bt : Nat → Int32} {g g2 : Nat → Nat} (hK : KK D cI cB cZ s) (hXS : XS D zz qq vv bt A s s.heap) {ad : Nat → Nat → Nat} {cn : Nat → Nat} {In : Nat → Int32} {Fn : Nat → Nat → Int32} {c3 : Nat → Nat} {I3 : Nat → Int32} {F3 : Nat → Nat → Int32} (hI : IX ad cn Fn) (hM : IMM c3 F3) (hR : RR cn Fn c3 F3) {H : Heap} {locs : List Loc} (hP : va_P D vwCl (wX cI (D.1 99) zz g ad cn In Fn ++ wM cI cB cZ g2 c3 I3 F3) H) (hD : va_D A (wX cI (D.1 99) zz g ad cn In Fn ++ wM cI cB cZ g2 c3 I3 F3)) (hS : va_S A s.heap H locs) {K N i : Nat} (hi : i + 7 ≤ L) (hKN : K + 8 ≤ 600000 ∧ N + 240 ≤ 7302250) {ls : Array Slot} (hl : lv_has ls 4 [(0, .ref b), (1, .ref (g 0)), (2, .ref (g2 100)), (3, .int (nI i))]) (kk : ∀ (ad : Nat → Nat → Nat) (cn : Nat → Nat) (In : Nat → Int32) (Fn : Nat → Nat → Int32) (c3 : Nat → Nat) (I3 : Nat → Int32) (F3 : Nat → Nat → Int32) (H : Heap) (locs : List Loc), IX ad cn Fn → IMM c3 F3 → RR cn Fn c3 F3 → va_P D vwCl (wX cI (D.1 99) zz g ad cn In Fn ++ wM cI cB cZ g2 c3 I3 F3) H → va_D A (wX cI (D.1 99) zz g ad cn In Fn ++ wM cI cB cZ g2 c3 I3 F3) → va_S A s.heap H locs → ∀ ls : Array Slot, lv_has ls 4 [(0, .ref b), (1, .ref (g 0)), (2, .ref (g2 100)), (3, .int (nI i))] → W p l e room_1 s m #[Value.ref b] below meth c H locs (K + 8) (N + 240) (lw_Z below #[Value.ref b] s) (F0 m 2269 ls [])) : W p l e room_1 s m #[Value.ref b] below meth c H locs K N (lw_Z below #[Value.ref b] s) (F0 m 307 ls []) := by
  obtain ⟨hx, hb, hr, hml, hown, hts, hX, hbl, hlocks, hgv⟩ := id C0
  have S : SF p m c code 4 s #[Value.ref b] RL := ⟨hx, hb, hml, hown, fun w h => hts w (wT_lw h)⟩
  refine lv_aload_n hx hb (oc_43 307 (aq_23 shL_law_284)) rfl (lvA1 hl) ?_
  refine lv_aload_n hx hb (oc_42 308 shL_law_308) rfl (lvA0 hl) ?_
  refine lv_iload_n hx hb (oc_29 309 (aq_1 shL_law_308)) rfl (lvA3 hl) ?_
  refine lv_iconst (v := 1) hx hb (oc_4 310 (aq_2 shL_law_308)) kic_1 ?_
  refine lv_iadd hx hb (oc_96 311 (aq_3 shL_law_308)) ?_
  refine lv_topi (fun y_1 ey_1 => ?_)
  obtain rfl : y_1 = nI (i + 1) := ey_1.trans (nI_add i 1)
  refine va_sld hx hb hX hbl hbA hS (vp_in_nI (by omega) (by omega)) (oc_46 312 (aq_4 shL_law_308)) ?_
  refine lv_topi (fun y_2 ey_2 => ?_)
  obtain rfl : y_2 = xs (nI (i + 1)).toNatClampNeg := ey_2
  refine lv_aload_n hx hb (oc_42 313 (aq_5 shL_law_308)) rfl (lvA0 hl) ?_
  refine lv_iload_n hx hb (oc_29 314 (aq_6 shL_law_308)) rfl (lvA3 hl) ?_
  refine lv_iconst (v := 2) hx hb (oc_5 315 (aq_7 shL_law_308)) kic_2 ?_
  refine lv_iadd hx hb (oc_96 316 (aq_8 shL_law_308)) ?_
  refine lv_topi (fun y_3 ey_3 => ?_)
  obtain rfl : y_3 = nI (i + 2) := ey_3.trans (nI_add i 2)
  refine va_sld hx hb hX hbl hbA hS (vp_in_nI (by omega) (by omega)) (oc_46 317 (aq_9 shL_law_308)) ?_
  refine lv_topi (fun y_4 ey_4 => ?_)
  obtain rfl : y_4 = xs (nI (i + 2)).toNatClampNeg := ey_4
  refine lv_aload_n hx hb (oc_42 318 (aq_10 shL_law_308)) rfl (lvA0 hl) ?_
  refine lv_iload_n hx hb (oc_29 319 (aq_11 shL_law_308)) rfl (lvA3 hl) ?_
  refine lv_iconst (v := 3) hx hb (oc_6 320 (aq_12 shL_law_308)) kic_3 ?_
  refine lv_iadd hx hb (oc_96 321 (aq_13 shL_law_308)) ?_
  refine lv_topi (fun y_5 ey_5 => ?_)
  obtain rfl : y_5 = nI (i + 3) := ey_5.trans (nI_add i 3)
  refine va_sld hx hb hX hbl hbA hS (vp_in_nI (by omega) (by omega)) (oc_46 322 (aq_14 shL_law_308)) ?_
  refine lv_topi (fun y_6 ey_6 => ?_)
  obtain rfl : y_6 = xs (nI (i + 3)).toNatClampNeg := ey_6
  refine lv_aload_n hx hb (oc_42 323 (aq_15 shL_law_308)) rfl (lvA0 hl) ?_
  refine lv_iload_n hx hb (oc_29 324 (aq_16 shL_law_308)) rfl (lvA3 hl) ?_
  refine lv_iconst (v := 4) hx hb (oc_7 325 (aq_17 shL_law_308)) kic_4 ?_
  refine lv_iadd hx hb (oc_96 326 (aq_18 shL_law_308)) ?_
  refine lv_topi (fun y_7 ey_7 => ?_)
  obtain rfl : y_7 = nI (i + 4) := ey_7.trans (nI_add i 4)
  refine va_sld hx hb hX hbl hbA hS (vp_in_nI (by omega) (by omega)) (oc_46 327 (aq_19 shL_law_308)) ?_
  refine lv_topi (fun y_8 ey_8 => ?_)
  obtain rfl : y_8 = xs (nI (i + 4)).toNatClampNeg := ey_8
  have hI0 := hI
  have hFc := free_all (exD hD) hS hA
  refine va_calli (runV_xa (As := [.int (xs (nI (i + 1)).toNatClampNeg), .int (xs (nI (i + 2)).toNatClampNeg), .int (xs (nI (i + 3)).toNatClampNeg), .int (xs (nI (i + 4)).toNatClampNeg)]) (rest := []) S (q_Xkitchen l D cI cB cZ zz qq vv bt g ad cn In Fn (xs (nI (i + 1)).toNatClampNeg) (xs (nI (i + 2)).toNatClampNeg) (xs (nI (i + 3)).toNatClampNeg) (xs (nI (i + 4)).toNatClampNeg) H.size hI.1 hI.2.1) kV_RL_18 hK hXS hS hFc (exP hP) (exD hD) 0 xo_0 rfl rfl ⟨Nat.le_of_ble_eq_true rfl, Nat.le_of_ble_eq_true rfl⟩ ⟨(by show K + 8 ≤ 600000; omega), (by show N + 188 ≤ 7302250; omega)⟩ rfl hl.1 rfl (Nat.le_of_ble_eq_true rfl) (oc_182 328 (aq_20 shL_law_308) uw_0_18)) hS (fun q _ h => hFc q h) hFc (fun r8 u t H1 locs ht hvm w8 hB1 hz1 hk1 hS => ?_)
  obtain ⟨a8, c8, I8, F8⟩ := u
  obtain ⟨hP1, hD1⟩ := hB1
  rw [ht] at hP1
  obtain ⟨hP, hD⟩ := exjoinL hP hD hk1 hFc hP1 hD1
  generalize H1 = H at hP hS ⊢
  have wx8 := w8
  obtain ⟨hI, -, -⟩ := ix_kitchen hI w8
  refine lv_pop hx hb (oc_87 331 (aq_23 shL_law_308)) rfl ?_
  refine lv_aload_n hx hb (oc_44 332 shL_law_332) rfl (lvA2 hl) ?_
  refine lv_aload_n hx hb (oc_42 333 (aq_1 shL_law_332)) rfl (lvA0 hl) ?_
  refine lv_iload_n hx hb (oc_29 334 (aq_2 shL_law_332)) rfl (lvA3 hl) ?_
  refine lv_iconst (v := 1) hx hb (oc_4 335 (aq_3 shL_law_332)) kic_1 ?_
  refine lv_iadd hx hb (oc_96 336 (aq_4 shL_law_332)) ?_
  refine lv_topi (fun y_10 ey_10 => ?_)
  obtain rfl : y_10 = nI (i + 1) := ey_10.trans (nI_add i 1)
  refine va_sld hx hb hX hbl hbA hS (vp_in_nI (by omega) (by omega)) (oc_46 337 (aq_5 shL_law_332)) ?_
  refine lv_topi (fun y_11 ey_11 => ?_)
  obtain rfl : y_11 = xs (nI (i + 1)).toNatClampNeg := ey_11
  refine lv_aload_n hx hb (oc_42 338 (aq_6 shL_law_332)) rfl (lvA0 hl) ?_
  refine lv_iload_n hx hb (oc_29 339 (aq_7 shL_law_332)) rfl (lvA3 hl) ?_
  refine lv_iconst (v := 2) hx hb (oc_5 340 (aq_8 shL_law_332)) kic_2 ?_
  refine lv_iadd hx hb (oc_96 341 (aq_9 shL_law_332)) ?_
  refine lv_topi (fun y_12 ey_12 => ?_)
  obtain rfl : y_12 = nI (i + 2) := ey_12.trans (nI_add i 2)
  refine va_sld hx hb hX hbl hbA hS (vp_in_nI (by omega) (by omega)) (oc_46 342 (aq_10 shL_law_332)) ?_
  refine lv_topi (fun y_13 ey_13 => ?_)
  obtain rfl : y_13 = xs (nI (i + 2)).toNatClampNeg := ey_13
  refine lv_aload_n hx hb (oc_42 343 (aq_11 shL_law_332)) rfl (lvA0 hl) ?_
  refine lv_iload_n hx hb (oc_29 344 (aq_12 shL_law_332)) rfl (lvA3 hl) ?_
  refine lv_iconst (v := 3) hx hb (oc_6 345 (aq_13 shL_law_332)) kic_3 ?_
  refine lv_iadd hx hb (oc_96 346 (aq_14 shL_law_332)) ?_
  refine lv_topi (fun y_14 ey_14 => ?_)
  obtain rfl : y_14 = nI (i + 3) := ey_14.trans (nI_add i 3)
  refine va_sld hx hb hX hbl hbA hS (vp_in_nI (by omega) (by omega)) (oc_46 347 (aq_15 shL_law_332)) ?_
  refine lv_topi (fun y_15 ey_15 => ?_)
  obtain rfl : y_15 = xs (nI (i + 3)).toNatClampNeg := ey_15
  refine lv_aload_n hx hb (oc_42 348 (aq_16 shL_law_332)) rfl (lvA0 hl) ?_
  refine lv_iload_n hx hb (oc_29 349 (aq_17 shL_law_332)) rfl (lvA3 hl) ?_
  refine lv_iconst (v := 4) hx hb (oc_7 350 (aq_18 shL_law_332)) kic_4 ?_
  refine lv_iadd hx hb (oc_96 351 (aq_19 shL_law_332)) ?_
  refine lv_topi (fun y_16 ey_16 => ?_)
  obtain rfl : y_16 = nI (i + 4) := ey_16.trans (nI_add i 4)
  refine va_sld hx hb hX hbl hbA hS (vp_in_nI (by omega) (by omega)) (oc_46 352 (aq_20 shL_law_332)) ?_
  refine lv_topi (fun y_17 ey_17 => ?_)
  obtain rfl : y_17 = xs (nI (i + 4)).toNatClampNeg := ey_17
  have hFc := free_all (exDr hD) hS hA
  refine va_calli (runV_a (As := [.int (xs (nI (i + 1)).toNatClampNeg), .int (xs (nI (i + 2)).toNatClampNeg), .int (xs (nI (i + 3)).toNatClampNeg), .int (xs (nI (i + 4)).toNatClampNeg)]) (rest := []) S (q_kitchen l D cI cB cZ g2 c3 I3 F3 (xs (nI (i + 1)).toNatClampNeg) (xs (nI (i + 2)).toNatClampNeg) (xs (nI (i + 3)).toNatClampNeg) (xs (nI (i + 4)).toNatClampNeg) H.size hM.1) kV_RL_22 hK (exPr hP) (exDr hD) 0 rfl rfl rfl ⟨Nat.le_of_ble_eq_true rfl, Nat.le_of_ble_eq_true rfl⟩ ⟨(by show K + 8 + 0 ≤ 600000; omega), (by show N + 188 + 0 ≤ 7302250; omega)⟩ rfl hl.1 rfl (Nat.le_of_ble_eq_true rfl) (oc_182 353 (aq_21 shL_law_332) uw_0_22)) hS (fun q _ h => hFc q h) hFc (fun r17 u t H1 locs ht hvm w17 hB1 hz1 hk1 hS => ?_)
  obtain ⟨c17, I17, F17⟩ := u
  obtain ⟨hP1, hD1⟩ := hB1
  rw [ht] at hP1
  obtain ⟨hP, hD⟩ := exjoin hP hD hk1 hFc hP1 hD1
  generalize H1 = H at hP hS ⊢
  obtain ⟨he17, hR⟩ := eq_kitchen hI0 hM hR wx8 w17
  obtain ⟨hM, -, -⟩ := imm_kitchen hM w17
  refine lv_pop hx hb (oc_87 356 shL_law_356) rfl ?_
  refine lv_goto (tgt := 2269) hx hb (oc_167 357 (aq_1 shL_law_356) sgw_7_120) rfl ?_
  refine W.widen (k := K + 8) (n := N + 240) (by omega) (by omega) ?_
  exact kk _ _ _ _ _ _ _ _ _ hI hM hR hP hD hS ls hl
set_option maxRecDepth 100000 in
set_option maxHeartbeats 4000000 in
theorem lawc_2 {p : Program} {l : Launch} {e : Env} {s : State} {m : MethodId} {below : List Frame} {meth : Method} {c : Code} {b L : Nat} {xs : Nat → Int32} (C0 : lw_At p s m meth c b L xs) (hLN : L ≤ 3584) {A : Nat → Prop} (hA : ∀ q : Nat, s.heap.size ≤ q → A q) (hbA : ¬ A b) {D : va_G} {cI cB cZ : ClassId} {zz qq vv : Nat} {bt : Nat → Int32} {g g2 : Nat → Nat} (hK : KK D cI cB cZ s) (hXS : XS D zz qq vv bt A s s.heap) {ad : Nat → Nat → Nat} {cn : Nat → Nat} {In : Nat → Int32} {Fn : Nat → Nat → Int32} {c3 : Nat → Nat} {I3 : Nat → Int32} {F3 : Nat → Nat → Int32} (hI : IX ad cn Fn) (hM : IMM c3 F3) (hR : RR cn Fn c3 F3) {H : Heap} {locs : List Loc} (hP : va_P D vwCl (wX cI (D.1 99) zz g ad cn In Fn ++ wM cI cB cZ g2 c3 I3 F3) H) (hD : va_D A (wX cI (D.1 99) zz g ad cn In Fn ++ wM cI cB cZ g2 c3 I3 F3)) (hS : va_S A s.heap H locs) {K N i : Nat} (hi : i + 7 ≤ L) (hKN : K + 8 ≤ 600000 ∧ N + 240 ≤ 7302250) {ls : Array Slot} (hl : lv_has ls 4 [(0, .ref b), (1, .ref (g 0)), (2, .ref (g2 100)), (3, .int (nI i))]) (kk : ∀ (ad : Nat → Nat → Nat) (cn : Nat → Nat) (In : Nat → Int32) (Fn : Nat → Nat → Int32) (c3 : Nat → Nat) (I3 : Nat → Int32) (F3 : Nat → Nat → Int32) (H : Heap) (locs : List Loc), IX ad cn Fn → IMM c3 F3 → RR cn Fn c3 F3 → va_P D vwCl (wX cI (D.1 99) zz g ad cn In Fn ++ wM cI cB cZ g2 c3 I3 F3) H → va_D A (wX cI (D.1 99) zz g ad cn In Fn ++ wM cI cB cZ g2 c3 I3 F3) → va_S A s.heap H locs → ∀ ls : Array Slot, lv_has ls 4 [(0, .ref b), (1, .ref (g 0)), (2, .ref (g2 100)), (3, .int (nI i))] → W p l e room_1 s m #[Value.ref b] below meth c H locs (K + 8) (N + 240) (lw_Z below #[Value.ref b] s) (F0 m 2269 ls [])) : W p l e room_1 s m #[Value.ref b] below meth c H locs K N (lw_Z below #[Value.ref b] s) (F0 m 360 ls []) := by
  obtain ⟨hx, hb, hr, hml, hown, hts, hX, hbl, hlocks, hgv⟩ := id C0
  have S : SF p m c code 4 s #[Value.ref b] RL := ⟨hx, hb, hml, hown, fun w h => hts w (wT_lw h)⟩
  refine lv_aload_n hx hb (oc_43 360 (aq_4 shL_law_356)) rfl (lvA1 hl) ?_
  refine lv_aload_n hx hb (oc_42 361 (aq_5 shL_law_356)) rfl (lvA0 hl) ?_
  refine lv_iload_n hx hb (oc_29 362 (aq_6 shL_law_356)) rfl (lvA3 hl) ?_
  refine lv_iconst (v := 1) hx hb (oc_4 363 (aq_7 shL_law_356)) kic_1 ?_
  refine lv_iadd hx hb (oc_96 364 (aq_8 shL_law_356)) ?_
  refine lv_topi (fun y_1 ey_1 => ?_)
  obtain rfl : y_1 = nI (i + 1) := ey_1.trans (nI_add i 1)
  refine va_sld hx hb hX hbl hbA hS (vp_in_nI (by omega) (by omega)) (oc_46 365 (aq_9 shL_law_356)) ?_
  refine lv_topi (fun y_2 ey_2 => ?_)
  obtain rfl : y_2 = xs (nI (i + 1)).toNatClampNeg := ey_2
  refine lv_aload_n hx hb (oc_42 366 (aq_10 shL_law_356)) rfl (lvA0 hl) ?_
  refine lv_iload_n hx hb (oc_29 367 (aq_11 shL_law_356)) rfl (lvA3 hl) ?_
  refine lv_iconst (v := 2) hx hb (oc_5 368 (aq_12 shL_law_356)) kic_2 ?_
  refine lv_iadd hx hb (oc_96 369 (aq_13 shL_law_356)) ?_
  refine lv_topi (fun y_3 ey_3 => ?_)
  obtain rfl : y_3 = nI (i + 2) := ey_3.trans (nI_add i 2)
  refine va_sld hx hb hX hbl hbA hS (vp_in_nI (by omega) (by omega)) (oc_46 370 (aq_14 shL_law_356)) ?_
  refine lv_topi (fun y_4 ey_4 => ?_)
  obtain rfl : y_4 = xs (nI (i + 2)).toNatClampNeg := ey_4
  refine vp_callSi (runV_rxa (As := [.int (xs (nI (i + 1)).toNatClampNeg), .int (xs (nI (i + 2)).toNatClampNeg)]) (rest := []) S (q_Xlikely l D cI cB cZ zz qq vv bt g ad cn In Fn (xs (nI (i + 1)).toNatClampNeg) (xs (nI (i + 2)).toNatClampNeg) hI.1) kV_RL_23 hK hXS hS (exP hP) 0 xo_0 rfl rfl ⟨Nat.le_of_ble_eq_true rfl, Nat.le_of_ble_eq_true rfl⟩ ⟨(by show K + 0 ≤ 600000; omega), (by show N + 0 ≤ 7302250; omega)⟩ rfl hl.1 rfl (Nat.le_of_ble_eq_true rfl) (oc_182 371 (aq_15 shL_law_356) uw_0_23)) (fun r4 w4 => ?_)
  refine lv_pop hx hb (oc_87 374 (aq_18 shL_law_356)) rfl ?_
  refine lv_aload_n hx hb (oc_44 375 (aq_19 shL_law_356)) rfl (lvA2 hl) ?_
  refine lv_aload_n hx hb (oc_42 376 (aq_20 shL_law_356)) rfl (lvA0 hl) ?_
  refine lv_iload_n hx hb (oc_29 377 (aq_21 shL_law_356)) rfl (lvA3 hl) ?_
  refine lv_iconst (v := 1) hx hb (oc_4 378 (aq_22 shL_law_356)) kic_1 ?_
  refine lv_iadd hx hb (oc_96 379 (aq_23 shL_law_356)) ?_
  refine lv_topi (fun y_6 ey_6 => ?_)
  obtain rfl : y_6 = nI (i + 1) := ey_6.trans (nI_add i 1)
  refine va_sld hx hb hX hbl hbA hS (vp_in_nI (by omega) (by omega)) (oc_46 380 shL_law_380) ?_
  refine lv_topi (fun y_7 ey_7 => ?_)
  obtain rfl : y_7 = xs (nI (i + 1)).toNatClampNeg := ey_7
  refine lv_aload_n hx hb (oc_42 381 (aq_1 shL_law_380)) rfl (lvA0 hl) ?_
  refine lv_iload_n hx hb (oc_29 382 (aq_2 shL_law_380)) rfl (lvA3 hl) ?_
  refine lv_iconst (v := 2) hx hb (oc_5 383 (aq_3 shL_law_380)) kic_2 ?_
  refine lv_iadd hx hb (oc_96 384 (aq_4 shL_law_380)) ?_
  refine lv_topi (fun y_8 ey_8 => ?_)
  obtain rfl : y_8 = nI (i + 2) := ey_8.trans (nI_add i 2)
  refine va_sld hx hb hX hbl hbA hS (vp_in_nI (by omega) (by omega)) (oc_46 385 (aq_5 shL_law_380)) ?_
  refine lv_topi (fun y_9 ey_9 => ?_)
  obtain rfl : y_9 = xs (nI (i + 2)).toNatClampNeg := ey_9
  refine vp_callSi (runV_ra (As := [.int (xs (nI (i + 1)).toNatClampNeg), .int (xs (nI (i + 2)).toNatClampNeg)]) (rest := []) S (q_likely l D cI cB cZ g2 c3 I3 F3 (xs (nI (i + 1)).toNatClampNeg) (xs (nI (i + 2)).toNatClampNeg) hM.1) kV_RL_27 hK (exPr hP) 0 rfl rfl rfl ⟨Nat.le_of_ble_eq_true rfl, Nat.le_of_ble_eq_true rfl⟩ ⟨(by show K + 0 ≤ 600000; omega), (by show N + 0 ≤ 7302250; omega)⟩ rfl hl.1 rfl (Nat.le_of_ble_eq_true rfl) (oc_182 386 (aq_6 shL_law_380) uw_0_27)) (fun r9 w9 => ?_)
  refine lv_pop hx hb (oc_87 389 (aq_9 shL_law_380)) rfl ?_
  refine lv_goto (tgt := 2269) hx hb (oc_167 390 (aq_10 shL_law_380) sgw_7_87) rfl ?_
  refine W.widen (k := K + 8) (n := N + 240) (by omega) (by omega) ?_
  exact kk _ _ _ _ _ _ _ _ _ hI hM hR hP hD hS ls hl
set_option maxRecDepth 100000 in
set_option maxHeartbeats 4000000 in
theorem lawc_3 {p : Program} {l : Launch} {e : Env} {s : State} {m : MethodId} {below : List Frame} {meth : Method} {c : Code} {b L : Nat} {xs : Nat → Int32} (C0 : lw_At p s m meth c b L xs) (hLN : L ≤ 3584) {A : Nat → Prop} (hA : ∀ q : Nat, s.heap.size ≤ q → A q) (hbA : ¬ A b) {D : va_G} {cI cB cZ : ClassId} {zz qq vv : Nat} {bt : Nat → Int32} {g g2 : Nat → Nat} (hK : KK D cI cB cZ s) (hXS : XS D zz qq vv bt A s s.heap) {ad : Nat → Nat → Nat} {cn : Nat → Nat} {In : Nat → Int32} {Fn : Nat → Nat → Int32} {c3 : Nat → Nat} {I3 : Nat → Int32} {F3 : Nat → Nat → Int32} (hI : IX ad cn Fn) (hM : IMM c3 F3) (hR : RR cn Fn c3 F3) {H : Heap} {locs : List Loc} (hP : va_P D vwCl (wX cI (D.1 99) zz g ad cn In Fn ++ wM cI cB cZ g2 c3 I3 F3) H) (hD : va_D A (wX cI (D.1 99) zz g ad cn In Fn ++ wM cI cB cZ g2 c3 I3 F3)) (hS : va_S A s.heap H locs) {K N i : Nat} (hi : i + 7 ≤ L) (hKN : K + 8 ≤ 600000 ∧ N + 240 ≤ 7302250) {ls : Array Slot} (hl : lv_has ls 4 [(0, .ref b), (1, .ref (g 0)), (2, .ref (g2 100)), (3, .int (nI i))]) (kk : ∀ (ad : Nat → Nat → Nat) (cn : Nat → Nat) (In : Nat → Int32) (Fn : Nat → Nat → Int32) (c3 : Nat → Nat) (I3 : Nat → Int32) (F3 : Nat → Nat → Int32) (H : Heap) (locs : List Loc), IX ad cn Fn → IMM c3 F3 → RR cn Fn c3 F3 → va_P D vwCl (wX cI (D.1 99) zz g ad cn In Fn ++ wM cI cB cZ g2 c3 I3 F3) H → va_D A (wX cI (D.1 99) zz g ad cn In Fn ++ wM cI cB cZ g2 c3 I3 F3) → va_S A s.heap H locs → ∀ ls : Array Slot, lv_has ls 4 [(0, .ref b), (1, .ref (g 0)), (2, .ref (g2 100)), (3, .int (nI i))] → W p l e room_1 s m #[Value.ref b] below meth c H locs (K + 8) (N + 240) (lw_Z below #[Value.ref b] s) (F0 m 2269 ls [])) : W p l e room_1 s m #[Value.ref b] below meth c H locs K N (lw_Z below #[Value.ref b] s) (F0 m 393 ls []) := by
  obtain ⟨hx, hb, hr, hml, hown, hts, hX, hbl, hlocks, hgv⟩ := id C0
  have S : SF p m c code 4 s #[Value.ref b] RL := ⟨hx, hb, hml, hown, fun w h => hts w (wT_lw h)⟩
  refine lv_aload_n hx hb (oc_43 393 (aq_13 shL_law_380)) rfl (lvA1 hl) ?_
  refine lv_aload_n hx hb (oc_42 394 (aq_14 shL_law_380)) rfl (lvA0 hl) ?_
  refine lv_iload_n hx hb (oc_29 395 (aq_15 shL_law_380)) rfl (lvA3 hl) ?_
  refine lv_iconst (v := 1) hx hb (oc_4 396 (aq_16 shL_law_380)) kic_1 ?_
  refine lv_iadd hx hb (oc_96 397 (aq_17 shL_law_380)) ?_
  refine lv_topi (fun y_1 ey_1 => ?_)
  obtain rfl : y_1 = nI (i + 1) := ey_1.trans (nI_add i 1)
  refine va_sld hx hb hX hbl hbA hS (vp_in_nI (by omega) (by omega)) (oc_46 398 (aq_18 shL_law_380)) ?_
  refine lv_topi (fun y_2 ey_2 => ?_)
  obtain rfl : y_2 = xs (nI (i + 1)).toNatClampNeg := ey_2
  refine lv_aload_n hx hb (oc_42 399 (aq_19 shL_law_380)) rfl (lvA0 hl) ?_
  refine lv_iload_n hx hb (oc_29 400 (aq_20 shL_law_380)) rfl (lvA3 hl) ?_
  refine lv_iconst (v := 2) hx hb (oc_5 401 (aq_21 shL_law_380)) kic_2 ?_
  refine lv_iadd hx hb (oc_96 402 (aq_22 shL_law_380)) ?_
  refine lv_topi (fun y_3 ey_3 => ?_)
  obtain rfl : y_3 = nI (i + 2) := ey_3.trans (nI_add i 2)
  refine va_sld hx hb hX hbl hbA hS (vp_in_nI (by omega) (by omega)) (oc_46 403 (aq_23 shL_law_380)) ?_
  refine lv_topi (fun y_4 ey_4 => ?_)
  obtain rfl : y_4 = xs (nI (i + 2)).toNatClampNeg := ey_4
  refine lv_aload_n hx hb (oc_42 404 shL_law_404) rfl (lvA0 hl) ?_
  refine lv_iload_n hx hb (oc_29 405 (aq_1 shL_law_404)) rfl (lvA3 hl) ?_
  refine lv_iconst (v := 3) hx hb (oc_6 406 (aq_2 shL_law_404)) kic_3 ?_
  refine lv_iadd hx hb (oc_96 407 (aq_3 shL_law_404)) ?_
  refine lv_topi (fun y_5 ey_5 => ?_)
  obtain rfl : y_5 = nI (i + 3) := ey_5.trans (nI_add i 3)
  refine va_sld hx hb hX hbl hbA hS (vp_in_nI (by omega) (by omega)) (oc_46 408 (aq_4 shL_law_404)) ?_
  refine lv_topi (fun y_6 ey_6 => ?_)
  obtain rfl : y_6 = xs (nI (i + 3)).toNatClampNeg := ey_6
  refine lv_aload_n hx hb (oc_42 409 (aq_5 shL_law_404)) rfl (lvA0 hl) ?_
  refine lv_iload_n hx hb (oc_29 410 (aq_6 shL_law_404)) rfl (lvA3 hl) ?_
  refine lv_iconst (v := 4) hx hb (oc_7 411 (aq_7 shL_law_404)) kic_4 ?_
  refine lv_iadd hx hb (oc_96 412 (aq_8 shL_law_404)) ?_
  refine lv_topi (fun y_7 ey_7 => ?_)
  obtain rfl : y_7 = nI (i + 4) := ey_7.trans (nI_add i 4)
  refine va_sld hx hb hX hbl hbA hS (vp_in_nI (by omega) (by omega)) (oc_46 413 (aq_9 shL_law_404)) ?_
  refine lv_topi (fun y_8 ey_8 => ?_)
  obtain rfl : y_8 = xs (nI (i + 4)).toNatClampNeg := ey_8
  refine lv_aload_n hx hb (oc_42 414 (aq_10 shL_law_404)) rfl (lvA0 hl) ?_
  refine lv_iload_n hx hb (oc_29 415 (aq_11 shL_law_404)) rfl (lvA3 hl) ?_
  refine lv_iconst (v := 5) hx hb (oc_8 416 (aq_12 shL_law_404)) kic_5 ?_
  refine lv_iadd hx hb (oc_96 417 (aq_13 shL_law_404)) ?_
  refine lv_topi (fun y_9 ey_9 => ?_)
  obtain rfl : y_9 = nI (i + 5) := ey_9.trans (nI_add i 5)
  refine va_sld hx hb hX hbl hbA hS (vp_in_nI (by omega) (by omega)) (oc_46 418 (aq_14 shL_law_404)) ?_
  refine lv_topi (fun y_10 ey_10 => ?_)
  obtain rfl : y_10 = xs (nI (i + 5)).toNatClampNeg := ey_10
  refine lv_aload_n hx hb (oc_42 419 (aq_15 shL_law_404)) rfl (lvA0 hl) ?_
  refine lv_iload_n hx hb (oc_29 420 (aq_16 shL_law_404)) rfl (lvA3 hl) ?_
  refine lv_bipush (v := 6) hx hb (oc_16 421 (aq_17 shL_law_404) sgb_6) kbc_6 ?_
  refine lv_iadd hx hb (oc_96 423 (aq_19 shL_law_404)) ?_
  refine lv_topi (fun y_11 ey_11 => ?_)
  obtain rfl : y_11 = nI (i + 6) := ey_11.trans (nI_add i 6)
  refine va_sld hx hb hX hbl hbA hS (vp_in_nI (by omega) (by omega)) (oc_46 424 (aq_20 shL_law_404)) ?_
  refine lv_topi (fun y_12 ey_12 => ?_)
  obtain rfl : y_12 = xs (nI (i + 6)).toNatClampNeg := ey_12
  have hI0 := hI
  have hFc := free_all (exD hD) hS hA
  refine va_calli (runV_xa (As := [.int (xs (nI (i + 1)).toNatClampNeg), .int (xs (nI (i + 2)).toNatClampNeg), .int (xs (nI (i + 3)).toNatClampNeg), .int (xs (nI (i + 4)).toNatClampNeg), .int (xs (nI (i + 5)).toNatClampNeg), .int (xs (nI (i + 6)).toNatClampNeg)]) (rest := []) S (q_Efetch l D cI cB cZ zz qq vv bt g ad cn In Fn (xs (nI (i + 1)).toNatClampNeg) (xs (nI (i + 2)).toNatClampNeg) (xs (nI (i + 3)).toNatClampNeg) (xs (nI (i + 4)).toNatClampNeg) (xs (nI (i + 5)).toNatClampNeg) (xs (nI (i + 6)).toNatClampNeg) H.size hI.1) kV_RL_28 hK hXS hS hFc (exP hP) (exD hD) 0 xo_0 rfl rfl ⟨Nat.le_of_ble_eq_true rfl, Nat.le_of_ble_eq_true rfl⟩ ⟨(by show K + 2 ≤ 600000; omega), (by show N + 110 ≤ 7302250; omega)⟩ rfl hl.1 rfl (Nat.le_of_ble_eq_true rfl) (oc_182 425 (aq_21 shL_law_404) uw_0_28)) hS (fun q _ h => hFc q h) hFc (fun r12 u t H1 locs ht hvm w12 hB1 hz1 hk1 hS => ?_)
  obtain ⟨a12, c12, I12, F12⟩ := u
  obtain ⟨hP1, hD1⟩ := hB1
  rw [ht] at hP1
  obtain ⟨hP, hD⟩ := exjoinL hP hD hk1 hFc hP1 hD1
  generalize H1 = H at hP hS ⊢
  have wx12 := w12
  obtain ⟨hI, -, -⟩ := ix_Efetch hI w12
  refine lv_pop hx hb (oc_87 428 shL_law_428) rfl ?_
  refine lv_aload_n hx hb (oc_44 429 (aq_1 shL_law_428)) rfl (lvA2 hl) ?_
  refine lv_aload_n hx hb (oc_42 430 (aq_2 shL_law_428)) rfl (lvA0 hl) ?_
  refine lv_iload_n hx hb (oc_29 431 (aq_3 shL_law_428)) rfl (lvA3 hl) ?_
  refine lv_iconst (v := 1) hx hb (oc_4 432 (aq_4 shL_law_428)) kic_1 ?_
  refine lv_iadd hx hb (oc_96 433 (aq_5 shL_law_428)) ?_
  refine lv_topi (fun y_14 ey_14 => ?_)
  obtain rfl : y_14 = nI (i + 1) := ey_14.trans (nI_add i 1)
  refine va_sld hx hb hX hbl hbA hS (vp_in_nI (by omega) (by omega)) (oc_46 434 (aq_6 shL_law_428)) ?_
  refine lv_topi (fun y_15 ey_15 => ?_)
  obtain rfl : y_15 = xs (nI (i + 1)).toNatClampNeg := ey_15
  refine lv_aload_n hx hb (oc_42 435 (aq_7 shL_law_428)) rfl (lvA0 hl) ?_
  refine lv_iload_n hx hb (oc_29 436 (aq_8 shL_law_428)) rfl (lvA3 hl) ?_
  refine lv_iconst (v := 2) hx hb (oc_5 437 (aq_9 shL_law_428)) kic_2 ?_
  refine lv_iadd hx hb (oc_96 438 (aq_10 shL_law_428)) ?_
  refine lv_topi (fun y_16 ey_16 => ?_)
  obtain rfl : y_16 = nI (i + 2) := ey_16.trans (nI_add i 2)
  refine va_sld hx hb hX hbl hbA hS (vp_in_nI (by omega) (by omega)) (oc_46 439 (aq_11 shL_law_428)) ?_
  refine lv_topi (fun y_17 ey_17 => ?_)
  obtain rfl : y_17 = xs (nI (i + 2)).toNatClampNeg := ey_17
  refine lv_aload_n hx hb (oc_42 440 (aq_12 shL_law_428)) rfl (lvA0 hl) ?_
  refine lv_iload_n hx hb (oc_29 441 (aq_13 shL_law_428)) rfl (lvA3 hl) ?_
  refine lv_iconst (v := 3) hx hb (oc_6 442 (aq_14 shL_law_428)) kic_3 ?_
  refine lv_iadd hx hb (oc_96 443 (aq_15 shL_law_428)) ?_
  refine lv_topi (fun y_18 ey_18 => ?_)
  obtain rfl : y_18 = nI (i + 3) := ey_18.trans (nI_add i 3)
  refine va_sld hx hb hX hbl hbA hS (vp_in_nI (by omega) (by omega)) (oc_46 444 (aq_16 shL_law_428)) ?_
  refine lv_topi (fun y_19 ey_19 => ?_)
  obtain rfl : y_19 = xs (nI (i + 3)).toNatClampNeg := ey_19
  refine lv_aload_n hx hb (oc_42 445 (aq_17 shL_law_428)) rfl (lvA0 hl) ?_
  refine lv_iload_n hx hb (oc_29 446 (aq_18 shL_law_428)) rfl (lvA3 hl) ?_
  refine lv_iconst (v := 4) hx hb (oc_7 447 (aq_19 shL_law_428)) kic_4 ?_
  refine lv_iadd hx hb (oc_96 448 (aq_20 shL_law_428)) ?_
  refine lv_topi (fun y_20 ey_20 => ?_)
  obtain rfl : y_20 = nI (i + 4) := ey_20.trans (nI_add i 4)
  refine va_sld hx hb hX hbl hbA hS (vp_in_nI (by omega) (by omega)) (oc_46 449 (aq_21 shL_law_428)) ?_
  refine lv_topi (fun y_21 ey_21 => ?_)
  obtain rfl : y_21 = xs (nI (i + 4)).toNatClampNeg := ey_21
  refine lv_aload_n hx hb (oc_42 450 (aq_22 shL_law_428)) rfl (lvA0 hl) ?_
  refine lv_iload_n hx hb (oc_29 451 (aq_23 shL_law_428)) rfl (lvA3 hl) ?_
  refine lv_iconst (v := 5) hx hb (oc_8 452 shL_law_452) kic_5 ?_
  refine lv_iadd hx hb (oc_96 453 (aq_1 shL_law_452)) ?_
  refine lv_topi (fun y_22 ey_22 => ?_)
  obtain rfl : y_22 = nI (i + 5) := ey_22.trans (nI_add i 5)
  refine va_sld hx hb hX hbl hbA hS (vp_in_nI (by omega) (by omega)) (oc_46 454 (aq_2 shL_law_452)) ?_
  refine lv_topi (fun y_23 ey_23 => ?_)
  obtain rfl : y_23 = xs (nI (i + 5)).toNatClampNeg := ey_23
  refine lv_aload_n hx hb (oc_42 455 (aq_3 shL_law_452)) rfl (lvA0 hl) ?_
  refine lv_iload_n hx hb (oc_29 456 (aq_4 shL_law_452)) rfl (lvA3 hl) ?_
  refine lv_bipush (v := 6) hx hb (oc_16 457 (aq_5 shL_law_452) sgb_6) kbc_6 ?_
  refine lv_iadd hx hb (oc_96 459 (aq_7 shL_law_452)) ?_
  refine lv_topi (fun y_24 ey_24 => ?_)
  obtain rfl : y_24 = nI (i + 6) := ey_24.trans (nI_add i 6)
  refine va_sld hx hb hX hbl hbA hS (vp_in_nI (by omega) (by omega)) (oc_46 460 (aq_8 shL_law_452)) ?_
  refine lv_topi (fun y_25 ey_25 => ?_)
  obtain rfl : y_25 = xs (nI (i + 6)).toNatClampNeg := ey_25
  have hFc := free_all (exDr hD) hS hA
  refine va_calli (runV_a (As := [.int (xs (nI (i + 1)).toNatClampNeg), .int (xs (nI (i + 2)).toNatClampNeg), .int (xs (nI (i + 3)).toNatClampNeg), .int (xs (nI (i + 4)).toNatClampNeg), .int (xs (nI (i + 5)).toNatClampNeg), .int (xs (nI (i + 6)).toNatClampNeg)]) (rest := []) S (q_fetch l D cI cB cZ g2 c3 I3 F3 (xs (nI (i + 1)).toNatClampNeg) (xs (nI (i + 2)).toNatClampNeg) (xs (nI (i + 3)).toNatClampNeg) (xs (nI (i + 4)).toNatClampNeg) (xs (nI (i + 5)).toNatClampNeg) (xs (nI (i + 6)).toNatClampNeg) H.size hM.1) kV_RL_32 hK (exPr hP) (exDr hD) 0 rfl rfl rfl ⟨Nat.le_of_ble_eq_true rfl, Nat.le_of_ble_eq_true rfl⟩ ⟨(by show K + 2 + 0 ≤ 600000; omega), (by show N + 110 + 0 ≤ 7302250; omega)⟩ rfl hl.1 rfl (Nat.le_of_ble_eq_true rfl) (oc_182 461 (aq_9 shL_law_452) uw_0_32)) hS (fun q _ h => hFc q h) hFc (fun r25 u t H1 locs ht hvm w25 hB1 hz1 hk1 hS => ?_)
  obtain ⟨c25, I25, F25⟩ := u
  obtain ⟨hP1, hD1⟩ := hB1
  rw [ht] at hP1
  obtain ⟨hP, hD⟩ := exjoin hP hD hk1 hFc hP1 hD1
  generalize H1 = H at hP hS ⊢
  obtain ⟨he25, hR⟩ := eq_fetch hI0 hM hR wx12 w25
  obtain ⟨hM, -, -⟩ := imm_fetch hM w25
  refine lv_pop hx hb (oc_87 464 (aq_12 shL_law_452)) rfl ?_
  refine lv_goto (tgt := 2269) hx hb (oc_167 465 (aq_13 shL_law_452) sgw_7_12) rfl ?_
  refine W.widen (k := K + 8) (n := N + 240) (by omega) (by omega) ?_
  exact kk _ _ _ _ _ _ _ _ _ hI hM hR hP hD hS ls hl
set_option maxRecDepth 100000 in
set_option maxHeartbeats 4000000 in
theorem lawc_4 {p : Program} {l : Launch} {e : Env} {s : State} {m : MethodId} {below : List Frame} {meth : Method} {c : Code} {b L : Nat} {xs : Nat → Int32} (C0 : lw_At p s m meth c b L xs) (hLN : L ≤ 3584) {A : Nat → Prop} (hA : ∀ q : Nat, s.heap.size ≤ q → A q) (hbA : ¬ A b) {D : va_G} {cI cB cZ : ClassId} {zz qq vv : Nat} {bt : Nat → Int32} {g g2 : Nat → Nat} (hK : KK D cI cB cZ s) (hXS : XS D zz qq vv bt A s s.heap) {ad : Nat → Nat → Nat} {cn : Nat → Nat} {In : Nat → Int32} {Fn : Nat → Nat → Int32} {c3 : Nat → Nat} {I3 : Nat → Int32} {F3 : Nat → Nat → Int32} (hI : IX ad cn Fn) (hM : IMM c3 F3) (hR : RR cn Fn c3 F3) {H : Heap} {locs : List Loc} (hP : va_P D vwCl (wX cI (D.1 99) zz g ad cn In Fn ++ wM cI cB cZ g2 c3 I3 F3) H) (hD : va_D A (wX cI (D.1 99) zz g ad cn In Fn ++ wM cI cB cZ g2 c3 I3 F3)) (hS : va_S A s.heap H locs) {K N i : Nat} (hi : i + 7 ≤ L) (hKN : K + 8 ≤ 600000 ∧ N + 240 ≤ 7302250) {ls : Array Slot} (hl : lv_has ls 4 [(0, .ref b), (1, .ref (g 0)), (2, .ref (g2 100)), (3, .int (nI i))]) (kk : ∀ (ad : Nat → Nat → Nat) (cn : Nat → Nat) (In : Nat → Int32) (Fn : Nat → Nat → Int32) (c3 : Nat → Nat) (I3 : Nat → Int32) (F3 : Nat → Nat → Int32) (H : Heap) (locs : List Loc), IX ad cn Fn → IMM c3 F3 → RR cn Fn c3 F3 → va_P D vwCl (wX cI (D.1 99) zz g ad cn In Fn ++ wM cI cB cZ g2 c3 I3 F3) H → va_D A (wX cI (D.1 99) zz g ad cn In Fn ++ wM cI cB cZ g2 c3 I3 F3) → va_S A s.heap H locs → ∀ ls : Array Slot, lv_has ls 4 [(0, .ref b), (1, .ref (g 0)), (2, .ref (g2 100)), (3, .int (nI i))] → W p l e room_1 s m #[Value.ref b] below meth c H locs (K + 8) (N + 240) (lw_Z below #[Value.ref b] s) (F0 m 2269 ls [])) : W p l e room_1 s m #[Value.ref b] below meth c H locs K N (lw_Z below #[Value.ref b] s) (F0 m 468 ls []) := by
  obtain ⟨hx, hb, hr, hml, hown, hts, hX, hbl, hlocks, hgv⟩ := id C0
  have S : SF p m c code 4 s #[Value.ref b] RL := ⟨hx, hb, hml, hown, fun w h => hts w (wT_lw h)⟩
  refine lv_aload_n hx hb (oc_43 468 (aq_16 shL_law_452)) rfl (lvA1 hl) ?_
  refine lv_aload_n hx hb (oc_42 469 (aq_17 shL_law_452)) rfl (lvA0 hl) ?_
  refine lv_iload_n hx hb (oc_29 470 (aq_18 shL_law_452)) rfl (lvA3 hl) ?_
  refine lv_iconst (v := 1) hx hb (oc_4 471 (aq_19 shL_law_452)) kic_1 ?_
  refine lv_iadd hx hb (oc_96 472 (aq_20 shL_law_452)) ?_
  refine lv_topi (fun y_1 ey_1 => ?_)
  obtain rfl : y_1 = nI (i + 1) := ey_1.trans (nI_add i 1)
  refine va_sld hx hb hX hbl hbA hS (vp_in_nI (by omega) (by omega)) (oc_46 473 (aq_21 shL_law_452)) ?_
  refine lv_topi (fun y_2 ey_2 => ?_)
  obtain rfl : y_2 = xs (nI (i + 1)).toNatClampNeg := ey_2
  refine lv_aload_n hx hb (oc_42 474 (aq_22 shL_law_452)) rfl (lvA0 hl) ?_
  refine lv_iload_n hx hb (oc_29 475 (aq_23 shL_law_452)) rfl (lvA3 hl) ?_
  refine lv_iconst (v := 2) hx hb (oc_5 476 shL_law_476) kic_2 ?_
  refine lv_iadd hx hb (oc_96 477 (aq_1 shL_law_476)) ?_
  refine lv_topi (fun y_3 ey_3 => ?_)
  obtain rfl : y_3 = nI (i + 2) := ey_3.trans (nI_add i 2)
  refine va_sld hx hb hX hbl hbA hS (vp_in_nI (by omega) (by omega)) (oc_46 478 (aq_2 shL_law_476)) ?_
  refine lv_topi (fun y_4 ey_4 => ?_)
  obtain rfl : y_4 = xs (nI (i + 2)).toNatClampNeg := ey_4
  refine lv_aload_n hx hb (oc_42 479 (aq_3 shL_law_476)) rfl (lvA0 hl) ?_
  refine lv_iload_n hx hb (oc_29 480 (aq_4 shL_law_476)) rfl (lvA3 hl) ?_
  refine lv_iconst (v := 3) hx hb (oc_6 481 (aq_5 shL_law_476)) kic_3 ?_
  refine lv_iadd hx hb (oc_96 482 (aq_6 shL_law_476)) ?_
  refine lv_topi (fun y_5 ey_5 => ?_)
  obtain rfl : y_5 = nI (i + 3) := ey_5.trans (nI_add i 3)
  refine va_sld hx hb hX hbl hbA hS (vp_in_nI (by omega) (by omega)) (oc_46 483 (aq_7 shL_law_476)) ?_
  refine lv_topi (fun y_6 ey_6 => ?_)
  obtain rfl : y_6 = xs (nI (i + 3)).toNatClampNeg := ey_6
  refine lv_aload_n hx hb (oc_42 484 (aq_8 shL_law_476)) rfl (lvA0 hl) ?_
  refine lv_iload_n hx hb (oc_29 485 (aq_9 shL_law_476)) rfl (lvA3 hl) ?_
  refine lv_iconst (v := 4) hx hb (oc_7 486 (aq_10 shL_law_476)) kic_4 ?_
  refine lv_iadd hx hb (oc_96 487 (aq_11 shL_law_476)) ?_
  refine lv_topi (fun y_7 ey_7 => ?_)
  obtain rfl : y_7 = nI (i + 4) := ey_7.trans (nI_add i 4)
  refine va_sld hx hb hX hbl hbA hS (vp_in_nI (by omega) (by omega)) (oc_46 488 (aq_12 shL_law_476)) ?_
  refine lv_topi (fun y_8 ey_8 => ?_)
  obtain rfl : y_8 = xs (nI (i + 4)).toNatClampNeg := ey_8
  refine lv_aload_n hx hb (oc_42 489 (aq_13 shL_law_476)) rfl (lvA0 hl) ?_
  refine lv_iload_n hx hb (oc_29 490 (aq_14 shL_law_476)) rfl (lvA3 hl) ?_
  refine lv_iconst (v := 5) hx hb (oc_8 491 (aq_15 shL_law_476)) kic_5 ?_
  refine lv_iadd hx hb (oc_96 492 (aq_16 shL_law_476)) ?_
  refine lv_topi (fun y_9 ey_9 => ?_)
  obtain rfl : y_9 = nI (i + 5) := ey_9.trans (nI_add i 5)
  refine va_sld hx hb hX hbl hbA hS (vp_in_nI (by omega) (by omega)) (oc_46 493 (aq_17 shL_law_476)) ?_
  refine lv_topi (fun y_10 ey_10 => ?_)
  obtain rfl : y_10 = xs (nI (i + 5)).toNatClampNeg := ey_10
  have hFc := free_all (exD hD) hS hA
  refine va_calli (runV_xa (As := [.int (xs (nI (i + 1)).toNatClampNeg), .int (xs (nI (i + 2)).toNatClampNeg), .int (xs (nI (i + 3)).toNatClampNeg), .int (xs (nI (i + 4)).toNatClampNeg), .int (xs (nI (i + 5)).toNatClampNeg)]) (rest := []) S (q_Xfeed l D cI cB cZ zz qq vv bt g ad cn In Fn (xs (nI (i + 1)).toNatClampNeg) (xs (nI (i + 2)).toNatClampNeg) (xs (nI (i + 3)).toNatClampNeg) (xs (nI (i + 4)).toNatClampNeg) (xs (nI (i + 5)).toNatClampNeg) H.size hI.1) kV_RL_33 hK hXS hS hFc (exP hP) (exD hD) 0 xo_0 rfl rfl ⟨Nat.le_of_ble_eq_true rfl, Nat.le_of_ble_eq_true rfl⟩ ⟨(by show K + 0 ≤ 600000; omega), (by show N + 0 ≤ 7302250; omega)⟩ rfl hl.1 rfl (Nat.le_of_ble_eq_true rfl) (oc_182 494 (aq_18 shL_law_476) uw_0_33)) hS (fun q _ h => hFc q h) hFc (fun r10 u t H1 locs ht hvm w10 hB1 hz1 hk1 hS => ?_)
  obtain ⟨c10, I10, F10⟩ := u
  obtain ⟨hP1, hD1⟩ := hB1
  rw [ht] at hP1
  obtain ⟨hP, hD⟩ := exjoinL hP hD hk1 hFc hP1 hD1
  generalize H1 = H at hP hS ⊢
  have hd10 := w10.1.1
  have hf10 := w10.1.2.2
  have hI := IX.fr hI w10.1 w10.2.1 (by decide) (by decide)
  have hR := RR.fx hR hd10 hf10 (by decide) (by decide)
  refine lv_pop hx hb (oc_87 497 (aq_21 shL_law_476)) rfl ?_
  refine lv_aload_n hx hb (oc_44 498 (aq_22 shL_law_476)) rfl (lvA2 hl) ?_
  refine lv_aload_n hx hb (oc_42 499 (aq_23 shL_law_476)) rfl (lvA0 hl) ?_
  refine lv_iload_n hx hb (oc_29 500 shL_law_500) rfl (lvA3 hl) ?_
  refine lv_iconst (v := 1) hx hb (oc_4 501 (aq_1 shL_law_500)) kic_1 ?_
  refine lv_iadd hx hb (oc_96 502 (aq_2 shL_law_500)) ?_
  refine lv_topi (fun y_12 ey_12 => ?_)
  obtain rfl : y_12 = nI (i + 1) := ey_12.trans (nI_add i 1)
  refine va_sld hx hb hX hbl hbA hS (vp_in_nI (by omega) (by omega)) (oc_46 503 (aq_3 shL_law_500)) ?_
  refine lv_topi (fun y_13 ey_13 => ?_)
  obtain rfl : y_13 = xs (nI (i + 1)).toNatClampNeg := ey_13
  refine lv_aload_n hx hb (oc_42 504 (aq_4 shL_law_500)) rfl (lvA0 hl) ?_
  refine lv_iload_n hx hb (oc_29 505 (aq_5 shL_law_500)) rfl (lvA3 hl) ?_
  refine lv_iconst (v := 2) hx hb (oc_5 506 (aq_6 shL_law_500)) kic_2 ?_
  refine lv_iadd hx hb (oc_96 507 (aq_7 shL_law_500)) ?_
  refine lv_topi (fun y_14 ey_14 => ?_)
  obtain rfl : y_14 = nI (i + 2) := ey_14.trans (nI_add i 2)
  refine va_sld hx hb hX hbl hbA hS (vp_in_nI (by omega) (by omega)) (oc_46 508 (aq_8 shL_law_500)) ?_
  refine lv_topi (fun y_15 ey_15 => ?_)
  obtain rfl : y_15 = xs (nI (i + 2)).toNatClampNeg := ey_15
  refine lv_aload_n hx hb (oc_42 509 (aq_9 shL_law_500)) rfl (lvA0 hl) ?_
  refine lv_iload_n hx hb (oc_29 510 (aq_10 shL_law_500)) rfl (lvA3 hl) ?_
  refine lv_iconst (v := 3) hx hb (oc_6 511 (aq_11 shL_law_500)) kic_3 ?_
  refine lv_iadd hx hb (oc_96 512 (aq_12 shL_law_500)) ?_
  refine lv_topi (fun y_16 ey_16 => ?_)
  obtain rfl : y_16 = nI (i + 3) := ey_16.trans (nI_add i 3)
  refine va_sld hx hb hX hbl hbA hS (vp_in_nI (by omega) (by omega)) (oc_46 513 (aq_13 shL_law_500)) ?_
  refine lv_topi (fun y_17 ey_17 => ?_)
  obtain rfl : y_17 = xs (nI (i + 3)).toNatClampNeg := ey_17
  refine lv_aload_n hx hb (oc_42 514 (aq_14 shL_law_500)) rfl (lvA0 hl) ?_
  refine lv_iload_n hx hb (oc_29 515 (aq_15 shL_law_500)) rfl (lvA3 hl) ?_
  refine lv_iconst (v := 4) hx hb (oc_7 516 (aq_16 shL_law_500)) kic_4 ?_
  refine lv_iadd hx hb (oc_96 517 (aq_17 shL_law_500)) ?_
  refine lv_topi (fun y_18 ey_18 => ?_)
  obtain rfl : y_18 = nI (i + 4) := ey_18.trans (nI_add i 4)
  refine va_sld hx hb hX hbl hbA hS (vp_in_nI (by omega) (by omega)) (oc_46 518 (aq_18 shL_law_500)) ?_
  refine lv_topi (fun y_19 ey_19 => ?_)
  obtain rfl : y_19 = xs (nI (i + 4)).toNatClampNeg := ey_19
  refine lv_aload_n hx hb (oc_42 519 (aq_19 shL_law_500)) rfl (lvA0 hl) ?_
  refine lv_iload_n hx hb (oc_29 520 (aq_20 shL_law_500)) rfl (lvA3 hl) ?_
  refine lv_iconst (v := 5) hx hb (oc_8 521 (aq_21 shL_law_500)) kic_5 ?_
  refine lv_iadd hx hb (oc_96 522 (aq_22 shL_law_500)) ?_
  refine lv_topi (fun y_20 ey_20 => ?_)
  obtain rfl : y_20 = nI (i + 5) := ey_20.trans (nI_add i 5)
  refine va_sld hx hb hX hbl hbA hS (vp_in_nI (by omega) (by omega)) (oc_46 523 (aq_23 shL_law_500)) ?_
  refine lv_topi (fun y_21 ey_21 => ?_)
  obtain rfl : y_21 = xs (nI (i + 5)).toNatClampNeg := ey_21
  have hFc := free_all (exDr hD) hS hA
  refine va_calli (runV_a (As := [.int (xs (nI (i + 1)).toNatClampNeg), .int (xs (nI (i + 2)).toNatClampNeg), .int (xs (nI (i + 3)).toNatClampNeg), .int (xs (nI (i + 4)).toNatClampNeg), .int (xs (nI (i + 5)).toNatClampNeg)]) (rest := []) S (q_feed l D cI cB cZ g2 c3 I3 F3 (xs (nI (i + 1)).toNatClampNeg) (xs (nI (i + 2)).toNatClampNeg) (xs (nI (i + 3)).toNatClampNeg) (xs (nI (i + 4)).toNatClampNeg) (xs (nI (i + 5)).toNatClampNeg) H.size hM.1 hM.2) kV_RL_37 hK (exPr hP) (exDr hD) 0 rfl rfl rfl ⟨Nat.le_of_ble_eq_true rfl, Nat.le_of_ble_eq_true rfl⟩ ⟨(by show K + 0 ≤ 600000; omega), (by show N + 0 ≤ 7302250; omega)⟩ rfl hl.1 rfl (Nat.le_of_ble_eq_true rfl) (oc_182 524 shL_law_524 uw_0_37)) hS (fun q _ h => hFc q h) hFc (fun r21 u t H1 locs ht hvm w21 hB1 hz1 hk1 hS => ?_)
  obtain ⟨c21, I21, F21⟩ := u
  obtain ⟨hP1, hD1⟩ := hB1
  rw [ht] at hP1
  obtain ⟨hP, hD⟩ := exjoin hP hD hk1 hFc hP1 hD1
  generalize H1 = H at hP hS ⊢
  obtain ⟨hM, hd21, hf21⟩ := imm_feed hM w21
  have hR := RR.fm hR hd21 hf21 (by decide) (by decide)
  refine lv_pop hx hb (oc_87 527 (aq_3 shL_law_524)) rfl ?_
  refine lv_goto (tgt := 2269) hx hb (oc_167 528 (aq_4 shL_law_524) sgw_6_205) rfl ?_
  refine W.widen (k := K + 8) (n := N + 240) (by omega) (by omega) ?_
  exact kk _ _ _ _ _ _ _ _ _ hI hM hR hP hD hS ls hl
set_option maxRecDepth 100000 in
set_option maxHeartbeats 4000000 in
theorem lawc_5 {p : Program} {l : Launch} {e : Env} {s : State} {m : MethodId} {below : List Frame} {meth : Method} {c : Code} {b L : Nat} {xs : Nat → Int32} (C0 : lw_At p s m meth c b L xs) (hLN : L ≤ 3584) {A : Nat → Prop} (hA : ∀ q : Nat, s.heap.size ≤ q → A q) (hbA : ¬ A b) {D : va_G} {cI cB cZ : ClassId} {zz qq vv : Nat} {bt : Nat → Int32} {g g2 : Nat → Nat} (hK : KK D cI cB cZ s) (hXS : XS D zz qq vv bt A s s.heap) {ad : Nat → Nat → Nat} {cn : Nat → Nat} {In : Nat → Int32} {Fn : Nat → Nat → Int32} {c3 : Nat → Nat} {I3 : Nat → Int32} {F3 : Nat → Nat → Int32} (hI : IX ad cn Fn) (hM : IMM c3 F3) (hR : RR cn Fn c3 F3) {H : Heap} {locs : List Loc} (hP : va_P D vwCl (wX cI (D.1 99) zz g ad cn In Fn ++ wM cI cB cZ g2 c3 I3 F3) H) (hD : va_D A (wX cI (D.1 99) zz g ad cn In Fn ++ wM cI cB cZ g2 c3 I3 F3)) (hS : va_S A s.heap H locs) {K N i : Nat} (hi : i + 7 ≤ L) (hKN : K + 8 ≤ 600000 ∧ N + 240 ≤ 7302250) {ls : Array Slot} (hl : lv_has ls 4 [(0, .ref b), (1, .ref (g 0)), (2, .ref (g2 100)), (3, .int (nI i))]) (kk : ∀ (ad : Nat → Nat → Nat) (cn : Nat → Nat) (In : Nat → Int32) (Fn : Nat → Nat → Int32) (c3 : Nat → Nat) (I3 : Nat → Int32) (F3 : Nat → Nat → Int32) (H : Heap) (locs : List Loc), IX ad cn Fn → IMM c3 F3 → RR cn Fn c3 F3 → va_P D vwCl (wX cI (D.1 99) zz g ad cn In Fn ++ wM cI cB cZ g2 c3 I3 F3) H → va_D A (wX cI (D.1 99) zz g ad cn In Fn ++ wM cI cB cZ g2 c3 I3 F3) → va_S A s.heap H locs → ∀ ls : Array Slot, lv_has ls 4 [(0, .ref b), (1, .ref (g 0)), (2, .ref (g2 100)), (3, .int (nI i))] → W p l e room_1 s m #[Value.ref b] below meth c H locs (K + 8) (N + 240) (lw_Z below #[Value.ref b] s) (F0 m 2269 ls [])) : W p l e room_1 s m #[Value.ref b] below meth c H locs K N (lw_Z below #[Value.ref b] s) (F0 m 531 ls []) := by
  obtain ⟨hx, hb, hr, hml, hown, hts, hX, hbl, hlocks, hgv⟩ := id C0
  have S : SF p m c code 4 s #[Value.ref b] RL := ⟨hx, hb, hml, hown, fun w h => hts w (wT_lw h)⟩
  refine lv_aload_n hx hb (oc_43 531 (aq_7 shL_law_524)) rfl (lvA1 hl) ?_
  refine lv_aload_n hx hb (oc_42 532 (aq_8 shL_law_524)) rfl (lvA0 hl) ?_
  refine lv_iload_n hx hb (oc_29 533 (aq_9 shL_law_524)) rfl (lvA3 hl) ?_
  refine lv_iconst (v := 1) hx hb (oc_4 534 (aq_10 shL_law_524)) kic_1 ?_
  refine lv_iadd hx hb (oc_96 535 (aq_11 shL_law_524)) ?_
  refine lv_topi (fun y_1 ey_1 => ?_)
  obtain rfl : y_1 = nI (i + 1) := ey_1.trans (nI_add i 1)
  refine va_sld hx hb hX hbl hbA hS (vp_in_nI (by omega) (by omega)) (oc_46 536 (aq_12 shL_law_524)) ?_
  refine lv_topi (fun y_2 ey_2 => ?_)
  obtain rfl : y_2 = xs (nI (i + 1)).toNatClampNeg := ey_2
  refine lv_aload_n hx hb (oc_42 537 (aq_13 shL_law_524)) rfl (lvA0 hl) ?_
  refine lv_iload_n hx hb (oc_29 538 (aq_14 shL_law_524)) rfl (lvA3 hl) ?_
  refine lv_iconst (v := 2) hx hb (oc_5 539 (aq_15 shL_law_524)) kic_2 ?_
  refine lv_iadd hx hb (oc_96 540 (aq_16 shL_law_524)) ?_
  refine lv_topi (fun y_3 ey_3 => ?_)
  obtain rfl : y_3 = nI (i + 2) := ey_3.trans (nI_add i 2)
  refine va_sld hx hb hX hbl hbA hS (vp_in_nI (by omega) (by omega)) (oc_46 541 (aq_17 shL_law_524)) ?_
  refine lv_topi (fun y_4 ey_4 => ?_)
  obtain rfl : y_4 = xs (nI (i + 2)).toNatClampNeg := ey_4
  have hFc := free_all (exD hD) hS hA
  refine va_calli (runV_xa (As := [.int (xs (nI (i + 1)).toNatClampNeg), .int (xs (nI (i + 2)).toNatClampNeg)]) (rest := []) S (q_Xcontract l D cI cB cZ zz qq vv bt g ad cn In Fn (xs (nI (i + 1)).toNatClampNeg) (xs (nI (i + 2)).toNatClampNeg) H.size hI.1 hI.2.1 hI.2.2.1 hI.2.2.2.1) kV_RL_38 hK hXS hS hFc (exP hP) (exD hD) 0 xo_0 rfl rfl ⟨Nat.le_of_ble_eq_true rfl, Nat.le_of_ble_eq_true rfl⟩ ⟨(by show K + 6 ≤ 600000; omega), (by show N + 237 ≤ 7302250; omega)⟩ rfl hl.1 rfl (Nat.le_of_ble_eq_true rfl) (oc_182 542 (aq_18 shL_law_524) uw_0_38)) hS (fun q _ h => hFc q h) hFc (fun r4 u t H1 locs ht hvm w4 hB1 hz1 hk1 hS => ?_)
  obtain ⟨a4, c4, I4, F4⟩ := u
  obtain ⟨hP1, hD1⟩ := hB1
  rw [ht] at hP1
  obtain ⟨hP, hD⟩ := exjoinL hP hD hk1 hFc hP1 hD1
  generalize H1 = H at hP hS ⊢
  obtain ⟨hI, hd4, hf4⟩ := ix_contract hI w4
  have hR := RR.fx hR hd4 hf4 (by decide) (by decide)
  refine lv_pop hx hb (oc_87 545 (aq_21 shL_law_524)) rfl ?_
  refine lv_aload_n hx hb (oc_44 546 (aq_22 shL_law_524)) rfl (lvA2 hl) ?_
  refine lv_aload_n hx hb (oc_42 547 (aq_23 shL_law_524)) rfl (lvA0 hl) ?_
  refine lv_iload_n hx hb (oc_29 548 shL_law_548) rfl (lvA3 hl) ?_
  refine lv_iconst (v := 1) hx hb (oc_4 549 (aq_1 shL_law_548)) kic_1 ?_
  refine lv_iadd hx hb (oc_96 550 (aq_2 shL_law_548)) ?_
  refine lv_topi (fun y_6 ey_6 => ?_)
  obtain rfl : y_6 = nI (i + 1) := ey_6.trans (nI_add i 1)
  refine va_sld hx hb hX hbl hbA hS (vp_in_nI (by omega) (by omega)) (oc_46 551 (aq_3 shL_law_548)) ?_
  refine lv_topi (fun y_7 ey_7 => ?_)
  obtain rfl : y_7 = xs (nI (i + 1)).toNatClampNeg := ey_7
  refine lv_aload_n hx hb (oc_42 552 (aq_4 shL_law_548)) rfl (lvA0 hl) ?_
  refine lv_iload_n hx hb (oc_29 553 (aq_5 shL_law_548)) rfl (lvA3 hl) ?_
  refine lv_iconst (v := 2) hx hb (oc_5 554 (aq_6 shL_law_548)) kic_2 ?_
  refine lv_iadd hx hb (oc_96 555 (aq_7 shL_law_548)) ?_
  refine lv_topi (fun y_8 ey_8 => ?_)
  obtain rfl : y_8 = nI (i + 2) := ey_8.trans (nI_add i 2)
  refine va_sld hx hb hX hbl hbA hS (vp_in_nI (by omega) (by omega)) (oc_46 556 (aq_8 shL_law_548)) ?_
  refine lv_topi (fun y_9 ey_9 => ?_)
  obtain rfl : y_9 = xs (nI (i + 2)).toNatClampNeg := ey_9
  have hFc := free_all (exDr hD) hS hA
  refine va_calli (runV_a (As := [.int (xs (nI (i + 1)).toNatClampNeg), .int (xs (nI (i + 2)).toNatClampNeg)]) (rest := []) S (q_contract8 l D cI cB cZ g2 c3 I3 F3 (xs (nI (i + 1)).toNatClampNeg) (xs (nI (i + 2)).toNatClampNeg) H.size hM.1 hM.2) kV_RL_41 hK (exPr hP) (exDr hD) 0 rfl rfl rfl ⟨Nat.le_of_ble_eq_true rfl, Nat.le_of_ble_eq_true rfl⟩ ⟨(by show K + 6 + 0 ≤ 600000; omega), (by show N + 237 + 0 ≤ 7302250; omega)⟩ rfl hl.1 rfl (Nat.le_of_ble_eq_true rfl) (oc_182 557 (aq_9 shL_law_548) uw_0_41)) hS (fun q _ h => hFc q h) hFc (fun r9 u t H1 locs ht hvm w9 hB1 hz1 hk1 hS => ?_)
  obtain ⟨c9, I9, F9⟩ := u
  obtain ⟨hP1, hD1⟩ := hB1
  rw [ht] at hP1
  obtain ⟨hP, hD⟩ := exjoin hP hD hk1 hFc hP1 hD1
  generalize H1 = H at hP hS ⊢
  obtain ⟨hM, hd9, hf9⟩ := imm_contract8 hM w9
  have hR := RR.fm hR hd9 hf9 (by decide) (by decide)
  refine lv_pop hx hb (oc_87 560 (aq_12 shL_law_548)) rfl ?_
  refine lv_goto (tgt := 2269) hx hb (oc_167 561 (aq_13 shL_law_548) sgw_6_172) rfl ?_
  refine W.widen (k := K + 8) (n := N + 240) (by omega) (by omega) ?_
  exact kk _ _ _ _ _ _ _ _ _ hI hM hR hP hD hS ls hl
set_option maxRecDepth 100000 in
set_option maxHeartbeats 4000000 in
theorem lawc_6 {p : Program} {l : Launch} {e : Env} {s : State} {m : MethodId} {below : List Frame} {meth : Method} {c : Code} {b L : Nat} {xs : Nat → Int32} (C0 : lw_At p s m meth c b L xs) (hLN : L ≤ 3584) {A : Nat → Prop} (hA : ∀ q : Nat, s.heap.size ≤ q → A q) (hbA : ¬ A b) {D : va_G} {cI cB cZ : ClassId} {zz qq vv : Nat} {bt : Nat → Int32} {g g2 : Nat → Nat} (hK : KK D cI cB cZ s) (hXS : XS D zz qq vv bt A s s.heap) {ad : Nat → Nat → Nat} {cn : Nat → Nat} {In : Nat → Int32} {Fn : Nat → Nat → Int32} {c3 : Nat → Nat} {I3 : Nat → Int32} {F3 : Nat → Nat → Int32} (hI : IX ad cn Fn) (hM : IMM c3 F3) (hR : RR cn Fn c3 F3) {H : Heap} {locs : List Loc} (hP : va_P D vwCl (wX cI (D.1 99) zz g ad cn In Fn ++ wM cI cB cZ g2 c3 I3 F3) H) (hD : va_D A (wX cI (D.1 99) zz g ad cn In Fn ++ wM cI cB cZ g2 c3 I3 F3)) (hS : va_S A s.heap H locs) {K N i : Nat} (hi : i + 7 ≤ L) (hKN : K + 8 ≤ 600000 ∧ N + 240 ≤ 7302250) {ls : Array Slot} (hl : lv_has ls 4 [(0, .ref b), (1, .ref (g 0)), (2, .ref (g2 100)), (3, .int (nI i))]) (kk : ∀ (ad : Nat → Nat → Nat) (cn : Nat → Nat) (In : Nat → Int32) (Fn : Nat → Nat → Int32) (c3 : Nat → Nat) (I3 : Nat → Int32) (F3 : Nat → Nat → Int32) (H : Heap) (locs : List Loc), IX ad cn Fn → IMM c3 F3 → RR cn Fn c3 F3 → va_P D vwCl (wX cI (D.1 99) zz g ad cn In Fn ++ wM cI cB cZ g2 c3 I3 F3) H → va_D A (wX cI (D.1 99) zz g ad cn In Fn ++ wM cI cB cZ g2 c3 I3 F3) → va_S A s.heap H locs → ∀ ls : Array Slot, lv_has ls 4 [(0, .ref b), (1, .ref (g 0)), (2, .ref (g2 100)), (3, .int (nI i))] → W p l e room_1 s m #[Value.ref b] below meth c H locs (K + 8) (N + 240) (lw_Z below #[Value.ref b] s) (F0 m 2269 ls [])) : W p l e room_1 s m #[Value.ref b] below meth c H locs K N (lw_Z below #[Value.ref b] s) (F0 m 564 ls []) := by
  obtain ⟨hx, hb, hr, hml, hown, hts, hX, hbl, hlocks, hgv⟩ := id C0
  have S : SF p m c code 4 s #[Value.ref b] RL := ⟨hx, hb, hml, hown, fun w h => hts w (wT_lw h)⟩
  refine lv_aload_n hx hb (oc_43 564 (aq_16 shL_law_548)) rfl (lvA1 hl) ?_
  refine lv_aload_n hx hb (oc_42 565 (aq_17 shL_law_548)) rfl (lvA0 hl) ?_
  refine lv_iload_n hx hb (oc_29 566 (aq_18 shL_law_548)) rfl (lvA3 hl) ?_
  refine lv_iconst (v := 1) hx hb (oc_4 567 (aq_19 shL_law_548)) kic_1 ?_
  refine lv_iadd hx hb (oc_96 568 (aq_20 shL_law_548)) ?_
  refine lv_topi (fun y_1 ey_1 => ?_)
  obtain rfl : y_1 = nI (i + 1) := ey_1.trans (nI_add i 1)
  refine va_sld hx hb hX hbl hbA hS (vp_in_nI (by omega) (by omega)) (oc_46 569 (aq_21 shL_law_548)) ?_
  refine lv_topi (fun y_2 ey_2 => ?_)
  obtain rfl : y_2 = xs (nI (i + 1)).toNatClampNeg := ey_2
  have hFc := free_all (exD hD) hS hA
  refine va_calli (runV_xa (As := [.int (xs (nI (i + 1)).toNatClampNeg)]) (rest := []) S (q_Xlaw l D cI cB cZ zz qq vv bt g ad cn In Fn (xs (nI (i + 1)).toNatClampNeg) H.size hI.1 hI.2.1 hI.2.2.1 hI.2.2.2.1) kV_RL_42 hK hXS hS hFc (exP hP) (exD hD) 0 xo_0 rfl rfl ⟨Nat.le_of_ble_eq_true rfl, Nat.le_of_ble_eq_true rfl⟩ ⟨(by show K + 6 ≤ 600000; omega), (by show N + 237 ≤ 7302250; omega)⟩ rfl hl.1 rfl (Nat.le_of_ble_eq_true rfl) (oc_182 570 (aq_22 shL_law_548) uw_0_42)) hS (fun q _ h => hFc q h) hFc (fun r2 u t H1 locs ht hvm w2 hB1 hz1 hk1 hS => ?_)
  obtain ⟨a2, c2, I2, F2⟩ := u
  obtain ⟨hP1, hD1⟩ := hB1
  rw [ht] at hP1
  obtain ⟨hP, hD⟩ := exjoinL hP hD hk1 hFc hP1 hD1
  generalize H1 = H at hP hS ⊢
  obtain ⟨hI, hd2, hf2⟩ := ix_contract hI w2
  have hR := RR.fx hR hd2 hf2 (by decide) (by decide)
  refine lv_pop hx hb (oc_87 573 shL_law_573) rfl ?_
  refine lv_aload_n hx hb (oc_44 574 (aq_1 shL_law_573)) rfl (lvA2 hl) ?_
  refine lv_aload_n hx hb (oc_42 575 (aq_2 shL_law_573)) rfl (lvA0 hl) ?_
  refine lv_iload_n hx hb (oc_29 576 (aq_3 shL_law_573)) rfl (lvA3 hl) ?_
  refine lv_iconst (v := 1) hx hb (oc_4 577 (aq_4 shL_law_573)) kic_1 ?_
  refine lv_iadd hx hb (oc_96 578 (aq_5 shL_law_573)) ?_
  refine lv_topi (fun y_4 ey_4 => ?_)
  obtain rfl : y_4 = nI (i + 1) := ey_4.trans (nI_add i 1)
  refine va_sld hx hb hX hbl hbA hS (vp_in_nI (by omega) (by omega)) (oc_46 579 (aq_6 shL_law_573)) ?_
  refine lv_topi (fun y_5 ey_5 => ?_)
  obtain rfl : y_5 = xs (nI (i + 1)).toNatClampNeg := ey_5
  have hFc := free_all (exDr hD) hS hA
  refine va_calli (runV_a (As := [.int (xs (nI (i + 1)).toNatClampNeg)]) (rest := []) S (q_law8 l D cI cB cZ g2 c3 I3 F3 (xs (nI (i + 1)).toNatClampNeg) H.size hM.1 hM.2) kV_RL_46 hK (exPr hP) (exDr hD) 0 rfl rfl rfl ⟨Nat.le_of_ble_eq_true rfl, Nat.le_of_ble_eq_true rfl⟩ ⟨(by show K + 6 + 0 ≤ 600000; omega), (by show N + 237 + 0 ≤ 7302250; omega)⟩ rfl hl.1 rfl (Nat.le_of_ble_eq_true rfl) (oc_182 580 (aq_7 shL_law_573) uw_0_46)) hS (fun q _ h => hFc q h) hFc (fun r5 u t H1 locs ht hvm w5 hB1 hz1 hk1 hS => ?_)
  obtain ⟨c5, I5, F5⟩ := u
  obtain ⟨hP1, hD1⟩ := hB1
  rw [ht] at hP1
  obtain ⟨hP, hD⟩ := exjoin hP hD hk1 hFc hP1 hD1
  generalize H1 = H at hP hS ⊢
  obtain ⟨hM, hd5, hf5⟩ := imm_law8 hM w5
  have hR := RR.fm hR hd5 hf5 (by decide) (by decide)
  refine lv_pop hx hb (oc_87 583 (aq_10 shL_law_573)) rfl ?_
  refine lv_goto (tgt := 2269) hx hb (oc_167 584 (aq_11 shL_law_573) sgw_6_149) rfl ?_
  refine W.widen (k := K + 8) (n := N + 240) (by omega) (by omega) ?_
  exact kk _ _ _ _ _ _ _ _ _ hI hM hR hP hD hS ls hl
set_option maxRecDepth 100000 in
set_option maxHeartbeats 4000000 in
theorem lawc_7 {p : Program} {l : Launch} {e : Env} {s : State} {m : MethodId} {below : List Frame} {meth : Method} {c : Code} {b L : Nat} {xs : Nat → Int32} (C0 : lw_At p s m meth c b L xs) (hLN : L ≤ 3584) {A : Nat → Prop} (hA : ∀ q : Nat, s.heap.size ≤ q → A q) (hbA : ¬ A b) {D : va_G} {cI cB cZ : ClassId} {zz qq vv : Nat} {bt : Nat → Int32} {g g2 : Nat → Nat} (hK : KK D cI cB cZ s) (hXS : XS D zz qq vv bt A s s.heap) {ad : Nat → Nat → Nat} {cn : Nat → Nat} {In : Nat → Int32} {Fn : Nat → Nat → Int32} {c3 : Nat → Nat} {I3 : Nat → Int32} {F3 : Nat → Nat → Int32} (hI : IX ad cn Fn) (hM : IMM c3 F3) (hR : RR cn Fn c3 F3) {H : Heap} {locs : List Loc} (hP : va_P D vwCl (wX cI (D.1 99) zz g ad cn In Fn ++ wM cI cB cZ g2 c3 I3 F3) H) (hD : va_D A (wX cI (D.1 99) zz g ad cn In Fn ++ wM cI cB cZ g2 c3 I3 F3)) (hS : va_S A s.heap H locs) {K N i : Nat} (hi : i + 7 ≤ L) (hKN : K + 8 ≤ 600000 ∧ N + 240 ≤ 7302250) {ls : Array Slot} (hl : lv_has ls 4 [(0, .ref b), (1, .ref (g 0)), (2, .ref (g2 100)), (3, .int (nI i))]) (kk : ∀ (ad : Nat → Nat → Nat) (cn : Nat → Nat) (In : Nat → Int32) (Fn : Nat → Nat → Int32) (c3 : Nat → Nat) (I3 : Nat → Int32) (F3 : Nat → Nat → Int32) (H : Heap) (locs : List Loc), IX ad cn Fn → IMM c3 F3 → RR cn Fn c3 F3 → va_P D vwCl (wX cI (D.1 99) zz g ad cn In Fn ++ wM cI cB cZ g2 c3 I3 F3) H → va_D A (wX cI (D.1 99) zz g ad cn In Fn ++ wM cI cB cZ g2 c3 I3 F3) → va_S A s.heap H locs → ∀ ls : Array Slot, lv_has ls 4 [(0, .ref b), (1, .ref (g 0)), (2, .ref (g2 100)), (3, .int (nI i))] → W p l e room_1 s m #[Value.ref b] below meth c H locs (K + 8) (N + 240) (lw_Z below #[Value.ref b] s) (F0 m 2269 ls [])) : W p l e room_1 s m #[Value.ref b] below meth c H locs K N (lw_Z below #[Value.ref b] s) (F0 m 587 ls []) := by
  obtain ⟨hx, hb, hr, hml, hown, hts, hX, hbl, hlocks, hgv⟩ := id C0
  have S : SF p m c code 4 s #[Value.ref b] RL := ⟨hx, hb, hml, hown, fun w h => hts w (wT_lw h)⟩
  refine lv_aload_n hx hb (oc_43 587 (aq_14 shL_law_573)) rfl (lvA1 hl) ?_
  refine lv_aload_n hx hb (oc_42 588 (aq_15 shL_law_573)) rfl (lvA0 hl) ?_
  refine lv_iload_n hx hb (oc_29 589 (aq_16 shL_law_573)) rfl (lvA3 hl) ?_
  refine lv_iconst (v := 1) hx hb (oc_4 590 (aq_17 shL_law_573)) kic_1 ?_
  refine lv_iadd hx hb (oc_96 591 (aq_18 shL_law_573)) ?_
  refine lv_topi (fun y_1 ey_1 => ?_)
  obtain rfl : y_1 = nI (i + 1) := ey_1.trans (nI_add i 1)
  refine va_sld hx hb hX hbl hbA hS (vp_in_nI (by omega) (by omega)) (oc_46 592 (aq_19 shL_law_573)) ?_
  refine lv_topi (fun y_2 ey_2 => ?_)
  obtain rfl : y_2 = xs (nI (i + 1)).toNatClampNeg := ey_2
  refine lv_aload_n hx hb (oc_42 593 (aq_20 shL_law_573)) rfl (lvA0 hl) ?_
  refine lv_iload_n hx hb (oc_29 594 (aq_21 shL_law_573)) rfl (lvA3 hl) ?_
  refine lv_iconst (v := 2) hx hb (oc_5 595 (aq_22 shL_law_573)) kic_2 ?_
  refine lv_iadd hx hb (oc_96 596 (aq_23 shL_law_573)) ?_
  refine lv_topi (fun y_3 ey_3 => ?_)
  obtain rfl : y_3 = nI (i + 2) := ey_3.trans (nI_add i 2)
  refine va_sld hx hb hX hbl hbA hS (vp_in_nI (by omega) (by omega)) (oc_46 597 shL_law_597) ?_
  refine lv_topi (fun y_4 ey_4 => ?_)
  obtain rfl : y_4 = xs (nI (i + 2)).toNatClampNeg := ey_4
  have hFc := free_all (exD hD) hS hA
  refine va_calli (runV_xa (As := [.int (xs (nI (i + 1)).toNatClampNeg), .int (xs (nI (i + 2)).toNatClampNeg)]) (rest := []) S (q_Xprice l D cI cB cZ zz qq vv bt g ad cn In Fn (xs (nI (i + 1)).toNatClampNeg) (xs (nI (i + 2)).toNatClampNeg) H.size hI.1) kV_RL_47 hK hXS hS hFc (exP hP) (exD hD) 0 xo_0 rfl rfl ⟨Nat.le_of_ble_eq_true rfl, Nat.le_of_ble_eq_true rfl⟩ ⟨(by show K + 0 ≤ 600000; omega), (by show N + 0 ≤ 7302250; omega)⟩ rfl hl.1 rfl (Nat.le_of_ble_eq_true rfl) (oc_182 598 (aq_1 shL_law_597) uw_0_47)) hS (fun q _ h => hFc q h) hFc (fun r4 u t H1 locs ht hvm w4 hB1 hz1 hk1 hS => ?_)
  obtain ⟨c4, I4, F4⟩ := u
  obtain ⟨hP1, hD1⟩ := hB1
  rw [ht] at hP1
  obtain ⟨hP, hD⟩ := exjoinL hP hD hk1 hFc hP1 hD1
  generalize H1 = H at hP hS ⊢
  have hd4 := w4.1.1
  have hf4 := w4.1.2.2
  have hI := IX.fr hI w4.1 w4.2.1 (by decide) (by decide)
  have hR := RR.fx hR hd4 hf4 (by decide) (by decide)
  refine lv_pop hx hb (oc_87 601 (aq_4 shL_law_597)) rfl ?_
  refine lv_aload_n hx hb (oc_44 602 (aq_5 shL_law_597)) rfl (lvA2 hl) ?_
  refine lv_aload_n hx hb (oc_42 603 (aq_6 shL_law_597)) rfl (lvA0 hl) ?_
  refine lv_iload_n hx hb (oc_29 604 (aq_7 shL_law_597)) rfl (lvA3 hl) ?_
  refine lv_iconst (v := 1) hx hb (oc_4 605 (aq_8 shL_law_597)) kic_1 ?_
  refine lv_iadd hx hb (oc_96 606 (aq_9 shL_law_597)) ?_
  refine lv_topi (fun y_6 ey_6 => ?_)
  obtain rfl : y_6 = nI (i + 1) := ey_6.trans (nI_add i 1)
  refine va_sld hx hb hX hbl hbA hS (vp_in_nI (by omega) (by omega)) (oc_46 607 (aq_10 shL_law_597)) ?_
  refine lv_topi (fun y_7 ey_7 => ?_)
  obtain rfl : y_7 = xs (nI (i + 1)).toNatClampNeg := ey_7
  refine lv_aload_n hx hb (oc_42 608 (aq_11 shL_law_597)) rfl (lvA0 hl) ?_
  refine lv_iload_n hx hb (oc_29 609 (aq_12 shL_law_597)) rfl (lvA3 hl) ?_
  refine lv_iconst (v := 2) hx hb (oc_5 610 (aq_13 shL_law_597)) kic_2 ?_
  refine lv_iadd hx hb (oc_96 611 (aq_14 shL_law_597)) ?_
  refine lv_topi (fun y_8 ey_8 => ?_)
  obtain rfl : y_8 = nI (i + 2) := ey_8.trans (nI_add i 2)
  refine va_sld hx hb hX hbl hbA hS (vp_in_nI (by omega) (by omega)) (oc_46 612 (aq_15 shL_law_597)) ?_
  refine lv_topi (fun y_9 ey_9 => ?_)
  obtain rfl : y_9 = xs (nI (i + 2)).toNatClampNeg := ey_9
  have hFc := free_all (exDr hD) hS hA
  refine va_calli (runV_a (As := [.int (xs (nI (i + 1)).toNatClampNeg), .int (xs (nI (i + 2)).toNatClampNeg)]) (rest := []) S (q_price l D cI cB cZ g2 c3 I3 F3 (xs (nI (i + 1)).toNatClampNeg) (xs (nI (i + 2)).toNatClampNeg) H.size hM.1) kV_RL_51 hK (exPr hP) (exDr hD) 0 rfl rfl rfl ⟨Nat.le_of_ble_eq_true rfl, Nat.le_of_ble_eq_true rfl⟩ ⟨(by show K + 0 ≤ 600000; omega), (by show N + 0 ≤ 7302250; omega)⟩ rfl hl.1 rfl (Nat.le_of_ble_eq_true rfl) (oc_182 613 (aq_16 shL_law_597) uw_0_51)) hS (fun q _ h => hFc q h) hFc (fun r9 u t H1 locs ht hvm w9 hB1 hz1 hk1 hS => ?_)
  obtain ⟨c9, I9, F9⟩ := u
  obtain ⟨hP1, hD1⟩ := hB1
  rw [ht] at hP1
  obtain ⟨hP, hD⟩ := exjoin hP hD hk1 hFc hP1 hD1
  generalize H1 = H at hP hS ⊢
  obtain ⟨hM, hd9, hf9⟩ := imm_price hM w9
  have hR := RR.fm hR hd9 hf9 (by decide) (by decide)
  refine lv_pop hx hb (oc_87 616 (aq_19 shL_law_597)) rfl ?_
  refine lv_goto (tgt := 2269) hx hb (oc_167 617 (aq_20 shL_law_597) sgw_6_116) rfl ?_
  refine W.widen (k := K + 8) (n := N + 240) (by omega) (by omega) ?_
  exact kk _ _ _ _ _ _ _ _ _ hI hM hR hP hD hS ls hl
set_option maxRecDepth 100000 in
set_option maxHeartbeats 4000000 in
theorem lawc_8 {p : Program} {l : Launch} {e : Env} {s : State} {m : MethodId} {below : List Frame} {meth : Method} {c : Code} {b L : Nat} {xs : Nat → Int32} (C0 : lw_At p s m meth c b L xs) (hLN : L ≤ 3584) {A : Nat → Prop} (hA : ∀ q : Nat, s.heap.size ≤ q → A q) (hbA : ¬ A b) {D : va_G} {cI cB cZ : ClassId} {zz qq vv : Nat} {bt : Nat → Int32} {g g2 : Nat → Nat} (hK : KK D cI cB cZ s) (hXS : XS D zz qq vv bt A s s.heap) {ad : Nat → Nat → Nat} {cn : Nat → Nat} {In : Nat → Int32} {Fn : Nat → Nat → Int32} {c3 : Nat → Nat} {I3 : Nat → Int32} {F3 : Nat → Nat → Int32} (hI : IX ad cn Fn) (hM : IMM c3 F3) (hR : RR cn Fn c3 F3) {H : Heap} {locs : List Loc} (hP : va_P D vwCl (wX cI (D.1 99) zz g ad cn In Fn ++ wM cI cB cZ g2 c3 I3 F3) H) (hD : va_D A (wX cI (D.1 99) zz g ad cn In Fn ++ wM cI cB cZ g2 c3 I3 F3)) (hS : va_S A s.heap H locs) {K N i : Nat} (hi : i + 7 ≤ L) (hKN : K + 8 ≤ 600000 ∧ N + 240 ≤ 7302250) {ls : Array Slot} (hl : lv_has ls 4 [(0, .ref b), (1, .ref (g 0)), (2, .ref (g2 100)), (3, .int (nI i))]) (kk : ∀ (ad : Nat → Nat → Nat) (cn : Nat → Nat) (In : Nat → Int32) (Fn : Nat → Nat → Int32) (c3 : Nat → Nat) (I3 : Nat → Int32) (F3 : Nat → Nat → Int32) (H : Heap) (locs : List Loc), IX ad cn Fn → IMM c3 F3 → RR cn Fn c3 F3 → va_P D vwCl (wX cI (D.1 99) zz g ad cn In Fn ++ wM cI cB cZ g2 c3 I3 F3) H → va_D A (wX cI (D.1 99) zz g ad cn In Fn ++ wM cI cB cZ g2 c3 I3 F3) → va_S A s.heap H locs → ∀ ls : Array Slot, lv_has ls 4 [(0, .ref b), (1, .ref (g 0)), (2, .ref (g2 100)), (3, .int (nI i))] → W p l e room_1 s m #[Value.ref b] below meth c H locs (K + 8) (N + 240) (lw_Z below #[Value.ref b] s) (F0 m 2269 ls [])) : W p l e room_1 s m #[Value.ref b] below meth c H locs K N (lw_Z below #[Value.ref b] s) (F0 m 620 ls []) := by
  obtain ⟨hx, hb, hr, hml, hown, hts, hX, hbl, hlocks, hgv⟩ := id C0
  have S : SF p m c code 4 s #[Value.ref b] RL := ⟨hx, hb, hml, hown, fun w h => hts w (wT_lw h)⟩
  refine lv_aload_n hx hb (oc_43 620 (aq_23 shL_law_597)) rfl (lvA1 hl) ?_
  refine lv_aload_n hx hb (oc_42 621 shL_law_621) rfl (lvA0 hl) ?_
  refine lv_iload_n hx hb (oc_29 622 (aq_1 shL_law_621)) rfl (lvA3 hl) ?_
  refine lv_iconst (v := 1) hx hb (oc_4 623 (aq_2 shL_law_621)) kic_1 ?_
  refine lv_iadd hx hb (oc_96 624 (aq_3 shL_law_621)) ?_
  refine lv_topi (fun y_1 ey_1 => ?_)
  obtain rfl : y_1 = nI (i + 1) := ey_1.trans (nI_add i 1)
  refine va_sld hx hb hX hbl hbA hS (vp_in_nI (by omega) (by omega)) (oc_46 625 (aq_4 shL_law_621)) ?_
  refine lv_topi (fun y_2 ey_2 => ?_)
  obtain rfl : y_2 = xs (nI (i + 1)).toNatClampNeg := ey_2
  have hFc := free_all (exD hD) hS hA
  refine va_calli (runV_xa (As := [.int (xs (nI (i + 1)).toNatClampNeg)]) (rest := []) S (q_Xpence l D cI cB cZ zz qq vv bt g ad cn In Fn (xs (nI (i + 1)).toNatClampNeg) H.size hI.1 hI.2.1 hI.2.2.1) kV_RL_52 hK hXS hS hFc (exP hP) (exD hD) 0 xo_0 rfl rfl ⟨Nat.le_of_ble_eq_true rfl, Nat.le_of_ble_eq_true rfl⟩ ⟨(by show K + 0 ≤ 600000; omega), (by show N + 0 ≤ 7302250; omega)⟩ rfl hl.1 rfl (Nat.le_of_ble_eq_true rfl) (oc_182 626 (aq_5 shL_law_621) uw_0_52)) hS (fun q _ h => hFc q h) hFc (fun r2 u t H1 locs ht hvm w2 hB1 hz1 hk1 hS => ?_)
  obtain ⟨c2, I2, F2⟩ := u
  obtain ⟨hP1, hD1⟩ := hB1
  rw [ht] at hP1
  obtain ⟨hP, hD⟩ := exjoinL hP hD hk1 hFc hP1 hD1
  generalize H1 = H at hP hS ⊢
  have hd2 := w2.1.1
  have hf2 := w2.1.2.2
  have hI := IX.fr hI w2.1 w2.2.1 (by decide) (by decide)
  have hR := RR.fx hR hd2 hf2 (by decide) (by decide)
  refine lv_pop hx hb (oc_87 629 (aq_8 shL_law_621)) rfl ?_
  refine lv_aload_n hx hb (oc_44 630 (aq_9 shL_law_621)) rfl (lvA2 hl) ?_
  refine lv_aload_n hx hb (oc_42 631 (aq_10 shL_law_621)) rfl (lvA0 hl) ?_
  refine lv_iload_n hx hb (oc_29 632 (aq_11 shL_law_621)) rfl (lvA3 hl) ?_
  refine lv_iconst (v := 1) hx hb (oc_4 633 (aq_12 shL_law_621)) kic_1 ?_
  refine lv_iadd hx hb (oc_96 634 (aq_13 shL_law_621)) ?_
  refine lv_topi (fun y_4 ey_4 => ?_)
  obtain rfl : y_4 = nI (i + 1) := ey_4.trans (nI_add i 1)
  refine va_sld hx hb hX hbl hbA hS (vp_in_nI (by omega) (by omega)) (oc_46 635 (aq_14 shL_law_621)) ?_
  refine lv_topi (fun y_5 ey_5 => ?_)
  obtain rfl : y_5 = xs (nI (i + 1)).toNatClampNeg := ey_5
  have hFc := free_all (exDr hD) hS hA
  refine va_calli (runV_a (As := [.int (xs (nI (i + 1)).toNatClampNeg)]) (rest := []) S (q_pence l D cI cB cZ g2 c3 I3 F3 (xs (nI (i + 1)).toNatClampNeg) H.size hM.1) kV_RL_55 hK (exPr hP) (exDr hD) 0 rfl rfl rfl ⟨Nat.le_of_ble_eq_true rfl, Nat.le_of_ble_eq_true rfl⟩ ⟨(by show K + 0 ≤ 600000; omega), (by show N + 0 ≤ 7302250; omega)⟩ rfl hl.1 rfl (Nat.le_of_ble_eq_true rfl) (oc_182 636 (aq_15 shL_law_621) uw_0_55)) hS (fun q _ h => hFc q h) hFc (fun r5 u t H1 locs ht hvm w5 hB1 hz1 hk1 hS => ?_)
  obtain ⟨c5, I5, F5⟩ := u
  obtain ⟨hP1, hD1⟩ := hB1
  rw [ht] at hP1
  obtain ⟨hP, hD⟩ := exjoin hP hD hk1 hFc hP1 hD1
  generalize H1 = H at hP hS ⊢
  obtain ⟨hM, hd5, hf5⟩ := imm_pence hM w5
  have hR := RR.fm hR hd5 hf5 (by decide) (by decide)
  refine lv_pop hx hb (oc_87 639 (aq_18 shL_law_621)) rfl ?_
  refine lv_goto (tgt := 2269) hx hb (oc_167 640 (aq_19 shL_law_621) sgw_6_93) rfl ?_
  refine W.widen (k := K + 8) (n := N + 240) (by omega) (by omega) ?_
  exact kk _ _ _ _ _ _ _ _ _ hI hM hR hP hD hS ls hl
set_option maxRecDepth 100000 in
set_option maxHeartbeats 4000000 in
theorem lawc_9 {p : Program} {l : Launch} {e : Env} {s : State} {m : MethodId} {below : List Frame} {meth : Method} {c : Code} {b L : Nat} {xs : Nat → Int32} (C0 : lw_At p s m meth c b L xs) (hLN : L ≤ 3584) {A : Nat → Prop} (hA : ∀ q : Nat, s.heap.size ≤ q → A q) (hbA : ¬ A b) {D : va_G} {cI cB cZ : ClassId} {zz qq vv : Nat} {bt : Nat → Int32} {g g2 : Nat → Nat} (hK : KK D cI cB cZ s) (hXS : XS D zz qq vv bt A s s.heap) {ad : Nat → Nat → Nat} {cn : Nat → Nat} {In : Nat → Int32} {Fn : Nat → Nat → Int32} {c3 : Nat → Nat} {I3 : Nat → Int32} {F3 : Nat → Nat → Int32} (hI : IX ad cn Fn) (hM : IMM c3 F3) (hR : RR cn Fn c3 F3) {H : Heap} {locs : List Loc} (hP : va_P D vwCl (wX cI (D.1 99) zz g ad cn In Fn ++ wM cI cB cZ g2 c3 I3 F3) H) (hD : va_D A (wX cI (D.1 99) zz g ad cn In Fn ++ wM cI cB cZ g2 c3 I3 F3)) (hS : va_S A s.heap H locs) {K N i : Nat} (hi : i + 7 ≤ L) (hKN : K + 8 ≤ 600000 ∧ N + 240 ≤ 7302250) {ls : Array Slot} (hl : lv_has ls 4 [(0, .ref b), (1, .ref (g 0)), (2, .ref (g2 100)), (3, .int (nI i))]) (kk : ∀ (ad : Nat → Nat → Nat) (cn : Nat → Nat) (In : Nat → Int32) (Fn : Nat → Nat → Int32) (c3 : Nat → Nat) (I3 : Nat → Int32) (F3 : Nat → Nat → Int32) (H : Heap) (locs : List Loc), IX ad cn Fn → IMM c3 F3 → RR cn Fn c3 F3 → va_P D vwCl (wX cI (D.1 99) zz g ad cn In Fn ++ wM cI cB cZ g2 c3 I3 F3) H → va_D A (wX cI (D.1 99) zz g ad cn In Fn ++ wM cI cB cZ g2 c3 I3 F3) → va_S A s.heap H locs → ∀ ls : Array Slot, lv_has ls 4 [(0, .ref b), (1, .ref (g 0)), (2, .ref (g2 100)), (3, .int (nI i))] → W p l e room_1 s m #[Value.ref b] below meth c H locs (K + 8) (N + 240) (lw_Z below #[Value.ref b] s) (F0 m 2269 ls [])) : W p l e room_1 s m #[Value.ref b] below meth c H locs K N (lw_Z below #[Value.ref b] s) (F0 m 643 ls []) := by
  obtain ⟨hx, hb, hr, hml, hown, hts, hX, hbl, hlocks, hgv⟩ := id C0
  have S : SF p m c code 4 s #[Value.ref b] RL := ⟨hx, hb, hml, hown, fun w h => hts w (wT_lw h)⟩
  refine lv_aload_n hx hb (oc_43 643 (aq_22 shL_law_621)) rfl (lvA1 hl) ?_
  refine lv_aload_n hx hb (oc_42 644 (aq_23 shL_law_621)) rfl (lvA0 hl) ?_
  refine lv_iload_n hx hb (oc_29 645 shL_law_645) rfl (lvA3 hl) ?_
  refine lv_iconst (v := 1) hx hb (oc_4 646 (aq_1 shL_law_645)) kic_1 ?_
  refine lv_iadd hx hb (oc_96 647 (aq_2 shL_law_645)) ?_
  refine lv_topi (fun y_1 ey_1 => ?_)
  obtain rfl : y_1 = nI (i + 1) := ey_1.trans (nI_add i 1)
  refine va_sld hx hb hX hbl hbA hS (vp_in_nI (by omega) (by omega)) (oc_46 648 (aq_3 shL_law_645)) ?_
  refine lv_topi (fun y_2 ey_2 => ?_)
  obtain rfl : y_2 = xs (nI (i + 1)).toNatClampNeg := ey_2
  refine lv_aload_n hx hb (oc_42 649 (aq_4 shL_law_645)) rfl (lvA0 hl) ?_
  refine lv_iload_n hx hb (oc_29 650 (aq_5 shL_law_645)) rfl (lvA3 hl) ?_
  refine lv_iconst (v := 2) hx hb (oc_5 651 (aq_6 shL_law_645)) kic_2 ?_
  refine lv_iadd hx hb (oc_96 652 (aq_7 shL_law_645)) ?_
  refine lv_topi (fun y_3 ey_3 => ?_)
  obtain rfl : y_3 = nI (i + 2) := ey_3.trans (nI_add i 2)
  refine va_sld hx hb hX hbl hbA hS (vp_in_nI (by omega) (by omega)) (oc_46 653 (aq_8 shL_law_645)) ?_
  refine lv_topi (fun y_4 ey_4 => ?_)
  obtain rfl : y_4 = xs (nI (i + 2)).toNatClampNeg := ey_4
  have hFc := free_all (exD hD) hS hA
  refine va_calli (runV_xa (As := [.int (xs (nI (i + 1)).toNatClampNeg), .int (xs (nI (i + 2)).toNatClampNeg)]) (rest := []) S (q_Xpaid l D cI cB cZ zz qq vv bt g ad cn In Fn (xs (nI (i + 1)).toNatClampNeg) (xs (nI (i + 2)).toNatClampNeg) H.size hI.1 hI.2.1 hI.2.2.1) kV_RL_56 hK hXS hS hFc (exP hP) (exD hD) 0 xo_0 rfl rfl ⟨Nat.le_of_ble_eq_true rfl, Nat.le_of_ble_eq_true rfl⟩ ⟨(by show K + 0 ≤ 600000; omega), (by show N + 0 ≤ 7302250; omega)⟩ rfl hl.1 rfl (Nat.le_of_ble_eq_true rfl) (oc_182 654 (aq_9 shL_law_645) uw_0_56)) hS (fun q _ h => hFc q h) hFc (fun r4 u t H1 locs ht hvm w4 hB1 hz1 hk1 hS => ?_)
  obtain ⟨c4, I4, F4⟩ := u
  obtain ⟨hP1, hD1⟩ := hB1
  rw [ht] at hP1
  obtain ⟨hP, hD⟩ := exjoinL hP hD hk1 hFc hP1 hD1
  generalize H1 = H at hP hS ⊢
  have hd4 := w4.1.1
  have hf4 := w4.1.2.2
  have hI := IX.fr hI w4.1 w4.2.1 (by decide) (by decide)
  have hR := RR.fx hR hd4 hf4 (by decide) (by decide)
  refine lv_pop hx hb (oc_87 657 (aq_12 shL_law_645)) rfl ?_
  refine lv_aload_n hx hb (oc_44 658 (aq_13 shL_law_645)) rfl (lvA2 hl) ?_
  refine lv_aload_n hx hb (oc_42 659 (aq_14 shL_law_645)) rfl (lvA0 hl) ?_
  refine lv_iload_n hx hb (oc_29 660 (aq_15 shL_law_645)) rfl (lvA3 hl) ?_
  refine lv_iconst (v := 1) hx hb (oc_4 661 (aq_16 shL_law_645)) kic_1 ?_
  refine lv_iadd hx hb (oc_96 662 (aq_17 shL_law_645)) ?_
  refine lv_topi (fun y_6 ey_6 => ?_)
  obtain rfl : y_6 = nI (i + 1) := ey_6.trans (nI_add i 1)
  refine va_sld hx hb hX hbl hbA hS (vp_in_nI (by omega) (by omega)) (oc_46 663 (aq_18 shL_law_645)) ?_
  refine lv_topi (fun y_7 ey_7 => ?_)
  obtain rfl : y_7 = xs (nI (i + 1)).toNatClampNeg := ey_7
  refine lv_aload_n hx hb (oc_42 664 (aq_19 shL_law_645)) rfl (lvA0 hl) ?_
  refine lv_iload_n hx hb (oc_29 665 (aq_20 shL_law_645)) rfl (lvA3 hl) ?_
  refine lv_iconst (v := 2) hx hb (oc_5 666 (aq_21 shL_law_645)) kic_2 ?_
  refine lv_iadd hx hb (oc_96 667 (aq_22 shL_law_645)) ?_
  refine lv_topi (fun y_8 ey_8 => ?_)
  obtain rfl : y_8 = nI (i + 2) := ey_8.trans (nI_add i 2)
  refine va_sld hx hb hX hbl hbA hS (vp_in_nI (by omega) (by omega)) (oc_46 668 (aq_23 shL_law_645)) ?_
  refine lv_topi (fun y_9 ey_9 => ?_)
  obtain rfl : y_9 = xs (nI (i + 2)).toNatClampNeg := ey_9
  have hFc := free_all (exDr hD) hS hA
  refine va_calli (runV_a (As := [.int (xs (nI (i + 1)).toNatClampNeg), .int (xs (nI (i + 2)).toNatClampNeg)]) (rest := []) S (q_paid l D cI cB cZ g2 c3 I3 F3 (xs (nI (i + 1)).toNatClampNeg) (xs (nI (i + 2)).toNatClampNeg) H.size hM.1) kV_RL_59 hK (exPr hP) (exDr hD) 0 rfl rfl rfl ⟨Nat.le_of_ble_eq_true rfl, Nat.le_of_ble_eq_true rfl⟩ ⟨(by show K + 0 ≤ 600000; omega), (by show N + 0 ≤ 7302250; omega)⟩ rfl hl.1 rfl (Nat.le_of_ble_eq_true rfl) (oc_182 669 shL_law_669 uw_0_59)) hS (fun q _ h => hFc q h) hFc (fun r9 u t H1 locs ht hvm w9 hB1 hz1 hk1 hS => ?_)
  obtain ⟨c9, I9, F9⟩ := u
  obtain ⟨hP1, hD1⟩ := hB1
  rw [ht] at hP1
  obtain ⟨hP, hD⟩ := exjoin hP hD hk1 hFc hP1 hD1
  generalize H1 = H at hP hS ⊢
  obtain ⟨hM, hd9, hf9⟩ := imm_paid hM w9
  have hR := RR.fm hR hd9 hf9 (by decide) (by decide)
  refine lv_pop hx hb (oc_87 672 (aq_3 shL_law_669)) rfl ?_
  refine lv_goto (tgt := 2269) hx hb (oc_167 673 (aq_4 shL_law_669) sgw_6_60) rfl ?_
  refine W.widen (k := K + 8) (n := N + 240) (by omega) (by omega) ?_
  exact kk _ _ _ _ _ _ _ _ _ hI hM hR hP hD hS ls hl
set_option maxRecDepth 100000 in
set_option maxHeartbeats 4000000 in
theorem lawc_10 {p : Program} {l : Launch} {e : Env} {s : State} {m : MethodId} {below : List Frame} {meth : Method} {c : Code} {b L : Nat} {xs : Nat → Int32} (C0 : lw_At p s m meth c b L xs) (hLN : L ≤ 3584) {A : Nat → Prop} (hA : ∀ q : Nat, s.heap.size ≤ q → A q) (hbA : ¬ A b) {D : va_G} {cI cB cZ : ClassId} {zz qq vv : Nat} {bt : Nat → Int32} {g g2 : Nat → Nat} (hK : KK D cI cB cZ s) (hXS : XS D zz qq vv bt A s s.heap) {ad : Nat → Nat → Nat} {cn : Nat → Nat} {In : Nat → Int32} {Fn : Nat → Nat → Int32} {c3 : Nat → Nat} {I3 : Nat → Int32} {F3 : Nat → Nat → Int32} (hI : IX ad cn Fn) (hM : IMM c3 F3) (hR : RR cn Fn c3 F3) {H : Heap} {locs : List Loc} (hP : va_P D vwCl (wX cI (D.1 99) zz g ad cn In Fn ++ wM cI cB cZ g2 c3 I3 F3) H) (hD : va_D A (wX cI (D.1 99) zz g ad cn In Fn ++ wM cI cB cZ g2 c3 I3 F3)) (hS : va_S A s.heap H locs) {K N i : Nat} (hi : i + 7 ≤ L) (hKN : K + 8 ≤ 600000 ∧ N + 240 ≤ 7302250) {ls : Array Slot} (hl : lv_has ls 4 [(0, .ref b), (1, .ref (g 0)), (2, .ref (g2 100)), (3, .int (nI i))]) (kk : ∀ (ad : Nat → Nat → Nat) (cn : Nat → Nat) (In : Nat → Int32) (Fn : Nat → Nat → Int32) (c3 : Nat → Nat) (I3 : Nat → Int32) (F3 : Nat → Nat → Int32) (H : Heap) (locs : List Loc), IX ad cn Fn → IMM c3 F3 → RR cn Fn c3 F3 → va_P D vwCl (wX cI (D.1 99) zz g ad cn In Fn ++ wM cI cB cZ g2 c3 I3 F3) H → va_D A (wX cI (D.1 99) zz g ad cn In Fn ++ wM cI cB cZ g2 c3 I3 F3) → va_S A s.heap H locs → ∀ ls : Array Slot, lv_has ls 4 [(0, .ref b), (1, .ref (g 0)), (2, .ref (g2 100)), (3, .int (nI i))] → W p l e room_1 s m #[Value.ref b] below meth c H locs (K + 8) (N + 240) (lw_Z below #[Value.ref b] s) (F0 m 2269 ls [])) : W p l e room_1 s m #[Value.ref b] below meth c H locs K N (lw_Z below #[Value.ref b] s) (F0 m 676 ls []) := by
  obtain ⟨hx, hb, hr, hml, hown, hts, hX, hbl, hlocks, hgv⟩ := id C0
  have S : SF p m c code 4 s #[Value.ref b] RL := ⟨hx, hb, hml, hown, fun w h => hts w (wT_lw h)⟩
  refine lv_aload_n hx hb (oc_43 676 (aq_7 shL_law_669)) rfl (lvA1 hl) ?_
  refine lv_aload_n hx hb (oc_42 677 (aq_8 shL_law_669)) rfl (lvA0 hl) ?_
  refine lv_iload_n hx hb (oc_29 678 (aq_9 shL_law_669)) rfl (lvA3 hl) ?_
  refine lv_iconst (v := 1) hx hb (oc_4 679 (aq_10 shL_law_669)) kic_1 ?_
  refine lv_iadd hx hb (oc_96 680 (aq_11 shL_law_669)) ?_
  refine lv_topi (fun y_1 ey_1 => ?_)
  obtain rfl : y_1 = nI (i + 1) := ey_1.trans (nI_add i 1)
  refine va_sld hx hb hX hbl hbA hS (vp_in_nI (by omega) (by omega)) (oc_46 681 (aq_12 shL_law_669)) ?_
  refine lv_topi (fun y_2 ey_2 => ?_)
  obtain rfl : y_2 = xs (nI (i + 1)).toNatClampNeg := ey_2
  refine vp_callSi (runV_rxa (As := [.int (xs (nI (i + 1)).toNatClampNeg)]) (rest := []) S (q_Xmissing l D cI cB cZ zz qq vv bt g ad cn In Fn (xs (nI (i + 1)).toNatClampNeg) hI.1) kV_RL_60 hK hXS hS (exP hP) 0 xo_0 rfl rfl ⟨Nat.le_of_ble_eq_true rfl, Nat.le_of_ble_eq_true rfl⟩ ⟨(by show K + 0 ≤ 600000; omega), (by show N + 0 ≤ 7302250; omega)⟩ rfl hl.1 rfl (Nat.le_of_ble_eq_true rfl) (oc_182 682 (aq_13 shL_law_669) uw_0_60)) (fun r2 w2 => ?_)
  refine lv_pop hx hb (oc_87 685 (aq_16 shL_law_669)) rfl ?_
  refine lv_aload_n hx hb (oc_44 686 (aq_17 shL_law_669)) rfl (lvA2 hl) ?_
  refine lv_aload_n hx hb (oc_42 687 (aq_18 shL_law_669)) rfl (lvA0 hl) ?_
  refine lv_iload_n hx hb (oc_29 688 (aq_19 shL_law_669)) rfl (lvA3 hl) ?_
  refine lv_iconst (v := 1) hx hb (oc_4 689 (aq_20 shL_law_669)) kic_1 ?_
  refine lv_iadd hx hb (oc_96 690 (aq_21 shL_law_669)) ?_
  refine lv_topi (fun y_4 ey_4 => ?_)
  obtain rfl : y_4 = nI (i + 1) := ey_4.trans (nI_add i 1)
  refine va_sld hx hb hX hbl hbA hS (vp_in_nI (by omega) (by omega)) (oc_46 691 (aq_22 shL_law_669)) ?_
  refine lv_topi (fun y_5 ey_5 => ?_)
  obtain rfl : y_5 = xs (nI (i + 1)).toNatClampNeg := ey_5
  refine vp_callSi (runV_ra (As := [.int (xs (nI (i + 1)).toNatClampNeg)]) (rest := []) S (q_missing l D cI cB cZ g2 c3 I3 F3 (xs (nI (i + 1)).toNatClampNeg) hM.1) kV_RL_63 hK (exPr hP) 0 rfl rfl rfl ⟨Nat.le_of_ble_eq_true rfl, Nat.le_of_ble_eq_true rfl⟩ ⟨(by show K + 0 ≤ 600000; omega), (by show N + 0 ≤ 7302250; omega)⟩ rfl hl.1 rfl (Nat.le_of_ble_eq_true rfl) (oc_182 692 (aq_23 shL_law_669) uw_0_63)) (fun r5 w5 => ?_)
  refine lv_pop hx hb (oc_87 695 shL_law_695) rfl ?_
  refine lv_goto (tgt := 2269) hx hb (oc_167 696 (aq_1 shL_law_695) sgw_6_37) rfl ?_
  refine W.widen (k := K + 8) (n := N + 240) (by omega) (by omega) ?_
  exact kk _ _ _ _ _ _ _ _ _ hI hM hR hP hD hS ls hl
set_option maxRecDepth 100000 in
set_option maxHeartbeats 4000000 in
theorem lawc_11 {p : Program} {l : Launch} {e : Env} {s : State} {m : MethodId} {below : List Frame} {meth : Method} {c : Code} {b L : Nat} {xs : Nat → Int32} (C0 : lw_At p s m meth c b L xs) (hLN : L ≤ 3584) {A : Nat → Prop} (hA : ∀ q : Nat, s.heap.size ≤ q → A q) (hbA : ¬ A b) {D : va_G} {cI cB cZ : ClassId} {zz qq vv : Nat} {bt : Nat → Int32} {g g2 : Nat → Nat} (hK : KK D cI cB cZ s) (hXS : XS D zz qq vv bt A s s.heap) {ad : Nat → Nat → Nat} {cn : Nat → Nat} {In : Nat → Int32} {Fn : Nat → Nat → Int32} {c3 : Nat → Nat} {I3 : Nat → Int32} {F3 : Nat → Nat → Int32} (hI : IX ad cn Fn) (hM : IMM c3 F3) (hR : RR cn Fn c3 F3) {H : Heap} {locs : List Loc} (hP : va_P D vwCl (wX cI (D.1 99) zz g ad cn In Fn ++ wM cI cB cZ g2 c3 I3 F3) H) (hD : va_D A (wX cI (D.1 99) zz g ad cn In Fn ++ wM cI cB cZ g2 c3 I3 F3)) (hS : va_S A s.heap H locs) {K N i : Nat} (hi : i + 7 ≤ L) (hKN : K + 8 ≤ 600000 ∧ N + 240 ≤ 7302250) {ls : Array Slot} (hl : lv_has ls 4 [(0, .ref b), (1, .ref (g 0)), (2, .ref (g2 100)), (3, .int (nI i))]) (kk : ∀ (ad : Nat → Nat → Nat) (cn : Nat → Nat) (In : Nat → Int32) (Fn : Nat → Nat → Int32) (c3 : Nat → Nat) (I3 : Nat → Int32) (F3 : Nat → Nat → Int32) (H : Heap) (locs : List Loc), IX ad cn Fn → IMM c3 F3 → RR cn Fn c3 F3 → va_P D vwCl (wX cI (D.1 99) zz g ad cn In Fn ++ wM cI cB cZ g2 c3 I3 F3) H → va_D A (wX cI (D.1 99) zz g ad cn In Fn ++ wM cI cB cZ g2 c3 I3 F3) → va_S A s.heap H locs → ∀ ls : Array Slot, lv_has ls 4 [(0, .ref b), (1, .ref (g 0)), (2, .ref (g2 100)), (3, .int (nI i))] → W p l e room_1 s m #[Value.ref b] below meth c H locs (K + 8) (N + 240) (lw_Z below #[Value.ref b] s) (F0 m 2269 ls [])) : W p l e room_1 s m #[Value.ref b] below meth c H locs K N (lw_Z below #[Value.ref b] s) (F0 m 699 ls []) := by
  obtain ⟨hx, hb, hr, hml, hown, hts, hX, hbl, hlocks, hgv⟩ := id C0
  have S : SF p m c code 4 s #[Value.ref b] RL := ⟨hx, hb, hml, hown, fun w h => hts w (wT_lw h)⟩
  refine lv_aload_n hx hb (oc_43 699 (aq_4 shL_law_695)) rfl (lvA1 hl) ?_
  refine lv_aload_n hx hb (oc_42 700 (aq_5 shL_law_695)) rfl (lvA0 hl) ?_
  refine lv_iload_n hx hb (oc_29 701 (aq_6 shL_law_695)) rfl (lvA3 hl) ?_
  refine lv_iconst (v := 1) hx hb (oc_4 702 (aq_7 shL_law_695)) kic_1 ?_
  refine lv_iadd hx hb (oc_96 703 (aq_8 shL_law_695)) ?_
  refine lv_topi (fun y_1 ey_1 => ?_)
  obtain rfl : y_1 = nI (i + 1) := ey_1.trans (nI_add i 1)
  refine va_sld hx hb hX hbl hbA hS (vp_in_nI (by omega) (by omega)) (oc_46 704 (aq_9 shL_law_695)) ?_
  refine lv_topi (fun y_2 ey_2 => ?_)
  obtain rfl : y_2 = xs (nI (i + 1)).toNatClampNeg := ey_2
  refine lv_aload_n hx hb (oc_42 705 (aq_10 shL_law_695)) rfl (lvA0 hl) ?_
  refine lv_iload_n hx hb (oc_29 706 (aq_11 shL_law_695)) rfl (lvA3 hl) ?_
  refine lv_iconst (v := 2) hx hb (oc_5 707 (aq_12 shL_law_695)) kic_2 ?_
  refine lv_iadd hx hb (oc_96 708 (aq_13 shL_law_695)) ?_
  refine lv_topi (fun y_3 ey_3 => ?_)
  obtain rfl : y_3 = nI (i + 2) := ey_3.trans (nI_add i 2)
  refine va_sld hx hb hX hbl hbA hS (vp_in_nI (by omega) (by omega)) (oc_46 709 (aq_14 shL_law_695)) ?_
  refine lv_topi (fun y_4 ey_4 => ?_)
  obtain rfl : y_4 = xs (nI (i + 2)).toNatClampNeg := ey_4
  refine vp_callSl (runV_rxa (As := [.int (xs (nI (i + 1)).toNatClampNeg), .int (xs (nI (i + 2)).toNatClampNeg)]) (rest := []) S (q_Xbeyond l D cI cB cZ zz qq vv bt g ad cn In Fn (xs (nI (i + 1)).toNatClampNeg) (xs (nI (i + 2)).toNatClampNeg) hI.1) kV_RL_64 hK hXS hS (exP hP) 0 xo_0 rfl rfl ⟨Nat.le_of_ble_eq_true rfl, Nat.le_of_ble_eq_true rfl⟩ ⟨(by show K + 0 ≤ 600000; omega), (by show N + 0 ≤ 7302250; omega)⟩ rfl hl.1 rfl (Nat.le_of_ble_eq_true rfl) (oc_182 710 (aq_15 shL_law_695) uw_0_64)) (fun r4 w4 => ?_)
  refine lv_pop2_2 hx hb (oc_88 713 (aq_18 shL_law_695)) rfl ?_
  refine lv_aload_n hx hb (oc_44 714 (aq_19 shL_law_695)) rfl (lvA2 hl) ?_
  refine lv_aload_n hx hb (oc_42 715 (aq_20 shL_law_695)) rfl (lvA0 hl) ?_
  refine lv_iload_n hx hb (oc_29 716 (aq_21 shL_law_695)) rfl (lvA3 hl) ?_
  refine lv_iconst (v := 1) hx hb (oc_4 717 (aq_22 shL_law_695)) kic_1 ?_
  refine lv_iadd hx hb (oc_96 718 (aq_23 shL_law_695)) ?_
  refine lv_topi (fun y_6 ey_6 => ?_)
  obtain rfl : y_6 = nI (i + 1) := ey_6.trans (nI_add i 1)
  refine va_sld hx hb hX hbl hbA hS (vp_in_nI (by omega) (by omega)) (oc_46 719 shL_law_719) ?_
  refine lv_topi (fun y_7 ey_7 => ?_)
  obtain rfl : y_7 = xs (nI (i + 1)).toNatClampNeg := ey_7
  refine lv_aload_n hx hb (oc_42 720 (aq_1 shL_law_719)) rfl (lvA0 hl) ?_
  refine lv_iload_n hx hb (oc_29 721 (aq_2 shL_law_719)) rfl (lvA3 hl) ?_
  refine lv_iconst (v := 2) hx hb (oc_5 722 (aq_3 shL_law_719)) kic_2 ?_
  refine lv_iadd hx hb (oc_96 723 (aq_4 shL_law_719)) ?_
  refine lv_topi (fun y_8 ey_8 => ?_)
  obtain rfl : y_8 = nI (i + 2) := ey_8.trans (nI_add i 2)
  refine va_sld hx hb hX hbl hbA hS (vp_in_nI (by omega) (by omega)) (oc_46 724 (aq_5 shL_law_719)) ?_
  refine lv_topi (fun y_9 ey_9 => ?_)
  obtain rfl : y_9 = xs (nI (i + 2)).toNatClampNeg := ey_9
  refine vp_callSl (runV_ra (As := [.int (xs (nI (i + 1)).toNatClampNeg), .int (xs (nI (i + 2)).toNatClampNeg)]) (rest := []) S (q_beyond l D cI cB cZ g2 c3 I3 F3 (xs (nI (i + 1)).toNatClampNeg) (xs (nI (i + 2)).toNatClampNeg) hM.1) kV_RL_68 hK (exPr hP) 0 rfl rfl rfl ⟨Nat.le_of_ble_eq_true rfl, Nat.le_of_ble_eq_true rfl⟩ ⟨(by show K + 0 ≤ 600000; omega), (by show N + 0 ≤ 7302250; omega)⟩ rfl hl.1 rfl (Nat.le_of_ble_eq_true rfl) (oc_182 725 (aq_6 shL_law_719) uw_0_68)) (fun r9 w9 => ?_)
  refine lv_pop2_2 hx hb (oc_88 728 (aq_9 shL_law_719)) rfl ?_
  refine lv_goto (tgt := 2269) hx hb (oc_167 729 (aq_10 shL_law_719) sgw_6_4) rfl ?_
  refine W.widen (k := K + 8) (n := N + 240) (by omega) (by omega) ?_
  exact kk _ _ _ _ _ _ _ _ _ hI hM hR hP hD hS ls hl
set_option maxRecDepth 100000 in
set_option maxHeartbeats 4000000 in
theorem lawc_12 {p : Program} {l : Launch} {e : Env} {s : State} {m : MethodId} {below : List Frame} {meth : Method} {c : Code} {b L : Nat} {xs : Nat → Int32} (C0 : lw_At p s m meth c b L xs) (hLN : L ≤ 3584) {A : Nat → Prop} (hA : ∀ q : Nat, s.heap.size ≤ q → A q) (hbA : ¬ A b) {D : va_G} {cI cB cZ : ClassId} {zz qq vv : Nat} {bt : Nat → Int32} {g g2 : Nat → Nat} (hK : KK D cI cB cZ s) (hXS : XS D zz qq vv bt A s s.heap) {ad : Nat → Nat → Nat} {cn : Nat → Nat} {In : Nat → Int32} {Fn : Nat → Nat → Int32} {c3 : Nat → Nat} {I3 : Nat → Int32} {F3 : Nat → Nat → Int32} (hI : IX ad cn Fn) (hM : IMM c3 F3) (hR : RR cn Fn c3 F3) {H : Heap} {locs : List Loc} (hP : va_P D vwCl (wX cI (D.1 99) zz g ad cn In Fn ++ wM cI cB cZ g2 c3 I3 F3) H) (hD : va_D A (wX cI (D.1 99) zz g ad cn In Fn ++ wM cI cB cZ g2 c3 I3 F3)) (hS : va_S A s.heap H locs) {K N i : Nat} (hi : i + 7 ≤ L) (hKN : K + 8 ≤ 600000 ∧ N + 240 ≤ 7302250) {ls : Array Slot} (hl : lv_has ls 4 [(0, .ref b), (1, .ref (g 0)), (2, .ref (g2 100)), (3, .int (nI i))]) (kk : ∀ (ad : Nat → Nat → Nat) (cn : Nat → Nat) (In : Nat → Int32) (Fn : Nat → Nat → Int32) (c3 : Nat → Nat) (I3 : Nat → Int32) (F3 : Nat → Nat → Int32) (H : Heap) (locs : List Loc), IX ad cn Fn → IMM c3 F3 → RR cn Fn c3 F3 → va_P D vwCl (wX cI (D.1 99) zz g ad cn In Fn ++ wM cI cB cZ g2 c3 I3 F3) H → va_D A (wX cI (D.1 99) zz g ad cn In Fn ++ wM cI cB cZ g2 c3 I3 F3) → va_S A s.heap H locs → ∀ ls : Array Slot, lv_has ls 4 [(0, .ref b), (1, .ref (g 0)), (2, .ref (g2 100)), (3, .int (nI i))] → W p l e room_1 s m #[Value.ref b] below meth c H locs (K + 8) (N + 240) (lw_Z below #[Value.ref b] s) (F0 m 2269 ls [])) : W p l e room_1 s m #[Value.ref b] below meth c H locs K N (lw_Z below #[Value.ref b] s) (F0 m 732 ls []) := by
  obtain ⟨hx, hb, hr, hml, hown, hts, hX, hbl, hlocks, hgv⟩ := id C0
  have S : SF p m c code 4 s #[Value.ref b] RL := ⟨hx, hb, hml, hown, fun w h => hts w (wT_lw h)⟩
  refine lv_aload_n hx hb (oc_43 732 (aq_13 shL_law_719)) rfl (lvA1 hl) ?_
  refine lv_aload_n hx hb (oc_42 733 (aq_14 shL_law_719)) rfl (lvA0 hl) ?_
  refine lv_iload_n hx hb (oc_29 734 (aq_15 shL_law_719)) rfl (lvA3 hl) ?_
  refine lv_iconst (v := 1) hx hb (oc_4 735 (aq_16 shL_law_719)) kic_1 ?_
  refine lv_iadd hx hb (oc_96 736 (aq_17 shL_law_719)) ?_
  refine lv_topi (fun y_1 ey_1 => ?_)
  obtain rfl : y_1 = nI (i + 1) := ey_1.trans (nI_add i 1)
  refine va_sld hx hb hX hbl hbA hS (vp_in_nI (by omega) (by omega)) (oc_46 737 (aq_18 shL_law_719)) ?_
  refine lv_topi (fun y_2 ey_2 => ?_)
  obtain rfl : y_2 = xs (nI (i + 1)).toNatClampNeg := ey_2
  refine lv_aload_n hx hb (oc_42 738 (aq_19 shL_law_719)) rfl (lvA0 hl) ?_
  refine lv_iload_n hx hb (oc_29 739 (aq_20 shL_law_719)) rfl (lvA3 hl) ?_
  refine lv_iconst (v := 2) hx hb (oc_5 740 (aq_21 shL_law_719)) kic_2 ?_
  refine lv_iadd hx hb (oc_96 741 (aq_22 shL_law_719)) ?_
  refine lv_topi (fun y_3 ey_3 => ?_)
  obtain rfl : y_3 = nI (i + 2) := ey_3.trans (nI_add i 2)
  refine va_sld hx hb hX hbl hbA hS (vp_in_nI (by omega) (by omega)) (oc_46 742 (aq_23 shL_law_719)) ?_
  refine lv_topi (fun y_4 ey_4 => ?_)
  obtain rfl : y_4 = xs (nI (i + 2)).toNatClampNeg := ey_4
  refine lv_aload_n hx hb (oc_42 743 shL_law_743) rfl (lvA0 hl) ?_
  refine lv_iload_n hx hb (oc_29 744 (aq_1 shL_law_743)) rfl (lvA3 hl) ?_
  refine lv_iconst (v := 3) hx hb (oc_6 745 (aq_2 shL_law_743)) kic_3 ?_
  refine lv_iadd hx hb (oc_96 746 (aq_3 shL_law_743)) ?_
  refine lv_topi (fun y_5 ey_5 => ?_)
  obtain rfl : y_5 = nI (i + 3) := ey_5.trans (nI_add i 3)
  refine va_sld hx hb hX hbl hbA hS (vp_in_nI (by omega) (by omega)) (oc_46 747 (aq_4 shL_law_743)) ?_
  refine lv_topi (fun y_6 ey_6 => ?_)
  obtain rfl : y_6 = xs (nI (i + 3)).toNatClampNeg := ey_6
  have hFc := free_all (exD hD) hS hA
  refine va_calli (runV_xa (As := [.int (xs (nI (i + 1)).toNatClampNeg), .int (xs (nI (i + 2)).toNatClampNeg), .int (xs (nI (i + 3)).toNatClampNeg)]) (rest := []) S (q_Xround l D cI cB cZ zz qq vv bt g ad cn In Fn (xs (nI (i + 1)).toNatClampNeg) (xs (nI (i + 2)).toNatClampNeg) (xs (nI (i + 3)).toNatClampNeg) H.size hI.1) kV_RL_69 hK hXS hS hFc (exP hP) (exD hD) 0 xo_0 rfl rfl ⟨Nat.le_of_ble_eq_true rfl, Nat.le_of_ble_eq_true rfl⟩ ⟨(by show K + 0 ≤ 600000; omega), (by show N + 0 ≤ 7302250; omega)⟩ rfl hl.1 rfl (Nat.le_of_ble_eq_true rfl) (oc_182 748 (aq_5 shL_law_743) uw_0_69)) hS (fun q _ h => hFc q h) hFc (fun r6 u t H1 locs ht hvm w6 hB1 hz1 hk1 hS => ?_)
  obtain ⟨c6, I6, F6⟩ := u
  obtain ⟨hP1, hD1⟩ := hB1
  rw [ht] at hP1
  obtain ⟨hP, hD⟩ := exjoinL hP hD hk1 hFc hP1 hD1
  generalize H1 = H at hP hS ⊢
  have hd6 := w6.1.1
  have hf6 := w6.1.2.2
  have hI := IX.fr hI w6.1 w6.2.1 (by decide) (by decide)
  have hR := RR.fx hR hd6 hf6 (by decide) (by decide)
  refine lv_pop hx hb (oc_87 751 (aq_8 shL_law_743)) rfl ?_
  refine lv_aload_n hx hb (oc_44 752 (aq_9 shL_law_743)) rfl (lvA2 hl) ?_
  refine lv_aload_n hx hb (oc_42 753 (aq_10 shL_law_743)) rfl (lvA0 hl) ?_
  refine lv_iload_n hx hb (oc_29 754 (aq_11 shL_law_743)) rfl (lvA3 hl) ?_
  refine lv_iconst (v := 1) hx hb (oc_4 755 (aq_12 shL_law_743)) kic_1 ?_
  refine lv_iadd hx hb (oc_96 756 (aq_13 shL_law_743)) ?_
  refine lv_topi (fun y_8 ey_8 => ?_)
  obtain rfl : y_8 = nI (i + 1) := ey_8.trans (nI_add i 1)
  refine va_sld hx hb hX hbl hbA hS (vp_in_nI (by omega) (by omega)) (oc_46 757 (aq_14 shL_law_743)) ?_
  refine lv_topi (fun y_9 ey_9 => ?_)
  obtain rfl : y_9 = xs (nI (i + 1)).toNatClampNeg := ey_9
  refine lv_aload_n hx hb (oc_42 758 (aq_15 shL_law_743)) rfl (lvA0 hl) ?_
  refine lv_iload_n hx hb (oc_29 759 (aq_16 shL_law_743)) rfl (lvA3 hl) ?_
  refine lv_iconst (v := 2) hx hb (oc_5 760 (aq_17 shL_law_743)) kic_2 ?_
  refine lv_iadd hx hb (oc_96 761 (aq_18 shL_law_743)) ?_
  refine lv_topi (fun y_10 ey_10 => ?_)
  obtain rfl : y_10 = nI (i + 2) := ey_10.trans (nI_add i 2)
  refine va_sld hx hb hX hbl hbA hS (vp_in_nI (by omega) (by omega)) (oc_46 762 (aq_19 shL_law_743)) ?_
  refine lv_topi (fun y_11 ey_11 => ?_)
  obtain rfl : y_11 = xs (nI (i + 2)).toNatClampNeg := ey_11
  refine lv_aload_n hx hb (oc_42 763 (aq_20 shL_law_743)) rfl (lvA0 hl) ?_
  refine lv_iload_n hx hb (oc_29 764 (aq_21 shL_law_743)) rfl (lvA3 hl) ?_
  refine lv_iconst (v := 3) hx hb (oc_6 765 (aq_22 shL_law_743)) kic_3 ?_
  refine lv_iadd hx hb (oc_96 766 (aq_23 shL_law_743)) ?_
  refine lv_topi (fun y_12 ey_12 => ?_)
  obtain rfl : y_12 = nI (i + 3) := ey_12.trans (nI_add i 3)
  refine va_sld hx hb hX hbl hbA hS (vp_in_nI (by omega) (by omega)) (oc_46 767 shL_law_767) ?_
  refine lv_topi (fun y_13 ey_13 => ?_)
  obtain rfl : y_13 = xs (nI (i + 3)).toNatClampNeg := ey_13
  have hFc := free_all (exDr hD) hS hA
  refine va_calli (runV_a (As := [.int (xs (nI (i + 1)).toNatClampNeg), .int (xs (nI (i + 2)).toNatClampNeg), .int (xs (nI (i + 3)).toNatClampNeg)]) (rest := []) S (q_round l D cI cB cZ g2 c3 I3 F3 (xs (nI (i + 1)).toNatClampNeg) (xs (nI (i + 2)).toNatClampNeg) (xs (nI (i + 3)).toNatClampNeg) H.size hM.1) kV_RL_73 hK (exPr hP) (exDr hD) 0 rfl rfl rfl ⟨Nat.le_of_ble_eq_true rfl, Nat.le_of_ble_eq_true rfl⟩ ⟨(by show K + 0 ≤ 600000; omega), (by show N + 0 ≤ 7302250; omega)⟩ rfl hl.1 rfl (Nat.le_of_ble_eq_true rfl) (oc_182 768 (aq_1 shL_law_767) uw_0_73)) hS (fun q _ h => hFc q h) hFc (fun r13 u t H1 locs ht hvm w13 hB1 hz1 hk1 hS => ?_)
  obtain ⟨c13, I13, F13⟩ := u
  obtain ⟨hP1, hD1⟩ := hB1
  rw [ht] at hP1
  obtain ⟨hP, hD⟩ := exjoin hP hD hk1 hFc hP1 hD1
  generalize H1 = H at hP hS ⊢
  obtain ⟨hM, hd13, hf13⟩ := imm_round hM w13
  have hR := RR.fm hR hd13 hf13 (by decide) (by decide)
  refine lv_pop hx hb (oc_87 771 (aq_4 shL_law_767)) rfl ?_
  refine lv_goto (tgt := 2269) hx hb (oc_167 772 (aq_5 shL_law_767) sgw_5_217) rfl ?_
  refine W.widen (k := K + 8) (n := N + 240) (by omega) (by omega) ?_
  exact kk _ _ _ _ _ _ _ _ _ hI hM hR hP hD hS ls hl
set_option maxRecDepth 100000 in
set_option maxHeartbeats 4000000 in
theorem lawc_13 {p : Program} {l : Launch} {e : Env} {s : State} {m : MethodId} {below : List Frame} {meth : Method} {c : Code} {b L : Nat} {xs : Nat → Int32} (C0 : lw_At p s m meth c b L xs) (hLN : L ≤ 3584) {A : Nat → Prop} (hA : ∀ q : Nat, s.heap.size ≤ q → A q) (hbA : ¬ A b) {D : va_G} {cI cB cZ : ClassId} {zz qq vv : Nat} {bt : Nat → Int32} {g g2 : Nat → Nat} (hK : KK D cI cB cZ s) (hXS : XS D zz qq vv bt A s s.heap) {ad : Nat → Nat → Nat} {cn : Nat → Nat} {In : Nat → Int32} {Fn : Nat → Nat → Int32} {c3 : Nat → Nat} {I3 : Nat → Int32} {F3 : Nat → Nat → Int32} (hI : IX ad cn Fn) (hM : IMM c3 F3) (hR : RR cn Fn c3 F3) {H : Heap} {locs : List Loc} (hP : va_P D vwCl (wX cI (D.1 99) zz g ad cn In Fn ++ wM cI cB cZ g2 c3 I3 F3) H) (hD : va_D A (wX cI (D.1 99) zz g ad cn In Fn ++ wM cI cB cZ g2 c3 I3 F3)) (hS : va_S A s.heap H locs) {K N i : Nat} (hi : i + 7 ≤ L) (hKN : K + 8 ≤ 600000 ∧ N + 240 ≤ 7302250) {ls : Array Slot} (hl : lv_has ls 4 [(0, .ref b), (1, .ref (g 0)), (2, .ref (g2 100)), (3, .int (nI i))]) (kk : ∀ (ad : Nat → Nat → Nat) (cn : Nat → Nat) (In : Nat → Int32) (Fn : Nat → Nat → Int32) (c3 : Nat → Nat) (I3 : Nat → Int32) (F3 : Nat → Nat → Int32) (H : Heap) (locs : List Loc), IX ad cn Fn → IMM c3 F3 → RR cn Fn c3 F3 → va_P D vwCl (wX cI (D.1 99) zz g ad cn In Fn ++ wM cI cB cZ g2 c3 I3 F3) H → va_D A (wX cI (D.1 99) zz g ad cn In Fn ++ wM cI cB cZ g2 c3 I3 F3) → va_S A s.heap H locs → ∀ ls : Array Slot, lv_has ls 4 [(0, .ref b), (1, .ref (g 0)), (2, .ref (g2 100)), (3, .int (nI i))] → W p l e room_1 s m #[Value.ref b] below meth c H locs (K + 8) (N + 240) (lw_Z below #[Value.ref b] s) (F0 m 2269 ls [])) : W p l e room_1 s m #[Value.ref b] below meth c H locs K N (lw_Z below #[Value.ref b] s) (F0 m 775 ls []) := by
  obtain ⟨hx, hb, hr, hml, hown, hts, hX, hbl, hlocks, hgv⟩ := id C0
  have S : SF p m c code 4 s #[Value.ref b] RL := ⟨hx, hb, hml, hown, fun w h => hts w (wT_lw h)⟩
  refine lv_aload_n hx hb (oc_43 775 (aq_8 shL_law_767)) rfl (lvA1 hl) ?_
  refine lv_aload_n hx hb (oc_42 776 (aq_9 shL_law_767)) rfl (lvA0 hl) ?_
  refine lv_iload_n hx hb (oc_29 777 (aq_10 shL_law_767)) rfl (lvA3 hl) ?_
  refine lv_iconst (v := 1) hx hb (oc_4 778 (aq_11 shL_law_767)) kic_1 ?_
  refine lv_iadd hx hb (oc_96 779 (aq_12 shL_law_767)) ?_
  refine lv_topi (fun y_1 ey_1 => ?_)
  obtain rfl : y_1 = nI (i + 1) := ey_1.trans (nI_add i 1)
  refine va_sld hx hb hX hbl hbA hS (vp_in_nI (by omega) (by omega)) (oc_46 780 (aq_13 shL_law_767)) ?_
  refine lv_topi (fun y_2 ey_2 => ?_)
  obtain rfl : y_2 = xs (nI (i + 1)).toNatClampNeg := ey_2
  have hFc := free_all (exD hD) hS hA
  refine va_calli (runV_xa (As := [.int (xs (nI (i + 1)).toNatClampNeg)]) (rest := []) S (q_Xdriven l D cI cB cZ zz qq vv bt g ad cn In Fn (xs (nI (i + 1)).toNatClampNeg) H.size hI.1) kV_RL_74 hK hXS hS hFc (exP hP) (exD hD) 0 xo_0 rfl rfl ⟨Nat.le_of_ble_eq_true rfl, Nat.le_of_ble_eq_true rfl⟩ ⟨(by show K + 0 ≤ 600000; omega), (by show N + 0 ≤ 7302250; omega)⟩ rfl hl.1 rfl (Nat.le_of_ble_eq_true rfl) (oc_182 781 (aq_14 shL_law_767) uw_0_74)) hS (fun q _ h => hFc q h) hFc (fun r2 u t H1 locs ht hvm w2 hB1 hz1 hk1 hS => ?_)
  obtain ⟨c2, I2, F2⟩ := u
  obtain ⟨hP1, hD1⟩ := hB1
  rw [ht] at hP1
  obtain ⟨hP, hD⟩ := exjoinL hP hD hk1 hFc hP1 hD1
  generalize H1 = H at hP hS ⊢
  have hd2 := w2.1.1
  have hf2 := w2.1.2.2
  have hI := IX.fr hI w2.1 w2.2.1 (by decide) (by decide)
  have hR := RR.fx hR hd2 hf2 (by decide) (by decide)
  refine lv_pop hx hb (oc_87 784 (aq_17 shL_law_767)) rfl ?_
  refine lv_aload_n hx hb (oc_44 785 (aq_18 shL_law_767)) rfl (lvA2 hl) ?_
  refine lv_aload_n hx hb (oc_42 786 (aq_19 shL_law_767)) rfl (lvA0 hl) ?_
  refine lv_iload_n hx hb (oc_29 787 (aq_20 shL_law_767)) rfl (lvA3 hl) ?_
  refine lv_iconst (v := 1) hx hb (oc_4 788 (aq_21 shL_law_767)) kic_1 ?_
  refine lv_iadd hx hb (oc_96 789 (aq_22 shL_law_767)) ?_
  refine lv_topi (fun y_4 ey_4 => ?_)
  obtain rfl : y_4 = nI (i + 1) := ey_4.trans (nI_add i 1)
  refine va_sld hx hb hX hbl hbA hS (vp_in_nI (by omega) (by omega)) (oc_46 790 (aq_23 shL_law_767)) ?_
  refine lv_topi (fun y_5 ey_5 => ?_)
  obtain rfl : y_5 = xs (nI (i + 1)).toNatClampNeg := ey_5
  have hFc := free_all (exDr hD) hS hA
  refine va_calli (runV_a (As := [.int (xs (nI (i + 1)).toNatClampNeg)]) (rest := []) S (q_driven8 l D cI cB cZ g2 c3 I3 F3 (xs (nI (i + 1)).toNatClampNeg) H.size hM.1 hM.2) kV_RL_77 hK (exPr hP) (exDr hD) 0 rfl rfl rfl ⟨Nat.le_of_ble_eq_true rfl, Nat.le_of_ble_eq_true rfl⟩ ⟨(by show K + 0 ≤ 600000; omega), (by show N + 0 ≤ 7302250; omega)⟩ rfl hl.1 rfl (Nat.le_of_ble_eq_true rfl) (oc_182 791 shL_law_791 uw_0_77)) hS (fun q _ h => hFc q h) hFc (fun r5 u t H1 locs ht hvm w5 hB1 hz1 hk1 hS => ?_)
  obtain ⟨c5, I5, F5⟩ := u
  obtain ⟨hP1, hD1⟩ := hB1
  rw [ht] at hP1
  obtain ⟨hP, hD⟩ := exjoin hP hD hk1 hFc hP1 hD1
  generalize H1 = H at hP hS ⊢
  obtain ⟨hM, hd5, hf5⟩ := imm_driven8 hM w5
  have hR := RR.fm hR hd5 hf5 (by decide) (by decide)
  refine lv_pop hx hb (oc_87 794 (aq_3 shL_law_791)) rfl ?_
  refine lv_goto (tgt := 2269) hx hb (oc_167 795 (aq_4 shL_law_791) sgw_5_194) rfl ?_
  refine W.widen (k := K + 8) (n := N + 240) (by omega) (by omega) ?_
  exact kk _ _ _ _ _ _ _ _ _ hI hM hR hP hD hS ls hl
set_option maxRecDepth 100000 in
set_option maxHeartbeats 4000000 in
theorem lawc_14 {p : Program} {l : Launch} {e : Env} {s : State} {m : MethodId} {below : List Frame} {meth : Method} {c : Code} {b L : Nat} {xs : Nat → Int32} (C0 : lw_At p s m meth c b L xs) (hLN : L ≤ 3584) {A : Nat → Prop} (hA : ∀ q : Nat, s.heap.size ≤ q → A q) (hbA : ¬ A b) {D : va_G} {cI cB cZ : ClassId} {zz qq vv : Nat} {bt : Nat → Int32} {g g2 : Nat → Nat} (hK : KK D cI cB cZ s) (hXS : XS D zz qq vv bt A s s.heap) {ad : Nat → Nat → Nat} {cn : Nat → Nat} {In : Nat → Int32} {Fn : Nat → Nat → Int32} {c3 : Nat → Nat} {I3 : Nat → Int32} {F3 : Nat → Nat → Int32} (hI : IX ad cn Fn) (hM : IMM c3 F3) (hR : RR cn Fn c3 F3) {H : Heap} {locs : List Loc} (hP : va_P D vwCl (wX cI (D.1 99) zz g ad cn In Fn ++ wM cI cB cZ g2 c3 I3 F3) H) (hD : va_D A (wX cI (D.1 99) zz g ad cn In Fn ++ wM cI cB cZ g2 c3 I3 F3)) (hS : va_S A s.heap H locs) {K N i : Nat} (hi : i + 7 ≤ L) (hKN : K + 8 ≤ 600000 ∧ N + 240 ≤ 7302250) {ls : Array Slot} (hl : lv_has ls 4 [(0, .ref b), (1, .ref (g 0)), (2, .ref (g2 100)), (3, .int (nI i))]) (kk : ∀ (ad : Nat → Nat → Nat) (cn : Nat → Nat) (In : Nat → Int32) (Fn : Nat → Nat → Int32) (c3 : Nat → Nat) (I3 : Nat → Int32) (F3 : Nat → Nat → Int32) (H : Heap) (locs : List Loc), IX ad cn Fn → IMM c3 F3 → RR cn Fn c3 F3 → va_P D vwCl (wX cI (D.1 99) zz g ad cn In Fn ++ wM cI cB cZ g2 c3 I3 F3) H → va_D A (wX cI (D.1 99) zz g ad cn In Fn ++ wM cI cB cZ g2 c3 I3 F3) → va_S A s.heap H locs → ∀ ls : Array Slot, lv_has ls 4 [(0, .ref b), (1, .ref (g 0)), (2, .ref (g2 100)), (3, .int (nI i))] → W p l e room_1 s m #[Value.ref b] below meth c H locs (K + 8) (N + 240) (lw_Z below #[Value.ref b] s) (F0 m 2269 ls [])) : W p l e room_1 s m #[Value.ref b] below meth c H locs K N (lw_Z below #[Value.ref b] s) (F0 m 798 ls []) := by
  obtain ⟨hx, hb, hr, hml, hown, hts, hX, hbl, hlocks, hgv⟩ := id C0
  have S : SF p m c code 4 s #[Value.ref b] RL := ⟨hx, hb, hml, hown, fun w h => hts w (wT_lw h)⟩
  refine lv_aload_n hx hb (oc_43 798 (aq_7 shL_law_791)) rfl (lvA1 hl) ?_
  refine lv_aload_n hx hb (oc_42 799 (aq_8 shL_law_791)) rfl (lvA0 hl) ?_
  refine lv_iload_n hx hb (oc_29 800 (aq_9 shL_law_791)) rfl (lvA3 hl) ?_
  refine lv_iconst (v := 1) hx hb (oc_4 801 (aq_10 shL_law_791)) kic_1 ?_
  refine lv_iadd hx hb (oc_96 802 (aq_11 shL_law_791)) ?_
  refine lv_topi (fun y_1 ey_1 => ?_)
  obtain rfl : y_1 = nI (i + 1) := ey_1.trans (nI_add i 1)
  refine va_sld hx hb hX hbl hbA hS (vp_in_nI (by omega) (by omega)) (oc_46 803 (aq_12 shL_law_791)) ?_
  refine lv_topi (fun y_2 ey_2 => ?_)
  obtain rfl : y_2 = xs (nI (i + 1)).toNatClampNeg := ey_2
  have hFc := free_all (exD hD) hS hA
  refine va_calli (runV_xa (As := [.int (xs (nI (i + 1)).toNatClampNeg)]) (rest := []) S (q_Xbatch l D cI cB cZ zz qq vv bt g ad cn In Fn (xs (nI (i + 1)).toNatClampNeg) H.size hI.1 hI.2.1 hI.2.2.1) kV_RL_78 hK hXS hS hFc (exP hP) (exD hD) 0 xo_0 rfl rfl ⟨Nat.le_of_ble_eq_true rfl, Nat.le_of_ble_eq_true rfl⟩ ⟨(by show K + 3 ≤ 600000; omega), (by show N + 120 ≤ 7302250; omega)⟩ rfl hl.1 rfl (Nat.le_of_ble_eq_true rfl) (oc_182 804 (aq_13 shL_law_791) uw_0_78)) hS (fun q _ h => hFc q h) hFc (fun r2 u t H1 locs ht hvm w2 hB1 hz1 hk1 hS => ?_)
  obtain ⟨a2, c2, I2, F2⟩ := u
  obtain ⟨hP1, hD1⟩ := hB1
  rw [ht] at hP1
  obtain ⟨hP, hD⟩ := exjoinL hP hD hk1 hFc hP1 hD1
  generalize H1 = H at hP hS ⊢
  obtain ⟨hI, hd2, hf2⟩ := ix_batch hI w2
  have hR := RR.fx hR hd2 hf2 (by decide) (by decide)
  refine lv_pop hx hb (oc_87 807 (aq_16 shL_law_791)) rfl ?_
  refine lv_aload_n hx hb (oc_44 808 (aq_17 shL_law_791)) rfl (lvA2 hl) ?_
  refine lv_aload_n hx hb (oc_42 809 (aq_18 shL_law_791)) rfl (lvA0 hl) ?_
  refine lv_iload_n hx hb (oc_29 810 (aq_19 shL_law_791)) rfl (lvA3 hl) ?_
  refine lv_iconst (v := 1) hx hb (oc_4 811 (aq_20 shL_law_791)) kic_1 ?_
  refine lv_iadd hx hb (oc_96 812 (aq_21 shL_law_791)) ?_
  refine lv_topi (fun y_4 ey_4 => ?_)
  obtain rfl : y_4 = nI (i + 1) := ey_4.trans (nI_add i 1)
  refine va_sld hx hb hX hbl hbA hS (vp_in_nI (by omega) (by omega)) (oc_46 813 (aq_22 shL_law_791)) ?_
  refine lv_topi (fun y_5 ey_5 => ?_)
  obtain rfl : y_5 = xs (nI (i + 1)).toNatClampNeg := ey_5
  have hFc := free_all (exDr hD) hS hA
  refine va_calli (runV_a (As := [.int (xs (nI (i + 1)).toNatClampNeg)]) (rest := []) S (q_batch l D cI cB cZ g2 c3 I3 F3 (xs (nI (i + 1)).toNatClampNeg) H.size hM.1) kV_RL_81 hK (exPr hP) (exDr hD) 0 rfl rfl rfl ⟨Nat.le_of_ble_eq_true rfl, Nat.le_of_ble_eq_true rfl⟩ ⟨(by show K + 3 + 0 ≤ 600000; omega), (by show N + 120 + 0 ≤ 7302250; omega)⟩ rfl hl.1 rfl (Nat.le_of_ble_eq_true rfl) (oc_182 814 (aq_23 shL_law_791) uw_0_81)) hS (fun q _ h => hFc q h) hFc (fun r5 u t H1 locs ht hvm w5 hB1 hz1 hk1 hS => ?_)
  obtain ⟨c5, I5, F5⟩ := u
  obtain ⟨hP1, hD1⟩ := hB1
  rw [ht] at hP1
  obtain ⟨hP, hD⟩ := exjoin hP hD hk1 hFc hP1 hD1
  generalize H1 = H at hP hS ⊢
  obtain ⟨hM, hd5, hf5⟩ := imm_batch hM w5
  have hR := RR.fm hR hd5 hf5 (by decide) (by decide)
  refine lv_pop hx hb (oc_87 817 shL_law_817) rfl ?_
  refine lv_goto (tgt := 2269) hx hb (oc_167 818 (aq_1 shL_law_817) sgw_5_171) rfl ?_
  refine W.widen (k := K + 8) (n := N + 240) (by omega) (by omega) ?_
  exact kk _ _ _ _ _ _ _ _ _ hI hM hR hP hD hS ls hl
end

section
set_option maxRecDepth 100000 in
theorem kV_RL_82 : CalV RL 82 yX11_batchIs cX11_batchIs 4 (some .int) 2 := ⟨⟨wk5_3 3 rfl rfl, wk5_3 4 rfl rfl, wk5_3 5 rfl rfl, wk1_0 1 rfl rfl, wk5_3 6 rfl rfl⟩, ⟨nmh_0.1, nmh_0.2, pd_17⟩⟩
set_option maxRecDepth 100000 in
theorem kV_RL_85 : CalV RL 85 yX12_batchIs cX12_batchIs 3 (some .int) 2 := ⟨⟨wk8_18 1 rfl rfl, wk8_18 2 rfl rfl, wk8_18 3 rfl rfl, wk1_1 1 rfl rfl, wk8_18 4 rfl rfl⟩, ⟨nmh_13.1, nmh_13.2, pd_17⟩⟩
set_option maxRecDepth 100000 in
theorem kV_RL_86 : CalV RL 86 yX11_blend cX11_blend 9 (some .int) 0 := ⟨⟨wk5_4 8 rfl rfl, wk5_4 9 rfl rfl, wk5_4 10 rfl rfl, wk1_0 1 rfl rfl, wk5_4 11 rfl rfl⟩, ⟨nmh_0.1, nmh_0.2, pd_1⟩⟩
set_option maxRecDepth 100000 in
theorem kV_RL_90 : CalV RL 90 yX12_blend cX12_blend 7 (some .int) 0 := ⟨⟨wk8_19 5 rfl rfl, wk8_19 6 rfl rfl, wk8_19 7 rfl rfl, wk1_1 1 rfl rfl, wk8_19 8 rfl rfl⟩, ⟨nmh_13.1, nmh_13.2, pd_1⟩⟩
set_option maxRecDepth 100000 in
theorem kV_RL_91 : CalV RL 91 yX11_proof cX11_proof 6 (some .int) 4 := ⟨⟨wk5_5 8 rfl rfl, wk5_5 9 rfl rfl, wk5_5 10 rfl rfl, wk1_0 1 rfl rfl, wk5_5 11 rfl rfl⟩, ⟨nmh_0.1, nmh_0.2, pd_27⟩⟩
set_option maxRecDepth 100000 in
theorem kV_RL_94 : CalV RL 94 yX12_proof cX12_proof 5 (some .int) 4 := ⟨⟨wk8_19 9 rfl rfl, wk8_19 10 rfl rfl, wk8_19 11 rfl rfl, wk1_1 1 rfl rfl, wk9_0 0 rfl rfl⟩, ⟨nmh_13.1, nmh_13.2, pd_27⟩⟩
set_option maxRecDepth 100000 in
theorem kV_RL_95 : CalV RL 95 yX11_twice cX11_twice 4 (some .int) 1 := ⟨⟨wk5_8 2 rfl rfl, wk5_8 3 rfl rfl, wk5_8 4 rfl rfl, wk1_0 1 rfl rfl, wk5_8 5 rfl rfl⟩, ⟨nmh_0.1, nmh_0.2, pd_8⟩⟩
set_option maxRecDepth 100000 in
theorem kV_RL_98 : CalV RL 98 yX12_twice cX12_twice 4 (some .int) 1 := ⟨⟨wk9_0 1 rfl rfl, wk9_0 2 rfl rfl, wk9_0 3 rfl rfl, wk1_1 1 rfl rfl, wk9_0 4 rfl rfl⟩, ⟨nmh_13.1, nmh_13.2, pd_8⟩⟩
set_option maxRecDepth 100000 in
theorem kV_RL_99 : CalV RL 99 yX11_bought cX11_bought 3 (some .int) 2 := ⟨⟨wk5_8 10 rfl rfl, wk5_8 11 rfl rfl, wk5_9 0 rfl rfl, wk1_0 1 rfl rfl, wk5_9 1 rfl rfl⟩, ⟨nmh_0.1, nmh_0.2, pd_17⟩⟩
set_option maxRecDepth 100000 in
theorem kV_RL_102 : CalV RL 102 yX12_bought cX12_bought 3 (some .int) 2 := ⟨⟨wk9_0 5 rfl rfl, wk9_0 6 rfl rfl, wk9_0 7 rfl rfl, wk1_1 1 rfl rfl, wk9_0 8 rfl rfl⟩, ⟨nmh_13.1, nmh_13.2, pd_17⟩⟩
set_option maxRecDepth 100000 in
theorem kV_RL_103 : CalV RL 103 yX11_offers cX11_offers 5 (some .boolean) 3 := ⟨⟨wk5_14 0 rfl rfl, wk5_14 1 rfl rfl, wk5_14 2 rfl rfl, wk1_0 1 rfl rfl, wk5_14 3 rfl rfl⟩, ⟨nmh_0.1, nmh_0.2, pd_26⟩⟩
set_option maxRecDepth 100000 in
theorem kV_RL_107 : CalV RL 107 yX12_offers cX12_offers 4 (some .boolean) 3 := ⟨⟨wk9_5 10 rfl rfl, wk9_5 11 rfl rfl, wk9_6 0 rfl rfl, wk1_1 1 rfl rfl, wk9_6 1 rfl rfl⟩, ⟨nmh_13.1, nmh_13.2, pd_26⟩⟩
set_option maxRecDepth 100000 in
theorem kV_RL_108 : CalV RL 108 yX11_worth cX11_worth 3 (some .int) 2 := ⟨⟨wk5_14 4 rfl rfl, wk5_14 5 rfl rfl, wk5_14 6 rfl rfl, wk1_0 1 rfl rfl, wk5_14 7 rfl rfl⟩, ⟨nmh_0.1, nmh_0.2, pd_17⟩⟩
set_option maxRecDepth 100000 in
theorem kV_RL_111 : CalV RL 111 yX12_worth cX12_worth 3 (some .int) 2 := ⟨⟨wk9_6 2 rfl rfl, wk9_6 3 rfl rfl, wk9_6 4 rfl rfl, wk1_1 1 rfl rfl, wk9_6 5 rfl rfl⟩, ⟨nmh_13.1, nmh_13.2, pd_17⟩⟩
set_option maxRecDepth 100000 in
theorem kV_RL_112 : CalV RL 112 yX11_offer cX11_offer 7 (some .int) 2 := ⟨⟨wk5_15 5 rfl rfl, wk5_15 6 rfl rfl, wk5_15 7 rfl rfl, wk1_0 1 rfl rfl, wk5_15 8 rfl rfl⟩, ⟨nmh_0.1, nmh_0.2, pd_17⟩⟩
set_option maxRecDepth 100000 in
theorem kV_RL_115 : CalV RL 115 yX12_offer cX12_offer 5 (some .int) 2 := ⟨⟨wk9_7 2 rfl rfl, wk9_7 3 rfl rfl, wk9_7 4 rfl rfl, wk1_1 1 rfl rfl, wk9_7 5 rfl rfl⟩, ⟨nmh_13.1, nmh_13.2, pd_17⟩⟩
set_option maxRecDepth 100000 in
theorem kV_RL_116 : CalV RL 116 yX11_thefts cX11_thefts 3 (some .boolean) 2 := ⟨⟨wk5_16 1 rfl rfl, wk5_16 2 rfl rfl, wk5_16 3 rfl rfl, wk1_0 1 rfl rfl, wk5_16 4 rfl rfl⟩, ⟨nmh_0.1, nmh_0.2, pd_21⟩⟩
set_option maxRecDepth 100000 in
theorem kV_RL_119 : CalV RL 119 yX12_thefts cX12_thefts 3 (some .boolean) 2 := ⟨⟨wk9_7 6 rfl rfl, wk9_7 7 rfl rfl, wk9_7 8 rfl rfl, wk1_1 1 rfl rfl, wk9_7 9 rfl rfl⟩, ⟨nmh_13.1, nmh_13.2, pd_21⟩⟩
set_option maxRecDepth 100000 in
theorem kV_RL_120 : CalV RL 120 yX11_lock cX11_lock 7 (some .int) 2 := ⟨⟨wk5_16 5 rfl rfl, wk5_16 6 rfl rfl, wk5_16 7 rfl rfl, wk1_0 1 rfl rfl, wk5_16 8 rfl rfl⟩, ⟨nmh_0.1, nmh_0.2, pd_17⟩⟩
set_option maxRecDepth 100000 in
theorem kV_RL_123 : CalV RL 123 yX12_lock cX12_lock 5 (some .int) 2 := ⟨⟨wk9_7 10 rfl rfl, wk9_7 11 rfl rfl, wk9_8 0 rfl rfl, wk1_1 1 rfl rfl, wk9_8 1 rfl rfl⟩, ⟨nmh_13.1, nmh_13.2, pd_17⟩⟩
set_option maxRecDepth 100000 in
theorem kV_RL_124 : CalV RL 124 yX11_sewer cX11_sewer 3 (some .int) 2 := ⟨⟨wk5_17 1 rfl rfl, wk5_17 2 rfl rfl, wk5_17 3 rfl rfl, wk1_0 1 rfl rfl, wk5_17 4 rfl rfl⟩, ⟨nmh_0.1, nmh_0.2, pd_17⟩⟩
set_option maxRecDepth 100000 in
theorem kV_RL_127 : CalV RL 127 yX12_sewer cX12_sewer 3 (some .int) 2 := ⟨⟨wk9_8 6 rfl rfl, wk9_8 7 rfl rfl, wk9_8 8 rfl rfl, wk1_1 1 rfl rfl, wk9_8 9 rfl rfl⟩, ⟨nmh_13.1, nmh_13.2, pd_17⟩⟩
set_option maxRecDepth 100000 in
theorem kV_RL_128 : CalV RL 128 yX11_blocked cX11_blocked 3 (some .int) 1 := ⟨⟨wk5_18 11 rfl rfl, wk5_19 0 rfl rfl, wk5_19 1 rfl rfl, wk1_0 1 rfl rfl, wk5_19 2 rfl rfl⟩, ⟨nmh_0.1, nmh_0.2, pd_8⟩⟩
set_option maxRecDepth 100000 in
theorem kV_RL_131 : CalV RL 131 yX12_blocked cX12_blocked 2 (some .int) 1 := ⟨⟨wk9_8 10 rfl rfl, wk9_8 11 rfl rfl, wk9_9 0 rfl rfl, wk1_1 1 rfl rfl, wk9_9 1 rfl rfl⟩, ⟨nmh_13.1, nmh_13.2, pd_8⟩⟩
set_option maxRecDepth 100000 in
theorem kV_RL_132 : CalV RL 132 yX11_beside cX11_beside 6 (some .int) 2 := ⟨⟨wk5_19 3 rfl rfl, wk5_19 4 rfl rfl, wk5_19 5 rfl rfl, wk1_0 1 rfl rfl, wk5_19 6 rfl rfl⟩, ⟨nmh_0.1, nmh_0.2, pd_17⟩⟩
set_option maxRecDepth 100000 in
theorem kV_RL_135 : CalV RL 135 yX12_beside cX12_beside 6 (some .int) 2 := ⟨⟨wk9_9 2 rfl rfl, wk9_9 3 rfl rfl, wk9_9 4 rfl rfl, wk1_1 1 rfl rfl, wk9_9 5 rfl rfl⟩, ⟨nmh_13.1, nmh_13.2, pd_17⟩⟩
set_option maxRecDepth 100000 in
theorem kV_RL_136 : CalV RL 136 yX11_degrees cX11_degrees 3 (some .boolean) 2 := ⟨⟨wk5_19 11 rfl rfl, wk6_0 0 rfl rfl, wk6_0 1 rfl rfl, wk1_0 1 rfl rfl, wk6_0 2 rfl rfl⟩, ⟨nmh_0.1, nmh_0.2, pd_21⟩⟩
set_option maxRecDepth 100000 in
theorem kV_RL_139 : CalV RL 139 yX12_degrees cX12_degrees 3 (some .boolean) 2 := ⟨⟨wk9_9 6 rfl rfl, wk9_9 7 rfl rfl, wk9_9 8 rfl rfl, wk1_1 1 rfl rfl, wk9_9 9 rfl rfl⟩, ⟨nmh_13.1, nmh_13.2, pd_21⟩⟩
set_option maxRecDepth 100000 in
theorem kV_RL_140 : CalV RL 140 yX11_late cX11_late 6 (some .int) 2 := ⟨⟨wk6_0 3 rfl rfl, wk6_0 4 rfl rfl, wk6_0 5 rfl rfl, wk1_0 1 rfl rfl, wk6_0 6 rfl rfl⟩, ⟨nmh_0.1, nmh_0.2, pd_17⟩⟩
set_option maxRecDepth 100000 in
theorem kV_RL_143 : CalV RL 143 yX12_late cX12_late 5 (some .int) 2 := ⟨⟨wk9_9 10 rfl rfl, wk9_9 11 rfl rfl, wk9_10 0 rfl rfl, wk1_1 1 rfl rfl, wk9_10 1 rfl rfl⟩, ⟨nmh_13.1, nmh_13.2, pd_17⟩⟩
set_option maxRecDepth 100000 in
set_option maxHeartbeats 4000000 in
theorem lawc_15 {p : Program} {l : Launch} {e : Env} {s : State} {m : MethodId} {below : List Frame} {meth : Method} {c : Code} {b L : Nat} {xs : Nat → Int32} (C0 : lw_At p s m meth c b L xs) (hLN : L ≤ 3584) {A : Nat → Prop} (hA : ∀ q : Nat, s.heap.size ≤ q → A q) (hbA : ¬ A b) {D : va_G} {cI cB cZ : ClassId} {zz qq vv : Nat} {bt : Nat → Int32} {g g2 : Nat → Nat} (hK : KK D cI cB cZ s) (hXS : XS D zz qq vv bt A s s.heap) {ad : Nat → Nat → Nat} {cn : Nat → Nat} {In : Nat → Int32} {Fn : Nat → Nat → Int32} {c3 : Nat → Nat} {I3 : Nat → Int32} {F3 : Nat → Nat → Int32} (hI : IX ad cn Fn) (hM : IMM c3 F3) (hR : RR cn Fn c3 F3) {H : Heap} {locs : List Loc} (hP : va_P D vwCl (wX cI (D.1 99) zz g ad cn In Fn ++ wM cI cB cZ g2 c3 I3 F3) H) (hD : va_D A (wX cI (D.1 99) zz g ad cn In Fn ++ wM cI cB cZ g2 c3 I3 F3)) (hS : va_S A s.heap H locs) {K N i : Nat} (hi : i + 7 ≤ L) (hKN : K + 8 ≤ 600000 ∧ N + 240 ≤ 7302250) {ls : Array Slot} (hl : lv_has ls 4 [(0, .ref b), (1, .ref (g 0)), (2, .ref (g2 100)), (3, .int (nI i))]) (kk : ∀ (ad : Nat → Nat → Nat) (cn : Nat → Nat) (In : Nat → Int32) (Fn : Nat → Nat → Int32) (c3 : Nat → Nat) (I3 : Nat → Int32) (F3 : Nat → Nat → Int32) (H : Heap) (locs : List Loc), IX ad cn Fn → IMM c3 F3 → RR cn Fn c3 F3 → va_P D vwCl (wX cI (D.1 99) zz g ad cn In Fn ++ wM cI cB cZ g2 c3 I3 F3) H → va_D A (wX cI (D.1 99) zz g ad cn In Fn ++ wM cI cB cZ g2 c3 I3 F3) → va_S A s.heap H locs → ∀ ls : Array Slot, lv_has ls 4 [(0, .ref b), (1, .ref (g 0)), (2, .ref (g2 100)), (3, .int (nI i))] → W p l e room_1 s m #[Value.ref b] below meth c H locs (K + 8) (N + 240) (lw_Z below #[Value.ref b] s) (F0 m 2269 ls [])) : W p l e room_1 s m #[Value.ref b] below meth c H locs K N (lw_Z below #[Value.ref b] s) (F0 m 821 ls []) := by
  obtain ⟨hx, hb, hr, hml, hown, hts, hX, hbl, hlocks, hgv⟩ := id C0
  have S : SF p m c code 4 s #[Value.ref b] RL := ⟨hx, hb, hml, hown, fun w h => hts w (wT_lw h)⟩
  refine lv_aload_n hx hb (oc_43 821 (aq_4 shL_law_817)) rfl (lvA1 hl) ?_
  refine lv_aload_n hx hb (oc_42 822 (aq_5 shL_law_817)) rfl (lvA0 hl) ?_
  refine lv_iload_n hx hb (oc_29 823 (aq_6 shL_law_817)) rfl (lvA3 hl) ?_
  refine lv_iconst (v := 1) hx hb (oc_4 824 (aq_7 shL_law_817)) kic_1 ?_
  refine lv_iadd hx hb (oc_96 825 (aq_8 shL_law_817)) ?_
  refine lv_topi (fun y_1 ey_1 => ?_)
  obtain rfl : y_1 = nI (i + 1) := ey_1.trans (nI_add i 1)
  refine va_sld hx hb hX hbl hbA hS (vp_in_nI (by omega) (by omega)) (oc_46 826 (aq_9 shL_law_817)) ?_
  refine lv_topi (fun y_2 ey_2 => ?_)
  obtain rfl : y_2 = xs (nI (i + 1)).toNatClampNeg := ey_2
  refine lv_aload_n hx hb (oc_42 827 (aq_10 shL_law_817)) rfl (lvA0 hl) ?_
  refine lv_iload_n hx hb (oc_29 828 (aq_11 shL_law_817)) rfl (lvA3 hl) ?_
  refine lv_iconst (v := 2) hx hb (oc_5 829 (aq_12 shL_law_817)) kic_2 ?_
  refine lv_iadd hx hb (oc_96 830 (aq_13 shL_law_817)) ?_
  refine lv_topi (fun y_3 ey_3 => ?_)
  obtain rfl : y_3 = nI (i + 2) := ey_3.trans (nI_add i 2)
  refine va_sld hx hb hX hbl hbA hS (vp_in_nI (by omega) (by omega)) (oc_46 831 (aq_14 shL_law_817)) ?_
  refine lv_topi (fun y_4 ey_4 => ?_)
  obtain rfl : y_4 = xs (nI (i + 2)).toNatClampNeg := ey_4
  refine vp_callSi (runV_rxa (As := [.int (xs (nI (i + 1)).toNatClampNeg), .int (xs (nI (i + 2)).toNatClampNeg)]) (rest := []) S (q_XbatchIs l D cI cB cZ zz qq vv bt g ad cn In Fn (xs (nI (i + 1)).toNatClampNeg) (xs (nI (i + 2)).toNatClampNeg) hI.1) kV_RL_82 hK hXS hS (exP hP) 0 xo_0 rfl rfl ⟨Nat.le_of_ble_eq_true rfl, Nat.le_of_ble_eq_true rfl⟩ ⟨(by show K + 0 ≤ 600000; omega), (by show N + 0 ≤ 7302250; omega)⟩ rfl hl.1 rfl (Nat.le_of_ble_eq_true rfl) (oc_182 832 (aq_15 shL_law_817) uw_0_82)) (fun r4 w4 => ?_)
  refine lv_pop hx hb (oc_87 835 (aq_18 shL_law_817)) rfl ?_
  refine lv_aload_n hx hb (oc_44 836 (aq_19 shL_law_817)) rfl (lvA2 hl) ?_
  refine lv_aload_n hx hb (oc_42 837 (aq_20 shL_law_817)) rfl (lvA0 hl) ?_
  refine lv_iload_n hx hb (oc_29 838 (aq_21 shL_law_817)) rfl (lvA3 hl) ?_
  refine lv_iconst (v := 1) hx hb (oc_4 839 (aq_22 shL_law_817)) kic_1 ?_
  refine lv_iadd hx hb (oc_96 840 (aq_23 shL_law_817)) ?_
  refine lv_topi (fun y_6 ey_6 => ?_)
  obtain rfl : y_6 = nI (i + 1) := ey_6.trans (nI_add i 1)
  refine va_sld hx hb hX hbl hbA hS (vp_in_nI (by omega) (by omega)) (oc_46 841 shL_law_841) ?_
  refine lv_topi (fun y_7 ey_7 => ?_)
  obtain rfl : y_7 = xs (nI (i + 1)).toNatClampNeg := ey_7
  refine lv_aload_n hx hb (oc_42 842 (aq_1 shL_law_841)) rfl (lvA0 hl) ?_
  refine lv_iload_n hx hb (oc_29 843 (aq_2 shL_law_841)) rfl (lvA3 hl) ?_
  refine lv_iconst (v := 2) hx hb (oc_5 844 (aq_3 shL_law_841)) kic_2 ?_
  refine lv_iadd hx hb (oc_96 845 (aq_4 shL_law_841)) ?_
  refine lv_topi (fun y_8 ey_8 => ?_)
  obtain rfl : y_8 = nI (i + 2) := ey_8.trans (nI_add i 2)
  refine va_sld hx hb hX hbl hbA hS (vp_in_nI (by omega) (by omega)) (oc_46 846 (aq_5 shL_law_841)) ?_
  refine lv_topi (fun y_9 ey_9 => ?_)
  obtain rfl : y_9 = xs (nI (i + 2)).toNatClampNeg := ey_9
  have hFc := free_all (exDr hD) hS hA
  refine va_calli (runV_a (As := [.int (xs (nI (i + 1)).toNatClampNeg), .int (xs (nI (i + 2)).toNatClampNeg)]) (rest := []) S (q_batchIs l D cI cB cZ g2 c3 I3 F3 (xs (nI (i + 1)).toNatClampNeg) (xs (nI (i + 2)).toNatClampNeg) H.size hM.1) kV_RL_85 hK (exPr hP) (exDr hD) 0 rfl rfl rfl ⟨Nat.le_of_ble_eq_true rfl, Nat.le_of_ble_eq_true rfl⟩ ⟨(by show K + 0 ≤ 600000; omega), (by show N + 0 ≤ 7302250; omega)⟩ rfl hl.1 rfl (Nat.le_of_ble_eq_true rfl) (oc_182 847 (aq_6 shL_law_841) uw_0_85)) hS (fun q _ h => hFc q h) hFc (fun r9 u t H1 locs ht hvm w9 hB1 hz1 hk1 hS => ?_)
  obtain ⟨c9, I9, F9⟩ := u
  obtain ⟨hP1, hD1⟩ := hB1
  rw [ht] at hP1
  obtain ⟨hP, hD⟩ := exjoin hP hD hk1 hFc hP1 hD1
  generalize H1 = H at hP hS ⊢
  obtain ⟨hM, hd9, hf9⟩ := imm_batchIs hM w9
  have hR := RR.fm hR hd9 hf9 (by decide) (by decide)
  refine lv_pop hx hb (oc_87 850 (aq_9 shL_law_841)) rfl ?_
  refine lv_goto (tgt := 2269) hx hb (oc_167 851 (aq_10 shL_law_841) sgw_5_138) rfl ?_
  refine W.widen (k := K + 8) (n := N + 240) (by omega) (by omega) ?_
  exact kk _ _ _ _ _ _ _ _ _ hI hM hR hP hD hS ls hl
set_option maxRecDepth 100000 in
set_option maxHeartbeats 4000000 in
theorem lawc_16 {p : Program} {l : Launch} {e : Env} {s : State} {m : MethodId} {below : List Frame} {meth : Method} {c : Code} {b L : Nat} {xs : Nat → Int32} (C0 : lw_At p s m meth c b L xs) (hLN : L ≤ 3584) {A : Nat → Prop} (hA : ∀ q : Nat, s.heap.size ≤ q → A q) (hbA : ¬ A b) {D : va_G} {cI cB cZ : ClassId} {zz qq vv : Nat} {bt : Nat → Int32} {g g2 : Nat → Nat} (hK : KK D cI cB cZ s) (hXS : XS D zz qq vv bt A s s.heap) {ad : Nat → Nat → Nat} {cn : Nat → Nat} {In : Nat → Int32} {Fn : Nat → Nat → Int32} {c3 : Nat → Nat} {I3 : Nat → Int32} {F3 : Nat → Nat → Int32} (hI : IX ad cn Fn) (hM : IMM c3 F3) (hR : RR cn Fn c3 F3) {H : Heap} {locs : List Loc} (hP : va_P D vwCl (wX cI (D.1 99) zz g ad cn In Fn ++ wM cI cB cZ g2 c3 I3 F3) H) (hD : va_D A (wX cI (D.1 99) zz g ad cn In Fn ++ wM cI cB cZ g2 c3 I3 F3)) (hS : va_S A s.heap H locs) {K N i : Nat} (hi : i + 7 ≤ L) (hKN : K + 8 ≤ 600000 ∧ N + 240 ≤ 7302250) {ls : Array Slot} (hl : lv_has ls 4 [(0, .ref b), (1, .ref (g 0)), (2, .ref (g2 100)), (3, .int (nI i))]) (kk : ∀ (ad : Nat → Nat → Nat) (cn : Nat → Nat) (In : Nat → Int32) (Fn : Nat → Nat → Int32) (c3 : Nat → Nat) (I3 : Nat → Int32) (F3 : Nat → Nat → Int32) (H : Heap) (locs : List Loc), IX ad cn Fn → IMM c3 F3 → RR cn Fn c3 F3 → va_P D vwCl (wX cI (D.1 99) zz g ad cn In Fn ++ wM cI cB cZ g2 c3 I3 F3) H → va_D A (wX cI (D.1 99) zz g ad cn In Fn ++ wM cI cB cZ g2 c3 I3 F3) → va_S A s.heap H locs → ∀ ls : Array Slot, lv_has ls 4 [(0, .ref b), (1, .ref (g 0)), (2, .ref (g2 100)), (3, .int (nI i))] → W p l e room_1 s m #[Value.ref b] below meth c H locs (K + 8) (N + 240) (lw_Z below #[Value.ref b] s) (F0 m 2269 ls [])) : W p l e room_1 s m #[Value.ref b] below meth c H locs K N (lw_Z below #[Value.ref b] s) (F0 m 854 ls []) := by
  obtain ⟨hx, hb, hr, hml, hown, hts, hX, hbl, hlocks, hgv⟩ := id C0
  have S : SF p m c code 4 s #[Value.ref b] RL := ⟨hx, hb, hml, hown, fun w h => hts w (wT_lw h)⟩
  refine lv_aload_n hx hb (oc_43 854 (aq_13 shL_law_841)) rfl (lvA1 hl) ?_
  have hFc := free_all (exD hD) hS hA
  refine va_calli (runV_xa (As := []) (rest := []) S (q_Xblend l D cI cB cZ zz qq vv bt g ad cn In Fn  H.size hI.1 hI.2.1 hI.2.2.1) kV_RL_86 hK hXS hS hFc (exP hP) (exD hD) 0 xo_0 rfl rfl ⟨Nat.le_of_ble_eq_true rfl, Nat.le_of_ble_eq_true rfl⟩ ⟨(by show K + 3 ≤ 600000; omega), (by show N + 32 ≤ 7302250; omega)⟩ rfl hl.1 rfl (Nat.le_of_ble_eq_true rfl) (oc_182 855 (aq_14 shL_law_841) uw_0_86)) hS (fun q _ h => hFc q h) hFc (fun r0 u t H1 locs ht hvm w0 hB1 hz1 hk1 hS => ?_)
  obtain ⟨a0, c0, I0, F0⟩ := u
  obtain ⟨hP1, hD1⟩ := hB1
  rw [ht] at hP1
  obtain ⟨hP, hD⟩ := exjoinL hP hD hk1 hFc hP1 hD1
  generalize H1 = H at hP hS ⊢
  obtain ⟨hI, hd0, hf0⟩ := ix_blend hI w0
  have hR := RR.fx hR hd0 hf0 (by decide) (by decide)
  refine lv_pop hx hb (oc_87 858 (aq_17 shL_law_841)) rfl ?_
  refine lv_aload_n hx hb (oc_44 859 (aq_18 shL_law_841)) rfl (lvA2 hl) ?_
  have hFc := free_all (exDr hD) hS hA
  refine va_calli (runV_a (As := []) (rest := []) S (q_blend l D cI cB cZ g2 c3 I3 F3  H.size hM.1) kV_RL_90 hK (exPr hP) (exDr hD) 0 rfl rfl rfl ⟨Nat.le_of_ble_eq_true rfl, Nat.le_of_ble_eq_true rfl⟩ ⟨(by show K + 3 + 0 ≤ 600000; omega), (by show N + 32 + 0 ≤ 7302250; omega)⟩ rfl hl.1 rfl (Nat.le_of_ble_eq_true rfl) (oc_182 860 (aq_19 shL_law_841) uw_0_90)) hS (fun q _ h => hFc q h) hFc (fun r1 u t H1 locs ht hvm w1 hB1 hz1 hk1 hS => ?_)
  obtain ⟨c1, I1, F1⟩ := u
  obtain ⟨hP1, hD1⟩ := hB1
  rw [ht] at hP1
  obtain ⟨hP, hD⟩ := exjoin hP hD hk1 hFc hP1 hD1
  generalize H1 = H at hP hS ⊢
  obtain ⟨hM, hd1, hf1⟩ := imm_blend hM w1
  have hR := RR.fm hR hd1 hf1 (by decide) (by decide)
  refine lv_pop hx hb (oc_87 863 (aq_22 shL_law_841)) rfl ?_
  refine lv_goto (tgt := 2269) hx hb (oc_167 864 (aq_23 shL_law_841) sgw_5_125) rfl ?_
  refine W.widen (k := K + 8) (n := N + 240) (by omega) (by omega) ?_
  exact kk _ _ _ _ _ _ _ _ _ hI hM hR hP hD hS ls hl
set_option maxRecDepth 100000 in
set_option maxHeartbeats 4000000 in
theorem lawc_17 {p : Program} {l : Launch} {e : Env} {s : State} {m : MethodId} {below : List Frame} {meth : Method} {c : Code} {b L : Nat} {xs : Nat → Int32} (C0 : lw_At p s m meth c b L xs) (hLN : L ≤ 3584) {A : Nat → Prop} (hA : ∀ q : Nat, s.heap.size ≤ q → A q) (hbA : ¬ A b) {D : va_G} {cI cB cZ : ClassId} {zz qq vv : Nat} {bt : Nat → Int32} {g g2 : Nat → Nat} (hK : KK D cI cB cZ s) (hXS : XS D zz qq vv bt A s s.heap) {ad : Nat → Nat → Nat} {cn : Nat → Nat} {In : Nat → Int32} {Fn : Nat → Nat → Int32} {c3 : Nat → Nat} {I3 : Nat → Int32} {F3 : Nat → Nat → Int32} (hI : IX ad cn Fn) (hM : IMM c3 F3) (hR : RR cn Fn c3 F3) {H : Heap} {locs : List Loc} (hP : va_P D vwCl (wX cI (D.1 99) zz g ad cn In Fn ++ wM cI cB cZ g2 c3 I3 F3) H) (hD : va_D A (wX cI (D.1 99) zz g ad cn In Fn ++ wM cI cB cZ g2 c3 I3 F3)) (hS : va_S A s.heap H locs) {K N i : Nat} (hi : i + 7 ≤ L) (hKN : K + 8 ≤ 600000 ∧ N + 240 ≤ 7302250) {ls : Array Slot} (hl : lv_has ls 4 [(0, .ref b), (1, .ref (g 0)), (2, .ref (g2 100)), (3, .int (nI i))]) (kk : ∀ (ad : Nat → Nat → Nat) (cn : Nat → Nat) (In : Nat → Int32) (Fn : Nat → Nat → Int32) (c3 : Nat → Nat) (I3 : Nat → Int32) (F3 : Nat → Nat → Int32) (H : Heap) (locs : List Loc), IX ad cn Fn → IMM c3 F3 → RR cn Fn c3 F3 → va_P D vwCl (wX cI (D.1 99) zz g ad cn In Fn ++ wM cI cB cZ g2 c3 I3 F3) H → va_D A (wX cI (D.1 99) zz g ad cn In Fn ++ wM cI cB cZ g2 c3 I3 F3) → va_S A s.heap H locs → ∀ ls : Array Slot, lv_has ls 4 [(0, .ref b), (1, .ref (g 0)), (2, .ref (g2 100)), (3, .int (nI i))] → W p l e room_1 s m #[Value.ref b] below meth c H locs (K + 8) (N + 240) (lw_Z below #[Value.ref b] s) (F0 m 2269 ls [])) : W p l e room_1 s m #[Value.ref b] below meth c H locs K N (lw_Z below #[Value.ref b] s) (F0 m 867 ls []) := by
  obtain ⟨hx, hb, hr, hml, hown, hts, hX, hbl, hlocks, hgv⟩ := id C0
  have S : SF p m c code 4 s #[Value.ref b] RL := ⟨hx, hb, hml, hown, fun w h => hts w (wT_lw h)⟩
  refine lv_aload_n hx hb (oc_43 867 shL_law_867) rfl (lvA1 hl) ?_
  refine lv_aload_n hx hb (oc_42 868 (aq_1 shL_law_867)) rfl (lvA0 hl) ?_
  refine lv_iload_n hx hb (oc_29 869 (aq_2 shL_law_867)) rfl (lvA3 hl) ?_
  refine lv_iconst (v := 1) hx hb (oc_4 870 (aq_3 shL_law_867)) kic_1 ?_
  refine lv_iadd hx hb (oc_96 871 (aq_4 shL_law_867)) ?_
  refine lv_topi (fun y_1 ey_1 => ?_)
  obtain rfl : y_1 = nI (i + 1) := ey_1.trans (nI_add i 1)
  refine va_sld hx hb hX hbl hbA hS (vp_in_nI (by omega) (by omega)) (oc_46 872 (aq_5 shL_law_867)) ?_
  refine lv_topi (fun y_2 ey_2 => ?_)
  obtain rfl : y_2 = xs (nI (i + 1)).toNatClampNeg := ey_2
  refine lv_aload_n hx hb (oc_42 873 (aq_6 shL_law_867)) rfl (lvA0 hl) ?_
  refine lv_iload_n hx hb (oc_29 874 (aq_7 shL_law_867)) rfl (lvA3 hl) ?_
  refine lv_iconst (v := 2) hx hb (oc_5 875 (aq_8 shL_law_867)) kic_2 ?_
  refine lv_iadd hx hb (oc_96 876 (aq_9 shL_law_867)) ?_
  refine lv_topi (fun y_3 ey_3 => ?_)
  obtain rfl : y_3 = nI (i + 2) := ey_3.trans (nI_add i 2)
  refine va_sld hx hb hX hbl hbA hS (vp_in_nI (by omega) (by omega)) (oc_46 877 (aq_10 shL_law_867)) ?_
  refine lv_topi (fun y_4 ey_4 => ?_)
  obtain rfl : y_4 = xs (nI (i + 2)).toNatClampNeg := ey_4
  refine lv_aload_n hx hb (oc_42 878 (aq_11 shL_law_867)) rfl (lvA0 hl) ?_
  refine lv_iload_n hx hb (oc_29 879 (aq_12 shL_law_867)) rfl (lvA3 hl) ?_
  refine lv_iconst (v := 3) hx hb (oc_6 880 (aq_13 shL_law_867)) kic_3 ?_
  refine lv_iadd hx hb (oc_96 881 (aq_14 shL_law_867)) ?_
  refine lv_topi (fun y_5 ey_5 => ?_)
  obtain rfl : y_5 = nI (i + 3) := ey_5.trans (nI_add i 3)
  refine va_sld hx hb hX hbl hbA hS (vp_in_nI (by omega) (by omega)) (oc_46 882 (aq_15 shL_law_867)) ?_
  refine lv_topi (fun y_6 ey_6 => ?_)
  obtain rfl : y_6 = xs (nI (i + 3)).toNatClampNeg := ey_6
  refine lv_aload_n hx hb (oc_42 883 (aq_16 shL_law_867)) rfl (lvA0 hl) ?_
  refine lv_iload_n hx hb (oc_29 884 (aq_17 shL_law_867)) rfl (lvA3 hl) ?_
  refine lv_iconst (v := 4) hx hb (oc_7 885 (aq_18 shL_law_867)) kic_4 ?_
  refine lv_iadd hx hb (oc_96 886 (aq_19 shL_law_867)) ?_
  refine lv_topi (fun y_7 ey_7 => ?_)
  obtain rfl : y_7 = nI (i + 4) := ey_7.trans (nI_add i 4)
  refine va_sld hx hb hX hbl hbA hS (vp_in_nI (by omega) (by omega)) (oc_46 887 (aq_20 shL_law_867)) ?_
  refine lv_topi (fun y_8 ey_8 => ?_)
  obtain rfl : y_8 = xs (nI (i + 4)).toNatClampNeg := ey_8
  have hFc := free_all (exD hD) hS hA
  refine va_calli (runV_xa (As := [.int (xs (nI (i + 1)).toNatClampNeg), .int (xs (nI (i + 2)).toNatClampNeg), .int (xs (nI (i + 3)).toNatClampNeg), .int (xs (nI (i + 4)).toNatClampNeg)]) (rest := []) S (q_Xproof l D cI cB cZ zz qq vv bt g ad cn In Fn (xs (nI (i + 1)).toNatClampNeg) (xs (nI (i + 2)).toNatClampNeg) (xs (nI (i + 3)).toNatClampNeg) (xs (nI (i + 4)).toNatClampNeg) H.size hI.1) kV_RL_91 hK hXS hS hFc (exP hP) (exD hD) 0 xo_0 rfl rfl ⟨Nat.le_of_ble_eq_true rfl, Nat.le_of_ble_eq_true rfl⟩ ⟨(by show K + 2 ≤ 600000; omega), (by show N + 105 ≤ 7302250; omega)⟩ rfl hl.1 rfl (Nat.le_of_ble_eq_true rfl) (oc_182 888 (aq_21 shL_law_867) uw_0_91)) hS (fun q _ h => hFc q h) hFc (fun r8 u t H1 locs ht hvm w8 hB1 hz1 hk1 hS => ?_)
  obtain ⟨a8, c8, I8, F8⟩ := u
  obtain ⟨hP1, hD1⟩ := hB1
  rw [ht] at hP1
  obtain ⟨hP, hD⟩ := exjoinL hP hD hk1 hFc hP1 hD1
  generalize H1 = H at hP hS ⊢
  obtain ⟨hI, hd8, hf8⟩ := ix_proof hI w8
  have hR := RR.fx hR hd8 hf8 (by decide) (by decide)
  refine lv_pop hx hb (oc_87 891 shL_law_891) rfl ?_
  refine lv_aload_n hx hb (oc_44 892 (aq_1 shL_law_891)) rfl (lvA2 hl) ?_
  refine lv_aload_n hx hb (oc_42 893 (aq_2 shL_law_891)) rfl (lvA0 hl) ?_
  refine lv_iload_n hx hb (oc_29 894 (aq_3 shL_law_891)) rfl (lvA3 hl) ?_
  refine lv_iconst (v := 1) hx hb (oc_4 895 (aq_4 shL_law_891)) kic_1 ?_
  refine lv_iadd hx hb (oc_96 896 (aq_5 shL_law_891)) ?_
  refine lv_topi (fun y_10 ey_10 => ?_)
  obtain rfl : y_10 = nI (i + 1) := ey_10.trans (nI_add i 1)
  refine va_sld hx hb hX hbl hbA hS (vp_in_nI (by omega) (by omega)) (oc_46 897 (aq_6 shL_law_891)) ?_
  refine lv_topi (fun y_11 ey_11 => ?_)
  obtain rfl : y_11 = xs (nI (i + 1)).toNatClampNeg := ey_11
  refine lv_aload_n hx hb (oc_42 898 (aq_7 shL_law_891)) rfl (lvA0 hl) ?_
  refine lv_iload_n hx hb (oc_29 899 (aq_8 shL_law_891)) rfl (lvA3 hl) ?_
  refine lv_iconst (v := 2) hx hb (oc_5 900 (aq_9 shL_law_891)) kic_2 ?_
  refine lv_iadd hx hb (oc_96 901 (aq_10 shL_law_891)) ?_
  refine lv_topi (fun y_12 ey_12 => ?_)
  obtain rfl : y_12 = nI (i + 2) := ey_12.trans (nI_add i 2)
  refine va_sld hx hb hX hbl hbA hS (vp_in_nI (by omega) (by omega)) (oc_46 902 (aq_11 shL_law_891)) ?_
  refine lv_topi (fun y_13 ey_13 => ?_)
  obtain rfl : y_13 = xs (nI (i + 2)).toNatClampNeg := ey_13
  refine lv_aload_n hx hb (oc_42 903 (aq_12 shL_law_891)) rfl (lvA0 hl) ?_
  refine lv_iload_n hx hb (oc_29 904 (aq_13 shL_law_891)) rfl (lvA3 hl) ?_
  refine lv_iconst (v := 3) hx hb (oc_6 905 (aq_14 shL_law_891)) kic_3 ?_
  refine lv_iadd hx hb (oc_96 906 (aq_15 shL_law_891)) ?_
  refine lv_topi (fun y_14 ey_14 => ?_)
  obtain rfl : y_14 = nI (i + 3) := ey_14.trans (nI_add i 3)
  refine va_sld hx hb hX hbl hbA hS (vp_in_nI (by omega) (by omega)) (oc_46 907 (aq_16 shL_law_891)) ?_
  refine lv_topi (fun y_15 ey_15 => ?_)
  obtain rfl : y_15 = xs (nI (i + 3)).toNatClampNeg := ey_15
  refine lv_aload_n hx hb (oc_42 908 (aq_17 shL_law_891)) rfl (lvA0 hl) ?_
  refine lv_iload_n hx hb (oc_29 909 (aq_18 shL_law_891)) rfl (lvA3 hl) ?_
  refine lv_iconst (v := 4) hx hb (oc_7 910 (aq_19 shL_law_891)) kic_4 ?_
  refine lv_iadd hx hb (oc_96 911 (aq_20 shL_law_891)) ?_
  refine lv_topi (fun y_16 ey_16 => ?_)
  obtain rfl : y_16 = nI (i + 4) := ey_16.trans (nI_add i 4)
  refine va_sld hx hb hX hbl hbA hS (vp_in_nI (by omega) (by omega)) (oc_46 912 (aq_21 shL_law_891)) ?_
  refine lv_topi (fun y_17 ey_17 => ?_)
  obtain rfl : y_17 = xs (nI (i + 4)).toNatClampNeg := ey_17
  have hFc := free_all (exDr hD) hS hA
  refine va_calli (runV_a (As := [.int (xs (nI (i + 1)).toNatClampNeg), .int (xs (nI (i + 2)).toNatClampNeg), .int (xs (nI (i + 3)).toNatClampNeg), .int (xs (nI (i + 4)).toNatClampNeg)]) (rest := []) S (q_proof l D cI cB cZ g2 c3 I3 F3 (xs (nI (i + 1)).toNatClampNeg) (xs (nI (i + 2)).toNatClampNeg) (xs (nI (i + 3)).toNatClampNeg) (xs (nI (i + 4)).toNatClampNeg) H.size hM.1) kV_RL_94 hK (exPr hP) (exDr hD) 0 rfl rfl rfl ⟨Nat.le_of_ble_eq_true rfl, Nat.le_of_ble_eq_true rfl⟩ ⟨(by show K + 2 + 0 ≤ 600000; omega), (by show N + 105 + 0 ≤ 7302250; omega)⟩ rfl hl.1 rfl (Nat.le_of_ble_eq_true rfl) (oc_182 913 (aq_22 shL_law_891) uw_0_94)) hS (fun q _ h => hFc q h) hFc (fun r17 u t H1 locs ht hvm w17 hB1 hz1 hk1 hS => ?_)
  obtain ⟨c17, I17, F17⟩ := u
  obtain ⟨hP1, hD1⟩ := hB1
  rw [ht] at hP1
  obtain ⟨hP, hD⟩ := exjoin hP hD hk1 hFc hP1 hD1
  generalize H1 = H at hP hS ⊢
  obtain ⟨hM, hd17, hf17⟩ := imm_proof hM w17
  have hR := RR.fm hR hd17 hf17 (by decide) (by decide)
  refine lv_pop hx hb (oc_87 916 shL_law_916) rfl ?_
  refine lv_goto (tgt := 2269) hx hb (oc_167 917 (aq_1 shL_law_916) sgw_5_72) rfl ?_
  refine W.widen (k := K + 8) (n := N + 240) (by omega) (by omega) ?_
  exact kk _ _ _ _ _ _ _ _ _ hI hM hR hP hD hS ls hl
set_option maxRecDepth 100000 in
set_option maxHeartbeats 4000000 in
theorem lawc_18 {p : Program} {l : Launch} {e : Env} {s : State} {m : MethodId} {below : List Frame} {meth : Method} {c : Code} {b L : Nat} {xs : Nat → Int32} (C0 : lw_At p s m meth c b L xs) (hLN : L ≤ 3584) {A : Nat → Prop} (hA : ∀ q : Nat, s.heap.size ≤ q → A q) (hbA : ¬ A b) {D : va_G} {cI cB cZ : ClassId} {zz qq vv : Nat} {bt : Nat → Int32} {g g2 : Nat → Nat} (hK : KK D cI cB cZ s) (hXS : XS D zz qq vv bt A s s.heap) {ad : Nat → Nat → Nat} {cn : Nat → Nat} {In : Nat → Int32} {Fn : Nat → Nat → Int32} {c3 : Nat → Nat} {I3 : Nat → Int32} {F3 : Nat → Nat → Int32} (hI : IX ad cn Fn) (hM : IMM c3 F3) (hR : RR cn Fn c3 F3) {H : Heap} {locs : List Loc} (hP : va_P D vwCl (wX cI (D.1 99) zz g ad cn In Fn ++ wM cI cB cZ g2 c3 I3 F3) H) (hD : va_D A (wX cI (D.1 99) zz g ad cn In Fn ++ wM cI cB cZ g2 c3 I3 F3)) (hS : va_S A s.heap H locs) {K N i : Nat} (hi : i + 7 ≤ L) (hKN : K + 8 ≤ 600000 ∧ N + 240 ≤ 7302250) {ls : Array Slot} (hl : lv_has ls 4 [(0, .ref b), (1, .ref (g 0)), (2, .ref (g2 100)), (3, .int (nI i))]) (kk : ∀ (ad : Nat → Nat → Nat) (cn : Nat → Nat) (In : Nat → Int32) (Fn : Nat → Nat → Int32) (c3 : Nat → Nat) (I3 : Nat → Int32) (F3 : Nat → Nat → Int32) (H : Heap) (locs : List Loc), IX ad cn Fn → IMM c3 F3 → RR cn Fn c3 F3 → va_P D vwCl (wX cI (D.1 99) zz g ad cn In Fn ++ wM cI cB cZ g2 c3 I3 F3) H → va_D A (wX cI (D.1 99) zz g ad cn In Fn ++ wM cI cB cZ g2 c3 I3 F3) → va_S A s.heap H locs → ∀ ls : Array Slot, lv_has ls 4 [(0, .ref b), (1, .ref (g 0)), (2, .ref (g2 100)), (3, .int (nI i))] → W p l e room_1 s m #[Value.ref b] below meth c H locs (K + 8) (N + 240) (lw_Z below #[Value.ref b] s) (F0 m 2269 ls [])) : W p l e room_1 s m #[Value.ref b] below meth c H locs K N (lw_Z below #[Value.ref b] s) (F0 m 920 ls []) := by
  obtain ⟨hx, hb, hr, hml, hown, hts, hX, hbl, hlocks, hgv⟩ := id C0
  have S : SF p m c code 4 s #[Value.ref b] RL := ⟨hx, hb, hml, hown, fun w h => hts w (wT_lw h)⟩
  refine lv_aload_n hx hb (oc_43 920 (aq_4 shL_law_916)) rfl (lvA1 hl) ?_
  refine lv_aload_n hx hb (oc_42 921 (aq_5 shL_law_916)) rfl (lvA0 hl) ?_
  refine lv_iload_n hx hb (oc_29 922 (aq_6 shL_law_916)) rfl (lvA3 hl) ?_
  refine lv_iconst (v := 1) hx hb (oc_4 923 (aq_7 shL_law_916)) kic_1 ?_
  refine lv_iadd hx hb (oc_96 924 (aq_8 shL_law_916)) ?_
  refine lv_topi (fun y_1 ey_1 => ?_)
  obtain rfl : y_1 = nI (i + 1) := ey_1.trans (nI_add i 1)
  refine va_sld hx hb hX hbl hbA hS (vp_in_nI (by omega) (by omega)) (oc_46 925 (aq_9 shL_law_916)) ?_
  refine lv_topi (fun y_2 ey_2 => ?_)
  obtain rfl : y_2 = xs (nI (i + 1)).toNatClampNeg := ey_2
  refine vp_callSi (runV_rxa (As := [.int (xs (nI (i + 1)).toNatClampNeg)]) (rest := []) S (q_Xtwice l D cI cB cZ zz qq vv bt g ad cn In Fn (xs (nI (i + 1)).toNatClampNeg) hI.1) kV_RL_95 hK hXS hS (exP hP) 0 xo_0 rfl rfl ⟨Nat.le_of_ble_eq_true rfl, Nat.le_of_ble_eq_true rfl⟩ ⟨(by show K + 0 ≤ 600000; omega), (by show N + 0 ≤ 7302250; omega)⟩ rfl hl.1 rfl (Nat.le_of_ble_eq_true rfl) (oc_182 926 (aq_10 shL_law_916) uw_0_95)) (fun r2 w2 => ?_)
  refine lv_pop hx hb (oc_87 929 (aq_13 shL_law_916)) rfl ?_
  refine lv_aload_n hx hb (oc_44 930 (aq_14 shL_law_916)) rfl (lvA2 hl) ?_
  refine lv_aload_n hx hb (oc_42 931 (aq_15 shL_law_916)) rfl (lvA0 hl) ?_
  refine lv_iload_n hx hb (oc_29 932 (aq_16 shL_law_916)) rfl (lvA3 hl) ?_
  refine lv_iconst (v := 1) hx hb (oc_4 933 (aq_17 shL_law_916)) kic_1 ?_
  refine lv_iadd hx hb (oc_96 934 (aq_18 shL_law_916)) ?_
  refine lv_topi (fun y_4 ey_4 => ?_)
  obtain rfl : y_4 = nI (i + 1) := ey_4.trans (nI_add i 1)
  refine va_sld hx hb hX hbl hbA hS (vp_in_nI (by omega) (by omega)) (oc_46 935 (aq_19 shL_law_916)) ?_
  refine lv_topi (fun y_5 ey_5 => ?_)
  obtain rfl : y_5 = xs (nI (i + 1)).toNatClampNeg := ey_5
  refine vp_callSi (runV_ra (As := [.int (xs (nI (i + 1)).toNatClampNeg)]) (rest := []) S (q_twice l D cI cB cZ g2 c3 I3 F3 (xs (nI (i + 1)).toNatClampNeg) hM.1) kV_RL_98 hK (exPr hP) 0 rfl rfl rfl ⟨Nat.le_of_ble_eq_true rfl, Nat.le_of_ble_eq_true rfl⟩ ⟨(by show K + 0 ≤ 600000; omega), (by show N + 0 ≤ 7302250; omega)⟩ rfl hl.1 rfl (Nat.le_of_ble_eq_true rfl) (oc_182 936 (aq_20 shL_law_916) uw_0_98)) (fun r5 w5 => ?_)
  refine lv_pop hx hb (oc_87 939 (aq_23 shL_law_916)) rfl ?_
  refine lv_goto (tgt := 2269) hx hb (oc_167 940 shL_law_940 sgw_5_49) rfl ?_
  refine W.widen (k := K + 8) (n := N + 240) (by omega) (by omega) ?_
  exact kk _ _ _ _ _ _ _ _ _ hI hM hR hP hD hS ls hl
set_option maxRecDepth 100000 in
set_option maxHeartbeats 4000000 in
theorem lawc_19 {p : Program} {l : Launch} {e : Env} {s : State} {m : MethodId} {below : List Frame} {meth : Method} {c : Code} {b L : Nat} {xs : Nat → Int32} (C0 : lw_At p s m meth c b L xs) (hLN : L ≤ 3584) {A : Nat → Prop} (hA : ∀ q : Nat, s.heap.size ≤ q → A q) (hbA : ¬ A b) {D : va_G} {cI cB cZ : ClassId} {zz qq vv : Nat} {bt : Nat → Int32} {g g2 : Nat → Nat} (hK : KK D cI cB cZ s) (hXS : XS D zz qq vv bt A s s.heap) {ad : Nat → Nat → Nat} {cn : Nat → Nat} {In : Nat → Int32} {Fn : Nat → Nat → Int32} {c3 : Nat → Nat} {I3 : Nat → Int32} {F3 : Nat → Nat → Int32} (hI : IX ad cn Fn) (hM : IMM c3 F3) (hR : RR cn Fn c3 F3) {H : Heap} {locs : List Loc} (hP : va_P D vwCl (wX cI (D.1 99) zz g ad cn In Fn ++ wM cI cB cZ g2 c3 I3 F3) H) (hD : va_D A (wX cI (D.1 99) zz g ad cn In Fn ++ wM cI cB cZ g2 c3 I3 F3)) (hS : va_S A s.heap H locs) {K N i : Nat} (hi : i + 7 ≤ L) (hKN : K + 8 ≤ 600000 ∧ N + 240 ≤ 7302250) {ls : Array Slot} (hl : lv_has ls 4 [(0, .ref b), (1, .ref (g 0)), (2, .ref (g2 100)), (3, .int (nI i))]) (kk : ∀ (ad : Nat → Nat → Nat) (cn : Nat → Nat) (In : Nat → Int32) (Fn : Nat → Nat → Int32) (c3 : Nat → Nat) (I3 : Nat → Int32) (F3 : Nat → Nat → Int32) (H : Heap) (locs : List Loc), IX ad cn Fn → IMM c3 F3 → RR cn Fn c3 F3 → va_P D vwCl (wX cI (D.1 99) zz g ad cn In Fn ++ wM cI cB cZ g2 c3 I3 F3) H → va_D A (wX cI (D.1 99) zz g ad cn In Fn ++ wM cI cB cZ g2 c3 I3 F3) → va_S A s.heap H locs → ∀ ls : Array Slot, lv_has ls 4 [(0, .ref b), (1, .ref (g 0)), (2, .ref (g2 100)), (3, .int (nI i))] → W p l e room_1 s m #[Value.ref b] below meth c H locs (K + 8) (N + 240) (lw_Z below #[Value.ref b] s) (F0 m 2269 ls [])) : W p l e room_1 s m #[Value.ref b] below meth c H locs K N (lw_Z below #[Value.ref b] s) (F0 m 943 ls []) := by
  obtain ⟨hx, hb, hr, hml, hown, hts, hX, hbl, hlocks, hgv⟩ := id C0
  have S : SF p m c code 4 s #[Value.ref b] RL := ⟨hx, hb, hml, hown, fun w h => hts w (wT_lw h)⟩
  refine lv_aload_n hx hb (oc_43 943 (aq_3 shL_law_940)) rfl (lvA1 hl) ?_
  refine lv_aload_n hx hb (oc_42 944 (aq_4 shL_law_940)) rfl (lvA0 hl) ?_
  refine lv_iload_n hx hb (oc_29 945 (aq_5 shL_law_940)) rfl (lvA3 hl) ?_
  refine lv_iconst (v := 1) hx hb (oc_4 946 (aq_6 shL_law_940)) kic_1 ?_
  refine lv_iadd hx hb (oc_96 947 (aq_7 shL_law_940)) ?_
  refine lv_topi (fun y_1 ey_1 => ?_)
  obtain rfl : y_1 = nI (i + 1) := ey_1.trans (nI_add i 1)
  refine va_sld hx hb hX hbl hbA hS (vp_in_nI (by omega) (by omega)) (oc_46 948 (aq_8 shL_law_940)) ?_
  refine lv_topi (fun y_2 ey_2 => ?_)
  obtain rfl : y_2 = xs (nI (i + 1)).toNatClampNeg := ey_2
  refine lv_aload_n hx hb (oc_42 949 (aq_9 shL_law_940)) rfl (lvA0 hl) ?_
  refine lv_iload_n hx hb (oc_29 950 (aq_10 shL_law_940)) rfl (lvA3 hl) ?_
  refine lv_iconst (v := 2) hx hb (oc_5 951 (aq_11 shL_law_940)) kic_2 ?_
  refine lv_iadd hx hb (oc_96 952 (aq_12 shL_law_940)) ?_
  refine lv_topi (fun y_3 ey_3 => ?_)
  obtain rfl : y_3 = nI (i + 2) := ey_3.trans (nI_add i 2)
  refine va_sld hx hb hX hbl hbA hS (vp_in_nI (by omega) (by omega)) (oc_46 953 (aq_13 shL_law_940)) ?_
  refine lv_topi (fun y_4 ey_4 => ?_)
  obtain rfl : y_4 = xs (nI (i + 2)).toNatClampNeg := ey_4
  refine vp_callSi (runV_rxa (As := [.int (xs (nI (i + 1)).toNatClampNeg), .int (xs (nI (i + 2)).toNatClampNeg)]) (rest := []) S (q_Xbought l D cI cB cZ zz qq vv bt g ad cn In Fn (xs (nI (i + 1)).toNatClampNeg) (xs (nI (i + 2)).toNatClampNeg) hI.1) kV_RL_99 hK hXS hS (exP hP) 0 xo_0 rfl rfl ⟨Nat.le_of_ble_eq_true rfl, Nat.le_of_ble_eq_true rfl⟩ ⟨(by show K + 0 ≤ 600000; omega), (by show N + 0 ≤ 7302250; omega)⟩ rfl hl.1 rfl (Nat.le_of_ble_eq_true rfl) (oc_182 954 (aq_14 shL_law_940) uw_0_99)) (fun r4 w4 => ?_)
  refine lv_pop hx hb (oc_87 957 (aq_17 shL_law_940)) rfl ?_
  refine lv_aload_n hx hb (oc_44 958 (aq_18 shL_law_940)) rfl (lvA2 hl) ?_
  refine lv_aload_n hx hb (oc_42 959 (aq_19 shL_law_940)) rfl (lvA0 hl) ?_
  refine lv_iload_n hx hb (oc_29 960 (aq_20 shL_law_940)) rfl (lvA3 hl) ?_
  refine lv_iconst (v := 1) hx hb (oc_4 961 (aq_21 shL_law_940)) kic_1 ?_
  refine lv_iadd hx hb (oc_96 962 (aq_22 shL_law_940)) ?_
  refine lv_topi (fun y_6 ey_6 => ?_)
  obtain rfl : y_6 = nI (i + 1) := ey_6.trans (nI_add i 1)
  refine va_sld hx hb hX hbl hbA hS (vp_in_nI (by omega) (by omega)) (oc_46 963 (aq_23 shL_law_940)) ?_
  refine lv_topi (fun y_7 ey_7 => ?_)
  obtain rfl : y_7 = xs (nI (i + 1)).toNatClampNeg := ey_7
  refine lv_aload_n hx hb (oc_42 964 shL_law_964) rfl (lvA0 hl) ?_
  refine lv_iload_n hx hb (oc_29 965 (aq_1 shL_law_964)) rfl (lvA3 hl) ?_
  refine lv_iconst (v := 2) hx hb (oc_5 966 (aq_2 shL_law_964)) kic_2 ?_
  refine lv_iadd hx hb (oc_96 967 (aq_3 shL_law_964)) ?_
  refine lv_topi (fun y_8 ey_8 => ?_)
  obtain rfl : y_8 = nI (i + 2) := ey_8.trans (nI_add i 2)
  refine va_sld hx hb hX hbl hbA hS (vp_in_nI (by omega) (by omega)) (oc_46 968 (aq_4 shL_law_964)) ?_
  refine lv_topi (fun y_9 ey_9 => ?_)
  obtain rfl : y_9 = xs (nI (i + 2)).toNatClampNeg := ey_9
  have hFc := free_all (exDr hD) hS hA
  refine va_calli (runV_a (As := [.int (xs (nI (i + 1)).toNatClampNeg), .int (xs (nI (i + 2)).toNatClampNeg)]) (rest := []) S (q_bought l D cI cB cZ g2 c3 I3 F3 (xs (nI (i + 1)).toNatClampNeg) (xs (nI (i + 2)).toNatClampNeg) H.size hM.1) kV_RL_102 hK (exPr hP) (exDr hD) 0 rfl rfl rfl ⟨Nat.le_of_ble_eq_true rfl, Nat.le_of_ble_eq_true rfl⟩ ⟨(by show K + 0 ≤ 600000; omega), (by show N + 0 ≤ 7302250; omega)⟩ rfl hl.1 rfl (Nat.le_of_ble_eq_true rfl) (oc_182 969 (aq_5 shL_law_964) uw_0_102)) hS (fun q _ h => hFc q h) hFc (fun r9 u t H1 locs ht hvm w9 hB1 hz1 hk1 hS => ?_)
  obtain ⟨c9, I9, F9⟩ := u
  obtain ⟨hP1, hD1⟩ := hB1
  rw [ht] at hP1
  obtain ⟨hP, hD⟩ := exjoin hP hD hk1 hFc hP1 hD1
  generalize H1 = H at hP hS ⊢
  obtain ⟨hM, hd9, hf9⟩ := imm_bought hM w9
  have hR := RR.fm hR hd9 hf9 (by decide) (by decide)
  refine lv_pop hx hb (oc_87 972 (aq_8 shL_law_964)) rfl ?_
  refine lv_goto (tgt := 2269) hx hb (oc_167 973 (aq_9 shL_law_964) sgw_5_16) rfl ?_
  refine W.widen (k := K + 8) (n := N + 240) (by omega) (by omega) ?_
  exact kk _ _ _ _ _ _ _ _ _ hI hM hR hP hD hS ls hl
set_option maxRecDepth 100000 in
set_option maxHeartbeats 4000000 in
theorem lawc_20 {p : Program} {l : Launch} {e : Env} {s : State} {m : MethodId} {below : List Frame} {meth : Method} {c : Code} {b L : Nat} {xs : Nat → Int32} (C0 : lw_At p s m meth c b L xs) (hLN : L ≤ 3584) {A : Nat → Prop} (hA : ∀ q : Nat, s.heap.size ≤ q → A q) (hbA : ¬ A b) {D : va_G} {cI cB cZ : ClassId} {zz qq vv : Nat} {bt : Nat → Int32} {g g2 : Nat → Nat} (hK : KK D cI cB cZ s) (hXS : XS D zz qq vv bt A s s.heap) {ad : Nat → Nat → Nat} {cn : Nat → Nat} {In : Nat → Int32} {Fn : Nat → Nat → Int32} {c3 : Nat → Nat} {I3 : Nat → Int32} {F3 : Nat → Nat → Int32} (hI : IX ad cn Fn) (hM : IMM c3 F3) (hR : RR cn Fn c3 F3) {H : Heap} {locs : List Loc} (hP : va_P D vwCl (wX cI (D.1 99) zz g ad cn In Fn ++ wM cI cB cZ g2 c3 I3 F3) H) (hD : va_D A (wX cI (D.1 99) zz g ad cn In Fn ++ wM cI cB cZ g2 c3 I3 F3)) (hS : va_S A s.heap H locs) {K N i : Nat} (hi : i + 7 ≤ L) (hKN : K + 8 ≤ 600000 ∧ N + 240 ≤ 7302250) {ls : Array Slot} (hl : lv_has ls 4 [(0, .ref b), (1, .ref (g 0)), (2, .ref (g2 100)), (3, .int (nI i))]) (kk : ∀ (ad : Nat → Nat → Nat) (cn : Nat → Nat) (In : Nat → Int32) (Fn : Nat → Nat → Int32) (c3 : Nat → Nat) (I3 : Nat → Int32) (F3 : Nat → Nat → Int32) (H : Heap) (locs : List Loc), IX ad cn Fn → IMM c3 F3 → RR cn Fn c3 F3 → va_P D vwCl (wX cI (D.1 99) zz g ad cn In Fn ++ wM cI cB cZ g2 c3 I3 F3) H → va_D A (wX cI (D.1 99) zz g ad cn In Fn ++ wM cI cB cZ g2 c3 I3 F3) → va_S A s.heap H locs → ∀ ls : Array Slot, lv_has ls 4 [(0, .ref b), (1, .ref (g 0)), (2, .ref (g2 100)), (3, .int (nI i))] → W p l e room_1 s m #[Value.ref b] below meth c H locs (K + 8) (N + 240) (lw_Z below #[Value.ref b] s) (F0 m 2269 ls [])) : W p l e room_1 s m #[Value.ref b] below meth c H locs K N (lw_Z below #[Value.ref b] s) (F0 m 976 ls []) := by
  obtain ⟨hx, hb, hr, hml, hown, hts, hX, hbl, hlocks, hgv⟩ := id C0
  have S : SF p m c code 4 s #[Value.ref b] RL := ⟨hx, hb, hml, hown, fun w h => hts w (wT_lw h)⟩
  refine lv_aload_n hx hb (oc_43 976 (aq_12 shL_law_964)) rfl (lvA1 hl) ?_
  refine lv_aload_n hx hb (oc_42 977 (aq_13 shL_law_964)) rfl (lvA0 hl) ?_
  refine lv_iload_n hx hb (oc_29 978 (aq_14 shL_law_964)) rfl (lvA3 hl) ?_
  refine lv_iconst (v := 1) hx hb (oc_4 979 (aq_15 shL_law_964)) kic_1 ?_
  refine lv_iadd hx hb (oc_96 980 (aq_16 shL_law_964)) ?_
  refine lv_topi (fun y_1 ey_1 => ?_)
  obtain rfl : y_1 = nI (i + 1) := ey_1.trans (nI_add i 1)
  refine va_sld hx hb hX hbl hbA hS (vp_in_nI (by omega) (by omega)) (oc_46 981 (aq_17 shL_law_964)) ?_
  refine lv_topi (fun y_2 ey_2 => ?_)
  obtain rfl : y_2 = xs (nI (i + 1)).toNatClampNeg := ey_2
  refine lv_aload_n hx hb (oc_42 982 (aq_18 shL_law_964)) rfl (lvA0 hl) ?_
  refine lv_iload_n hx hb (oc_29 983 (aq_19 shL_law_964)) rfl (lvA3 hl) ?_
  refine lv_iconst (v := 2) hx hb (oc_5 984 (aq_20 shL_law_964)) kic_2 ?_
  refine lv_iadd hx hb (oc_96 985 (aq_21 shL_law_964)) ?_
  refine lv_topi (fun y_3 ey_3 => ?_)
  obtain rfl : y_3 = nI (i + 2) := ey_3.trans (nI_add i 2)
  refine va_sld hx hb hX hbl hbA hS (vp_in_nI (by omega) (by omega)) (oc_46 986 (aq_22 shL_law_964)) ?_
  refine lv_topi (fun y_4 ey_4 => ?_)
  obtain rfl : y_4 = xs (nI (i + 2)).toNatClampNeg := ey_4
  refine lv_aload_n hx hb (oc_42 987 (aq_23 shL_law_964)) rfl (lvA0 hl) ?_
  refine lv_iload_n hx hb (oc_29 988 shL_law_988) rfl (lvA3 hl) ?_
  refine lv_iconst (v := 3) hx hb (oc_6 989 (aq_1 shL_law_988)) kic_3 ?_
  refine lv_iadd hx hb (oc_96 990 (aq_2 shL_law_988)) ?_
  refine lv_topi (fun y_5 ey_5 => ?_)
  obtain rfl : y_5 = nI (i + 3) := ey_5.trans (nI_add i 3)
  refine va_sld hx hb hX hbl hbA hS (vp_in_nI (by omega) (by omega)) (oc_46 991 (aq_3 shL_law_988)) ?_
  refine lv_topi (fun y_6 ey_6 => ?_)
  obtain rfl : y_6 = xs (nI (i + 3)).toNatClampNeg := ey_6
  have hFc := free_all (exD hD) hS hA
  refine va_calli (runV_xa (As := [.int (xs (nI (i + 1)).toNatClampNeg), .int (xs (nI (i + 2)).toNatClampNeg), .int (xs (nI (i + 3)).toNatClampNeg)]) (rest := []) S (q_Xoffers l D cI cB cZ zz qq vv bt g ad cn In Fn (xs (nI (i + 1)).toNatClampNeg) (xs (nI (i + 2)).toNatClampNeg) (xs (nI (i + 3)).toNatClampNeg) H.size hI.1) kV_RL_103 hK hXS hS hFc (exP hP) (exD hD) 0 xo_0 rfl rfl ⟨Nat.le_of_ble_eq_true rfl, Nat.le_of_ble_eq_true rfl⟩ ⟨(by show K + 0 ≤ 600000; omega), (by show N + 0 ≤ 7302250; omega)⟩ rfl hl.1 rfl (Nat.le_of_ble_eq_true rfl) (oc_182 992 (aq_4 shL_law_988) uw_0_103)) hS (fun q _ h => hFc q h) hFc (fun r6 u t H1 locs ht hvm w6 hB1 hz1 hk1 hS => ?_)
  obtain ⟨c6, I6, F6⟩ := u
  obtain ⟨hP1, hD1⟩ := hB1
  rw [ht] at hP1
  obtain ⟨hP, hD⟩ := exjoinL hP hD hk1 hFc hP1 hD1
  generalize H1 = H at hP hS ⊢
  have hd6 := w6.1.1
  have hf6 := w6.1.2.2
  have hI := IX.fr hI w6.1 w6.2.1 (by decide) (by decide)
  have hR := RR.fx hR hd6 hf6 (by decide) (by decide)
  refine lv_pop hx hb (oc_87 995 (aq_7 shL_law_988)) rfl ?_
  refine lv_aload_n hx hb (oc_44 996 (aq_8 shL_law_988)) rfl (lvA2 hl) ?_
  refine lv_aload_n hx hb (oc_42 997 (aq_9 shL_law_988)) rfl (lvA0 hl) ?_
  refine lv_iload_n hx hb (oc_29 998 (aq_10 shL_law_988)) rfl (lvA3 hl) ?_
  refine lv_iconst (v := 1) hx hb (oc_4 999 (aq_11 shL_law_988)) kic_1 ?_
  refine lv_iadd hx hb (oc_96 1000 (aq_12 shL_law_988)) ?_
  refine lv_topi (fun y_8 ey_8 => ?_)
  obtain rfl : y_8 = nI (i + 1) := ey_8.trans (nI_add i 1)
  refine va_sld hx hb hX hbl hbA hS (vp_in_nI (by omega) (by omega)) (oc_46 1001 (aq_13 shL_law_988)) ?_
  refine lv_topi (fun y_9 ey_9 => ?_)
  obtain rfl : y_9 = xs (nI (i + 1)).toNatClampNeg := ey_9
  refine lv_aload_n hx hb (oc_42 1002 (aq_14 shL_law_988)) rfl (lvA0 hl) ?_
  refine lv_iload_n hx hb (oc_29 1003 (aq_15 shL_law_988)) rfl (lvA3 hl) ?_
  refine lv_iconst (v := 2) hx hb (oc_5 1004 (aq_16 shL_law_988)) kic_2 ?_
  refine lv_iadd hx hb (oc_96 1005 (aq_17 shL_law_988)) ?_
  refine lv_topi (fun y_10 ey_10 => ?_)
  obtain rfl : y_10 = nI (i + 2) := ey_10.trans (nI_add i 2)
  refine va_sld hx hb hX hbl hbA hS (vp_in_nI (by omega) (by omega)) (oc_46 1006 (aq_18 shL_law_988)) ?_
  refine lv_topi (fun y_11 ey_11 => ?_)
  obtain rfl : y_11 = xs (nI (i + 2)).toNatClampNeg := ey_11
  refine lv_aload_n hx hb (oc_42 1007 (aq_19 shL_law_988)) rfl (lvA0 hl) ?_
  refine lv_iload_n hx hb (oc_29 1008 (aq_20 shL_law_988)) rfl (lvA3 hl) ?_
  refine lv_iconst (v := 3) hx hb (oc_6 1009 (aq_21 shL_law_988)) kic_3 ?_
  refine lv_iadd hx hb (oc_96 1010 (aq_22 shL_law_988)) ?_
  refine lv_topi (fun y_12 ey_12 => ?_)
  obtain rfl : y_12 = nI (i + 3) := ey_12.trans (nI_add i 3)
  refine va_sld hx hb hX hbl hbA hS (vp_in_nI (by omega) (by omega)) (oc_46 1011 (aq_23 shL_law_988)) ?_
  refine lv_topi (fun y_13 ey_13 => ?_)
  obtain rfl : y_13 = xs (nI (i + 3)).toNatClampNeg := ey_13
  have hFc := free_all (exDr hD) hS hA
  refine va_calli (runV_a (As := [.int (xs (nI (i + 1)).toNatClampNeg), .int (xs (nI (i + 2)).toNatClampNeg), .int (xs (nI (i + 3)).toNatClampNeg)]) (rest := []) S (q_offers l D cI cB cZ g2 c3 I3 F3 (xs (nI (i + 1)).toNatClampNeg) (xs (nI (i + 2)).toNatClampNeg) (xs (nI (i + 3)).toNatClampNeg) H.size hM.1) kV_RL_107 hK (exPr hP) (exDr hD) 0 rfl rfl rfl ⟨Nat.le_of_ble_eq_true rfl, Nat.le_of_ble_eq_true rfl⟩ ⟨(by show K + 0 ≤ 600000; omega), (by show N + 0 ≤ 7302250; omega)⟩ rfl hl.1 rfl (Nat.le_of_ble_eq_true rfl) (oc_182 1012 shL_law_1012 uw_0_107)) hS (fun q _ h => hFc q h) hFc (fun r13 u t H1 locs ht hvm w13 hB1 hz1 hk1 hS => ?_)
  obtain ⟨c13, I13, F13⟩ := u
  obtain ⟨hP1, hD1⟩ := hB1
  rw [ht] at hP1
  obtain ⟨hP, hD⟩ := exjoin hP hD hk1 hFc hP1 hD1
  generalize H1 = H at hP hS ⊢
  obtain ⟨hM, hd13, hf13⟩ := imm_offers hM w13
  have hR := RR.fm hR hd13 hf13 (by decide) (by decide)
  refine lv_pop hx hb (oc_87 1015 (aq_3 shL_law_1012)) rfl ?_
  refine lv_goto (tgt := 2269) hx hb (oc_167 1016 (aq_4 shL_law_1012) sgw_4_229) rfl ?_
  refine W.widen (k := K + 8) (n := N + 240) (by omega) (by omega) ?_
  exact kk _ _ _ _ _ _ _ _ _ hI hM hR hP hD hS ls hl
set_option maxRecDepth 100000 in
set_option maxHeartbeats 4000000 in
theorem lawc_21 {p : Program} {l : Launch} {e : Env} {s : State} {m : MethodId} {below : List Frame} {meth : Method} {c : Code} {b L : Nat} {xs : Nat → Int32} (C0 : lw_At p s m meth c b L xs) (hLN : L ≤ 3584) {A : Nat → Prop} (hA : ∀ q : Nat, s.heap.size ≤ q → A q) (hbA : ¬ A b) {D : va_G} {cI cB cZ : ClassId} {zz qq vv : Nat} {bt : Nat → Int32} {g g2 : Nat → Nat} (hK : KK D cI cB cZ s) (hXS : XS D zz qq vv bt A s s.heap) {ad : Nat → Nat → Nat} {cn : Nat → Nat} {In : Nat → Int32} {Fn : Nat → Nat → Int32} {c3 : Nat → Nat} {I3 : Nat → Int32} {F3 : Nat → Nat → Int32} (hI : IX ad cn Fn) (hM : IMM c3 F3) (hR : RR cn Fn c3 F3) {H : Heap} {locs : List Loc} (hP : va_P D vwCl (wX cI (D.1 99) zz g ad cn In Fn ++ wM cI cB cZ g2 c3 I3 F3) H) (hD : va_D A (wX cI (D.1 99) zz g ad cn In Fn ++ wM cI cB cZ g2 c3 I3 F3)) (hS : va_S A s.heap H locs) {K N i : Nat} (hi : i + 7 ≤ L) (hKN : K + 8 ≤ 600000 ∧ N + 240 ≤ 7302250) {ls : Array Slot} (hl : lv_has ls 4 [(0, .ref b), (1, .ref (g 0)), (2, .ref (g2 100)), (3, .int (nI i))]) (kk : ∀ (ad : Nat → Nat → Nat) (cn : Nat → Nat) (In : Nat → Int32) (Fn : Nat → Nat → Int32) (c3 : Nat → Nat) (I3 : Nat → Int32) (F3 : Nat → Nat → Int32) (H : Heap) (locs : List Loc), IX ad cn Fn → IMM c3 F3 → RR cn Fn c3 F3 → va_P D vwCl (wX cI (D.1 99) zz g ad cn In Fn ++ wM cI cB cZ g2 c3 I3 F3) H → va_D A (wX cI (D.1 99) zz g ad cn In Fn ++ wM cI cB cZ g2 c3 I3 F3) → va_S A s.heap H locs → ∀ ls : Array Slot, lv_has ls 4 [(0, .ref b), (1, .ref (g 0)), (2, .ref (g2 100)), (3, .int (nI i))] → W p l e room_1 s m #[Value.ref b] below meth c H locs (K + 8) (N + 240) (lw_Z below #[Value.ref b] s) (F0 m 2269 ls [])) : W p l e room_1 s m #[Value.ref b] below meth c H locs K N (lw_Z below #[Value.ref b] s) (F0 m 1019 ls []) := by
  obtain ⟨hx, hb, hr, hml, hown, hts, hX, hbl, hlocks, hgv⟩ := id C0
  have S : SF p m c code 4 s #[Value.ref b] RL := ⟨hx, hb, hml, hown, fun w h => hts w (wT_lw h)⟩
  refine lv_aload_n hx hb (oc_43 1019 (aq_7 shL_law_1012)) rfl (lvA1 hl) ?_
  refine lv_aload_n hx hb (oc_42 1020 (aq_8 shL_law_1012)) rfl (lvA0 hl) ?_
  refine lv_iload_n hx hb (oc_29 1021 (aq_9 shL_law_1012)) rfl (lvA3 hl) ?_
  refine lv_iconst (v := 1) hx hb (oc_4 1022 (aq_10 shL_law_1012)) kic_1 ?_
  refine lv_iadd hx hb (oc_96 1023 (aq_11 shL_law_1012)) ?_
  refine lv_topi (fun y_1 ey_1 => ?_)
  obtain rfl : y_1 = nI (i + 1) := ey_1.trans (nI_add i 1)
  refine va_sld hx hb hX hbl hbA hS (vp_in_nI (by omega) (by omega)) (oc_46 1024 (aq_12 shL_law_1012)) ?_
  refine lv_topi (fun y_2 ey_2 => ?_)
  obtain rfl : y_2 = xs (nI (i + 1)).toNatClampNeg := ey_2
  refine lv_aload_n hx hb (oc_42 1025 (aq_13 shL_law_1012)) rfl (lvA0 hl) ?_
  refine lv_iload_n hx hb (oc_29 1026 (aq_14 shL_law_1012)) rfl (lvA3 hl) ?_
  refine lv_iconst (v := 2) hx hb (oc_5 1027 (aq_15 shL_law_1012)) kic_2 ?_
  refine lv_iadd hx hb (oc_96 1028 (aq_16 shL_law_1012)) ?_
  refine lv_topi (fun y_3 ey_3 => ?_)
  obtain rfl : y_3 = nI (i + 2) := ey_3.trans (nI_add i 2)
  refine va_sld hx hb hX hbl hbA hS (vp_in_nI (by omega) (by omega)) (oc_46 1029 (aq_17 shL_law_1012)) ?_
  refine lv_topi (fun y_4 ey_4 => ?_)
  obtain rfl : y_4 = xs (nI (i + 2)).toNatClampNeg := ey_4
  refine vp_callSi (runV_rxa (As := [.int (xs (nI (i + 1)).toNatClampNeg), .int (xs (nI (i + 2)).toNatClampNeg)]) (rest := []) S (q_Xworth l D cI cB cZ zz qq vv bt g ad cn In Fn (xs (nI (i + 1)).toNatClampNeg) (xs (nI (i + 2)).toNatClampNeg) hI.1) kV_RL_108 hK hXS hS (exP hP) 0 xo_0 rfl rfl ⟨Nat.le_of_ble_eq_true rfl, Nat.le_of_ble_eq_true rfl⟩ ⟨(by show K + 0 ≤ 600000; omega), (by show N + 0 ≤ 7302250; omega)⟩ rfl hl.1 rfl (Nat.le_of_ble_eq_true rfl) (oc_182 1030 (aq_18 shL_law_1012) uw_0_108)) (fun r4 w4 => ?_)
  refine lv_pop hx hb (oc_87 1033 (aq_21 shL_law_1012)) rfl ?_
  refine lv_aload_n hx hb (oc_44 1034 (aq_22 shL_law_1012)) rfl (lvA2 hl) ?_
  refine lv_aload_n hx hb (oc_42 1035 (aq_23 shL_law_1012)) rfl (lvA0 hl) ?_
  refine lv_iload_n hx hb (oc_29 1036 shL_law_1036) rfl (lvA3 hl) ?_
  refine lv_iconst (v := 1) hx hb (oc_4 1037 (aq_1 shL_law_1036)) kic_1 ?_
  refine lv_iadd hx hb (oc_96 1038 (aq_2 shL_law_1036)) ?_
  refine lv_topi (fun y_6 ey_6 => ?_)
  obtain rfl : y_6 = nI (i + 1) := ey_6.trans (nI_add i 1)
  refine va_sld hx hb hX hbl hbA hS (vp_in_nI (by omega) (by omega)) (oc_46 1039 (aq_3 shL_law_1036)) ?_
  refine lv_topi (fun y_7 ey_7 => ?_)
  obtain rfl : y_7 = xs (nI (i + 1)).toNatClampNeg := ey_7
  refine lv_aload_n hx hb (oc_42 1040 (aq_4 shL_law_1036)) rfl (lvA0 hl) ?_
  refine lv_iload_n hx hb (oc_29 1041 (aq_5 shL_law_1036)) rfl (lvA3 hl) ?_
  refine lv_iconst (v := 2) hx hb (oc_5 1042 (aq_6 shL_law_1036)) kic_2 ?_
  refine lv_iadd hx hb (oc_96 1043 (aq_7 shL_law_1036)) ?_
  refine lv_topi (fun y_8 ey_8 => ?_)
  obtain rfl : y_8 = nI (i + 2) := ey_8.trans (nI_add i 2)
  refine va_sld hx hb hX hbl hbA hS (vp_in_nI (by omega) (by omega)) (oc_46 1044 (aq_8 shL_law_1036)) ?_
  refine lv_topi (fun y_9 ey_9 => ?_)
  obtain rfl : y_9 = xs (nI (i + 2)).toNatClampNeg := ey_9
  refine vp_callSi (runV_ra (As := [.int (xs (nI (i + 1)).toNatClampNeg), .int (xs (nI (i + 2)).toNatClampNeg)]) (rest := []) S (q_worth l D cI cB cZ g2 c3 I3 F3 (xs (nI (i + 1)).toNatClampNeg) (xs (nI (i + 2)).toNatClampNeg) hM.1) kV_RL_111 hK (exPr hP) 0 rfl rfl rfl ⟨Nat.le_of_ble_eq_true rfl, Nat.le_of_ble_eq_true rfl⟩ ⟨(by show K + 0 ≤ 600000; omega), (by show N + 0 ≤ 7302250; omega)⟩ rfl hl.1 rfl (Nat.le_of_ble_eq_true rfl) (oc_182 1045 (aq_9 shL_law_1036) uw_0_111)) (fun r9 w9 => ?_)
  refine lv_pop hx hb (oc_87 1048 (aq_12 shL_law_1036)) rfl ?_
  refine lv_goto (tgt := 2269) hx hb (oc_167 1049 (aq_13 shL_law_1036) sgw_4_196) rfl ?_
  refine W.widen (k := K + 8) (n := N + 240) (by omega) (by omega) ?_
  exact kk _ _ _ _ _ _ _ _ _ hI hM hR hP hD hS ls hl
set_option maxRecDepth 100000 in
set_option maxHeartbeats 4000000 in
theorem lawc_22 {p : Program} {l : Launch} {e : Env} {s : State} {m : MethodId} {below : List Frame} {meth : Method} {c : Code} {b L : Nat} {xs : Nat → Int32} (C0 : lw_At p s m meth c b L xs) (hLN : L ≤ 3584) {A : Nat → Prop} (hA : ∀ q : Nat, s.heap.size ≤ q → A q) (hbA : ¬ A b) {D : va_G} {cI cB cZ : ClassId} {zz qq vv : Nat} {bt : Nat → Int32} {g g2 : Nat → Nat} (hK : KK D cI cB cZ s) (hXS : XS D zz qq vv bt A s s.heap) {ad : Nat → Nat → Nat} {cn : Nat → Nat} {In : Nat → Int32} {Fn : Nat → Nat → Int32} {c3 : Nat → Nat} {I3 : Nat → Int32} {F3 : Nat → Nat → Int32} (hI : IX ad cn Fn) (hM : IMM c3 F3) (hR : RR cn Fn c3 F3) {H : Heap} {locs : List Loc} (hP : va_P D vwCl (wX cI (D.1 99) zz g ad cn In Fn ++ wM cI cB cZ g2 c3 I3 F3) H) (hD : va_D A (wX cI (D.1 99) zz g ad cn In Fn ++ wM cI cB cZ g2 c3 I3 F3)) (hS : va_S A s.heap H locs) {K N i : Nat} (hi : i + 7 ≤ L) (hKN : K + 8 ≤ 600000 ∧ N + 240 ≤ 7302250) {ls : Array Slot} (hl : lv_has ls 4 [(0, .ref b), (1, .ref (g 0)), (2, .ref (g2 100)), (3, .int (nI i))]) (kk : ∀ (ad : Nat → Nat → Nat) (cn : Nat → Nat) (In : Nat → Int32) (Fn : Nat → Nat → Int32) (c3 : Nat → Nat) (I3 : Nat → Int32) (F3 : Nat → Nat → Int32) (H : Heap) (locs : List Loc), IX ad cn Fn → IMM c3 F3 → RR cn Fn c3 F3 → va_P D vwCl (wX cI (D.1 99) zz g ad cn In Fn ++ wM cI cB cZ g2 c3 I3 F3) H → va_D A (wX cI (D.1 99) zz g ad cn In Fn ++ wM cI cB cZ g2 c3 I3 F3) → va_S A s.heap H locs → ∀ ls : Array Slot, lv_has ls 4 [(0, .ref b), (1, .ref (g 0)), (2, .ref (g2 100)), (3, .int (nI i))] → W p l e room_1 s m #[Value.ref b] below meth c H locs (K + 8) (N + 240) (lw_Z below #[Value.ref b] s) (F0 m 2269 ls [])) : W p l e room_1 s m #[Value.ref b] below meth c H locs K N (lw_Z below #[Value.ref b] s) (F0 m 1052 ls []) := by
  obtain ⟨hx, hb, hr, hml, hown, hts, hX, hbl, hlocks, hgv⟩ := id C0
  have S : SF p m c code 4 s #[Value.ref b] RL := ⟨hx, hb, hml, hown, fun w h => hts w (wT_lw h)⟩
  refine lv_aload_n hx hb (oc_43 1052 (aq_16 shL_law_1036)) rfl (lvA1 hl) ?_
  refine lv_aload_n hx hb (oc_42 1053 (aq_17 shL_law_1036)) rfl (lvA0 hl) ?_
  refine lv_iload_n hx hb (oc_29 1054 (aq_18 shL_law_1036)) rfl (lvA3 hl) ?_
  refine lv_iconst (v := 1) hx hb (oc_4 1055 (aq_19 shL_law_1036)) kic_1 ?_
  refine lv_iadd hx hb (oc_96 1056 (aq_20 shL_law_1036)) ?_
  refine lv_topi (fun y_1 ey_1 => ?_)
  obtain rfl : y_1 = nI (i + 1) := ey_1.trans (nI_add i 1)
  refine va_sld hx hb hX hbl hbA hS (vp_in_nI (by omega) (by omega)) (oc_46 1057 (aq_21 shL_law_1036)) ?_
  refine lv_topi (fun y_2 ey_2 => ?_)
  obtain rfl : y_2 = xs (nI (i + 1)).toNatClampNeg := ey_2
  refine lv_aload_n hx hb (oc_42 1058 (aq_22 shL_law_1036)) rfl (lvA0 hl) ?_
  refine lv_iload_n hx hb (oc_29 1059 (aq_23 shL_law_1036)) rfl (lvA3 hl) ?_
  refine lv_iconst (v := 2) hx hb (oc_5 1060 shL_law_1060) kic_2 ?_
  refine lv_iadd hx hb (oc_96 1061 (aq_1 shL_law_1060)) ?_
  refine lv_topi (fun y_3 ey_3 => ?_)
  obtain rfl : y_3 = nI (i + 2) := ey_3.trans (nI_add i 2)
  refine va_sld hx hb hX hbl hbA hS (vp_in_nI (by omega) (by omega)) (oc_46 1062 (aq_2 shL_law_1060)) ?_
  refine lv_topi (fun y_4 ey_4 => ?_)
  obtain rfl : y_4 = xs (nI (i + 2)).toNatClampNeg := ey_4
  refine vp_callSi (runV_rxa (As := [.int (xs (nI (i + 1)).toNatClampNeg), .int (xs (nI (i + 2)).toNatClampNeg)]) (rest := []) S (q_Xoffer l D cI cB cZ zz qq vv bt g ad cn In Fn (xs (nI (i + 1)).toNatClampNeg) (xs (nI (i + 2)).toNatClampNeg) hI.1) kV_RL_112 hK hXS hS (exP hP) 0 xo_0 rfl rfl ⟨Nat.le_of_ble_eq_true rfl, Nat.le_of_ble_eq_true rfl⟩ ⟨(by show K + 0 ≤ 600000; omega), (by show N + 0 ≤ 7302250; omega)⟩ rfl hl.1 rfl (Nat.le_of_ble_eq_true rfl) (oc_182 1063 (aq_3 shL_law_1060) uw_0_112)) (fun r4 w4 => ?_)
  refine lv_pop hx hb (oc_87 1066 (aq_6 shL_law_1060)) rfl ?_
  refine lv_aload_n hx hb (oc_44 1067 (aq_7 shL_law_1060)) rfl (lvA2 hl) ?_
  refine lv_aload_n hx hb (oc_42 1068 (aq_8 shL_law_1060)) rfl (lvA0 hl) ?_
  refine lv_iload_n hx hb (oc_29 1069 (aq_9 shL_law_1060)) rfl (lvA3 hl) ?_
  refine lv_iconst (v := 1) hx hb (oc_4 1070 (aq_10 shL_law_1060)) kic_1 ?_
  refine lv_iadd hx hb (oc_96 1071 (aq_11 shL_law_1060)) ?_
  refine lv_topi (fun y_6 ey_6 => ?_)
  obtain rfl : y_6 = nI (i + 1) := ey_6.trans (nI_add i 1)
  refine va_sld hx hb hX hbl hbA hS (vp_in_nI (by omega) (by omega)) (oc_46 1072 (aq_12 shL_law_1060)) ?_
  refine lv_topi (fun y_7 ey_7 => ?_)
  obtain rfl : y_7 = xs (nI (i + 1)).toNatClampNeg := ey_7
  refine lv_aload_n hx hb (oc_42 1073 (aq_13 shL_law_1060)) rfl (lvA0 hl) ?_
  refine lv_iload_n hx hb (oc_29 1074 (aq_14 shL_law_1060)) rfl (lvA3 hl) ?_
  refine lv_iconst (v := 2) hx hb (oc_5 1075 (aq_15 shL_law_1060)) kic_2 ?_
  refine lv_iadd hx hb (oc_96 1076 (aq_16 shL_law_1060)) ?_
  refine lv_topi (fun y_8 ey_8 => ?_)
  obtain rfl : y_8 = nI (i + 2) := ey_8.trans (nI_add i 2)
  refine va_sld hx hb hX hbl hbA hS (vp_in_nI (by omega) (by omega)) (oc_46 1077 (aq_17 shL_law_1060)) ?_
  refine lv_topi (fun y_9 ey_9 => ?_)
  obtain rfl : y_9 = xs (nI (i + 2)).toNatClampNeg := ey_9
  refine vp_callSi (runV_ra (As := [.int (xs (nI (i + 1)).toNatClampNeg), .int (xs (nI (i + 2)).toNatClampNeg)]) (rest := []) S (q_offer l D cI cB cZ g2 c3 I3 F3 (xs (nI (i + 1)).toNatClampNeg) (xs (nI (i + 2)).toNatClampNeg) hM.1) kV_RL_115 hK (exPr hP) 0 rfl rfl rfl ⟨Nat.le_of_ble_eq_true rfl, Nat.le_of_ble_eq_true rfl⟩ ⟨(by show K + 0 ≤ 600000; omega), (by show N + 0 ≤ 7302250; omega)⟩ rfl hl.1 rfl (Nat.le_of_ble_eq_true rfl) (oc_182 1078 (aq_18 shL_law_1060) uw_0_115)) (fun r9 w9 => ?_)
  refine lv_pop hx hb (oc_87 1081 (aq_21 shL_law_1060)) rfl ?_
  refine lv_goto (tgt := 2269) hx hb (oc_167 1082 (aq_22 shL_law_1060) sgw_4_163) rfl ?_
  refine W.widen (k := K + 8) (n := N + 240) (by omega) (by omega) ?_
  exact kk _ _ _ _ _ _ _ _ _ hI hM hR hP hD hS ls hl
set_option maxRecDepth 100000 in
set_option maxHeartbeats 4000000 in
theorem lawc_23 {p : Program} {l : Launch} {e : Env} {s : State} {m : MethodId} {below : List Frame} {meth : Method} {c : Code} {b L : Nat} {xs : Nat → Int32} (C0 : lw_At p s m meth c b L xs) (hLN : L ≤ 3584) {A : Nat → Prop} (hA : ∀ q : Nat, s.heap.size ≤ q → A q) (hbA : ¬ A b) {D : va_G} {cI cB cZ : ClassId} {zz qq vv : Nat} {bt : Nat → Int32} {g g2 : Nat → Nat} (hK : KK D cI cB cZ s) (hXS : XS D zz qq vv bt A s s.heap) {ad : Nat → Nat → Nat} {cn : Nat → Nat} {In : Nat → Int32} {Fn : Nat → Nat → Int32} {c3 : Nat → Nat} {I3 : Nat → Int32} {F3 : Nat → Nat → Int32} (hI : IX ad cn Fn) (hM : IMM c3 F3) (hR : RR cn Fn c3 F3) {H : Heap} {locs : List Loc} (hP : va_P D vwCl (wX cI (D.1 99) zz g ad cn In Fn ++ wM cI cB cZ g2 c3 I3 F3) H) (hD : va_D A (wX cI (D.1 99) zz g ad cn In Fn ++ wM cI cB cZ g2 c3 I3 F3)) (hS : va_S A s.heap H locs) {K N i : Nat} (hi : i + 7 ≤ L) (hKN : K + 8 ≤ 600000 ∧ N + 240 ≤ 7302250) {ls : Array Slot} (hl : lv_has ls 4 [(0, .ref b), (1, .ref (g 0)), (2, .ref (g2 100)), (3, .int (nI i))]) (kk : ∀ (ad : Nat → Nat → Nat) (cn : Nat → Nat) (In : Nat → Int32) (Fn : Nat → Nat → Int32) (c3 : Nat → Nat) (I3 : Nat → Int32) (F3 : Nat → Nat → Int32) (H : Heap) (locs : List Loc), IX ad cn Fn → IMM c3 F3 → RR cn Fn c3 F3 → va_P D vwCl (wX cI (D.1 99) zz g ad cn In Fn ++ wM cI cB cZ g2 c3 I3 F3) H → va_D A (wX cI (D.1 99) zz g ad cn In Fn ++ wM cI cB cZ g2 c3 I3 F3) → va_S A s.heap H locs → ∀ ls : Array Slot, lv_has ls 4 [(0, .ref b), (1, .ref (g 0)), (2, .ref (g2 100)), (3, .int (nI i))] → W p l e room_1 s m #[Value.ref b] below meth c H locs (K + 8) (N + 240) (lw_Z below #[Value.ref b] s) (F0 m 2269 ls [])) : W p l e room_1 s m #[Value.ref b] below meth c H locs K N (lw_Z below #[Value.ref b] s) (F0 m 1085 ls []) := by
  obtain ⟨hx, hb, hr, hml, hown, hts, hX, hbl, hlocks, hgv⟩ := id C0
  have S : SF p m c code 4 s #[Value.ref b] RL := ⟨hx, hb, hml, hown, fun w h => hts w (wT_lw h)⟩
  refine lv_aload_n hx hb (oc_43 1085 shL_law_1085) rfl (lvA1 hl) ?_
  refine lv_aload_n hx hb (oc_42 1086 (aq_1 shL_law_1085)) rfl (lvA0 hl) ?_
  refine lv_iload_n hx hb (oc_29 1087 (aq_2 shL_law_1085)) rfl (lvA3 hl) ?_
  refine lv_iconst (v := 1) hx hb (oc_4 1088 (aq_3 shL_law_1085)) kic_1 ?_
  refine lv_iadd hx hb (oc_96 1089 (aq_4 shL_law_1085)) ?_
  refine lv_topi (fun y_1 ey_1 => ?_)
  obtain rfl : y_1 = nI (i + 1) := ey_1.trans (nI_add i 1)
  refine va_sld hx hb hX hbl hbA hS (vp_in_nI (by omega) (by omega)) (oc_46 1090 (aq_5 shL_law_1085)) ?_
  refine lv_topi (fun y_2 ey_2 => ?_)
  obtain rfl : y_2 = xs (nI (i + 1)).toNatClampNeg := ey_2
  refine lv_aload_n hx hb (oc_42 1091 (aq_6 shL_law_1085)) rfl (lvA0 hl) ?_
  refine lv_iload_n hx hb (oc_29 1092 (aq_7 shL_law_1085)) rfl (lvA3 hl) ?_
  refine lv_iconst (v := 2) hx hb (oc_5 1093 (aq_8 shL_law_1085)) kic_2 ?_
  refine lv_iadd hx hb (oc_96 1094 (aq_9 shL_law_1085)) ?_
  refine lv_topi (fun y_3 ey_3 => ?_)
  obtain rfl : y_3 = nI (i + 2) := ey_3.trans (nI_add i 2)
  refine va_sld hx hb hX hbl hbA hS (vp_in_nI (by omega) (by omega)) (oc_46 1095 (aq_10 shL_law_1085)) ?_
  refine lv_topi (fun y_4 ey_4 => ?_)
  obtain rfl : y_4 = xs (nI (i + 2)).toNatClampNeg := ey_4
  have hFc := free_all (exD hD) hS hA
  refine va_calli (runV_xa (As := [.int (xs (nI (i + 1)).toNatClampNeg), .int (xs (nI (i + 2)).toNatClampNeg)]) (rest := []) S (q_Xthefts l D cI cB cZ zz qq vv bt g ad cn In Fn (xs (nI (i + 1)).toNatClampNeg) (xs (nI (i + 2)).toNatClampNeg) H.size hI.1) kV_RL_116 hK hXS hS hFc (exP hP) (exD hD) 0 xo_0 rfl rfl ⟨Nat.le_of_ble_eq_true rfl, Nat.le_of_ble_eq_true rfl⟩ ⟨(by show K + 0 ≤ 600000; omega), (by show N + 0 ≤ 7302250; omega)⟩ rfl hl.1 rfl (Nat.le_of_ble_eq_true rfl) (oc_182 1096 (aq_11 shL_law_1085) uw_0_116)) hS (fun q _ h => hFc q h) hFc (fun r4 u t H1 locs ht hvm w4 hB1 hz1 hk1 hS => ?_)
  obtain ⟨c4, I4, F4⟩ := u
  obtain ⟨hP1, hD1⟩ := hB1
  rw [ht] at hP1
  obtain ⟨hP, hD⟩ := exjoinL hP hD hk1 hFc hP1 hD1
  generalize H1 = H at hP hS ⊢
  have hd4 := w4.1.1
  have hf4 := w4.1.2.2
  have hI := IX.fr hI w4.1 w4.2.1 (by decide) (by decide)
  have hR := RR.fx hR hd4 hf4 (by decide) (by decide)
  refine lv_pop hx hb (oc_87 1099 (aq_14 shL_law_1085)) rfl ?_
  refine lv_aload_n hx hb (oc_44 1100 (aq_15 shL_law_1085)) rfl (lvA2 hl) ?_
  refine lv_aload_n hx hb (oc_42 1101 (aq_16 shL_law_1085)) rfl (lvA0 hl) ?_
  refine lv_iload_n hx hb (oc_29 1102 (aq_17 shL_law_1085)) rfl (lvA3 hl) ?_
  refine lv_iconst (v := 1) hx hb (oc_4 1103 (aq_18 shL_law_1085)) kic_1 ?_
  refine lv_iadd hx hb (oc_96 1104 (aq_19 shL_law_1085)) ?_
  refine lv_topi (fun y_6 ey_6 => ?_)
  obtain rfl : y_6 = nI (i + 1) := ey_6.trans (nI_add i 1)
  refine va_sld hx hb hX hbl hbA hS (vp_in_nI (by omega) (by omega)) (oc_46 1105 (aq_20 shL_law_1085)) ?_
  refine lv_topi (fun y_7 ey_7 => ?_)
  obtain rfl : y_7 = xs (nI (i + 1)).toNatClampNeg := ey_7
  refine lv_aload_n hx hb (oc_42 1106 (aq_21 shL_law_1085)) rfl (lvA0 hl) ?_
  refine lv_iload_n hx hb (oc_29 1107 (aq_22 shL_law_1085)) rfl (lvA3 hl) ?_
  refine lv_iconst (v := 2) hx hb (oc_5 1108 (aq_23 shL_law_1085)) kic_2 ?_
  refine lv_iadd hx hb (oc_96 1109 shL_law_1109) ?_
  refine lv_topi (fun y_8 ey_8 => ?_)
  obtain rfl : y_8 = nI (i + 2) := ey_8.trans (nI_add i 2)
  refine va_sld hx hb hX hbl hbA hS (vp_in_nI (by omega) (by omega)) (oc_46 1110 (aq_1 shL_law_1109)) ?_
  refine lv_topi (fun y_9 ey_9 => ?_)
  obtain rfl : y_9 = xs (nI (i + 2)).toNatClampNeg := ey_9
  have hFc := free_all (exDr hD) hS hA
  refine va_calli (runV_a (As := [.int (xs (nI (i + 1)).toNatClampNeg), .int (xs (nI (i + 2)).toNatClampNeg)]) (rest := []) S (q_thefts l D cI cB cZ g2 c3 I3 F3 (xs (nI (i + 1)).toNatClampNeg) (xs (nI (i + 2)).toNatClampNeg) H.size hM.1) kV_RL_119 hK (exPr hP) (exDr hD) 0 rfl rfl rfl ⟨Nat.le_of_ble_eq_true rfl, Nat.le_of_ble_eq_true rfl⟩ ⟨(by show K + 0 ≤ 600000; omega), (by show N + 0 ≤ 7302250; omega)⟩ rfl hl.1 rfl (Nat.le_of_ble_eq_true rfl) (oc_182 1111 (aq_2 shL_law_1109) uw_0_119)) hS (fun q _ h => hFc q h) hFc (fun r9 u t H1 locs ht hvm w9 hB1 hz1 hk1 hS => ?_)
  obtain ⟨c9, I9, F9⟩ := u
  obtain ⟨hP1, hD1⟩ := hB1
  rw [ht] at hP1
  obtain ⟨hP, hD⟩ := exjoin hP hD hk1 hFc hP1 hD1
  generalize H1 = H at hP hS ⊢
  obtain ⟨hM, hd9, hf9⟩ := imm_thefts hM w9
  have hR := RR.fm hR hd9 hf9 (by decide) (by decide)
  refine lv_pop hx hb (oc_87 1114 (aq_5 shL_law_1109)) rfl ?_
  refine lv_goto (tgt := 2269) hx hb (oc_167 1115 (aq_6 shL_law_1109) sgw_4_130) rfl ?_
  refine W.widen (k := K + 8) (n := N + 240) (by omega) (by omega) ?_
  exact kk _ _ _ _ _ _ _ _ _ hI hM hR hP hD hS ls hl
set_option maxRecDepth 100000 in
set_option maxHeartbeats 4000000 in
theorem lawc_24 {p : Program} {l : Launch} {e : Env} {s : State} {m : MethodId} {below : List Frame} {meth : Method} {c : Code} {b L : Nat} {xs : Nat → Int32} (C0 : lw_At p s m meth c b L xs) (hLN : L ≤ 3584) {A : Nat → Prop} (hA : ∀ q : Nat, s.heap.size ≤ q → A q) (hbA : ¬ A b) {D : va_G} {cI cB cZ : ClassId} {zz qq vv : Nat} {bt : Nat → Int32} {g g2 : Nat → Nat} (hK : KK D cI cB cZ s) (hXS : XS D zz qq vv bt A s s.heap) {ad : Nat → Nat → Nat} {cn : Nat → Nat} {In : Nat → Int32} {Fn : Nat → Nat → Int32} {c3 : Nat → Nat} {I3 : Nat → Int32} {F3 : Nat → Nat → Int32} (hI : IX ad cn Fn) (hM : IMM c3 F3) (hR : RR cn Fn c3 F3) {H : Heap} {locs : List Loc} (hP : va_P D vwCl (wX cI (D.1 99) zz g ad cn In Fn ++ wM cI cB cZ g2 c3 I3 F3) H) (hD : va_D A (wX cI (D.1 99) zz g ad cn In Fn ++ wM cI cB cZ g2 c3 I3 F3)) (hS : va_S A s.heap H locs) {K N i : Nat} (hi : i + 7 ≤ L) (hKN : K + 8 ≤ 600000 ∧ N + 240 ≤ 7302250) {ls : Array Slot} (hl : lv_has ls 4 [(0, .ref b), (1, .ref (g 0)), (2, .ref (g2 100)), (3, .int (nI i))]) (kk : ∀ (ad : Nat → Nat → Nat) (cn : Nat → Nat) (In : Nat → Int32) (Fn : Nat → Nat → Int32) (c3 : Nat → Nat) (I3 : Nat → Int32) (F3 : Nat → Nat → Int32) (H : Heap) (locs : List Loc), IX ad cn Fn → IMM c3 F3 → RR cn Fn c3 F3 → va_P D vwCl (wX cI (D.1 99) zz g ad cn In Fn ++ wM cI cB cZ g2 c3 I3 F3) H → va_D A (wX cI (D.1 99) zz g ad cn In Fn ++ wM cI cB cZ g2 c3 I3 F3) → va_S A s.heap H locs → ∀ ls : Array Slot, lv_has ls 4 [(0, .ref b), (1, .ref (g 0)), (2, .ref (g2 100)), (3, .int (nI i))] → W p l e room_1 s m #[Value.ref b] below meth c H locs (K + 8) (N + 240) (lw_Z below #[Value.ref b] s) (F0 m 2269 ls [])) : W p l e room_1 s m #[Value.ref b] below meth c H locs K N (lw_Z below #[Value.ref b] s) (F0 m 1118 ls []) := by
  obtain ⟨hx, hb, hr, hml, hown, hts, hX, hbl, hlocks, hgv⟩ := id C0
  have S : SF p m c code 4 s #[Value.ref b] RL := ⟨hx, hb, hml, hown, fun w h => hts w (wT_lw h)⟩
  refine lv_aload_n hx hb (oc_43 1118 (aq_9 shL_law_1109)) rfl (lvA1 hl) ?_
  refine lv_aload_n hx hb (oc_42 1119 (aq_10 shL_law_1109)) rfl (lvA0 hl) ?_
  refine lv_iload_n hx hb (oc_29 1120 (aq_11 shL_law_1109)) rfl (lvA3 hl) ?_
  refine lv_iconst (v := 1) hx hb (oc_4 1121 (aq_12 shL_law_1109)) kic_1 ?_
  refine lv_iadd hx hb (oc_96 1122 (aq_13 shL_law_1109)) ?_
  refine lv_topi (fun y_1 ey_1 => ?_)
  obtain rfl : y_1 = nI (i + 1) := ey_1.trans (nI_add i 1)
  refine va_sld hx hb hX hbl hbA hS (vp_in_nI (by omega) (by omega)) (oc_46 1123 (aq_14 shL_law_1109)) ?_
  refine lv_topi (fun y_2 ey_2 => ?_)
  obtain rfl : y_2 = xs (nI (i + 1)).toNatClampNeg := ey_2
  refine lv_aload_n hx hb (oc_42 1124 (aq_15 shL_law_1109)) rfl (lvA0 hl) ?_
  refine lv_iload_n hx hb (oc_29 1125 (aq_16 shL_law_1109)) rfl (lvA3 hl) ?_
  refine lv_iconst (v := 2) hx hb (oc_5 1126 (aq_17 shL_law_1109)) kic_2 ?_
  refine lv_iadd hx hb (oc_96 1127 (aq_18 shL_law_1109)) ?_
  refine lv_topi (fun y_3 ey_3 => ?_)
  obtain rfl : y_3 = nI (i + 2) := ey_3.trans (nI_add i 2)
  refine va_sld hx hb hX hbl hbA hS (vp_in_nI (by omega) (by omega)) (oc_46 1128 (aq_19 shL_law_1109)) ?_
  refine lv_topi (fun y_4 ey_4 => ?_)
  obtain rfl : y_4 = xs (nI (i + 2)).toNatClampNeg := ey_4
  refine vp_callSi (runV_rxa (As := [.int (xs (nI (i + 1)).toNatClampNeg), .int (xs (nI (i + 2)).toNatClampNeg)]) (rest := []) S (q_Xlock l D cI cB cZ zz qq vv bt g ad cn In Fn (xs (nI (i + 1)).toNatClampNeg) (xs (nI (i + 2)).toNatClampNeg) hI.1) kV_RL_120 hK hXS hS (exP hP) 0 xo_0 rfl rfl ⟨Nat.le_of_ble_eq_true rfl, Nat.le_of_ble_eq_true rfl⟩ ⟨(by show K + 0 ≤ 600000; omega), (by show N + 0 ≤ 7302250; omega)⟩ rfl hl.1 rfl (Nat.le_of_ble_eq_true rfl) (oc_182 1129 (aq_20 shL_law_1109) uw_0_120)) (fun r4 w4 => ?_)
  refine lv_pop hx hb (oc_87 1132 (aq_23 shL_law_1109)) rfl ?_
  refine lv_aload_n hx hb (oc_44 1133 shL_law_1133) rfl (lvA2 hl) ?_
  refine lv_aload_n hx hb (oc_42 1134 (aq_1 shL_law_1133)) rfl (lvA0 hl) ?_
  refine lv_iload_n hx hb (oc_29 1135 (aq_2 shL_law_1133)) rfl (lvA3 hl) ?_
  refine lv_iconst (v := 1) hx hb (oc_4 1136 (aq_3 shL_law_1133)) kic_1 ?_
  refine lv_iadd hx hb (oc_96 1137 (aq_4 shL_law_1133)) ?_
  refine lv_topi (fun y_6 ey_6 => ?_)
  obtain rfl : y_6 = nI (i + 1) := ey_6.trans (nI_add i 1)
  refine va_sld hx hb hX hbl hbA hS (vp_in_nI (by omega) (by omega)) (oc_46 1138 (aq_5 shL_law_1133)) ?_
  refine lv_topi (fun y_7 ey_7 => ?_)
  obtain rfl : y_7 = xs (nI (i + 1)).toNatClampNeg := ey_7
  refine lv_aload_n hx hb (oc_42 1139 (aq_6 shL_law_1133)) rfl (lvA0 hl) ?_
  refine lv_iload_n hx hb (oc_29 1140 (aq_7 shL_law_1133)) rfl (lvA3 hl) ?_
  refine lv_iconst (v := 2) hx hb (oc_5 1141 (aq_8 shL_law_1133)) kic_2 ?_
  refine lv_iadd hx hb (oc_96 1142 (aq_9 shL_law_1133)) ?_
  refine lv_topi (fun y_8 ey_8 => ?_)
  obtain rfl : y_8 = nI (i + 2) := ey_8.trans (nI_add i 2)
  refine va_sld hx hb hX hbl hbA hS (vp_in_nI (by omega) (by omega)) (oc_46 1143 (aq_10 shL_law_1133)) ?_
  refine lv_topi (fun y_9 ey_9 => ?_)
  obtain rfl : y_9 = xs (nI (i + 2)).toNatClampNeg := ey_9
  refine vp_callSi (runV_ra (As := [.int (xs (nI (i + 1)).toNatClampNeg), .int (xs (nI (i + 2)).toNatClampNeg)]) (rest := []) S (q_lock l D cI cB cZ g2 c3 I3 F3 (xs (nI (i + 1)).toNatClampNeg) (xs (nI (i + 2)).toNatClampNeg) hM.1) kV_RL_123 hK (exPr hP) 0 rfl rfl rfl ⟨Nat.le_of_ble_eq_true rfl, Nat.le_of_ble_eq_true rfl⟩ ⟨(by show K + 0 ≤ 600000; omega), (by show N + 0 ≤ 7302250; omega)⟩ rfl hl.1 rfl (Nat.le_of_ble_eq_true rfl) (oc_182 1144 (aq_11 shL_law_1133) uw_0_123)) (fun r9 w9 => ?_)
  refine lv_pop hx hb (oc_87 1147 (aq_14 shL_law_1133)) rfl ?_
  refine lv_goto (tgt := 2269) hx hb (oc_167 1148 (aq_15 shL_law_1133) sgw_4_97) rfl ?_
  refine W.widen (k := K + 8) (n := N + 240) (by omega) (by omega) ?_
  exact kk _ _ _ _ _ _ _ _ _ hI hM hR hP hD hS ls hl
set_option maxRecDepth 100000 in
set_option maxHeartbeats 4000000 in
theorem lawc_25 {p : Program} {l : Launch} {e : Env} {s : State} {m : MethodId} {below : List Frame} {meth : Method} {c : Code} {b L : Nat} {xs : Nat → Int32} (C0 : lw_At p s m meth c b L xs) (hLN : L ≤ 3584) {A : Nat → Prop} (hA : ∀ q : Nat, s.heap.size ≤ q → A q) (hbA : ¬ A b) {D : va_G} {cI cB cZ : ClassId} {zz qq vv : Nat} {bt : Nat → Int32} {g g2 : Nat → Nat} (hK : KK D cI cB cZ s) (hXS : XS D zz qq vv bt A s s.heap) {ad : Nat → Nat → Nat} {cn : Nat → Nat} {In : Nat → Int32} {Fn : Nat → Nat → Int32} {c3 : Nat → Nat} {I3 : Nat → Int32} {F3 : Nat → Nat → Int32} (hI : IX ad cn Fn) (hM : IMM c3 F3) (hR : RR cn Fn c3 F3) {H : Heap} {locs : List Loc} (hP : va_P D vwCl (wX cI (D.1 99) zz g ad cn In Fn ++ wM cI cB cZ g2 c3 I3 F3) H) (hD : va_D A (wX cI (D.1 99) zz g ad cn In Fn ++ wM cI cB cZ g2 c3 I3 F3)) (hS : va_S A s.heap H locs) {K N i : Nat} (hi : i + 7 ≤ L) (hKN : K + 8 ≤ 600000 ∧ N + 240 ≤ 7302250) {ls : Array Slot} (hl : lv_has ls 4 [(0, .ref b), (1, .ref (g 0)), (2, .ref (g2 100)), (3, .int (nI i))]) (kk : ∀ (ad : Nat → Nat → Nat) (cn : Nat → Nat) (In : Nat → Int32) (Fn : Nat → Nat → Int32) (c3 : Nat → Nat) (I3 : Nat → Int32) (F3 : Nat → Nat → Int32) (H : Heap) (locs : List Loc), IX ad cn Fn → IMM c3 F3 → RR cn Fn c3 F3 → va_P D vwCl (wX cI (D.1 99) zz g ad cn In Fn ++ wM cI cB cZ g2 c3 I3 F3) H → va_D A (wX cI (D.1 99) zz g ad cn In Fn ++ wM cI cB cZ g2 c3 I3 F3) → va_S A s.heap H locs → ∀ ls : Array Slot, lv_has ls 4 [(0, .ref b), (1, .ref (g 0)), (2, .ref (g2 100)), (3, .int (nI i))] → W p l e room_1 s m #[Value.ref b] below meth c H locs (K + 8) (N + 240) (lw_Z below #[Value.ref b] s) (F0 m 2269 ls [])) : W p l e room_1 s m #[Value.ref b] below meth c H locs K N (lw_Z below #[Value.ref b] s) (F0 m 1151 ls []) := by
  obtain ⟨hx, hb, hr, hml, hown, hts, hX, hbl, hlocks, hgv⟩ := id C0
  have S : SF p m c code 4 s #[Value.ref b] RL := ⟨hx, hb, hml, hown, fun w h => hts w (wT_lw h)⟩
  refine lv_aload_n hx hb (oc_43 1151 (aq_18 shL_law_1133)) rfl (lvA1 hl) ?_
  refine lv_aload_n hx hb (oc_42 1152 (aq_19 shL_law_1133)) rfl (lvA0 hl) ?_
  refine lv_iload_n hx hb (oc_29 1153 (aq_20 shL_law_1133)) rfl (lvA3 hl) ?_
  refine lv_iconst (v := 1) hx hb (oc_4 1154 (aq_21 shL_law_1133)) kic_1 ?_
  refine lv_iadd hx hb (oc_96 1155 (aq_22 shL_law_1133)) ?_
  refine lv_topi (fun y_1 ey_1 => ?_)
  obtain rfl : y_1 = nI (i + 1) := ey_1.trans (nI_add i 1)
  refine va_sld hx hb hX hbl hbA hS (vp_in_nI (by omega) (by omega)) (oc_46 1156 (aq_23 shL_law_1133)) ?_
  refine lv_topi (fun y_2 ey_2 => ?_)
  obtain rfl : y_2 = xs (nI (i + 1)).toNatClampNeg := ey_2
  refine lv_aload_n hx hb (oc_42 1157 shL_law_1157) rfl (lvA0 hl) ?_
  refine lv_iload_n hx hb (oc_29 1158 (aq_1 shL_law_1157)) rfl (lvA3 hl) ?_
  refine lv_iconst (v := 2) hx hb (oc_5 1159 (aq_2 shL_law_1157)) kic_2 ?_
  refine lv_iadd hx hb (oc_96 1160 (aq_3 shL_law_1157)) ?_
  refine lv_topi (fun y_3 ey_3 => ?_)
  obtain rfl : y_3 = nI (i + 2) := ey_3.trans (nI_add i 2)
  refine va_sld hx hb hX hbl hbA hS (vp_in_nI (by omega) (by omega)) (oc_46 1161 (aq_4 shL_law_1157)) ?_
  refine lv_topi (fun y_4 ey_4 => ?_)
  obtain rfl : y_4 = xs (nI (i + 2)).toNatClampNeg := ey_4
  have hFc := free_all (exD hD) hS hA
  refine va_calli (runV_xa (As := [.int (xs (nI (i + 1)).toNatClampNeg), .int (xs (nI (i + 2)).toNatClampNeg)]) (rest := []) S (q_Xsewer l D cI cB cZ zz qq vv bt g ad cn In Fn (xs (nI (i + 1)).toNatClampNeg) (xs (nI (i + 2)).toNatClampNeg) H.size hI.1) kV_RL_124 hK hXS hS hFc (exP hP) (exD hD) 0 xo_0 rfl rfl ⟨Nat.le_of_ble_eq_true rfl, Nat.le_of_ble_eq_true rfl⟩ ⟨(by show K + 2 ≤ 600000; omega), (by show N + 103 ≤ 7302250; omega)⟩ rfl hl.1 rfl (Nat.le_of_ble_eq_true rfl) (oc_182 1162 (aq_5 shL_law_1157) uw_0_124)) hS (fun q _ h => hFc q h) hFc (fun r4 u t H1 locs ht hvm w4 hB1 hz1 hk1 hS => ?_)
  obtain ⟨a4, c4, I4, F4⟩ := u
  obtain ⟨hP1, hD1⟩ := hB1
  rw [ht] at hP1
  obtain ⟨hP, hD⟩ := exjoinL hP hD hk1 hFc hP1 hD1
  generalize H1 = H at hP hS ⊢
  obtain ⟨hI, hd4, hf4⟩ := ix_sewer hI w4
  have hR := RR.fx hR hd4 hf4 (by decide) (by decide)
  refine lv_pop hx hb (oc_87 1165 (aq_8 shL_law_1157)) rfl ?_
  refine lv_aload_n hx hb (oc_44 1166 (aq_9 shL_law_1157)) rfl (lvA2 hl) ?_
  refine lv_aload_n hx hb (oc_42 1167 (aq_10 shL_law_1157)) rfl (lvA0 hl) ?_
  refine lv_iload_n hx hb (oc_29 1168 (aq_11 shL_law_1157)) rfl (lvA3 hl) ?_
  refine lv_iconst (v := 1) hx hb (oc_4 1169 (aq_12 shL_law_1157)) kic_1 ?_
  refine lv_iadd hx hb (oc_96 1170 (aq_13 shL_law_1157)) ?_
  refine lv_topi (fun y_6 ey_6 => ?_)
  obtain rfl : y_6 = nI (i + 1) := ey_6.trans (nI_add i 1)
  refine va_sld hx hb hX hbl hbA hS (vp_in_nI (by omega) (by omega)) (oc_46 1171 (aq_14 shL_law_1157)) ?_
  refine lv_topi (fun y_7 ey_7 => ?_)
  obtain rfl : y_7 = xs (nI (i + 1)).toNatClampNeg := ey_7
  refine lv_aload_n hx hb (oc_42 1172 (aq_15 shL_law_1157)) rfl (lvA0 hl) ?_
  refine lv_iload_n hx hb (oc_29 1173 (aq_16 shL_law_1157)) rfl (lvA3 hl) ?_
  refine lv_iconst (v := 2) hx hb (oc_5 1174 (aq_17 shL_law_1157)) kic_2 ?_
  refine lv_iadd hx hb (oc_96 1175 (aq_18 shL_law_1157)) ?_
  refine lv_topi (fun y_8 ey_8 => ?_)
  obtain rfl : y_8 = nI (i + 2) := ey_8.trans (nI_add i 2)
  refine va_sld hx hb hX hbl hbA hS (vp_in_nI (by omega) (by omega)) (oc_46 1176 (aq_19 shL_law_1157)) ?_
  refine lv_topi (fun y_9 ey_9 => ?_)
  obtain rfl : y_9 = xs (nI (i + 2)).toNatClampNeg := ey_9
  have hFc := free_all (exDr hD) hS hA
  refine va_calli (runV_a (As := [.int (xs (nI (i + 1)).toNatClampNeg), .int (xs (nI (i + 2)).toNatClampNeg)]) (rest := []) S (q_sewer l D cI cB cZ g2 c3 I3 F3 (xs (nI (i + 1)).toNatClampNeg) (xs (nI (i + 2)).toNatClampNeg) H.size hM.1) kV_RL_127 hK (exPr hP) (exDr hD) 0 rfl rfl rfl ⟨Nat.le_of_ble_eq_true rfl, Nat.le_of_ble_eq_true rfl⟩ ⟨(by show K + 2 + 0 ≤ 600000; omega), (by show N + 103 + 0 ≤ 7302250; omega)⟩ rfl hl.1 rfl (Nat.le_of_ble_eq_true rfl) (oc_182 1177 (aq_20 shL_law_1157) uw_0_127)) hS (fun q _ h => hFc q h) hFc (fun r9 u t H1 locs ht hvm w9 hB1 hz1 hk1 hS => ?_)
  obtain ⟨c9, I9, F9⟩ := u
  obtain ⟨hP1, hD1⟩ := hB1
  rw [ht] at hP1
  obtain ⟨hP, hD⟩ := exjoin hP hD hk1 hFc hP1 hD1
  generalize H1 = H at hP hS ⊢
  obtain ⟨hM, hd9, hf9⟩ := imm_sewer hM w9
  have hR := RR.fm hR hd9 hf9 (by decide) (by decide)
  refine lv_pop hx hb (oc_87 1180 (aq_23 shL_law_1157)) rfl ?_
  refine lv_goto (tgt := 2269) hx hb (oc_167 1181 shL_law_1181 sgw_4_64) rfl ?_
  refine W.widen (k := K + 8) (n := N + 240) (by omega) (by omega) ?_
  exact kk _ _ _ _ _ _ _ _ _ hI hM hR hP hD hS ls hl
set_option maxRecDepth 100000 in
set_option maxHeartbeats 4000000 in
theorem lawc_26 {p : Program} {l : Launch} {e : Env} {s : State} {m : MethodId} {below : List Frame} {meth : Method} {c : Code} {b L : Nat} {xs : Nat → Int32} (C0 : lw_At p s m meth c b L xs) (hLN : L ≤ 3584) {A : Nat → Prop} (hA : ∀ q : Nat, s.heap.size ≤ q → A q) (hbA : ¬ A b) {D : va_G} {cI cB cZ : ClassId} {zz qq vv : Nat} {bt : Nat → Int32} {g g2 : Nat → Nat} (hK : KK D cI cB cZ s) (hXS : XS D zz qq vv bt A s s.heap) {ad : Nat → Nat → Nat} {cn : Nat → Nat} {In : Nat → Int32} {Fn : Nat → Nat → Int32} {c3 : Nat → Nat} {I3 : Nat → Int32} {F3 : Nat → Nat → Int32} (hI : IX ad cn Fn) (hM : IMM c3 F3) (hR : RR cn Fn c3 F3) {H : Heap} {locs : List Loc} (hP : va_P D vwCl (wX cI (D.1 99) zz g ad cn In Fn ++ wM cI cB cZ g2 c3 I3 F3) H) (hD : va_D A (wX cI (D.1 99) zz g ad cn In Fn ++ wM cI cB cZ g2 c3 I3 F3)) (hS : va_S A s.heap H locs) {K N i : Nat} (hi : i + 7 ≤ L) (hKN : K + 8 ≤ 600000 ∧ N + 240 ≤ 7302250) {ls : Array Slot} (hl : lv_has ls 4 [(0, .ref b), (1, .ref (g 0)), (2, .ref (g2 100)), (3, .int (nI i))]) (kk : ∀ (ad : Nat → Nat → Nat) (cn : Nat → Nat) (In : Nat → Int32) (Fn : Nat → Nat → Int32) (c3 : Nat → Nat) (I3 : Nat → Int32) (F3 : Nat → Nat → Int32) (H : Heap) (locs : List Loc), IX ad cn Fn → IMM c3 F3 → RR cn Fn c3 F3 → va_P D vwCl (wX cI (D.1 99) zz g ad cn In Fn ++ wM cI cB cZ g2 c3 I3 F3) H → va_D A (wX cI (D.1 99) zz g ad cn In Fn ++ wM cI cB cZ g2 c3 I3 F3) → va_S A s.heap H locs → ∀ ls : Array Slot, lv_has ls 4 [(0, .ref b), (1, .ref (g 0)), (2, .ref (g2 100)), (3, .int (nI i))] → W p l e room_1 s m #[Value.ref b] below meth c H locs (K + 8) (N + 240) (lw_Z below #[Value.ref b] s) (F0 m 2269 ls [])) : W p l e room_1 s m #[Value.ref b] below meth c H locs K N (lw_Z below #[Value.ref b] s) (F0 m 1184 ls []) := by
  obtain ⟨hx, hb, hr, hml, hown, hts, hX, hbl, hlocks, hgv⟩ := id C0
  have S : SF p m c code 4 s #[Value.ref b] RL := ⟨hx, hb, hml, hown, fun w h => hts w (wT_lw h)⟩
  refine lv_aload_n hx hb (oc_43 1184 (aq_3 shL_law_1181)) rfl (lvA1 hl) ?_
  refine lv_aload_n hx hb (oc_42 1185 (aq_4 shL_law_1181)) rfl (lvA0 hl) ?_
  refine lv_iload_n hx hb (oc_29 1186 (aq_5 shL_law_1181)) rfl (lvA3 hl) ?_
  refine lv_iconst (v := 1) hx hb (oc_4 1187 (aq_6 shL_law_1181)) kic_1 ?_
  refine lv_iadd hx hb (oc_96 1188 (aq_7 shL_law_1181)) ?_
  refine lv_topi (fun y_1 ey_1 => ?_)
  obtain rfl : y_1 = nI (i + 1) := ey_1.trans (nI_add i 1)
  refine va_sld hx hb hX hbl hbA hS (vp_in_nI (by omega) (by omega)) (oc_46 1189 (aq_8 shL_law_1181)) ?_
  refine lv_topi (fun y_2 ey_2 => ?_)
  obtain rfl : y_2 = xs (nI (i + 1)).toNatClampNeg := ey_2
  have hFc := free_all (exD hD) hS hA
  refine va_calli (runV_xa (As := [.int (xs (nI (i + 1)).toNatClampNeg)]) (rest := []) S (q_Xblocked l D cI cB cZ zz qq vv bt g ad cn In Fn (xs (nI (i + 1)).toNatClampNeg) H.size hI.1) kV_RL_128 hK hXS hS hFc (exP hP) (exD hD) 0 xo_0 rfl rfl ⟨Nat.le_of_ble_eq_true rfl, Nat.le_of_ble_eq_true rfl⟩ ⟨(by show K + 0 ≤ 600000; omega), (by show N + 0 ≤ 7302250; omega)⟩ rfl hl.1 rfl (Nat.le_of_ble_eq_true rfl) (oc_182 1190 (aq_9 shL_law_1181) uw_0_128)) hS (fun q _ h => hFc q h) hFc (fun r2 u t H1 locs ht hvm w2 hB1 hz1 hk1 hS => ?_)
  obtain ⟨c2, I2, F2⟩ := u
  obtain ⟨hP1, hD1⟩ := hB1
  rw [ht] at hP1
  obtain ⟨hP, hD⟩ := exjoinL hP hD hk1 hFc hP1 hD1
  generalize H1 = H at hP hS ⊢
  have hd2 := w2.1.1
  have hf2 := w2.1.2.2
  have hI := IX.fr hI w2.1 w2.2.1 (by decide) (by decide)
  have hR := RR.fx hR hd2 hf2 (by decide) (by decide)
  refine lv_pop hx hb (oc_87 1193 (aq_12 shL_law_1181)) rfl ?_
  refine lv_aload_n hx hb (oc_44 1194 (aq_13 shL_law_1181)) rfl (lvA2 hl) ?_
  refine lv_aload_n hx hb (oc_42 1195 (aq_14 shL_law_1181)) rfl (lvA0 hl) ?_
  refine lv_iload_n hx hb (oc_29 1196 (aq_15 shL_law_1181)) rfl (lvA3 hl) ?_
  refine lv_iconst (v := 1) hx hb (oc_4 1197 (aq_16 shL_law_1181)) kic_1 ?_
  refine lv_iadd hx hb (oc_96 1198 (aq_17 shL_law_1181)) ?_
  refine lv_topi (fun y_4 ey_4 => ?_)
  obtain rfl : y_4 = nI (i + 1) := ey_4.trans (nI_add i 1)
  refine va_sld hx hb hX hbl hbA hS (vp_in_nI (by omega) (by omega)) (oc_46 1199 (aq_18 shL_law_1181)) ?_
  refine lv_topi (fun y_5 ey_5 => ?_)
  obtain rfl : y_5 = xs (nI (i + 1)).toNatClampNeg := ey_5
  have hFc := free_all (exDr hD) hS hA
  refine va_calli (runV_a (As := [.int (xs (nI (i + 1)).toNatClampNeg)]) (rest := []) S (q_blocked l D cI cB cZ g2 c3 I3 F3 (xs (nI (i + 1)).toNatClampNeg) H.size hM.1) kV_RL_131 hK (exPr hP) (exDr hD) 0 rfl rfl rfl ⟨Nat.le_of_ble_eq_true rfl, Nat.le_of_ble_eq_true rfl⟩ ⟨(by show K + 0 ≤ 600000; omega), (by show N + 0 ≤ 7302250; omega)⟩ rfl hl.1 rfl (Nat.le_of_ble_eq_true rfl) (oc_182 1200 (aq_19 shL_law_1181) uw_0_131)) hS (fun q _ h => hFc q h) hFc (fun r5 u t H1 locs ht hvm w5 hB1 hz1 hk1 hS => ?_)
  obtain ⟨c5, I5, F5⟩ := u
  obtain ⟨hP1, hD1⟩ := hB1
  rw [ht] at hP1
  obtain ⟨hP, hD⟩ := exjoin hP hD hk1 hFc hP1 hD1
  generalize H1 = H at hP hS ⊢
  obtain ⟨hM, hd5, hf5⟩ := imm_blocked hM w5
  have hR := RR.fm hR hd5 hf5 (by decide) (by decide)
  refine lv_pop hx hb (oc_87 1203 (aq_22 shL_law_1181)) rfl ?_
  refine lv_goto (tgt := 2269) hx hb (oc_167 1204 (aq_23 shL_law_1181) sgw_4_41) rfl ?_
  refine W.widen (k := K + 8) (n := N + 240) (by omega) (by omega) ?_
  exact kk _ _ _ _ _ _ _ _ _ hI hM hR hP hD hS ls hl
set_option maxRecDepth 100000 in
set_option maxHeartbeats 4000000 in
theorem lawc_27 {p : Program} {l : Launch} {e : Env} {s : State} {m : MethodId} {below : List Frame} {meth : Method} {c : Code} {b L : Nat} {xs : Nat → Int32} (C0 : lw_At p s m meth c b L xs) (hLN : L ≤ 3584) {A : Nat → Prop} (hA : ∀ q : Nat, s.heap.size ≤ q → A q) (hbA : ¬ A b) {D : va_G} {cI cB cZ : ClassId} {zz qq vv : Nat} {bt : Nat → Int32} {g g2 : Nat → Nat} (hK : KK D cI cB cZ s) (hXS : XS D zz qq vv bt A s s.heap) {ad : Nat → Nat → Nat} {cn : Nat → Nat} {In : Nat → Int32} {Fn : Nat → Nat → Int32} {c3 : Nat → Nat} {I3 : Nat → Int32} {F3 : Nat → Nat → Int32} (hI : IX ad cn Fn) (hM : IMM c3 F3) (hR : RR cn Fn c3 F3) {H : Heap} {locs : List Loc} (hP : va_P D vwCl (wX cI (D.1 99) zz g ad cn In Fn ++ wM cI cB cZ g2 c3 I3 F3) H) (hD : va_D A (wX cI (D.1 99) zz g ad cn In Fn ++ wM cI cB cZ g2 c3 I3 F3)) (hS : va_S A s.heap H locs) {K N i : Nat} (hi : i + 7 ≤ L) (hKN : K + 8 ≤ 600000 ∧ N + 240 ≤ 7302250) {ls : Array Slot} (hl : lv_has ls 4 [(0, .ref b), (1, .ref (g 0)), (2, .ref (g2 100)), (3, .int (nI i))]) (kk : ∀ (ad : Nat → Nat → Nat) (cn : Nat → Nat) (In : Nat → Int32) (Fn : Nat → Nat → Int32) (c3 : Nat → Nat) (I3 : Nat → Int32) (F3 : Nat → Nat → Int32) (H : Heap) (locs : List Loc), IX ad cn Fn → IMM c3 F3 → RR cn Fn c3 F3 → va_P D vwCl (wX cI (D.1 99) zz g ad cn In Fn ++ wM cI cB cZ g2 c3 I3 F3) H → va_D A (wX cI (D.1 99) zz g ad cn In Fn ++ wM cI cB cZ g2 c3 I3 F3) → va_S A s.heap H locs → ∀ ls : Array Slot, lv_has ls 4 [(0, .ref b), (1, .ref (g 0)), (2, .ref (g2 100)), (3, .int (nI i))] → W p l e room_1 s m #[Value.ref b] below meth c H locs (K + 8) (N + 240) (lw_Z below #[Value.ref b] s) (F0 m 2269 ls [])) : W p l e room_1 s m #[Value.ref b] below meth c H locs K N (lw_Z below #[Value.ref b] s) (F0 m 1207 ls []) := by
  obtain ⟨hx, hb, hr, hml, hown, hts, hX, hbl, hlocks, hgv⟩ := id C0
  have S : SF p m c code 4 s #[Value.ref b] RL := ⟨hx, hb, hml, hown, fun w h => hts w (wT_lw h)⟩
  refine lv_aload_n hx hb (oc_43 1207 shL_law_1207) rfl (lvA1 hl) ?_
  refine lv_aload_n hx hb (oc_42 1208 (aq_1 shL_law_1207)) rfl (lvA0 hl) ?_
  refine lv_iload_n hx hb (oc_29 1209 (aq_2 shL_law_1207)) rfl (lvA3 hl) ?_
  refine lv_iconst (v := 1) hx hb (oc_4 1210 (aq_3 shL_law_1207)) kic_1 ?_
  refine lv_iadd hx hb (oc_96 1211 (aq_4 shL_law_1207)) ?_
  refine lv_topi (fun y_1 ey_1 => ?_)
  obtain rfl : y_1 = nI (i + 1) := ey_1.trans (nI_add i 1)
  refine va_sld hx hb hX hbl hbA hS (vp_in_nI (by omega) (by omega)) (oc_46 1212 (aq_5 shL_law_1207)) ?_
  refine lv_topi (fun y_2 ey_2 => ?_)
  obtain rfl : y_2 = xs (nI (i + 1)).toNatClampNeg := ey_2
  refine lv_aload_n hx hb (oc_42 1213 (aq_6 shL_law_1207)) rfl (lvA0 hl) ?_
  refine lv_iload_n hx hb (oc_29 1214 (aq_7 shL_law_1207)) rfl (lvA3 hl) ?_
  refine lv_iconst (v := 2) hx hb (oc_5 1215 (aq_8 shL_law_1207)) kic_2 ?_
  refine lv_iadd hx hb (oc_96 1216 (aq_9 shL_law_1207)) ?_
  refine lv_topi (fun y_3 ey_3 => ?_)
  obtain rfl : y_3 = nI (i + 2) := ey_3.trans (nI_add i 2)
  refine va_sld hx hb hX hbl hbA hS (vp_in_nI (by omega) (by omega)) (oc_46 1217 (aq_10 shL_law_1207)) ?_
  refine lv_topi (fun y_4 ey_4 => ?_)
  obtain rfl : y_4 = xs (nI (i + 2)).toNatClampNeg := ey_4
  refine vp_callSi (runV_rxa (As := [.int (xs (nI (i + 1)).toNatClampNeg), .int (xs (nI (i + 2)).toNatClampNeg)]) (rest := []) S (q_Xbeside l D cI cB cZ zz qq vv bt g ad cn In Fn (xs (nI (i + 1)).toNatClampNeg) (xs (nI (i + 2)).toNatClampNeg) hI.1) kV_RL_132 hK hXS hS (exP hP) 0 xo_0 rfl rfl ⟨Nat.le_of_ble_eq_true rfl, Nat.le_of_ble_eq_true rfl⟩ ⟨(by show K + 0 ≤ 600000; omega), (by show N + 0 ≤ 7302250; omega)⟩ rfl hl.1 rfl (Nat.le_of_ble_eq_true rfl) (oc_182 1218 (aq_11 shL_law_1207) uw_0_132)) (fun r4 w4 => ?_)
  refine lv_pop hx hb (oc_87 1221 (aq_14 shL_law_1207)) rfl ?_
  refine lv_aload_n hx hb (oc_44 1222 (aq_15 shL_law_1207)) rfl (lvA2 hl) ?_
  refine lv_aload_n hx hb (oc_42 1223 (aq_16 shL_law_1207)) rfl (lvA0 hl) ?_
  refine lv_iload_n hx hb (oc_29 1224 (aq_17 shL_law_1207)) rfl (lvA3 hl) ?_
  refine lv_iconst (v := 1) hx hb (oc_4 1225 (aq_18 shL_law_1207)) kic_1 ?_
  refine lv_iadd hx hb (oc_96 1226 (aq_19 shL_law_1207)) ?_
  refine lv_topi (fun y_6 ey_6 => ?_)
  obtain rfl : y_6 = nI (i + 1) := ey_6.trans (nI_add i 1)
  refine va_sld hx hb hX hbl hbA hS (vp_in_nI (by omega) (by omega)) (oc_46 1227 (aq_20 shL_law_1207)) ?_
  refine lv_topi (fun y_7 ey_7 => ?_)
  obtain rfl : y_7 = xs (nI (i + 1)).toNatClampNeg := ey_7
  refine lv_aload_n hx hb (oc_42 1228 (aq_21 shL_law_1207)) rfl (lvA0 hl) ?_
  refine lv_iload_n hx hb (oc_29 1229 (aq_22 shL_law_1207)) rfl (lvA3 hl) ?_
  refine lv_iconst (v := 2) hx hb (oc_5 1230 (aq_23 shL_law_1207)) kic_2 ?_
  refine lv_iadd hx hb (oc_96 1231 shL_law_1231) ?_
  refine lv_topi (fun y_8 ey_8 => ?_)
  obtain rfl : y_8 = nI (i + 2) := ey_8.trans (nI_add i 2)
  refine va_sld hx hb hX hbl hbA hS (vp_in_nI (by omega) (by omega)) (oc_46 1232 (aq_1 shL_law_1231)) ?_
  refine lv_topi (fun y_9 ey_9 => ?_)
  obtain rfl : y_9 = xs (nI (i + 2)).toNatClampNeg := ey_9
  refine vp_callSi (runV_ra (As := [.int (xs (nI (i + 1)).toNatClampNeg), .int (xs (nI (i + 2)).toNatClampNeg)]) (rest := []) S (q_beside l D cI cB cZ g2 c3 I3 F3 (xs (nI (i + 1)).toNatClampNeg) (xs (nI (i + 2)).toNatClampNeg) hM.1) kV_RL_135 hK (exPr hP) 0 rfl rfl rfl ⟨Nat.le_of_ble_eq_true rfl, Nat.le_of_ble_eq_true rfl⟩ ⟨(by show K + 0 ≤ 600000; omega), (by show N + 0 ≤ 7302250; omega)⟩ rfl hl.1 rfl (Nat.le_of_ble_eq_true rfl) (oc_182 1233 (aq_2 shL_law_1231) uw_0_135)) (fun r9 w9 => ?_)
  refine lv_pop hx hb (oc_87 1236 (aq_5 shL_law_1231)) rfl ?_
  refine lv_goto (tgt := 2269) hx hb (oc_167 1237 (aq_6 shL_law_1231) sgw_4_8) rfl ?_
  refine W.widen (k := K + 8) (n := N + 240) (by omega) (by omega) ?_
  exact kk _ _ _ _ _ _ _ _ _ hI hM hR hP hD hS ls hl
set_option maxRecDepth 100000 in
set_option maxHeartbeats 4000000 in
theorem lawc_28 {p : Program} {l : Launch} {e : Env} {s : State} {m : MethodId} {below : List Frame} {meth : Method} {c : Code} {b L : Nat} {xs : Nat → Int32} (C0 : lw_At p s m meth c b L xs) (hLN : L ≤ 3584) {A : Nat → Prop} (hA : ∀ q : Nat, s.heap.size ≤ q → A q) (hbA : ¬ A b) {D : va_G} {cI cB cZ : ClassId} {zz qq vv : Nat} {bt : Nat → Int32} {g g2 : Nat → Nat} (hK : KK D cI cB cZ s) (hXS : XS D zz qq vv bt A s s.heap) {ad : Nat → Nat → Nat} {cn : Nat → Nat} {In : Nat → Int32} {Fn : Nat → Nat → Int32} {c3 : Nat → Nat} {I3 : Nat → Int32} {F3 : Nat → Nat → Int32} (hI : IX ad cn Fn) (hM : IMM c3 F3) (hR : RR cn Fn c3 F3) {H : Heap} {locs : List Loc} (hP : va_P D vwCl (wX cI (D.1 99) zz g ad cn In Fn ++ wM cI cB cZ g2 c3 I3 F3) H) (hD : va_D A (wX cI (D.1 99) zz g ad cn In Fn ++ wM cI cB cZ g2 c3 I3 F3)) (hS : va_S A s.heap H locs) {K N i : Nat} (hi : i + 7 ≤ L) (hKN : K + 8 ≤ 600000 ∧ N + 240 ≤ 7302250) {ls : Array Slot} (hl : lv_has ls 4 [(0, .ref b), (1, .ref (g 0)), (2, .ref (g2 100)), (3, .int (nI i))]) (kk : ∀ (ad : Nat → Nat → Nat) (cn : Nat → Nat) (In : Nat → Int32) (Fn : Nat → Nat → Int32) (c3 : Nat → Nat) (I3 : Nat → Int32) (F3 : Nat → Nat → Int32) (H : Heap) (locs : List Loc), IX ad cn Fn → IMM c3 F3 → RR cn Fn c3 F3 → va_P D vwCl (wX cI (D.1 99) zz g ad cn In Fn ++ wM cI cB cZ g2 c3 I3 F3) H → va_D A (wX cI (D.1 99) zz g ad cn In Fn ++ wM cI cB cZ g2 c3 I3 F3) → va_S A s.heap H locs → ∀ ls : Array Slot, lv_has ls 4 [(0, .ref b), (1, .ref (g 0)), (2, .ref (g2 100)), (3, .int (nI i))] → W p l e room_1 s m #[Value.ref b] below meth c H locs (K + 8) (N + 240) (lw_Z below #[Value.ref b] s) (F0 m 2269 ls [])) : W p l e room_1 s m #[Value.ref b] below meth c H locs K N (lw_Z below #[Value.ref b] s) (F0 m 1240 ls []) := by
  obtain ⟨hx, hb, hr, hml, hown, hts, hX, hbl, hlocks, hgv⟩ := id C0
  have S : SF p m c code 4 s #[Value.ref b] RL := ⟨hx, hb, hml, hown, fun w h => hts w (wT_lw h)⟩
  refine lv_aload_n hx hb (oc_43 1240 (aq_9 shL_law_1231)) rfl (lvA1 hl) ?_
  refine lv_aload_n hx hb (oc_42 1241 (aq_10 shL_law_1231)) rfl (lvA0 hl) ?_
  refine lv_iload_n hx hb (oc_29 1242 (aq_11 shL_law_1231)) rfl (lvA3 hl) ?_
  refine lv_iconst (v := 1) hx hb (oc_4 1243 (aq_12 shL_law_1231)) kic_1 ?_
  refine lv_iadd hx hb (oc_96 1244 (aq_13 shL_law_1231)) ?_
  refine lv_topi (fun y_1 ey_1 => ?_)
  obtain rfl : y_1 = nI (i + 1) := ey_1.trans (nI_add i 1)
  refine va_sld hx hb hX hbl hbA hS (vp_in_nI (by omega) (by omega)) (oc_46 1245 (aq_14 shL_law_1231)) ?_
  refine lv_topi (fun y_2 ey_2 => ?_)
  obtain rfl : y_2 = xs (nI (i + 1)).toNatClampNeg := ey_2
  refine lv_aload_n hx hb (oc_42 1246 (aq_15 shL_law_1231)) rfl (lvA0 hl) ?_
  refine lv_iload_n hx hb (oc_29 1247 (aq_16 shL_law_1231)) rfl (lvA3 hl) ?_
  refine lv_iconst (v := 2) hx hb (oc_5 1248 (aq_17 shL_law_1231)) kic_2 ?_
  refine lv_iadd hx hb (oc_96 1249 (aq_18 shL_law_1231)) ?_
  refine lv_topi (fun y_3 ey_3 => ?_)
  obtain rfl : y_3 = nI (i + 2) := ey_3.trans (nI_add i 2)
  refine va_sld hx hb hX hbl hbA hS (vp_in_nI (by omega) (by omega)) (oc_46 1250 (aq_19 shL_law_1231)) ?_
  refine lv_topi (fun y_4 ey_4 => ?_)
  obtain rfl : y_4 = xs (nI (i + 2)).toNatClampNeg := ey_4
  have hFc := free_all (exD hD) hS hA
  refine va_calli (runV_xa (As := [.int (xs (nI (i + 1)).toNatClampNeg), .int (xs (nI (i + 2)).toNatClampNeg)]) (rest := []) S (q_Xdegrees l D cI cB cZ zz qq vv bt g ad cn In Fn (xs (nI (i + 1)).toNatClampNeg) (xs (nI (i + 2)).toNatClampNeg) H.size hI.1) kV_RL_136 hK hXS hS hFc (exP hP) (exD hD) 0 xo_0 rfl rfl ⟨Nat.le_of_ble_eq_true rfl, Nat.le_of_ble_eq_true rfl⟩ ⟨(by show K + 0 ≤ 600000; omega), (by show N + 0 ≤ 7302250; omega)⟩ rfl hl.1 rfl (Nat.le_of_ble_eq_true rfl) (oc_182 1251 (aq_20 shL_law_1231) uw_0_136)) hS (fun q _ h => hFc q h) hFc (fun r4 u t H1 locs ht hvm w4 hB1 hz1 hk1 hS => ?_)
  obtain ⟨c4, I4, F4⟩ := u
  obtain ⟨hP1, hD1⟩ := hB1
  rw [ht] at hP1
  obtain ⟨hP, hD⟩ := exjoinL hP hD hk1 hFc hP1 hD1
  generalize H1 = H at hP hS ⊢
  have hd4 := w4.1.1
  have hf4 := w4.1.2.2
  have hI := IX.fr hI w4.1 w4.2.1 (by decide) (by decide)
  have hR := RR.fx hR hd4 hf4 (by decide) (by decide)
  refine lv_pop hx hb (oc_87 1254 (aq_23 shL_law_1231)) rfl ?_
  refine lv_aload_n hx hb (oc_44 1255 shL_law_1255) rfl (lvA2 hl) ?_
  refine lv_aload_n hx hb (oc_42 1256 (aq_1 shL_law_1255)) rfl (lvA0 hl) ?_
  refine lv_iload_n hx hb (oc_29 1257 (aq_2 shL_law_1255)) rfl (lvA3 hl) ?_
  refine lv_iconst (v := 1) hx hb (oc_4 1258 (aq_3 shL_law_1255)) kic_1 ?_
  refine lv_iadd hx hb (oc_96 1259 (aq_4 shL_law_1255)) ?_
  refine lv_topi (fun y_6 ey_6 => ?_)
  obtain rfl : y_6 = nI (i + 1) := ey_6.trans (nI_add i 1)
  refine va_sld hx hb hX hbl hbA hS (vp_in_nI (by omega) (by omega)) (oc_46 1260 (aq_5 shL_law_1255)) ?_
  refine lv_topi (fun y_7 ey_7 => ?_)
  obtain rfl : y_7 = xs (nI (i + 1)).toNatClampNeg := ey_7
  refine lv_aload_n hx hb (oc_42 1261 (aq_6 shL_law_1255)) rfl (lvA0 hl) ?_
  refine lv_iload_n hx hb (oc_29 1262 (aq_7 shL_law_1255)) rfl (lvA3 hl) ?_
  refine lv_iconst (v := 2) hx hb (oc_5 1263 (aq_8 shL_law_1255)) kic_2 ?_
  refine lv_iadd hx hb (oc_96 1264 (aq_9 shL_law_1255)) ?_
  refine lv_topi (fun y_8 ey_8 => ?_)
  obtain rfl : y_8 = nI (i + 2) := ey_8.trans (nI_add i 2)
  refine va_sld hx hb hX hbl hbA hS (vp_in_nI (by omega) (by omega)) (oc_46 1265 (aq_10 shL_law_1255)) ?_
  refine lv_topi (fun y_9 ey_9 => ?_)
  obtain rfl : y_9 = xs (nI (i + 2)).toNatClampNeg := ey_9
  have hFc := free_all (exDr hD) hS hA
  refine va_calli (runV_a (As := [.int (xs (nI (i + 1)).toNatClampNeg), .int (xs (nI (i + 2)).toNatClampNeg)]) (rest := []) S (q_degrees l D cI cB cZ g2 c3 I3 F3 (xs (nI (i + 1)).toNatClampNeg) (xs (nI (i + 2)).toNatClampNeg) H.size hM.1) kV_RL_139 hK (exPr hP) (exDr hD) 0 rfl rfl rfl ⟨Nat.le_of_ble_eq_true rfl, Nat.le_of_ble_eq_true rfl⟩ ⟨(by show K + 0 ≤ 600000; omega), (by show N + 0 ≤ 7302250; omega)⟩ rfl hl.1 rfl (Nat.le_of_ble_eq_true rfl) (oc_182 1266 (aq_11 shL_law_1255) uw_0_139)) hS (fun q _ h => hFc q h) hFc (fun r9 u t H1 locs ht hvm w9 hB1 hz1 hk1 hS => ?_)
  obtain ⟨c9, I9, F9⟩ := u
  obtain ⟨hP1, hD1⟩ := hB1
  rw [ht] at hP1
  obtain ⟨hP, hD⟩ := exjoin hP hD hk1 hFc hP1 hD1
  generalize H1 = H at hP hS ⊢
  obtain ⟨hM, hd9, hf9⟩ := imm_degrees hM w9
  have hR := RR.fm hR hd9 hf9 (by decide) (by decide)
  refine lv_pop hx hb (oc_87 1269 (aq_14 shL_law_1255)) rfl ?_
  refine lv_goto (tgt := 2269) hx hb (oc_167 1270 (aq_15 shL_law_1255) sgw_3_231) rfl ?_
  refine W.widen (k := K + 8) (n := N + 240) (by omega) (by omega) ?_
  exact kk _ _ _ _ _ _ _ _ _ hI hM hR hP hD hS ls hl
set_option maxRecDepth 100000 in
set_option maxHeartbeats 4000000 in
theorem lawc_29 {p : Program} {l : Launch} {e : Env} {s : State} {m : MethodId} {below : List Frame} {meth : Method} {c : Code} {b L : Nat} {xs : Nat → Int32} (C0 : lw_At p s m meth c b L xs) (hLN : L ≤ 3584) {A : Nat → Prop} (hA : ∀ q : Nat, s.heap.size ≤ q → A q) (hbA : ¬ A b) {D : va_G} {cI cB cZ : ClassId} {zz qq vv : Nat} {bt : Nat → Int32} {g g2 : Nat → Nat} (hK : KK D cI cB cZ s) (hXS : XS D zz qq vv bt A s s.heap) {ad : Nat → Nat → Nat} {cn : Nat → Nat} {In : Nat → Int32} {Fn : Nat → Nat → Int32} {c3 : Nat → Nat} {I3 : Nat → Int32} {F3 : Nat → Nat → Int32} (hI : IX ad cn Fn) (hM : IMM c3 F3) (hR : RR cn Fn c3 F3) {H : Heap} {locs : List Loc} (hP : va_P D vwCl (wX cI (D.1 99) zz g ad cn In Fn ++ wM cI cB cZ g2 c3 I3 F3) H) (hD : va_D A (wX cI (D.1 99) zz g ad cn In Fn ++ wM cI cB cZ g2 c3 I3 F3)) (hS : va_S A s.heap H locs) {K N i : Nat} (hi : i + 7 ≤ L) (hKN : K + 8 ≤ 600000 ∧ N + 240 ≤ 7302250) {ls : Array Slot} (hl : lv_has ls 4 [(0, .ref b), (1, .ref (g 0)), (2, .ref (g2 100)), (3, .int (nI i))]) (kk : ∀ (ad : Nat → Nat → Nat) (cn : Nat → Nat) (In : Nat → Int32) (Fn : Nat → Nat → Int32) (c3 : Nat → Nat) (I3 : Nat → Int32) (F3 : Nat → Nat → Int32) (H : Heap) (locs : List Loc), IX ad cn Fn → IMM c3 F3 → RR cn Fn c3 F3 → va_P D vwCl (wX cI (D.1 99) zz g ad cn In Fn ++ wM cI cB cZ g2 c3 I3 F3) H → va_D A (wX cI (D.1 99) zz g ad cn In Fn ++ wM cI cB cZ g2 c3 I3 F3) → va_S A s.heap H locs → ∀ ls : Array Slot, lv_has ls 4 [(0, .ref b), (1, .ref (g 0)), (2, .ref (g2 100)), (3, .int (nI i))] → W p l e room_1 s m #[Value.ref b] below meth c H locs (K + 8) (N + 240) (lw_Z below #[Value.ref b] s) (F0 m 2269 ls [])) : W p l e room_1 s m #[Value.ref b] below meth c H locs K N (lw_Z below #[Value.ref b] s) (F0 m 1273 ls []) := by
  obtain ⟨hx, hb, hr, hml, hown, hts, hX, hbl, hlocks, hgv⟩ := id C0
  have S : SF p m c code 4 s #[Value.ref b] RL := ⟨hx, hb, hml, hown, fun w h => hts w (wT_lw h)⟩
  refine lv_aload_n hx hb (oc_43 1273 (aq_18 shL_law_1255)) rfl (lvA1 hl) ?_
  refine lv_aload_n hx hb (oc_42 1274 (aq_19 shL_law_1255)) rfl (lvA0 hl) ?_
  refine lv_iload_n hx hb (oc_29 1275 (aq_20 shL_law_1255)) rfl (lvA3 hl) ?_
  refine lv_iconst (v := 1) hx hb (oc_4 1276 (aq_21 shL_law_1255)) kic_1 ?_
  refine lv_iadd hx hb (oc_96 1277 (aq_22 shL_law_1255)) ?_
  refine lv_topi (fun y_1 ey_1 => ?_)
  obtain rfl : y_1 = nI (i + 1) := ey_1.trans (nI_add i 1)
  refine va_sld hx hb hX hbl hbA hS (vp_in_nI (by omega) (by omega)) (oc_46 1278 (aq_23 shL_law_1255)) ?_
  refine lv_topi (fun y_2 ey_2 => ?_)
  obtain rfl : y_2 = xs (nI (i + 1)).toNatClampNeg := ey_2
  refine lv_aload_n hx hb (oc_42 1279 shL_law_1279) rfl (lvA0 hl) ?_
  refine lv_iload_n hx hb (oc_29 1280 (aq_1 shL_law_1279)) rfl (lvA3 hl) ?_
  refine lv_iconst (v := 2) hx hb (oc_5 1281 (aq_2 shL_law_1279)) kic_2 ?_
  refine lv_iadd hx hb (oc_96 1282 (aq_3 shL_law_1279)) ?_
  refine lv_topi (fun y_3 ey_3 => ?_)
  obtain rfl : y_3 = nI (i + 2) := ey_3.trans (nI_add i 2)
  refine va_sld hx hb hX hbl hbA hS (vp_in_nI (by omega) (by omega)) (oc_46 1283 (aq_4 shL_law_1279)) ?_
  refine lv_topi (fun y_4 ey_4 => ?_)
  obtain rfl : y_4 = xs (nI (i + 2)).toNatClampNeg := ey_4
  refine vp_callSi (runV_rxa (As := [.int (xs (nI (i + 1)).toNatClampNeg), .int (xs (nI (i + 2)).toNatClampNeg)]) (rest := []) S (q_Xlate l D cI cB cZ zz qq vv bt g ad cn In Fn (xs (nI (i + 1)).toNatClampNeg) (xs (nI (i + 2)).toNatClampNeg) hI.1) kV_RL_140 hK hXS hS (exP hP) 0 xo_0 rfl rfl ⟨Nat.le_of_ble_eq_true rfl, Nat.le_of_ble_eq_true rfl⟩ ⟨(by show K + 0 ≤ 600000; omega), (by show N + 0 ≤ 7302250; omega)⟩ rfl hl.1 rfl (Nat.le_of_ble_eq_true rfl) (oc_182 1284 (aq_5 shL_law_1279) uw_0_140)) (fun r4 w4 => ?_)
  refine lv_pop hx hb (oc_87 1287 (aq_8 shL_law_1279)) rfl ?_
  refine lv_aload_n hx hb (oc_44 1288 (aq_9 shL_law_1279)) rfl (lvA2 hl) ?_
  refine lv_aload_n hx hb (oc_42 1289 (aq_10 shL_law_1279)) rfl (lvA0 hl) ?_
  refine lv_iload_n hx hb (oc_29 1290 (aq_11 shL_law_1279)) rfl (lvA3 hl) ?_
  refine lv_iconst (v := 1) hx hb (oc_4 1291 (aq_12 shL_law_1279)) kic_1 ?_
  refine lv_iadd hx hb (oc_96 1292 (aq_13 shL_law_1279)) ?_
  refine lv_topi (fun y_6 ey_6 => ?_)
  obtain rfl : y_6 = nI (i + 1) := ey_6.trans (nI_add i 1)
  refine va_sld hx hb hX hbl hbA hS (vp_in_nI (by omega) (by omega)) (oc_46 1293 (aq_14 shL_law_1279)) ?_
  refine lv_topi (fun y_7 ey_7 => ?_)
  obtain rfl : y_7 = xs (nI (i + 1)).toNatClampNeg := ey_7
  refine lv_aload_n hx hb (oc_42 1294 (aq_15 shL_law_1279)) rfl (lvA0 hl) ?_
  refine lv_iload_n hx hb (oc_29 1295 (aq_16 shL_law_1279)) rfl (lvA3 hl) ?_
  refine lv_iconst (v := 2) hx hb (oc_5 1296 (aq_17 shL_law_1279)) kic_2 ?_
  refine lv_iadd hx hb (oc_96 1297 (aq_18 shL_law_1279)) ?_
  refine lv_topi (fun y_8 ey_8 => ?_)
  obtain rfl : y_8 = nI (i + 2) := ey_8.trans (nI_add i 2)
  refine va_sld hx hb hX hbl hbA hS (vp_in_nI (by omega) (by omega)) (oc_46 1298 (aq_19 shL_law_1279)) ?_
  refine lv_topi (fun y_9 ey_9 => ?_)
  obtain rfl : y_9 = xs (nI (i + 2)).toNatClampNeg := ey_9
  refine vp_callSi (runV_ra (As := [.int (xs (nI (i + 1)).toNatClampNeg), .int (xs (nI (i + 2)).toNatClampNeg)]) (rest := []) S (q_late l D cI cB cZ g2 c3 I3 F3 (xs (nI (i + 1)).toNatClampNeg) (xs (nI (i + 2)).toNatClampNeg) hM.1) kV_RL_143 hK (exPr hP) 0 rfl rfl rfl ⟨Nat.le_of_ble_eq_true rfl, Nat.le_of_ble_eq_true rfl⟩ ⟨(by show K + 0 ≤ 600000; omega), (by show N + 0 ≤ 7302250; omega)⟩ rfl hl.1 rfl (Nat.le_of_ble_eq_true rfl) (oc_182 1299 (aq_20 shL_law_1279) uw_0_143)) (fun r9 w9 => ?_)
  refine lv_pop hx hb (oc_87 1302 (aq_23 shL_law_1279)) rfl ?_
  refine lv_goto (tgt := 2269) hx hb (oc_167 1303 shL_law_1303 sgw_3_198) rfl ?_
  refine W.widen (k := K + 8) (n := N + 240) (by omega) (by omega) ?_
  exact kk _ _ _ _ _ _ _ _ _ hI hM hR hP hD hS ls hl
end

section
set_option maxRecDepth 100000 in
theorem kV_RL_144 : CalV RL 144 yX11_first cX11_first 4 (some .int) 2 := ⟨⟨wk6_0 11 rfl rfl, wk6_1 0 rfl rfl, wk6_1 1 rfl rfl, wk1_0 1 rfl rfl, wk6_1 2 rfl rfl⟩, ⟨nmh_0.1, nmh_0.2, pd_17⟩⟩
set_option maxRecDepth 100000 in
theorem kV_RL_147 : CalV RL 147 yX12_first cX12_first 4 (some .int) 2 := ⟨⟨wk9_10 2 rfl rfl, wk9_10 3 rfl rfl, wk9_10 4 rfl rfl, wk1_1 1 rfl rfl, wk9_10 5 rfl rfl⟩, ⟨nmh_13.1, nmh_13.2, pd_17⟩⟩
set_option maxRecDepth 100000 in
theorem kV_RL_148 : CalV RL 148 yX11_street cX11_street 4 (some .boolean) 2 := ⟨⟨wk4_5 11 rfl rfl, wk4_6 0 rfl rfl, wk4_6 1 rfl rfl, wk1_0 1 rfl rfl, wk4_6 2 rfl rfl⟩, ⟨nmh_0.1, nmh_0.2, pd_21⟩⟩
set_option maxRecDepth 100000 in
theorem kV_RL_151 : CalV RL 151 yX12_street cX12_street 3 (some .boolean) 2 := ⟨⟨wk8_7 5 rfl rfl, wk8_7 6 rfl rfl, wk8_7 7 rfl rfl, wk1_1 1 rfl rfl, wk8_7 8 rfl rfl⟩, ⟨nmh_13.1, nmh_13.2, pd_21⟩⟩
set_option maxRecDepth 100000 in
theorem kV_RL_152 : CalV RL 152 yX11_streets cX11_streets 10 (some .long) 2 := ⟨⟨wk4_6 3 rfl rfl, wk4_6 4 rfl rfl, wk4_6 5 rfl rfl, wk1_0 1 rfl rfl, wk4_6 6 rfl rfl⟩, ⟨nmh_0.1, nmh_0.2, pd_18⟩⟩
set_option maxRecDepth 100000 in
theorem kV_RL_155 : CalV RL 155 yX12_streets cX12_streets 6 (some .long) 2 := ⟨⟨wk8_7 9 rfl rfl, wk8_7 10 rfl rfl, wk8_7 11 rfl rfl, wk1_1 1 rfl rfl, wk8_8 0 rfl rfl⟩, ⟨nmh_13.1, nmh_13.2, pd_18⟩⟩
set_option maxRecDepth 100000 in
theorem kV_RL_156 : CalV RL 156 yX11_cheat cX11_cheat 10 (some .long) 3 := ⟨⟨wk4_6 7 rfl rfl, wk4_6 8 rfl rfl, wk4_6 9 rfl rfl, wk1_0 1 rfl rfl, wk4_6 10 rfl rfl⟩, ⟨nmh_0.1, nmh_0.2, pd_23⟩⟩
set_option maxRecDepth 100000 in
theorem kV_RL_160 : CalV RL 160 yX12_cheat cX12_cheat 9 (some .long) 3 := ⟨⟨wk8_8 1 rfl rfl, wk8_8 2 rfl rfl, wk8_8 3 rfl rfl, wk1_1 1 rfl rfl, wk8_8 4 rfl rfl⟩, ⟨nmh_13.1, nmh_13.2, pd_23⟩⟩
set_option maxRecDepth 100000 in
theorem kV_RL_161 : CalV RL 161 yX11_asIf cX11_asIf 4 (some .int) 2 := ⟨⟨wk4_4 5 rfl rfl, wk4_4 6 rfl rfl, wk4_4 7 rfl rfl, wk1_0 1 rfl rfl, wk4_4 8 rfl rfl⟩, ⟨nmh_0.1, nmh_0.2, pd_17⟩⟩
set_option maxRecDepth 100000 in
theorem kV_RL_164 : CalV RL 164 yX12_asIf cX12_asIf 5 (some .int) 2 := ⟨⟨wk8_5 5 rfl rfl, wk8_5 6 rfl rfl, wk8_5 7 rfl rfl, wk1_1 1 rfl rfl, wk8_5 8 rfl rfl⟩, ⟨nmh_13.1, nmh_13.2, pd_17⟩⟩
set_option maxRecDepth 100000 in
theorem kV_RL_165 : CalV RL 165 yX11_lorry cX11_lorry 2 (some .int) 1 := ⟨⟨wk4_13 9 rfl rfl, wk4_13 10 rfl rfl, wk4_13 11 rfl rfl, wk1_0 1 rfl rfl, wk4_14 0 rfl rfl⟩, ⟨nmh_0.1, nmh_0.2, pd_8⟩⟩
set_option maxRecDepth 100000 in
theorem kV_RL_168 : CalV RL 168 yX12_lorry cX12_lorry 2 (some .int) 1 := ⟨⟨wk8_11 9 rfl rfl, wk8_11 10 rfl rfl, wk8_11 11 rfl rfl, wk1_1 1 rfl rfl, wk8_12 0 rfl rfl⟩, ⟨nmh_13.1, nmh_13.2, pd_8⟩⟩
set_option maxRecDepth 100000 in
theorem kV_RL_169 : CalV RL 169 yX11_off cX11_off 4 (some .boolean) 3 := ⟨⟨wk4_14 1 rfl rfl, wk4_14 2 rfl rfl, wk4_14 3 rfl rfl, wk1_0 1 rfl rfl, wk4_14 4 rfl rfl⟩, ⟨nmh_0.1, nmh_0.2, pd_38⟩⟩
set_option maxRecDepth 100000 in
theorem kV_RL_173 : CalV RL 173 yX12_off cX12_off 4 (some .boolean) 3 := ⟨⟨wk8_12 1 rfl rfl, wk8_12 2 rfl rfl, wk8_12 3 rfl rfl, wk1_1 1 rfl rfl, wk8_12 4 rfl rfl⟩, ⟨nmh_13.1, nmh_13.2, pd_38⟩⟩
set_option maxRecDepth 100000 in
theorem kV_RL_174 : CalV RL 174 yX11_shared cX11_shared 6 (some .int) 3 := ⟨⟨wk4_14 9 rfl rfl, wk4_14 10 rfl rfl, wk4_14 11 rfl rfl, wk1_0 1 rfl rfl, wk4_15 0 rfl rfl⟩, ⟨nmh_0.1, nmh_0.2, pd_22⟩⟩
set_option maxRecDepth 100000 in
theorem kV_RL_177 : CalV RL 177 yX12_shared cX12_shared 10 (some .int) 3 := ⟨⟨wk8_12 5 rfl rfl, wk8_12 6 rfl rfl, wk8_12 7 rfl rfl, wk1_1 1 rfl rfl, wk8_12 8 rfl rfl⟩, ⟨nmh_13.1, nmh_13.2, pd_22⟩⟩
set_option maxRecDepth 100000 in
theorem kV_RL_178 : CalV RL 178 yX11_nights cX11_nights 8 (some .int) 4 := ⟨⟨wk4_13 1 rfl rfl, wk4_13 2 rfl rfl, wk4_13 3 rfl rfl, wk1_0 1 rfl rfl, wk4_13 4 rfl rfl⟩, ⟨nmh_0.1, nmh_0.2, pd_27⟩⟩
set_option maxRecDepth 100000 in
theorem kV_RL_181 : CalV RL 181 yX12_nights cX12_nights 7 (some .int) 4 := ⟨⟨wk8_13 5 rfl rfl, wk8_13 6 rfl rfl, wk8_13 7 rfl rfl, wk1_1 1 rfl rfl, wk8_13 8 rfl rfl⟩, ⟨nmh_13.1, nmh_13.2, pd_27⟩⟩
set_option maxRecDepth 100000 in
theorem kV_RL_182 : CalV RL 182 yX11_feast cX11_feast 3 (some .boolean) 2 := ⟨⟨wk6_1 3 rfl rfl, wk6_1 4 rfl rfl, wk6_1 5 rfl rfl, wk1_0 1 rfl rfl, wk6_1 6 rfl rfl⟩, ⟨nmh_0.1, nmh_0.2, pd_21⟩⟩
set_option maxRecDepth 100000 in
theorem kV_RL_185 : CalV RL 185 yX12_feast cX12_feast 3 (some .boolean) 2 := ⟨⟨wk8_8 5 rfl rfl, wk8_8 6 rfl rfl, wk8_8 7 rfl rfl, wk1_1 1 rfl rfl, wk8_8 8 rfl rfl⟩, ⟨nmh_13.1, nmh_13.2, pd_21⟩⟩
set_option maxRecDepth 100000 in
theorem kV_RL_186 : CalV RL 186 yX11_feasted cX11_feasted 6 (some .int) 2 := ⟨⟨wk6_1 7 rfl rfl, wk6_1 8 rfl rfl, wk6_1 9 rfl rfl, wk1_0 1 rfl rfl, wk6_1 10 rfl rfl⟩, ⟨nmh_0.1, nmh_0.2, pd_17⟩⟩
set_option maxRecDepth 100000 in
theorem kV_RL_189 : CalV RL 189 yX12_feasted cX12_feasted 5 (some .int) 2 := ⟨⟨wk8_8 9 rfl rfl, wk8_8 10 rfl rfl, wk8_8 11 rfl rfl, wk1_1 1 rfl rfl, wk8_9 0 rfl rfl⟩, ⟨nmh_13.1, nmh_13.2, pd_17⟩⟩
set_option maxRecDepth 100000 in
theorem kV_RL_190 : CalV RL 190 yX11_drum cX11_drum 1 (some .int) 0 := ⟨⟨wk6_2 3 rfl rfl, wk6_2 4 rfl rfl, wk6_2 5 rfl rfl, wk1_0 1 rfl rfl, wk6_2 6 rfl rfl⟩, ⟨nmh_0.1, nmh_0.2, pd_1⟩⟩
set_option maxRecDepth 100000 in
theorem kV_RL_193 : CalV RL 193 yX12_drum cX12_drum 1 (some .int) 0 := ⟨⟨wk8_14 1 rfl rfl, wk8_14 2 rfl rfl, wk8_14 3 rfl rfl, wk1_1 1 rfl rfl, wk8_14 4 rfl rfl⟩, ⟨nmh_13.1, nmh_13.2, pd_1⟩⟩
set_option maxRecDepth 100000 in
theorem kV_RL_194 : CalV RL 194 yX11_moves cX11_moves 6 (some .boolean) 3 := ⟨⟨wk6_2 7 rfl rfl, wk6_2 8 rfl rfl, wk6_2 9 rfl rfl, wk1_0 1 rfl rfl, wk6_2 10 rfl rfl⟩, ⟨nmh_0.1, nmh_0.2, pd_26⟩⟩
set_option maxRecDepth 100000 in
theorem kV_RL_197 : CalV RL 197 yX12_moves cX12_moves 5 (some .boolean) 3 := ⟨⟨wk8_14 5 rfl rfl, wk8_14 6 rfl rfl, wk8_14 7 rfl rfl, wk1_1 1 rfl rfl, wk8_14 8 rfl rfl⟩, ⟨nmh_13.1, nmh_13.2, pd_26⟩⟩
set_option maxRecDepth 100000 in
theorem kV_RL_198 : CalV RL 198 yX11_stood cX11_stood 4 (some .int) 2 := ⟨⟨wk6_4 10 rfl rfl, wk6_4 11 rfl rfl, wk6_5 0 rfl rfl, wk1_0 1 rfl rfl, wk6_5 1 rfl rfl⟩, ⟨nmh_0.1, nmh_0.2, pd_17⟩⟩
set_option maxRecDepth 100000 in
theorem kV_RL_201 : CalV RL 201 yX12_stood cX12_stood 4 (some .int) 2 := ⟨⟨wk8_15 5 rfl rfl, wk8_15 6 rfl rfl, wk8_15 7 rfl rfl, wk1_1 1 rfl rfl, wk8_15 8 rfl rfl⟩, ⟨nmh_13.1, nmh_13.2, pd_17⟩⟩
set_option maxRecDepth 100000 in
theorem kV_RL_202 : CalV RL 202 yX11_stale cX11_stale 6 (some .int) 1 := ⟨⟨wk6_5 2 rfl rfl, wk6_5 3 rfl rfl, wk6_5 4 rfl rfl, wk1_0 1 rfl rfl, wk6_5 5 rfl rfl⟩, ⟨nmh_0.1, nmh_0.2, pd_8⟩⟩
set_option maxRecDepth 100000 in
theorem kV_RL_205 : CalV RL 205 yX12_stale cX12_stale 5 (some .int) 1 := ⟨⟨wk8_15 9 rfl rfl, wk8_15 10 rfl rfl, wk8_15 11 rfl rfl, wk1_1 1 rfl rfl, wk8_16 0 rfl rfl⟩, ⟨nmh_13.1, nmh_13.2, pd_8⟩⟩
set_option maxRecDepth 100000 in
set_option maxHeartbeats 4000000 in
theorem lawc_30 {p : Program} {l : Launch} {e : Env} {s : State} {m : MethodId} {below : List Frame} {meth : Method} {c : Code} {b L : Nat} {xs : Nat → Int32} (C0 : lw_At p s m meth c b L xs) (hLN : L ≤ 3584) {A : Nat → Prop} (hA : ∀ q : Nat, s.heap.size ≤ q → A q) (hbA : ¬ A b) {D : va_G} {cI cB cZ : ClassId} {zz qq vv : Nat} {bt : Nat → Int32} {g g2 : Nat → Nat} (hK : KK D cI cB cZ s) (hXS : XS D zz qq vv bt A s s.heap) {ad : Nat → Nat → Nat} {cn : Nat → Nat} {In : Nat → Int32} {Fn : Nat → Nat → Int32} {c3 : Nat → Nat} {I3 : Nat → Int32} {F3 : Nat → Nat → Int32} (hI : IX ad cn Fn) (hM : IMM c3 F3) (hR : RR cn Fn c3 F3) {H : Heap} {locs : List Loc} (hP : va_P D vwCl (wX cI (D.1 99) zz g ad cn In Fn ++ wM cI cB cZ g2 c3 I3 F3) H) (hD : va_D A (wX cI (D.1 99) zz g ad cn In Fn ++ wM cI cB cZ g2 c3 I3 F3)) (hS : va_S A s.heap H locs) {K N i : Nat} (hi : i + 7 ≤ L) (hKN : K + 8 ≤ 600000 ∧ N + 240 ≤ 7302250) {ls : Array Slot} (hl : lv_has ls 4 [(0, .ref b), (1, .ref (g 0)), (2, .ref (g2 100)), (3, .int (nI i))]) (kk : ∀ (ad : Nat → Nat → Nat) (cn : Nat → Nat) (In : Nat → Int32) (Fn : Nat → Nat → Int32) (c3 : Nat → Nat) (I3 : Nat → Int32) (F3 : Nat → Nat → Int32) (H : Heap) (locs : List Loc), IX ad cn Fn → IMM c3 F3 → RR cn Fn c3 F3 → va_P D vwCl (wX cI (D.1 99) zz g ad cn In Fn ++ wM cI cB cZ g2 c3 I3 F3) H → va_D A (wX cI (D.1 99) zz g ad cn In Fn ++ wM cI cB cZ g2 c3 I3 F3) → va_S A s.heap H locs → ∀ ls : Array Slot, lv_has ls 4 [(0, .ref b), (1, .ref (g 0)), (2, .ref (g2 100)), (3, .int (nI i))] → W p l e room_1 s m #[Value.ref b] below meth c H locs (K + 8) (N + 240) (lw_Z below #[Value.ref b] s) (F0 m 2269 ls [])) : W p l e room_1 s m #[Value.ref b] below meth c H locs K N (lw_Z below #[Value.ref b] s) (F0 m 1306 ls []) := by
  obtain ⟨hx, hb, hr, hml, hown, hts, hX, hbl, hlocks, hgv⟩ := id C0
  have S : SF p m c code 4 s #[Value.ref b] RL := ⟨hx, hb, hml, hown, fun w h => hts w (wT_lw h)⟩
  refine lv_aload_n hx hb (oc_43 1306 (aq_3 shL_law_1303)) rfl (lvA1 hl) ?_
  refine lv_aload_n hx hb (oc_42 1307 (aq_4 shL_law_1303)) rfl (lvA0 hl) ?_
  refine lv_iload_n hx hb (oc_29 1308 (aq_5 shL_law_1303)) rfl (lvA3 hl) ?_
  refine lv_iconst (v := 1) hx hb (oc_4 1309 (aq_6 shL_law_1303)) kic_1 ?_
  refine lv_iadd hx hb (oc_96 1310 (aq_7 shL_law_1303)) ?_
  refine lv_topi (fun y_1 ey_1 => ?_)
  obtain rfl : y_1 = nI (i + 1) := ey_1.trans (nI_add i 1)
  refine va_sld hx hb hX hbl hbA hS (vp_in_nI (by omega) (by omega)) (oc_46 1311 (aq_8 shL_law_1303)) ?_
  refine lv_topi (fun y_2 ey_2 => ?_)
  obtain rfl : y_2 = xs (nI (i + 1)).toNatClampNeg := ey_2
  refine lv_aload_n hx hb (oc_42 1312 (aq_9 shL_law_1303)) rfl (lvA0 hl) ?_
  refine lv_iload_n hx hb (oc_29 1313 (aq_10 shL_law_1303)) rfl (lvA3 hl) ?_
  refine lv_iconst (v := 2) hx hb (oc_5 1314 (aq_11 shL_law_1303)) kic_2 ?_
  refine lv_iadd hx hb (oc_96 1315 (aq_12 shL_law_1303)) ?_
  refine lv_topi (fun y_3 ey_3 => ?_)
  obtain rfl : y_3 = nI (i + 2) := ey_3.trans (nI_add i 2)
  refine va_sld hx hb hX hbl hbA hS (vp_in_nI (by omega) (by omega)) (oc_46 1316 (aq_13 shL_law_1303)) ?_
  refine lv_topi (fun y_4 ey_4 => ?_)
  obtain rfl : y_4 = xs (nI (i + 2)).toNatClampNeg := ey_4
  refine vp_callSi (runV_rxa (As := [.int (xs (nI (i + 1)).toNatClampNeg), .int (xs (nI (i + 2)).toNatClampNeg)]) (rest := []) S (q_Xfirst l D cI cB cZ zz qq vv bt g ad cn In Fn (xs (nI (i + 1)).toNatClampNeg) (xs (nI (i + 2)).toNatClampNeg) hI.1) kV_RL_144 hK hXS hS (exP hP) 0 xo_0 rfl rfl ⟨Nat.le_of_ble_eq_true rfl, Nat.le_of_ble_eq_true rfl⟩ ⟨(by show K + 0 ≤ 600000; omega), (by show N + 0 ≤ 7302250; omega)⟩ rfl hl.1 rfl (Nat.le_of_ble_eq_true rfl) (oc_182 1317 (aq_14 shL_law_1303) uw_0_144)) (fun r4 w4 => ?_)
  refine lv_pop hx hb (oc_87 1320 (aq_17 shL_law_1303)) rfl ?_
  refine lv_aload_n hx hb (oc_44 1321 (aq_18 shL_law_1303)) rfl (lvA2 hl) ?_
  refine lv_aload_n hx hb (oc_42 1322 (aq_19 shL_law_1303)) rfl (lvA0 hl) ?_
  refine lv_iload_n hx hb (oc_29 1323 (aq_20 shL_law_1303)) rfl (lvA3 hl) ?_
  refine lv_iconst (v := 1) hx hb (oc_4 1324 (aq_21 shL_law_1303)) kic_1 ?_
  refine lv_iadd hx hb (oc_96 1325 (aq_22 shL_law_1303)) ?_
  refine lv_topi (fun y_6 ey_6 => ?_)
  obtain rfl : y_6 = nI (i + 1) := ey_6.trans (nI_add i 1)
  refine va_sld hx hb hX hbl hbA hS (vp_in_nI (by omega) (by omega)) (oc_46 1326 (aq_23 shL_law_1303)) ?_
  refine lv_topi (fun y_7 ey_7 => ?_)
  obtain rfl : y_7 = xs (nI (i + 1)).toNatClampNeg := ey_7
  refine lv_aload_n hx hb (oc_42 1327 shL_law_1327) rfl (lvA0 hl) ?_
  refine lv_iload_n hx hb (oc_29 1328 (aq_1 shL_law_1327)) rfl (lvA3 hl) ?_
  refine lv_iconst (v := 2) hx hb (oc_5 1329 (aq_2 shL_law_1327)) kic_2 ?_
  refine lv_iadd hx hb (oc_96 1330 (aq_3 shL_law_1327)) ?_
  refine lv_topi (fun y_8 ey_8 => ?_)
  obtain rfl : y_8 = nI (i + 2) := ey_8.trans (nI_add i 2)
  refine va_sld hx hb hX hbl hbA hS (vp_in_nI (by omega) (by omega)) (oc_46 1331 (aq_4 shL_law_1327)) ?_
  refine lv_topi (fun y_9 ey_9 => ?_)
  obtain rfl : y_9 = xs (nI (i + 2)).toNatClampNeg := ey_9
  refine vp_callSi (runV_ra (As := [.int (xs (nI (i + 1)).toNatClampNeg), .int (xs (nI (i + 2)).toNatClampNeg)]) (rest := []) S (q_first l D cI cB cZ g2 c3 I3 F3 (xs (nI (i + 1)).toNatClampNeg) (xs (nI (i + 2)).toNatClampNeg) hM.1) kV_RL_147 hK (exPr hP) 0 rfl rfl rfl ⟨Nat.le_of_ble_eq_true rfl, Nat.le_of_ble_eq_true rfl⟩ ⟨(by show K + 0 ≤ 600000; omega), (by show N + 0 ≤ 7302250; omega)⟩ rfl hl.1 rfl (Nat.le_of_ble_eq_true rfl) (oc_182 1332 (aq_5 shL_law_1327) uw_0_147)) (fun r9 w9 => ?_)
  refine lv_pop hx hb (oc_87 1335 (aq_8 shL_law_1327)) rfl ?_
  refine lv_goto (tgt := 2269) hx hb (oc_167 1336 (aq_9 shL_law_1327) sgw_3_165) rfl ?_
  refine W.widen (k := K + 8) (n := N + 240) (by omega) (by omega) ?_
  exact kk _ _ _ _ _ _ _ _ _ hI hM hR hP hD hS ls hl
set_option maxRecDepth 100000 in
set_option maxHeartbeats 4000000 in
theorem lawc_31 {p : Program} {l : Launch} {e : Env} {s : State} {m : MethodId} {below : List Frame} {meth : Method} {c : Code} {b L : Nat} {xs : Nat → Int32} (C0 : lw_At p s m meth c b L xs) (hLN : L ≤ 3584) {A : Nat → Prop} (hA : ∀ q : Nat, s.heap.size ≤ q → A q) (hbA : ¬ A b) {D : va_G} {cI cB cZ : ClassId} {zz qq vv : Nat} {bt : Nat → Int32} {g g2 : Nat → Nat} (hK : KK D cI cB cZ s) (hXS : XS D zz qq vv bt A s s.heap) {ad : Nat → Nat → Nat} {cn : Nat → Nat} {In : Nat → Int32} {Fn : Nat → Nat → Int32} {c3 : Nat → Nat} {I3 : Nat → Int32} {F3 : Nat → Nat → Int32} (hI : IX ad cn Fn) (hM : IMM c3 F3) (hR : RR cn Fn c3 F3) {H : Heap} {locs : List Loc} (hP : va_P D vwCl (wX cI (D.1 99) zz g ad cn In Fn ++ wM cI cB cZ g2 c3 I3 F3) H) (hD : va_D A (wX cI (D.1 99) zz g ad cn In Fn ++ wM cI cB cZ g2 c3 I3 F3)) (hS : va_S A s.heap H locs) {K N i : Nat} (hi : i + 7 ≤ L) (hKN : K + 8 ≤ 600000 ∧ N + 240 ≤ 7302250) {ls : Array Slot} (hl : lv_has ls 4 [(0, .ref b), (1, .ref (g 0)), (2, .ref (g2 100)), (3, .int (nI i))]) (kk : ∀ (ad : Nat → Nat → Nat) (cn : Nat → Nat) (In : Nat → Int32) (Fn : Nat → Nat → Int32) (c3 : Nat → Nat) (I3 : Nat → Int32) (F3 : Nat → Nat → Int32) (H : Heap) (locs : List Loc), IX ad cn Fn → IMM c3 F3 → RR cn Fn c3 F3 → va_P D vwCl (wX cI (D.1 99) zz g ad cn In Fn ++ wM cI cB cZ g2 c3 I3 F3) H → va_D A (wX cI (D.1 99) zz g ad cn In Fn ++ wM cI cB cZ g2 c3 I3 F3) → va_S A s.heap H locs → ∀ ls : Array Slot, lv_has ls 4 [(0, .ref b), (1, .ref (g 0)), (2, .ref (g2 100)), (3, .int (nI i))] → W p l e room_1 s m #[Value.ref b] below meth c H locs (K + 8) (N + 240) (lw_Z below #[Value.ref b] s) (F0 m 2269 ls [])) : W p l e room_1 s m #[Value.ref b] below meth c H locs K N (lw_Z below #[Value.ref b] s) (F0 m 1339 ls []) := by
  obtain ⟨hx, hb, hr, hml, hown, hts, hX, hbl, hlocks, hgv⟩ := id C0
  have S : SF p m c code 4 s #[Value.ref b] RL := ⟨hx, hb, hml, hown, fun w h => hts w (wT_lw h)⟩
  refine lv_aload_n hx hb (oc_43 1339 (aq_12 shL_law_1327)) rfl (lvA1 hl) ?_
  refine lv_aload_n hx hb (oc_42 1340 (aq_13 shL_law_1327)) rfl (lvA0 hl) ?_
  refine lv_iload_n hx hb (oc_29 1341 (aq_14 shL_law_1327)) rfl (lvA3 hl) ?_
  refine lv_iconst (v := 1) hx hb (oc_4 1342 (aq_15 shL_law_1327)) kic_1 ?_
  refine lv_iadd hx hb (oc_96 1343 (aq_16 shL_law_1327)) ?_
  refine lv_topi (fun y_1 ey_1 => ?_)
  obtain rfl : y_1 = nI (i + 1) := ey_1.trans (nI_add i 1)
  refine va_sld hx hb hX hbl hbA hS (vp_in_nI (by omega) (by omega)) (oc_46 1344 (aq_17 shL_law_1327)) ?_
  refine lv_topi (fun y_2 ey_2 => ?_)
  obtain rfl : y_2 = xs (nI (i + 1)).toNatClampNeg := ey_2
  refine lv_aload_n hx hb (oc_42 1345 (aq_18 shL_law_1327)) rfl (lvA0 hl) ?_
  refine lv_iload_n hx hb (oc_29 1346 (aq_19 shL_law_1327)) rfl (lvA3 hl) ?_
  refine lv_iconst (v := 2) hx hb (oc_5 1347 (aq_20 shL_law_1327)) kic_2 ?_
  refine lv_iadd hx hb (oc_96 1348 (aq_21 shL_law_1327)) ?_
  refine lv_topi (fun y_3 ey_3 => ?_)
  obtain rfl : y_3 = nI (i + 2) := ey_3.trans (nI_add i 2)
  refine va_sld hx hb hX hbl hbA hS (vp_in_nI (by omega) (by omega)) (oc_46 1349 (aq_22 shL_law_1327)) ?_
  refine lv_topi (fun y_4 ey_4 => ?_)
  obtain rfl : y_4 = xs (nI (i + 2)).toNatClampNeg := ey_4
  have hFc := free_all (exD hD) hS hA
  refine va_calli (runV_xa (As := [.int (xs (nI (i + 1)).toNatClampNeg), .int (xs (nI (i + 2)).toNatClampNeg)]) (rest := []) S (q_Xstreet l D cI cB cZ zz qq vv bt g ad cn In Fn (xs (nI (i + 1)).toNatClampNeg) (xs (nI (i + 2)).toNatClampNeg) H.size hI.1) kV_RL_148 hK hXS hS hFc (exP hP) (exD hD) 0 xo_0 rfl rfl ⟨Nat.le_of_ble_eq_true rfl, Nat.le_of_ble_eq_true rfl⟩ ⟨(by show K + 0 ≤ 600000; omega), (by show N + 0 ≤ 7302250; omega)⟩ rfl hl.1 rfl (Nat.le_of_ble_eq_true rfl) (oc_182 1350 (aq_23 shL_law_1327) uw_0_148)) hS (fun q _ h => hFc q h) hFc (fun r4 u t H1 locs ht hvm w4 hB1 hz1 hk1 hS => ?_)
  obtain ⟨c4, I4, F4⟩ := u
  obtain ⟨hP1, hD1⟩ := hB1
  rw [ht] at hP1
  obtain ⟨hP, hD⟩ := exjoinL hP hD hk1 hFc hP1 hD1
  generalize H1 = H at hP hS ⊢
  have hd4 := w4.1.1
  have hf4 := w4.1.2.2
  have hI := IX.fr hI w4.1 w4.2.1 (by decide) (by decide)
  have hR := RR.fx hR hd4 hf4 (by decide) (by decide)
  refine lv_pop hx hb (oc_87 1353 shL_law_1353) rfl ?_
  refine lv_aload_n hx hb (oc_44 1354 (aq_1 shL_law_1353)) rfl (lvA2 hl) ?_
  refine lv_aload_n hx hb (oc_42 1355 (aq_2 shL_law_1353)) rfl (lvA0 hl) ?_
  refine lv_iload_n hx hb (oc_29 1356 (aq_3 shL_law_1353)) rfl (lvA3 hl) ?_
  refine lv_iconst (v := 1) hx hb (oc_4 1357 (aq_4 shL_law_1353)) kic_1 ?_
  refine lv_iadd hx hb (oc_96 1358 (aq_5 shL_law_1353)) ?_
  refine lv_topi (fun y_6 ey_6 => ?_)
  obtain rfl : y_6 = nI (i + 1) := ey_6.trans (nI_add i 1)
  refine va_sld hx hb hX hbl hbA hS (vp_in_nI (by omega) (by omega)) (oc_46 1359 (aq_6 shL_law_1353)) ?_
  refine lv_topi (fun y_7 ey_7 => ?_)
  obtain rfl : y_7 = xs (nI (i + 1)).toNatClampNeg := ey_7
  refine lv_aload_n hx hb (oc_42 1360 (aq_7 shL_law_1353)) rfl (lvA0 hl) ?_
  refine lv_iload_n hx hb (oc_29 1361 (aq_8 shL_law_1353)) rfl (lvA3 hl) ?_
  refine lv_iconst (v := 2) hx hb (oc_5 1362 (aq_9 shL_law_1353)) kic_2 ?_
  refine lv_iadd hx hb (oc_96 1363 (aq_10 shL_law_1353)) ?_
  refine lv_topi (fun y_8 ey_8 => ?_)
  obtain rfl : y_8 = nI (i + 2) := ey_8.trans (nI_add i 2)
  refine va_sld hx hb hX hbl hbA hS (vp_in_nI (by omega) (by omega)) (oc_46 1364 (aq_11 shL_law_1353)) ?_
  refine lv_topi (fun y_9 ey_9 => ?_)
  obtain rfl : y_9 = xs (nI (i + 2)).toNatClampNeg := ey_9
  have hFc := free_all (exDr hD) hS hA
  refine va_calli (runV_a (As := [.int (xs (nI (i + 1)).toNatClampNeg), .int (xs (nI (i + 2)).toNatClampNeg)]) (rest := []) S (q_street l D cI cB cZ g2 c3 I3 F3 (xs (nI (i + 1)).toNatClampNeg) (xs (nI (i + 2)).toNatClampNeg) H.size hM.1) kV_RL_151 hK (exPr hP) (exDr hD) 0 rfl rfl rfl ⟨Nat.le_of_ble_eq_true rfl, Nat.le_of_ble_eq_true rfl⟩ ⟨(by show K + 0 ≤ 600000; omega), (by show N + 0 ≤ 7302250; omega)⟩ rfl hl.1 rfl (Nat.le_of_ble_eq_true rfl) (oc_182 1365 (aq_12 shL_law_1353) uw_0_151)) hS (fun q _ h => hFc q h) hFc (fun r9 u t H1 locs ht hvm w9 hB1 hz1 hk1 hS => ?_)
  obtain ⟨c9, I9, F9⟩ := u
  obtain ⟨hP1, hD1⟩ := hB1
  rw [ht] at hP1
  obtain ⟨hP, hD⟩ := exjoin hP hD hk1 hFc hP1 hD1
  generalize H1 = H at hP hS ⊢
  obtain ⟨hM, hd9, hf9⟩ := imm_street hM w9
  have hR := RR.fm hR hd9 hf9 (by decide) (by decide)
  refine lv_pop hx hb (oc_87 1368 (aq_15 shL_law_1353)) rfl ?_
  refine lv_goto (tgt := 2269) hx hb (oc_167 1369 (aq_16 shL_law_1353) sgw_3_132) rfl ?_
  refine W.widen (k := K + 8) (n := N + 240) (by omega) (by omega) ?_
  exact kk _ _ _ _ _ _ _ _ _ hI hM hR hP hD hS ls hl
set_option maxRecDepth 100000 in
set_option maxHeartbeats 4000000 in
theorem lawc_32 {p : Program} {l : Launch} {e : Env} {s : State} {m : MethodId} {below : List Frame} {meth : Method} {c : Code} {b L : Nat} {xs : Nat → Int32} (C0 : lw_At p s m meth c b L xs) (hLN : L ≤ 3584) {A : Nat → Prop} (hA : ∀ q : Nat, s.heap.size ≤ q → A q) (hbA : ¬ A b) {D : va_G} {cI cB cZ : ClassId} {zz qq vv : Nat} {bt : Nat → Int32} {g g2 : Nat → Nat} (hK : KK D cI cB cZ s) (hXS : XS D zz qq vv bt A s s.heap) {ad : Nat → Nat → Nat} {cn : Nat → Nat} {In : Nat → Int32} {Fn : Nat → Nat → Int32} {c3 : Nat → Nat} {I3 : Nat → Int32} {F3 : Nat → Nat → Int32} (hI : IX ad cn Fn) (hM : IMM c3 F3) (hR : RR cn Fn c3 F3) {H : Heap} {locs : List Loc} (hP : va_P D vwCl (wX cI (D.1 99) zz g ad cn In Fn ++ wM cI cB cZ g2 c3 I3 F3) H) (hD : va_D A (wX cI (D.1 99) zz g ad cn In Fn ++ wM cI cB cZ g2 c3 I3 F3)) (hS : va_S A s.heap H locs) {K N i : Nat} (hi : i + 7 ≤ L) (hKN : K + 8 ≤ 600000 ∧ N + 240 ≤ 7302250) {ls : Array Slot} (hl : lv_has ls 4 [(0, .ref b), (1, .ref (g 0)), (2, .ref (g2 100)), (3, .int (nI i))]) (kk : ∀ (ad : Nat → Nat → Nat) (cn : Nat → Nat) (In : Nat → Int32) (Fn : Nat → Nat → Int32) (c3 : Nat → Nat) (I3 : Nat → Int32) (F3 : Nat → Nat → Int32) (H : Heap) (locs : List Loc), IX ad cn Fn → IMM c3 F3 → RR cn Fn c3 F3 → va_P D vwCl (wX cI (D.1 99) zz g ad cn In Fn ++ wM cI cB cZ g2 c3 I3 F3) H → va_D A (wX cI (D.1 99) zz g ad cn In Fn ++ wM cI cB cZ g2 c3 I3 F3) → va_S A s.heap H locs → ∀ ls : Array Slot, lv_has ls 4 [(0, .ref b), (1, .ref (g 0)), (2, .ref (g2 100)), (3, .int (nI i))] → W p l e room_1 s m #[Value.ref b] below meth c H locs (K + 8) (N + 240) (lw_Z below #[Value.ref b] s) (F0 m 2269 ls [])) : W p l e room_1 s m #[Value.ref b] below meth c H locs K N (lw_Z below #[Value.ref b] s) (F0 m 1372 ls []) := by
  obtain ⟨hx, hb, hr, hml, hown, hts, hX, hbl, hlocks, hgv⟩ := id C0
  have S : SF p m c code 4 s #[Value.ref b] RL := ⟨hx, hb, hml, hown, fun w h => hts w (wT_lw h)⟩
  refine lv_aload_n hx hb (oc_43 1372 (aq_19 shL_law_1353)) rfl (lvA1 hl) ?_
  refine lv_aload_n hx hb (oc_42 1373 (aq_20 shL_law_1353)) rfl (lvA0 hl) ?_
  refine lv_iload_n hx hb (oc_29 1374 (aq_21 shL_law_1353)) rfl (lvA3 hl) ?_
  refine lv_iconst (v := 1) hx hb (oc_4 1375 (aq_22 shL_law_1353)) kic_1 ?_
  refine lv_iadd hx hb (oc_96 1376 (aq_23 shL_law_1353)) ?_
  refine lv_topi (fun y_1 ey_1 => ?_)
  obtain rfl : y_1 = nI (i + 1) := ey_1.trans (nI_add i 1)
  refine va_sld hx hb hX hbl hbA hS (vp_in_nI (by omega) (by omega)) (oc_46 1377 shL_law_1377) ?_
  refine lv_topi (fun y_2 ey_2 => ?_)
  obtain rfl : y_2 = xs (nI (i + 1)).toNatClampNeg := ey_2
  refine lv_aload_n hx hb (oc_42 1378 (aq_1 shL_law_1377)) rfl (lvA0 hl) ?_
  refine lv_iload_n hx hb (oc_29 1379 (aq_2 shL_law_1377)) rfl (lvA3 hl) ?_
  refine lv_iconst (v := 2) hx hb (oc_5 1380 (aq_3 shL_law_1377)) kic_2 ?_
  refine lv_iadd hx hb (oc_96 1381 (aq_4 shL_law_1377)) ?_
  refine lv_topi (fun y_3 ey_3 => ?_)
  obtain rfl : y_3 = nI (i + 2) := ey_3.trans (nI_add i 2)
  refine va_sld hx hb hX hbl hbA hS (vp_in_nI (by omega) (by omega)) (oc_46 1382 (aq_5 shL_law_1377)) ?_
  refine lv_topi (fun y_4 ey_4 => ?_)
  obtain rfl : y_4 = xs (nI (i + 2)).toNatClampNeg := ey_4
  refine vp_callSl (runV_rxa (As := [.int (xs (nI (i + 1)).toNatClampNeg), .int (xs (nI (i + 2)).toNatClampNeg)]) (rest := []) S (q_Xstreets l D cI cB cZ zz qq vv bt g ad cn In Fn (xs (nI (i + 1)).toNatClampNeg) (xs (nI (i + 2)).toNatClampNeg) hI.1) kV_RL_152 hK hXS hS (exP hP) 0 xo_0 rfl rfl ⟨Nat.le_of_ble_eq_true rfl, Nat.le_of_ble_eq_true rfl⟩ ⟨(by show K + 0 ≤ 600000; omega), (by show N + 0 ≤ 7302250; omega)⟩ rfl hl.1 rfl (Nat.le_of_ble_eq_true rfl) (oc_182 1383 (aq_6 shL_law_1377) uw_0_152)) (fun r4 w4 => ?_)
  refine lv_pop2_2 hx hb (oc_88 1386 (aq_9 shL_law_1377)) rfl ?_
  refine lv_aload_n hx hb (oc_44 1387 (aq_10 shL_law_1377)) rfl (lvA2 hl) ?_
  refine lv_aload_n hx hb (oc_42 1388 (aq_11 shL_law_1377)) rfl (lvA0 hl) ?_
  refine lv_iload_n hx hb (oc_29 1389 (aq_12 shL_law_1377)) rfl (lvA3 hl) ?_
  refine lv_iconst (v := 1) hx hb (oc_4 1390 (aq_13 shL_law_1377)) kic_1 ?_
  refine lv_iadd hx hb (oc_96 1391 (aq_14 shL_law_1377)) ?_
  refine lv_topi (fun y_6 ey_6 => ?_)
  obtain rfl : y_6 = nI (i + 1) := ey_6.trans (nI_add i 1)
  refine va_sld hx hb hX hbl hbA hS (vp_in_nI (by omega) (by omega)) (oc_46 1392 (aq_15 shL_law_1377)) ?_
  refine lv_topi (fun y_7 ey_7 => ?_)
  obtain rfl : y_7 = xs (nI (i + 1)).toNatClampNeg := ey_7
  refine lv_aload_n hx hb (oc_42 1393 (aq_16 shL_law_1377)) rfl (lvA0 hl) ?_
  refine lv_iload_n hx hb (oc_29 1394 (aq_17 shL_law_1377)) rfl (lvA3 hl) ?_
  refine lv_iconst (v := 2) hx hb (oc_5 1395 (aq_18 shL_law_1377)) kic_2 ?_
  refine lv_iadd hx hb (oc_96 1396 (aq_19 shL_law_1377)) ?_
  refine lv_topi (fun y_8 ey_8 => ?_)
  obtain rfl : y_8 = nI (i + 2) := ey_8.trans (nI_add i 2)
  refine va_sld hx hb hX hbl hbA hS (vp_in_nI (by omega) (by omega)) (oc_46 1397 (aq_20 shL_law_1377)) ?_
  refine lv_topi (fun y_9 ey_9 => ?_)
  obtain rfl : y_9 = xs (nI (i + 2)).toNatClampNeg := ey_9
  refine vp_callSl (runV_ra (As := [.int (xs (nI (i + 1)).toNatClampNeg), .int (xs (nI (i + 2)).toNatClampNeg)]) (rest := []) S (q_streets l D cI cB cZ g2 c3 I3 F3 (xs (nI (i + 1)).toNatClampNeg) (xs (nI (i + 2)).toNatClampNeg) hM.1) kV_RL_155 hK (exPr hP) 0 rfl rfl rfl ⟨Nat.le_of_ble_eq_true rfl, Nat.le_of_ble_eq_true rfl⟩ ⟨(by show K + 0 ≤ 600000; omega), (by show N + 0 ≤ 7302250; omega)⟩ rfl hl.1 rfl (Nat.le_of_ble_eq_true rfl) (oc_182 1398 (aq_21 shL_law_1377) uw_0_155)) (fun r9 w9 => ?_)
  refine lv_pop2_2 hx hb (oc_88 1401 shL_law_1401) rfl ?_
  refine lv_goto (tgt := 2269) hx hb (oc_167 1402 (aq_1 shL_law_1401) sgw_3_99) rfl ?_
  refine W.widen (k := K + 8) (n := N + 240) (by omega) (by omega) ?_
  exact kk _ _ _ _ _ _ _ _ _ hI hM hR hP hD hS ls hl
set_option maxRecDepth 100000 in
set_option maxHeartbeats 4000000 in
theorem lawc_33 {p : Program} {l : Launch} {e : Env} {s : State} {m : MethodId} {below : List Frame} {meth : Method} {c : Code} {b L : Nat} {xs : Nat → Int32} (C0 : lw_At p s m meth c b L xs) (hLN : L ≤ 3584) {A : Nat → Prop} (hA : ∀ q : Nat, s.heap.size ≤ q → A q) (hbA : ¬ A b) {D : va_G} {cI cB cZ : ClassId} {zz qq vv : Nat} {bt : Nat → Int32} {g g2 : Nat → Nat} (hK : KK D cI cB cZ s) (hXS : XS D zz qq vv bt A s s.heap) {ad : Nat → Nat → Nat} {cn : Nat → Nat} {In : Nat → Int32} {Fn : Nat → Nat → Int32} {c3 : Nat → Nat} {I3 : Nat → Int32} {F3 : Nat → Nat → Int32} (hI : IX ad cn Fn) (hM : IMM c3 F3) (hR : RR cn Fn c3 F3) {H : Heap} {locs : List Loc} (hP : va_P D vwCl (wX cI (D.1 99) zz g ad cn In Fn ++ wM cI cB cZ g2 c3 I3 F3) H) (hD : va_D A (wX cI (D.1 99) zz g ad cn In Fn ++ wM cI cB cZ g2 c3 I3 F3)) (hS : va_S A s.heap H locs) {K N i : Nat} (hi : i + 7 ≤ L) (hKN : K + 8 ≤ 600000 ∧ N + 240 ≤ 7302250) {ls : Array Slot} (hl : lv_has ls 4 [(0, .ref b), (1, .ref (g 0)), (2, .ref (g2 100)), (3, .int (nI i))]) (kk : ∀ (ad : Nat → Nat → Nat) (cn : Nat → Nat) (In : Nat → Int32) (Fn : Nat → Nat → Int32) (c3 : Nat → Nat) (I3 : Nat → Int32) (F3 : Nat → Nat → Int32) (H : Heap) (locs : List Loc), IX ad cn Fn → IMM c3 F3 → RR cn Fn c3 F3 → va_P D vwCl (wX cI (D.1 99) zz g ad cn In Fn ++ wM cI cB cZ g2 c3 I3 F3) H → va_D A (wX cI (D.1 99) zz g ad cn In Fn ++ wM cI cB cZ g2 c3 I3 F3) → va_S A s.heap H locs → ∀ ls : Array Slot, lv_has ls 4 [(0, .ref b), (1, .ref (g 0)), (2, .ref (g2 100)), (3, .int (nI i))] → W p l e room_1 s m #[Value.ref b] below meth c H locs (K + 8) (N + 240) (lw_Z below #[Value.ref b] s) (F0 m 2269 ls [])) : W p l e room_1 s m #[Value.ref b] below meth c H locs K N (lw_Z below #[Value.ref b] s) (F0 m 1405 ls []) := by
  obtain ⟨hx, hb, hr, hml, hown, hts, hX, hbl, hlocks, hgv⟩ := id C0
  have S : SF p m c code 4 s #[Value.ref b] RL := ⟨hx, hb, hml, hown, fun w h => hts w (wT_lw h)⟩
  refine lv_aload_n hx hb (oc_43 1405 (aq_4 shL_law_1401)) rfl (lvA1 hl) ?_
  refine lv_aload_n hx hb (oc_42 1406 (aq_5 shL_law_1401)) rfl (lvA0 hl) ?_
  refine lv_iload_n hx hb (oc_29 1407 (aq_6 shL_law_1401)) rfl (lvA3 hl) ?_
  refine lv_iconst (v := 1) hx hb (oc_4 1408 (aq_7 shL_law_1401)) kic_1 ?_
  refine lv_iadd hx hb (oc_96 1409 (aq_8 shL_law_1401)) ?_
  refine lv_topi (fun y_1 ey_1 => ?_)
  obtain rfl : y_1 = nI (i + 1) := ey_1.trans (nI_add i 1)
  refine va_sld hx hb hX hbl hbA hS (vp_in_nI (by omega) (by omega)) (oc_46 1410 (aq_9 shL_law_1401)) ?_
  refine lv_topi (fun y_2 ey_2 => ?_)
  obtain rfl : y_2 = xs (nI (i + 1)).toNatClampNeg := ey_2
  refine lv_aload_n hx hb (oc_42 1411 (aq_10 shL_law_1401)) rfl (lvA0 hl) ?_
  refine lv_iload_n hx hb (oc_29 1412 (aq_11 shL_law_1401)) rfl (lvA3 hl) ?_
  refine lv_iconst (v := 2) hx hb (oc_5 1413 (aq_12 shL_law_1401)) kic_2 ?_
  refine lv_iadd hx hb (oc_96 1414 (aq_13 shL_law_1401)) ?_
  refine lv_topi (fun y_3 ey_3 => ?_)
  obtain rfl : y_3 = nI (i + 2) := ey_3.trans (nI_add i 2)
  refine va_sld hx hb hX hbl hbA hS (vp_in_nI (by omega) (by omega)) (oc_46 1415 (aq_14 shL_law_1401)) ?_
  refine lv_topi (fun y_4 ey_4 => ?_)
  obtain rfl : y_4 = xs (nI (i + 2)).toNatClampNeg := ey_4
  refine lv_aload_n hx hb (oc_42 1416 (aq_15 shL_law_1401)) rfl (lvA0 hl) ?_
  refine lv_iload_n hx hb (oc_29 1417 (aq_16 shL_law_1401)) rfl (lvA3 hl) ?_
  refine lv_iconst (v := 3) hx hb (oc_6 1418 (aq_17 shL_law_1401)) kic_3 ?_
  refine lv_iadd hx hb (oc_96 1419 (aq_18 shL_law_1401)) ?_
  refine lv_topi (fun y_5 ey_5 => ?_)
  obtain rfl : y_5 = nI (i + 3) := ey_5.trans (nI_add i 3)
  refine va_sld hx hb hX hbl hbA hS (vp_in_nI (by omega) (by omega)) (oc_46 1420 (aq_19 shL_law_1401)) ?_
  refine lv_topi (fun y_6 ey_6 => ?_)
  obtain rfl : y_6 = xs (nI (i + 3)).toNatClampNeg := ey_6
  refine vp_callSl (runV_rxa (As := [.int (xs (nI (i + 1)).toNatClampNeg), .int (xs (nI (i + 2)).toNatClampNeg), .int (xs (nI (i + 3)).toNatClampNeg)]) (rest := []) S (q_Xcheat l D cI cB cZ zz qq vv bt g ad cn In Fn (xs (nI (i + 1)).toNatClampNeg) (xs (nI (i + 2)).toNatClampNeg) (xs (nI (i + 3)).toNatClampNeg) hI.1) kV_RL_156 hK hXS hS (exP hP) 0 xo_0 rfl rfl ⟨Nat.le_of_ble_eq_true rfl, Nat.le_of_ble_eq_true rfl⟩ ⟨(by show K + 0 ≤ 600000; omega), (by show N + 0 ≤ 7302250; omega)⟩ rfl hl.1 rfl (Nat.le_of_ble_eq_true rfl) (oc_182 1421 (aq_20 shL_law_1401) uw_0_156)) (fun r6 w6 => ?_)
  refine lv_pop2_2 hx hb (oc_88 1424 (aq_23 shL_law_1401)) rfl ?_
  refine lv_aload_n hx hb (oc_44 1425 shL_law_1425) rfl (lvA2 hl) ?_
  refine lv_aload_n hx hb (oc_42 1426 (aq_1 shL_law_1425)) rfl (lvA0 hl) ?_
  refine lv_iload_n hx hb (oc_29 1427 (aq_2 shL_law_1425)) rfl (lvA3 hl) ?_
  refine lv_iconst (v := 1) hx hb (oc_4 1428 (aq_3 shL_law_1425)) kic_1 ?_
  refine lv_iadd hx hb (oc_96 1429 (aq_4 shL_law_1425)) ?_
  refine lv_topi (fun y_8 ey_8 => ?_)
  obtain rfl : y_8 = nI (i + 1) := ey_8.trans (nI_add i 1)
  refine va_sld hx hb hX hbl hbA hS (vp_in_nI (by omega) (by omega)) (oc_46 1430 (aq_5 shL_law_1425)) ?_
  refine lv_topi (fun y_9 ey_9 => ?_)
  obtain rfl : y_9 = xs (nI (i + 1)).toNatClampNeg := ey_9
  refine lv_aload_n hx hb (oc_42 1431 (aq_6 shL_law_1425)) rfl (lvA0 hl) ?_
  refine lv_iload_n hx hb (oc_29 1432 (aq_7 shL_law_1425)) rfl (lvA3 hl) ?_
  refine lv_iconst (v := 2) hx hb (oc_5 1433 (aq_8 shL_law_1425)) kic_2 ?_
  refine lv_iadd hx hb (oc_96 1434 (aq_9 shL_law_1425)) ?_
  refine lv_topi (fun y_10 ey_10 => ?_)
  obtain rfl : y_10 = nI (i + 2) := ey_10.trans (nI_add i 2)
  refine va_sld hx hb hX hbl hbA hS (vp_in_nI (by omega) (by omega)) (oc_46 1435 (aq_10 shL_law_1425)) ?_
  refine lv_topi (fun y_11 ey_11 => ?_)
  obtain rfl : y_11 = xs (nI (i + 2)).toNatClampNeg := ey_11
  refine lv_aload_n hx hb (oc_42 1436 (aq_11 shL_law_1425)) rfl (lvA0 hl) ?_
  refine lv_iload_n hx hb (oc_29 1437 (aq_12 shL_law_1425)) rfl (lvA3 hl) ?_
  refine lv_iconst (v := 3) hx hb (oc_6 1438 (aq_13 shL_law_1425)) kic_3 ?_
  refine lv_iadd hx hb (oc_96 1439 (aq_14 shL_law_1425)) ?_
  refine lv_topi (fun y_12 ey_12 => ?_)
  obtain rfl : y_12 = nI (i + 3) := ey_12.trans (nI_add i 3)
  refine va_sld hx hb hX hbl hbA hS (vp_in_nI (by omega) (by omega)) (oc_46 1440 (aq_15 shL_law_1425)) ?_
  refine lv_topi (fun y_13 ey_13 => ?_)
  obtain rfl : y_13 = xs (nI (i + 3)).toNatClampNeg := ey_13
  refine vp_callSl (runV_ra (As := [.int (xs (nI (i + 1)).toNatClampNeg), .int (xs (nI (i + 2)).toNatClampNeg), .int (xs (nI (i + 3)).toNatClampNeg)]) (rest := []) S (q_cheat l D cI cB cZ g2 c3 I3 F3 (xs (nI (i + 1)).toNatClampNeg) (xs (nI (i + 2)).toNatClampNeg) (xs (nI (i + 3)).toNatClampNeg) hM.1) kV_RL_160 hK (exPr hP) 0 rfl rfl rfl ⟨Nat.le_of_ble_eq_true rfl, Nat.le_of_ble_eq_true rfl⟩ ⟨(by show K + 0 ≤ 600000; omega), (by show N + 0 ≤ 7302250; omega)⟩ rfl hl.1 rfl (Nat.le_of_ble_eq_true rfl) (oc_182 1441 (aq_16 shL_law_1425) uw_0_160)) (fun r13 w13 => ?_)
  refine lv_pop2_2 hx hb (oc_88 1444 (aq_19 shL_law_1425)) rfl ?_
  refine lv_goto (tgt := 2269) hx hb (oc_167 1445 (aq_20 shL_law_1425) sgw_3_56) rfl ?_
  refine W.widen (k := K + 8) (n := N + 240) (by omega) (by omega) ?_
  exact kk _ _ _ _ _ _ _ _ _ hI hM hR hP hD hS ls hl
set_option maxRecDepth 100000 in
set_option maxHeartbeats 4000000 in
theorem lawc_34 {p : Program} {l : Launch} {e : Env} {s : State} {m : MethodId} {below : List Frame} {meth : Method} {c : Code} {b L : Nat} {xs : Nat → Int32} (C0 : lw_At p s m meth c b L xs) (hLN : L ≤ 3584) {A : Nat → Prop} (hA : ∀ q : Nat, s.heap.size ≤ q → A q) (hbA : ¬ A b) {D : va_G} {cI cB cZ : ClassId} {zz qq vv : Nat} {bt : Nat → Int32} {g g2 : Nat → Nat} (hK : KK D cI cB cZ s) (hXS : XS D zz qq vv bt A s s.heap) {ad : Nat → Nat → Nat} {cn : Nat → Nat} {In : Nat → Int32} {Fn : Nat → Nat → Int32} {c3 : Nat → Nat} {I3 : Nat → Int32} {F3 : Nat → Nat → Int32} (hI : IX ad cn Fn) (hM : IMM c3 F3) (hR : RR cn Fn c3 F3) {H : Heap} {locs : List Loc} (hP : va_P D vwCl (wX cI (D.1 99) zz g ad cn In Fn ++ wM cI cB cZ g2 c3 I3 F3) H) (hD : va_D A (wX cI (D.1 99) zz g ad cn In Fn ++ wM cI cB cZ g2 c3 I3 F3)) (hS : va_S A s.heap H locs) {K N i : Nat} (hi : i + 7 ≤ L) (hKN : K + 8 ≤ 600000 ∧ N + 240 ≤ 7302250) {ls : Array Slot} (hl : lv_has ls 4 [(0, .ref b), (1, .ref (g 0)), (2, .ref (g2 100)), (3, .int (nI i))]) (kk : ∀ (ad : Nat → Nat → Nat) (cn : Nat → Nat) (In : Nat → Int32) (Fn : Nat → Nat → Int32) (c3 : Nat → Nat) (I3 : Nat → Int32) (F3 : Nat → Nat → Int32) (H : Heap) (locs : List Loc), IX ad cn Fn → IMM c3 F3 → RR cn Fn c3 F3 → va_P D vwCl (wX cI (D.1 99) zz g ad cn In Fn ++ wM cI cB cZ g2 c3 I3 F3) H → va_D A (wX cI (D.1 99) zz g ad cn In Fn ++ wM cI cB cZ g2 c3 I3 F3) → va_S A s.heap H locs → ∀ ls : Array Slot, lv_has ls 4 [(0, .ref b), (1, .ref (g 0)), (2, .ref (g2 100)), (3, .int (nI i))] → W p l e room_1 s m #[Value.ref b] below meth c H locs (K + 8) (N + 240) (lw_Z below #[Value.ref b] s) (F0 m 2269 ls [])) : W p l e room_1 s m #[Value.ref b] below meth c H locs K N (lw_Z below #[Value.ref b] s) (F0 m 1448 ls []) := by
  obtain ⟨hx, hb, hr, hml, hown, hts, hX, hbl, hlocks, hgv⟩ := id C0
  have S : SF p m c code 4 s #[Value.ref b] RL := ⟨hx, hb, hml, hown, fun w h => hts w (wT_lw h)⟩
  refine lv_aload_n hx hb (oc_43 1448 (aq_23 shL_law_1425)) rfl (lvA1 hl) ?_
  refine lv_aload_n hx hb (oc_42 1449 shL_law_1449) rfl (lvA0 hl) ?_
  refine lv_iload_n hx hb (oc_29 1450 (aq_1 shL_law_1449)) rfl (lvA3 hl) ?_
  refine lv_iconst (v := 1) hx hb (oc_4 1451 (aq_2 shL_law_1449)) kic_1 ?_
  refine lv_iadd hx hb (oc_96 1452 (aq_3 shL_law_1449)) ?_
  refine lv_topi (fun y_1 ey_1 => ?_)
  obtain rfl : y_1 = nI (i + 1) := ey_1.trans (nI_add i 1)
  refine va_sld hx hb hX hbl hbA hS (vp_in_nI (by omega) (by omega)) (oc_46 1453 (aq_4 shL_law_1449)) ?_
  refine lv_topi (fun y_2 ey_2 => ?_)
  obtain rfl : y_2 = xs (nI (i + 1)).toNatClampNeg := ey_2
  refine lv_aload_n hx hb (oc_42 1454 (aq_5 shL_law_1449)) rfl (lvA0 hl) ?_
  refine lv_iload_n hx hb (oc_29 1455 (aq_6 shL_law_1449)) rfl (lvA3 hl) ?_
  refine lv_iconst (v := 2) hx hb (oc_5 1456 (aq_7 shL_law_1449)) kic_2 ?_
  refine lv_iadd hx hb (oc_96 1457 (aq_8 shL_law_1449)) ?_
  refine lv_topi (fun y_3 ey_3 => ?_)
  obtain rfl : y_3 = nI (i + 2) := ey_3.trans (nI_add i 2)
  refine va_sld hx hb hX hbl hbA hS (vp_in_nI (by omega) (by omega)) (oc_46 1458 (aq_9 shL_law_1449)) ?_
  refine lv_topi (fun y_4 ey_4 => ?_)
  obtain rfl : y_4 = xs (nI (i + 2)).toNatClampNeg := ey_4
  have hFc := free_all (exD hD) hS hA
  refine va_calli (runV_xa (As := [.int (xs (nI (i + 1)).toNatClampNeg), .int (xs (nI (i + 2)).toNatClampNeg)]) (rest := []) S (q_XasIf l D cI cB cZ zz qq vv bt g ad cn In Fn (xs (nI (i + 1)).toNatClampNeg) (xs (nI (i + 2)).toNatClampNeg) H.size hI.1 hI.2.1 hI.2.2.1) kV_RL_161 hK hXS hS hFc (exP hP) (exD hD) 0 xo_0 rfl rfl ⟨Nat.le_of_ble_eq_true rfl, Nat.le_of_ble_eq_true rfl⟩ ⟨(by show K + 0 ≤ 600000; omega), (by show N + 0 ≤ 7302250; omega)⟩ rfl hl.1 rfl (Nat.le_of_ble_eq_true rfl) (oc_182 1459 (aq_10 shL_law_1449) uw_0_161)) hS (fun q _ h => hFc q h) hFc (fun r4 u t H1 locs ht hvm w4 hB1 hz1 hk1 hS => ?_)
  obtain ⟨c4, I4, F4⟩ := u
  obtain ⟨hP1, hD1⟩ := hB1
  rw [ht] at hP1
  obtain ⟨hP, hD⟩ := exjoinL hP hD hk1 hFc hP1 hD1
  generalize H1 = H at hP hS ⊢
  have hd4 := w4.1.1
  have hf4 := w4.1.2.2
  have hI := IX.fr hI w4.1 w4.2.1 (by decide) (by decide)
  have hR := RR.fx hR hd4 hf4 (by decide) (by decide)
  refine lv_pop hx hb (oc_87 1462 (aq_13 shL_law_1449)) rfl ?_
  refine lv_aload_n hx hb (oc_44 1463 (aq_14 shL_law_1449)) rfl (lvA2 hl) ?_
  refine lv_aload_n hx hb (oc_42 1464 (aq_15 shL_law_1449)) rfl (lvA0 hl) ?_
  refine lv_iload_n hx hb (oc_29 1465 (aq_16 shL_law_1449)) rfl (lvA3 hl) ?_
  refine lv_iconst (v := 1) hx hb (oc_4 1466 (aq_17 shL_law_1449)) kic_1 ?_
  refine lv_iadd hx hb (oc_96 1467 (aq_18 shL_law_1449)) ?_
  refine lv_topi (fun y_6 ey_6 => ?_)
  obtain rfl : y_6 = nI (i + 1) := ey_6.trans (nI_add i 1)
  refine va_sld hx hb hX hbl hbA hS (vp_in_nI (by omega) (by omega)) (oc_46 1468 (aq_19 shL_law_1449)) ?_
  refine lv_topi (fun y_7 ey_7 => ?_)
  obtain rfl : y_7 = xs (nI (i + 1)).toNatClampNeg := ey_7
  refine lv_aload_n hx hb (oc_42 1469 (aq_20 shL_law_1449)) rfl (lvA0 hl) ?_
  refine lv_iload_n hx hb (oc_29 1470 (aq_21 shL_law_1449)) rfl (lvA3 hl) ?_
  refine lv_iconst (v := 2) hx hb (oc_5 1471 (aq_22 shL_law_1449)) kic_2 ?_
  refine lv_iadd hx hb (oc_96 1472 (aq_23 shL_law_1449)) ?_
  refine lv_topi (fun y_8 ey_8 => ?_)
  obtain rfl : y_8 = nI (i + 2) := ey_8.trans (nI_add i 2)
  refine va_sld hx hb hX hbl hbA hS (vp_in_nI (by omega) (by omega)) (oc_46 1473 shL_law_1473) ?_
  refine lv_topi (fun y_9 ey_9 => ?_)
  obtain rfl : y_9 = xs (nI (i + 2)).toNatClampNeg := ey_9
  have hFc := free_all (exDr hD) hS hA
  refine va_calli (runV_a (As := [.int (xs (nI (i + 1)).toNatClampNeg), .int (xs (nI (i + 2)).toNatClampNeg)]) (rest := []) S (q_asIf l D cI cB cZ g2 c3 I3 F3 (xs (nI (i + 1)).toNatClampNeg) (xs (nI (i + 2)).toNatClampNeg) H.size hM.1) kV_RL_164 hK (exPr hP) (exDr hD) 0 rfl rfl rfl ⟨Nat.le_of_ble_eq_true rfl, Nat.le_of_ble_eq_true rfl⟩ ⟨(by show K + 0 ≤ 600000; omega), (by show N + 0 ≤ 7302250; omega)⟩ rfl hl.1 rfl (Nat.le_of_ble_eq_true rfl) (oc_182 1474 (aq_1 shL_law_1473) uw_0_164)) hS (fun q _ h => hFc q h) hFc (fun r9 u t H1 locs ht hvm w9 hB1 hz1 hk1 hS => ?_)
  obtain ⟨c9, I9, F9⟩ := u
  obtain ⟨hP1, hD1⟩ := hB1
  rw [ht] at hP1
  obtain ⟨hP, hD⟩ := exjoin hP hD hk1 hFc hP1 hD1
  generalize H1 = H at hP hS ⊢
  obtain ⟨hM, hd9, hf9⟩ := imm_asIf hM w9
  have hR := RR.fm hR hd9 hf9 (by decide) (by decide)
  refine lv_pop hx hb (oc_87 1477 (aq_4 shL_law_1473)) rfl ?_
  refine lv_goto (tgt := 2269) hx hb (oc_167 1478 (aq_5 shL_law_1473) sgw_3_23) rfl ?_
  refine W.widen (k := K + 8) (n := N + 240) (by omega) (by omega) ?_
  exact kk _ _ _ _ _ _ _ _ _ hI hM hR hP hD hS ls hl
set_option maxRecDepth 100000 in
set_option maxHeartbeats 4000000 in
theorem lawc_35 {p : Program} {l : Launch} {e : Env} {s : State} {m : MethodId} {below : List Frame} {meth : Method} {c : Code} {b L : Nat} {xs : Nat → Int32} (C0 : lw_At p s m meth c b L xs) (hLN : L ≤ 3584) {A : Nat → Prop} (hA : ∀ q : Nat, s.heap.size ≤ q → A q) (hbA : ¬ A b) {D : va_G} {cI cB cZ : ClassId} {zz qq vv : Nat} {bt : Nat → Int32} {g g2 : Nat → Nat} (hK : KK D cI cB cZ s) (hXS : XS D zz qq vv bt A s s.heap) {ad : Nat → Nat → Nat} {cn : Nat → Nat} {In : Nat → Int32} {Fn : Nat → Nat → Int32} {c3 : Nat → Nat} {I3 : Nat → Int32} {F3 : Nat → Nat → Int32} (hI : IX ad cn Fn) (hM : IMM c3 F3) (hR : RR cn Fn c3 F3) {H : Heap} {locs : List Loc} (hP : va_P D vwCl (wX cI (D.1 99) zz g ad cn In Fn ++ wM cI cB cZ g2 c3 I3 F3) H) (hD : va_D A (wX cI (D.1 99) zz g ad cn In Fn ++ wM cI cB cZ g2 c3 I3 F3)) (hS : va_S A s.heap H locs) {K N i : Nat} (hi : i + 7 ≤ L) (hKN : K + 8 ≤ 600000 ∧ N + 240 ≤ 7302250) {ls : Array Slot} (hl : lv_has ls 4 [(0, .ref b), (1, .ref (g 0)), (2, .ref (g2 100)), (3, .int (nI i))]) (kk : ∀ (ad : Nat → Nat → Nat) (cn : Nat → Nat) (In : Nat → Int32) (Fn : Nat → Nat → Int32) (c3 : Nat → Nat) (I3 : Nat → Int32) (F3 : Nat → Nat → Int32) (H : Heap) (locs : List Loc), IX ad cn Fn → IMM c3 F3 → RR cn Fn c3 F3 → va_P D vwCl (wX cI (D.1 99) zz g ad cn In Fn ++ wM cI cB cZ g2 c3 I3 F3) H → va_D A (wX cI (D.1 99) zz g ad cn In Fn ++ wM cI cB cZ g2 c3 I3 F3) → va_S A s.heap H locs → ∀ ls : Array Slot, lv_has ls 4 [(0, .ref b), (1, .ref (g 0)), (2, .ref (g2 100)), (3, .int (nI i))] → W p l e room_1 s m #[Value.ref b] below meth c H locs (K + 8) (N + 240) (lw_Z below #[Value.ref b] s) (F0 m 2269 ls [])) : W p l e room_1 s m #[Value.ref b] below meth c H locs K N (lw_Z below #[Value.ref b] s) (F0 m 1481 ls []) := by
  obtain ⟨hx, hb, hr, hml, hown, hts, hX, hbl, hlocks, hgv⟩ := id C0
  have S : SF p m c code 4 s #[Value.ref b] RL := ⟨hx, hb, hml, hown, fun w h => hts w (wT_lw h)⟩
  refine lv_aload_n hx hb (oc_43 1481 (aq_8 shL_law_1473)) rfl (lvA1 hl) ?_
  refine lv_aload_n hx hb (oc_42 1482 (aq_9 shL_law_1473)) rfl (lvA0 hl) ?_
  refine lv_iload_n hx hb (oc_29 1483 (aq_10 shL_law_1473)) rfl (lvA3 hl) ?_
  refine lv_iconst (v := 1) hx hb (oc_4 1484 (aq_11 shL_law_1473)) kic_1 ?_
  refine lv_iadd hx hb (oc_96 1485 (aq_12 shL_law_1473)) ?_
  refine lv_topi (fun y_1 ey_1 => ?_)
  obtain rfl : y_1 = nI (i + 1) := ey_1.trans (nI_add i 1)
  refine va_sld hx hb hX hbl hbA hS (vp_in_nI (by omega) (by omega)) (oc_46 1486 (aq_13 shL_law_1473)) ?_
  refine lv_topi (fun y_2 ey_2 => ?_)
  obtain rfl : y_2 = xs (nI (i + 1)).toNatClampNeg := ey_2
  have hI0 := hI
  have hFc := free_all (exD hD) hS hA
  refine va_calli (runV_xa (As := [.int (xs (nI (i + 1)).toNatClampNeg)]) (rest := []) S (q_Elorry l D cI cB cZ zz qq vv bt g ad cn In Fn (xs (nI (i + 1)).toNatClampNeg) H.size hI.1) kV_RL_165 hK hXS hS hFc (exP hP) (exD hD) 0 xo_0 rfl rfl ⟨Nat.le_of_ble_eq_true rfl, Nat.le_of_ble_eq_true rfl⟩ ⟨(by show K + 0 ≤ 600000; omega), (by show N + 0 ≤ 7302250; omega)⟩ rfl hl.1 rfl (Nat.le_of_ble_eq_true rfl) (oc_182 1487 (aq_14 shL_law_1473) uw_0_165)) hS (fun q _ h => hFc q h) hFc (fun r2 u t H1 locs ht hvm w2 hB1 hz1 hk1 hS => ?_)
  obtain ⟨c2, I2, F2⟩ := u
  obtain ⟨hP1, hD1⟩ := hB1
  rw [ht] at hP1
  obtain ⟨hP, hD⟩ := exjoinL hP hD hk1 hFc hP1 hD1
  generalize H1 = H at hP hS ⊢
  have wx2 := w2
  have hI := ix_Elorry hI w2
  refine lv_pop hx hb (oc_87 1490 (aq_17 shL_law_1473)) rfl ?_
  refine lv_aload_n hx hb (oc_44 1491 (aq_18 shL_law_1473)) rfl (lvA2 hl) ?_
  refine lv_aload_n hx hb (oc_42 1492 (aq_19 shL_law_1473)) rfl (lvA0 hl) ?_
  refine lv_iload_n hx hb (oc_29 1493 (aq_20 shL_law_1473)) rfl (lvA3 hl) ?_
  refine lv_iconst (v := 1) hx hb (oc_4 1494 (aq_21 shL_law_1473)) kic_1 ?_
  refine lv_iadd hx hb (oc_96 1495 (aq_22 shL_law_1473)) ?_
  refine lv_topi (fun y_4 ey_4 => ?_)
  obtain rfl : y_4 = nI (i + 1) := ey_4.trans (nI_add i 1)
  refine va_sld hx hb hX hbl hbA hS (vp_in_nI (by omega) (by omega)) (oc_46 1496 (aq_23 shL_law_1473)) ?_
  refine lv_topi (fun y_5 ey_5 => ?_)
  obtain rfl : y_5 = xs (nI (i + 1)).toNatClampNeg := ey_5
  have hFc := free_all (exDr hD) hS hA
  refine va_calli (runV_a (As := [.int (xs (nI (i + 1)).toNatClampNeg)]) (rest := []) S (q_lorry l D cI cB cZ g2 c3 I3 F3 (xs (nI (i + 1)).toNatClampNeg) H.size hM.1) kV_RL_168 hK (exPr hP) (exDr hD) 0 rfl rfl rfl ⟨Nat.le_of_ble_eq_true rfl, Nat.le_of_ble_eq_true rfl⟩ ⟨(by show K + 0 ≤ 600000; omega), (by show N + 0 ≤ 7302250; omega)⟩ rfl hl.1 rfl (Nat.le_of_ble_eq_true rfl) (oc_182 1497 shL_law_1497 uw_0_168)) hS (fun q _ h => hFc q h) hFc (fun r5 u t H1 locs ht hvm w5 hB1 hz1 hk1 hS => ?_)
  obtain ⟨c5, I5, F5⟩ := u
  obtain ⟨hP1, hD1⟩ := hB1
  rw [ht] at hP1
  obtain ⟨hP, hD⟩ := exjoin hP hD hk1 hFc hP1 hD1
  generalize H1 = H at hP hS ⊢
  obtain ⟨he5, hR⟩ := eq_lorry hI0 hM hR wx2 w5
  obtain ⟨hM, -, -⟩ := imm_lorry hM w5
  refine lv_pop hx hb (oc_87 1500 (aq_3 shL_law_1497)) rfl ?_
  refine lv_goto (tgt := 2269) hx hb (oc_167 1501 (aq_4 shL_law_1497) sgw_3_0) rfl ?_
  refine W.widen (k := K + 8) (n := N + 240) (by omega) (by omega) ?_
  exact kk _ _ _ _ _ _ _ _ _ hI hM hR hP hD hS ls hl
set_option maxRecDepth 100000 in
set_option maxHeartbeats 4000000 in
theorem lawc_36 {p : Program} {l : Launch} {e : Env} {s : State} {m : MethodId} {below : List Frame} {meth : Method} {c : Code} {b L : Nat} {xs : Nat → Int32} (C0 : lw_At p s m meth c b L xs) (hLN : L ≤ 3584) {A : Nat → Prop} (hA : ∀ q : Nat, s.heap.size ≤ q → A q) (hbA : ¬ A b) {D : va_G} {cI cB cZ : ClassId} {zz qq vv : Nat} {bt : Nat → Int32} {g g2 : Nat → Nat} (hK : KK D cI cB cZ s) (hXS : XS D zz qq vv bt A s s.heap) {ad : Nat → Nat → Nat} {cn : Nat → Nat} {In : Nat → Int32} {Fn : Nat → Nat → Int32} {c3 : Nat → Nat} {I3 : Nat → Int32} {F3 : Nat → Nat → Int32} (hI : IX ad cn Fn) (hM : IMM c3 F3) (hR : RR cn Fn c3 F3) {H : Heap} {locs : List Loc} (hP : va_P D vwCl (wX cI (D.1 99) zz g ad cn In Fn ++ wM cI cB cZ g2 c3 I3 F3) H) (hD : va_D A (wX cI (D.1 99) zz g ad cn In Fn ++ wM cI cB cZ g2 c3 I3 F3)) (hS : va_S A s.heap H locs) {K N i : Nat} (hi : i + 7 ≤ L) (hKN : K + 8 ≤ 600000 ∧ N + 240 ≤ 7302250) {ls : Array Slot} (hl : lv_has ls 4 [(0, .ref b), (1, .ref (g 0)), (2, .ref (g2 100)), (3, .int (nI i))]) (kk : ∀ (ad : Nat → Nat → Nat) (cn : Nat → Nat) (In : Nat → Int32) (Fn : Nat → Nat → Int32) (c3 : Nat → Nat) (I3 : Nat → Int32) (F3 : Nat → Nat → Int32) (H : Heap) (locs : List Loc), IX ad cn Fn → IMM c3 F3 → RR cn Fn c3 F3 → va_P D vwCl (wX cI (D.1 99) zz g ad cn In Fn ++ wM cI cB cZ g2 c3 I3 F3) H → va_D A (wX cI (D.1 99) zz g ad cn In Fn ++ wM cI cB cZ g2 c3 I3 F3) → va_S A s.heap H locs → ∀ ls : Array Slot, lv_has ls 4 [(0, .ref b), (1, .ref (g 0)), (2, .ref (g2 100)), (3, .int (nI i))] → W p l e room_1 s m #[Value.ref b] below meth c H locs (K + 8) (N + 240) (lw_Z below #[Value.ref b] s) (F0 m 2269 ls [])) : W p l e room_1 s m #[Value.ref b] below meth c H locs K N (lw_Z below #[Value.ref b] s) (F0 m 1504 ls []) := by
  obtain ⟨hx, hb, hr, hml, hown, hts, hX, hbl, hlocks, hgv⟩ := id C0
  have S : SF p m c code 4 s #[Value.ref b] RL := ⟨hx, hb, hml, hown, fun w h => hts w (wT_lw h)⟩
  refine lv_aload_n hx hb (oc_43 1504 (aq_7 shL_law_1497)) rfl (lvA1 hl) ?_
  refine lv_aload_n hx hb (oc_42 1505 (aq_8 shL_law_1497)) rfl (lvA0 hl) ?_
  refine lv_iload_n hx hb (oc_29 1506 (aq_9 shL_law_1497)) rfl (lvA3 hl) ?_
  refine lv_iconst (v := 1) hx hb (oc_4 1507 (aq_10 shL_law_1497)) kic_1 ?_
  refine lv_iadd hx hb (oc_96 1508 (aq_11 shL_law_1497)) ?_
  refine lv_topi (fun y_1 ey_1 => ?_)
  obtain rfl : y_1 = nI (i + 1) := ey_1.trans (nI_add i 1)
  refine va_sld hx hb hX hbl hbA hS (vp_in_nI (by omega) (by omega)) (oc_46 1509 (aq_12 shL_law_1497)) ?_
  refine lv_topi (fun y_2 ey_2 => ?_)
  obtain rfl : y_2 = xs (nI (i + 1)).toNatClampNeg := ey_2
  refine lv_aload_n hx hb (oc_42 1510 (aq_13 shL_law_1497)) rfl (lvA0 hl) ?_
  refine lv_iload_n hx hb (oc_29 1511 (aq_14 shL_law_1497)) rfl (lvA3 hl) ?_
  refine lv_iconst (v := 2) hx hb (oc_5 1512 (aq_15 shL_law_1497)) kic_2 ?_
  refine lv_iadd hx hb (oc_96 1513 (aq_16 shL_law_1497)) ?_
  refine lv_topi (fun y_3 ey_3 => ?_)
  obtain rfl : y_3 = nI (i + 2) := ey_3.trans (nI_add i 2)
  refine va_sld hx hb hX hbl hbA hS (vp_in_nI (by omega) (by omega)) (oc_46 1514 (aq_17 shL_law_1497)) ?_
  refine lv_topi (fun y_4 ey_4 => ?_)
  obtain rfl : y_4 = xs (nI (i + 2)).toNatClampNeg := ey_4
  refine lv_aload_n hx hb (oc_42 1515 (aq_18 shL_law_1497)) rfl (lvA0 hl) ?_
  refine lv_iload_n hx hb (oc_29 1516 (aq_19 shL_law_1497)) rfl (lvA3 hl) ?_
  refine lv_iconst (v := 3) hx hb (oc_6 1517 (aq_20 shL_law_1497)) kic_3 ?_
  refine lv_iadd hx hb (oc_96 1518 (aq_21 shL_law_1497)) ?_
  refine lv_topi (fun y_5 ey_5 => ?_)
  obtain rfl : y_5 = nI (i + 3) := ey_5.trans (nI_add i 3)
  refine va_sld hx hb hX hbl hbA hS (vp_in_nI (by omega) (by omega)) (oc_46 1519 (aq_22 shL_law_1497)) ?_
  refine lv_topi (fun y_6 ey_6 => ?_)
  obtain rfl : y_6 = xs (nI (i + 3)).toNatClampNeg := ey_6
  refine lv_if_eq (tgt := 1527) hx hb (oc_153 1520 (aq_23 shL_law_1497) sgw_0_7) rfl (fun c_7 => ?_) (fun c_7 => ?_)
  ·
    have tc_7 : ((xs (nI (i + 3)).toNatClampNeg).toInt : Int) = 0 := congrArg Int32.toInt c_7
    refine lv_iconst (v := 0) hx hb (oc_3 1527 (aq_4 shL_law_1523)) kic_0 ?_
    have hI0 := hI
    have hFc := free_all (exD hD) hS hA
    refine va_calli (runV_xa (As := [.int (xs (nI (i + 1)).toNatClampNeg), .int (xs (nI (i + 2)).toNatClampNeg), .int 0]) (rest := []) S (q_Eoff l D cI cB cZ zz qq vv bt g ad cn In Fn (xs (nI (i + 1)).toNatClampNeg) (xs (nI (i + 2)).toNatClampNeg) 0 H.size hI.1 (by first | exact Or.inl rfl | exact Or.inr rfl)) kV_RL_169 hK hXS hS hFc (exP hP) (exD hD) 0 xo_0 rfl rfl ⟨Nat.le_of_ble_eq_true rfl, Nat.le_of_ble_eq_true rfl⟩ ⟨(by show K + 0 ≤ 600000; omega), (by show N + 0 ≤ 7302250; omega)⟩ rfl hl.1 rfl (Nat.le_of_ble_eq_true rfl) (oc_182 1528 (aq_5 shL_law_1523) uw_0_169)) hS (fun q _ h => hFc q h) hFc (fun r7 u t H1 locs ht hvm w7 hB1 hz1 hk1 hS => ?_)
    obtain ⟨c7, I7, F7⟩ := u
    obtain ⟨hP1, hD1⟩ := hB1
    rw [ht] at hP1
    obtain ⟨hP, hD⟩ := exjoinL hP hD hk1 hFc hP1 hD1
    generalize H1 = H at hP hS ⊢
    have wx7 := w7
    have hI := ix_Eoff hI w7
    refine lv_pop hx hb (oc_87 1531 (aq_8 shL_law_1523)) rfl ?_
    refine lv_aload_n hx hb (oc_44 1532 (aq_9 shL_law_1523)) rfl (lvA2 hl) ?_
    refine lv_aload_n hx hb (oc_42 1533 (aq_10 shL_law_1523)) rfl (lvA0 hl) ?_
    refine lv_iload_n hx hb (oc_29 1534 (aq_11 shL_law_1523)) rfl (lvA3 hl) ?_
    refine lv_iconst (v := 1) hx hb (oc_4 1535 (aq_12 shL_law_1523)) kic_1 ?_
    refine lv_iadd hx hb (oc_96 1536 (aq_13 shL_law_1523)) ?_
    refine lv_topi (fun y_9 ey_9 => ?_)
    obtain rfl : y_9 = nI (i + 1) := ey_9.trans (nI_add i 1)
    refine va_sld hx hb hX hbl hbA hS (vp_in_nI (by omega) (by omega)) (oc_46 1537 (aq_14 shL_law_1523)) ?_
    refine lv_topi (fun y_10 ey_10 => ?_)
    obtain rfl : y_10 = xs (nI (i + 1)).toNatClampNeg := ey_10
    refine lv_aload_n hx hb (oc_42 1538 (aq_15 shL_law_1523)) rfl (lvA0 hl) ?_
    refine lv_iload_n hx hb (oc_29 1539 (aq_16 shL_law_1523)) rfl (lvA3 hl) ?_
    refine lv_iconst (v := 2) hx hb (oc_5 1540 (aq_17 shL_law_1523)) kic_2 ?_
    refine lv_iadd hx hb (oc_96 1541 (aq_18 shL_law_1523)) ?_
    refine lv_topi (fun y_11 ey_11 => ?_)
    obtain rfl : y_11 = nI (i + 2) := ey_11.trans (nI_add i 2)
    refine va_sld hx hb hX hbl hbA hS (vp_in_nI (by omega) (by omega)) (oc_46 1542 (aq_19 shL_law_1523)) ?_
    refine lv_topi (fun y_12 ey_12 => ?_)
    obtain rfl : y_12 = xs (nI (i + 2)).toNatClampNeg := ey_12
    refine lv_aload_n hx hb (oc_42 1543 (aq_20 shL_law_1523)) rfl (lvA0 hl) ?_
    refine lv_iload_n hx hb (oc_29 1544 (aq_21 shL_law_1523)) rfl (lvA3 hl) ?_
    refine lv_iconst (v := 3) hx hb (oc_6 1545 (aq_22 shL_law_1523)) kic_3 ?_
    refine lv_iadd hx hb (oc_96 1546 (aq_23 shL_law_1523)) ?_
    refine lv_topi (fun y_13 ey_13 => ?_)
    obtain rfl : y_13 = nI (i + 3) := ey_13.trans (nI_add i 3)
    refine va_sld hx hb hX hbl hbA hS (vp_in_nI (by omega) (by omega)) (oc_46 1547 shL_law_1547) ?_
    refine lv_topi (fun y_14 ey_14 => ?_)
    obtain rfl : y_14 = xs (nI (i + 3)).toNatClampNeg := ey_14
    refine lv_if_eq (tgt := 1555) hx hb (oc_153 1548 (aq_1 shL_law_1547) sgw_0_7) rfl (fun c_15 => ?_) (fun c_15 => False.elim (by have tc_15 : ((xs (nI (i + 3)).toNatClampNeg).toInt : Int) ≠ 0 := fun q => c_15 (Int32.toInt_inj.mp q); omega))
    have tc_15 : ((xs (nI (i + 3)).toNatClampNeg).toInt : Int) = 0 := congrArg Int32.toInt c_15
    refine lv_iconst (v := 0) hx hb (oc_3 1555 (aq_8 shL_law_1547)) kic_0 ?_
    have hFc := free_all (exDr hD) hS hA
    refine va_calli (runV_a (As := [.int (xs (nI (i + 1)).toNatClampNeg), .int (xs (nI (i + 2)).toNatClampNeg), .int 0]) (rest := []) S (q_off l D cI cB cZ g2 c3 I3 F3 (xs (nI (i + 1)).toNatClampNeg) (xs (nI (i + 2)).toNatClampNeg) 0 H.size hM.1) kV_RL_173 hK (exPr hP) (exDr hD) 0 rfl rfl rfl ⟨Nat.le_of_ble_eq_true rfl, Nat.le_of_ble_eq_true rfl⟩ ⟨(by show K + 0 ≤ 600000; omega), (by show N + 0 ≤ 7302250; omega)⟩ rfl hl.1 rfl (Nat.le_of_ble_eq_true rfl) (oc_182 1556 (aq_9 shL_law_1547) uw_0_173)) hS (fun q _ h => hFc q h) hFc (fun r15 u t H1 locs ht hvm w15 hB1 hz1 hk1 hS => ?_)
    obtain ⟨c15, I15, F15⟩ := u
    obtain ⟨hP1, hD1⟩ := hB1
    rw [ht] at hP1
    obtain ⟨hP, hD⟩ := exjoin hP hD hk1 hFc hP1 hD1
    generalize H1 = H at hP hS ⊢
    obtain ⟨he15, hR⟩ := eq_off (by first | exact Or.inl rfl | exact Or.inr rfl) hI0 hM hR wx7 w15
    obtain ⟨hM, -, -⟩ := imm_off hM w15
    refine lv_pop hx hb (oc_87 1559 (aq_12 shL_law_1547)) rfl ?_
    refine lv_goto (tgt := 2269) hx hb (oc_167 1560 (aq_13 shL_law_1547) sgw_2_197) rfl ?_
    refine W.widen (k := K + 8) (n := N + 240) (by omega) (by omega) ?_
    exact kk _ _ _ _ _ _ _ _ _ hI hM hR hP hD hS ls hl
  ·
    have tc_7 : ((xs (nI (i + 3)).toNatClampNeg).toInt : Int) ≠ 0 := fun q => c_7 (Int32.toInt_inj.mp q)
    refine lv_iconst (v := 1) hx hb (oc_4 1523 shL_law_1523) kic_1 ?_
    refine lv_goto (tgt := 1528) hx hb (oc_167 1524 (aq_1 shL_law_1523) sgw_0_4) rfl ?_
    have hI0 := hI
    have hFc := free_all (exD hD) hS hA
    refine va_calli (runV_xa (As := [.int (xs (nI (i + 1)).toNatClampNeg), .int (xs (nI (i + 2)).toNatClampNeg), .int 1]) (rest := []) S (q_Eoff l D cI cB cZ zz qq vv bt g ad cn In Fn (xs (nI (i + 1)).toNatClampNeg) (xs (nI (i + 2)).toNatClampNeg) 1 H.size hI.1 (by first | exact Or.inl rfl | exact Or.inr rfl)) kV_RL_169 hK hXS hS hFc (exP hP) (exD hD) 0 xo_0 rfl rfl ⟨Nat.le_of_ble_eq_true rfl, Nat.le_of_ble_eq_true rfl⟩ ⟨(by show K + 0 ≤ 600000; omega), (by show N + 0 ≤ 7302250; omega)⟩ rfl hl.1 rfl (Nat.le_of_ble_eq_true rfl) (oc_182 1528 (aq_5 shL_law_1523) uw_0_169)) hS (fun q _ h => hFc q h) hFc (fun r16 u t H1 locs ht hvm w16 hB1 hz1 hk1 hS => ?_)
    obtain ⟨c16, I16, F16⟩ := u
    obtain ⟨hP1, hD1⟩ := hB1
    rw [ht] at hP1
    obtain ⟨hP, hD⟩ := exjoinL hP hD hk1 hFc hP1 hD1
    generalize H1 = H at hP hS ⊢
    have wx16 := w16
    have hI := ix_Eoff hI w16
    refine lv_pop hx hb (oc_87 1531 (aq_8 shL_law_1523)) rfl ?_
    refine lv_aload_n hx hb (oc_44 1532 (aq_9 shL_law_1523)) rfl (lvA2 hl) ?_
    refine lv_aload_n hx hb (oc_42 1533 (aq_10 shL_law_1523)) rfl (lvA0 hl) ?_
    refine lv_iload_n hx hb (oc_29 1534 (aq_11 shL_law_1523)) rfl (lvA3 hl) ?_
    refine lv_iconst (v := 1) hx hb (oc_4 1535 (aq_12 shL_law_1523)) kic_1 ?_
    refine lv_iadd hx hb (oc_96 1536 (aq_13 shL_law_1523)) ?_
    refine lv_topi (fun y_18 ey_18 => ?_)
    obtain rfl : y_18 = nI (i + 1) := ey_18.trans (nI_add i 1)
    refine va_sld hx hb hX hbl hbA hS (vp_in_nI (by omega) (by omega)) (oc_46 1537 (aq_14 shL_law_1523)) ?_
    refine lv_topi (fun y_19 ey_19 => ?_)
    obtain rfl : y_19 = xs (nI (i + 1)).toNatClampNeg := ey_19
    refine lv_aload_n hx hb (oc_42 1538 (aq_15 shL_law_1523)) rfl (lvA0 hl) ?_
    refine lv_iload_n hx hb (oc_29 1539 (aq_16 shL_law_1523)) rfl (lvA3 hl) ?_
    refine lv_iconst (v := 2) hx hb (oc_5 1540 (aq_17 shL_law_1523)) kic_2 ?_
    refine lv_iadd hx hb (oc_96 1541 (aq_18 shL_law_1523)) ?_
    refine lv_topi (fun y_20 ey_20 => ?_)
    obtain rfl : y_20 = nI (i + 2) := ey_20.trans (nI_add i 2)
    refine va_sld hx hb hX hbl hbA hS (vp_in_nI (by omega) (by omega)) (oc_46 1542 (aq_19 shL_law_1523)) ?_
    refine lv_topi (fun y_21 ey_21 => ?_)
    obtain rfl : y_21 = xs (nI (i + 2)).toNatClampNeg := ey_21
    refine lv_aload_n hx hb (oc_42 1543 (aq_20 shL_law_1523)) rfl (lvA0 hl) ?_
    refine lv_iload_n hx hb (oc_29 1544 (aq_21 shL_law_1523)) rfl (lvA3 hl) ?_
    refine lv_iconst (v := 3) hx hb (oc_6 1545 (aq_22 shL_law_1523)) kic_3 ?_
    refine lv_iadd hx hb (oc_96 1546 (aq_23 shL_law_1523)) ?_
    refine lv_topi (fun y_22 ey_22 => ?_)
    obtain rfl : y_22 = nI (i + 3) := ey_22.trans (nI_add i 3)
    refine va_sld hx hb hX hbl hbA hS (vp_in_nI (by omega) (by omega)) (oc_46 1547 shL_law_1547) ?_
    refine lv_topi (fun y_23 ey_23 => ?_)
    obtain rfl : y_23 = xs (nI (i + 3)).toNatClampNeg := ey_23
    refine lv_if_eq (tgt := 1555) hx hb (oc_153 1548 (aq_1 shL_law_1547) sgw_0_7) rfl (fun c_24 => False.elim (by have tc_24 : ((xs (nI (i + 3)).toNatClampNeg).toInt : Int) = 0 := congrArg Int32.toInt c_24; omega)) (fun c_24 => ?_)
    have tc_24 : ((xs (nI (i + 3)).toNatClampNeg).toInt : Int) ≠ 0 := fun q => c_24 (Int32.toInt_inj.mp q)
    refine lv_iconst (v := 1) hx hb (oc_4 1551 (aq_4 shL_law_1547)) kic_1 ?_
    refine lv_goto (tgt := 1556) hx hb (oc_167 1552 (aq_5 shL_law_1547) sgw_0_4) rfl ?_
    have hFc := free_all (exDr hD) hS hA
    refine va_calli (runV_a (As := [.int (xs (nI (i + 1)).toNatClampNeg), .int (xs (nI (i + 2)).toNatClampNeg), .int 1]) (rest := []) S (q_off l D cI cB cZ g2 c3 I3 F3 (xs (nI (i + 1)).toNatClampNeg) (xs (nI (i + 2)).toNatClampNeg) 1 H.size hM.1) kV_RL_173 hK (exPr hP) (exDr hD) 0 rfl rfl rfl ⟨Nat.le_of_ble_eq_true rfl, Nat.le_of_ble_eq_true rfl⟩ ⟨(by show K + 0 ≤ 600000; omega), (by show N + 0 ≤ 7302250; omega)⟩ rfl hl.1 rfl (Nat.le_of_ble_eq_true rfl) (oc_182 1556 (aq_9 shL_law_1547) uw_0_173)) hS (fun q _ h => hFc q h) hFc (fun r24 u t H1 locs ht hvm w24 hB1 hz1 hk1 hS => ?_)
    obtain ⟨c24, I24, F24⟩ := u
    obtain ⟨hP1, hD1⟩ := hB1
    rw [ht] at hP1
    obtain ⟨hP, hD⟩ := exjoin hP hD hk1 hFc hP1 hD1
    generalize H1 = H at hP hS ⊢
    obtain ⟨he24, hR⟩ := eq_off (by first | exact Or.inl rfl | exact Or.inr rfl) hI0 hM hR wx16 w24
    obtain ⟨hM, -, -⟩ := imm_off hM w24
    refine lv_pop hx hb (oc_87 1559 (aq_12 shL_law_1547)) rfl ?_
    refine lv_goto (tgt := 2269) hx hb (oc_167 1560 (aq_13 shL_law_1547) sgw_2_197) rfl ?_
    refine W.widen (k := K + 8) (n := N + 240) (by omega) (by omega) ?_
    exact kk _ _ _ _ _ _ _ _ _ hI hM hR hP hD hS ls hl
set_option maxRecDepth 100000 in
set_option maxHeartbeats 4000000 in
theorem lawc_37 {p : Program} {l : Launch} {e : Env} {s : State} {m : MethodId} {below : List Frame} {meth : Method} {c : Code} {b L : Nat} {xs : Nat → Int32} (C0 : lw_At p s m meth c b L xs) (hLN : L ≤ 3584) {A : Nat → Prop} (hA : ∀ q : Nat, s.heap.size ≤ q → A q) (hbA : ¬ A b) {D : va_G} {cI cB cZ : ClassId} {zz qq vv : Nat} {bt : Nat → Int32} {g g2 : Nat → Nat} (hK : KK D cI cB cZ s) (hXS : XS D zz qq vv bt A s s.heap) {ad : Nat → Nat → Nat} {cn : Nat → Nat} {In : Nat → Int32} {Fn : Nat → Nat → Int32} {c3 : Nat → Nat} {I3 : Nat → Int32} {F3 : Nat → Nat → Int32} (hI : IX ad cn Fn) (hM : IMM c3 F3) (hR : RR cn Fn c3 F3) {H : Heap} {locs : List Loc} (hP : va_P D vwCl (wX cI (D.1 99) zz g ad cn In Fn ++ wM cI cB cZ g2 c3 I3 F3) H) (hD : va_D A (wX cI (D.1 99) zz g ad cn In Fn ++ wM cI cB cZ g2 c3 I3 F3)) (hS : va_S A s.heap H locs) {K N i : Nat} (hi : i + 7 ≤ L) (hKN : K + 8 ≤ 600000 ∧ N + 240 ≤ 7302250) {ls : Array Slot} (hl : lv_has ls 4 [(0, .ref b), (1, .ref (g 0)), (2, .ref (g2 100)), (3, .int (nI i))]) (kk : ∀ (ad : Nat → Nat → Nat) (cn : Nat → Nat) (In : Nat → Int32) (Fn : Nat → Nat → Int32) (c3 : Nat → Nat) (I3 : Nat → Int32) (F3 : Nat → Nat → Int32) (H : Heap) (locs : List Loc), IX ad cn Fn → IMM c3 F3 → RR cn Fn c3 F3 → va_P D vwCl (wX cI (D.1 99) zz g ad cn In Fn ++ wM cI cB cZ g2 c3 I3 F3) H → va_D A (wX cI (D.1 99) zz g ad cn In Fn ++ wM cI cB cZ g2 c3 I3 F3) → va_S A s.heap H locs → ∀ ls : Array Slot, lv_has ls 4 [(0, .ref b), (1, .ref (g 0)), (2, .ref (g2 100)), (3, .int (nI i))] → W p l e room_1 s m #[Value.ref b] below meth c H locs (K + 8) (N + 240) (lw_Z below #[Value.ref b] s) (F0 m 2269 ls [])) : W p l e room_1 s m #[Value.ref b] below meth c H locs K N (lw_Z below #[Value.ref b] s) (F0 m 1563 ls []) := by
  obtain ⟨hx, hb, hr, hml, hown, hts, hX, hbl, hlocks, hgv⟩ := id C0
  have S : SF p m c code 4 s #[Value.ref b] RL := ⟨hx, hb, hml, hown, fun w h => hts w (wT_lw h)⟩
  refine lv_aload_n hx hb (oc_43 1563 (aq_16 shL_law_1547)) rfl (lvA1 hl) ?_
  refine lv_aload_n hx hb (oc_42 1564 (aq_17 shL_law_1547)) rfl (lvA0 hl) ?_
  refine lv_iload_n hx hb (oc_29 1565 (aq_18 shL_law_1547)) rfl (lvA3 hl) ?_
  refine lv_iconst (v := 1) hx hb (oc_4 1566 (aq_19 shL_law_1547)) kic_1 ?_
  refine lv_iadd hx hb (oc_96 1567 (aq_20 shL_law_1547)) ?_
  refine lv_topi (fun y_1 ey_1 => ?_)
  obtain rfl : y_1 = nI (i + 1) := ey_1.trans (nI_add i 1)
  refine va_sld hx hb hX hbl hbA hS (vp_in_nI (by omega) (by omega)) (oc_46 1568 (aq_21 shL_law_1547)) ?_
  refine lv_topi (fun y_2 ey_2 => ?_)
  obtain rfl : y_2 = xs (nI (i + 1)).toNatClampNeg := ey_2
  refine lv_aload_n hx hb (oc_42 1569 (aq_22 shL_law_1547)) rfl (lvA0 hl) ?_
  refine lv_iload_n hx hb (oc_29 1570 (aq_23 shL_law_1547)) rfl (lvA3 hl) ?_
  refine lv_iconst (v := 2) hx hb (oc_5 1571 shL_law_1571) kic_2 ?_
  refine lv_iadd hx hb (oc_96 1572 (aq_1 shL_law_1571)) ?_
  refine lv_topi (fun y_3 ey_3 => ?_)
  obtain rfl : y_3 = nI (i + 2) := ey_3.trans (nI_add i 2)
  refine va_sld hx hb hX hbl hbA hS (vp_in_nI (by omega) (by omega)) (oc_46 1573 (aq_2 shL_law_1571)) ?_
  refine lv_topi (fun y_4 ey_4 => ?_)
  obtain rfl : y_4 = xs (nI (i + 2)).toNatClampNeg := ey_4
  refine lv_aload_n hx hb (oc_42 1574 (aq_3 shL_law_1571)) rfl (lvA0 hl) ?_
  refine lv_iload_n hx hb (oc_29 1575 (aq_4 shL_law_1571)) rfl (lvA3 hl) ?_
  refine lv_iconst (v := 3) hx hb (oc_6 1576 (aq_5 shL_law_1571)) kic_3 ?_
  refine lv_iadd hx hb (oc_96 1577 (aq_6 shL_law_1571)) ?_
  refine lv_topi (fun y_5 ey_5 => ?_)
  obtain rfl : y_5 = nI (i + 3) := ey_5.trans (nI_add i 3)
  refine va_sld hx hb hX hbl hbA hS (vp_in_nI (by omega) (by omega)) (oc_46 1578 (aq_7 shL_law_1571)) ?_
  refine lv_topi (fun y_6 ey_6 => ?_)
  obtain rfl : y_6 = xs (nI (i + 3)).toNatClampNeg := ey_6
  have hI0 := hI
  have hFc := free_all (exD hD) hS hA
  refine va_calli (runV_xa (As := [.int (xs (nI (i + 1)).toNatClampNeg), .int (xs (nI (i + 2)).toNatClampNeg), .int (xs (nI (i + 3)).toNatClampNeg)]) (rest := []) S (q_Eshared l D cI cB cZ zz qq vv bt g ad cn In Fn (xs (nI (i + 1)).toNatClampNeg) (xs (nI (i + 2)).toNatClampNeg) (xs (nI (i + 3)).toNatClampNeg) H.size hI.1 (fun k hk => ⟨by rw [hR.2.2.2.1 k hk]; exact hR.2.2.2.2.2.2.2.2.2.1 k (by rw [← hR.2.1]; exact hk), by rw [hR.2.2.2.2.1 k hk]; exact hR.2.2.2.2.2.2.2.2.2.2.1 k (by rw [← hR.2.1]; exact hk)⟩)) kV_RL_174 hK hXS hS hFc (exP hP) (exD hD) 0 xo_0 rfl rfl ⟨Nat.le_of_ble_eq_true rfl, Nat.le_of_ble_eq_true rfl⟩ ⟨(by show K + 0 ≤ 600000; omega), (by show N + 0 ≤ 7302250; omega)⟩ rfl hl.1 rfl (Nat.le_of_ble_eq_true rfl) (oc_182 1579 (aq_8 shL_law_1571) uw_0_174)) hS (fun q _ h => hFc q h) hFc (fun r6 u t H1 locs ht hvm w6 hB1 hz1 hk1 hS => ?_)
  obtain ⟨c6, I6, F6⟩ := u
  obtain ⟨hP1, hD1⟩ := hB1
  rw [ht] at hP1
  obtain ⟨hP, hD⟩ := exjoinL hP hD hk1 hFc hP1 hD1
  generalize H1 = H at hP hS ⊢
  have wx6 := w6
  have hI := ix_Eshared hI w6
  refine lv_aload_n hx hb (oc_44 1582 (aq_11 shL_law_1571)) rfl (lvA2 hl) ?_
  refine lv_aload_n hx hb (oc_42 1583 (aq_12 shL_law_1571)) rfl (lvA0 hl) ?_
  refine lv_iload_n hx hb (oc_29 1584 (aq_13 shL_law_1571)) rfl (lvA3 hl) ?_
  refine lv_iconst (v := 1) hx hb (oc_4 1585 (aq_14 shL_law_1571)) kic_1 ?_
  refine lv_iadd hx hb (oc_96 1586 (aq_15 shL_law_1571)) ?_
  refine lv_topi (fun y_8 ey_8 => ?_)
  obtain rfl : y_8 = nI (i + 1) := ey_8.trans (nI_add i 1)
  refine va_sld hx hb hX hbl hbA hS (vp_in_nI (by omega) (by omega)) (oc_46 1587 (aq_16 shL_law_1571)) ?_
  refine lv_topi (fun y_9 ey_9 => ?_)
  obtain rfl : y_9 = xs (nI (i + 1)).toNatClampNeg := ey_9
  refine lv_aload_n hx hb (oc_42 1588 (aq_17 shL_law_1571)) rfl (lvA0 hl) ?_
  refine lv_iload_n hx hb (oc_29 1589 (aq_18 shL_law_1571)) rfl (lvA3 hl) ?_
  refine lv_iconst (v := 2) hx hb (oc_5 1590 (aq_19 shL_law_1571)) kic_2 ?_
  refine lv_iadd hx hb (oc_96 1591 (aq_20 shL_law_1571)) ?_
  refine lv_topi (fun y_10 ey_10 => ?_)
  obtain rfl : y_10 = nI (i + 2) := ey_10.trans (nI_add i 2)
  refine va_sld hx hb hX hbl hbA hS (vp_in_nI (by omega) (by omega)) (oc_46 1592 (aq_21 shL_law_1571)) ?_
  refine lv_topi (fun y_11 ey_11 => ?_)
  obtain rfl : y_11 = xs (nI (i + 2)).toNatClampNeg := ey_11
  refine lv_aload_n hx hb (oc_42 1593 (aq_22 shL_law_1571)) rfl (lvA0 hl) ?_
  refine lv_iload_n hx hb (oc_29 1594 (aq_23 shL_law_1571)) rfl (lvA3 hl) ?_
  refine lv_iconst (v := 3) hx hb (oc_6 1595 shL_law_1595) kic_3 ?_
  refine lv_iadd hx hb (oc_96 1596 (aq_1 shL_law_1595)) ?_
  refine lv_topi (fun y_12 ey_12 => ?_)
  obtain rfl : y_12 = nI (i + 3) := ey_12.trans (nI_add i 3)
  refine va_sld hx hb hX hbl hbA hS (vp_in_nI (by omega) (by omega)) (oc_46 1597 (aq_2 shL_law_1595)) ?_
  refine lv_topi (fun y_13 ey_13 => ?_)
  obtain rfl : y_13 = xs (nI (i + 3)).toNatClampNeg := ey_13
  have hFc := free_all (exDr hD) hS hA
  refine va_calli (runV_a (As := [.int (xs (nI (i + 1)).toNatClampNeg), .int (xs (nI (i + 2)).toNatClampNeg), .int (xs (nI (i + 3)).toNatClampNeg)]) (rest := [.int r6]) S (q_shared9 l D cI cB cZ g2 c3 I3 F3 (xs (nI (i + 1)).toNatClampNeg) (xs (nI (i + 2)).toNatClampNeg) (xs (nI (i + 3)).toNatClampNeg) H.size hM.1 (fun k hk => ⟨hR.2.2.2.2.2.2.2.2.2.1 k hk, hR.2.2.2.2.2.2.2.2.2.2.1 k hk⟩) hR.2.2.2.2.2.2.2.2.2.2.2.2.2.1) kV_RL_177 hK (exPr hP) (exDr hD) 0 rfl rfl rfl ⟨Nat.le_of_ble_eq_true rfl, Nat.le_of_ble_eq_true rfl⟩ ⟨(by show K + 0 ≤ 600000; omega), (by show N + 0 ≤ 7302250; omega)⟩ rfl hl.1 rfl (Nat.le_of_ble_eq_true rfl) (oc_182 1598 (aq_3 shL_law_1595) uw_0_177)) hS (fun q _ h => hFc q h) hFc (fun r13 u t H1 locs ht hvm w13 hB1 hz1 hk1 hS => ?_)
  obtain ⟨c13, I13, F13⟩ := u
  obtain ⟨hP1, hD1⟩ := hB1
  rw [ht] at hP1
  obtain ⟨hP, hD⟩ := exjoin hP hD hk1 hFc hP1 hD1
  generalize H1 = H at hP hS ⊢
  obtain ⟨he13, hR⟩ := eq_shared hI0 hM hR wx6 w13
  obtain ⟨hM, -, -⟩ := imm_shared9 hM w13
  refine lv_icmp_eq (tgt := 2269) hx hb (oc_159 1601 (aq_6 shL_law_1595) sgw_2_156) rfl (fun _ => ?_) (fun q => absurd he13 q)
  refine W.widen (k := K + 8) (n := N + 240) (by omega) (by omega) ?_
  exact kk _ _ _ _ _ _ _ _ _ hI hM hR hP hD hS ls hl
set_option maxRecDepth 100000 in
set_option maxHeartbeats 4000000 in
theorem lawc_38 {p : Program} {l : Launch} {e : Env} {s : State} {m : MethodId} {below : List Frame} {meth : Method} {c : Code} {b L : Nat} {xs : Nat → Int32} (C0 : lw_At p s m meth c b L xs) (hLN : L ≤ 3584) {A : Nat → Prop} (hA : ∀ q : Nat, s.heap.size ≤ q → A q) (hbA : ¬ A b) {D : va_G} {cI cB cZ : ClassId} {zz qq vv : Nat} {bt : Nat → Int32} {g g2 : Nat → Nat} (hK : KK D cI cB cZ s) (hXS : XS D zz qq vv bt A s s.heap) {ad : Nat → Nat → Nat} {cn : Nat → Nat} {In : Nat → Int32} {Fn : Nat → Nat → Int32} {c3 : Nat → Nat} {I3 : Nat → Int32} {F3 : Nat → Nat → Int32} (hI : IX ad cn Fn) (hM : IMM c3 F3) (hR : RR cn Fn c3 F3) {H : Heap} {locs : List Loc} (hP : va_P D vwCl (wX cI (D.1 99) zz g ad cn In Fn ++ wM cI cB cZ g2 c3 I3 F3) H) (hD : va_D A (wX cI (D.1 99) zz g ad cn In Fn ++ wM cI cB cZ g2 c3 I3 F3)) (hS : va_S A s.heap H locs) {K N i : Nat} (hi : i + 7 ≤ L) (hKN : K + 8 ≤ 600000 ∧ N + 240 ≤ 7302250) {ls : Array Slot} (hl : lv_has ls 4 [(0, .ref b), (1, .ref (g 0)), (2, .ref (g2 100)), (3, .int (nI i))]) (kk : ∀ (ad : Nat → Nat → Nat) (cn : Nat → Nat) (In : Nat → Int32) (Fn : Nat → Nat → Int32) (c3 : Nat → Nat) (I3 : Nat → Int32) (F3 : Nat → Nat → Int32) (H : Heap) (locs : List Loc), IX ad cn Fn → IMM c3 F3 → RR cn Fn c3 F3 → va_P D vwCl (wX cI (D.1 99) zz g ad cn In Fn ++ wM cI cB cZ g2 c3 I3 F3) H → va_D A (wX cI (D.1 99) zz g ad cn In Fn ++ wM cI cB cZ g2 c3 I3 F3) → va_S A s.heap H locs → ∀ ls : Array Slot, lv_has ls 4 [(0, .ref b), (1, .ref (g 0)), (2, .ref (g2 100)), (3, .int (nI i))] → W p l e room_1 s m #[Value.ref b] below meth c H locs (K + 8) (N + 240) (lw_Z below #[Value.ref b] s) (F0 m 2269 ls [])) : W p l e room_1 s m #[Value.ref b] below meth c H locs K N (lw_Z below #[Value.ref b] s) (F0 m 1606 ls []) := by
  obtain ⟨hx, hb, hr, hml, hown, hts, hX, hbl, hlocks, hgv⟩ := id C0
  have S : SF p m c code 4 s #[Value.ref b] RL := ⟨hx, hb, hml, hown, fun w h => hts w (wT_lw h)⟩
  refine lv_aload_n hx hb (oc_43 1606 (aq_11 shL_law_1595)) rfl (lvA1 hl) ?_
  refine lv_aload_n hx hb (oc_42 1607 (aq_12 shL_law_1595)) rfl (lvA0 hl) ?_
  refine lv_iload_n hx hb (oc_29 1608 (aq_13 shL_law_1595)) rfl (lvA3 hl) ?_
  refine lv_iconst (v := 1) hx hb (oc_4 1609 (aq_14 shL_law_1595)) kic_1 ?_
  refine lv_iadd hx hb (oc_96 1610 (aq_15 shL_law_1595)) ?_
  refine lv_topi (fun y_1 ey_1 => ?_)
  obtain rfl : y_1 = nI (i + 1) := ey_1.trans (nI_add i 1)
  refine va_sld hx hb hX hbl hbA hS (vp_in_nI (by omega) (by omega)) (oc_46 1611 (aq_16 shL_law_1595)) ?_
  refine lv_topi (fun y_2 ey_2 => ?_)
  obtain rfl : y_2 = xs (nI (i + 1)).toNatClampNeg := ey_2
  refine lv_aload_n hx hb (oc_42 1612 (aq_17 shL_law_1595)) rfl (lvA0 hl) ?_
  refine lv_iload_n hx hb (oc_29 1613 (aq_18 shL_law_1595)) rfl (lvA3 hl) ?_
  refine lv_iconst (v := 2) hx hb (oc_5 1614 (aq_19 shL_law_1595)) kic_2 ?_
  refine lv_iadd hx hb (oc_96 1615 (aq_20 shL_law_1595)) ?_
  refine lv_topi (fun y_3 ey_3 => ?_)
  obtain rfl : y_3 = nI (i + 2) := ey_3.trans (nI_add i 2)
  refine va_sld hx hb hX hbl hbA hS (vp_in_nI (by omega) (by omega)) (oc_46 1616 (aq_21 shL_law_1595)) ?_
  refine lv_topi (fun y_4 ey_4 => ?_)
  obtain rfl : y_4 = xs (nI (i + 2)).toNatClampNeg := ey_4
  refine lv_aload_n hx hb (oc_42 1617 (aq_22 shL_law_1595)) rfl (lvA0 hl) ?_
  refine lv_iload_n hx hb (oc_29 1618 (aq_23 shL_law_1595)) rfl (lvA3 hl) ?_
  refine lv_iconst (v := 3) hx hb (oc_6 1619 shL_law_1619) kic_3 ?_
  refine lv_iadd hx hb (oc_96 1620 (aq_1 shL_law_1619)) ?_
  refine lv_topi (fun y_5 ey_5 => ?_)
  obtain rfl : y_5 = nI (i + 3) := ey_5.trans (nI_add i 3)
  refine va_sld hx hb hX hbl hbA hS (vp_in_nI (by omega) (by omega)) (oc_46 1621 (aq_2 shL_law_1619)) ?_
  refine lv_topi (fun y_6 ey_6 => ?_)
  obtain rfl : y_6 = xs (nI (i + 3)).toNatClampNeg := ey_6
  refine lv_aload_n hx hb (oc_42 1622 (aq_3 shL_law_1619)) rfl (lvA0 hl) ?_
  refine lv_iload_n hx hb (oc_29 1623 (aq_4 shL_law_1619)) rfl (lvA3 hl) ?_
  refine lv_iconst (v := 4) hx hb (oc_7 1624 (aq_5 shL_law_1619)) kic_4 ?_
  refine lv_iadd hx hb (oc_96 1625 (aq_6 shL_law_1619)) ?_
  refine lv_topi (fun y_7 ey_7 => ?_)
  obtain rfl : y_7 = nI (i + 4) := ey_7.trans (nI_add i 4)
  refine va_sld hx hb hX hbl hbA hS (vp_in_nI (by omega) (by omega)) (oc_46 1626 (aq_7 shL_law_1619)) ?_
  refine lv_topi (fun y_8 ey_8 => ?_)
  obtain rfl : y_8 = xs (nI (i + 4)).toNatClampNeg := ey_8
  have hFc := free_all (exD hD) hS hA
  refine va_calli (runV_xa (As := [.int (xs (nI (i + 1)).toNatClampNeg), .int (xs (nI (i + 2)).toNatClampNeg), .int (xs (nI (i + 3)).toNatClampNeg), .int (xs (nI (i + 4)).toNatClampNeg)]) (rest := []) S (q_Xnights l D cI cB cZ zz qq vv bt g ad cn In Fn (xs (nI (i + 1)).toNatClampNeg) (xs (nI (i + 2)).toNatClampNeg) (xs (nI (i + 3)).toNatClampNeg) (xs (nI (i + 4)).toNatClampNeg) H.size hI.1) kV_RL_178 hK hXS hS hFc (exP hP) (exD hD) 0 xo_0 rfl rfl ⟨Nat.le_of_ble_eq_true rfl, Nat.le_of_ble_eq_true rfl⟩ ⟨(by show K + 0 ≤ 600000; omega), (by show N + 0 ≤ 7302250; omega)⟩ rfl hl.1 rfl (Nat.le_of_ble_eq_true rfl) (oc_182 1627 (aq_8 shL_law_1619) uw_0_178)) hS (fun q _ h => hFc q h) hFc (fun r8 u t H1 locs ht hvm w8 hB1 hz1 hk1 hS => ?_)
  obtain ⟨c8, I8, F8⟩ := u
  obtain ⟨hP1, hD1⟩ := hB1
  rw [ht] at hP1
  obtain ⟨hP, hD⟩ := exjoinL hP hD hk1 hFc hP1 hD1
  generalize H1 = H at hP hS ⊢
  have hd8 := w8.1.1
  have hf8 := w8.1.2.2
  have hI := IX.fr hI w8.1 w8.2.1 (by decide) (by decide)
  have hR := RR.fx hR hd8 hf8 (by decide) (by decide)
  refine lv_pop hx hb (oc_87 1630 (aq_11 shL_law_1619)) rfl ?_
  refine lv_aload_n hx hb (oc_44 1631 (aq_12 shL_law_1619)) rfl (lvA2 hl) ?_
  refine lv_aload_n hx hb (oc_42 1632 (aq_13 shL_law_1619)) rfl (lvA0 hl) ?_
  refine lv_iload_n hx hb (oc_29 1633 (aq_14 shL_law_1619)) rfl (lvA3 hl) ?_
  refine lv_iconst (v := 1) hx hb (oc_4 1634 (aq_15 shL_law_1619)) kic_1 ?_
  refine lv_iadd hx hb (oc_96 1635 (aq_16 shL_law_1619)) ?_
  refine lv_topi (fun y_10 ey_10 => ?_)
  obtain rfl : y_10 = nI (i + 1) := ey_10.trans (nI_add i 1)
  refine va_sld hx hb hX hbl hbA hS (vp_in_nI (by omega) (by omega)) (oc_46 1636 (aq_17 shL_law_1619)) ?_
  refine lv_topi (fun y_11 ey_11 => ?_)
  obtain rfl : y_11 = xs (nI (i + 1)).toNatClampNeg := ey_11
  refine lv_aload_n hx hb (oc_42 1637 (aq_18 shL_law_1619)) rfl (lvA0 hl) ?_
  refine lv_iload_n hx hb (oc_29 1638 (aq_19 shL_law_1619)) rfl (lvA3 hl) ?_
  refine lv_iconst (v := 2) hx hb (oc_5 1639 (aq_20 shL_law_1619)) kic_2 ?_
  refine lv_iadd hx hb (oc_96 1640 (aq_21 shL_law_1619)) ?_
  refine lv_topi (fun y_12 ey_12 => ?_)
  obtain rfl : y_12 = nI (i + 2) := ey_12.trans (nI_add i 2)
  refine va_sld hx hb hX hbl hbA hS (vp_in_nI (by omega) (by omega)) (oc_46 1641 (aq_22 shL_law_1619)) ?_
  refine lv_topi (fun y_13 ey_13 => ?_)
  obtain rfl : y_13 = xs (nI (i + 2)).toNatClampNeg := ey_13
  refine lv_aload_n hx hb (oc_42 1642 (aq_23 shL_law_1619)) rfl (lvA0 hl) ?_
  refine lv_iload_n hx hb (oc_29 1643 shL_law_1643) rfl (lvA3 hl) ?_
  refine lv_iconst (v := 3) hx hb (oc_6 1644 (aq_1 shL_law_1643)) kic_3 ?_
  refine lv_iadd hx hb (oc_96 1645 (aq_2 shL_law_1643)) ?_
  refine lv_topi (fun y_14 ey_14 => ?_)
  obtain rfl : y_14 = nI (i + 3) := ey_14.trans (nI_add i 3)
  refine va_sld hx hb hX hbl hbA hS (vp_in_nI (by omega) (by omega)) (oc_46 1646 (aq_3 shL_law_1643)) ?_
  refine lv_topi (fun y_15 ey_15 => ?_)
  obtain rfl : y_15 = xs (nI (i + 3)).toNatClampNeg := ey_15
  refine lv_aload_n hx hb (oc_42 1647 (aq_4 shL_law_1643)) rfl (lvA0 hl) ?_
  refine lv_iload_n hx hb (oc_29 1648 (aq_5 shL_law_1643)) rfl (lvA3 hl) ?_
  refine lv_iconst (v := 4) hx hb (oc_7 1649 (aq_6 shL_law_1643)) kic_4 ?_
  refine lv_iadd hx hb (oc_96 1650 (aq_7 shL_law_1643)) ?_
  refine lv_topi (fun y_16 ey_16 => ?_)
  obtain rfl : y_16 = nI (i + 4) := ey_16.trans (nI_add i 4)
  refine va_sld hx hb hX hbl hbA hS (vp_in_nI (by omega) (by omega)) (oc_46 1651 (aq_8 shL_law_1643)) ?_
  refine lv_topi (fun y_17 ey_17 => ?_)
  obtain rfl : y_17 = xs (nI (i + 4)).toNatClampNeg := ey_17
  have hFc := free_all (exDr hD) hS hA
  refine va_calli (runV_a (As := [.int (xs (nI (i + 1)).toNatClampNeg), .int (xs (nI (i + 2)).toNatClampNeg), .int (xs (nI (i + 3)).toNatClampNeg), .int (xs (nI (i + 4)).toNatClampNeg)]) (rest := []) S (q_nights l D cI cB cZ g2 c3 I3 F3 (xs (nI (i + 1)).toNatClampNeg) (xs (nI (i + 2)).toNatClampNeg) (xs (nI (i + 3)).toNatClampNeg) (xs (nI (i + 4)).toNatClampNeg) H.size hM.1) kV_RL_181 hK (exPr hP) (exDr hD) 0 rfl rfl rfl ⟨Nat.le_of_ble_eq_true rfl, Nat.le_of_ble_eq_true rfl⟩ ⟨(by show K + 0 ≤ 600000; omega), (by show N + 0 ≤ 7302250; omega)⟩ rfl hl.1 rfl (Nat.le_of_ble_eq_true rfl) (oc_182 1652 (aq_9 shL_law_1643) uw_0_181)) hS (fun q _ h => hFc q h) hFc (fun r17 u t H1 locs ht hvm w17 hB1 hz1 hk1 hS => ?_)
  obtain ⟨c17, I17, F17⟩ := u
  obtain ⟨hP1, hD1⟩ := hB1
  rw [ht] at hP1
  obtain ⟨hP, hD⟩ := exjoin hP hD hk1 hFc hP1 hD1
  generalize H1 = H at hP hS ⊢
  obtain ⟨hM, hd17, hf17⟩ := imm_nights hM w17
  have hR := RR.fm hR hd17 hf17 (by decide) (by decide)
  refine lv_pop hx hb (oc_87 1655 (aq_12 shL_law_1643)) rfl ?_
  refine lv_goto (tgt := 2269) hx hb (oc_167 1656 (aq_13 shL_law_1643) sgw_2_101) rfl ?_
  refine W.widen (k := K + 8) (n := N + 240) (by omega) (by omega) ?_
  exact kk _ _ _ _ _ _ _ _ _ hI hM hR hP hD hS ls hl
set_option maxRecDepth 100000 in
set_option maxHeartbeats 4000000 in
theorem lawc_39 {p : Program} {l : Launch} {e : Env} {s : State} {m : MethodId} {below : List Frame} {meth : Method} {c : Code} {b L : Nat} {xs : Nat → Int32} (C0 : lw_At p s m meth c b L xs) (hLN : L ≤ 3584) {A : Nat → Prop} (hA : ∀ q : Nat, s.heap.size ≤ q → A q) (hbA : ¬ A b) {D : va_G} {cI cB cZ : ClassId} {zz qq vv : Nat} {bt : Nat → Int32} {g g2 : Nat → Nat} (hK : KK D cI cB cZ s) (hXS : XS D zz qq vv bt A s s.heap) {ad : Nat → Nat → Nat} {cn : Nat → Nat} {In : Nat → Int32} {Fn : Nat → Nat → Int32} {c3 : Nat → Nat} {I3 : Nat → Int32} {F3 : Nat → Nat → Int32} (hI : IX ad cn Fn) (hM : IMM c3 F3) (hR : RR cn Fn c3 F3) {H : Heap} {locs : List Loc} (hP : va_P D vwCl (wX cI (D.1 99) zz g ad cn In Fn ++ wM cI cB cZ g2 c3 I3 F3) H) (hD : va_D A (wX cI (D.1 99) zz g ad cn In Fn ++ wM cI cB cZ g2 c3 I3 F3)) (hS : va_S A s.heap H locs) {K N i : Nat} (hi : i + 7 ≤ L) (hKN : K + 8 ≤ 600000 ∧ N + 240 ≤ 7302250) {ls : Array Slot} (hl : lv_has ls 4 [(0, .ref b), (1, .ref (g 0)), (2, .ref (g2 100)), (3, .int (nI i))]) (kk : ∀ (ad : Nat → Nat → Nat) (cn : Nat → Nat) (In : Nat → Int32) (Fn : Nat → Nat → Int32) (c3 : Nat → Nat) (I3 : Nat → Int32) (F3 : Nat → Nat → Int32) (H : Heap) (locs : List Loc), IX ad cn Fn → IMM c3 F3 → RR cn Fn c3 F3 → va_P D vwCl (wX cI (D.1 99) zz g ad cn In Fn ++ wM cI cB cZ g2 c3 I3 F3) H → va_D A (wX cI (D.1 99) zz g ad cn In Fn ++ wM cI cB cZ g2 c3 I3 F3) → va_S A s.heap H locs → ∀ ls : Array Slot, lv_has ls 4 [(0, .ref b), (1, .ref (g 0)), (2, .ref (g2 100)), (3, .int (nI i))] → W p l e room_1 s m #[Value.ref b] below meth c H locs (K + 8) (N + 240) (lw_Z below #[Value.ref b] s) (F0 m 2269 ls [])) : W p l e room_1 s m #[Value.ref b] below meth c H locs K N (lw_Z below #[Value.ref b] s) (F0 m 1659 ls []) := by
  obtain ⟨hx, hb, hr, hml, hown, hts, hX, hbl, hlocks, hgv⟩ := id C0
  have S : SF p m c code 4 s #[Value.ref b] RL := ⟨hx, hb, hml, hown, fun w h => hts w (wT_lw h)⟩
  refine lv_aload_n hx hb (oc_43 1659 (aq_16 shL_law_1643)) rfl (lvA1 hl) ?_
  refine lv_aload_n hx hb (oc_42 1660 (aq_17 shL_law_1643)) rfl (lvA0 hl) ?_
  refine lv_iload_n hx hb (oc_29 1661 (aq_18 shL_law_1643)) rfl (lvA3 hl) ?_
  refine lv_iconst (v := 1) hx hb (oc_4 1662 (aq_19 shL_law_1643)) kic_1 ?_
  refine lv_iadd hx hb (oc_96 1663 (aq_20 shL_law_1643)) ?_
  refine lv_topi (fun y_1 ey_1 => ?_)
  obtain rfl : y_1 = nI (i + 1) := ey_1.trans (nI_add i 1)
  refine va_sld hx hb hX hbl hbA hS (vp_in_nI (by omega) (by omega)) (oc_46 1664 (aq_21 shL_law_1643)) ?_
  refine lv_topi (fun y_2 ey_2 => ?_)
  obtain rfl : y_2 = xs (nI (i + 1)).toNatClampNeg := ey_2
  refine lv_aload_n hx hb (oc_42 1665 (aq_22 shL_law_1643)) rfl (lvA0 hl) ?_
  refine lv_iload_n hx hb (oc_29 1666 (aq_23 shL_law_1643)) rfl (lvA3 hl) ?_
  refine lv_iconst (v := 2) hx hb (oc_5 1667 shL_law_1667) kic_2 ?_
  refine lv_iadd hx hb (oc_96 1668 (aq_1 shL_law_1667)) ?_
  refine lv_topi (fun y_3 ey_3 => ?_)
  obtain rfl : y_3 = nI (i + 2) := ey_3.trans (nI_add i 2)
  refine va_sld hx hb hX hbl hbA hS (vp_in_nI (by omega) (by omega)) (oc_46 1669 (aq_2 shL_law_1667)) ?_
  refine lv_topi (fun y_4 ey_4 => ?_)
  obtain rfl : y_4 = xs (nI (i + 2)).toNatClampNeg := ey_4
  have hFc := free_all (exD hD) hS hA
  refine va_calli (runV_xa (As := [.int (xs (nI (i + 1)).toNatClampNeg), .int (xs (nI (i + 2)).toNatClampNeg)]) (rest := []) S (q_Xfeast l D cI cB cZ zz qq vv bt g ad cn In Fn (xs (nI (i + 1)).toNatClampNeg) (xs (nI (i + 2)).toNatClampNeg) H.size hI.1) kV_RL_182 hK hXS hS hFc (exP hP) (exD hD) 0 xo_0 rfl rfl ⟨Nat.le_of_ble_eq_true rfl, Nat.le_of_ble_eq_true rfl⟩ ⟨(by show K + 0 ≤ 600000; omega), (by show N + 0 ≤ 7302250; omega)⟩ rfl hl.1 rfl (Nat.le_of_ble_eq_true rfl) (oc_182 1670 (aq_3 shL_law_1667) uw_0_182)) hS (fun q _ h => hFc q h) hFc (fun r4 u t H1 locs ht hvm w4 hB1 hz1 hk1 hS => ?_)
  obtain ⟨c4, I4, F4⟩ := u
  obtain ⟨hP1, hD1⟩ := hB1
  rw [ht] at hP1
  obtain ⟨hP, hD⟩ := exjoinL hP hD hk1 hFc hP1 hD1
  generalize H1 = H at hP hS ⊢
  have hd4 := w4.1.1
  have hf4 := w4.1.2.2
  have hI := IX.fr hI w4.1 w4.2.1 (by decide) (by decide)
  have hR := RR.fx hR hd4 hf4 (by decide) (by decide)
  refine lv_pop hx hb (oc_87 1673 (aq_6 shL_law_1667)) rfl ?_
  refine lv_aload_n hx hb (oc_44 1674 (aq_7 shL_law_1667)) rfl (lvA2 hl) ?_
  refine lv_aload_n hx hb (oc_42 1675 (aq_8 shL_law_1667)) rfl (lvA0 hl) ?_
  refine lv_iload_n hx hb (oc_29 1676 (aq_9 shL_law_1667)) rfl (lvA3 hl) ?_
  refine lv_iconst (v := 1) hx hb (oc_4 1677 (aq_10 shL_law_1667)) kic_1 ?_
  refine lv_iadd hx hb (oc_96 1678 (aq_11 shL_law_1667)) ?_
  refine lv_topi (fun y_6 ey_6 => ?_)
  obtain rfl : y_6 = nI (i + 1) := ey_6.trans (nI_add i 1)
  refine va_sld hx hb hX hbl hbA hS (vp_in_nI (by omega) (by omega)) (oc_46 1679 (aq_12 shL_law_1667)) ?_
  refine lv_topi (fun y_7 ey_7 => ?_)
  obtain rfl : y_7 = xs (nI (i + 1)).toNatClampNeg := ey_7
  refine lv_aload_n hx hb (oc_42 1680 (aq_13 shL_law_1667)) rfl (lvA0 hl) ?_
  refine lv_iload_n hx hb (oc_29 1681 (aq_14 shL_law_1667)) rfl (lvA3 hl) ?_
  refine lv_iconst (v := 2) hx hb (oc_5 1682 (aq_15 shL_law_1667)) kic_2 ?_
  refine lv_iadd hx hb (oc_96 1683 (aq_16 shL_law_1667)) ?_
  refine lv_topi (fun y_8 ey_8 => ?_)
  obtain rfl : y_8 = nI (i + 2) := ey_8.trans (nI_add i 2)
  refine va_sld hx hb hX hbl hbA hS (vp_in_nI (by omega) (by omega)) (oc_46 1684 (aq_17 shL_law_1667)) ?_
  refine lv_topi (fun y_9 ey_9 => ?_)
  obtain rfl : y_9 = xs (nI (i + 2)).toNatClampNeg := ey_9
  have hFc := free_all (exDr hD) hS hA
  refine va_calli (runV_a (As := [.int (xs (nI (i + 1)).toNatClampNeg), .int (xs (nI (i + 2)).toNatClampNeg)]) (rest := []) S (q_feast l D cI cB cZ g2 c3 I3 F3 (xs (nI (i + 1)).toNatClampNeg) (xs (nI (i + 2)).toNatClampNeg) H.size hM.1) kV_RL_185 hK (exPr hP) (exDr hD) 0 rfl rfl rfl ⟨Nat.le_of_ble_eq_true rfl, Nat.le_of_ble_eq_true rfl⟩ ⟨(by show K + 0 ≤ 600000; omega), (by show N + 0 ≤ 7302250; omega)⟩ rfl hl.1 rfl (Nat.le_of_ble_eq_true rfl) (oc_182 1685 (aq_18 shL_law_1667) uw_0_185)) hS (fun q _ h => hFc q h) hFc (fun r9 u t H1 locs ht hvm w9 hB1 hz1 hk1 hS => ?_)
  obtain ⟨c9, I9, F9⟩ := u
  obtain ⟨hP1, hD1⟩ := hB1
  rw [ht] at hP1
  obtain ⟨hP, hD⟩ := exjoin hP hD hk1 hFc hP1 hD1
  generalize H1 = H at hP hS ⊢
  obtain ⟨hM, hd9, hf9⟩ := imm_feast hM w9
  have hR := RR.fm hR hd9 hf9 (by decide) (by decide)
  refine lv_pop hx hb (oc_87 1688 (aq_21 shL_law_1667)) rfl ?_
  refine lv_goto (tgt := 2269) hx hb (oc_167 1689 (aq_22 shL_law_1667) sgw_2_68) rfl ?_
  refine W.widen (k := K + 8) (n := N + 240) (by omega) (by omega) ?_
  exact kk _ _ _ _ _ _ _ _ _ hI hM hR hP hD hS ls hl
set_option maxRecDepth 100000 in
set_option maxHeartbeats 4000000 in
theorem lawc_40 {p : Program} {l : Launch} {e : Env} {s : State} {m : MethodId} {below : List Frame} {meth : Method} {c : Code} {b L : Nat} {xs : Nat → Int32} (C0 : lw_At p s m meth c b L xs) (hLN : L ≤ 3584) {A : Nat → Prop} (hA : ∀ q : Nat, s.heap.size ≤ q → A q) (hbA : ¬ A b) {D : va_G} {cI cB cZ : ClassId} {zz qq vv : Nat} {bt : Nat → Int32} {g g2 : Nat → Nat} (hK : KK D cI cB cZ s) (hXS : XS D zz qq vv bt A s s.heap) {ad : Nat → Nat → Nat} {cn : Nat → Nat} {In : Nat → Int32} {Fn : Nat → Nat → Int32} {c3 : Nat → Nat} {I3 : Nat → Int32} {F3 : Nat → Nat → Int32} (hI : IX ad cn Fn) (hM : IMM c3 F3) (hR : RR cn Fn c3 F3) {H : Heap} {locs : List Loc} (hP : va_P D vwCl (wX cI (D.1 99) zz g ad cn In Fn ++ wM cI cB cZ g2 c3 I3 F3) H) (hD : va_D A (wX cI (D.1 99) zz g ad cn In Fn ++ wM cI cB cZ g2 c3 I3 F3)) (hS : va_S A s.heap H locs) {K N i : Nat} (hi : i + 7 ≤ L) (hKN : K + 8 ≤ 600000 ∧ N + 240 ≤ 7302250) {ls : Array Slot} (hl : lv_has ls 4 [(0, .ref b), (1, .ref (g 0)), (2, .ref (g2 100)), (3, .int (nI i))]) (kk : ∀ (ad : Nat → Nat → Nat) (cn : Nat → Nat) (In : Nat → Int32) (Fn : Nat → Nat → Int32) (c3 : Nat → Nat) (I3 : Nat → Int32) (F3 : Nat → Nat → Int32) (H : Heap) (locs : List Loc), IX ad cn Fn → IMM c3 F3 → RR cn Fn c3 F3 → va_P D vwCl (wX cI (D.1 99) zz g ad cn In Fn ++ wM cI cB cZ g2 c3 I3 F3) H → va_D A (wX cI (D.1 99) zz g ad cn In Fn ++ wM cI cB cZ g2 c3 I3 F3) → va_S A s.heap H locs → ∀ ls : Array Slot, lv_has ls 4 [(0, .ref b), (1, .ref (g 0)), (2, .ref (g2 100)), (3, .int (nI i))] → W p l e room_1 s m #[Value.ref b] below meth c H locs (K + 8) (N + 240) (lw_Z below #[Value.ref b] s) (F0 m 2269 ls [])) : W p l e room_1 s m #[Value.ref b] below meth c H locs K N (lw_Z below #[Value.ref b] s) (F0 m 1692 ls []) := by
  obtain ⟨hx, hb, hr, hml, hown, hts, hX, hbl, hlocks, hgv⟩ := id C0
  have S : SF p m c code 4 s #[Value.ref b] RL := ⟨hx, hb, hml, hown, fun w h => hts w (wT_lw h)⟩
  refine lv_aload_n hx hb (oc_43 1692 shL_law_1692) rfl (lvA1 hl) ?_
  refine lv_aload_n hx hb (oc_42 1693 (aq_1 shL_law_1692)) rfl (lvA0 hl) ?_
  refine lv_iload_n hx hb (oc_29 1694 (aq_2 shL_law_1692)) rfl (lvA3 hl) ?_
  refine lv_iconst (v := 1) hx hb (oc_4 1695 (aq_3 shL_law_1692)) kic_1 ?_
  refine lv_iadd hx hb (oc_96 1696 (aq_4 shL_law_1692)) ?_
  refine lv_topi (fun y_1 ey_1 => ?_)
  obtain rfl : y_1 = nI (i + 1) := ey_1.trans (nI_add i 1)
  refine va_sld hx hb hX hbl hbA hS (vp_in_nI (by omega) (by omega)) (oc_46 1697 (aq_5 shL_law_1692)) ?_
  refine lv_topi (fun y_2 ey_2 => ?_)
  obtain rfl : y_2 = xs (nI (i + 1)).toNatClampNeg := ey_2
  refine lv_aload_n hx hb (oc_42 1698 (aq_6 shL_law_1692)) rfl (lvA0 hl) ?_
  refine lv_iload_n hx hb (oc_29 1699 (aq_7 shL_law_1692)) rfl (lvA3 hl) ?_
  refine lv_iconst (v := 2) hx hb (oc_5 1700 (aq_8 shL_law_1692)) kic_2 ?_
  refine lv_iadd hx hb (oc_96 1701 (aq_9 shL_law_1692)) ?_
  refine lv_topi (fun y_3 ey_3 => ?_)
  obtain rfl : y_3 = nI (i + 2) := ey_3.trans (nI_add i 2)
  refine va_sld hx hb hX hbl hbA hS (vp_in_nI (by omega) (by omega)) (oc_46 1702 (aq_10 shL_law_1692)) ?_
  refine lv_topi (fun y_4 ey_4 => ?_)
  obtain rfl : y_4 = xs (nI (i + 2)).toNatClampNeg := ey_4
  refine vp_callSi (runV_rxa (As := [.int (xs (nI (i + 1)).toNatClampNeg), .int (xs (nI (i + 2)).toNatClampNeg)]) (rest := []) S (q_Xfeasted l D cI cB cZ zz qq vv bt g ad cn In Fn (xs (nI (i + 1)).toNatClampNeg) (xs (nI (i + 2)).toNatClampNeg) hI.1 hI.2.2.2.2.1) kV_RL_186 hK hXS hS (exP hP) 0 xo_0 rfl rfl ⟨Nat.le_of_ble_eq_true rfl, Nat.le_of_ble_eq_true rfl⟩ ⟨(by show K + 0 ≤ 600000; omega), (by show N + 0 ≤ 7302250; omega)⟩ rfl hl.1 rfl (Nat.le_of_ble_eq_true rfl) (oc_182 1703 (aq_11 shL_law_1692) uw_0_186)) (fun r4 w4 => ?_)
  refine lv_pop hx hb (oc_87 1706 (aq_14 shL_law_1692)) rfl ?_
  refine lv_aload_n hx hb (oc_44 1707 (aq_15 shL_law_1692)) rfl (lvA2 hl) ?_
  refine lv_aload_n hx hb (oc_42 1708 (aq_16 shL_law_1692)) rfl (lvA0 hl) ?_
  refine lv_iload_n hx hb (oc_29 1709 (aq_17 shL_law_1692)) rfl (lvA3 hl) ?_
  refine lv_iconst (v := 1) hx hb (oc_4 1710 (aq_18 shL_law_1692)) kic_1 ?_
  refine lv_iadd hx hb (oc_96 1711 (aq_19 shL_law_1692)) ?_
  refine lv_topi (fun y_6 ey_6 => ?_)
  obtain rfl : y_6 = nI (i + 1) := ey_6.trans (nI_add i 1)
  refine va_sld hx hb hX hbl hbA hS (vp_in_nI (by omega) (by omega)) (oc_46 1712 (aq_20 shL_law_1692)) ?_
  refine lv_topi (fun y_7 ey_7 => ?_)
  obtain rfl : y_7 = xs (nI (i + 1)).toNatClampNeg := ey_7
  refine lv_aload_n hx hb (oc_42 1713 (aq_21 shL_law_1692)) rfl (lvA0 hl) ?_
  refine lv_iload_n hx hb (oc_29 1714 (aq_22 shL_law_1692)) rfl (lvA3 hl) ?_
  refine lv_iconst (v := 2) hx hb (oc_5 1715 (aq_23 shL_law_1692)) kic_2 ?_
  refine lv_iadd hx hb (oc_96 1716 shL_law_1716) ?_
  refine lv_topi (fun y_8 ey_8 => ?_)
  obtain rfl : y_8 = nI (i + 2) := ey_8.trans (nI_add i 2)
  refine va_sld hx hb hX hbl hbA hS (vp_in_nI (by omega) (by omega)) (oc_46 1717 (aq_1 shL_law_1716)) ?_
  refine lv_topi (fun y_9 ey_9 => ?_)
  obtain rfl : y_9 = xs (nI (i + 2)).toNatClampNeg := ey_9
  refine vp_callSi (runV_ra (As := [.int (xs (nI (i + 1)).toNatClampNeg), .int (xs (nI (i + 2)).toNatClampNeg)]) (rest := []) S (q_feasted l D cI cB cZ g2 c3 I3 F3 (xs (nI (i + 1)).toNatClampNeg) (xs (nI (i + 2)).toNatClampNeg) hM.1) kV_RL_189 hK (exPr hP) 0 rfl rfl rfl ⟨Nat.le_of_ble_eq_true rfl, Nat.le_of_ble_eq_true rfl⟩ ⟨(by show K + 0 ≤ 600000; omega), (by show N + 0 ≤ 7302250; omega)⟩ rfl hl.1 rfl (Nat.le_of_ble_eq_true rfl) (oc_182 1718 (aq_2 shL_law_1716) uw_0_189)) (fun r9 w9 => ?_)
  refine lv_pop hx hb (oc_87 1721 (aq_5 shL_law_1716)) rfl ?_
  refine lv_goto (tgt := 2269) hx hb (oc_167 1722 (aq_6 shL_law_1716) sgw_2_35) rfl ?_
  refine W.widen (k := K + 8) (n := N + 240) (by omega) (by omega) ?_
  exact kk _ _ _ _ _ _ _ _ _ hI hM hR hP hD hS ls hl
set_option maxRecDepth 100000 in
set_option maxHeartbeats 4000000 in
theorem lawc_41 {p : Program} {l : Launch} {e : Env} {s : State} {m : MethodId} {below : List Frame} {meth : Method} {c : Code} {b L : Nat} {xs : Nat → Int32} (C0 : lw_At p s m meth c b L xs) (hLN : L ≤ 3584) {A : Nat → Prop} (hA : ∀ q : Nat, s.heap.size ≤ q → A q) (hbA : ¬ A b) {D : va_G} {cI cB cZ : ClassId} {zz qq vv : Nat} {bt : Nat → Int32} {g g2 : Nat → Nat} (hK : KK D cI cB cZ s) (hXS : XS D zz qq vv bt A s s.heap) {ad : Nat → Nat → Nat} {cn : Nat → Nat} {In : Nat → Int32} {Fn : Nat → Nat → Int32} {c3 : Nat → Nat} {I3 : Nat → Int32} {F3 : Nat → Nat → Int32} (hI : IX ad cn Fn) (hM : IMM c3 F3) (hR : RR cn Fn c3 F3) {H : Heap} {locs : List Loc} (hP : va_P D vwCl (wX cI (D.1 99) zz g ad cn In Fn ++ wM cI cB cZ g2 c3 I3 F3) H) (hD : va_D A (wX cI (D.1 99) zz g ad cn In Fn ++ wM cI cB cZ g2 c3 I3 F3)) (hS : va_S A s.heap H locs) {K N i : Nat} (hi : i + 7 ≤ L) (hKN : K + 8 ≤ 600000 ∧ N + 240 ≤ 7302250) {ls : Array Slot} (hl : lv_has ls 4 [(0, .ref b), (1, .ref (g 0)), (2, .ref (g2 100)), (3, .int (nI i))]) (kk : ∀ (ad : Nat → Nat → Nat) (cn : Nat → Nat) (In : Nat → Int32) (Fn : Nat → Nat → Int32) (c3 : Nat → Nat) (I3 : Nat → Int32) (F3 : Nat → Nat → Int32) (H : Heap) (locs : List Loc), IX ad cn Fn → IMM c3 F3 → RR cn Fn c3 F3 → va_P D vwCl (wX cI (D.1 99) zz g ad cn In Fn ++ wM cI cB cZ g2 c3 I3 F3) H → va_D A (wX cI (D.1 99) zz g ad cn In Fn ++ wM cI cB cZ g2 c3 I3 F3) → va_S A s.heap H locs → ∀ ls : Array Slot, lv_has ls 4 [(0, .ref b), (1, .ref (g 0)), (2, .ref (g2 100)), (3, .int (nI i))] → W p l e room_1 s m #[Value.ref b] below meth c H locs (K + 8) (N + 240) (lw_Z below #[Value.ref b] s) (F0 m 2269 ls [])) : W p l e room_1 s m #[Value.ref b] below meth c H locs K N (lw_Z below #[Value.ref b] s) (F0 m 1725 ls []) := by
  obtain ⟨hx, hb, hr, hml, hown, hts, hX, hbl, hlocks, hgv⟩ := id C0
  have S : SF p m c code 4 s #[Value.ref b] RL := ⟨hx, hb, hml, hown, fun w h => hts w (wT_lw h)⟩
  refine lv_aload_n hx hb (oc_43 1725 (aq_9 shL_law_1716)) rfl (lvA1 hl) ?_
  have hFc := free_all (exD hD) hS hA
  refine va_calli (runV_xa (As := []) (rest := []) S (q_Xdrum l D cI cB cZ zz qq vv bt g ad cn In Fn  H.size hI.1) kV_RL_190 hK hXS hS hFc (exP hP) (exD hD) 0 xo_0 rfl rfl ⟨Nat.le_of_ble_eq_true rfl, Nat.le_of_ble_eq_true rfl⟩ ⟨(by show K + 0 ≤ 600000; omega), (by show N + 0 ≤ 7302250; omega)⟩ rfl hl.1 rfl (Nat.le_of_ble_eq_true rfl) (oc_182 1726 (aq_10 shL_law_1716) uw_0_190)) hS (fun q _ h => hFc q h) hFc (fun r0 u t H1 locs ht hvm w0 hB1 hz1 hk1 hS => ?_)
  obtain ⟨c0, I0, F0⟩ := u
  obtain ⟨hP1, hD1⟩ := hB1
  rw [ht] at hP1
  obtain ⟨hP, hD⟩ := exjoinL hP hD hk1 hFc hP1 hD1
  generalize H1 = H at hP hS ⊢
  have hd0 := w0.1.1
  have hf0 := w0.1.2.2
  have hI := IX.fr hI w0.1 w0.2.1 (by decide) (by decide)
  have hR := RR.fx hR hd0 hf0 (by decide) (by decide)
  refine lv_pop hx hb (oc_87 1729 (aq_13 shL_law_1716)) rfl ?_
  refine lv_aload_n hx hb (oc_44 1730 (aq_14 shL_law_1716)) rfl (lvA2 hl) ?_
  have hFc := free_all (exDr hD) hS hA
  refine va_calli (runV_a (As := []) (rest := []) S (q_drum l D cI cB cZ g2 c3 I3 F3  H.size hM.1) kV_RL_193 hK (exPr hP) (exDr hD) 0 rfl rfl rfl ⟨Nat.le_of_ble_eq_true rfl, Nat.le_of_ble_eq_true rfl⟩ ⟨(by show K + 0 ≤ 600000; omega), (by show N + 0 ≤ 7302250; omega)⟩ rfl hl.1 rfl (Nat.le_of_ble_eq_true rfl) (oc_182 1731 (aq_15 shL_law_1716) uw_0_193)) hS (fun q _ h => hFc q h) hFc (fun r1 u t H1 locs ht hvm w1 hB1 hz1 hk1 hS => ?_)
  obtain ⟨c1, I1, F1⟩ := u
  obtain ⟨hP1, hD1⟩ := hB1
  rw [ht] at hP1
  obtain ⟨hP, hD⟩ := exjoin hP hD hk1 hFc hP1 hD1
  generalize H1 = H at hP hS ⊢
  obtain ⟨hM, hd1, hf1⟩ := imm_drum hM w1
  have hR := RR.fm hR hd1 hf1 (by decide) (by decide)
  refine lv_pop hx hb (oc_87 1734 (aq_18 shL_law_1716)) rfl ?_
  refine lv_goto (tgt := 2269) hx hb (oc_167 1735 (aq_19 shL_law_1716) sgw_2_22) rfl ?_
  refine W.widen (k := K + 8) (n := N + 240) (by omega) (by omega) ?_
  exact kk _ _ _ _ _ _ _ _ _ hI hM hR hP hD hS ls hl
set_option maxRecDepth 100000 in
set_option maxHeartbeats 4000000 in
theorem lawc_42 {p : Program} {l : Launch} {e : Env} {s : State} {m : MethodId} {below : List Frame} {meth : Method} {c : Code} {b L : Nat} {xs : Nat → Int32} (C0 : lw_At p s m meth c b L xs) (hLN : L ≤ 3584) {A : Nat → Prop} (hA : ∀ q : Nat, s.heap.size ≤ q → A q) (hbA : ¬ A b) {D : va_G} {cI cB cZ : ClassId} {zz qq vv : Nat} {bt : Nat → Int32} {g g2 : Nat → Nat} (hK : KK D cI cB cZ s) (hXS : XS D zz qq vv bt A s s.heap) {ad : Nat → Nat → Nat} {cn : Nat → Nat} {In : Nat → Int32} {Fn : Nat → Nat → Int32} {c3 : Nat → Nat} {I3 : Nat → Int32} {F3 : Nat → Nat → Int32} (hI : IX ad cn Fn) (hM : IMM c3 F3) (hR : RR cn Fn c3 F3) {H : Heap} {locs : List Loc} (hP : va_P D vwCl (wX cI (D.1 99) zz g ad cn In Fn ++ wM cI cB cZ g2 c3 I3 F3) H) (hD : va_D A (wX cI (D.1 99) zz g ad cn In Fn ++ wM cI cB cZ g2 c3 I3 F3)) (hS : va_S A s.heap H locs) {K N i : Nat} (hi : i + 7 ≤ L) (hKN : K + 8 ≤ 600000 ∧ N + 240 ≤ 7302250) {ls : Array Slot} (hl : lv_has ls 4 [(0, .ref b), (1, .ref (g 0)), (2, .ref (g2 100)), (3, .int (nI i))]) (kk : ∀ (ad : Nat → Nat → Nat) (cn : Nat → Nat) (In : Nat → Int32) (Fn : Nat → Nat → Int32) (c3 : Nat → Nat) (I3 : Nat → Int32) (F3 : Nat → Nat → Int32) (H : Heap) (locs : List Loc), IX ad cn Fn → IMM c3 F3 → RR cn Fn c3 F3 → va_P D vwCl (wX cI (D.1 99) zz g ad cn In Fn ++ wM cI cB cZ g2 c3 I3 F3) H → va_D A (wX cI (D.1 99) zz g ad cn In Fn ++ wM cI cB cZ g2 c3 I3 F3) → va_S A s.heap H locs → ∀ ls : Array Slot, lv_has ls 4 [(0, .ref b), (1, .ref (g 0)), (2, .ref (g2 100)), (3, .int (nI i))] → W p l e room_1 s m #[Value.ref b] below meth c H locs (K + 8) (N + 240) (lw_Z below #[Value.ref b] s) (F0 m 2269 ls [])) : W p l e room_1 s m #[Value.ref b] below meth c H locs K N (lw_Z below #[Value.ref b] s) (F0 m 1738 ls []) := by
  obtain ⟨hx, hb, hr, hml, hown, hts, hX, hbl, hlocks, hgv⟩ := id C0
  have S : SF p m c code 4 s #[Value.ref b] RL := ⟨hx, hb, hml, hown, fun w h => hts w (wT_lw h)⟩
  refine lv_aload_n hx hb (oc_43 1738 (aq_22 shL_law_1716)) rfl (lvA1 hl) ?_
  refine lv_aload_n hx hb (oc_42 1739 (aq_23 shL_law_1716)) rfl (lvA0 hl) ?_
  refine lv_iload_n hx hb (oc_29 1740 shL_law_1740) rfl (lvA3 hl) ?_
  refine lv_iconst (v := 1) hx hb (oc_4 1741 (aq_1 shL_law_1740)) kic_1 ?_
  refine lv_iadd hx hb (oc_96 1742 (aq_2 shL_law_1740)) ?_
  refine lv_topi (fun y_1 ey_1 => ?_)
  obtain rfl : y_1 = nI (i + 1) := ey_1.trans (nI_add i 1)
  refine va_sld hx hb hX hbl hbA hS (vp_in_nI (by omega) (by omega)) (oc_46 1743 (aq_3 shL_law_1740)) ?_
  refine lv_topi (fun y_2 ey_2 => ?_)
  obtain rfl : y_2 = xs (nI (i + 1)).toNatClampNeg := ey_2
  refine lv_aload_n hx hb (oc_42 1744 (aq_4 shL_law_1740)) rfl (lvA0 hl) ?_
  refine lv_iload_n hx hb (oc_29 1745 (aq_5 shL_law_1740)) rfl (lvA3 hl) ?_
  refine lv_iconst (v := 2) hx hb (oc_5 1746 (aq_6 shL_law_1740)) kic_2 ?_
  refine lv_iadd hx hb (oc_96 1747 (aq_7 shL_law_1740)) ?_
  refine lv_topi (fun y_3 ey_3 => ?_)
  obtain rfl : y_3 = nI (i + 2) := ey_3.trans (nI_add i 2)
  refine va_sld hx hb hX hbl hbA hS (vp_in_nI (by omega) (by omega)) (oc_46 1748 (aq_8 shL_law_1740)) ?_
  refine lv_topi (fun y_4 ey_4 => ?_)
  obtain rfl : y_4 = xs (nI (i + 2)).toNatClampNeg := ey_4
  refine lv_aload_n hx hb (oc_42 1749 (aq_9 shL_law_1740)) rfl (lvA0 hl) ?_
  refine lv_iload_n hx hb (oc_29 1750 (aq_10 shL_law_1740)) rfl (lvA3 hl) ?_
  refine lv_iconst (v := 3) hx hb (oc_6 1751 (aq_11 shL_law_1740)) kic_3 ?_
  refine lv_iadd hx hb (oc_96 1752 (aq_12 shL_law_1740)) ?_
  refine lv_topi (fun y_5 ey_5 => ?_)
  obtain rfl : y_5 = nI (i + 3) := ey_5.trans (nI_add i 3)
  refine va_sld hx hb hX hbl hbA hS (vp_in_nI (by omega) (by omega)) (oc_46 1753 (aq_13 shL_law_1740)) ?_
  refine lv_topi (fun y_6 ey_6 => ?_)
  obtain rfl : y_6 = xs (nI (i + 3)).toNatClampNeg := ey_6
  have hFc := free_all (exD hD) hS hA
  refine va_calli (runV_xa (As := [.int (xs (nI (i + 1)).toNatClampNeg), .int (xs (nI (i + 2)).toNatClampNeg), .int (xs (nI (i + 3)).toNatClampNeg)]) (rest := []) S (q_Xmoves l D cI cB cZ zz qq vv bt g ad cn In Fn (xs (nI (i + 1)).toNatClampNeg) (xs (nI (i + 2)).toNatClampNeg) (xs (nI (i + 3)).toNatClampNeg) H.size hI.1) kV_RL_194 hK hXS hS hFc (exP hP) (exD hD) 0 xo_0 rfl rfl ⟨Nat.le_of_ble_eq_true rfl, Nat.le_of_ble_eq_true rfl⟩ ⟨(by show K + 2 ≤ 600000; omega), (by show N + 103 ≤ 7302250; omega)⟩ rfl hl.1 rfl (Nat.le_of_ble_eq_true rfl) (oc_182 1754 (aq_14 shL_law_1740) uw_0_194)) hS (fun q _ h => hFc q h) hFc (fun r6 u t H1 locs ht hvm w6 hB1 hz1 hk1 hS => ?_)
  obtain ⟨a6, c6, I6, F6⟩ := u
  obtain ⟨hP1, hD1⟩ := hB1
  rw [ht] at hP1
  obtain ⟨hP, hD⟩ := exjoinL hP hD hk1 hFc hP1 hD1
  generalize H1 = H at hP hS ⊢
  obtain ⟨hI, hd6, hf6⟩ := ix_moves hI w6
  have hR := RR.fx hR hd6 hf6 (by decide) (by decide)
  refine lv_pop hx hb (oc_87 1757 (aq_17 shL_law_1740)) rfl ?_
  refine lv_aload_n hx hb (oc_44 1758 (aq_18 shL_law_1740)) rfl (lvA2 hl) ?_
  refine lv_aload_n hx hb (oc_42 1759 (aq_19 shL_law_1740)) rfl (lvA0 hl) ?_
  refine lv_iload_n hx hb (oc_29 1760 (aq_20 shL_law_1740)) rfl (lvA3 hl) ?_
  refine lv_iconst (v := 1) hx hb (oc_4 1761 (aq_21 shL_law_1740)) kic_1 ?_
  refine lv_iadd hx hb (oc_96 1762 (aq_22 shL_law_1740)) ?_
  refine lv_topi (fun y_8 ey_8 => ?_)
  obtain rfl : y_8 = nI (i + 1) := ey_8.trans (nI_add i 1)
  refine va_sld hx hb hX hbl hbA hS (vp_in_nI (by omega) (by omega)) (oc_46 1763 (aq_23 shL_law_1740)) ?_
  refine lv_topi (fun y_9 ey_9 => ?_)
  obtain rfl : y_9 = xs (nI (i + 1)).toNatClampNeg := ey_9
  refine lv_aload_n hx hb (oc_42 1764 shL_law_1764) rfl (lvA0 hl) ?_
  refine lv_iload_n hx hb (oc_29 1765 (aq_1 shL_law_1764)) rfl (lvA3 hl) ?_
  refine lv_iconst (v := 2) hx hb (oc_5 1766 (aq_2 shL_law_1764)) kic_2 ?_
  refine lv_iadd hx hb (oc_96 1767 (aq_3 shL_law_1764)) ?_
  refine lv_topi (fun y_10 ey_10 => ?_)
  obtain rfl : y_10 = nI (i + 2) := ey_10.trans (nI_add i 2)
  refine va_sld hx hb hX hbl hbA hS (vp_in_nI (by omega) (by omega)) (oc_46 1768 (aq_4 shL_law_1764)) ?_
  refine lv_topi (fun y_11 ey_11 => ?_)
  obtain rfl : y_11 = xs (nI (i + 2)).toNatClampNeg := ey_11
  refine lv_aload_n hx hb (oc_42 1769 (aq_5 shL_law_1764)) rfl (lvA0 hl) ?_
  refine lv_iload_n hx hb (oc_29 1770 (aq_6 shL_law_1764)) rfl (lvA3 hl) ?_
  refine lv_iconst (v := 3) hx hb (oc_6 1771 (aq_7 shL_law_1764)) kic_3 ?_
  refine lv_iadd hx hb (oc_96 1772 (aq_8 shL_law_1764)) ?_
  refine lv_topi (fun y_12 ey_12 => ?_)
  obtain rfl : y_12 = nI (i + 3) := ey_12.trans (nI_add i 3)
  refine va_sld hx hb hX hbl hbA hS (vp_in_nI (by omega) (by omega)) (oc_46 1773 (aq_9 shL_law_1764)) ?_
  refine lv_topi (fun y_13 ey_13 => ?_)
  obtain rfl : y_13 = xs (nI (i + 3)).toNatClampNeg := ey_13
  have hFc := free_all (exDr hD) hS hA
  refine va_calli (runV_a (As := [.int (xs (nI (i + 1)).toNatClampNeg), .int (xs (nI (i + 2)).toNatClampNeg), .int (xs (nI (i + 3)).toNatClampNeg)]) (rest := []) S (q_moves l D cI cB cZ g2 c3 I3 F3 (xs (nI (i + 1)).toNatClampNeg) (xs (nI (i + 2)).toNatClampNeg) (xs (nI (i + 3)).toNatClampNeg) H.size hM.1) kV_RL_197 hK (exPr hP) (exDr hD) 0 rfl rfl rfl ⟨Nat.le_of_ble_eq_true rfl, Nat.le_of_ble_eq_true rfl⟩ ⟨(by show K + 2 + 0 ≤ 600000; omega), (by show N + 103 + 0 ≤ 7302250; omega)⟩ rfl hl.1 rfl (Nat.le_of_ble_eq_true rfl) (oc_182 1774 (aq_10 shL_law_1764) uw_0_197)) hS (fun q _ h => hFc q h) hFc (fun r13 u t H1 locs ht hvm w13 hB1 hz1 hk1 hS => ?_)
  obtain ⟨c13, I13, F13⟩ := u
  obtain ⟨hP1, hD1⟩ := hB1
  rw [ht] at hP1
  obtain ⟨hP, hD⟩ := exjoin hP hD hk1 hFc hP1 hD1
  generalize H1 = H at hP hS ⊢
  obtain ⟨hM, hd13, hf13⟩ := imm_moves hM w13
  have hR := RR.fm hR hd13 hf13 (by decide) (by decide)
  refine lv_pop hx hb (oc_87 1777 (aq_13 shL_law_1764)) rfl ?_
  refine lv_goto (tgt := 2269) hx hb (oc_167 1778 (aq_14 shL_law_1764) sgw_1_235) rfl ?_
  refine W.widen (k := K + 8) (n := N + 240) (by omega) (by omega) ?_
  exact kk _ _ _ _ _ _ _ _ _ hI hM hR hP hD hS ls hl
set_option maxRecDepth 100000 in
set_option maxHeartbeats 4000000 in
theorem lawc_43 {p : Program} {l : Launch} {e : Env} {s : State} {m : MethodId} {below : List Frame} {meth : Method} {c : Code} {b L : Nat} {xs : Nat → Int32} (C0 : lw_At p s m meth c b L xs) (hLN : L ≤ 3584) {A : Nat → Prop} (hA : ∀ q : Nat, s.heap.size ≤ q → A q) (hbA : ¬ A b) {D : va_G} {cI cB cZ : ClassId} {zz qq vv : Nat} {bt : Nat → Int32} {g g2 : Nat → Nat} (hK : KK D cI cB cZ s) (hXS : XS D zz qq vv bt A s s.heap) {ad : Nat → Nat → Nat} {cn : Nat → Nat} {In : Nat → Int32} {Fn : Nat → Nat → Int32} {c3 : Nat → Nat} {I3 : Nat → Int32} {F3 : Nat → Nat → Int32} (hI : IX ad cn Fn) (hM : IMM c3 F3) (hR : RR cn Fn c3 F3) {H : Heap} {locs : List Loc} (hP : va_P D vwCl (wX cI (D.1 99) zz g ad cn In Fn ++ wM cI cB cZ g2 c3 I3 F3) H) (hD : va_D A (wX cI (D.1 99) zz g ad cn In Fn ++ wM cI cB cZ g2 c3 I3 F3)) (hS : va_S A s.heap H locs) {K N i : Nat} (hi : i + 7 ≤ L) (hKN : K + 8 ≤ 600000 ∧ N + 240 ≤ 7302250) {ls : Array Slot} (hl : lv_has ls 4 [(0, .ref b), (1, .ref (g 0)), (2, .ref (g2 100)), (3, .int (nI i))]) (kk : ∀ (ad : Nat → Nat → Nat) (cn : Nat → Nat) (In : Nat → Int32) (Fn : Nat → Nat → Int32) (c3 : Nat → Nat) (I3 : Nat → Int32) (F3 : Nat → Nat → Int32) (H : Heap) (locs : List Loc), IX ad cn Fn → IMM c3 F3 → RR cn Fn c3 F3 → va_P D vwCl (wX cI (D.1 99) zz g ad cn In Fn ++ wM cI cB cZ g2 c3 I3 F3) H → va_D A (wX cI (D.1 99) zz g ad cn In Fn ++ wM cI cB cZ g2 c3 I3 F3) → va_S A s.heap H locs → ∀ ls : Array Slot, lv_has ls 4 [(0, .ref b), (1, .ref (g 0)), (2, .ref (g2 100)), (3, .int (nI i))] → W p l e room_1 s m #[Value.ref b] below meth c H locs (K + 8) (N + 240) (lw_Z below #[Value.ref b] s) (F0 m 2269 ls [])) : W p l e room_1 s m #[Value.ref b] below meth c H locs K N (lw_Z below #[Value.ref b] s) (F0 m 1781 ls []) := by
  obtain ⟨hx, hb, hr, hml, hown, hts, hX, hbl, hlocks, hgv⟩ := id C0
  have S : SF p m c code 4 s #[Value.ref b] RL := ⟨hx, hb, hml, hown, fun w h => hts w (wT_lw h)⟩
  refine lv_aload_n hx hb (oc_43 1781 (aq_17 shL_law_1764)) rfl (lvA1 hl) ?_
  refine lv_aload_n hx hb (oc_42 1782 (aq_18 shL_law_1764)) rfl (lvA0 hl) ?_
  refine lv_iload_n hx hb (oc_29 1783 (aq_19 shL_law_1764)) rfl (lvA3 hl) ?_
  refine lv_iconst (v := 1) hx hb (oc_4 1784 (aq_20 shL_law_1764)) kic_1 ?_
  refine lv_iadd hx hb (oc_96 1785 (aq_21 shL_law_1764)) ?_
  refine lv_topi (fun y_1 ey_1 => ?_)
  obtain rfl : y_1 = nI (i + 1) := ey_1.trans (nI_add i 1)
  refine va_sld hx hb hX hbl hbA hS (vp_in_nI (by omega) (by omega)) (oc_46 1786 (aq_22 shL_law_1764)) ?_
  refine lv_topi (fun y_2 ey_2 => ?_)
  obtain rfl : y_2 = xs (nI (i + 1)).toNatClampNeg := ey_2
  refine lv_aload_n hx hb (oc_42 1787 (aq_23 shL_law_1764)) rfl (lvA0 hl) ?_
  refine lv_iload_n hx hb (oc_29 1788 shL_law_1788) rfl (lvA3 hl) ?_
  refine lv_iconst (v := 2) hx hb (oc_5 1789 (aq_1 shL_law_1788)) kic_2 ?_
  refine lv_iadd hx hb (oc_96 1790 (aq_2 shL_law_1788)) ?_
  refine lv_topi (fun y_3 ey_3 => ?_)
  obtain rfl : y_3 = nI (i + 2) := ey_3.trans (nI_add i 2)
  refine va_sld hx hb hX hbl hbA hS (vp_in_nI (by omega) (by omega)) (oc_46 1791 (aq_3 shL_law_1788)) ?_
  refine lv_topi (fun y_4 ey_4 => ?_)
  obtain rfl : y_4 = xs (nI (i + 2)).toNatClampNeg := ey_4
  refine vp_callSi (runV_rxa (As := [.int (xs (nI (i + 1)).toNatClampNeg), .int (xs (nI (i + 2)).toNatClampNeg)]) (rest := []) S (q_Xstood l D cI cB cZ zz qq vv bt g ad cn In Fn (xs (nI (i + 1)).toNatClampNeg) (xs (nI (i + 2)).toNatClampNeg) hI.1) kV_RL_198 hK hXS hS (exP hP) 0 xo_0 rfl rfl ⟨Nat.le_of_ble_eq_true rfl, Nat.le_of_ble_eq_true rfl⟩ ⟨(by show K + 0 ≤ 600000; omega), (by show N + 0 ≤ 7302250; omega)⟩ rfl hl.1 rfl (Nat.le_of_ble_eq_true rfl) (oc_182 1792 (aq_4 shL_law_1788) uw_0_198)) (fun r4 w4 => ?_)
  refine lv_pop hx hb (oc_87 1795 (aq_7 shL_law_1788)) rfl ?_
  refine lv_aload_n hx hb (oc_44 1796 (aq_8 shL_law_1788)) rfl (lvA2 hl) ?_
  refine lv_aload_n hx hb (oc_42 1797 (aq_9 shL_law_1788)) rfl (lvA0 hl) ?_
  refine lv_iload_n hx hb (oc_29 1798 (aq_10 shL_law_1788)) rfl (lvA3 hl) ?_
  refine lv_iconst (v := 1) hx hb (oc_4 1799 (aq_11 shL_law_1788)) kic_1 ?_
  refine lv_iadd hx hb (oc_96 1800 (aq_12 shL_law_1788)) ?_
  refine lv_topi (fun y_6 ey_6 => ?_)
  obtain rfl : y_6 = nI (i + 1) := ey_6.trans (nI_add i 1)
  refine va_sld hx hb hX hbl hbA hS (vp_in_nI (by omega) (by omega)) (oc_46 1801 (aq_13 shL_law_1788)) ?_
  refine lv_topi (fun y_7 ey_7 => ?_)
  obtain rfl : y_7 = xs (nI (i + 1)).toNatClampNeg := ey_7
  refine lv_aload_n hx hb (oc_42 1802 (aq_14 shL_law_1788)) rfl (lvA0 hl) ?_
  refine lv_iload_n hx hb (oc_29 1803 (aq_15 shL_law_1788)) rfl (lvA3 hl) ?_
  refine lv_iconst (v := 2) hx hb (oc_5 1804 (aq_16 shL_law_1788)) kic_2 ?_
  refine lv_iadd hx hb (oc_96 1805 (aq_17 shL_law_1788)) ?_
  refine lv_topi (fun y_8 ey_8 => ?_)
  obtain rfl : y_8 = nI (i + 2) := ey_8.trans (nI_add i 2)
  refine va_sld hx hb hX hbl hbA hS (vp_in_nI (by omega) (by omega)) (oc_46 1806 (aq_18 shL_law_1788)) ?_
  refine lv_topi (fun y_9 ey_9 => ?_)
  obtain rfl : y_9 = xs (nI (i + 2)).toNatClampNeg := ey_9
  refine vp_callSi (runV_ra (As := [.int (xs (nI (i + 1)).toNatClampNeg), .int (xs (nI (i + 2)).toNatClampNeg)]) (rest := []) S (q_stood l D cI cB cZ g2 c3 I3 F3 (xs (nI (i + 1)).toNatClampNeg) (xs (nI (i + 2)).toNatClampNeg) hM.1) kV_RL_201 hK (exPr hP) 0 rfl rfl rfl ⟨Nat.le_of_ble_eq_true rfl, Nat.le_of_ble_eq_true rfl⟩ ⟨(by show K + 0 ≤ 600000; omega), (by show N + 0 ≤ 7302250; omega)⟩ rfl hl.1 rfl (Nat.le_of_ble_eq_true rfl) (oc_182 1807 (aq_19 shL_law_1788) uw_0_201)) (fun r9 w9 => ?_)
  refine lv_pop hx hb (oc_87 1810 (aq_22 shL_law_1788)) rfl ?_
  refine lv_goto (tgt := 2269) hx hb (oc_167 1811 (aq_23 shL_law_1788) sgw_1_202) rfl ?_
  refine W.widen (k := K + 8) (n := N + 240) (by omega) (by omega) ?_
  exact kk _ _ _ _ _ _ _ _ _ hI hM hR hP hD hS ls hl
set_option maxRecDepth 100000 in
set_option maxHeartbeats 4000000 in
theorem lawc_44 {p : Program} {l : Launch} {e : Env} {s : State} {m : MethodId} {below : List Frame} {meth : Method} {c : Code} {b L : Nat} {xs : Nat → Int32} (C0 : lw_At p s m meth c b L xs) (hLN : L ≤ 3584) {A : Nat → Prop} (hA : ∀ q : Nat, s.heap.size ≤ q → A q) (hbA : ¬ A b) {D : va_G} {cI cB cZ : ClassId} {zz qq vv : Nat} {bt : Nat → Int32} {g g2 : Nat → Nat} (hK : KK D cI cB cZ s) (hXS : XS D zz qq vv bt A s s.heap) {ad : Nat → Nat → Nat} {cn : Nat → Nat} {In : Nat → Int32} {Fn : Nat → Nat → Int32} {c3 : Nat → Nat} {I3 : Nat → Int32} {F3 : Nat → Nat → Int32} (hI : IX ad cn Fn) (hM : IMM c3 F3) (hR : RR cn Fn c3 F3) {H : Heap} {locs : List Loc} (hP : va_P D vwCl (wX cI (D.1 99) zz g ad cn In Fn ++ wM cI cB cZ g2 c3 I3 F3) H) (hD : va_D A (wX cI (D.1 99) zz g ad cn In Fn ++ wM cI cB cZ g2 c3 I3 F3)) (hS : va_S A s.heap H locs) {K N i : Nat} (hi : i + 7 ≤ L) (hKN : K + 8 ≤ 600000 ∧ N + 240 ≤ 7302250) {ls : Array Slot} (hl : lv_has ls 4 [(0, .ref b), (1, .ref (g 0)), (2, .ref (g2 100)), (3, .int (nI i))]) (kk : ∀ (ad : Nat → Nat → Nat) (cn : Nat → Nat) (In : Nat → Int32) (Fn : Nat → Nat → Int32) (c3 : Nat → Nat) (I3 : Nat → Int32) (F3 : Nat → Nat → Int32) (H : Heap) (locs : List Loc), IX ad cn Fn → IMM c3 F3 → RR cn Fn c3 F3 → va_P D vwCl (wX cI (D.1 99) zz g ad cn In Fn ++ wM cI cB cZ g2 c3 I3 F3) H → va_D A (wX cI (D.1 99) zz g ad cn In Fn ++ wM cI cB cZ g2 c3 I3 F3) → va_S A s.heap H locs → ∀ ls : Array Slot, lv_has ls 4 [(0, .ref b), (1, .ref (g 0)), (2, .ref (g2 100)), (3, .int (nI i))] → W p l e room_1 s m #[Value.ref b] below meth c H locs (K + 8) (N + 240) (lw_Z below #[Value.ref b] s) (F0 m 2269 ls [])) : W p l e room_1 s m #[Value.ref b] below meth c H locs K N (lw_Z below #[Value.ref b] s) (F0 m 1814 ls []) := by
  obtain ⟨hx, hb, hr, hml, hown, hts, hX, hbl, hlocks, hgv⟩ := id C0
  have S : SF p m c code 4 s #[Value.ref b] RL := ⟨hx, hb, hml, hown, fun w h => hts w (wT_lw h)⟩
  refine lv_aload_n hx hb (oc_43 1814 shL_law_1814) rfl (lvA1 hl) ?_
  refine lv_aload_n hx hb (oc_42 1815 (aq_1 shL_law_1814)) rfl (lvA0 hl) ?_
  refine lv_iload_n hx hb (oc_29 1816 (aq_2 shL_law_1814)) rfl (lvA3 hl) ?_
  refine lv_iconst (v := 1) hx hb (oc_4 1817 (aq_3 shL_law_1814)) kic_1 ?_
  refine lv_iadd hx hb (oc_96 1818 (aq_4 shL_law_1814)) ?_
  refine lv_topi (fun y_1 ey_1 => ?_)
  obtain rfl : y_1 = nI (i + 1) := ey_1.trans (nI_add i 1)
  refine va_sld hx hb hX hbl hbA hS (vp_in_nI (by omega) (by omega)) (oc_46 1819 (aq_5 shL_law_1814)) ?_
  refine lv_topi (fun y_2 ey_2 => ?_)
  obtain rfl : y_2 = xs (nI (i + 1)).toNatClampNeg := ey_2
  refine vp_callSi (runV_rxa (As := [.int (xs (nI (i + 1)).toNatClampNeg)]) (rest := []) S (q_Xstale l D cI cB cZ zz qq vv bt g ad cn In Fn (xs (nI (i + 1)).toNatClampNeg) hI.1) kV_RL_202 hK hXS hS (exP hP) 0 xo_0 rfl rfl ⟨Nat.le_of_ble_eq_true rfl, Nat.le_of_ble_eq_true rfl⟩ ⟨(by show K + 0 ≤ 600000; omega), (by show N + 0 ≤ 7302250; omega)⟩ rfl hl.1 rfl (Nat.le_of_ble_eq_true rfl) (oc_182 1820 (aq_6 shL_law_1814) uw_0_202)) (fun r2 w2 => ?_)
  refine lv_pop hx hb (oc_87 1823 (aq_9 shL_law_1814)) rfl ?_
  refine lv_aload_n hx hb (oc_44 1824 (aq_10 shL_law_1814)) rfl (lvA2 hl) ?_
  refine lv_aload_n hx hb (oc_42 1825 (aq_11 shL_law_1814)) rfl (lvA0 hl) ?_
  refine lv_iload_n hx hb (oc_29 1826 (aq_12 shL_law_1814)) rfl (lvA3 hl) ?_
  refine lv_iconst (v := 1) hx hb (oc_4 1827 (aq_13 shL_law_1814)) kic_1 ?_
  refine lv_iadd hx hb (oc_96 1828 (aq_14 shL_law_1814)) ?_
  refine lv_topi (fun y_4 ey_4 => ?_)
  obtain rfl : y_4 = nI (i + 1) := ey_4.trans (nI_add i 1)
  refine va_sld hx hb hX hbl hbA hS (vp_in_nI (by omega) (by omega)) (oc_46 1829 (aq_15 shL_law_1814)) ?_
  refine lv_topi (fun y_5 ey_5 => ?_)
  obtain rfl : y_5 = xs (nI (i + 1)).toNatClampNeg := ey_5
  refine vp_callSi (runV_ra (As := [.int (xs (nI (i + 1)).toNatClampNeg)]) (rest := []) S (q_stale l D cI cB cZ g2 c3 I3 F3 (xs (nI (i + 1)).toNatClampNeg) hM.1) kV_RL_205 hK (exPr hP) 0 rfl rfl rfl ⟨Nat.le_of_ble_eq_true rfl, Nat.le_of_ble_eq_true rfl⟩ ⟨(by show K + 0 ≤ 600000; omega), (by show N + 0 ≤ 7302250; omega)⟩ rfl hl.1 rfl (Nat.le_of_ble_eq_true rfl) (oc_182 1830 (aq_16 shL_law_1814) uw_0_205)) (fun r5 w5 => ?_)
  refine lv_pop hx hb (oc_87 1833 (aq_19 shL_law_1814)) rfl ?_
  refine lv_goto (tgt := 2269) hx hb (oc_167 1834 (aq_20 shL_law_1814) sgw_1_179) rfl ?_
  refine W.widen (k := K + 8) (n := N + 240) (by omega) (by omega) ?_
  exact kk _ _ _ _ _ _ _ _ _ hI hM hR hP hD hS ls hl
end

section
set_option maxRecDepth 100000 in
theorem kV_RL_206 : CalV RL 206 yX11_whence cX11_whence 7 (some .int) 2 := ⟨⟨wk5_9 2 rfl rfl, wk5_9 3 rfl rfl, wk5_9 4 rfl rfl, wk1_0 1 rfl rfl, wk5_9 5 rfl rfl⟩, ⟨nmh_0.1, nmh_0.2, pd_17⟩⟩
set_option maxRecDepth 100000 in
theorem kV_RL_209 : CalV RL 209 yX12_whence cX12_whence 3 (some .int) 2 := ⟨⟨wk9_0 9 rfl rfl, wk9_0 10 rfl rfl, wk9_0 11 rfl rfl, wk1_1 1 rfl rfl, wk9_1 0 rfl rfl⟩, ⟨nmh_13.1, nmh_13.2, pd_17⟩⟩
set_option maxRecDepth 100000 in
theorem kV_RL_210 : CalV RL 210 yX11_audit cX11_audit 11 (some .int) 2 := ⟨⟨wk5_9 6 rfl rfl, wk5_9 7 rfl rfl, wk5_9 8 rfl rfl, wk1_0 1 rfl rfl, wk5_9 9 rfl rfl⟩, ⟨nmh_0.1, nmh_0.2, pd_17⟩⟩
set_option maxRecDepth 100000 in
theorem kV_RL_213 : CalV RL 213 yX12_audit cX12_audit 5 (some .int) 2 := ⟨⟨wk9_1 5 rfl rfl, wk9_1 6 rfl rfl, wk9_1 7 rfl rfl, wk1_1 1 rfl rfl, wk9_1 8 rfl rfl⟩, ⟨nmh_13.1, nmh_13.2, pd_17⟩⟩
set_option maxRecDepth 100000 in
theorem kV_RL_214 : CalV RL 214 yX11_use cX11_use 3 (some .boolean) 2 := ⟨⟨wk5_10 2 rfl rfl, wk5_10 3 rfl rfl, wk5_10 4 rfl rfl, wk1_0 1 rfl rfl, wk5_10 5 rfl rfl⟩, ⟨nmh_0.1, nmh_0.2, pd_21⟩⟩
set_option maxRecDepth 100000 in
theorem kV_RL_217 : CalV RL 217 yX12_use cX12_use 3 (some .boolean) 2 := ⟨⟨wk9_2 1 rfl rfl, wk9_2 2 rfl rfl, wk9_2 3 rfl rfl, wk1_1 1 rfl rfl, wk9_2 4 rfl rfl⟩, ⟨nmh_13.1, nmh_13.2, pd_21⟩⟩
set_option maxRecDepth 100000 in
theorem kV_RL_218 : CalV RL 218 yX11_rate cX11_rate 5 (some .boolean) 3 := ⟨⟨wk5_10 6 rfl rfl, wk5_10 7 rfl rfl, wk5_10 8 rfl rfl, wk1_0 1 rfl rfl, wk5_10 9 rfl rfl⟩, ⟨nmh_0.1, nmh_0.2, pd_26⟩⟩
set_option maxRecDepth 100000 in
theorem kV_RL_221 : CalV RL 221 yX12_rate cX12_rate 4 (some .boolean) 3 := ⟨⟨wk9_2 5 rfl rfl, wk9_2 6 rfl rfl, wk9_2 7 rfl rfl, wk1_1 1 rfl rfl, wk9_2 8 rfl rfl⟩, ⟨nmh_13.1, nmh_13.2, pd_26⟩⟩
set_option maxRecDepth 100000 in
theorem kV_RL_222 : CalV RL 222 yX11_tax cX11_tax 4 (some .int) 1 := ⟨⟨wk5_10 10 rfl rfl, wk5_10 11 rfl rfl, wk5_11 0 rfl rfl, wk1_0 1 rfl rfl, wk5_11 1 rfl rfl⟩, ⟨nmh_0.1, nmh_0.2, pd_8⟩⟩
set_option maxRecDepth 100000 in
theorem kV_RL_225 : CalV RL 225 yX12_tax cX12_tax 2 (some .int) 1 := ⟨⟨wk9_2 9 rfl rfl, wk9_2 10 rfl rfl, wk9_2 11 rfl rfl, wk1_1 1 rfl rfl, wk9_3 0 rfl rfl⟩, ⟨nmh_13.1, nmh_13.2, pd_8⟩⟩
set_option maxRecDepth 100000 in
theorem kV_RL_226 : CalV RL 226 yX11_most cX11_most 3 (some .boolean) 2 := ⟨⟨wk5_11 6 rfl rfl, wk5_11 7 rfl rfl, wk5_11 8 rfl rfl, wk1_0 1 rfl rfl, wk5_11 9 rfl rfl⟩, ⟨nmh_0.1, nmh_0.2, pd_21⟩⟩
set_option maxRecDepth 100000 in
theorem kV_RL_229 : CalV RL 229 yX12_most cX12_most 3 (some .boolean) 2 := ⟨⟨wk9_3 1 rfl rfl, wk9_3 2 rfl rfl, wk9_3 3 rfl rfl, wk1_1 1 rfl rfl, wk9_3 4 rfl rfl⟩, ⟨nmh_13.1, nmh_13.2, pd_21⟩⟩
set_option maxRecDepth 100000 in
theorem kV_RL_230 : CalV RL 230 yX11_overdrawn cX11_overdrawn 4 (some .int) 1 := ⟨⟨wk5_11 10 rfl rfl, wk5_11 11 rfl rfl, wk5_12 0 rfl rfl, wk1_0 1 rfl rfl, wk5_12 1 rfl rfl⟩, ⟨nmh_0.1, nmh_0.2, pd_8⟩⟩
set_option maxRecDepth 100000 in
theorem kV_RL_233 : CalV RL 233 yX12_overdrawn cX12_overdrawn 6 (some .int) 1 := ⟨⟨wk9_3 5 rfl rfl, wk9_3 6 rfl rfl, wk9_3 7 rfl rfl, wk1_1 1 rfl rfl, wk9_3 8 rfl rfl⟩, ⟨nmh_13.1, nmh_13.2, pd_8⟩⟩
set_option maxRecDepth 100000 in
theorem kV_RL_234 : CalV RL 234 yX11_sample cX11_sample 4 (some .int) 2 := ⟨⟨wk5_12 6 rfl rfl, wk5_12 7 rfl rfl, wk5_12 8 rfl rfl, wk1_0 1 rfl rfl, wk5_12 9 rfl rfl⟩, ⟨nmh_0.1, nmh_0.2, pd_17⟩⟩
set_option maxRecDepth 100000 in
theorem kV_RL_237 : CalV RL 237 yX12_sample cX12_sample 3 (some .int) 2 := ⟨⟨wk9_3 9 rfl rfl, wk9_3 10 rfl rfl, wk9_3 11 rfl rfl, wk1_1 1 rfl rfl, wk9_4 0 rfl rfl⟩, ⟨nmh_13.1, nmh_13.2, pd_17⟩⟩
set_option maxRecDepth 100000 in
theorem kV_RL_238 : CalV RL 238 yX11_claim cX11_claim 7 (some .int) 3 := ⟨⟨wk5_13 3 rfl rfl, wk5_13 4 rfl rfl, wk5_13 5 rfl rfl, wk1_0 1 rfl rfl, wk5_13 6 rfl rfl⟩, ⟨nmh_0.1, nmh_0.2, pd_22⟩⟩
set_option maxRecDepth 100000 in
theorem kV_RL_241 : CalV RL 241 yX12_claim cX12_claim 6 (some .int) 3 := ⟨⟨wk9_4 1 rfl rfl, wk9_4 2 rfl rfl, wk9_4 3 rfl rfl, wk1_1 1 rfl rfl, wk9_4 4 rfl rfl⟩, ⟨nmh_13.1, nmh_13.2, pd_22⟩⟩
set_option maxRecDepth 100000 in
theorem kV_RL_242 : CalV RL 242 yX11_spill cX11_spill 3 (some .int) 2 := ⟨⟨wk6_5 6 rfl rfl, wk6_5 7 rfl rfl, wk6_5 8 rfl rfl, wk1_0 1 rfl rfl, wk6_5 9 rfl rfl⟩, ⟨nmh_0.1, nmh_0.2, pd_17⟩⟩
set_option maxRecDepth 100000 in
theorem kV_RL_245 : CalV RL 245 yX12_spill cX12_spill 3 (some .int) 2 := ⟨⟨wk9_4 5 rfl rfl, wk9_4 6 rfl rfl, wk9_4 7 rfl rfl, wk1_1 1 rfl rfl, wk9_4 8 rfl rfl⟩, ⟨nmh_13.1, nmh_13.2, pd_17⟩⟩
set_option maxRecDepth 100000 in
theorem kV_RL_246 : CalV RL 246 yX11_stock cX11_stock 4 (some .int) 1 := ⟨⟨wk6_5 10 rfl rfl, wk6_5 11 rfl rfl, wk6_6 0 rfl rfl, wk1_0 1 rfl rfl, wk6_6 1 rfl rfl⟩, ⟨nmh_0.1, nmh_0.2, pd_8⟩⟩
set_option maxRecDepth 100000 in
theorem kV_RL_249 : CalV RL 249 yX12_stock cX12_stock 2 (some .int) 1 := ⟨⟨wk9_4 9 rfl rfl, wk9_4 10 rfl rfl, wk9_4 11 rfl rfl, wk1_1 1 rfl rfl, wk9_5 0 rfl rfl⟩, ⟨nmh_13.1, nmh_13.2, pd_8⟩⟩
set_option maxRecDepth 100000 in
theorem kV_RL_250 : CalV RL 250 yX11_below cX11_below 4 (some .int) 1 := ⟨⟨wk6_6 2 rfl rfl, wk6_6 3 rfl rfl, wk6_6 4 rfl rfl, wk1_0 1 rfl rfl, wk6_6 5 rfl rfl⟩, ⟨nmh_0.1, nmh_0.2, pd_8⟩⟩
set_option maxRecDepth 100000 in
theorem kV_RL_253 : CalV RL 253 yX12_below cX12_below 3 (some .int) 1 := ⟨⟨wk9_5 6 rfl rfl, wk9_5 7 rfl rfl, wk9_5 8 rfl rfl, wk1_1 1 rfl rfl, wk9_5 9 rfl rfl⟩, ⟨nmh_13.1, nmh_13.2, pd_8⟩⟩
set_option maxRecDepth 100000 in
theorem kV_RL_254 : CalV RL 254 yX11_check cX11_check 4 (some .int) 2 := ⟨⟨wk6_6 6 rfl rfl, wk6_6 7 rfl rfl, wk6_6 8 rfl rfl, wk1_0 1 rfl rfl, wk6_6 9 rfl rfl⟩, ⟨nmh_0.1, nmh_0.2, pd_17⟩⟩
set_option maxRecDepth 100000 in
theorem kV_RL_257 : CalV RL 257 yX12_check cX12_check 5 (some .int) 2 := ⟨⟨wk9_10 6 rfl rfl, wk9_10 7 rfl rfl, wk9_10 8 rfl rfl, wk1_1 1 rfl rfl, wk9_10 9 rfl rfl⟩, ⟨nmh_13.1, nmh_13.2, pd_17⟩⟩
set_option maxRecDepth 100000 in
theorem kV_RL_258 : CalV RL 258 yX11_count cX11_count 3 (some .int) 1 := ⟨⟨wk6_7 11 rfl rfl, wk6_8 0 rfl rfl, wk6_8 1 rfl rfl, wk1_0 1 rfl rfl, wk6_8 2 rfl rfl⟩, ⟨nmh_0.1, nmh_0.2, pd_8⟩⟩
set_option maxRecDepth 100000 in
theorem kV_RL_261 : CalV RL 261 yX12_count cX12_count 2 (some .int) 1 := ⟨⟨wk9_11 2 rfl rfl, wk9_11 3 rfl rfl, wk9_11 4 rfl rfl, wk1_1 1 rfl rfl, wk9_11 5 rfl rfl⟩, ⟨nmh_13.1, nmh_13.2, pd_8⟩⟩
set_option maxRecDepth 100000 in
set_option maxHeartbeats 4000000 in
theorem lawc_45 {p : Program} {l : Launch} {e : Env} {s : State} {m : MethodId} {below : List Frame} {meth : Method} {c : Code} {b L : Nat} {xs : Nat → Int32} (C0 : lw_At p s m meth c b L xs) (hLN : L ≤ 3584) {A : Nat → Prop} (hA : ∀ q : Nat, s.heap.size ≤ q → A q) (hbA : ¬ A b) {D : va_G} {cI cB cZ : ClassId} {zz qq vv : Nat} {bt : Nat → Int32} {g g2 : Nat → Nat} (hK : KK D cI cB cZ s) (hXS : XS D zz qq vv bt A s s.heap) {ad : Nat → Nat → Nat} {cn : Nat → Nat} {In : Nat → Int32} {Fn : Nat → Nat → Int32} {c3 : Nat → Nat} {I3 : Nat → Int32} {F3 : Nat → Nat → Int32} (hI : IX ad cn Fn) (hM : IMM c3 F3) (hR : RR cn Fn c3 F3) {H : Heap} {locs : List Loc} (hP : va_P D vwCl (wX cI (D.1 99) zz g ad cn In Fn ++ wM cI cB cZ g2 c3 I3 F3) H) (hD : va_D A (wX cI (D.1 99) zz g ad cn In Fn ++ wM cI cB cZ g2 c3 I3 F3)) (hS : va_S A s.heap H locs) {K N i : Nat} (hi : i + 7 ≤ L) (hKN : K + 8 ≤ 600000 ∧ N + 240 ≤ 7302250) {ls : Array Slot} (hl : lv_has ls 4 [(0, .ref b), (1, .ref (g 0)), (2, .ref (g2 100)), (3, .int (nI i))]) (kk : ∀ (ad : Nat → Nat → Nat) (cn : Nat → Nat) (In : Nat → Int32) (Fn : Nat → Nat → Int32) (c3 : Nat → Nat) (I3 : Nat → Int32) (F3 : Nat → Nat → Int32) (H : Heap) (locs : List Loc), IX ad cn Fn → IMM c3 F3 → RR cn Fn c3 F3 → va_P D vwCl (wX cI (D.1 99) zz g ad cn In Fn ++ wM cI cB cZ g2 c3 I3 F3) H → va_D A (wX cI (D.1 99) zz g ad cn In Fn ++ wM cI cB cZ g2 c3 I3 F3) → va_S A s.heap H locs → ∀ ls : Array Slot, lv_has ls 4 [(0, .ref b), (1, .ref (g 0)), (2, .ref (g2 100)), (3, .int (nI i))] → W p l e room_1 s m #[Value.ref b] below meth c H locs (K + 8) (N + 240) (lw_Z below #[Value.ref b] s) (F0 m 2269 ls [])) : W p l e room_1 s m #[Value.ref b] below meth c H locs K N (lw_Z below #[Value.ref b] s) (F0 m 1837 ls []) := by
  obtain ⟨hx, hb, hr, hml, hown, hts, hX, hbl, hlocks, hgv⟩ := id C0
  have S : SF p m c code 4 s #[Value.ref b] RL := ⟨hx, hb, hml, hown, fun w h => hts w (wT_lw h)⟩
  refine lv_aload_n hx hb (oc_43 1837 (aq_23 shL_law_1814)) rfl (lvA1 hl) ?_
  refine lv_aload_n hx hb (oc_42 1838 shL_law_1838) rfl (lvA0 hl) ?_
  refine lv_iload_n hx hb (oc_29 1839 (aq_1 shL_law_1838)) rfl (lvA3 hl) ?_
  refine lv_iconst (v := 1) hx hb (oc_4 1840 (aq_2 shL_law_1838)) kic_1 ?_
  refine lv_iadd hx hb (oc_96 1841 (aq_3 shL_law_1838)) ?_
  refine lv_topi (fun y_1 ey_1 => ?_)
  obtain rfl : y_1 = nI (i + 1) := ey_1.trans (nI_add i 1)
  refine va_sld hx hb hX hbl hbA hS (vp_in_nI (by omega) (by omega)) (oc_46 1842 (aq_4 shL_law_1838)) ?_
  refine lv_topi (fun y_2 ey_2 => ?_)
  obtain rfl : y_2 = xs (nI (i + 1)).toNatClampNeg := ey_2
  refine lv_aload_n hx hb (oc_42 1843 (aq_5 shL_law_1838)) rfl (lvA0 hl) ?_
  refine lv_iload_n hx hb (oc_29 1844 (aq_6 shL_law_1838)) rfl (lvA3 hl) ?_
  refine lv_iconst (v := 2) hx hb (oc_5 1845 (aq_7 shL_law_1838)) kic_2 ?_
  refine lv_iadd hx hb (oc_96 1846 (aq_8 shL_law_1838)) ?_
  refine lv_topi (fun y_3 ey_3 => ?_)
  obtain rfl : y_3 = nI (i + 2) := ey_3.trans (nI_add i 2)
  refine va_sld hx hb hX hbl hbA hS (vp_in_nI (by omega) (by omega)) (oc_46 1847 (aq_9 shL_law_1838)) ?_
  refine lv_topi (fun y_4 ey_4 => ?_)
  obtain rfl : y_4 = xs (nI (i + 2)).toNatClampNeg := ey_4
  refine vp_callSi (runV_rxa (As := [.int (xs (nI (i + 1)).toNatClampNeg), .int (xs (nI (i + 2)).toNatClampNeg)]) (rest := []) S (q_Xwhence l D cI cB cZ zz qq vv bt g ad cn In Fn (xs (nI (i + 1)).toNatClampNeg) (xs (nI (i + 2)).toNatClampNeg) hI.1) kV_RL_206 hK hXS hS (exP hP) 0 xo_0 rfl rfl ⟨Nat.le_of_ble_eq_true rfl, Nat.le_of_ble_eq_true rfl⟩ ⟨(by show K + 0 ≤ 600000; omega), (by show N + 0 ≤ 7302250; omega)⟩ rfl hl.1 rfl (Nat.le_of_ble_eq_true rfl) (oc_182 1848 (aq_10 shL_law_1838) uw_0_206)) (fun r4 w4 => ?_)
  refine lv_pop hx hb (oc_87 1851 (aq_13 shL_law_1838)) rfl ?_
  refine lv_aload_n hx hb (oc_44 1852 (aq_14 shL_law_1838)) rfl (lvA2 hl) ?_
  refine lv_aload_n hx hb (oc_42 1853 (aq_15 shL_law_1838)) rfl (lvA0 hl) ?_
  refine lv_iload_n hx hb (oc_29 1854 (aq_16 shL_law_1838)) rfl (lvA3 hl) ?_
  refine lv_iconst (v := 1) hx hb (oc_4 1855 (aq_17 shL_law_1838)) kic_1 ?_
  refine lv_iadd hx hb (oc_96 1856 (aq_18 shL_law_1838)) ?_
  refine lv_topi (fun y_6 ey_6 => ?_)
  obtain rfl : y_6 = nI (i + 1) := ey_6.trans (nI_add i 1)
  refine va_sld hx hb hX hbl hbA hS (vp_in_nI (by omega) (by omega)) (oc_46 1857 (aq_19 shL_law_1838)) ?_
  refine lv_topi (fun y_7 ey_7 => ?_)
  obtain rfl : y_7 = xs (nI (i + 1)).toNatClampNeg := ey_7
  refine lv_aload_n hx hb (oc_42 1858 (aq_20 shL_law_1838)) rfl (lvA0 hl) ?_
  refine lv_iload_n hx hb (oc_29 1859 (aq_21 shL_law_1838)) rfl (lvA3 hl) ?_
  refine lv_iconst (v := 2) hx hb (oc_5 1860 (aq_22 shL_law_1838)) kic_2 ?_
  refine lv_iadd hx hb (oc_96 1861 (aq_23 shL_law_1838)) ?_
  refine lv_topi (fun y_8 ey_8 => ?_)
  obtain rfl : y_8 = nI (i + 2) := ey_8.trans (nI_add i 2)
  refine va_sld hx hb hX hbl hbA hS (vp_in_nI (by omega) (by omega)) (oc_46 1862 shL_law_1862) ?_
  refine lv_topi (fun y_9 ey_9 => ?_)
  obtain rfl : y_9 = xs (nI (i + 2)).toNatClampNeg := ey_9
  have hFc := free_all (exDr hD) hS hA
  refine va_calli (runV_a (As := [.int (xs (nI (i + 1)).toNatClampNeg), .int (xs (nI (i + 2)).toNatClampNeg)]) (rest := []) S (q_whence l D cI cB cZ g2 c3 I3 F3 (xs (nI (i + 1)).toNatClampNeg) (xs (nI (i + 2)).toNatClampNeg) H.size hM.1) kV_RL_209 hK (exPr hP) (exDr hD) 0 rfl rfl rfl ⟨Nat.le_of_ble_eq_true rfl, Nat.le_of_ble_eq_true rfl⟩ ⟨(by show K + 0 ≤ 600000; omega), (by show N + 0 ≤ 7302250; omega)⟩ rfl hl.1 rfl (Nat.le_of_ble_eq_true rfl) (oc_182 1863 (aq_1 shL_law_1862) uw_0_209)) hS (fun q _ h => hFc q h) hFc (fun r9 u t H1 locs ht hvm w9 hB1 hz1 hk1 hS => ?_)
  obtain ⟨c9, I9, F9⟩ := u
  obtain ⟨hP1, hD1⟩ := hB1
  rw [ht] at hP1
  obtain ⟨hP, hD⟩ := exjoin hP hD hk1 hFc hP1 hD1
  generalize H1 = H at hP hS ⊢
  obtain ⟨hM, hd9, hf9⟩ := imm_whence hM w9
  have hR := RR.fm hR hd9 hf9 (by decide) (by decide)
  refine lv_pop hx hb (oc_87 1866 (aq_4 shL_law_1862)) rfl ?_
  refine lv_goto (tgt := 2269) hx hb (oc_167 1867 (aq_5 shL_law_1862) sgw_1_146) rfl ?_
  refine W.widen (k := K + 8) (n := N + 240) (by omega) (by omega) ?_
  exact kk _ _ _ _ _ _ _ _ _ hI hM hR hP hD hS ls hl
set_option maxRecDepth 100000 in
set_option maxHeartbeats 4000000 in
theorem lawc_46 {p : Program} {l : Launch} {e : Env} {s : State} {m : MethodId} {below : List Frame} {meth : Method} {c : Code} {b L : Nat} {xs : Nat → Int32} (C0 : lw_At p s m meth c b L xs) (hLN : L ≤ 3584) {A : Nat → Prop} (hA : ∀ q : Nat, s.heap.size ≤ q → A q) (hbA : ¬ A b) {D : va_G} {cI cB cZ : ClassId} {zz qq vv : Nat} {bt : Nat → Int32} {g g2 : Nat → Nat} (hK : KK D cI cB cZ s) (hXS : XS D zz qq vv bt A s s.heap) {ad : Nat → Nat → Nat} {cn : Nat → Nat} {In : Nat → Int32} {Fn : Nat → Nat → Int32} {c3 : Nat → Nat} {I3 : Nat → Int32} {F3 : Nat → Nat → Int32} (hI : IX ad cn Fn) (hM : IMM c3 F3) (hR : RR cn Fn c3 F3) {H : Heap} {locs : List Loc} (hP : va_P D vwCl (wX cI (D.1 99) zz g ad cn In Fn ++ wM cI cB cZ g2 c3 I3 F3) H) (hD : va_D A (wX cI (D.1 99) zz g ad cn In Fn ++ wM cI cB cZ g2 c3 I3 F3)) (hS : va_S A s.heap H locs) {K N i : Nat} (hi : i + 7 ≤ L) (hKN : K + 8 ≤ 600000 ∧ N + 240 ≤ 7302250) {ls : Array Slot} (hl : lv_has ls 4 [(0, .ref b), (1, .ref (g 0)), (2, .ref (g2 100)), (3, .int (nI i))]) (kk : ∀ (ad : Nat → Nat → Nat) (cn : Nat → Nat) (In : Nat → Int32) (Fn : Nat → Nat → Int32) (c3 : Nat → Nat) (I3 : Nat → Int32) (F3 : Nat → Nat → Int32) (H : Heap) (locs : List Loc), IX ad cn Fn → IMM c3 F3 → RR cn Fn c3 F3 → va_P D vwCl (wX cI (D.1 99) zz g ad cn In Fn ++ wM cI cB cZ g2 c3 I3 F3) H → va_D A (wX cI (D.1 99) zz g ad cn In Fn ++ wM cI cB cZ g2 c3 I3 F3) → va_S A s.heap H locs → ∀ ls : Array Slot, lv_has ls 4 [(0, .ref b), (1, .ref (g 0)), (2, .ref (g2 100)), (3, .int (nI i))] → W p l e room_1 s m #[Value.ref b] below meth c H locs (K + 8) (N + 240) (lw_Z below #[Value.ref b] s) (F0 m 2269 ls [])) : W p l e room_1 s m #[Value.ref b] below meth c H locs K N (lw_Z below #[Value.ref b] s) (F0 m 1870 ls []) := by
  obtain ⟨hx, hb, hr, hml, hown, hts, hX, hbl, hlocks, hgv⟩ := id C0
  have S : SF p m c code 4 s #[Value.ref b] RL := ⟨hx, hb, hml, hown, fun w h => hts w (wT_lw h)⟩
  refine lv_aload_n hx hb (oc_43 1870 (aq_8 shL_law_1862)) rfl (lvA1 hl) ?_
  refine lv_aload_n hx hb (oc_42 1871 (aq_9 shL_law_1862)) rfl (lvA0 hl) ?_
  refine lv_iload_n hx hb (oc_29 1872 (aq_10 shL_law_1862)) rfl (lvA3 hl) ?_
  refine lv_iconst (v := 1) hx hb (oc_4 1873 (aq_11 shL_law_1862)) kic_1 ?_
  refine lv_iadd hx hb (oc_96 1874 (aq_12 shL_law_1862)) ?_
  refine lv_topi (fun y_1 ey_1 => ?_)
  obtain rfl : y_1 = nI (i + 1) := ey_1.trans (nI_add i 1)
  refine va_sld hx hb hX hbl hbA hS (vp_in_nI (by omega) (by omega)) (oc_46 1875 (aq_13 shL_law_1862)) ?_
  refine lv_topi (fun y_2 ey_2 => ?_)
  obtain rfl : y_2 = xs (nI (i + 1)).toNatClampNeg := ey_2
  refine lv_aload_n hx hb (oc_42 1876 (aq_14 shL_law_1862)) rfl (lvA0 hl) ?_
  refine lv_iload_n hx hb (oc_29 1877 (aq_15 shL_law_1862)) rfl (lvA3 hl) ?_
  refine lv_iconst (v := 2) hx hb (oc_5 1878 (aq_16 shL_law_1862)) kic_2 ?_
  refine lv_iadd hx hb (oc_96 1879 (aq_17 shL_law_1862)) ?_
  refine lv_topi (fun y_3 ey_3 => ?_)
  obtain rfl : y_3 = nI (i + 2) := ey_3.trans (nI_add i 2)
  refine va_sld hx hb hX hbl hbA hS (vp_in_nI (by omega) (by omega)) (oc_46 1880 (aq_18 shL_law_1862)) ?_
  refine lv_topi (fun y_4 ey_4 => ?_)
  obtain rfl : y_4 = xs (nI (i + 2)).toNatClampNeg := ey_4
  refine vp_callSi (runV_rxa (As := [.int (xs (nI (i + 1)).toNatClampNeg), .int (xs (nI (i + 2)).toNatClampNeg)]) (rest := []) S (q_Xaudit l D cI cB cZ zz qq vv bt g ad cn In Fn (xs (nI (i + 1)).toNatClampNeg) (xs (nI (i + 2)).toNatClampNeg) hI.1) kV_RL_210 hK hXS hS (exP hP) 0 xo_0 rfl rfl ⟨Nat.le_of_ble_eq_true rfl, Nat.le_of_ble_eq_true rfl⟩ ⟨(by show K + 0 ≤ 600000; omega), (by show N + 0 ≤ 7302250; omega)⟩ rfl hl.1 rfl (Nat.le_of_ble_eq_true rfl) (oc_182 1881 (aq_19 shL_law_1862) uw_0_210)) (fun r4 w4 => ?_)
  refine lv_pop hx hb (oc_87 1884 (aq_22 shL_law_1862)) rfl ?_
  refine lv_aload_n hx hb (oc_44 1885 (aq_23 shL_law_1862)) rfl (lvA2 hl) ?_
  refine lv_aload_n hx hb (oc_42 1886 shL_law_1886) rfl (lvA0 hl) ?_
  refine lv_iload_n hx hb (oc_29 1887 (aq_1 shL_law_1886)) rfl (lvA3 hl) ?_
  refine lv_iconst (v := 1) hx hb (oc_4 1888 (aq_2 shL_law_1886)) kic_1 ?_
  refine lv_iadd hx hb (oc_96 1889 (aq_3 shL_law_1886)) ?_
  refine lv_topi (fun y_6 ey_6 => ?_)
  obtain rfl : y_6 = nI (i + 1) := ey_6.trans (nI_add i 1)
  refine va_sld hx hb hX hbl hbA hS (vp_in_nI (by omega) (by omega)) (oc_46 1890 (aq_4 shL_law_1886)) ?_
  refine lv_topi (fun y_7 ey_7 => ?_)
  obtain rfl : y_7 = xs (nI (i + 1)).toNatClampNeg := ey_7
  refine lv_aload_n hx hb (oc_42 1891 (aq_5 shL_law_1886)) rfl (lvA0 hl) ?_
  refine lv_iload_n hx hb (oc_29 1892 (aq_6 shL_law_1886)) rfl (lvA3 hl) ?_
  refine lv_iconst (v := 2) hx hb (oc_5 1893 (aq_7 shL_law_1886)) kic_2 ?_
  refine lv_iadd hx hb (oc_96 1894 (aq_8 shL_law_1886)) ?_
  refine lv_topi (fun y_8 ey_8 => ?_)
  obtain rfl : y_8 = nI (i + 2) := ey_8.trans (nI_add i 2)
  refine va_sld hx hb hX hbl hbA hS (vp_in_nI (by omega) (by omega)) (oc_46 1895 (aq_9 shL_law_1886)) ?_
  refine lv_topi (fun y_9 ey_9 => ?_)
  obtain rfl : y_9 = xs (nI (i + 2)).toNatClampNeg := ey_9
  refine vp_callSi (runV_ra (As := [.int (xs (nI (i + 1)).toNatClampNeg), .int (xs (nI (i + 2)).toNatClampNeg)]) (rest := []) S (q_audit l D cI cB cZ g2 c3 I3 F3 (xs (nI (i + 1)).toNatClampNeg) (xs (nI (i + 2)).toNatClampNeg) hM.1) kV_RL_213 hK (exPr hP) 0 rfl rfl rfl ⟨Nat.le_of_ble_eq_true rfl, Nat.le_of_ble_eq_true rfl⟩ ⟨(by show K + 0 ≤ 600000; omega), (by show N + 0 ≤ 7302250; omega)⟩ rfl hl.1 rfl (Nat.le_of_ble_eq_true rfl) (oc_182 1896 (aq_10 shL_law_1886) uw_0_213)) (fun r9 w9 => ?_)
  refine lv_pop hx hb (oc_87 1899 (aq_13 shL_law_1886)) rfl ?_
  refine lv_goto (tgt := 2269) hx hb (oc_167 1900 (aq_14 shL_law_1886) sgw_1_113) rfl ?_
  refine W.widen (k := K + 8) (n := N + 240) (by omega) (by omega) ?_
  exact kk _ _ _ _ _ _ _ _ _ hI hM hR hP hD hS ls hl
set_option maxRecDepth 100000 in
set_option maxHeartbeats 4000000 in
theorem lawc_47 {p : Program} {l : Launch} {e : Env} {s : State} {m : MethodId} {below : List Frame} {meth : Method} {c : Code} {b L : Nat} {xs : Nat → Int32} (C0 : lw_At p s m meth c b L xs) (hLN : L ≤ 3584) {A : Nat → Prop} (hA : ∀ q : Nat, s.heap.size ≤ q → A q) (hbA : ¬ A b) {D : va_G} {cI cB cZ : ClassId} {zz qq vv : Nat} {bt : Nat → Int32} {g g2 : Nat → Nat} (hK : KK D cI cB cZ s) (hXS : XS D zz qq vv bt A s s.heap) {ad : Nat → Nat → Nat} {cn : Nat → Nat} {In : Nat → Int32} {Fn : Nat → Nat → Int32} {c3 : Nat → Nat} {I3 : Nat → Int32} {F3 : Nat → Nat → Int32} (hI : IX ad cn Fn) (hM : IMM c3 F3) (hR : RR cn Fn c3 F3) {H : Heap} {locs : List Loc} (hP : va_P D vwCl (wX cI (D.1 99) zz g ad cn In Fn ++ wM cI cB cZ g2 c3 I3 F3) H) (hD : va_D A (wX cI (D.1 99) zz g ad cn In Fn ++ wM cI cB cZ g2 c3 I3 F3)) (hS : va_S A s.heap H locs) {K N i : Nat} (hi : i + 7 ≤ L) (hKN : K + 8 ≤ 600000 ∧ N + 240 ≤ 7302250) {ls : Array Slot} (hl : lv_has ls 4 [(0, .ref b), (1, .ref (g 0)), (2, .ref (g2 100)), (3, .int (nI i))]) (kk : ∀ (ad : Nat → Nat → Nat) (cn : Nat → Nat) (In : Nat → Int32) (Fn : Nat → Nat → Int32) (c3 : Nat → Nat) (I3 : Nat → Int32) (F3 : Nat → Nat → Int32) (H : Heap) (locs : List Loc), IX ad cn Fn → IMM c3 F3 → RR cn Fn c3 F3 → va_P D vwCl (wX cI (D.1 99) zz g ad cn In Fn ++ wM cI cB cZ g2 c3 I3 F3) H → va_D A (wX cI (D.1 99) zz g ad cn In Fn ++ wM cI cB cZ g2 c3 I3 F3) → va_S A s.heap H locs → ∀ ls : Array Slot, lv_has ls 4 [(0, .ref b), (1, .ref (g 0)), (2, .ref (g2 100)), (3, .int (nI i))] → W p l e room_1 s m #[Value.ref b] below meth c H locs (K + 8) (N + 240) (lw_Z below #[Value.ref b] s) (F0 m 2269 ls [])) : W p l e room_1 s m #[Value.ref b] below meth c H locs K N (lw_Z below #[Value.ref b] s) (F0 m 1903 ls []) := by
  obtain ⟨hx, hb, hr, hml, hown, hts, hX, hbl, hlocks, hgv⟩ := id C0
  have S : SF p m c code 4 s #[Value.ref b] RL := ⟨hx, hb, hml, hown, fun w h => hts w (wT_lw h)⟩
  refine lv_aload_n hx hb (oc_43 1903 (aq_17 shL_law_1886)) rfl (lvA1 hl) ?_
  refine lv_aload_n hx hb (oc_42 1904 (aq_18 shL_law_1886)) rfl (lvA0 hl) ?_
  refine lv_iload_n hx hb (oc_29 1905 (aq_19 shL_law_1886)) rfl (lvA3 hl) ?_
  refine lv_iconst (v := 1) hx hb (oc_4 1906 (aq_20 shL_law_1886)) kic_1 ?_
  refine lv_iadd hx hb (oc_96 1907 (aq_21 shL_law_1886)) ?_
  refine lv_topi (fun y_1 ey_1 => ?_)
  obtain rfl : y_1 = nI (i + 1) := ey_1.trans (nI_add i 1)
  refine va_sld hx hb hX hbl hbA hS (vp_in_nI (by omega) (by omega)) (oc_46 1908 (aq_22 shL_law_1886)) ?_
  refine lv_topi (fun y_2 ey_2 => ?_)
  obtain rfl : y_2 = xs (nI (i + 1)).toNatClampNeg := ey_2
  refine lv_aload_n hx hb (oc_42 1909 (aq_23 shL_law_1886)) rfl (lvA0 hl) ?_
  refine lv_iload_n hx hb (oc_29 1910 shL_law_1910) rfl (lvA3 hl) ?_
  refine lv_iconst (v := 2) hx hb (oc_5 1911 (aq_1 shL_law_1910)) kic_2 ?_
  refine lv_iadd hx hb (oc_96 1912 (aq_2 shL_law_1910)) ?_
  refine lv_topi (fun y_3 ey_3 => ?_)
  obtain rfl : y_3 = nI (i + 2) := ey_3.trans (nI_add i 2)
  refine va_sld hx hb hX hbl hbA hS (vp_in_nI (by omega) (by omega)) (oc_46 1913 (aq_3 shL_law_1910)) ?_
  refine lv_topi (fun y_4 ey_4 => ?_)
  obtain rfl : y_4 = xs (nI (i + 2)).toNatClampNeg := ey_4
  have hFc := free_all (exD hD) hS hA
  refine va_calli (runV_xa (As := [.int (xs (nI (i + 1)).toNatClampNeg), .int (xs (nI (i + 2)).toNatClampNeg)]) (rest := []) S (q_Xuse l D cI cB cZ zz qq vv bt g ad cn In Fn (xs (nI (i + 1)).toNatClampNeg) (xs (nI (i + 2)).toNatClampNeg) H.size hI.1) kV_RL_214 hK hXS hS hFc (exP hP) (exD hD) 0 xo_0 rfl rfl ⟨Nat.le_of_ble_eq_true rfl, Nat.le_of_ble_eq_true rfl⟩ ⟨(by show K + 0 ≤ 600000; omega), (by show N + 0 ≤ 7302250; omega)⟩ rfl hl.1 rfl (Nat.le_of_ble_eq_true rfl) (oc_182 1914 (aq_4 shL_law_1910) uw_0_214)) hS (fun q _ h => hFc q h) hFc (fun r4 u t H1 locs ht hvm w4 hB1 hz1 hk1 hS => ?_)
  obtain ⟨c4, I4, F4⟩ := u
  obtain ⟨hP1, hD1⟩ := hB1
  rw [ht] at hP1
  obtain ⟨hP, hD⟩ := exjoinL hP hD hk1 hFc hP1 hD1
  generalize H1 = H at hP hS ⊢
  have hd4 := w4.1.1
  have hf4 := w4.1.2.2
  have hI := IX.fr hI w4.1 w4.2.1 (by decide) (by decide)
  have hR := RR.fx hR hd4 hf4 (by decide) (by decide)
  refine lv_pop hx hb (oc_87 1917 (aq_7 shL_law_1910)) rfl ?_
  refine lv_aload_n hx hb (oc_44 1918 (aq_8 shL_law_1910)) rfl (lvA2 hl) ?_
  refine lv_aload_n hx hb (oc_42 1919 (aq_9 shL_law_1910)) rfl (lvA0 hl) ?_
  refine lv_iload_n hx hb (oc_29 1920 (aq_10 shL_law_1910)) rfl (lvA3 hl) ?_
  refine lv_iconst (v := 1) hx hb (oc_4 1921 (aq_11 shL_law_1910)) kic_1 ?_
  refine lv_iadd hx hb (oc_96 1922 (aq_12 shL_law_1910)) ?_
  refine lv_topi (fun y_6 ey_6 => ?_)
  obtain rfl : y_6 = nI (i + 1) := ey_6.trans (nI_add i 1)
  refine va_sld hx hb hX hbl hbA hS (vp_in_nI (by omega) (by omega)) (oc_46 1923 (aq_13 shL_law_1910)) ?_
  refine lv_topi (fun y_7 ey_7 => ?_)
  obtain rfl : y_7 = xs (nI (i + 1)).toNatClampNeg := ey_7
  refine lv_aload_n hx hb (oc_42 1924 (aq_14 shL_law_1910)) rfl (lvA0 hl) ?_
  refine lv_iload_n hx hb (oc_29 1925 (aq_15 shL_law_1910)) rfl (lvA3 hl) ?_
  refine lv_iconst (v := 2) hx hb (oc_5 1926 (aq_16 shL_law_1910)) kic_2 ?_
  refine lv_iadd hx hb (oc_96 1927 (aq_17 shL_law_1910)) ?_
  refine lv_topi (fun y_8 ey_8 => ?_)
  obtain rfl : y_8 = nI (i + 2) := ey_8.trans (nI_add i 2)
  refine va_sld hx hb hX hbl hbA hS (vp_in_nI (by omega) (by omega)) (oc_46 1928 (aq_18 shL_law_1910)) ?_
  refine lv_topi (fun y_9 ey_9 => ?_)
  obtain rfl : y_9 = xs (nI (i + 2)).toNatClampNeg := ey_9
  have hFc := free_all (exDr hD) hS hA
  refine va_calli (runV_a (As := [.int (xs (nI (i + 1)).toNatClampNeg), .int (xs (nI (i + 2)).toNatClampNeg)]) (rest := []) S (q_use l D cI cB cZ g2 c3 I3 F3 (xs (nI (i + 1)).toNatClampNeg) (xs (nI (i + 2)).toNatClampNeg) H.size hM.1) kV_RL_217 hK (exPr hP) (exDr hD) 0 rfl rfl rfl ⟨Nat.le_of_ble_eq_true rfl, Nat.le_of_ble_eq_true rfl⟩ ⟨(by show K + 0 ≤ 600000; omega), (by show N + 0 ≤ 7302250; omega)⟩ rfl hl.1 rfl (Nat.le_of_ble_eq_true rfl) (oc_182 1929 (aq_19 shL_law_1910) uw_0_217)) hS (fun q _ h => hFc q h) hFc (fun r9 u t H1 locs ht hvm w9 hB1 hz1 hk1 hS => ?_)
  obtain ⟨c9, I9, F9⟩ := u
  obtain ⟨hP1, hD1⟩ := hB1
  rw [ht] at hP1
  obtain ⟨hP, hD⟩ := exjoin hP hD hk1 hFc hP1 hD1
  generalize H1 = H at hP hS ⊢
  obtain ⟨hM, hd9, hf9⟩ := imm_use hM w9
  have hR := RR.fm hR hd9 hf9 (by decide) (by decide)
  refine lv_pop hx hb (oc_87 1932 (aq_22 shL_law_1910)) rfl ?_
  refine lv_goto (tgt := 2269) hx hb (oc_167 1933 (aq_23 shL_law_1910) sgw_1_80) rfl ?_
  refine W.widen (k := K + 8) (n := N + 240) (by omega) (by omega) ?_
  exact kk _ _ _ _ _ _ _ _ _ hI hM hR hP hD hS ls hl
set_option maxRecDepth 100000 in
set_option maxHeartbeats 4000000 in
theorem lawc_48 {p : Program} {l : Launch} {e : Env} {s : State} {m : MethodId} {below : List Frame} {meth : Method} {c : Code} {b L : Nat} {xs : Nat → Int32} (C0 : lw_At p s m meth c b L xs) (hLN : L ≤ 3584) {A : Nat → Prop} (hA : ∀ q : Nat, s.heap.size ≤ q → A q) (hbA : ¬ A b) {D : va_G} {cI cB cZ : ClassId} {zz qq vv : Nat} {bt : Nat → Int32} {g g2 : Nat → Nat} (hK : KK D cI cB cZ s) (hXS : XS D zz qq vv bt A s s.heap) {ad : Nat → Nat → Nat} {cn : Nat → Nat} {In : Nat → Int32} {Fn : Nat → Nat → Int32} {c3 : Nat → Nat} {I3 : Nat → Int32} {F3 : Nat → Nat → Int32} (hI : IX ad cn Fn) (hM : IMM c3 F3) (hR : RR cn Fn c3 F3) {H : Heap} {locs : List Loc} (hP : va_P D vwCl (wX cI (D.1 99) zz g ad cn In Fn ++ wM cI cB cZ g2 c3 I3 F3) H) (hD : va_D A (wX cI (D.1 99) zz g ad cn In Fn ++ wM cI cB cZ g2 c3 I3 F3)) (hS : va_S A s.heap H locs) {K N i : Nat} (hi : i + 7 ≤ L) (hKN : K + 8 ≤ 600000 ∧ N + 240 ≤ 7302250) {ls : Array Slot} (hl : lv_has ls 4 [(0, .ref b), (1, .ref (g 0)), (2, .ref (g2 100)), (3, .int (nI i))]) (kk : ∀ (ad : Nat → Nat → Nat) (cn : Nat → Nat) (In : Nat → Int32) (Fn : Nat → Nat → Int32) (c3 : Nat → Nat) (I3 : Nat → Int32) (F3 : Nat → Nat → Int32) (H : Heap) (locs : List Loc), IX ad cn Fn → IMM c3 F3 → RR cn Fn c3 F3 → va_P D vwCl (wX cI (D.1 99) zz g ad cn In Fn ++ wM cI cB cZ g2 c3 I3 F3) H → va_D A (wX cI (D.1 99) zz g ad cn In Fn ++ wM cI cB cZ g2 c3 I3 F3) → va_S A s.heap H locs → ∀ ls : Array Slot, lv_has ls 4 [(0, .ref b), (1, .ref (g 0)), (2, .ref (g2 100)), (3, .int (nI i))] → W p l e room_1 s m #[Value.ref b] below meth c H locs (K + 8) (N + 240) (lw_Z below #[Value.ref b] s) (F0 m 2269 ls [])) : W p l e room_1 s m #[Value.ref b] below meth c H locs K N (lw_Z below #[Value.ref b] s) (F0 m 1936 ls []) := by
  obtain ⟨hx, hb, hr, hml, hown, hts, hX, hbl, hlocks, hgv⟩ := id C0
  have S : SF p m c code 4 s #[Value.ref b] RL := ⟨hx, hb, hml, hown, fun w h => hts w (wT_lw h)⟩
  refine lv_aload_n hx hb (oc_43 1936 shL_law_1936) rfl (lvA1 hl) ?_
  refine lv_aload_n hx hb (oc_42 1937 (aq_1 shL_law_1936)) rfl (lvA0 hl) ?_
  refine lv_iload_n hx hb (oc_29 1938 (aq_2 shL_law_1936)) rfl (lvA3 hl) ?_
  refine lv_iconst (v := 1) hx hb (oc_4 1939 (aq_3 shL_law_1936)) kic_1 ?_
  refine lv_iadd hx hb (oc_96 1940 (aq_4 shL_law_1936)) ?_
  refine lv_topi (fun y_1 ey_1 => ?_)
  obtain rfl : y_1 = nI (i + 1) := ey_1.trans (nI_add i 1)
  refine va_sld hx hb hX hbl hbA hS (vp_in_nI (by omega) (by omega)) (oc_46 1941 (aq_5 shL_law_1936)) ?_
  refine lv_topi (fun y_2 ey_2 => ?_)
  obtain rfl : y_2 = xs (nI (i + 1)).toNatClampNeg := ey_2
  refine lv_aload_n hx hb (oc_42 1942 (aq_6 shL_law_1936)) rfl (lvA0 hl) ?_
  refine lv_iload_n hx hb (oc_29 1943 (aq_7 shL_law_1936)) rfl (lvA3 hl) ?_
  refine lv_iconst (v := 2) hx hb (oc_5 1944 (aq_8 shL_law_1936)) kic_2 ?_
  refine lv_iadd hx hb (oc_96 1945 (aq_9 shL_law_1936)) ?_
  refine lv_topi (fun y_3 ey_3 => ?_)
  obtain rfl : y_3 = nI (i + 2) := ey_3.trans (nI_add i 2)
  refine va_sld hx hb hX hbl hbA hS (vp_in_nI (by omega) (by omega)) (oc_46 1946 (aq_10 shL_law_1936)) ?_
  refine lv_topi (fun y_4 ey_4 => ?_)
  obtain rfl : y_4 = xs (nI (i + 2)).toNatClampNeg := ey_4
  refine lv_aload_n hx hb (oc_42 1947 (aq_11 shL_law_1936)) rfl (lvA0 hl) ?_
  refine lv_iload_n hx hb (oc_29 1948 (aq_12 shL_law_1936)) rfl (lvA3 hl) ?_
  refine lv_iconst (v := 3) hx hb (oc_6 1949 (aq_13 shL_law_1936)) kic_3 ?_
  refine lv_iadd hx hb (oc_96 1950 (aq_14 shL_law_1936)) ?_
  refine lv_topi (fun y_5 ey_5 => ?_)
  obtain rfl : y_5 = nI (i + 3) := ey_5.trans (nI_add i 3)
  refine va_sld hx hb hX hbl hbA hS (vp_in_nI (by omega) (by omega)) (oc_46 1951 (aq_15 shL_law_1936)) ?_
  refine lv_topi (fun y_6 ey_6 => ?_)
  obtain rfl : y_6 = xs (nI (i + 3)).toNatClampNeg := ey_6
  have hFc := free_all (exD hD) hS hA
  refine va_calli (runV_xa (As := [.int (xs (nI (i + 1)).toNatClampNeg), .int (xs (nI (i + 2)).toNatClampNeg), .int (xs (nI (i + 3)).toNatClampNeg)]) (rest := []) S (q_Xrate l D cI cB cZ zz qq vv bt g ad cn In Fn (xs (nI (i + 1)).toNatClampNeg) (xs (nI (i + 2)).toNatClampNeg) (xs (nI (i + 3)).toNatClampNeg) H.size hI.1) kV_RL_218 hK hXS hS hFc (exP hP) (exD hD) 0 xo_0 rfl rfl ⟨Nat.le_of_ble_eq_true rfl, Nat.le_of_ble_eq_true rfl⟩ ⟨(by show K + 0 ≤ 600000; omega), (by show N + 0 ≤ 7302250; omega)⟩ rfl hl.1 rfl (Nat.le_of_ble_eq_true rfl) (oc_182 1952 (aq_16 shL_law_1936) uw_0_218)) hS (fun q _ h => hFc q h) hFc (fun r6 u t H1 locs ht hvm w6 hB1 hz1 hk1 hS => ?_)
  obtain ⟨c6, I6, F6⟩ := u
  obtain ⟨hP1, hD1⟩ := hB1
  rw [ht] at hP1
  obtain ⟨hP, hD⟩ := exjoinL hP hD hk1 hFc hP1 hD1
  generalize H1 = H at hP hS ⊢
  have hd6 := w6.1.1
  have hf6 := w6.1.2.2
  have hI := IX.fr hI w6.1 w6.2.1 (by decide) (by decide)
  have hR := RR.fx hR hd6 hf6 (by decide) (by decide)
  refine lv_pop hx hb (oc_87 1955 (aq_19 shL_law_1936)) rfl ?_
  refine lv_aload_n hx hb (oc_44 1956 (aq_20 shL_law_1936)) rfl (lvA2 hl) ?_
  refine lv_aload_n hx hb (oc_42 1957 (aq_21 shL_law_1936)) rfl (lvA0 hl) ?_
  refine lv_iload_n hx hb (oc_29 1958 (aq_22 shL_law_1936)) rfl (lvA3 hl) ?_
  refine lv_iconst (v := 1) hx hb (oc_4 1959 (aq_23 shL_law_1936)) kic_1 ?_
  refine lv_iadd hx hb (oc_96 1960 shL_law_1960) ?_
  refine lv_topi (fun y_8 ey_8 => ?_)
  obtain rfl : y_8 = nI (i + 1) := ey_8.trans (nI_add i 1)
  refine va_sld hx hb hX hbl hbA hS (vp_in_nI (by omega) (by omega)) (oc_46 1961 (aq_1 shL_law_1960)) ?_
  refine lv_topi (fun y_9 ey_9 => ?_)
  obtain rfl : y_9 = xs (nI (i + 1)).toNatClampNeg := ey_9
  refine lv_aload_n hx hb (oc_42 1962 (aq_2 shL_law_1960)) rfl (lvA0 hl) ?_
  refine lv_iload_n hx hb (oc_29 1963 (aq_3 shL_law_1960)) rfl (lvA3 hl) ?_
  refine lv_iconst (v := 2) hx hb (oc_5 1964 (aq_4 shL_law_1960)) kic_2 ?_
  refine lv_iadd hx hb (oc_96 1965 (aq_5 shL_law_1960)) ?_
  refine lv_topi (fun y_10 ey_10 => ?_)
  obtain rfl : y_10 = nI (i + 2) := ey_10.trans (nI_add i 2)
  refine va_sld hx hb hX hbl hbA hS (vp_in_nI (by omega) (by omega)) (oc_46 1966 (aq_6 shL_law_1960)) ?_
  refine lv_topi (fun y_11 ey_11 => ?_)
  obtain rfl : y_11 = xs (nI (i + 2)).toNatClampNeg := ey_11
  refine lv_aload_n hx hb (oc_42 1967 (aq_7 shL_law_1960)) rfl (lvA0 hl) ?_
  refine lv_iload_n hx hb (oc_29 1968 (aq_8 shL_law_1960)) rfl (lvA3 hl) ?_
  refine lv_iconst (v := 3) hx hb (oc_6 1969 (aq_9 shL_law_1960)) kic_3 ?_
  refine lv_iadd hx hb (oc_96 1970 (aq_10 shL_law_1960)) ?_
  refine lv_topi (fun y_12 ey_12 => ?_)
  obtain rfl : y_12 = nI (i + 3) := ey_12.trans (nI_add i 3)
  refine va_sld hx hb hX hbl hbA hS (vp_in_nI (by omega) (by omega)) (oc_46 1971 (aq_11 shL_law_1960)) ?_
  refine lv_topi (fun y_13 ey_13 => ?_)
  obtain rfl : y_13 = xs (nI (i + 3)).toNatClampNeg := ey_13
  have hFc := free_all (exDr hD) hS hA
  refine va_calli (runV_a (As := [.int (xs (nI (i + 1)).toNatClampNeg), .int (xs (nI (i + 2)).toNatClampNeg), .int (xs (nI (i + 3)).toNatClampNeg)]) (rest := []) S (q_rate l D cI cB cZ g2 c3 I3 F3 (xs (nI (i + 1)).toNatClampNeg) (xs (nI (i + 2)).toNatClampNeg) (xs (nI (i + 3)).toNatClampNeg) H.size hM.1) kV_RL_221 hK (exPr hP) (exDr hD) 0 rfl rfl rfl ⟨Nat.le_of_ble_eq_true rfl, Nat.le_of_ble_eq_true rfl⟩ ⟨(by show K + 0 ≤ 600000; omega), (by show N + 0 ≤ 7302250; omega)⟩ rfl hl.1 rfl (Nat.le_of_ble_eq_true rfl) (oc_182 1972 (aq_12 shL_law_1960) uw_0_221)) hS (fun q _ h => hFc q h) hFc (fun r13 u t H1 locs ht hvm w13 hB1 hz1 hk1 hS => ?_)
  obtain ⟨c13, I13, F13⟩ := u
  obtain ⟨hP1, hD1⟩ := hB1
  rw [ht] at hP1
  obtain ⟨hP, hD⟩ := exjoin hP hD hk1 hFc hP1 hD1
  generalize H1 = H at hP hS ⊢
  obtain ⟨hM, hd13, hf13⟩ := imm_rate hM w13
  have hR := RR.fm hR hd13 hf13 (by decide) (by decide)
  refine lv_pop hx hb (oc_87 1975 (aq_15 shL_law_1960)) rfl ?_
  refine lv_goto (tgt := 2269) hx hb (oc_167 1976 (aq_16 shL_law_1960) sgw_1_37) rfl ?_
  refine W.widen (k := K + 8) (n := N + 240) (by omega) (by omega) ?_
  exact kk _ _ _ _ _ _ _ _ _ hI hM hR hP hD hS ls hl
set_option maxRecDepth 100000 in
set_option maxHeartbeats 4000000 in
theorem lawc_49 {p : Program} {l : Launch} {e : Env} {s : State} {m : MethodId} {below : List Frame} {meth : Method} {c : Code} {b L : Nat} {xs : Nat → Int32} (C0 : lw_At p s m meth c b L xs) (hLN : L ≤ 3584) {A : Nat → Prop} (hA : ∀ q : Nat, s.heap.size ≤ q → A q) (hbA : ¬ A b) {D : va_G} {cI cB cZ : ClassId} {zz qq vv : Nat} {bt : Nat → Int32} {g g2 : Nat → Nat} (hK : KK D cI cB cZ s) (hXS : XS D zz qq vv bt A s s.heap) {ad : Nat → Nat → Nat} {cn : Nat → Nat} {In : Nat → Int32} {Fn : Nat → Nat → Int32} {c3 : Nat → Nat} {I3 : Nat → Int32} {F3 : Nat → Nat → Int32} (hI : IX ad cn Fn) (hM : IMM c3 F3) (hR : RR cn Fn c3 F3) {H : Heap} {locs : List Loc} (hP : va_P D vwCl (wX cI (D.1 99) zz g ad cn In Fn ++ wM cI cB cZ g2 c3 I3 F3) H) (hD : va_D A (wX cI (D.1 99) zz g ad cn In Fn ++ wM cI cB cZ g2 c3 I3 F3)) (hS : va_S A s.heap H locs) {K N i : Nat} (hi : i + 7 ≤ L) (hKN : K + 8 ≤ 600000 ∧ N + 240 ≤ 7302250) {ls : Array Slot} (hl : lv_has ls 4 [(0, .ref b), (1, .ref (g 0)), (2, .ref (g2 100)), (3, .int (nI i))]) (kk : ∀ (ad : Nat → Nat → Nat) (cn : Nat → Nat) (In : Nat → Int32) (Fn : Nat → Nat → Int32) (c3 : Nat → Nat) (I3 : Nat → Int32) (F3 : Nat → Nat → Int32) (H : Heap) (locs : List Loc), IX ad cn Fn → IMM c3 F3 → RR cn Fn c3 F3 → va_P D vwCl (wX cI (D.1 99) zz g ad cn In Fn ++ wM cI cB cZ g2 c3 I3 F3) H → va_D A (wX cI (D.1 99) zz g ad cn In Fn ++ wM cI cB cZ g2 c3 I3 F3) → va_S A s.heap H locs → ∀ ls : Array Slot, lv_has ls 4 [(0, .ref b), (1, .ref (g 0)), (2, .ref (g2 100)), (3, .int (nI i))] → W p l e room_1 s m #[Value.ref b] below meth c H locs (K + 8) (N + 240) (lw_Z below #[Value.ref b] s) (F0 m 2269 ls [])) : W p l e room_1 s m #[Value.ref b] below meth c H locs K N (lw_Z below #[Value.ref b] s) (F0 m 1979 ls []) := by
  obtain ⟨hx, hb, hr, hml, hown, hts, hX, hbl, hlocks, hgv⟩ := id C0
  have S : SF p m c code 4 s #[Value.ref b] RL := ⟨hx, hb, hml, hown, fun w h => hts w (wT_lw h)⟩
  refine lv_aload_n hx hb (oc_43 1979 (aq_19 shL_law_1960)) rfl (lvA1 hl) ?_
  refine lv_aload_n hx hb (oc_42 1980 (aq_20 shL_law_1960)) rfl (lvA0 hl) ?_
  refine lv_iload_n hx hb (oc_29 1981 (aq_21 shL_law_1960)) rfl (lvA3 hl) ?_
  refine lv_iconst (v := 1) hx hb (oc_4 1982 (aq_22 shL_law_1960)) kic_1 ?_
  refine lv_iadd hx hb (oc_96 1983 (aq_23 shL_law_1960)) ?_
  refine lv_topi (fun y_1 ey_1 => ?_)
  obtain rfl : y_1 = nI (i + 1) := ey_1.trans (nI_add i 1)
  refine va_sld hx hb hX hbl hbA hS (vp_in_nI (by omega) (by omega)) (oc_46 1984 shL_law_1984) ?_
  refine lv_topi (fun y_2 ey_2 => ?_)
  obtain rfl : y_2 = xs (nI (i + 1)).toNatClampNeg := ey_2
  refine vp_callSi (runV_rxa (As := [.int (xs (nI (i + 1)).toNatClampNeg)]) (rest := []) S (q_Xtax l D cI cB cZ zz qq vv bt g ad cn In Fn (xs (nI (i + 1)).toNatClampNeg) hI.1) kV_RL_222 hK hXS hS (exP hP) 0 xo_0 rfl rfl ⟨Nat.le_of_ble_eq_true rfl, Nat.le_of_ble_eq_true rfl⟩ ⟨(by show K + 0 ≤ 600000; omega), (by show N + 0 ≤ 7302250; omega)⟩ rfl hl.1 rfl (Nat.le_of_ble_eq_true rfl) (oc_182 1985 (aq_1 shL_law_1984) uw_0_222)) (fun r2 w2 => ?_)
  refine lv_pop hx hb (oc_87 1988 (aq_4 shL_law_1984)) rfl ?_
  refine lv_aload_n hx hb (oc_44 1989 (aq_5 shL_law_1984)) rfl (lvA2 hl) ?_
  refine lv_aload_n hx hb (oc_42 1990 (aq_6 shL_law_1984)) rfl (lvA0 hl) ?_
  refine lv_iload_n hx hb (oc_29 1991 (aq_7 shL_law_1984)) rfl (lvA3 hl) ?_
  refine lv_iconst (v := 1) hx hb (oc_4 1992 (aq_8 shL_law_1984)) kic_1 ?_
  refine lv_iadd hx hb (oc_96 1993 (aq_9 shL_law_1984)) ?_
  refine lv_topi (fun y_4 ey_4 => ?_)
  obtain rfl : y_4 = nI (i + 1) := ey_4.trans (nI_add i 1)
  refine va_sld hx hb hX hbl hbA hS (vp_in_nI (by omega) (by omega)) (oc_46 1994 (aq_10 shL_law_1984)) ?_
  refine lv_topi (fun y_5 ey_5 => ?_)
  obtain rfl : y_5 = xs (nI (i + 1)).toNatClampNeg := ey_5
  refine vp_callSi (runV_ra (As := [.int (xs (nI (i + 1)).toNatClampNeg)]) (rest := []) S (q_tax l D cI cB cZ g2 c3 I3 F3 (xs (nI (i + 1)).toNatClampNeg) hM.1) kV_RL_225 hK (exPr hP) 0 rfl rfl rfl ⟨Nat.le_of_ble_eq_true rfl, Nat.le_of_ble_eq_true rfl⟩ ⟨(by show K + 0 ≤ 600000; omega), (by show N + 0 ≤ 7302250; omega)⟩ rfl hl.1 rfl (Nat.le_of_ble_eq_true rfl) (oc_182 1995 (aq_11 shL_law_1984) uw_0_225)) (fun r5 w5 => ?_)
  refine lv_pop hx hb (oc_87 1998 (aq_14 shL_law_1984)) rfl ?_
  refine lv_goto (tgt := 2269) hx hb (oc_167 1999 (aq_15 shL_law_1984) sgw_1_14) rfl ?_
  refine W.widen (k := K + 8) (n := N + 240) (by omega) (by omega) ?_
  exact kk _ _ _ _ _ _ _ _ _ hI hM hR hP hD hS ls hl
set_option maxRecDepth 100000 in
set_option maxHeartbeats 4000000 in
theorem lawc_50 {p : Program} {l : Launch} {e : Env} {s : State} {m : MethodId} {below : List Frame} {meth : Method} {c : Code} {b L : Nat} {xs : Nat → Int32} (C0 : lw_At p s m meth c b L xs) (hLN : L ≤ 3584) {A : Nat → Prop} (hA : ∀ q : Nat, s.heap.size ≤ q → A q) (hbA : ¬ A b) {D : va_G} {cI cB cZ : ClassId} {zz qq vv : Nat} {bt : Nat → Int32} {g g2 : Nat → Nat} (hK : KK D cI cB cZ s) (hXS : XS D zz qq vv bt A s s.heap) {ad : Nat → Nat → Nat} {cn : Nat → Nat} {In : Nat → Int32} {Fn : Nat → Nat → Int32} {c3 : Nat → Nat} {I3 : Nat → Int32} {F3 : Nat → Nat → Int32} (hI : IX ad cn Fn) (hM : IMM c3 F3) (hR : RR cn Fn c3 F3) {H : Heap} {locs : List Loc} (hP : va_P D vwCl (wX cI (D.1 99) zz g ad cn In Fn ++ wM cI cB cZ g2 c3 I3 F3) H) (hD : va_D A (wX cI (D.1 99) zz g ad cn In Fn ++ wM cI cB cZ g2 c3 I3 F3)) (hS : va_S A s.heap H locs) {K N i : Nat} (hi : i + 7 ≤ L) (hKN : K + 8 ≤ 600000 ∧ N + 240 ≤ 7302250) {ls : Array Slot} (hl : lv_has ls 4 [(0, .ref b), (1, .ref (g 0)), (2, .ref (g2 100)), (3, .int (nI i))]) (kk : ∀ (ad : Nat → Nat → Nat) (cn : Nat → Nat) (In : Nat → Int32) (Fn : Nat → Nat → Int32) (c3 : Nat → Nat) (I3 : Nat → Int32) (F3 : Nat → Nat → Int32) (H : Heap) (locs : List Loc), IX ad cn Fn → IMM c3 F3 → RR cn Fn c3 F3 → va_P D vwCl (wX cI (D.1 99) zz g ad cn In Fn ++ wM cI cB cZ g2 c3 I3 F3) H → va_D A (wX cI (D.1 99) zz g ad cn In Fn ++ wM cI cB cZ g2 c3 I3 F3) → va_S A s.heap H locs → ∀ ls : Array Slot, lv_has ls 4 [(0, .ref b), (1, .ref (g 0)), (2, .ref (g2 100)), (3, .int (nI i))] → W p l e room_1 s m #[Value.ref b] below meth c H locs (K + 8) (N + 240) (lw_Z below #[Value.ref b] s) (F0 m 2269 ls [])) : W p l e room_1 s m #[Value.ref b] below meth c H locs K N (lw_Z below #[Value.ref b] s) (F0 m 2002 ls []) := by
  obtain ⟨hx, hb, hr, hml, hown, hts, hX, hbl, hlocks, hgv⟩ := id C0
  have S : SF p m c code 4 s #[Value.ref b] RL := ⟨hx, hb, hml, hown, fun w h => hts w (wT_lw h)⟩
  refine lv_aload_n hx hb (oc_43 2002 (aq_18 shL_law_1984)) rfl (lvA1 hl) ?_
  refine lv_aload_n hx hb (oc_42 2003 (aq_19 shL_law_1984)) rfl (lvA0 hl) ?_
  refine lv_iload_n hx hb (oc_29 2004 (aq_20 shL_law_1984)) rfl (lvA3 hl) ?_
  refine lv_iconst (v := 1) hx hb (oc_4 2005 (aq_21 shL_law_1984)) kic_1 ?_
  refine lv_iadd hx hb (oc_96 2006 (aq_22 shL_law_1984)) ?_
  refine lv_topi (fun y_1 ey_1 => ?_)
  obtain rfl : y_1 = nI (i + 1) := ey_1.trans (nI_add i 1)
  refine va_sld hx hb hX hbl hbA hS (vp_in_nI (by omega) (by omega)) (oc_46 2007 (aq_23 shL_law_1984)) ?_
  refine lv_topi (fun y_2 ey_2 => ?_)
  obtain rfl : y_2 = xs (nI (i + 1)).toNatClampNeg := ey_2
  refine lv_aload_n hx hb (oc_42 2008 shL_law_2008) rfl (lvA0 hl) ?_
  refine lv_iload_n hx hb (oc_29 2009 (aq_1 shL_law_2008)) rfl (lvA3 hl) ?_
  refine lv_iconst (v := 2) hx hb (oc_5 2010 (aq_2 shL_law_2008)) kic_2 ?_
  refine lv_iadd hx hb (oc_96 2011 (aq_3 shL_law_2008)) ?_
  refine lv_topi (fun y_3 ey_3 => ?_)
  obtain rfl : y_3 = nI (i + 2) := ey_3.trans (nI_add i 2)
  refine va_sld hx hb hX hbl hbA hS (vp_in_nI (by omega) (by omega)) (oc_46 2012 (aq_4 shL_law_2008)) ?_
  refine lv_topi (fun y_4 ey_4 => ?_)
  obtain rfl : y_4 = xs (nI (i + 2)).toNatClampNeg := ey_4
  have hFc := free_all (exD hD) hS hA
  refine va_calli (runV_xa (As := [.int (xs (nI (i + 1)).toNatClampNeg), .int (xs (nI (i + 2)).toNatClampNeg)]) (rest := []) S (q_Xmost l D cI cB cZ zz qq vv bt g ad cn In Fn (xs (nI (i + 1)).toNatClampNeg) (xs (nI (i + 2)).toNatClampNeg) H.size hI.1) kV_RL_226 hK hXS hS hFc (exP hP) (exD hD) 0 xo_0 rfl rfl ⟨Nat.le_of_ble_eq_true rfl, Nat.le_of_ble_eq_true rfl⟩ ⟨(by show K + 0 ≤ 600000; omega), (by show N + 0 ≤ 7302250; omega)⟩ rfl hl.1 rfl (Nat.le_of_ble_eq_true rfl) (oc_182 2013 (aq_5 shL_law_2008) uw_0_226)) hS (fun q _ h => hFc q h) hFc (fun r4 u t H1 locs ht hvm w4 hB1 hz1 hk1 hS => ?_)
  obtain ⟨c4, I4, F4⟩ := u
  obtain ⟨hP1, hD1⟩ := hB1
  rw [ht] at hP1
  obtain ⟨hP, hD⟩ := exjoinL hP hD hk1 hFc hP1 hD1
  generalize H1 = H at hP hS ⊢
  have hd4 := w4.1.1
  have hf4 := w4.1.2.2
  have hI := IX.fr hI w4.1 w4.2.1 (by decide) (by decide)
  have hR := RR.fx hR hd4 hf4 (by decide) (by decide)
  refine lv_pop hx hb (oc_87 2016 (aq_8 shL_law_2008)) rfl ?_
  refine lv_aload_n hx hb (oc_44 2017 (aq_9 shL_law_2008)) rfl (lvA2 hl) ?_
  refine lv_aload_n hx hb (oc_42 2018 (aq_10 shL_law_2008)) rfl (lvA0 hl) ?_
  refine lv_iload_n hx hb (oc_29 2019 (aq_11 shL_law_2008)) rfl (lvA3 hl) ?_
  refine lv_iconst (v := 1) hx hb (oc_4 2020 (aq_12 shL_law_2008)) kic_1 ?_
  refine lv_iadd hx hb (oc_96 2021 (aq_13 shL_law_2008)) ?_
  refine lv_topi (fun y_6 ey_6 => ?_)
  obtain rfl : y_6 = nI (i + 1) := ey_6.trans (nI_add i 1)
  refine va_sld hx hb hX hbl hbA hS (vp_in_nI (by omega) (by omega)) (oc_46 2022 (aq_14 shL_law_2008)) ?_
  refine lv_topi (fun y_7 ey_7 => ?_)
  obtain rfl : y_7 = xs (nI (i + 1)).toNatClampNeg := ey_7
  refine lv_aload_n hx hb (oc_42 2023 (aq_15 shL_law_2008)) rfl (lvA0 hl) ?_
  refine lv_iload_n hx hb (oc_29 2024 (aq_16 shL_law_2008)) rfl (lvA3 hl) ?_
  refine lv_iconst (v := 2) hx hb (oc_5 2025 (aq_17 shL_law_2008)) kic_2 ?_
  refine lv_iadd hx hb (oc_96 2026 (aq_18 shL_law_2008)) ?_
  refine lv_topi (fun y_8 ey_8 => ?_)
  obtain rfl : y_8 = nI (i + 2) := ey_8.trans (nI_add i 2)
  refine va_sld hx hb hX hbl hbA hS (vp_in_nI (by omega) (by omega)) (oc_46 2027 (aq_19 shL_law_2008)) ?_
  refine lv_topi (fun y_9 ey_9 => ?_)
  obtain rfl : y_9 = xs (nI (i + 2)).toNatClampNeg := ey_9
  have hFc := free_all (exDr hD) hS hA
  refine va_calli (runV_a (As := [.int (xs (nI (i + 1)).toNatClampNeg), .int (xs (nI (i + 2)).toNatClampNeg)]) (rest := []) S (q_most l D cI cB cZ g2 c3 I3 F3 (xs (nI (i + 1)).toNatClampNeg) (xs (nI (i + 2)).toNatClampNeg) H.size hM.1) kV_RL_229 hK (exPr hP) (exDr hD) 0 rfl rfl rfl ⟨Nat.le_of_ble_eq_true rfl, Nat.le_of_ble_eq_true rfl⟩ ⟨(by show K + 0 ≤ 600000; omega), (by show N + 0 ≤ 7302250; omega)⟩ rfl hl.1 rfl (Nat.le_of_ble_eq_true rfl) (oc_182 2028 (aq_20 shL_law_2008) uw_0_229)) hS (fun q _ h => hFc q h) hFc (fun r9 u t H1 locs ht hvm w9 hB1 hz1 hk1 hS => ?_)
  obtain ⟨c9, I9, F9⟩ := u
  obtain ⟨hP1, hD1⟩ := hB1
  rw [ht] at hP1
  obtain ⟨hP, hD⟩ := exjoin hP hD hk1 hFc hP1 hD1
  generalize H1 = H at hP hS ⊢
  obtain ⟨hM, hd9, hf9⟩ := imm_most hM w9
  have hR := RR.fm hR hd9 hf9 (by decide) (by decide)
  refine lv_pop hx hb (oc_87 2031 (aq_23 shL_law_2008)) rfl ?_
  refine lv_goto (tgt := 2269) hx hb (oc_167 2032 shL_law_2032 sgw_0_237) rfl ?_
  refine W.widen (k := K + 8) (n := N + 240) (by omega) (by omega) ?_
  exact kk _ _ _ _ _ _ _ _ _ hI hM hR hP hD hS ls hl
set_option maxRecDepth 100000 in
set_option maxHeartbeats 4000000 in
theorem lawc_51 {p : Program} {l : Launch} {e : Env} {s : State} {m : MethodId} {below : List Frame} {meth : Method} {c : Code} {b L : Nat} {xs : Nat → Int32} (C0 : lw_At p s m meth c b L xs) (hLN : L ≤ 3584) {A : Nat → Prop} (hA : ∀ q : Nat, s.heap.size ≤ q → A q) (hbA : ¬ A b) {D : va_G} {cI cB cZ : ClassId} {zz qq vv : Nat} {bt : Nat → Int32} {g g2 : Nat → Nat} (hK : KK D cI cB cZ s) (hXS : XS D zz qq vv bt A s s.heap) {ad : Nat → Nat → Nat} {cn : Nat → Nat} {In : Nat → Int32} {Fn : Nat → Nat → Int32} {c3 : Nat → Nat} {I3 : Nat → Int32} {F3 : Nat → Nat → Int32} (hI : IX ad cn Fn) (hM : IMM c3 F3) (hR : RR cn Fn c3 F3) {H : Heap} {locs : List Loc} (hP : va_P D vwCl (wX cI (D.1 99) zz g ad cn In Fn ++ wM cI cB cZ g2 c3 I3 F3) H) (hD : va_D A (wX cI (D.1 99) zz g ad cn In Fn ++ wM cI cB cZ g2 c3 I3 F3)) (hS : va_S A s.heap H locs) {K N i : Nat} (hi : i + 7 ≤ L) (hKN : K + 8 ≤ 600000 ∧ N + 240 ≤ 7302250) {ls : Array Slot} (hl : lv_has ls 4 [(0, .ref b), (1, .ref (g 0)), (2, .ref (g2 100)), (3, .int (nI i))]) (kk : ∀ (ad : Nat → Nat → Nat) (cn : Nat → Nat) (In : Nat → Int32) (Fn : Nat → Nat → Int32) (c3 : Nat → Nat) (I3 : Nat → Int32) (F3 : Nat → Nat → Int32) (H : Heap) (locs : List Loc), IX ad cn Fn → IMM c3 F3 → RR cn Fn c3 F3 → va_P D vwCl (wX cI (D.1 99) zz g ad cn In Fn ++ wM cI cB cZ g2 c3 I3 F3) H → va_D A (wX cI (D.1 99) zz g ad cn In Fn ++ wM cI cB cZ g2 c3 I3 F3) → va_S A s.heap H locs → ∀ ls : Array Slot, lv_has ls 4 [(0, .ref b), (1, .ref (g 0)), (2, .ref (g2 100)), (3, .int (nI i))] → W p l e room_1 s m #[Value.ref b] below meth c H locs (K + 8) (N + 240) (lw_Z below #[Value.ref b] s) (F0 m 2269 ls [])) : W p l e room_1 s m #[Value.ref b] below meth c H locs K N (lw_Z below #[Value.ref b] s) (F0 m 2035 ls []) := by
  obtain ⟨hx, hb, hr, hml, hown, hts, hX, hbl, hlocks, hgv⟩ := id C0
  have S : SF p m c code 4 s #[Value.ref b] RL := ⟨hx, hb, hml, hown, fun w h => hts w (wT_lw h)⟩
  refine lv_aload_n hx hb (oc_43 2035 (aq_3 shL_law_2032)) rfl (lvA1 hl) ?_
  refine lv_aload_n hx hb (oc_42 2036 (aq_4 shL_law_2032)) rfl (lvA0 hl) ?_
  refine lv_iload_n hx hb (oc_29 2037 (aq_5 shL_law_2032)) rfl (lvA3 hl) ?_
  refine lv_iconst (v := 1) hx hb (oc_4 2038 (aq_6 shL_law_2032)) kic_1 ?_
  refine lv_iadd hx hb (oc_96 2039 (aq_7 shL_law_2032)) ?_
  refine lv_topi (fun y_1 ey_1 => ?_)
  obtain rfl : y_1 = nI (i + 1) := ey_1.trans (nI_add i 1)
  refine va_sld hx hb hX hbl hbA hS (vp_in_nI (by omega) (by omega)) (oc_46 2040 (aq_8 shL_law_2032)) ?_
  refine lv_topi (fun y_2 ey_2 => ?_)
  obtain rfl : y_2 = xs (nI (i + 1)).toNatClampNeg := ey_2
  refine vp_callSi (runV_rxa (As := [.int (xs (nI (i + 1)).toNatClampNeg)]) (rest := []) S (q_Xoverdrawn l D cI cB cZ zz qq vv bt g ad cn In Fn (xs (nI (i + 1)).toNatClampNeg) hI.1) kV_RL_230 hK hXS hS (exP hP) 0 xo_0 rfl rfl ⟨Nat.le_of_ble_eq_true rfl, Nat.le_of_ble_eq_true rfl⟩ ⟨(by show K + 0 ≤ 600000; omega), (by show N + 0 ≤ 7302250; omega)⟩ rfl hl.1 rfl (Nat.le_of_ble_eq_true rfl) (oc_182 2041 (aq_9 shL_law_2032) uw_0_230)) (fun r2 w2 => ?_)
  refine lv_pop hx hb (oc_87 2044 (aq_12 shL_law_2032)) rfl ?_
  refine lv_aload_n hx hb (oc_44 2045 (aq_13 shL_law_2032)) rfl (lvA2 hl) ?_
  refine lv_aload_n hx hb (oc_42 2046 (aq_14 shL_law_2032)) rfl (lvA0 hl) ?_
  refine lv_iload_n hx hb (oc_29 2047 (aq_15 shL_law_2032)) rfl (lvA3 hl) ?_
  refine lv_iconst (v := 1) hx hb (oc_4 2048 (aq_16 shL_law_2032)) kic_1 ?_
  refine lv_iadd hx hb (oc_96 2049 (aq_17 shL_law_2032)) ?_
  refine lv_topi (fun y_4 ey_4 => ?_)
  obtain rfl : y_4 = nI (i + 1) := ey_4.trans (nI_add i 1)
  refine va_sld hx hb hX hbl hbA hS (vp_in_nI (by omega) (by omega)) (oc_46 2050 (aq_18 shL_law_2032)) ?_
  refine lv_topi (fun y_5 ey_5 => ?_)
  obtain rfl : y_5 = xs (nI (i + 1)).toNatClampNeg := ey_5
  refine vp_callSi (runV_ra (As := [.int (xs (nI (i + 1)).toNatClampNeg)]) (rest := []) S (q_overdrawn l D cI cB cZ g2 c3 I3 F3 (xs (nI (i + 1)).toNatClampNeg) hM.1) kV_RL_233 hK (exPr hP) 0 rfl rfl rfl ⟨Nat.le_of_ble_eq_true rfl, Nat.le_of_ble_eq_true rfl⟩ ⟨(by show K + 0 ≤ 600000; omega), (by show N + 0 ≤ 7302250; omega)⟩ rfl hl.1 rfl (Nat.le_of_ble_eq_true rfl) (oc_182 2051 (aq_19 shL_law_2032) uw_0_233)) (fun r5 w5 => ?_)
  refine lv_pop hx hb (oc_87 2054 (aq_22 shL_law_2032)) rfl ?_
  refine lv_goto (tgt := 2269) hx hb (oc_167 2055 (aq_23 shL_law_2032) sgw_0_214) rfl ?_
  refine W.widen (k := K + 8) (n := N + 240) (by omega) (by omega) ?_
  exact kk _ _ _ _ _ _ _ _ _ hI hM hR hP hD hS ls hl
set_option maxRecDepth 100000 in
set_option maxHeartbeats 4000000 in
theorem lawc_52 {p : Program} {l : Launch} {e : Env} {s : State} {m : MethodId} {below : List Frame} {meth : Method} {c : Code} {b L : Nat} {xs : Nat → Int32} (C0 : lw_At p s m meth c b L xs) (hLN : L ≤ 3584) {A : Nat → Prop} (hA : ∀ q : Nat, s.heap.size ≤ q → A q) (hbA : ¬ A b) {D : va_G} {cI cB cZ : ClassId} {zz qq vv : Nat} {bt : Nat → Int32} {g g2 : Nat → Nat} (hK : KK D cI cB cZ s) (hXS : XS D zz qq vv bt A s s.heap) {ad : Nat → Nat → Nat} {cn : Nat → Nat} {In : Nat → Int32} {Fn : Nat → Nat → Int32} {c3 : Nat → Nat} {I3 : Nat → Int32} {F3 : Nat → Nat → Int32} (hI : IX ad cn Fn) (hM : IMM c3 F3) (hR : RR cn Fn c3 F3) {H : Heap} {locs : List Loc} (hP : va_P D vwCl (wX cI (D.1 99) zz g ad cn In Fn ++ wM cI cB cZ g2 c3 I3 F3) H) (hD : va_D A (wX cI (D.1 99) zz g ad cn In Fn ++ wM cI cB cZ g2 c3 I3 F3)) (hS : va_S A s.heap H locs) {K N i : Nat} (hi : i + 7 ≤ L) (hKN : K + 8 ≤ 600000 ∧ N + 240 ≤ 7302250) {ls : Array Slot} (hl : lv_has ls 4 [(0, .ref b), (1, .ref (g 0)), (2, .ref (g2 100)), (3, .int (nI i))]) (kk : ∀ (ad : Nat → Nat → Nat) (cn : Nat → Nat) (In : Nat → Int32) (Fn : Nat → Nat → Int32) (c3 : Nat → Nat) (I3 : Nat → Int32) (F3 : Nat → Nat → Int32) (H : Heap) (locs : List Loc), IX ad cn Fn → IMM c3 F3 → RR cn Fn c3 F3 → va_P D vwCl (wX cI (D.1 99) zz g ad cn In Fn ++ wM cI cB cZ g2 c3 I3 F3) H → va_D A (wX cI (D.1 99) zz g ad cn In Fn ++ wM cI cB cZ g2 c3 I3 F3) → va_S A s.heap H locs → ∀ ls : Array Slot, lv_has ls 4 [(0, .ref b), (1, .ref (g 0)), (2, .ref (g2 100)), (3, .int (nI i))] → W p l e room_1 s m #[Value.ref b] below meth c H locs (K + 8) (N + 240) (lw_Z below #[Value.ref b] s) (F0 m 2269 ls [])) : W p l e room_1 s m #[Value.ref b] below meth c H locs K N (lw_Z below #[Value.ref b] s) (F0 m 2058 ls []) := by
  obtain ⟨hx, hb, hr, hml, hown, hts, hX, hbl, hlocks, hgv⟩ := id C0
  have S : SF p m c code 4 s #[Value.ref b] RL := ⟨hx, hb, hml, hown, fun w h => hts w (wT_lw h)⟩
  refine lv_aload_n hx hb (oc_43 2058 shL_law_2058) rfl (lvA1 hl) ?_
  refine lv_aload_n hx hb (oc_42 2059 (aq_1 shL_law_2058)) rfl (lvA0 hl) ?_
  refine lv_iload_n hx hb (oc_29 2060 (aq_2 shL_law_2058)) rfl (lvA3 hl) ?_
  refine lv_iconst (v := 1) hx hb (oc_4 2061 (aq_3 shL_law_2058)) kic_1 ?_
  refine lv_iadd hx hb (oc_96 2062 (aq_4 shL_law_2058)) ?_
  refine lv_topi (fun y_1 ey_1 => ?_)
  obtain rfl : y_1 = nI (i + 1) := ey_1.trans (nI_add i 1)
  refine va_sld hx hb hX hbl hbA hS (vp_in_nI (by omega) (by omega)) (oc_46 2063 (aq_5 shL_law_2058)) ?_
  refine lv_topi (fun y_2 ey_2 => ?_)
  obtain rfl : y_2 = xs (nI (i + 1)).toNatClampNeg := ey_2
  refine lv_aload_n hx hb (oc_42 2064 (aq_6 shL_law_2058)) rfl (lvA0 hl) ?_
  refine lv_iload_n hx hb (oc_29 2065 (aq_7 shL_law_2058)) rfl (lvA3 hl) ?_
  refine lv_iconst (v := 2) hx hb (oc_5 2066 (aq_8 shL_law_2058)) kic_2 ?_
  refine lv_iadd hx hb (oc_96 2067 (aq_9 shL_law_2058)) ?_
  refine lv_topi (fun y_3 ey_3 => ?_)
  obtain rfl : y_3 = nI (i + 2) := ey_3.trans (nI_add i 2)
  refine va_sld hx hb hX hbl hbA hS (vp_in_nI (by omega) (by omega)) (oc_46 2068 (aq_10 shL_law_2058)) ?_
  refine lv_topi (fun y_4 ey_4 => ?_)
  obtain rfl : y_4 = xs (nI (i + 2)).toNatClampNeg := ey_4
  have hFc := free_all (exD hD) hS hA
  refine va_calli (runV_xa (As := [.int (xs (nI (i + 1)).toNatClampNeg), .int (xs (nI (i + 2)).toNatClampNeg)]) (rest := []) S (q_XsampleM l D cI cB cZ zz qq vv bt g ad cn In Fn (xs (nI (i + 1)).toNatClampNeg) (xs (nI (i + 2)).toNatClampNeg) H.size hI.1 hI.2.2.2.2.2.1) kV_RL_234 hK hXS hS hFc (exP hP) (exD hD) 0 xo_0 rfl rfl ⟨Nat.le_of_ble_eq_true rfl, Nat.le_of_ble_eq_true rfl⟩ ⟨(by show K + 0 ≤ 600000; omega), (by show N + 0 ≤ 7302250; omega)⟩ rfl hl.1 rfl (Nat.le_of_ble_eq_true rfl) (oc_182 2069 (aq_11 shL_law_2058) uw_0_234)) hS (fun q _ h => hFc q h) hFc (fun r4 u t H1 locs ht hvm w4 hB1 hz1 hk1 hS => ?_)
  obtain ⟨c4, I4, F4⟩ := u
  obtain ⟨hP1, hD1⟩ := hB1
  rw [ht] at hP1
  obtain ⟨hP, hD⟩ := exjoinL hP hD hk1 hFc hP1 hD1
  generalize H1 = H at hP hS ⊢
  have hd4 := w4.1.1
  have hf4 := w4.1.2.2
  have hI := IX.frs hI w4.1 w4.2.1 (by decide) w4.2.2
  have hR := RR.fx hR hd4 hf4 (by decide) (by decide)
  refine lv_pop hx hb (oc_87 2072 (aq_14 shL_law_2058)) rfl ?_
  refine lv_aload_n hx hb (oc_44 2073 (aq_15 shL_law_2058)) rfl (lvA2 hl) ?_
  refine lv_aload_n hx hb (oc_42 2074 (aq_16 shL_law_2058)) rfl (lvA0 hl) ?_
  refine lv_iload_n hx hb (oc_29 2075 (aq_17 shL_law_2058)) rfl (lvA3 hl) ?_
  refine lv_iconst (v := 1) hx hb (oc_4 2076 (aq_18 shL_law_2058)) kic_1 ?_
  refine lv_iadd hx hb (oc_96 2077 (aq_19 shL_law_2058)) ?_
  refine lv_topi (fun y_6 ey_6 => ?_)
  obtain rfl : y_6 = nI (i + 1) := ey_6.trans (nI_add i 1)
  refine va_sld hx hb hX hbl hbA hS (vp_in_nI (by omega) (by omega)) (oc_46 2078 (aq_20 shL_law_2058)) ?_
  refine lv_topi (fun y_7 ey_7 => ?_)
  obtain rfl : y_7 = xs (nI (i + 1)).toNatClampNeg := ey_7
  refine lv_aload_n hx hb (oc_42 2079 (aq_21 shL_law_2058)) rfl (lvA0 hl) ?_
  refine lv_iload_n hx hb (oc_29 2080 (aq_22 shL_law_2058)) rfl (lvA3 hl) ?_
  refine lv_iconst (v := 2) hx hb (oc_5 2081 (aq_23 shL_law_2058)) kic_2 ?_
  refine lv_iadd hx hb (oc_96 2082 shL_law_2082) ?_
  refine lv_topi (fun y_8 ey_8 => ?_)
  obtain rfl : y_8 = nI (i + 2) := ey_8.trans (nI_add i 2)
  refine va_sld hx hb hX hbl hbA hS (vp_in_nI (by omega) (by omega)) (oc_46 2083 (aq_1 shL_law_2082)) ?_
  refine lv_topi (fun y_9 ey_9 => ?_)
  obtain rfl : y_9 = xs (nI (i + 2)).toNatClampNeg := ey_9
  have hFc := free_all (exDr hD) hS hA
  refine va_calli (runV_a (As := [.int (xs (nI (i + 1)).toNatClampNeg), .int (xs (nI (i + 2)).toNatClampNeg)]) (rest := []) S (q_sample l D cI cB cZ g2 c3 I3 F3 (xs (nI (i + 1)).toNatClampNeg) (xs (nI (i + 2)).toNatClampNeg) H.size hM.1) kV_RL_237 hK (exPr hP) (exDr hD) 0 rfl rfl rfl ⟨Nat.le_of_ble_eq_true rfl, Nat.le_of_ble_eq_true rfl⟩ ⟨(by show K + 0 ≤ 600000; omega), (by show N + 0 ≤ 7302250; omega)⟩ rfl hl.1 rfl (Nat.le_of_ble_eq_true rfl) (oc_182 2084 (aq_2 shL_law_2082) uw_0_237)) hS (fun q _ h => hFc q h) hFc (fun r9 u t H1 locs ht hvm w9 hB1 hz1 hk1 hS => ?_)
  obtain ⟨c9, I9, F9⟩ := u
  obtain ⟨hP1, hD1⟩ := hB1
  rw [ht] at hP1
  obtain ⟨hP, hD⟩ := exjoin hP hD hk1 hFc hP1 hD1
  generalize H1 = H at hP hS ⊢
  obtain ⟨hM, hd9, hf9⟩ := imm_sample hM w9
  have hR := RR.fm hR hd9 hf9 (by decide) (by decide)
  refine lv_pop hx hb (oc_87 2087 (aq_5 shL_law_2082)) rfl ?_
  refine lv_goto (tgt := 2269) hx hb (oc_167 2088 (aq_6 shL_law_2082) sgw_0_181) rfl ?_
  refine W.widen (k := K + 8) (n := N + 240) (by omega) (by omega) ?_
  exact kk _ _ _ _ _ _ _ _ _ hI hM hR hP hD hS ls hl
set_option maxRecDepth 100000 in
set_option maxHeartbeats 4000000 in
theorem lawc_53 {p : Program} {l : Launch} {e : Env} {s : State} {m : MethodId} {below : List Frame} {meth : Method} {c : Code} {b L : Nat} {xs : Nat → Int32} (C0 : lw_At p s m meth c b L xs) (hLN : L ≤ 3584) {A : Nat → Prop} (hA : ∀ q : Nat, s.heap.size ≤ q → A q) (hbA : ¬ A b) {D : va_G} {cI cB cZ : ClassId} {zz qq vv : Nat} {bt : Nat → Int32} {g g2 : Nat → Nat} (hK : KK D cI cB cZ s) (hXS : XS D zz qq vv bt A s s.heap) {ad : Nat → Nat → Nat} {cn : Nat → Nat} {In : Nat → Int32} {Fn : Nat → Nat → Int32} {c3 : Nat → Nat} {I3 : Nat → Int32} {F3 : Nat → Nat → Int32} (hI : IX ad cn Fn) (hM : IMM c3 F3) (hR : RR cn Fn c3 F3) {H : Heap} {locs : List Loc} (hP : va_P D vwCl (wX cI (D.1 99) zz g ad cn In Fn ++ wM cI cB cZ g2 c3 I3 F3) H) (hD : va_D A (wX cI (D.1 99) zz g ad cn In Fn ++ wM cI cB cZ g2 c3 I3 F3)) (hS : va_S A s.heap H locs) {K N i : Nat} (hi : i + 7 ≤ L) (hKN : K + 8 ≤ 600000 ∧ N + 240 ≤ 7302250) {ls : Array Slot} (hl : lv_has ls 4 [(0, .ref b), (1, .ref (g 0)), (2, .ref (g2 100)), (3, .int (nI i))]) (kk : ∀ (ad : Nat → Nat → Nat) (cn : Nat → Nat) (In : Nat → Int32) (Fn : Nat → Nat → Int32) (c3 : Nat → Nat) (I3 : Nat → Int32) (F3 : Nat → Nat → Int32) (H : Heap) (locs : List Loc), IX ad cn Fn → IMM c3 F3 → RR cn Fn c3 F3 → va_P D vwCl (wX cI (D.1 99) zz g ad cn In Fn ++ wM cI cB cZ g2 c3 I3 F3) H → va_D A (wX cI (D.1 99) zz g ad cn In Fn ++ wM cI cB cZ g2 c3 I3 F3) → va_S A s.heap H locs → ∀ ls : Array Slot, lv_has ls 4 [(0, .ref b), (1, .ref (g 0)), (2, .ref (g2 100)), (3, .int (nI i))] → W p l e room_1 s m #[Value.ref b] below meth c H locs (K + 8) (N + 240) (lw_Z below #[Value.ref b] s) (F0 m 2269 ls [])) : W p l e room_1 s m #[Value.ref b] below meth c H locs K N (lw_Z below #[Value.ref b] s) (F0 m 2091 ls []) := by
  obtain ⟨hx, hb, hr, hml, hown, hts, hX, hbl, hlocks, hgv⟩ := id C0
  have S : SF p m c code 4 s #[Value.ref b] RL := ⟨hx, hb, hml, hown, fun w h => hts w (wT_lw h)⟩
  refine lv_aload_n hx hb (oc_43 2091 (aq_9 shL_law_2082)) rfl (lvA1 hl) ?_
  refine lv_aload_n hx hb (oc_42 2092 (aq_10 shL_law_2082)) rfl (lvA0 hl) ?_
  refine lv_iload_n hx hb (oc_29 2093 (aq_11 shL_law_2082)) rfl (lvA3 hl) ?_
  refine lv_iconst (v := 1) hx hb (oc_4 2094 (aq_12 shL_law_2082)) kic_1 ?_
  refine lv_iadd hx hb (oc_96 2095 (aq_13 shL_law_2082)) ?_
  refine lv_topi (fun y_1 ey_1 => ?_)
  obtain rfl : y_1 = nI (i + 1) := ey_1.trans (nI_add i 1)
  refine va_sld hx hb hX hbl hbA hS (vp_in_nI (by omega) (by omega)) (oc_46 2096 (aq_14 shL_law_2082)) ?_
  refine lv_topi (fun y_2 ey_2 => ?_)
  obtain rfl : y_2 = xs (nI (i + 1)).toNatClampNeg := ey_2
  refine lv_aload_n hx hb (oc_42 2097 (aq_15 shL_law_2082)) rfl (lvA0 hl) ?_
  refine lv_iload_n hx hb (oc_29 2098 (aq_16 shL_law_2082)) rfl (lvA3 hl) ?_
  refine lv_iconst (v := 2) hx hb (oc_5 2099 (aq_17 shL_law_2082)) kic_2 ?_
  refine lv_iadd hx hb (oc_96 2100 (aq_18 shL_law_2082)) ?_
  refine lv_topi (fun y_3 ey_3 => ?_)
  obtain rfl : y_3 = nI (i + 2) := ey_3.trans (nI_add i 2)
  refine va_sld hx hb hX hbl hbA hS (vp_in_nI (by omega) (by omega)) (oc_46 2101 (aq_19 shL_law_2082)) ?_
  refine lv_topi (fun y_4 ey_4 => ?_)
  obtain rfl : y_4 = xs (nI (i + 2)).toNatClampNeg := ey_4
  refine lv_aload_n hx hb (oc_42 2102 (aq_20 shL_law_2082)) rfl (lvA0 hl) ?_
  refine lv_iload_n hx hb (oc_29 2103 (aq_21 shL_law_2082)) rfl (lvA3 hl) ?_
  refine lv_iconst (v := 3) hx hb (oc_6 2104 (aq_22 shL_law_2082)) kic_3 ?_
  refine lv_iadd hx hb (oc_96 2105 (aq_23 shL_law_2082)) ?_
  refine lv_topi (fun y_5 ey_5 => ?_)
  obtain rfl : y_5 = nI (i + 3) := ey_5.trans (nI_add i 3)
  refine va_sld hx hb hX hbl hbA hS (vp_in_nI (by omega) (by omega)) (oc_46 2106 shL_law_2106) ?_
  refine lv_topi (fun y_6 ey_6 => ?_)
  obtain rfl : y_6 = xs (nI (i + 3)).toNatClampNeg := ey_6
  refine vp_callSi (runV_rxa (As := [.int (xs (nI (i + 1)).toNatClampNeg), .int (xs (nI (i + 2)).toNatClampNeg), .int (xs (nI (i + 3)).toNatClampNeg)]) (rest := []) S (q_Xclaim l D cI cB cZ zz qq vv bt g ad cn In Fn (xs (nI (i + 1)).toNatClampNeg) (xs (nI (i + 2)).toNatClampNeg) (xs (nI (i + 3)).toNatClampNeg) hI.1 hI.2.2.2.2.2.1) kV_RL_238 hK hXS hS (exP hP) 0 xo_0 rfl rfl ⟨Nat.le_of_ble_eq_true rfl, Nat.le_of_ble_eq_true rfl⟩ ⟨(by show K + 0 ≤ 600000; omega), (by show N + 0 ≤ 7302250; omega)⟩ rfl hl.1 rfl (Nat.le_of_ble_eq_true rfl) (oc_182 2107 (aq_1 shL_law_2106) uw_0_238)) (fun r6 w6 => ?_)
  refine lv_pop hx hb (oc_87 2110 (aq_4 shL_law_2106)) rfl ?_
  refine lv_aload_n hx hb (oc_44 2111 (aq_5 shL_law_2106)) rfl (lvA2 hl) ?_
  refine lv_aload_n hx hb (oc_42 2112 (aq_6 shL_law_2106)) rfl (lvA0 hl) ?_
  refine lv_iload_n hx hb (oc_29 2113 (aq_7 shL_law_2106)) rfl (lvA3 hl) ?_
  refine lv_iconst (v := 1) hx hb (oc_4 2114 (aq_8 shL_law_2106)) kic_1 ?_
  refine lv_iadd hx hb (oc_96 2115 (aq_9 shL_law_2106)) ?_
  refine lv_topi (fun y_8 ey_8 => ?_)
  obtain rfl : y_8 = nI (i + 1) := ey_8.trans (nI_add i 1)
  refine va_sld hx hb hX hbl hbA hS (vp_in_nI (by omega) (by omega)) (oc_46 2116 (aq_10 shL_law_2106)) ?_
  refine lv_topi (fun y_9 ey_9 => ?_)
  obtain rfl : y_9 = xs (nI (i + 1)).toNatClampNeg := ey_9
  refine lv_aload_n hx hb (oc_42 2117 (aq_11 shL_law_2106)) rfl (lvA0 hl) ?_
  refine lv_iload_n hx hb (oc_29 2118 (aq_12 shL_law_2106)) rfl (lvA3 hl) ?_
  refine lv_iconst (v := 2) hx hb (oc_5 2119 (aq_13 shL_law_2106)) kic_2 ?_
  refine lv_iadd hx hb (oc_96 2120 (aq_14 shL_law_2106)) ?_
  refine lv_topi (fun y_10 ey_10 => ?_)
  obtain rfl : y_10 = nI (i + 2) := ey_10.trans (nI_add i 2)
  refine va_sld hx hb hX hbl hbA hS (vp_in_nI (by omega) (by omega)) (oc_46 2121 (aq_15 shL_law_2106)) ?_
  refine lv_topi (fun y_11 ey_11 => ?_)
  obtain rfl : y_11 = xs (nI (i + 2)).toNatClampNeg := ey_11
  refine lv_aload_n hx hb (oc_42 2122 (aq_16 shL_law_2106)) rfl (lvA0 hl) ?_
  refine lv_iload_n hx hb (oc_29 2123 (aq_17 shL_law_2106)) rfl (lvA3 hl) ?_
  refine lv_iconst (v := 3) hx hb (oc_6 2124 (aq_18 shL_law_2106)) kic_3 ?_
  refine lv_iadd hx hb (oc_96 2125 (aq_19 shL_law_2106)) ?_
  refine lv_topi (fun y_12 ey_12 => ?_)
  obtain rfl : y_12 = nI (i + 3) := ey_12.trans (nI_add i 3)
  refine va_sld hx hb hX hbl hbA hS (vp_in_nI (by omega) (by omega)) (oc_46 2126 (aq_20 shL_law_2106)) ?_
  refine lv_topi (fun y_13 ey_13 => ?_)
  obtain rfl : y_13 = xs (nI (i + 3)).toNatClampNeg := ey_13
  refine vp_callSi (runV_ra (As := [.int (xs (nI (i + 1)).toNatClampNeg), .int (xs (nI (i + 2)).toNatClampNeg), .int (xs (nI (i + 3)).toNatClampNeg)]) (rest := []) S (q_claim l D cI cB cZ g2 c3 I3 F3 (xs (nI (i + 1)).toNatClampNeg) (xs (nI (i + 2)).toNatClampNeg) (xs (nI (i + 3)).toNatClampNeg) hM.1) kV_RL_241 hK (exPr hP) 0 rfl rfl rfl ⟨Nat.le_of_ble_eq_true rfl, Nat.le_of_ble_eq_true rfl⟩ ⟨(by show K + 0 ≤ 600000; omega), (by show N + 0 ≤ 7302250; omega)⟩ rfl hl.1 rfl (Nat.le_of_ble_eq_true rfl) (oc_182 2127 (aq_21 shL_law_2106) uw_0_241)) (fun r13 w13 => ?_)
  refine lv_pop hx hb (oc_87 2130 shL_law_2130) rfl ?_
  refine lv_goto (tgt := 2269) hx hb (oc_167 2131 (aq_1 shL_law_2130) sgw_0_138) rfl ?_
  refine W.widen (k := K + 8) (n := N + 240) (by omega) (by omega) ?_
  exact kk _ _ _ _ _ _ _ _ _ hI hM hR hP hD hS ls hl
set_option maxRecDepth 100000 in
set_option maxHeartbeats 4000000 in
theorem lawc_54 {p : Program} {l : Launch} {e : Env} {s : State} {m : MethodId} {below : List Frame} {meth : Method} {c : Code} {b L : Nat} {xs : Nat → Int32} (C0 : lw_At p s m meth c b L xs) (hLN : L ≤ 3584) {A : Nat → Prop} (hA : ∀ q : Nat, s.heap.size ≤ q → A q) (hbA : ¬ A b) {D : va_G} {cI cB cZ : ClassId} {zz qq vv : Nat} {bt : Nat → Int32} {g g2 : Nat → Nat} (hK : KK D cI cB cZ s) (hXS : XS D zz qq vv bt A s s.heap) {ad : Nat → Nat → Nat} {cn : Nat → Nat} {In : Nat → Int32} {Fn : Nat → Nat → Int32} {c3 : Nat → Nat} {I3 : Nat → Int32} {F3 : Nat → Nat → Int32} (hI : IX ad cn Fn) (hM : IMM c3 F3) (hR : RR cn Fn c3 F3) {H : Heap} {locs : List Loc} (hP : va_P D vwCl (wX cI (D.1 99) zz g ad cn In Fn ++ wM cI cB cZ g2 c3 I3 F3) H) (hD : va_D A (wX cI (D.1 99) zz g ad cn In Fn ++ wM cI cB cZ g2 c3 I3 F3)) (hS : va_S A s.heap H locs) {K N i : Nat} (hi : i + 7 ≤ L) (hKN : K + 8 ≤ 600000 ∧ N + 240 ≤ 7302250) {ls : Array Slot} (hl : lv_has ls 4 [(0, .ref b), (1, .ref (g 0)), (2, .ref (g2 100)), (3, .int (nI i))]) (kk : ∀ (ad : Nat → Nat → Nat) (cn : Nat → Nat) (In : Nat → Int32) (Fn : Nat → Nat → Int32) (c3 : Nat → Nat) (I3 : Nat → Int32) (F3 : Nat → Nat → Int32) (H : Heap) (locs : List Loc), IX ad cn Fn → IMM c3 F3 → RR cn Fn c3 F3 → va_P D vwCl (wX cI (D.1 99) zz g ad cn In Fn ++ wM cI cB cZ g2 c3 I3 F3) H → va_D A (wX cI (D.1 99) zz g ad cn In Fn ++ wM cI cB cZ g2 c3 I3 F3) → va_S A s.heap H locs → ∀ ls : Array Slot, lv_has ls 4 [(0, .ref b), (1, .ref (g 0)), (2, .ref (g2 100)), (3, .int (nI i))] → W p l e room_1 s m #[Value.ref b] below meth c H locs (K + 8) (N + 240) (lw_Z below #[Value.ref b] s) (F0 m 2269 ls [])) : W p l e room_1 s m #[Value.ref b] below meth c H locs K N (lw_Z below #[Value.ref b] s) (F0 m 2134 ls []) := by
  obtain ⟨hx, hb, hr, hml, hown, hts, hX, hbl, hlocks, hgv⟩ := id C0
  have S : SF p m c code 4 s #[Value.ref b] RL := ⟨hx, hb, hml, hown, fun w h => hts w (wT_lw h)⟩
  refine lv_aload_n hx hb (oc_43 2134 (aq_4 shL_law_2130)) rfl (lvA1 hl) ?_
  refine lv_aload_n hx hb (oc_42 2135 (aq_5 shL_law_2130)) rfl (lvA0 hl) ?_
  refine lv_iload_n hx hb (oc_29 2136 (aq_6 shL_law_2130)) rfl (lvA3 hl) ?_
  refine lv_iconst (v := 1) hx hb (oc_4 2137 (aq_7 shL_law_2130)) kic_1 ?_
  refine lv_iadd hx hb (oc_96 2138 (aq_8 shL_law_2130)) ?_
  refine lv_topi (fun y_1 ey_1 => ?_)
  obtain rfl : y_1 = nI (i + 1) := ey_1.trans (nI_add i 1)
  refine va_sld hx hb hX hbl hbA hS (vp_in_nI (by omega) (by omega)) (oc_46 2139 (aq_9 shL_law_2130)) ?_
  refine lv_topi (fun y_2 ey_2 => ?_)
  obtain rfl : y_2 = xs (nI (i + 1)).toNatClampNeg := ey_2
  refine lv_aload_n hx hb (oc_42 2140 (aq_10 shL_law_2130)) rfl (lvA0 hl) ?_
  refine lv_iload_n hx hb (oc_29 2141 (aq_11 shL_law_2130)) rfl (lvA3 hl) ?_
  refine lv_iconst (v := 2) hx hb (oc_5 2142 (aq_12 shL_law_2130)) kic_2 ?_
  refine lv_iadd hx hb (oc_96 2143 (aq_13 shL_law_2130)) ?_
  refine lv_topi (fun y_3 ey_3 => ?_)
  obtain rfl : y_3 = nI (i + 2) := ey_3.trans (nI_add i 2)
  refine va_sld hx hb hX hbl hbA hS (vp_in_nI (by omega) (by omega)) (oc_46 2144 (aq_14 shL_law_2130)) ?_
  refine lv_topi (fun y_4 ey_4 => ?_)
  obtain rfl : y_4 = xs (nI (i + 2)).toNatClampNeg := ey_4
  have hFc := free_all (exD hD) hS hA
  refine va_calli (runV_xa (As := [.int (xs (nI (i + 1)).toNatClampNeg), .int (xs (nI (i + 2)).toNatClampNeg)]) (rest := []) S (q_Xspill l D cI cB cZ zz qq vv bt g ad cn In Fn (xs (nI (i + 1)).toNatClampNeg) (xs (nI (i + 2)).toNatClampNeg) H.size hI.1) kV_RL_242 hK hXS hS hFc (exP hP) (exD hD) 0 xo_0 rfl rfl ⟨Nat.le_of_ble_eq_true rfl, Nat.le_of_ble_eq_true rfl⟩ ⟨(by show K + 0 ≤ 600000; omega), (by show N + 0 ≤ 7302250; omega)⟩ rfl hl.1 rfl (Nat.le_of_ble_eq_true rfl) (oc_182 2145 (aq_15 shL_law_2130) uw_0_242)) hS (fun q _ h => hFc q h) hFc (fun r4 u t H1 locs ht hvm w4 hB1 hz1 hk1 hS => ?_)
  obtain ⟨c4, I4, F4⟩ := u
  obtain ⟨hP1, hD1⟩ := hB1
  rw [ht] at hP1
  obtain ⟨hP, hD⟩ := exjoinL hP hD hk1 hFc hP1 hD1
  generalize H1 = H at hP hS ⊢
  have hd4 := w4.1.1
  have hf4 := w4.1.2.2
  have hI := IX.fr hI w4.1 w4.2.1 (by decide) (by decide)
  have hR := RR.fx hR hd4 hf4 (by decide) (by decide)
  refine lv_pop hx hb (oc_87 2148 (aq_18 shL_law_2130)) rfl ?_
  refine lv_aload_n hx hb (oc_44 2149 (aq_19 shL_law_2130)) rfl (lvA2 hl) ?_
  refine lv_aload_n hx hb (oc_42 2150 (aq_20 shL_law_2130)) rfl (lvA0 hl) ?_
  refine lv_iload_n hx hb (oc_29 2151 (aq_21 shL_law_2130)) rfl (lvA3 hl) ?_
  refine lv_iconst (v := 1) hx hb (oc_4 2152 (aq_22 shL_law_2130)) kic_1 ?_
  refine lv_iadd hx hb (oc_96 2153 (aq_23 shL_law_2130)) ?_
  refine lv_topi (fun y_6 ey_6 => ?_)
  obtain rfl : y_6 = nI (i + 1) := ey_6.trans (nI_add i 1)
  refine va_sld hx hb hX hbl hbA hS (vp_in_nI (by omega) (by omega)) (oc_46 2154 shL_law_2154) ?_
  refine lv_topi (fun y_7 ey_7 => ?_)
  obtain rfl : y_7 = xs (nI (i + 1)).toNatClampNeg := ey_7
  refine lv_aload_n hx hb (oc_42 2155 (aq_1 shL_law_2154)) rfl (lvA0 hl) ?_
  refine lv_iload_n hx hb (oc_29 2156 (aq_2 shL_law_2154)) rfl (lvA3 hl) ?_
  refine lv_iconst (v := 2) hx hb (oc_5 2157 (aq_3 shL_law_2154)) kic_2 ?_
  refine lv_iadd hx hb (oc_96 2158 (aq_4 shL_law_2154)) ?_
  refine lv_topi (fun y_8 ey_8 => ?_)
  obtain rfl : y_8 = nI (i + 2) := ey_8.trans (nI_add i 2)
  refine va_sld hx hb hX hbl hbA hS (vp_in_nI (by omega) (by omega)) (oc_46 2159 (aq_5 shL_law_2154)) ?_
  refine lv_topi (fun y_9 ey_9 => ?_)
  obtain rfl : y_9 = xs (nI (i + 2)).toNatClampNeg := ey_9
  have hFc := free_all (exDr hD) hS hA
  refine va_calli (runV_a (As := [.int (xs (nI (i + 1)).toNatClampNeg), .int (xs (nI (i + 2)).toNatClampNeg)]) (rest := []) S (q_spill l D cI cB cZ g2 c3 I3 F3 (xs (nI (i + 1)).toNatClampNeg) (xs (nI (i + 2)).toNatClampNeg) H.size hM.1) kV_RL_245 hK (exPr hP) (exDr hD) 0 rfl rfl rfl ⟨Nat.le_of_ble_eq_true rfl, Nat.le_of_ble_eq_true rfl⟩ ⟨(by show K + 0 ≤ 600000; omega), (by show N + 0 ≤ 7302250; omega)⟩ rfl hl.1 rfl (Nat.le_of_ble_eq_true rfl) (oc_182 2160 (aq_6 shL_law_2154) uw_0_245)) hS (fun q _ h => hFc q h) hFc (fun r9 u t H1 locs ht hvm w9 hB1 hz1 hk1 hS => ?_)
  obtain ⟨c9, I9, F9⟩ := u
  obtain ⟨hP1, hD1⟩ := hB1
  rw [ht] at hP1
  obtain ⟨hP, hD⟩ := exjoin hP hD hk1 hFc hP1 hD1
  generalize H1 = H at hP hS ⊢
  obtain ⟨hM, hd9, hf9⟩ := imm_spill hM w9
  have hR := RR.fm hR hd9 hf9 (by decide) (by decide)
  refine lv_pop hx hb (oc_87 2163 (aq_9 shL_law_2154)) rfl ?_
  refine lv_goto (tgt := 2269) hx hb (oc_167 2164 (aq_10 shL_law_2154) sgw_0_105) rfl ?_
  refine W.widen (k := K + 8) (n := N + 240) (by omega) (by omega) ?_
  exact kk _ _ _ _ _ _ _ _ _ hI hM hR hP hD hS ls hl
set_option maxRecDepth 100000 in
set_option maxHeartbeats 4000000 in
theorem lawc_55 {p : Program} {l : Launch} {e : Env} {s : State} {m : MethodId} {below : List Frame} {meth : Method} {c : Code} {b L : Nat} {xs : Nat → Int32} (C0 : lw_At p s m meth c b L xs) (hLN : L ≤ 3584) {A : Nat → Prop} (hA : ∀ q : Nat, s.heap.size ≤ q → A q) (hbA : ¬ A b) {D : va_G} {cI cB cZ : ClassId} {zz qq vv : Nat} {bt : Nat → Int32} {g g2 : Nat → Nat} (hK : KK D cI cB cZ s) (hXS : XS D zz qq vv bt A s s.heap) {ad : Nat → Nat → Nat} {cn : Nat → Nat} {In : Nat → Int32} {Fn : Nat → Nat → Int32} {c3 : Nat → Nat} {I3 : Nat → Int32} {F3 : Nat → Nat → Int32} (hI : IX ad cn Fn) (hM : IMM c3 F3) (hR : RR cn Fn c3 F3) {H : Heap} {locs : List Loc} (hP : va_P D vwCl (wX cI (D.1 99) zz g ad cn In Fn ++ wM cI cB cZ g2 c3 I3 F3) H) (hD : va_D A (wX cI (D.1 99) zz g ad cn In Fn ++ wM cI cB cZ g2 c3 I3 F3)) (hS : va_S A s.heap H locs) {K N i : Nat} (hi : i + 7 ≤ L) (hKN : K + 8 ≤ 600000 ∧ N + 240 ≤ 7302250) {ls : Array Slot} (hl : lv_has ls 4 [(0, .ref b), (1, .ref (g 0)), (2, .ref (g2 100)), (3, .int (nI i))]) (kk : ∀ (ad : Nat → Nat → Nat) (cn : Nat → Nat) (In : Nat → Int32) (Fn : Nat → Nat → Int32) (c3 : Nat → Nat) (I3 : Nat → Int32) (F3 : Nat → Nat → Int32) (H : Heap) (locs : List Loc), IX ad cn Fn → IMM c3 F3 → RR cn Fn c3 F3 → va_P D vwCl (wX cI (D.1 99) zz g ad cn In Fn ++ wM cI cB cZ g2 c3 I3 F3) H → va_D A (wX cI (D.1 99) zz g ad cn In Fn ++ wM cI cB cZ g2 c3 I3 F3) → va_S A s.heap H locs → ∀ ls : Array Slot, lv_has ls 4 [(0, .ref b), (1, .ref (g 0)), (2, .ref (g2 100)), (3, .int (nI i))] → W p l e room_1 s m #[Value.ref b] below meth c H locs (K + 8) (N + 240) (lw_Z below #[Value.ref b] s) (F0 m 2269 ls [])) : W p l e room_1 s m #[Value.ref b] below meth c H locs K N (lw_Z below #[Value.ref b] s) (F0 m 2167 ls []) := by
  obtain ⟨hx, hb, hr, hml, hown, hts, hX, hbl, hlocks, hgv⟩ := id C0
  have S : SF p m c code 4 s #[Value.ref b] RL := ⟨hx, hb, hml, hown, fun w h => hts w (wT_lw h)⟩
  refine lv_aload_n hx hb (oc_43 2167 (aq_13 shL_law_2154)) rfl (lvA1 hl) ?_
  refine lv_aload_n hx hb (oc_42 2168 (aq_14 shL_law_2154)) rfl (lvA0 hl) ?_
  refine lv_iload_n hx hb (oc_29 2169 (aq_15 shL_law_2154)) rfl (lvA3 hl) ?_
  refine lv_iconst (v := 1) hx hb (oc_4 2170 (aq_16 shL_law_2154)) kic_1 ?_
  refine lv_iadd hx hb (oc_96 2171 (aq_17 shL_law_2154)) ?_
  refine lv_topi (fun y_1 ey_1 => ?_)
  obtain rfl : y_1 = nI (i + 1) := ey_1.trans (nI_add i 1)
  refine va_sld hx hb hX hbl hbA hS (vp_in_nI (by omega) (by omega)) (oc_46 2172 (aq_18 shL_law_2154)) ?_
  refine lv_topi (fun y_2 ey_2 => ?_)
  obtain rfl : y_2 = xs (nI (i + 1)).toNatClampNeg := ey_2
  refine vp_callSi (runV_rxa (As := [.int (xs (nI (i + 1)).toNatClampNeg)]) (rest := []) S (q_Xstock l D cI cB cZ zz qq vv bt g ad cn In Fn (xs (nI (i + 1)).toNatClampNeg) hI.1) kV_RL_246 hK hXS hS (exP hP) 0 xo_0 rfl rfl ⟨Nat.le_of_ble_eq_true rfl, Nat.le_of_ble_eq_true rfl⟩ ⟨(by show K + 0 ≤ 600000; omega), (by show N + 0 ≤ 7302250; omega)⟩ rfl hl.1 rfl (Nat.le_of_ble_eq_true rfl) (oc_182 2173 (aq_19 shL_law_2154) uw_0_246)) (fun r2 w2 => ?_)
  refine lv_pop hx hb (oc_87 2176 (aq_22 shL_law_2154)) rfl ?_
  refine lv_aload_n hx hb (oc_44 2177 (aq_23 shL_law_2154)) rfl (lvA2 hl) ?_
  refine lv_aload_n hx hb (oc_42 2178 shL_law_2178) rfl (lvA0 hl) ?_
  refine lv_iload_n hx hb (oc_29 2179 (aq_1 shL_law_2178)) rfl (lvA3 hl) ?_
  refine lv_iconst (v := 1) hx hb (oc_4 2180 (aq_2 shL_law_2178)) kic_1 ?_
  refine lv_iadd hx hb (oc_96 2181 (aq_3 shL_law_2178)) ?_
  refine lv_topi (fun y_4 ey_4 => ?_)
  obtain rfl : y_4 = nI (i + 1) := ey_4.trans (nI_add i 1)
  refine va_sld hx hb hX hbl hbA hS (vp_in_nI (by omega) (by omega)) (oc_46 2182 (aq_4 shL_law_2178)) ?_
  refine lv_topi (fun y_5 ey_5 => ?_)
  obtain rfl : y_5 = xs (nI (i + 1)).toNatClampNeg := ey_5
  have hFc := free_all (exDr hD) hS hA
  refine va_calli (runV_a (As := [.int (xs (nI (i + 1)).toNatClampNeg)]) (rest := []) S (q_stock l D cI cB cZ g2 c3 I3 F3 (xs (nI (i + 1)).toNatClampNeg) H.size hM.1) kV_RL_249 hK (exPr hP) (exDr hD) 0 rfl rfl rfl ⟨Nat.le_of_ble_eq_true rfl, Nat.le_of_ble_eq_true rfl⟩ ⟨(by show K + 0 ≤ 600000; omega), (by show N + 0 ≤ 7302250; omega)⟩ rfl hl.1 rfl (Nat.le_of_ble_eq_true rfl) (oc_182 2183 (aq_5 shL_law_2178) uw_0_249)) hS (fun q _ h => hFc q h) hFc (fun r5 u t H1 locs ht hvm w5 hB1 hz1 hk1 hS => ?_)
  obtain ⟨c5, I5, F5⟩ := u
  obtain ⟨hP1, hD1⟩ := hB1
  rw [ht] at hP1
  obtain ⟨hP, hD⟩ := exjoin hP hD hk1 hFc hP1 hD1
  generalize H1 = H at hP hS ⊢
  obtain ⟨hM, hd5, hf5⟩ := imm_stock hM w5
  have hR := RR.fm hR hd5 hf5 (by decide) (by decide)
  refine lv_pop hx hb (oc_87 2186 (aq_8 shL_law_2178)) rfl ?_
  refine lv_goto (tgt := 2269) hx hb (oc_167 2187 (aq_9 shL_law_2178) sgw_0_82) rfl ?_
  refine W.widen (k := K + 8) (n := N + 240) (by omega) (by omega) ?_
  exact kk _ _ _ _ _ _ _ _ _ hI hM hR hP hD hS ls hl
set_option maxRecDepth 100000 in
set_option maxHeartbeats 4000000 in
theorem lawc_56 {p : Program} {l : Launch} {e : Env} {s : State} {m : MethodId} {below : List Frame} {meth : Method} {c : Code} {b L : Nat} {xs : Nat → Int32} (C0 : lw_At p s m meth c b L xs) (hLN : L ≤ 3584) {A : Nat → Prop} (hA : ∀ q : Nat, s.heap.size ≤ q → A q) (hbA : ¬ A b) {D : va_G} {cI cB cZ : ClassId} {zz qq vv : Nat} {bt : Nat → Int32} {g g2 : Nat → Nat} (hK : KK D cI cB cZ s) (hXS : XS D zz qq vv bt A s s.heap) {ad : Nat → Nat → Nat} {cn : Nat → Nat} {In : Nat → Int32} {Fn : Nat → Nat → Int32} {c3 : Nat → Nat} {I3 : Nat → Int32} {F3 : Nat → Nat → Int32} (hI : IX ad cn Fn) (hM : IMM c3 F3) (hR : RR cn Fn c3 F3) {H : Heap} {locs : List Loc} (hP : va_P D vwCl (wX cI (D.1 99) zz g ad cn In Fn ++ wM cI cB cZ g2 c3 I3 F3) H) (hD : va_D A (wX cI (D.1 99) zz g ad cn In Fn ++ wM cI cB cZ g2 c3 I3 F3)) (hS : va_S A s.heap H locs) {K N i : Nat} (hi : i + 7 ≤ L) (hKN : K + 8 ≤ 600000 ∧ N + 240 ≤ 7302250) {ls : Array Slot} (hl : lv_has ls 4 [(0, .ref b), (1, .ref (g 0)), (2, .ref (g2 100)), (3, .int (nI i))]) (kk : ∀ (ad : Nat → Nat → Nat) (cn : Nat → Nat) (In : Nat → Int32) (Fn : Nat → Nat → Int32) (c3 : Nat → Nat) (I3 : Nat → Int32) (F3 : Nat → Nat → Int32) (H : Heap) (locs : List Loc), IX ad cn Fn → IMM c3 F3 → RR cn Fn c3 F3 → va_P D vwCl (wX cI (D.1 99) zz g ad cn In Fn ++ wM cI cB cZ g2 c3 I3 F3) H → va_D A (wX cI (D.1 99) zz g ad cn In Fn ++ wM cI cB cZ g2 c3 I3 F3) → va_S A s.heap H locs → ∀ ls : Array Slot, lv_has ls 4 [(0, .ref b), (1, .ref (g 0)), (2, .ref (g2 100)), (3, .int (nI i))] → W p l e room_1 s m #[Value.ref b] below meth c H locs (K + 8) (N + 240) (lw_Z below #[Value.ref b] s) (F0 m 2269 ls [])) : W p l e room_1 s m #[Value.ref b] below meth c H locs K N (lw_Z below #[Value.ref b] s) (F0 m 2190 ls []) := by
  obtain ⟨hx, hb, hr, hml, hown, hts, hX, hbl, hlocks, hgv⟩ := id C0
  have S : SF p m c code 4 s #[Value.ref b] RL := ⟨hx, hb, hml, hown, fun w h => hts w (wT_lw h)⟩
  refine lv_aload_n hx hb (oc_43 2190 (aq_12 shL_law_2178)) rfl (lvA1 hl) ?_
  refine lv_aload_n hx hb (oc_42 2191 (aq_13 shL_law_2178)) rfl (lvA0 hl) ?_
  refine lv_iload_n hx hb (oc_29 2192 (aq_14 shL_law_2178)) rfl (lvA3 hl) ?_
  refine lv_iconst (v := 1) hx hb (oc_4 2193 (aq_15 shL_law_2178)) kic_1 ?_
  refine lv_iadd hx hb (oc_96 2194 (aq_16 shL_law_2178)) ?_
  refine lv_topi (fun y_1 ey_1 => ?_)
  obtain rfl : y_1 = nI (i + 1) := ey_1.trans (nI_add i 1)
  refine va_sld hx hb hX hbl hbA hS (vp_in_nI (by omega) (by omega)) (oc_46 2195 (aq_17 shL_law_2178)) ?_
  refine lv_topi (fun y_2 ey_2 => ?_)
  obtain rfl : y_2 = xs (nI (i + 1)).toNatClampNeg := ey_2
  refine vp_callSi (runV_rxa (As := [.int (xs (nI (i + 1)).toNatClampNeg)]) (rest := []) S (q_Xbelow l D cI cB cZ zz qq vv bt g ad cn In Fn (xs (nI (i + 1)).toNatClampNeg) hI.1) kV_RL_250 hK hXS hS (exP hP) 0 xo_0 rfl rfl ⟨Nat.le_of_ble_eq_true rfl, Nat.le_of_ble_eq_true rfl⟩ ⟨(by show K + 0 ≤ 600000; omega), (by show N + 0 ≤ 7302250; omega)⟩ rfl hl.1 rfl (Nat.le_of_ble_eq_true rfl) (oc_182 2196 (aq_18 shL_law_2178) uw_0_250)) (fun r2 w2 => ?_)
  refine lv_pop hx hb (oc_87 2199 (aq_21 shL_law_2178)) rfl ?_
  refine lv_aload_n hx hb (oc_44 2200 (aq_22 shL_law_2178)) rfl (lvA2 hl) ?_
  refine lv_aload_n hx hb (oc_42 2201 (aq_23 shL_law_2178)) rfl (lvA0 hl) ?_
  refine lv_iload_n hx hb (oc_29 2202 shL_law_2202) rfl (lvA3 hl) ?_
  refine lv_iconst (v := 1) hx hb (oc_4 2203 (aq_1 shL_law_2202)) kic_1 ?_
  refine lv_iadd hx hb (oc_96 2204 (aq_2 shL_law_2202)) ?_
  refine lv_topi (fun y_4 ey_4 => ?_)
  obtain rfl : y_4 = nI (i + 1) := ey_4.trans (nI_add i 1)
  refine va_sld hx hb hX hbl hbA hS (vp_in_nI (by omega) (by omega)) (oc_46 2205 (aq_3 shL_law_2202)) ?_
  refine lv_topi (fun y_5 ey_5 => ?_)
  obtain rfl : y_5 = xs (nI (i + 1)).toNatClampNeg := ey_5
  have hFc := free_all (exDr hD) hS hA
  refine va_calli (runV_a (As := [.int (xs (nI (i + 1)).toNatClampNeg)]) (rest := []) S (q_below l D cI cB cZ g2 c3 I3 F3 (xs (nI (i + 1)).toNatClampNeg) H.size hM.1) kV_RL_253 hK (exPr hP) (exDr hD) 0 rfl rfl rfl ⟨Nat.le_of_ble_eq_true rfl, Nat.le_of_ble_eq_true rfl⟩ ⟨(by show K + 0 ≤ 600000; omega), (by show N + 0 ≤ 7302250; omega)⟩ rfl hl.1 rfl (Nat.le_of_ble_eq_true rfl) (oc_182 2206 (aq_4 shL_law_2202) uw_0_253)) hS (fun q _ h => hFc q h) hFc (fun r5 u t H1 locs ht hvm w5 hB1 hz1 hk1 hS => ?_)
  obtain ⟨c5, I5, F5⟩ := u
  obtain ⟨hP1, hD1⟩ := hB1
  rw [ht] at hP1
  obtain ⟨hP, hD⟩ := exjoin hP hD hk1 hFc hP1 hD1
  generalize H1 = H at hP hS ⊢
  obtain ⟨hM, hd5, hf5⟩ := imm_below hM w5
  have hR := RR.fm hR hd5 hf5 (by decide) (by decide)
  refine lv_pop hx hb (oc_87 2209 (aq_7 shL_law_2202)) rfl ?_
  refine lv_goto (tgt := 2269) hx hb (oc_167 2210 (aq_8 shL_law_2202) sgw_0_59) rfl ?_
  refine W.widen (k := K + 8) (n := N + 240) (by omega) (by omega) ?_
  exact kk _ _ _ _ _ _ _ _ _ hI hM hR hP hD hS ls hl
set_option maxRecDepth 100000 in
set_option maxHeartbeats 4000000 in
theorem lawc_57 {p : Program} {l : Launch} {e : Env} {s : State} {m : MethodId} {below : List Frame} {meth : Method} {c : Code} {b L : Nat} {xs : Nat → Int32} (C0 : lw_At p s m meth c b L xs) (hLN : L ≤ 3584) {A : Nat → Prop} (hA : ∀ q : Nat, s.heap.size ≤ q → A q) (hbA : ¬ A b) {D : va_G} {cI cB cZ : ClassId} {zz qq vv : Nat} {bt : Nat → Int32} {g g2 : Nat → Nat} (hK : KK D cI cB cZ s) (hXS : XS D zz qq vv bt A s s.heap) {ad : Nat → Nat → Nat} {cn : Nat → Nat} {In : Nat → Int32} {Fn : Nat → Nat → Int32} {c3 : Nat → Nat} {I3 : Nat → Int32} {F3 : Nat → Nat → Int32} (hI : IX ad cn Fn) (hM : IMM c3 F3) (hR : RR cn Fn c3 F3) {H : Heap} {locs : List Loc} (hP : va_P D vwCl (wX cI (D.1 99) zz g ad cn In Fn ++ wM cI cB cZ g2 c3 I3 F3) H) (hD : va_D A (wX cI (D.1 99) zz g ad cn In Fn ++ wM cI cB cZ g2 c3 I3 F3)) (hS : va_S A s.heap H locs) {K N i : Nat} (hi : i + 7 ≤ L) (hKN : K + 8 ≤ 600000 ∧ N + 240 ≤ 7302250) {ls : Array Slot} (hl : lv_has ls 4 [(0, .ref b), (1, .ref (g 0)), (2, .ref (g2 100)), (3, .int (nI i))]) (kk : ∀ (ad : Nat → Nat → Nat) (cn : Nat → Nat) (In : Nat → Int32) (Fn : Nat → Nat → Int32) (c3 : Nat → Nat) (I3 : Nat → Int32) (F3 : Nat → Nat → Int32) (H : Heap) (locs : List Loc), IX ad cn Fn → IMM c3 F3 → RR cn Fn c3 F3 → va_P D vwCl (wX cI (D.1 99) zz g ad cn In Fn ++ wM cI cB cZ g2 c3 I3 F3) H → va_D A (wX cI (D.1 99) zz g ad cn In Fn ++ wM cI cB cZ g2 c3 I3 F3) → va_S A s.heap H locs → ∀ ls : Array Slot, lv_has ls 4 [(0, .ref b), (1, .ref (g 0)), (2, .ref (g2 100)), (3, .int (nI i))] → W p l e room_1 s m #[Value.ref b] below meth c H locs (K + 8) (N + 240) (lw_Z below #[Value.ref b] s) (F0 m 2269 ls [])) : W p l e room_1 s m #[Value.ref b] below meth c H locs K N (lw_Z below #[Value.ref b] s) (F0 m 2213 ls []) := by
  obtain ⟨hx, hb, hr, hml, hown, hts, hX, hbl, hlocks, hgv⟩ := id C0
  have S : SF p m c code 4 s #[Value.ref b] RL := ⟨hx, hb, hml, hown, fun w h => hts w (wT_lw h)⟩
  refine lv_aload_n hx hb (oc_43 2213 (aq_11 shL_law_2202)) rfl (lvA1 hl) ?_
  refine lv_aload_n hx hb (oc_42 2214 (aq_12 shL_law_2202)) rfl (lvA0 hl) ?_
  refine lv_iload_n hx hb (oc_29 2215 (aq_13 shL_law_2202)) rfl (lvA3 hl) ?_
  refine lv_iconst (v := 1) hx hb (oc_4 2216 (aq_14 shL_law_2202)) kic_1 ?_
  refine lv_iadd hx hb (oc_96 2217 (aq_15 shL_law_2202)) ?_
  refine lv_topi (fun y_1 ey_1 => ?_)
  obtain rfl : y_1 = nI (i + 1) := ey_1.trans (nI_add i 1)
  refine va_sld hx hb hX hbl hbA hS (vp_in_nI (by omega) (by omega)) (oc_46 2218 (aq_16 shL_law_2202)) ?_
  refine lv_topi (fun y_2 ey_2 => ?_)
  obtain rfl : y_2 = xs (nI (i + 1)).toNatClampNeg := ey_2
  refine lv_aload_n hx hb (oc_42 2219 (aq_17 shL_law_2202)) rfl (lvA0 hl) ?_
  refine lv_iload_n hx hb (oc_29 2220 (aq_18 shL_law_2202)) rfl (lvA3 hl) ?_
  refine lv_iconst (v := 2) hx hb (oc_5 2221 (aq_19 shL_law_2202)) kic_2 ?_
  refine lv_iadd hx hb (oc_96 2222 (aq_20 shL_law_2202)) ?_
  refine lv_topi (fun y_3 ey_3 => ?_)
  obtain rfl : y_3 = nI (i + 2) := ey_3.trans (nI_add i 2)
  refine va_sld hx hb hX hbl hbA hS (vp_in_nI (by omega) (by omega)) (oc_46 2223 (aq_21 shL_law_2202)) ?_
  refine lv_topi (fun y_4 ey_4 => ?_)
  obtain rfl : y_4 = xs (nI (i + 2)).toNatClampNeg := ey_4
  have hFc := free_all (exD hD) hS hA
  refine va_calli (runV_xa (As := [.int (xs (nI (i + 1)).toNatClampNeg), .int (xs (nI (i + 2)).toNatClampNeg)]) (rest := []) S (q_Xcheck l D cI cB cZ zz qq vv bt g ad cn In Fn (xs (nI (i + 1)).toNatClampNeg) (xs (nI (i + 2)).toNatClampNeg) H.size hI.1) kV_RL_254 hK hXS hS hFc (exP hP) (exD hD) 0 xo_0 rfl rfl ⟨Nat.le_of_ble_eq_true rfl, Nat.le_of_ble_eq_true rfl⟩ ⟨(by show K + 0 ≤ 600000; omega), (by show N + 0 ≤ 7302250; omega)⟩ rfl hl.1 rfl (Nat.le_of_ble_eq_true rfl) (oc_182 2224 (aq_22 shL_law_2202) uw_0_254)) hS (fun q _ h => hFc q h) hFc (fun r4 u t H1 locs ht hvm w4 hB1 hz1 hk1 hS => ?_)
  obtain ⟨c4, I4, F4⟩ := u
  obtain ⟨hP1, hD1⟩ := hB1
  rw [ht] at hP1
  obtain ⟨hP, hD⟩ := exjoinL hP hD hk1 hFc hP1 hD1
  generalize H1 = H at hP hS ⊢
  have hd4 := w4.1.1
  have hf4 := w4.1.2.2
  have hI := IX.fr hI w4.1 w4.2.1 (by decide) (by decide)
  have hR := RR.fx hR hd4 hf4 (by decide) (by decide)
  refine lv_pop hx hb (oc_87 2227 shL_law_2227) rfl ?_
  refine lv_aload_n hx hb (oc_44 2228 (aq_1 shL_law_2227)) rfl (lvA2 hl) ?_
  refine lv_aload_n hx hb (oc_42 2229 (aq_2 shL_law_2227)) rfl (lvA0 hl) ?_
  refine lv_iload_n hx hb (oc_29 2230 (aq_3 shL_law_2227)) rfl (lvA3 hl) ?_
  refine lv_iconst (v := 1) hx hb (oc_4 2231 (aq_4 shL_law_2227)) kic_1 ?_
  refine lv_iadd hx hb (oc_96 2232 (aq_5 shL_law_2227)) ?_
  refine lv_topi (fun y_6 ey_6 => ?_)
  obtain rfl : y_6 = nI (i + 1) := ey_6.trans (nI_add i 1)
  refine va_sld hx hb hX hbl hbA hS (vp_in_nI (by omega) (by omega)) (oc_46 2233 (aq_6 shL_law_2227)) ?_
  refine lv_topi (fun y_7 ey_7 => ?_)
  obtain rfl : y_7 = xs (nI (i + 1)).toNatClampNeg := ey_7
  refine lv_aload_n hx hb (oc_42 2234 (aq_7 shL_law_2227)) rfl (lvA0 hl) ?_
  refine lv_iload_n hx hb (oc_29 2235 (aq_8 shL_law_2227)) rfl (lvA3 hl) ?_
  refine lv_iconst (v := 2) hx hb (oc_5 2236 (aq_9 shL_law_2227)) kic_2 ?_
  refine lv_iadd hx hb (oc_96 2237 (aq_10 shL_law_2227)) ?_
  refine lv_topi (fun y_8 ey_8 => ?_)
  obtain rfl : y_8 = nI (i + 2) := ey_8.trans (nI_add i 2)
  refine va_sld hx hb hX hbl hbA hS (vp_in_nI (by omega) (by omega)) (oc_46 2238 (aq_11 shL_law_2227)) ?_
  refine lv_topi (fun y_9 ey_9 => ?_)
  obtain rfl : y_9 = xs (nI (i + 2)).toNatClampNeg := ey_9
  have hFc := free_all (exDr hD) hS hA
  refine va_calli (runV_a (As := [.int (xs (nI (i + 1)).toNatClampNeg), .int (xs (nI (i + 2)).toNatClampNeg)]) (rest := []) S (q_check8 l D cI cB cZ g2 c3 I3 F3 (xs (nI (i + 1)).toNatClampNeg) (xs (nI (i + 2)).toNatClampNeg) H.size hM.1 hM.2) kV_RL_257 hK (exPr hP) (exDr hD) 0 rfl rfl rfl ⟨Nat.le_of_ble_eq_true rfl, Nat.le_of_ble_eq_true rfl⟩ ⟨(by show K + 0 ≤ 600000; omega), (by show N + 0 ≤ 7302250; omega)⟩ rfl hl.1 rfl (Nat.le_of_ble_eq_true rfl) (oc_182 2239 (aq_12 shL_law_2227) uw_1_1)) hS (fun q _ h => hFc q h) hFc (fun r9 u t H1 locs ht hvm w9 hB1 hz1 hk1 hS => ?_)
  obtain ⟨c9, I9, F9⟩ := u
  obtain ⟨hP1, hD1⟩ := hB1
  rw [ht] at hP1
  obtain ⟨hP, hD⟩ := exjoin hP hD hk1 hFc hP1 hD1
  generalize H1 = H at hP hS ⊢
  obtain ⟨hM, hd9, hf9⟩ := imm_check8 hM w9
  have hR := RR.fm hR hd9 hf9 (by decide) (by decide)
  refine lv_pop hx hb (oc_87 2242 (aq_15 shL_law_2227)) rfl ?_
  refine lv_goto (tgt := 2269) hx hb (oc_167 2243 (aq_16 shL_law_2227) sgw_0_26) rfl ?_
  refine W.widen (k := K + 8) (n := N + 240) (by omega) (by omega) ?_
  exact kk _ _ _ _ _ _ _ _ _ hI hM hR hP hD hS ls hl
set_option maxRecDepth 100000 in
set_option maxHeartbeats 4000000 in
theorem lawc_58 {p : Program} {l : Launch} {e : Env} {s : State} {m : MethodId} {below : List Frame} {meth : Method} {c : Code} {b L : Nat} {xs : Nat → Int32} (C0 : lw_At p s m meth c b L xs) (hLN : L ≤ 3584) {A : Nat → Prop} (hA : ∀ q : Nat, s.heap.size ≤ q → A q) (hbA : ¬ A b) {D : va_G} {cI cB cZ : ClassId} {zz qq vv : Nat} {bt : Nat → Int32} {g g2 : Nat → Nat} (hK : KK D cI cB cZ s) (hXS : XS D zz qq vv bt A s s.heap) {ad : Nat → Nat → Nat} {cn : Nat → Nat} {In : Nat → Int32} {Fn : Nat → Nat → Int32} {c3 : Nat → Nat} {I3 : Nat → Int32} {F3 : Nat → Nat → Int32} (hI : IX ad cn Fn) (hM : IMM c3 F3) (hR : RR cn Fn c3 F3) {H : Heap} {locs : List Loc} (hP : va_P D vwCl (wX cI (D.1 99) zz g ad cn In Fn ++ wM cI cB cZ g2 c3 I3 F3) H) (hD : va_D A (wX cI (D.1 99) zz g ad cn In Fn ++ wM cI cB cZ g2 c3 I3 F3)) (hS : va_S A s.heap H locs) {K N i : Nat} (hi : i + 7 ≤ L) (hKN : K + 8 ≤ 600000 ∧ N + 240 ≤ 7302250) {ls : Array Slot} (hl : lv_has ls 4 [(0, .ref b), (1, .ref (g 0)), (2, .ref (g2 100)), (3, .int (nI i))]) (kk : ∀ (ad : Nat → Nat → Nat) (cn : Nat → Nat) (In : Nat → Int32) (Fn : Nat → Nat → Int32) (c3 : Nat → Nat) (I3 : Nat → Int32) (F3 : Nat → Nat → Int32) (H : Heap) (locs : List Loc), IX ad cn Fn → IMM c3 F3 → RR cn Fn c3 F3 → va_P D vwCl (wX cI (D.1 99) zz g ad cn In Fn ++ wM cI cB cZ g2 c3 I3 F3) H → va_D A (wX cI (D.1 99) zz g ad cn In Fn ++ wM cI cB cZ g2 c3 I3 F3) → va_S A s.heap H locs → ∀ ls : Array Slot, lv_has ls 4 [(0, .ref b), (1, .ref (g 0)), (2, .ref (g2 100)), (3, .int (nI i))] → W p l e room_1 s m #[Value.ref b] below meth c H locs (K + 8) (N + 240) (lw_Z below #[Value.ref b] s) (F0 m 2269 ls [])) : W p l e room_1 s m #[Value.ref b] below meth c H locs K N (lw_Z below #[Value.ref b] s) (F0 m 2246 ls []) := by
  obtain ⟨hx, hb, hr, hml, hown, hts, hX, hbl, hlocks, hgv⟩ := id C0
  have S : SF p m c code 4 s #[Value.ref b] RL := ⟨hx, hb, hml, hown, fun w h => hts w (wT_lw h)⟩
  refine lv_aload_n hx hb (oc_43 2246 (aq_19 shL_law_2227)) rfl (lvA1 hl) ?_
  refine lv_aload_n hx hb (oc_42 2247 (aq_20 shL_law_2227)) rfl (lvA0 hl) ?_
  refine lv_iload_n hx hb (oc_29 2248 (aq_21 shL_law_2227)) rfl (lvA3 hl) ?_
  refine lv_iconst (v := 1) hx hb (oc_4 2249 (aq_22 shL_law_2227)) kic_1 ?_
  refine lv_iadd hx hb (oc_96 2250 (aq_23 shL_law_2227)) ?_
  refine lv_topi (fun y_1 ey_1 => ?_)
  obtain rfl : y_1 = nI (i + 1) := ey_1.trans (nI_add i 1)
  refine va_sld hx hb hX hbl hbA hS (vp_in_nI (by omega) (by omega)) (oc_46 2251 shL_law_2251) ?_
  refine lv_topi (fun y_2 ey_2 => ?_)
  obtain rfl : y_2 = xs (nI (i + 1)).toNatClampNeg := ey_2
  refine vp_callSi (runV_rxa (As := [.int (xs (nI (i + 1)).toNatClampNeg)]) (rest := []) S (q_Xcount l D cI cB cZ zz qq vv bt g ad cn In Fn (xs (nI (i + 1)).toNatClampNeg) hI.1 hI.2.1) kV_RL_258 hK hXS hS (exP hP) 0 xo_0 rfl rfl ⟨Nat.le_of_ble_eq_true rfl, Nat.le_of_ble_eq_true rfl⟩ ⟨(by show K + 0 ≤ 600000; omega), (by show N + 0 ≤ 7302250; omega)⟩ rfl hl.1 rfl (Nat.le_of_ble_eq_true rfl) (oc_182 2252 (aq_1 shL_law_2251) uw_1_2)) (fun r2 w2 => ?_)
  refine lv_pop hx hb (oc_87 2255 (aq_4 shL_law_2251)) rfl ?_
  refine lv_aload_n hx hb (oc_44 2256 (aq_5 shL_law_2251)) rfl (lvA2 hl) ?_
  refine lv_aload_n hx hb (oc_42 2257 (aq_6 shL_law_2251)) rfl (lvA0 hl) ?_
  refine lv_iload_n hx hb (oc_29 2258 (aq_7 shL_law_2251)) rfl (lvA3 hl) ?_
  refine lv_iconst (v := 1) hx hb (oc_4 2259 (aq_8 shL_law_2251)) kic_1 ?_
  refine lv_iadd hx hb (oc_96 2260 (aq_9 shL_law_2251)) ?_
  refine lv_topi (fun y_4 ey_4 => ?_)
  obtain rfl : y_4 = nI (i + 1) := ey_4.trans (nI_add i 1)
  refine va_sld hx hb hX hbl hbA hS (vp_in_nI (by omega) (by omega)) (oc_46 2261 (aq_10 shL_law_2251)) ?_
  refine lv_topi (fun y_5 ey_5 => ?_)
  obtain rfl : y_5 = xs (nI (i + 1)).toNatClampNeg := ey_5
  refine vp_callSi (runV_ra (As := [.int (xs (nI (i + 1)).toNatClampNeg)]) (rest := []) S (q_count l D cI cB cZ g2 c3 I3 F3 (xs (nI (i + 1)).toNatClampNeg) hM.1) kV_RL_261 hK (exPr hP) 0 rfl rfl rfl ⟨Nat.le_of_ble_eq_true rfl, Nat.le_of_ble_eq_true rfl⟩ ⟨(by show K + 0 ≤ 600000; omega), (by show N + 0 ≤ 7302250; omega)⟩ rfl hl.1 rfl (Nat.le_of_ble_eq_true rfl) (oc_182 2262 (aq_11 shL_law_2251) uw_1_5)) (fun r5 w5 => ?_)
  refine lv_pop hx hb (oc_87 2265 (aq_14 shL_law_2251)) rfl ?_
  refine lv_goto (tgt := 2269) hx hb (oc_167 2266 (aq_15 shL_law_2251) sgw_0_3) rfl ?_
  refine W.widen (k := K + 8) (n := N + 240) (by omega) (by omega) ?_
  exact kk _ _ _ _ _ _ _ _ _ hI hM hR hP hD hS ls hl
end
