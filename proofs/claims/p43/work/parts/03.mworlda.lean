noncomputable def sxX12_in_16 : List UInt8 := []
theorem shX12_in_0 : cX12_in.data.toList.drop 0 = 26 :: 27 :: 161 :: 0 :: 12 :: 26 :: 28 :: 163 :: 0 :: 7 :: 4 :: 167 :: 0 :: 4 :: 3 :: 172 :: sxX12_in_16 := rfl
noncomputable def sxX12_isDay_17 : List UInt8 := []
theorem shX12_isDay_0 : cX12_isDay.data.toList.drop 0 = 26 :: 155 :: 0 :: 14 :: 26 :: 17 :: 1 :: 143 :: 163 :: 0 :: 7 :: 4 :: 167 :: 0 :: 4 :: 3 :: 172 :: sxX12_isDay_17 := rfl
noncomputable def sxX12_isKitchen_18 : List UInt8 := []
theorem shX12_isKitchen_0 : cX12_isKitchen.data.toList.drop 0 = 27 :: 155 :: 0 :: 15 :: 27 :: 42 :: 180 :: 0 :: 204 :: 162 :: 0 :: 7 :: 4 :: 167 :: 0 :: 4 :: 3 :: 172 :: sxX12_isKitchen_18 := rfl
noncomputable def sxX12_isLoad_18 : List UInt8 := []
theorem shX12_isLoad_0 : cX12_isLoad.data.toList.drop 0 = 27 :: 155 :: 0 :: 15 :: 27 :: 42 :: 180 :: 0 :: 208 :: 162 :: 0 :: 7 :: 4 :: 167 :: 0 :: 4 :: 3 :: 172 :: sxX12_isLoad_18 := rfl
noncomputable def sxX12_now_23 : List UInt8 := []
theorem shX12_now_0 : cX12_now.data.toList.drop 0 = 27 :: 42 :: 180 :: 0 :: 211 :: 17 :: 1 :: 143 :: 184 :: 0 :: 214 :: 154 :: 0 :: 5 :: 3 :: 172 :: 42 :: 27 :: 181 :: 0 :: 211 :: 4 :: 172 :: sxX12_now_23 := rfl
noncomputable def sxX12_kitchen_112 : List UInt8 := []
noncomputable def sxX12_kitchen_97 : List UInt8 := 180 :: 0 :: 204 :: 4 :: 96 :: 181 :: 0 :: 204 :: 42 :: 180 :: 0 :: 204 :: 4 :: 100 :: 172 :: sxX12_kitchen_112
noncomputable def sxX12_kitchen_73 : List UInt8 := 79 :: 42 :: 180 :: 0 :: 16 :: 42 :: 180 :: 0 :: 204 :: 29 :: 79 :: 42 :: 180 :: 0 :: 19 :: 42 :: 180 :: 0 :: 204 :: 21 :: 4 :: 79 :: 42 :: 42 :: sxX12_kitchen_97
noncomputable def sxX12_kitchen_49 : List UInt8 := 160 :: 0 :: 5 :: 2 :: 172 :: 42 :: 180 :: 0 :: 7 :: 42 :: 180 :: 0 :: 204 :: 27 :: 79 :: 42 :: 180 :: 0 :: 13 :: 42 :: 180 :: 0 :: 204 :: 28 :: sxX12_kitchen_73
noncomputable def sxX12_kitchen_24 : List UInt8 := 184 :: 0 :: 214 :: 153 :: 0 :: 25 :: 21 :: 4 :: 16 :: 20 :: 17 :: 1 :: 144 :: 184 :: 0 :: 214 :: 153 :: 0 :: 12 :: 42 :: 180 :: 0 :: 204 :: 16 :: 10 :: sxX12_kitchen_49
theorem shX12_kitchen_0 : cX12_kitchen.data.toList.drop 0 = 27 :: 3 :: 16 :: 99 :: 184 :: 0 :: 214 :: 153 :: 0 :: 45 :: 28 :: 3 :: 16 :: 99 :: 184 :: 0 :: 214 :: 153 :: 0 :: 35 :: 29 :: 3 :: 16 :: 50 :: sxX12_kitchen_24 := rfl
theorem shX12_kitchen_24 : cX12_kitchen.data.toList.drop 24 = 184 :: 0 :: 214 :: 153 :: 0 :: 25 :: 21 :: 4 :: 16 :: 20 :: 17 :: 1 :: 144 :: 184 :: 0 :: 214 :: 153 :: 0 :: 12 :: 42 :: 180 :: 0 :: 204 :: 16 :: 10 :: sxX12_kitchen_49 := aq_24 shX12_kitchen_0
theorem shX12_kitchen_49 : cX12_kitchen.data.toList.drop 49 = 160 :: 0 :: 5 :: 2 :: 172 :: 42 :: 180 :: 0 :: 7 :: 42 :: 180 :: 0 :: 204 :: 27 :: 79 :: 42 :: 180 :: 0 :: 13 :: 42 :: 180 :: 0 :: 204 :: 28 :: sxX12_kitchen_73 := aq_25 shX12_kitchen_24
theorem shX12_kitchen_73 : cX12_kitchen.data.toList.drop 73 = 79 :: 42 :: 180 :: 0 :: 16 :: 42 :: 180 :: 0 :: 204 :: 29 :: 79 :: 42 :: 180 :: 0 :: 19 :: 42 :: 180 :: 0 :: 204 :: 21 :: 4 :: 79 :: 42 :: 42 :: sxX12_kitchen_97 := aq_24 shX12_kitchen_49
theorem shX12_kitchen_97 : cX12_kitchen.data.toList.drop 97 = 180 :: 0 :: 204 :: 4 :: 96 :: 181 :: 0 :: 204 :: 42 :: 180 :: 0 :: 204 :: 4 :: 100 :: 172 :: sxX12_kitchen_112 := aq_24 shX12_kitchen_73
theorem dX12_kitchen_52 : decode cX12_kitchen 52 = .ok (.iconst (-1), 1) := oc_2 52 (aq_3 shX12_kitchen_49)
theorem dX12_kitchen_53 : decode cX12_kitchen 53 = .ok (.ireturn, 1) := oc_172 53 (aq_4 shX12_kitchen_49)
noncomputable def sxX12_likelyOn_37 : List UInt8 := []
noncomputable def sxX12_likelyOn_26 : List UInt8 := 29 :: 167 :: 0 :: 9 :: 42 :: 180 :: 0 :: 19 :: 27 :: 46 :: 172 :: sxX12_likelyOn_37
theorem shX12_likelyOn_0 : cX12_likelyOn.data.toList.drop 0 = 42 :: 180 :: 0 :: 16 :: 27 :: 46 :: 28 :: 42 :: 180 :: 0 :: 22 :: 27 :: 46 :: 100 :: 104 :: 62 :: 29 :: 42 :: 180 :: 0 :: 19 :: 27 :: 46 :: 162 :: 0 :: 7 :: sxX12_likelyOn_26 := rfl
theorem shX12_likelyOn_26 : cX12_likelyOn.data.toList.drop 26 = 29 :: 167 :: 0 :: 9 :: 42 :: 180 :: 0 :: 19 :: 27 :: 46 :: 172 :: sxX12_likelyOn_37 := aq_26 shX12_likelyOn_0
noncomputable def sxX12_likely_35 : List UInt8 := []
noncomputable def sxX12_likely_24 : List UInt8 := 2 :: 167 :: 0 :: 9 :: 42 :: 27 :: 28 :: 182 :: 0 :: 222 :: 172 :: sxX12_likely_35
theorem shX12_likely_0 : cX12_likely.data.toList.drop 0 = 42 :: 27 :: 182 :: 0 :: 218 :: 153 :: 0 :: 19 :: 28 :: 42 :: 180 :: 0 :: 22 :: 27 :: 46 :: 17 :: 1 :: 143 :: 184 :: 0 :: 214 :: 154 :: 0 :: 7 :: sxX12_likely_24 := rfl
theorem shX12_likely_24 : cX12_likely.data.toList.drop 24 = 2 :: 167 :: 0 :: 9 :: 42 :: 27 :: 28 :: 182 :: 0 :: 222 :: 172 :: sxX12_likely_35 := aq_24 shX12_likely_0
noncomputable def sxX12_fetch_235 : List UInt8 := []
noncomputable def sxX12_fetch_224 : List UInt8 := 96 :: 181 :: 0 :: 208 :: 42 :: 180 :: 0 :: 208 :: 4 :: 100 :: 172 :: sxX12_fetch_235
noncomputable def sxX12_fetch_200 : List UInt8 := 42 :: 180 :: 0 :: 208 :: 42 :: 180 :: 0 :: 22 :: 27 :: 46 :: 79 :: 42 :: 180 :: 0 :: 22 :: 27 :: 28 :: 79 :: 42 :: 42 :: 180 :: 0 :: 208 :: 4 :: sxX12_fetch_224
noncomputable def sxX12_fetch_174 : List UInt8 := 21 :: 8 :: 158 :: 0 :: 8 :: 21 :: 8 :: 167 :: 0 :: 4 :: 3 :: 79 :: 42 :: 180 :: 0 :: 46 :: 42 :: 180 :: 0 :: 208 :: 2 :: 79 :: 42 :: 180 :: 0 :: 49 :: sxX12_fetch_200
noncomputable def sxX12_fetch_148 : List UInt8 := 42 :: 180 :: 0 :: 208 :: 21 :: 5 :: 79 :: 42 :: 180 :: 0 :: 40 :: 42 :: 180 :: 0 :: 208 :: 21 :: 6 :: 79 :: 42 :: 180 :: 0 :: 43 :: 42 :: 180 :: 0 :: 208 :: sxX12_fetch_174
noncomputable def sxX12_fetch_124 : List UInt8 := 180 :: 0 :: 31 :: 42 :: 180 :: 0 :: 208 :: 29 :: 79 :: 42 :: 180 :: 0 :: 34 :: 42 :: 180 :: 0 :: 208 :: 21 :: 4 :: 79 :: 42 :: 180 :: 0 :: 37 :: sxX12_fetch_148
noncomputable def sxX12_fetch_100 : List UInt8 := 100 :: 54 :: 8 :: 42 :: 180 :: 0 :: 25 :: 42 :: 180 :: 0 :: 208 :: 27 :: 79 :: 42 :: 180 :: 0 :: 28 :: 42 :: 180 :: 0 :: 208 :: 28 :: 79 :: 42 :: sxX12_fetch_124
noncomputable def sxX12_fetch_76 : List UInt8 := 16 :: 60 :: 160 :: 0 :: 5 :: 2 :: 172 :: 42 :: 27 :: 28 :: 182 :: 0 :: 222 :: 54 :: 7 :: 21 :: 7 :: 29 :: 100 :: 21 :: 7 :: 16 :: 10 :: 108 :: sxX12_fetch_100
noncomputable def sxX12_fetch_50 : List UInt8 := 3 :: 17 :: 3 :: 232 :: 184 :: 0 :: 214 :: 153 :: 0 :: 24 :: 21 :: 6 :: 28 :: 17 :: 1 :: 143 :: 184 :: 0 :: 214 :: 153 :: 0 :: 12 :: 42 :: 180 :: 0 :: 208 :: sxX12_fetch_76
noncomputable def sxX12_fetch_25 : List UInt8 := 29 :: 3 :: 17 :: 1 :: 144 :: 184 :: 0 :: 214 :: 153 :: 0 :: 48 :: 21 :: 4 :: 3 :: 17 :: 3 :: 232 :: 184 :: 0 :: 214 :: 153 :: 0 :: 36 :: 21 :: 5 :: sxX12_fetch_50
theorem shX12_fetch_0 : cX12_fetch.data.toList.drop 0 = 42 :: 27 :: 182 :: 0 :: 218 :: 153 :: 0 :: 76 :: 28 :: 42 :: 180 :: 0 :: 22 :: 27 :: 46 :: 42 :: 180 :: 0 :: 211 :: 184 :: 0 :: 214 :: 153 :: 0 :: 59 :: sxX12_fetch_25 := rfl
theorem shX12_fetch_25 : cX12_fetch.data.toList.drop 25 = 29 :: 3 :: 17 :: 1 :: 144 :: 184 :: 0 :: 214 :: 153 :: 0 :: 48 :: 21 :: 4 :: 3 :: 17 :: 3 :: 232 :: 184 :: 0 :: 214 :: 153 :: 0 :: 36 :: 21 :: 5 :: sxX12_fetch_50 := aq_25 shX12_fetch_0
theorem shX12_fetch_50 : cX12_fetch.data.toList.drop 50 = 3 :: 17 :: 3 :: 232 :: 184 :: 0 :: 214 :: 153 :: 0 :: 24 :: 21 :: 6 :: 28 :: 17 :: 1 :: 143 :: 184 :: 0 :: 214 :: 153 :: 0 :: 12 :: 42 :: 180 :: 0 :: 208 :: sxX12_fetch_76 := aq_25 shX12_fetch_25
theorem shX12_fetch_76 : cX12_fetch.data.toList.drop 76 = 16 :: 60 :: 160 :: 0 :: 5 :: 2 :: 172 :: 42 :: 27 :: 28 :: 182 :: 0 :: 222 :: 54 :: 7 :: 21 :: 7 :: 29 :: 100 :: 21 :: 7 :: 16 :: 10 :: 108 :: sxX12_fetch_100 := aq_26 shX12_fetch_50
theorem shX12_fetch_100 : cX12_fetch.data.toList.drop 100 = 100 :: 54 :: 8 :: 42 :: 180 :: 0 :: 25 :: 42 :: 180 :: 0 :: 208 :: 27 :: 79 :: 42 :: 180 :: 0 :: 28 :: 42 :: 180 :: 0 :: 208 :: 28 :: 79 :: 42 :: sxX12_fetch_124 := aq_24 shX12_fetch_76
theorem shX12_fetch_124 : cX12_fetch.data.toList.drop 124 = 180 :: 0 :: 31 :: 42 :: 180 :: 0 :: 208 :: 29 :: 79 :: 42 :: 180 :: 0 :: 34 :: 42 :: 180 :: 0 :: 208 :: 21 :: 4 :: 79 :: 42 :: 180 :: 0 :: 37 :: sxX12_fetch_148 := aq_24 shX12_fetch_100
theorem shX12_fetch_148 : cX12_fetch.data.toList.drop 148 = 42 :: 180 :: 0 :: 208 :: 21 :: 5 :: 79 :: 42 :: 180 :: 0 :: 40 :: 42 :: 180 :: 0 :: 208 :: 21 :: 6 :: 79 :: 42 :: 180 :: 0 :: 43 :: 42 :: 180 :: 0 :: 208 :: sxX12_fetch_174 := aq_24 shX12_fetch_124
theorem shX12_fetch_174 : cX12_fetch.data.toList.drop 174 = 21 :: 8 :: 158 :: 0 :: 8 :: 21 :: 8 :: 167 :: 0 :: 4 :: 3 :: 79 :: 42 :: 180 :: 0 :: 46 :: 42 :: 180 :: 0 :: 208 :: 2 :: 79 :: 42 :: 180 :: 0 :: 49 :: sxX12_fetch_200 := aq_26 shX12_fetch_148
theorem shX12_fetch_200 : cX12_fetch.data.toList.drop 200 = 42 :: 180 :: 0 :: 208 :: 42 :: 180 :: 0 :: 22 :: 27 :: 46 :: 79 :: 42 :: 180 :: 0 :: 22 :: 27 :: 28 :: 79 :: 42 :: 42 :: 180 :: 0 :: 208 :: 4 :: sxX12_fetch_224 := aq_26 shX12_fetch_174
theorem shX12_fetch_224 : cX12_fetch.data.toList.drop 224 = 96 :: 181 :: 0 :: 208 :: 42 :: 180 :: 0 :: 208 :: 4 :: 100 :: 172 :: sxX12_fetch_235 := aq_24 shX12_fetch_200
theorem dX12_fetch_81 : decode cX12_fetch 81 = .ok (.iconst (-1), 1) := oc_2 81 (aq_5 shX12_fetch_76)
theorem dX12_fetch_82 : decode cX12_fetch 82 = .ok (.ireturn, 1) := oc_172 82 (aq_6 shX12_fetch_76)
noncomputable def sxX12_types_39 : List UInt8 := []
noncomputable def sxX12_types_24 : List UInt8 := 180 :: 0 :: 226 :: 4 :: 96 :: 181 :: 0 :: 226 :: 132 :: 2 :: 255 :: 167 :: 255 :: 223 :: 177 :: sxX12_types_39
theorem shX12_types_0 : cX12_types.data.toList.drop 0 = 6 :: 61 :: 28 :: 155 :: 0 :: 35 :: 42 :: 180 :: 0 :: 52 :: 42 :: 180 :: 0 :: 226 :: 27 :: 16 :: 8 :: 28 :: 104 :: 122 :: 145 :: 84 :: 42 :: 42 :: sxX12_types_24 := rfl
theorem shX12_types_24 : cX12_types.data.toList.drop 24 = 180 :: 0 :: 226 :: 4 :: 96 :: 181 :: 0 :: 226 :: 132 :: 2 :: 255 :: 167 :: 255 :: 223 :: 177 :: sxX12_types_39 := aq_24 shX12_types_0
theorem dX12_types_2 : decode cX12_types 2 = .ok (.iload_n 2, 1) := oc_28 2 (aq_2 shX12_types_0)
theorem dX12_types_3 : decode cX12_types 3 = .ok (.ifCond .lt 35, 3) := oc_155 3 (aq_3 shX12_types_0) sgw_0_35
theorem dX12_types_6 : decode cX12_types 6 = .ok (.aload_n 0, 1) := oc_42 6 (aq_6 shX12_types_0)
theorem dX12_types_7 : decode cX12_types 7 = .ok (.getfield 52, 3) := oc_180 7 (aq_7 shX12_types_0) uw_0_52
theorem dX12_types_10 : decode cX12_types 10 = .ok (.aload_n 0, 1) := oc_42 10 (aq_10 shX12_types_0)
theorem dX12_types_11 : decode cX12_types 11 = .ok (.getfield 226, 3) := oc_180 11 (aq_11 shX12_types_0) uw_0_226
theorem dX12_types_14 : decode cX12_types 14 = .ok (.iload_n 1, 1) := oc_27 14 (aq_14 shX12_types_0)
theorem dX12_types_15 : decode cX12_types 15 = .ok (.bipush 8, 2) := oc_16 15 (aq_15 shX12_types_0) sgb_8
theorem dX12_types_17 : decode cX12_types 17 = .ok (.iload_n 2, 1) := oc_28 17 (aq_17 shX12_types_0)
theorem dX12_types_18 : decode cX12_types 18 = .ok (.imul, 1) := oc_104 18 (aq_18 shX12_types_0)
theorem dX12_types_19 : decode cX12_types 19 = .ok (.ishr, 1) := oc_122 19 (aq_19 shX12_types_0)
theorem dX12_types_20 : decode cX12_types 20 = .ok (.i2b, 1) := oc_145 20 (aq_20 shX12_types_0)
theorem dX12_types_21 : decode cX12_types 21 = .ok (.bastore, 1) := oc_84 21 (aq_21 shX12_types_0)
theorem dX12_types_22 : decode cX12_types 22 = .ok (.aload_n 0, 1) := oc_42 22 (aq_22 shX12_types_0)
theorem dX12_types_23 : decode cX12_types 23 = .ok (.aload_n 0, 1) := oc_42 23 (aq_23 shX12_types_0)
theorem dX12_types_24 : decode cX12_types 24 = .ok (.getfield 226, 3) := oc_180 24 shX12_types_24 uw_0_226
theorem dX12_types_27 : decode cX12_types 27 = .ok (.iconst 1, 1) := oc_4 27 (aq_3 shX12_types_24)
theorem dX12_types_28 : decode cX12_types 28 = .ok (.iadd, 1) := oc_96 28 (aq_4 shX12_types_24)
theorem dX12_types_29 : decode cX12_types 29 = .ok (.putfield 226, 3) := oc_181 29 (aq_5 shX12_types_24) uw_0_226
theorem dX12_types_32 : decode cX12_types 32 = .ok (.iinc 2 (-1), 3) := oc_132 32 (aq_8 shX12_types_24) ub_2 sgb_255
theorem dX12_types_35 : decode cX12_types 35 = .ok (.goto (-33), 3) := oc_167 35 (aq_11 shX12_types_24) sgw_255_223
noncomputable def sxX12_feed_47 : List UInt8 := []
noncomputable def sxX12_feed_25 : List UInt8 := 42 :: 29 :: 182 :: 0 :: 229 :: 42 :: 21 :: 4 :: 182 :: 0 :: 229 :: 42 :: 21 :: 5 :: 182 :: 0 :: 229 :: 42 :: 180 :: 0 :: 226 :: 172 :: sxX12_feed_47
theorem shX12_feed_0 : cX12_feed.data.toList.drop 0 = 42 :: 180 :: 0 :: 226 :: 16 :: 20 :: 96 :: 17 :: 0 :: 200 :: 164 :: 0 :: 5 :: 2 :: 172 :: 42 :: 27 :: 182 :: 0 :: 229 :: 42 :: 28 :: 182 :: 0 :: 229 :: sxX12_feed_25 := rfl
theorem shX12_feed_25 : cX12_feed.data.toList.drop 25 = 42 :: 29 :: 182 :: 0 :: 229 :: 42 :: 21 :: 4 :: 182 :: 0 :: 229 :: 42 :: 21 :: 5 :: 182 :: 0 :: 229 :: 42 :: 180 :: 0 :: 226 :: 172 :: sxX12_feed_47 := aq_25 shX12_feed_0
noncomputable def sxX12_here_29 : List UInt8 := []
noncomputable def sxX12_here_24 : List UInt8 := 167 :: 0 :: 4 :: 2 :: 172 :: sxX12_here_29
theorem shX12_here_0 : cX12_here.data.toList.drop 0 = 42 :: 180 :: 0 :: 233 :: 42 :: 180 :: 0 :: 236 :: 162 :: 0 :: 19 :: 42 :: 180 :: 0 :: 52 :: 42 :: 180 :: 0 :: 233 :: 51 :: 17 :: 0 :: 255 :: 126 :: sxX12_here_24 := rfl
theorem shX12_here_24 : cX12_here.data.toList.drop 24 = 167 :: 0 :: 4 :: 2 :: 172 :: sxX12_here_29 := aq_24 shX12_here_0
noncomputable def sxX12_isDigit_24 : List UInt8 := []
theorem shX12_isDigit_0 : cX12_isDigit.data.toList.drop 0 = 42 :: 182 :: 0 :: 239 :: 16 :: 48 :: 161 :: 0 :: 16 :: 42 :: 182 :: 0 :: 239 :: 16 :: 57 :: 163 :: 0 :: 7 :: 4 :: 167 :: 0 :: 4 :: 3 :: 172 :: sxX12_isDigit_24 := rfl
noncomputable def sxX12_wrong_13 : List UInt8 := []
theorem shX12_wrong_0 : cX12_wrong.data.toList.drop 0 = 42 :: 17 :: 252 :: 24 :: 27 :: 104 :: 28 :: 100 :: 181 :: 0 :: 243 :: 3 :: 172 :: sxX12_wrong_13 := rfl
noncomputable def sxX12_takes_30 : List UInt8 := []
noncomputable def sxX12_takes_24 : List UInt8 := 96 :: 181 :: 0 :: 233 :: 4 :: 172 :: sxX12_takes_30
theorem shX12_takes_0 : cX12_takes.data.toList.drop 0 = 42 :: 182 :: 0 :: 239 :: 27 :: 159 :: 0 :: 13 :: 42 :: 4 :: 42 :: 180 :: 0 :: 233 :: 182 :: 0 :: 246 :: 172 :: 42 :: 42 :: 180 :: 0 :: 233 :: 4 :: sxX12_takes_24 := rfl
theorem shX12_takes_24 : cX12_takes.data.toList.drop 24 = 96 :: 181 :: 0 :: 233 :: 4 :: 172 :: sxX12_takes_30 := aq_24 shX12_takes_0
noncomputable def sxX12_readsNumber_72 : List UInt8 := []
noncomputable def sxX12_readsNumber_50 : List UInt8 := 96 :: 16 :: 48 :: 100 :: 181 :: 0 :: 250 :: 42 :: 42 :: 180 :: 0 :: 233 :: 4 :: 96 :: 181 :: 0 :: 233 :: 167 :: 255 :: 199 :: 4 :: 172 :: sxX12_readsNumber_72
noncomputable def sxX12_readsNumber_24 : List UInt8 := 96 :: 160 :: 0 :: 13 :: 42 :: 5 :: 42 :: 180 :: 0 :: 233 :: 182 :: 0 :: 246 :: 172 :: 42 :: 16 :: 10 :: 42 :: 180 :: 0 :: 250 :: 104 :: 42 :: 182 :: 0 :: 239 :: sxX12_readsNumber_50
theorem shX12_readsNumber_0 : cX12_readsNumber.data.toList.drop 0 = 42 :: 180 :: 0 :: 233 :: 60 :: 42 :: 3 :: 181 :: 0 :: 250 :: 42 :: 182 :: 0 :: 253 :: 153 :: 0 :: 56 :: 42 :: 180 :: 0 :: 233 :: 27 :: 16 :: 6 :: sxX12_readsNumber_24 := rfl
theorem shX12_readsNumber_24 : cX12_readsNumber.data.toList.drop 24 = 96 :: 160 :: 0 :: 13 :: 42 :: 5 :: 42 :: 180 :: 0 :: 233 :: 182 :: 0 :: 246 :: 172 :: 42 :: 16 :: 10 :: 42 :: 180 :: 0 :: 250 :: 104 :: 42 :: 182 :: 0 :: 239 :: sxX12_readsNumber_50 := aq_24 shX12_readsNumber_0
theorem shX12_readsNumber_50 : cX12_readsNumber.data.toList.drop 50 = 96 :: 16 :: 48 :: 100 :: 181 :: 0 :: 250 :: 42 :: 42 :: 180 :: 0 :: 233 :: 4 :: 96 :: 181 :: 0 :: 233 :: 167 :: 255 :: 199 :: 4 :: 172 :: sxX12_readsNumber_72 := aq_26 shX12_readsNumber_24
noncomputable def sxX12_says_27 : List UInt8 := []
noncomputable def sxX12_says_26 : List UInt8 := 177 :: sxX12_says_27
theorem shX12_says_0 : cX12_says.data.toList.drop 0 = 42 :: 180 :: 0 :: 56 :: 42 :: 180 :: 1 :: 1 :: 19 :: 1 :: 4 :: 27 :: 104 :: 28 :: 96 :: 79 :: 42 :: 42 :: 180 :: 1 :: 1 :: 4 :: 96 :: 181 :: 1 :: 1 :: sxX12_says_26 := rfl
theorem shX12_says_26 : cX12_says.data.toList.drop 26 = 177 :: sxX12_says_27 := aq_26 shX12_says_0
noncomputable def sxX12_opens_65 : List UInt8 := []
noncomputable def sxX12_opens_48 : List UInt8 := 4 :: 96 :: 181 :: 1 :: 8 :: 42 :: 42 :: 180 :: 0 :: 233 :: 4 :: 96 :: 181 :: 0 :: 233 :: 4 :: 172 :: sxX12_opens_65
noncomputable def sxX12_opens_24 : List UInt8 := 4 :: 96 :: 181 :: 1 :: 5 :: 42 :: 180 :: 0 :: 59 :: 42 :: 180 :: 1 :: 8 :: 19 :: 1 :: 4 :: 27 :: 104 :: 79 :: 42 :: 42 :: 180 :: 1 :: 8 :: sxX12_opens_48
theorem shX12_opens_0 : cX12_opens.data.toList.drop 0 = 42 :: 180 :: 1 :: 5 :: 16 :: 6 :: 160 :: 0 :: 13 :: 42 :: 8 :: 42 :: 180 :: 0 :: 233 :: 182 :: 0 :: 246 :: 172 :: 42 :: 42 :: 180 :: 1 :: 5 :: sxX12_opens_24 := rfl
theorem shX12_opens_24 : cX12_opens.data.toList.drop 24 = 4 :: 96 :: 181 :: 1 :: 5 :: 42 :: 180 :: 0 :: 59 :: 42 :: 180 :: 1 :: 8 :: 19 :: 1 :: 4 :: 27 :: 104 :: 79 :: 42 :: 42 :: 180 :: 1 :: 8 :: sxX12_opens_48 := aq_24 shX12_opens_0
theorem shX12_opens_48 : cX12_opens.data.toList.drop 48 = 4 :: 96 :: 181 :: 1 :: 8 :: 42 :: 42 :: 180 :: 0 :: 233 :: 4 :: 96 :: 181 :: 0 :: 233 :: 4 :: 172 :: sxX12_opens_65 := aq_24 shX12_opens_24
noncomputable def sxX12_top_27 : List UInt8 := []
noncomputable def sxX12_top_25 : List UInt8 := 108 :: 172 :: sxX12_top_27
theorem shX12_top_0 : cX12_top.data.toList.drop 0 = 42 :: 180 :: 1 :: 8 :: 154 :: 0 :: 7 :: 2 :: 167 :: 0 :: 18 :: 42 :: 180 :: 0 :: 59 :: 42 :: 180 :: 1 :: 8 :: 4 :: 100 :: 46 :: 19 :: 1 :: 4 :: sxX12_top_25 := rfl
theorem shX12_top_25 : cX12_top.data.toList.drop 25 = 108 :: 172 :: sxX12_top_27 := aq_25 shX12_top_0
noncomputable def sxX12_factOf_137 : List UInt8 := []
noncomputable def sxX12_factOf_132 : List UInt8 := 16 :: 10 :: 172 :: 2 :: 172 :: sxX12_factOf_137
noncomputable def sxX12_factOf_108 : List UInt8 := 3 :: 172 :: 4 :: 172 :: 5 :: 172 :: 6 :: 172 :: 7 :: 172 :: 8 :: 172 :: 16 :: 6 :: 172 :: 16 :: 7 :: 172 :: 16 :: 8 :: 172 :: 16 :: 9 :: 172 :: sxX12_factOf_132
theorem shX12_factOf_0 : cX12_factOf.data.toList.drop 0 = 26 :: 170 :: 0 :: 0 :: 0 :: 0 :: 0 :: 134 :: 0 :: 0 :: 0 :: 97 :: 0 :: 0 :: 0 :: 119 :: 0 :: 0 :: 0 :: 111 :: 0 :: 0 :: 0 :: 134 :: 0 :: 0 :: 0 :: 134 :: 0 :: 0 :: 0 :: 113 :: 0 :: 0 :: 0 :: 134 :: 0 :: 0 :: 0 :: 109 :: 0 :: 0 :: 0 :: 117 :: 0 :: 0 :: 0 :: 134 :: 0 :: 0 :: 0 :: 134 :: 0 :: 0 :: 0 :: 134 :: 0 :: 0 :: 0 :: 119 :: 0 :: 0 :: 0 :: 134 :: 0 :: 0 :: 0 :: 122 :: 0 :: 0 :: 0 :: 131 :: 0 :: 0 :: 0 :: 128 :: 0 :: 0 :: 0 :: 134 :: 0 :: 0 :: 0 :: 107 :: 0 :: 0 :: 0 :: 134 :: 0 :: 0 :: 0 :: 125 :: 0 :: 0 :: 0 :: 134 :: 0 :: 0 :: 0 :: 134 :: 0 :: 0 :: 0 :: 134 :: 0 :: 0 :: 0 :: 115 :: sxX12_factOf_108 := rfl
theorem shX12_factOf_108 : cX12_factOf.data.toList.drop 108 = 3 :: 172 :: 4 :: 172 :: 5 :: 172 :: 6 :: 172 :: 7 :: 172 :: 8 :: 172 :: 16 :: 6 :: 172 :: 16 :: 7 :: 172 :: 16 :: 8 :: 172 :: 16 :: 9 :: 172 :: sxX12_factOf_132 := dSn 108 shX12_factOf_0
theorem shX12_factOf_132 : cX12_factOf.data.toList.drop 132 = 16 :: 10 :: 172 :: 2 :: 172 :: sxX12_factOf_137 := aq_24 shX12_factOf_108
theorem dX12_factOf_1 : decode cX12_factOf 1 = .ok (.tableswitch 134 97 119 #[111, 134, 134, 113, 134, 109, 117, 134, 134, 134, 119, 134, 122, 131, 128, 134, 107, 134, 125, 134, 134, 134, 115], 107) := by decide +kernel
theorem dX12_factOf_135 : decode cX12_factOf 135 = .ok (.iconst (-1), 1) := oc_2 135 (aq_3 shX12_factOf_132)
theorem dX12_factOf_136 : decode cX12_factOf 136 = .ok (.ireturn, 1) := oc_172 136 (aq_4 shX12_factOf_132)
noncomputable def sxX12_sumSign_53 : List UInt8 := []
noncomputable def sxX12_sumSign_51 : List UInt8 := 2 :: 172 :: sxX12_sumSign_53
noncomputable def sxX12_sumSign_26 : List UInt8 := 7 :: 167 :: 0 :: 25 :: 26 :: 16 :: 47 :: 160 :: 0 :: 7 :: 8 :: 167 :: 0 :: 15 :: 26 :: 16 :: 37 :: 160 :: 0 :: 8 :: 16 :: 6 :: 167 :: 0 :: 4 :: sxX12_sumSign_51
theorem shX12_sumSign_0 : cX12_sumSign.data.toList.drop 0 = 26 :: 16 :: 43 :: 160 :: 0 :: 7 :: 5 :: 167 :: 0 :: 45 :: 26 :: 16 :: 45 :: 160 :: 0 :: 7 :: 6 :: 167 :: 0 :: 35 :: 26 :: 16 :: 42 :: 160 :: 0 :: 7 :: sxX12_sumSign_26 := rfl
theorem shX12_sumSign_26 : cX12_sumSign.data.toList.drop 26 = 7 :: 167 :: 0 :: 25 :: 26 :: 16 :: 47 :: 160 :: 0 :: 7 :: 8 :: 167 :: 0 :: 15 :: 26 :: 16 :: 37 :: 160 :: 0 :: 8 :: 16 :: 6 :: 167 :: 0 :: 4 :: sxX12_sumSign_51 := aq_26 shX12_sumSign_0
theorem shX12_sumSign_51 : cX12_sumSign.data.toList.drop 51 = 2 :: 172 :: sxX12_sumSign_53 := aq_25 shX12_sumSign_26
theorem dX12_sumSign_52 : decode cX12_sumSign 52 = .ok (.ireturn, 1) := oc_172 52 (aq_1 shX12_sumSign_51)
noncomputable def sxX12_closesSums_60 : List UInt8 := []
noncomputable def sxX12_closesSums_51 : List UInt8 := 4 :: 100 :: 181 :: 1 :: 8 :: 167 :: 255 :: 200 :: 177 :: sxX12_closesSums_60
noncomputable def sxX12_closesSums_25 : List UInt8 := 5 :: 159 :: 0 :: 11 :: 42 :: 182 :: 1 :: 11 :: 6 :: 160 :: 0 :: 25 :: 42 :: 42 :: 182 :: 1 :: 11 :: 3 :: 182 :: 1 :: 14 :: 42 :: 42 :: 180 :: 1 :: 8 :: sxX12_closesSums_51
theorem shX12_closesSums_0 : cX12_closesSums.data.toList.drop 0 = 42 :: 182 :: 1 :: 11 :: 7 :: 161 :: 0 :: 12 :: 42 :: 182 :: 1 :: 11 :: 16 :: 6 :: 164 :: 0 :: 23 :: 27 :: 153 :: 0 :: 41 :: 42 :: 182 :: 1 :: 11 :: sxX12_closesSums_25 := rfl
theorem shX12_closesSums_25 : cX12_closesSums.data.toList.drop 25 = 5 :: 159 :: 0 :: 11 :: 42 :: 182 :: 1 :: 11 :: 6 :: 160 :: 0 :: 25 :: 42 :: 42 :: 182 :: 1 :: 11 :: 3 :: 182 :: 1 :: 14 :: 42 :: 42 :: 180 :: 1 :: 8 :: sxX12_closesSums_51 := aq_25 shX12_closesSums_0
theorem shX12_closesSums_51 : cX12_closesSums.data.toList.drop 51 = 4 :: 100 :: 181 :: 1 :: 8 :: 167 :: 255 :: 200 :: 177 :: sxX12_closesSums_60 := aq_26 shX12_closesSums_25
theorem dX12_closesSums_37 : decode cX12_closesSums 37 = .ok (.aload_n 0, 1) := oc_42 37 (aq_12 shX12_closesSums_25)
theorem dX12_closesSums_38 : decode cX12_closesSums 38 = .ok (.aload_n 0, 1) := oc_42 38 (aq_13 shX12_closesSums_25)
theorem dX12_closesSums_39 : decode cX12_closesSums 39 = .ok (.invokevirtual 267, 3) := oc_182 39 (aq_14 shX12_closesSums_25) uw_1_11
theorem dX12_closesSums_42 : decode cX12_closesSums 42 = .ok (.iconst 0, 1) := oc_3 42 (aq_17 shX12_closesSums_25)
theorem dX12_closesSums_43 : decode cX12_closesSums 43 = .ok (.invokevirtual 270, 3) := oc_182 43 (aq_18 shX12_closesSums_25) uw_1_14
theorem dX12_closesSums_46 : decode cX12_closesSums 46 = .ok (.aload_n 0, 1) := oc_42 46 (aq_21 shX12_closesSums_25)
theorem dX12_closesSums_47 : decode cX12_closesSums 47 = .ok (.aload_n 0, 1) := oc_42 47 (aq_22 shX12_closesSums_25)
theorem dX12_closesSums_48 : decode cX12_closesSums 48 = .ok (.getfield 264, 3) := oc_180 48 (aq_23 shX12_closesSums_25) uw_1_8
theorem dX12_closesSums_51 : decode cX12_closesSums 51 = .ok (.iconst 1, 1) := oc_4 51 shX12_closesSums_51
theorem dX12_closesSums_52 : decode cX12_closesSums 52 = .ok (.isub, 1) := oc_100 52 (aq_1 shX12_closesSums_51)
theorem dX12_closesSums_53 : decode cX12_closesSums 53 = .ok (.putfield 264, 3) := oc_181 53 (aq_2 shX12_closesSums_51) uw_1_8
theorem dX12_closesSums_56 : decode cX12_closesSums 56 = .ok (.goto (-56), 3) := oc_167 56 (aq_5 shX12_closesSums_51) sgw_255_200
theorem dX12_closesSums_59 : decode cX12_closesSums 59 = .ok (.return_, 1) := oc_177 59 (aq_8 shX12_closesSums_51)
noncomputable def sxX12_readsFactor_88 : List UInt8 := []
noncomputable def sxX12_readsFactor_72 : List UInt8 := 27 :: 182 :: 1 :: 14 :: 42 :: 42 :: 180 :: 0 :: 233 :: 4 :: 96 :: 181 :: 0 :: 233 :: 4 :: 172 :: sxX12_readsFactor_88
noncomputable def sxX12_readsFactor_48 : List UInt8 := 182 :: 0 :: 239 :: 184 :: 1 :: 24 :: 60 :: 27 :: 2 :: 160 :: 0 :: 13 :: 42 :: 4 :: 42 :: 180 :: 0 :: 233 :: 182 :: 0 :: 246 :: 172 :: 42 :: 4 :: sxX12_readsFactor_72
noncomputable def sxX12_readsFactor_24 : List UInt8 := 153 :: 0 :: 23 :: 42 :: 182 :: 1 :: 21 :: 154 :: 0 :: 5 :: 3 :: 172 :: 42 :: 3 :: 42 :: 180 :: 0 :: 250 :: 182 :: 1 :: 14 :: 4 :: 172 :: 42 :: sxX12_readsFactor_48
theorem shX12_readsFactor_0 : cX12_readsFactor.data.toList.drop 0 = 42 :: 182 :: 0 :: 239 :: 16 :: 91 :: 160 :: 0 :: 14 :: 42 :: 16 :: 14 :: 182 :: 1 :: 18 :: 154 :: 255 :: 241 :: 3 :: 172 :: 42 :: 182 :: 0 :: 253 :: sxX12_readsFactor_24 := rfl
theorem shX12_readsFactor_24 : cX12_readsFactor.data.toList.drop 24 = 153 :: 0 :: 23 :: 42 :: 182 :: 1 :: 21 :: 154 :: 0 :: 5 :: 3 :: 172 :: 42 :: 3 :: 42 :: 180 :: 0 :: 250 :: 182 :: 1 :: 14 :: 4 :: 172 :: 42 :: sxX12_readsFactor_48 := aq_24 shX12_readsFactor_0
theorem shX12_readsFactor_48 : cX12_readsFactor.data.toList.drop 48 = 182 :: 0 :: 239 :: 184 :: 1 :: 24 :: 60 :: 27 :: 2 :: 160 :: 0 :: 13 :: 42 :: 4 :: 42 :: 180 :: 0 :: 233 :: 182 :: 0 :: 246 :: 172 :: 42 :: 4 :: sxX12_readsFactor_72 := aq_24 shX12_readsFactor_24
theorem shX12_readsFactor_72 : cX12_readsFactor.data.toList.drop 72 = 27 :: 182 :: 1 :: 14 :: 42 :: 42 :: 180 :: 0 :: 233 :: 4 :: 96 :: 181 :: 0 :: 233 :: 4 :: 172 :: sxX12_readsFactor_88 := aq_24 shX12_readsFactor_48
noncomputable def sxX12_hasOpenSum_35 : List UInt8 := []
noncomputable def sxX12_hasOpenSum_25 : List UInt8 := 4 :: 172 :: 132 :: 2 :: 1 :: 167 :: 255 :: 228 :: 3 :: 172 :: sxX12_hasOpenSum_35
theorem shX12_hasOpenSum_0 : cX12_hasOpenSum.data.toList.drop 0 = 27 :: 61 :: 28 :: 42 :: 180 :: 1 :: 8 :: 162 :: 0 :: 26 :: 42 :: 180 :: 0 :: 59 :: 28 :: 46 :: 19 :: 1 :: 4 :: 108 :: 16 :: 14 :: 160 :: 0 :: 5 :: sxX12_hasOpenSum_25 := rfl
theorem shX12_hasOpenSum_25 : cX12_hasOpenSum.data.toList.drop 25 = 4 :: 172 :: 132 :: 2 :: 1 :: 167 :: 255 :: 228 :: 3 :: 172 :: sxX12_hasOpenSum_35 := aq_25 shX12_hasOpenSum_0
noncomputable def sxX12_readsSum_167 : List UInt8 := []
noncomputable def sxX12_readsSum_150 : List UInt8 := 180 :: 0 :: 233 :: 182 :: 0 :: 246 :: 172 :: 42 :: 4 :: 182 :: 1 :: 34 :: 4 :: 172 :: 167 :: 255 :: 106 :: sxX12_readsSum_167
noncomputable def sxX12_readsSum_126 : List UInt8 := 42 :: 42 :: 180 :: 0 :: 233 :: 4 :: 96 :: 181 :: 0 :: 233 :: 167 :: 0 :: 28 :: 42 :: 27 :: 182 :: 1 :: 38 :: 153 :: 0 :: 13 :: 42 :: 4 :: 42 :: sxX12_readsSum_150
noncomputable def sxX12_readsSum_101 : List UInt8 := 42 :: 4 :: 182 :: 1 :: 34 :: 42 :: 42 :: 180 :: 1 :: 8 :: 4 :: 100 :: 181 :: 1 :: 8 :: 42 :: 42 :: 180 :: 1 :: 5 :: 4 :: 100 :: 181 :: 1 :: 5 :: sxX12_readsSum_126
noncomputable def sxX12_readsSum_75 : List UInt8 := 42 :: 182 :: 1 :: 28 :: 154 :: 0 :: 85 :: 3 :: 172 :: 42 :: 182 :: 0 :: 239 :: 16 :: 93 :: 160 :: 0 :: 49 :: 42 :: 27 :: 182 :: 1 :: 38 :: 153 :: 0 :: 41 :: sxX12_readsSum_101
noncomputable def sxX12_readsSum_49 : List UInt8 := 19 :: 1 :: 4 :: 28 :: 104 :: 79 :: 42 :: 42 :: 180 :: 1 :: 8 :: 4 :: 96 :: 181 :: 1 :: 8 :: 42 :: 42 :: 180 :: 0 :: 233 :: 4 :: 96 :: 181 :: 0 :: 233 :: sxX12_readsSum_75
noncomputable def sxX12_readsSum_24 : List UInt8 := 159 :: 0 :: 60 :: 42 :: 28 :: 7 :: 162 :: 0 :: 7 :: 4 :: 167 :: 0 :: 4 :: 3 :: 182 :: 1 :: 34 :: 42 :: 180 :: 0 :: 59 :: 42 :: 180 :: 1 :: 8 :: sxX12_readsSum_49
theorem shX12_readsSum_0 : cX12_readsSum.data.toList.drop 0 = 42 :: 180 :: 1 :: 8 :: 60 :: 42 :: 182 :: 1 :: 28 :: 154 :: 0 :: 5 :: 3 :: 172 :: 42 :: 182 :: 0 :: 239 :: 184 :: 1 :: 31 :: 61 :: 28 :: 2 :: sxX12_readsSum_24 := rfl
theorem shX12_readsSum_24 : cX12_readsSum.data.toList.drop 24 = 159 :: 0 :: 60 :: 42 :: 28 :: 7 :: 162 :: 0 :: 7 :: 4 :: 167 :: 0 :: 4 :: 3 :: 182 :: 1 :: 34 :: 42 :: 180 :: 0 :: 59 :: 42 :: 180 :: 1 :: 8 :: sxX12_readsSum_49 := aq_24 shX12_readsSum_0
theorem shX12_readsSum_49 : cX12_readsSum.data.toList.drop 49 = 19 :: 1 :: 4 :: 28 :: 104 :: 79 :: 42 :: 42 :: 180 :: 1 :: 8 :: 4 :: 96 :: 181 :: 1 :: 8 :: 42 :: 42 :: 180 :: 0 :: 233 :: 4 :: 96 :: 181 :: 0 :: 233 :: sxX12_readsSum_75 := aq_25 shX12_readsSum_24
theorem shX12_readsSum_75 : cX12_readsSum.data.toList.drop 75 = 42 :: 182 :: 1 :: 28 :: 154 :: 0 :: 85 :: 3 :: 172 :: 42 :: 182 :: 0 :: 239 :: 16 :: 93 :: 160 :: 0 :: 49 :: 42 :: 27 :: 182 :: 1 :: 38 :: 153 :: 0 :: 41 :: sxX12_readsSum_101 := aq_26 shX12_readsSum_49
theorem shX12_readsSum_101 : cX12_readsSum.data.toList.drop 101 = 42 :: 4 :: 182 :: 1 :: 34 :: 42 :: 42 :: 180 :: 1 :: 8 :: 4 :: 100 :: 181 :: 1 :: 8 :: 42 :: 42 :: 180 :: 1 :: 5 :: 4 :: 100 :: 181 :: 1 :: 5 :: sxX12_readsSum_126 := aq_26 shX12_readsSum_75
theorem shX12_readsSum_126 : cX12_readsSum.data.toList.drop 126 = 42 :: 42 :: 180 :: 0 :: 233 :: 4 :: 96 :: 181 :: 0 :: 233 :: 167 :: 0 :: 28 :: 42 :: 27 :: 182 :: 1 :: 38 :: 153 :: 0 :: 13 :: 42 :: 4 :: 42 :: sxX12_readsSum_150 := aq_25 shX12_readsSum_101
theorem shX12_readsSum_150 : cX12_readsSum.data.toList.drop 150 = 180 :: 0 :: 233 :: 182 :: 0 :: 246 :: 172 :: 42 :: 4 :: 182 :: 1 :: 34 :: 4 :: 172 :: 167 :: 255 :: 106 :: sxX12_readsSum_167 := aq_24 shX12_readsSum_126
theorem dX12_readsSum_79 : decode cX12_readsSum 79 = .ok (.ifCond .ne 85, 3) := oc_154 79 (aq_4 shX12_readsSum_75) sgw_0_85
theorem dX12_readsSum_144 : decode cX12_readsSum 144 = .ok (.ifCond .eq 13, 3) := oc_153 144 (aq_18 shX12_readsSum_126) sgw_0_13
noncomputable def sxX12_endsPiece_40 : List UInt8 := []
noncomputable def sxX12_endsPiece_26 : List UInt8 := 42 :: 42 :: 180 :: 1 :: 5 :: 4 :: 100 :: 181 :: 1 :: 5 :: 167 :: 255 :: 220 :: 177 :: sxX12_endsPiece_40
theorem shX12_endsPiece_0 : cX12_endsPiece.data.toList.drop 0 = 42 :: 182 :: 1 :: 11 :: 16 :: 10 :: 160 :: 0 :: 33 :: 42 :: 16 :: 10 :: 3 :: 182 :: 1 :: 14 :: 42 :: 42 :: 180 :: 1 :: 8 :: 4 :: 100 :: 181 :: 1 :: 8 :: sxX12_endsPiece_26 := rfl
theorem shX12_endsPiece_26 : cX12_endsPiece.data.toList.drop 26 = 42 :: 42 :: 180 :: 1 :: 5 :: 4 :: 100 :: 181 :: 1 :: 5 :: 167 :: 255 :: 220 :: 177 :: sxX12_endsPiece_40 := aq_26 shX12_endsPiece_0
noncomputable def sxX12_lands_77 : List UInt8 := []
noncomputable def sxX12_lands_76 : List UInt8 := 177 :: sxX12_lands_77
noncomputable def sxX12_lands_50 : List UInt8 := 28 :: 46 :: 19 :: 1 :: 4 :: 108 :: 104 :: 42 :: 180 :: 1 :: 1 :: 96 :: 79 :: 42 :: 42 :: 180 :: 1 :: 8 :: 4 :: 100 :: 181 :: 1 :: 8 :: 167 :: 255 :: 183 :: sxX12_lands_76
noncomputable def sxX12_lands_26 : List UInt8 := 42 :: 180 :: 1 :: 8 :: 4 :: 100 :: 46 :: 19 :: 1 :: 4 :: 112 :: 61 :: 42 :: 180 :: 0 :: 56 :: 28 :: 19 :: 1 :: 4 :: 42 :: 180 :: 0 :: 56 :: sxX12_lands_50
theorem shX12_lands_0 : cX12_lands.data.toList.drop 0 = 42 :: 182 :: 1 :: 11 :: 16 :: 11 :: 159 :: 0 :: 16 :: 27 :: 153 :: 0 :: 66 :: 42 :: 182 :: 1 :: 11 :: 16 :: 12 :: 160 :: 0 :: 57 :: 42 :: 180 :: 0 :: 59 :: sxX12_lands_26 := rfl
theorem shX12_lands_26 : cX12_lands.data.toList.drop 26 = 42 :: 180 :: 1 :: 8 :: 4 :: 100 :: 46 :: 19 :: 1 :: 4 :: 112 :: 61 :: 42 :: 180 :: 0 :: 56 :: 28 :: 19 :: 1 :: 4 :: 42 :: 180 :: 0 :: 56 :: sxX12_lands_50 := aq_26 shX12_lands_0
theorem shX12_lands_50 : cX12_lands.data.toList.drop 50 = 28 :: 46 :: 19 :: 1 :: 4 :: 108 :: 104 :: 42 :: 180 :: 1 :: 1 :: 96 :: 79 :: 42 :: 42 :: 180 :: 1 :: 8 :: 4 :: 100 :: 181 :: 1 :: 8 :: 167 :: 255 :: 183 :: sxX12_lands_76 := aq_24 shX12_lands_26
theorem shX12_lands_76 : cX12_lands.data.toList.drop 76 = 177 :: sxX12_lands_77 := aq_26 shX12_lands_50
noncomputable def sxX12_jumps_46 : List UInt8 := []
noncomputable def sxX12_jumps_24 : List UInt8 := 4 :: 96 :: 181 :: 1 :: 8 :: 42 :: 27 :: 3 :: 182 :: 1 :: 14 :: 42 :: 42 :: 180 :: 0 :: 233 :: 4 :: 96 :: 181 :: 0 :: 233 :: 177 :: sxX12_jumps_46
theorem shX12_jumps_0 : cX12_jumps.data.toList.drop 0 = 42 :: 180 :: 0 :: 59 :: 42 :: 180 :: 1 :: 8 :: 19 :: 1 :: 4 :: 27 :: 104 :: 42 :: 180 :: 1 :: 1 :: 96 :: 79 :: 42 :: 42 :: 180 :: 1 :: 8 :: sxX12_jumps_24 := rfl
theorem shX12_jumps_24 : cX12_jumps.data.toList.drop 24 = 4 :: 96 :: 181 :: 1 :: 8 :: 42 :: 27 :: 3 :: 182 :: 1 :: 14 :: 42 :: 42 :: 180 :: 0 :: 233 :: 4 :: 96 :: 181 :: 0 :: 233 :: 177 :: sxX12_jumps_46 := aq_24 shX12_jumps_0
noncomputable def sxX12_readsCompared_99 : List UInt8 := []
noncomputable def sxX12_readsCompared_97 : List UInt8 := 4 :: 172 :: sxX12_readsCompared_99
noncomputable def sxX12_readsCompared_73 : List UInt8 := 4 :: 96 :: 181 :: 0 :: 233 :: 42 :: 182 :: 1 :: 41 :: 154 :: 0 :: 5 :: 3 :: 172 :: 42 :: 27 :: 3 :: 182 :: 1 :: 14 :: 42 :: 182 :: 1 :: 44 :: sxX12_readsCompared_97
noncomputable def sxX12_readsCompared_48 : List UInt8 := 167 :: 0 :: 4 :: 2 :: 60 :: 27 :: 2 :: 160 :: 0 :: 13 :: 42 :: 4 :: 42 :: 180 :: 0 :: 233 :: 182 :: 0 :: 246 :: 172 :: 42 :: 42 :: 180 :: 0 :: 233 :: sxX12_readsCompared_73
noncomputable def sxX12_readsCompared_24 : List UInt8 := 182 :: 0 :: 239 :: 16 :: 62 :: 160 :: 0 :: 8 :: 16 :: 8 :: 167 :: 0 :: 18 :: 42 :: 182 :: 0 :: 239 :: 16 :: 61 :: 160 :: 0 :: 8 :: 16 :: 9 :: sxX12_readsCompared_48
theorem shX12_readsCompared_0 : cX12_readsCompared.data.toList.drop 0 = 42 :: 182 :: 1 :: 41 :: 154 :: 0 :: 5 :: 3 :: 172 :: 42 :: 182 :: 0 :: 239 :: 16 :: 60 :: 160 :: 0 :: 8 :: 16 :: 7 :: 167 :: 0 :: 32 :: 42 :: sxX12_readsCompared_24 := rfl
theorem shX12_readsCompared_24 : cX12_readsCompared.data.toList.drop 24 = 182 :: 0 :: 239 :: 16 :: 62 :: 160 :: 0 :: 8 :: 16 :: 8 :: 167 :: 0 :: 18 :: 42 :: 182 :: 0 :: 239 :: 16 :: 61 :: 160 :: 0 :: 8 :: 16 :: 9 :: sxX12_readsCompared_48 := aq_24 shX12_readsCompared_0
theorem shX12_readsCompared_48 : cX12_readsCompared.data.toList.drop 48 = 167 :: 0 :: 4 :: 2 :: 60 :: 27 :: 2 :: 160 :: 0 :: 13 :: 42 :: 4 :: 42 :: 180 :: 0 :: 233 :: 182 :: 0 :: 246 :: 172 :: 42 :: 42 :: 180 :: 0 :: 233 :: sxX12_readsCompared_73 := aq_24 shX12_readsCompared_24
theorem shX12_readsCompared_73 : cX12_readsCompared.data.toList.drop 73 = 4 :: 96 :: 181 :: 0 :: 233 :: 42 :: 182 :: 1 :: 41 :: 154 :: 0 :: 5 :: 3 :: 172 :: 42 :: 27 :: 3 :: 182 :: 1 :: 14 :: 42 :: 182 :: 1 :: 44 :: sxX12_readsCompared_97 := aq_25 shX12_readsCompared_48
theorem shX12_readsCompared_97 : cX12_readsCompared.data.toList.drop 97 = 4 :: 172 :: sxX12_readsCompared_99 := aq_24 shX12_readsCompared_73
theorem dX12_readsCompared_52 : decode cX12_readsCompared 52 = .ok (.istore_n 1, 1) := oc_60 52 (aq_4 shX12_readsCompared_48)
theorem dX12_readsCompared_53 : decode cX12_readsCompared 53 = .ok (.iload_n 1, 1) := oc_27 53 (aq_5 shX12_readsCompared_48)
theorem dX12_readsCompared_54 : decode cX12_readsCompared 54 = .ok (.iconst (-1), 1) := oc_2 54 (aq_6 shX12_readsCompared_48)
theorem dX12_readsCompared_55 : decode cX12_readsCompared 55 = .ok (.if_icmp .ne 13, 3) := oc_160 55 (aq_7 shX12_readsCompared_48) sgw_0_13
theorem dX12_readsCompared_82 : decode cX12_readsCompared 82 = .ok (.ifCond .ne 5, 3) := oc_154 82 (aq_9 shX12_readsCompared_73) sgw_0_5
noncomputable def sxX12_readsCondition_221 : List UInt8 := []
noncomputable def sxX12_readsCondition_218 : List UInt8 := 167 :: 255 :: 78 :: sxX12_readsCondition_221
noncomputable def sxX12_readsCondition_194 : List UInt8 := 3 :: 182 :: 1 :: 50 :: 42 :: 42 :: 182 :: 0 :: 239 :: 16 :: 38 :: 160 :: 0 :: 8 :: 16 :: 11 :: 167 :: 0 :: 5 :: 16 :: 12 :: 182 :: 1 :: 53 :: sxX12_readsCondition_218
noncomputable def sxX12_readsCondition_170 : List UInt8 := 42 :: 4 :: 42 :: 180 :: 0 :: 233 :: 182 :: 0 :: 246 :: 172 :: 42 :: 42 :: 182 :: 0 :: 239 :: 16 :: 124 :: 160 :: 0 :: 7 :: 4 :: 167 :: 0 :: 4 :: sxX12_readsCondition_194
noncomputable def sxX12_readsCondition_146 : List UInt8 := 182 :: 1 :: 44 :: 167 :: 255 :: 199 :: 42 :: 182 :: 0 :: 239 :: 16 :: 38 :: 159 :: 0 :: 22 :: 42 :: 182 :: 0 :: 239 :: 16 :: 124 :: 159 :: 0 :: 13 :: sxX12_readsCondition_170
noncomputable def sxX12_readsCondition_122 : List UInt8 := 100 :: 181 :: 1 :: 5 :: 42 :: 42 :: 180 :: 0 :: 233 :: 4 :: 96 :: 181 :: 0 :: 233 :: 42 :: 180 :: 1 :: 8 :: 154 :: 0 :: 5 :: 4 :: 172 :: 42 :: sxX12_readsCondition_146
noncomputable def sxX12_readsCondition_98 : List UInt8 := 160 :: 0 :: 54 :: 42 :: 4 :: 182 :: 1 :: 50 :: 42 :: 42 :: 180 :: 1 :: 8 :: 4 :: 100 :: 181 :: 1 :: 8 :: 42 :: 42 :: 180 :: 1 :: 5 :: 4 :: sxX12_readsCondition_122
noncomputable def sxX12_readsCondition_73 : List UInt8 := 16 :: 13 :: 182 :: 1 :: 18 :: 154 :: 255 :: 218 :: 3 :: 172 :: 42 :: 182 :: 1 :: 47 :: 154 :: 0 :: 5 :: 3 :: 172 :: 42 :: 182 :: 0 :: 239 :: 16 :: 41 :: sxX12_readsCondition_98
noncomputable def sxX12_readsCondition_49 : List UInt8 := 42 :: 182 :: 0 :: 239 :: 16 :: 40 :: 160 :: 0 :: 28 :: 42 :: 42 :: 182 :: 0 :: 239 :: 16 :: 33 :: 160 :: 0 :: 8 :: 16 :: 10 :: 167 :: 0 :: 5 :: sxX12_readsCondition_73
noncomputable def sxX12_readsCondition_24 : List UInt8 := 42 :: 3 :: 181 :: 1 :: 8 :: 42 :: 16 :: 13 :: 182 :: 1 :: 18 :: 154 :: 0 :: 5 :: 3 :: 172 :: 42 :: 182 :: 0 :: 239 :: 16 :: 33 :: 159 :: 0 :: 12 :: sxX12_readsCondition_49
theorem shX12_readsCondition_0 : cX12_readsCondition.data.toList.drop 0 = 42 :: 182 :: 0 :: 239 :: 16 :: 40 :: 159 :: 0 :: 13 :: 42 :: 4 :: 42 :: 180 :: 0 :: 233 :: 182 :: 0 :: 246 :: 172 :: 42 :: 3 :: 181 :: 1 :: 5 :: sxX12_readsCondition_24 := rfl
theorem shX12_readsCondition_24 : cX12_readsCondition.data.toList.drop 24 = 42 :: 3 :: 181 :: 1 :: 8 :: 42 :: 16 :: 13 :: 182 :: 1 :: 18 :: 154 :: 0 :: 5 :: 3 :: 172 :: 42 :: 182 :: 0 :: 239 :: 16 :: 33 :: 159 :: 0 :: 12 :: sxX12_readsCondition_49 := aq_24 shX12_readsCondition_0
theorem shX12_readsCondition_49 : cX12_readsCondition.data.toList.drop 49 = 42 :: 182 :: 0 :: 239 :: 16 :: 40 :: 160 :: 0 :: 28 :: 42 :: 42 :: 182 :: 0 :: 239 :: 16 :: 33 :: 160 :: 0 :: 8 :: 16 :: 10 :: 167 :: 0 :: 5 :: sxX12_readsCondition_73 := aq_25 shX12_readsCondition_24
theorem shX12_readsCondition_73 : cX12_readsCondition.data.toList.drop 73 = 16 :: 13 :: 182 :: 1 :: 18 :: 154 :: 255 :: 218 :: 3 :: 172 :: 42 :: 182 :: 1 :: 47 :: 154 :: 0 :: 5 :: 3 :: 172 :: 42 :: 182 :: 0 :: 239 :: 16 :: 41 :: sxX12_readsCondition_98 := aq_24 shX12_readsCondition_49
theorem shX12_readsCondition_98 : cX12_readsCondition.data.toList.drop 98 = 160 :: 0 :: 54 :: 42 :: 4 :: 182 :: 1 :: 50 :: 42 :: 42 :: 180 :: 1 :: 8 :: 4 :: 100 :: 181 :: 1 :: 8 :: 42 :: 42 :: 180 :: 1 :: 5 :: 4 :: sxX12_readsCondition_122 := aq_25 shX12_readsCondition_73
theorem shX12_readsCondition_122 : cX12_readsCondition.data.toList.drop 122 = 100 :: 181 :: 1 :: 5 :: 42 :: 42 :: 180 :: 0 :: 233 :: 4 :: 96 :: 181 :: 0 :: 233 :: 42 :: 180 :: 1 :: 8 :: 154 :: 0 :: 5 :: 4 :: 172 :: 42 :: sxX12_readsCondition_146 := aq_24 shX12_readsCondition_98
theorem shX12_readsCondition_146 : cX12_readsCondition.data.toList.drop 146 = 182 :: 1 :: 44 :: 167 :: 255 :: 199 :: 42 :: 182 :: 0 :: 239 :: 16 :: 38 :: 159 :: 0 :: 22 :: 42 :: 182 :: 0 :: 239 :: 16 :: 124 :: 159 :: 0 :: 13 :: sxX12_readsCondition_170 := aq_24 shX12_readsCondition_122
theorem shX12_readsCondition_170 : cX12_readsCondition.data.toList.drop 170 = 42 :: 4 :: 42 :: 180 :: 0 :: 233 :: 182 :: 0 :: 246 :: 172 :: 42 :: 42 :: 182 :: 0 :: 239 :: 16 :: 124 :: 160 :: 0 :: 7 :: 4 :: 167 :: 0 :: 4 :: sxX12_readsCondition_194 := aq_24 shX12_readsCondition_146
theorem shX12_readsCondition_194 : cX12_readsCondition.data.toList.drop 194 = 3 :: 182 :: 1 :: 50 :: 42 :: 42 :: 182 :: 0 :: 239 :: 16 :: 38 :: 160 :: 0 :: 8 :: 16 :: 11 :: 167 :: 0 :: 5 :: 16 :: 12 :: 182 :: 1 :: 53 :: sxX12_readsCondition_218 := aq_24 shX12_readsCondition_170
theorem shX12_readsCondition_218 : cX12_readsCondition.data.toList.drop 218 = 167 :: 255 :: 78 :: sxX12_readsCondition_221 := aq_24 shX12_readsCondition_194
theorem dX12_readsCondition_75 : decode cX12_readsCondition 75 = .ok (.invokevirtual 274, 3) := oc_182 75 (aq_2 shX12_readsCondition_73) uw_1_18
theorem dX12_readsCondition_78 : decode cX12_readsCondition 78 = .ok (.ifCond .ne (-38), 3) := oc_154 78 (aq_5 shX12_readsCondition_73) sgw_255_218
theorem dX12_readsCondition_81 : decode cX12_readsCondition 81 = .ok (.iconst 0, 1) := oc_3 81 (aq_8 shX12_readsCondition_73)
theorem dX12_readsCondition_82 : decode cX12_readsCondition 82 = .ok (.ireturn, 1) := oc_172 82 (aq_9 shX12_readsCondition_73)
theorem dX12_readsCondition_195 : decode cX12_readsCondition 195 = .ok (.invokevirtual 306, 3) := oc_182 195 (aq_1 shX12_readsCondition_194) uw_1_50
theorem dX12_readsCondition_198 : decode cX12_readsCondition 198 = .ok (.aload_n 0, 1) := oc_42 198 (aq_4 shX12_readsCondition_194)
theorem dX12_readsCondition_199 : decode cX12_readsCondition 199 = .ok (.aload_n 0, 1) := oc_42 199 (aq_5 shX12_readsCondition_194)
theorem dX12_readsCondition_200 : decode cX12_readsCondition 200 = .ok (.invokevirtual 239, 3) := oc_182 200 (aq_6 shX12_readsCondition_194) uw_0_239
theorem dX12_readsCondition_203 : decode cX12_readsCondition 203 = .ok (.bipush 38, 2) := oc_16 203 (aq_9 shX12_readsCondition_194) sgb_38
theorem dX12_readsCondition_205 : decode cX12_readsCondition 205 = .ok (.if_icmp .ne 8, 3) := oc_160 205 (aq_11 shX12_readsCondition_194) sgw_0_8
theorem dX12_readsCondition_208 : decode cX12_readsCondition 208 = .ok (.bipush 11, 2) := oc_16 208 (aq_14 shX12_readsCondition_194) sgb_11
theorem dX12_readsCondition_210 : decode cX12_readsCondition 210 = .ok (.goto 5, 3) := oc_167 210 (aq_16 shX12_readsCondition_194) sgw_0_5
theorem dX12_readsCondition_213 : decode cX12_readsCondition 213 = .ok (.bipush 12, 2) := oc_16 213 (aq_19 shX12_readsCondition_194) sgb_12
theorem dX12_readsCondition_215 : decode cX12_readsCondition 215 = .ok (.invokevirtual 309, 3) := oc_182 215 (aq_21 shX12_readsCondition_194) uw_1_53
theorem dX12_readsCondition_218 : decode cX12_readsCondition 218 = .ok (.goto (-178), 3) := oc_167 218 shX12_readsCondition_218 sgw_255_78
noncomputable def sxX12_readsClause_140 : List UInt8 := []
noncomputable def sxX12_readsClause_123 : List UInt8 := 42 :: 180 :: 1 :: 1 :: 79 :: 42 :: 42 :: 180 :: 1 :: 56 :: 4 :: 96 :: 181 :: 1 :: 56 :: 4 :: 172 :: sxX12_readsClause_140
noncomputable def sxX12_readsClause_97 : List UInt8 := 42 :: 180 :: 1 :: 56 :: 42 :: 180 :: 1 :: 1 :: 79 :: 42 :: 182 :: 1 :: 59 :: 154 :: 0 :: 5 :: 3 :: 172 :: 42 :: 180 :: 0 :: 68 :: 42 :: 180 :: 1 :: 56 :: sxX12_readsClause_123
noncomputable def sxX12_readsClause_72 : List UInt8 := 181 :: 1 :: 5 :: 42 :: 3 :: 181 :: 1 :: 8 :: 27 :: 154 :: 0 :: 12 :: 42 :: 182 :: 1 :: 41 :: 154 :: 0 :: 5 :: 3 :: 172 :: 42 :: 180 :: 0 :: 65 :: sxX12_readsClause_97
noncomputable def sxX12_readsClause_48 : List UInt8 := 42 :: 180 :: 0 :: 233 :: 4 :: 96 :: 181 :: 0 :: 233 :: 42 :: 180 :: 0 :: 62 :: 42 :: 180 :: 1 :: 56 :: 42 :: 180 :: 1 :: 1 :: 79 :: 42 :: 3 :: sxX12_readsClause_72
noncomputable def sxX12_readsClause_24 : List UInt8 := 182 :: 0 :: 246 :: 172 :: 42 :: 180 :: 1 :: 56 :: 16 :: 12 :: 160 :: 0 :: 13 :: 42 :: 7 :: 42 :: 180 :: 0 :: 233 :: 182 :: 0 :: 246 :: 172 :: 42 :: sxX12_readsClause_48
theorem shX12_readsClause_0 : cX12_readsClause.data.toList.drop 0 = 42 :: 182 :: 0 :: 239 :: 27 :: 153 :: 0 :: 8 :: 16 :: 108 :: 167 :: 0 :: 5 :: 16 :: 112 :: 159 :: 0 :: 13 :: 42 :: 4 :: 42 :: 180 :: 0 :: 233 :: sxX12_readsClause_24 := rfl
theorem shX12_readsClause_24 : cX12_readsClause.data.toList.drop 24 = 182 :: 0 :: 246 :: 172 :: 42 :: 180 :: 1 :: 56 :: 16 :: 12 :: 160 :: 0 :: 13 :: 42 :: 7 :: 42 :: 180 :: 0 :: 233 :: 182 :: 0 :: 246 :: 172 :: 42 :: sxX12_readsClause_48 := aq_24 shX12_readsClause_0
theorem shX12_readsClause_48 : cX12_readsClause.data.toList.drop 48 = 42 :: 180 :: 0 :: 233 :: 4 :: 96 :: 181 :: 0 :: 233 :: 42 :: 180 :: 0 :: 62 :: 42 :: 180 :: 1 :: 56 :: 42 :: 180 :: 1 :: 1 :: 79 :: 42 :: 3 :: sxX12_readsClause_72 := aq_24 shX12_readsClause_24
theorem shX12_readsClause_72 : cX12_readsClause.data.toList.drop 72 = 181 :: 1 :: 5 :: 42 :: 3 :: 181 :: 1 :: 8 :: 27 :: 154 :: 0 :: 12 :: 42 :: 182 :: 1 :: 41 :: 154 :: 0 :: 5 :: 3 :: 172 :: 42 :: 180 :: 0 :: 65 :: sxX12_readsClause_97 := aq_24 shX12_readsClause_48
theorem shX12_readsClause_97 : cX12_readsClause.data.toList.drop 97 = 42 :: 180 :: 1 :: 56 :: 42 :: 180 :: 1 :: 1 :: 79 :: 42 :: 182 :: 1 :: 59 :: 154 :: 0 :: 5 :: 3 :: 172 :: 42 :: 180 :: 0 :: 68 :: 42 :: 180 :: 1 :: 56 :: sxX12_readsClause_123 := aq_25 shX12_readsClause_72
theorem shX12_readsClause_123 : cX12_readsClause.data.toList.drop 123 = 42 :: 180 :: 1 :: 1 :: 79 :: 42 :: 42 :: 180 :: 1 :: 56 :: 4 :: 96 :: 181 :: 1 :: 56 :: 4 :: 172 :: sxX12_readsClause_140 := aq_26 shX12_readsClause_97
theorem dX12_readsClause_88 : decode cX12_readsClause 88 = .ok (.ifCond .ne 5, 3) := oc_154 88 (aq_16 shX12_readsClause_72) sgw_0_5
theorem dX12_readsClause_110 : decode cX12_readsClause 110 = .ok (.ifCond .ne 5, 3) := oc_154 110 (aq_13 shX12_readsClause_97) sgw_0_5
noncomputable def sxX12_reads_241 : List UInt8 := []
noncomputable def sxX12_reads_219 : List UInt8 := 27 :: 104 :: 42 :: 180 :: 0 :: 68 :: 21 :: 4 :: 46 :: 96 :: 79 :: 132 :: 4 :: 1 :: 167 :: 255 :: 175 :: 42 :: 180 :: 1 :: 56 :: 172 :: sxX12_reads_241
noncomputable def sxX12_reads_194 : List UInt8 := 21 :: 5 :: 17 :: 0 :: 180 :: 27 :: 104 :: 42 :: 180 :: 0 :: 65 :: 21 :: 4 :: 46 :: 96 :: 79 :: 42 :: 180 :: 0 :: 83 :: 21 :: 5 :: 17 :: 0 :: 180 :: sxX12_reads_219
noncomputable def sxX12_reads_170 : List UInt8 := 42 :: 180 :: 0 :: 77 :: 21 :: 5 :: 17 :: 0 :: 180 :: 27 :: 104 :: 42 :: 180 :: 0 :: 62 :: 21 :: 4 :: 46 :: 96 :: 79 :: 42 :: 180 :: 0 :: 80 :: sxX12_reads_194
noncomputable def sxX12_reads_146 : List UInt8 := 167 :: 255 :: 224 :: 3 :: 54 :: 4 :: 21 :: 4 :: 42 :: 180 :: 1 :: 56 :: 162 :: 0 :: 78 :: 16 :: 12 :: 27 :: 104 :: 21 :: 4 :: 96 :: 54 :: 5 :: sxX12_reads_170
noncomputable def sxX12_reads_120 : List UInt8 := 162 :: 0 :: 29 :: 42 :: 180 :: 0 :: 71 :: 17 :: 0 :: 180 :: 27 :: 104 :: 21 :: 4 :: 96 :: 42 :: 180 :: 0 :: 56 :: 21 :: 4 :: 46 :: 79 :: 132 :: 4 :: 1 :: sxX12_reads_146
noncomputable def sxX12_reads_96 : List UInt8 := 42 :: 180 :: 0 :: 243 :: 172 :: 42 :: 180 :: 0 :: 74 :: 27 :: 42 :: 180 :: 1 :: 56 :: 79 :: 3 :: 54 :: 4 :: 21 :: 4 :: 42 :: 180 :: 1 :: 1 :: sxX12_reads_120
noncomputable def sxX12_reads_72 : List UInt8 := 182 :: 1 :: 62 :: 153 :: 0 :: 7 :: 4 :: 167 :: 0 :: 4 :: 3 :: 62 :: 167 :: 255 :: 208 :: 42 :: 3 :: 181 :: 0 :: 226 :: 29 :: 154 :: 0 :: 8 :: sxX12_reads_96
noncomputable def sxX12_reads_48 : List UInt8 := 162 :: 0 :: 39 :: 42 :: 16 :: 59 :: 182 :: 1 :: 66 :: 153 :: 0 :: 25 :: 42 :: 27 :: 16 :: 10 :: 160 :: 0 :: 7 :: 4 :: 167 :: 0 :: 4 :: 3 :: sxX12_reads_72
noncomputable def sxX12_reads_24 : List UInt8 := 160 :: 0 :: 7 :: 4 :: 167 :: 0 :: 4 :: 3 :: 182 :: 1 :: 62 :: 62 :: 29 :: 153 :: 0 :: 50 :: 42 :: 180 :: 0 :: 233 :: 42 :: 180 :: 0 :: 236 :: sxX12_reads_48
theorem shX12_reads_0 : cX12_reads.data.toList.drop 0 = 42 :: 3 :: 181 :: 0 :: 233 :: 42 :: 28 :: 181 :: 0 :: 236 :: 42 :: 3 :: 181 :: 1 :: 1 :: 42 :: 3 :: 181 :: 1 :: 56 :: 42 :: 27 :: 16 :: 10 :: sxX12_reads_24 := rfl
theorem shX12_reads_24 : cX12_reads.data.toList.drop 24 = 160 :: 0 :: 7 :: 4 :: 167 :: 0 :: 4 :: 3 :: 182 :: 1 :: 62 :: 62 :: 29 :: 153 :: 0 :: 50 :: 42 :: 180 :: 0 :: 233 :: 42 :: 180 :: 0 :: 236 :: sxX12_reads_48 := aq_24 shX12_reads_0
theorem shX12_reads_48 : cX12_reads.data.toList.drop 48 = 162 :: 0 :: 39 :: 42 :: 16 :: 59 :: 182 :: 1 :: 66 :: 153 :: 0 :: 25 :: 42 :: 27 :: 16 :: 10 :: 160 :: 0 :: 7 :: 4 :: 167 :: 0 :: 4 :: 3 :: sxX12_reads_72 := aq_24 shX12_reads_24
theorem shX12_reads_72 : cX12_reads.data.toList.drop 72 = 182 :: 1 :: 62 :: 153 :: 0 :: 7 :: 4 :: 167 :: 0 :: 4 :: 3 :: 62 :: 167 :: 255 :: 208 :: 42 :: 3 :: 181 :: 0 :: 226 :: 29 :: 154 :: 0 :: 8 :: sxX12_reads_96 := aq_24 shX12_reads_48
theorem shX12_reads_96 : cX12_reads.data.toList.drop 96 = 42 :: 180 :: 0 :: 243 :: 172 :: 42 :: 180 :: 0 :: 74 :: 27 :: 42 :: 180 :: 1 :: 56 :: 79 :: 3 :: 54 :: 4 :: 21 :: 4 :: 42 :: 180 :: 1 :: 1 :: sxX12_reads_120 := aq_24 shX12_reads_72
theorem shX12_reads_120 : cX12_reads.data.toList.drop 120 = 162 :: 0 :: 29 :: 42 :: 180 :: 0 :: 71 :: 17 :: 0 :: 180 :: 27 :: 104 :: 21 :: 4 :: 96 :: 42 :: 180 :: 0 :: 56 :: 21 :: 4 :: 46 :: 79 :: 132 :: 4 :: 1 :: sxX12_reads_146 := aq_24 shX12_reads_96
theorem shX12_reads_146 : cX12_reads.data.toList.drop 146 = 167 :: 255 :: 224 :: 3 :: 54 :: 4 :: 21 :: 4 :: 42 :: 180 :: 1 :: 56 :: 162 :: 0 :: 78 :: 16 :: 12 :: 27 :: 104 :: 21 :: 4 :: 96 :: 54 :: 5 :: sxX12_reads_170 := aq_26 shX12_reads_120
theorem shX12_reads_170 : cX12_reads.data.toList.drop 170 = 42 :: 180 :: 0 :: 77 :: 21 :: 5 :: 17 :: 0 :: 180 :: 27 :: 104 :: 42 :: 180 :: 0 :: 62 :: 21 :: 4 :: 46 :: 96 :: 79 :: 42 :: 180 :: 0 :: 80 :: sxX12_reads_194 := aq_24 shX12_reads_146
theorem shX12_reads_194 : cX12_reads.data.toList.drop 194 = 21 :: 5 :: 17 :: 0 :: 180 :: 27 :: 104 :: 42 :: 180 :: 0 :: 65 :: 21 :: 4 :: 46 :: 96 :: 79 :: 42 :: 180 :: 0 :: 83 :: 21 :: 5 :: 17 :: 0 :: 180 :: sxX12_reads_219 := aq_24 shX12_reads_170
theorem shX12_reads_219 : cX12_reads.data.toList.drop 219 = 27 :: 104 :: 42 :: 180 :: 0 :: 68 :: 21 :: 4 :: 46 :: 96 :: 79 :: 132 :: 4 :: 1 :: 167 :: 255 :: 175 :: 42 :: 180 :: 1 :: 56 :: 172 :: sxX12_reads_241 := aq_25 shX12_reads_194
theorem dX12_reads_32 : decode cX12_reads 32 = .ok (.invokevirtual 318, 3) := oc_182 32 (aq_8 shX12_reads_24) uw_1_62
theorem dX12_reads_35 : decode cX12_reads 35 = .ok (.istore_n 3, 1) := oc_62 35 (aq_11 shX12_reads_24)
theorem dX12_reads_36 : decode cX12_reads 36 = .ok (.iload_n 3, 1) := oc_29 36 (aq_12 shX12_reads_24)
theorem dX12_reads_37 : decode cX12_reads 37 = .ok (.ifCond .eq 50, 3) := oc_153 37 (aq_13 shX12_reads_24) sgw_0_50
theorem dX12_reads_40 : decode cX12_reads 40 = .ok (.aload_n 0, 1) := oc_42 40 (aq_16 shX12_reads_24)
theorem dX12_reads_41 : decode cX12_reads 41 = .ok (.getfield 233, 3) := oc_180 41 (aq_17 shX12_reads_24) uw_0_233
theorem dX12_reads_44 : decode cX12_reads 44 = .ok (.aload_n 0, 1) := oc_42 44 (aq_20 shX12_reads_24)
theorem dX12_reads_45 : decode cX12_reads 45 = .ok (.getfield 236, 3) := oc_180 45 (aq_21 shX12_reads_24) uw_0_236
theorem dX12_reads_48 : decode cX12_reads 48 = .ok (.if_icmp .ge 39, 3) := oc_162 48 shX12_reads_48 sgw_0_39
theorem dX12_reads_51 : decode cX12_reads 51 = .ok (.aload_n 0, 1) := oc_42 51 (aq_3 shX12_reads_48)
theorem dX12_reads_52 : decode cX12_reads 52 = .ok (.bipush 59, 2) := oc_16 52 (aq_4 shX12_reads_48) sgb_59
theorem dX12_reads_54 : decode cX12_reads 54 = .ok (.invokevirtual 322, 3) := oc_182 54 (aq_6 shX12_reads_48) uw_1_66
theorem dX12_reads_57 : decode cX12_reads 57 = .ok (.ifCond .eq 25, 3) := oc_153 57 (aq_9 shX12_reads_48) sgw_0_25
theorem dX12_reads_60 : decode cX12_reads 60 = .ok (.aload_n 0, 1) := oc_42 60 (aq_12 shX12_reads_48)
theorem dX12_reads_61 : decode cX12_reads 61 = .ok (.iload_n 1, 1) := oc_27 61 (aq_13 shX12_reads_48)
theorem dX12_reads_62 : decode cX12_reads 62 = .ok (.bipush 10, 2) := oc_16 62 (aq_14 shX12_reads_48) sgb_10
theorem dX12_reads_64 : decode cX12_reads 64 = .ok (.if_icmp .ne 7, 3) := oc_160 64 (aq_16 shX12_reads_48) sgw_0_7
theorem dX12_reads_67 : decode cX12_reads 67 = .ok (.iconst 1, 1) := oc_4 67 (aq_19 shX12_reads_48)
theorem dX12_reads_68 : decode cX12_reads 68 = .ok (.goto 4, 3) := oc_167 68 (aq_20 shX12_reads_48) sgw_0_4
theorem dX12_reads_72 : decode cX12_reads 72 = .ok (.invokevirtual 318, 3) := oc_182 72 shX12_reads_72 uw_1_62
theorem dX12_reads_75 : decode cX12_reads 75 = .ok (.ifCond .eq 7, 3) := oc_153 75 (aq_3 shX12_reads_72) sgw_0_7
theorem dX12_reads_78 : decode cX12_reads 78 = .ok (.iconst 1, 1) := oc_4 78 (aq_6 shX12_reads_72)
theorem dX12_reads_79 : decode cX12_reads 79 = .ok (.goto 4, 3) := oc_167 79 (aq_7 shX12_reads_72) sgw_0_4
theorem dX12_reads_82 : decode cX12_reads 82 = .ok (.iconst 0, 1) := oc_3 82 (aq_10 shX12_reads_72)
theorem dX12_reads_83 : decode cX12_reads 83 = .ok (.istore_n 3, 1) := oc_62 83 (aq_11 shX12_reads_72)
theorem dX12_reads_84 : decode cX12_reads 84 = .ok (.goto (-48), 3) := oc_167 84 (aq_12 shX12_reads_72) sgw_255_208
theorem dX12_reads_87 : decode cX12_reads 87 = .ok (.aload_n 0, 1) := oc_42 87 (aq_15 shX12_reads_72)
theorem dX12_reads_88 : decode cX12_reads 88 = .ok (.iconst 0, 1) := oc_3 88 (aq_16 shX12_reads_72)
theorem dX12_reads_89 : decode cX12_reads 89 = .ok (.putfield 226, 3) := oc_181 89 (aq_17 shX12_reads_72) uw_0_226
theorem dX12_reads_92 : decode cX12_reads 92 = .ok (.iload_n 3, 1) := oc_29 92 (aq_20 shX12_reads_72)
theorem dX12_reads_93 : decode cX12_reads 93 = .ok (.ifCond .ne 8, 3) := oc_154 93 (aq_21 shX12_reads_72) sgw_0_8
theorem dX12_reads_96 : decode cX12_reads 96 = .ok (.aload_n 0, 1) := oc_42 96 shX12_reads_96
theorem dX12_reads_97 : decode cX12_reads 97 = .ok (.getfield 243, 3) := oc_180 97 (aq_1 shX12_reads_96) uw_0_243
theorem dX12_reads_100 : decode cX12_reads 100 = .ok (.ireturn, 1) := oc_172 100 (aq_4 shX12_reads_96)
theorem dX12_reads_101 : decode cX12_reads 101 = .ok (.aload_n 0, 1) := oc_42 101 (aq_5 shX12_reads_96)
theorem dX12_reads_102 : decode cX12_reads 102 = .ok (.getfield 74, 3) := oc_180 102 (aq_6 shX12_reads_96) uw_0_74
theorem dX12_reads_105 : decode cX12_reads 105 = .ok (.iload_n 1, 1) := oc_27 105 (aq_9 shX12_reads_96)
theorem dX12_reads_106 : decode cX12_reads 106 = .ok (.aload_n 0, 1) := oc_42 106 (aq_10 shX12_reads_96)
theorem dX12_reads_107 : decode cX12_reads 107 = .ok (.getfield 312, 3) := oc_180 107 (aq_11 shX12_reads_96) uw_1_56
theorem dX12_reads_110 : decode cX12_reads 110 = .ok (.iastore, 1) := oc_79 110 (aq_14 shX12_reads_96)
theorem dX12_reads_111 : decode cX12_reads 111 = .ok (.iconst 0, 1) := oc_3 111 (aq_15 shX12_reads_96)
theorem dX12_reads_112 : decode cX12_reads 112 = .ok (.istore 4, 2) := oc_54 112 (aq_16 shX12_reads_96) ub_4
theorem dX12_reads_114 : decode cX12_reads 114 = .ok (.iload 4, 2) := oc_21 114 (aq_18 shX12_reads_96) ub_4
theorem dX12_reads_116 : decode cX12_reads 116 = .ok (.aload_n 0, 1) := oc_42 116 (aq_20 shX12_reads_96)
theorem dX12_reads_117 : decode cX12_reads 117 = .ok (.getfield 257, 3) := oc_180 117 (aq_21 shX12_reads_96) uw_1_1
theorem dX12_reads_120 : decode cX12_reads 120 = .ok (.if_icmp .ge 29, 3) := oc_162 120 shX12_reads_120 sgw_0_29
theorem dX12_reads_123 : decode cX12_reads 123 = .ok (.aload_n 0, 1) := oc_42 123 (aq_3 shX12_reads_120)
theorem dX12_reads_124 : decode cX12_reads 124 = .ok (.getfield 71, 3) := oc_180 124 (aq_4 shX12_reads_120) uw_0_71
theorem dX12_reads_127 : decode cX12_reads 127 = .ok (.sipush 180, 3) := oc_17 127 (aq_7 shX12_reads_120) sgw_0_180
theorem dX12_reads_130 : decode cX12_reads 130 = .ok (.iload_n 1, 1) := oc_27 130 (aq_10 shX12_reads_120)
theorem dX12_reads_131 : decode cX12_reads 131 = .ok (.imul, 1) := oc_104 131 (aq_11 shX12_reads_120)
theorem dX12_reads_132 : decode cX12_reads 132 = .ok (.iload 4, 2) := oc_21 132 (aq_12 shX12_reads_120) ub_4
theorem dX12_reads_134 : decode cX12_reads 134 = .ok (.iadd, 1) := oc_96 134 (aq_14 shX12_reads_120)
theorem dX12_reads_135 : decode cX12_reads 135 = .ok (.aload_n 0, 1) := oc_42 135 (aq_15 shX12_reads_120)
theorem dX12_reads_136 : decode cX12_reads 136 = .ok (.getfield 56, 3) := oc_180 136 (aq_16 shX12_reads_120) uw_0_56
theorem dX12_reads_139 : decode cX12_reads 139 = .ok (.iload 4, 2) := oc_21 139 (aq_19 shX12_reads_120) ub_4
theorem dX12_reads_141 : decode cX12_reads 141 = .ok (.iaload, 1) := oc_46 141 (aq_21 shX12_reads_120)
theorem dX12_reads_142 : decode cX12_reads 142 = .ok (.iastore, 1) := oc_79 142 (aq_22 shX12_reads_120)
theorem dX12_reads_143 : decode cX12_reads 143 = .ok (.iinc 4 1, 3) := oc_132 143 (aq_23 shX12_reads_120) ub_4 sgb_1
theorem dX12_reads_146 : decode cX12_reads 146 = .ok (.goto (-32), 3) := oc_167 146 shX12_reads_146 sgw_255_224
theorem dX12_reads_149 : decode cX12_reads 149 = .ok (.iconst 0, 1) := oc_3 149 (aq_3 shX12_reads_146)
theorem dX12_reads_150 : decode cX12_reads 150 = .ok (.istore 4, 2) := oc_54 150 (aq_4 shX12_reads_146) ub_4
theorem dX12_reads_152 : decode cX12_reads 152 = .ok (.iload 4, 2) := oc_21 152 (aq_6 shX12_reads_146) ub_4
theorem dX12_reads_154 : decode cX12_reads 154 = .ok (.aload_n 0, 1) := oc_42 154 (aq_8 shX12_reads_146)
theorem dX12_reads_155 : decode cX12_reads 155 = .ok (.getfield 312, 3) := oc_180 155 (aq_9 shX12_reads_146) uw_1_56
theorem dX12_reads_158 : decode cX12_reads 158 = .ok (.if_icmp .ge 78, 3) := oc_162 158 (aq_12 shX12_reads_146) sgw_0_78
theorem dX12_reads_161 : decode cX12_reads 161 = .ok (.bipush 12, 2) := oc_16 161 (aq_15 shX12_reads_146) sgb_12
theorem dX12_reads_163 : decode cX12_reads 163 = .ok (.iload_n 1, 1) := oc_27 163 (aq_17 shX12_reads_146)
theorem dX12_reads_164 : decode cX12_reads 164 = .ok (.imul, 1) := oc_104 164 (aq_18 shX12_reads_146)
theorem dX12_reads_165 : decode cX12_reads 165 = .ok (.iload 4, 2) := oc_21 165 (aq_19 shX12_reads_146) ub_4
theorem dX12_reads_167 : decode cX12_reads 167 = .ok (.iadd, 1) := oc_96 167 (aq_21 shX12_reads_146)
theorem dX12_reads_168 : decode cX12_reads 168 = .ok (.istore 5, 2) := oc_54 168 (aq_22 shX12_reads_146) ub_5
theorem dX12_reads_170 : decode cX12_reads 170 = .ok (.aload_n 0, 1) := oc_42 170 shX12_reads_170
theorem dX12_reads_171 : decode cX12_reads 171 = .ok (.getfield 77, 3) := oc_180 171 (aq_1 shX12_reads_170) uw_0_77
theorem dX12_reads_174 : decode cX12_reads 174 = .ok (.iload 5, 2) := oc_21 174 (aq_4 shX12_reads_170) ub_5
theorem dX12_reads_176 : decode cX12_reads 176 = .ok (.sipush 180, 3) := oc_17 176 (aq_6 shX12_reads_170) sgw_0_180
theorem dX12_reads_179 : decode cX12_reads 179 = .ok (.iload_n 1, 1) := oc_27 179 (aq_9 shX12_reads_170)
theorem dX12_reads_180 : decode cX12_reads 180 = .ok (.imul, 1) := oc_104 180 (aq_10 shX12_reads_170)
theorem dX12_reads_181 : decode cX12_reads 181 = .ok (.aload_n 0, 1) := oc_42 181 (aq_11 shX12_reads_170)
theorem dX12_reads_182 : decode cX12_reads 182 = .ok (.getfield 62, 3) := oc_180 182 (aq_12 shX12_reads_170) uw_0_62
theorem dX12_reads_185 : decode cX12_reads 185 = .ok (.iload 4, 2) := oc_21 185 (aq_15 shX12_reads_170) ub_4
theorem dX12_reads_187 : decode cX12_reads 187 = .ok (.iaload, 1) := oc_46 187 (aq_17 shX12_reads_170)
theorem dX12_reads_188 : decode cX12_reads 188 = .ok (.iadd, 1) := oc_96 188 (aq_18 shX12_reads_170)
theorem dX12_reads_189 : decode cX12_reads 189 = .ok (.iastore, 1) := oc_79 189 (aq_19 shX12_reads_170)
theorem dX12_reads_190 : decode cX12_reads 190 = .ok (.aload_n 0, 1) := oc_42 190 (aq_20 shX12_reads_170)
theorem dX12_reads_191 : decode cX12_reads 191 = .ok (.getfield 80, 3) := oc_180 191 (aq_21 shX12_reads_170) uw_0_80
theorem dX12_reads_194 : decode cX12_reads 194 = .ok (.iload 5, 2) := oc_21 194 shX12_reads_194 ub_5
theorem dX12_reads_196 : decode cX12_reads 196 = .ok (.sipush 180, 3) := oc_17 196 (aq_2 shX12_reads_194) sgw_0_180
theorem dX12_reads_199 : decode cX12_reads 199 = .ok (.iload_n 1, 1) := oc_27 199 (aq_5 shX12_reads_194)
theorem dX12_reads_200 : decode cX12_reads 200 = .ok (.imul, 1) := oc_104 200 (aq_6 shX12_reads_194)
theorem dX12_reads_201 : decode cX12_reads 201 = .ok (.aload_n 0, 1) := oc_42 201 (aq_7 shX12_reads_194)
theorem dX12_reads_202 : decode cX12_reads 202 = .ok (.getfield 65, 3) := oc_180 202 (aq_8 shX12_reads_194) uw_0_65
theorem dX12_reads_205 : decode cX12_reads 205 = .ok (.iload 4, 2) := oc_21 205 (aq_11 shX12_reads_194) ub_4
theorem dX12_reads_207 : decode cX12_reads 207 = .ok (.iaload, 1) := oc_46 207 (aq_13 shX12_reads_194)
theorem dX12_reads_208 : decode cX12_reads 208 = .ok (.iadd, 1) := oc_96 208 (aq_14 shX12_reads_194)
theorem dX12_reads_209 : decode cX12_reads 209 = .ok (.iastore, 1) := oc_79 209 (aq_15 shX12_reads_194)
theorem dX12_reads_210 : decode cX12_reads 210 = .ok (.aload_n 0, 1) := oc_42 210 (aq_16 shX12_reads_194)
theorem dX12_reads_211 : decode cX12_reads 211 = .ok (.getfield 83, 3) := oc_180 211 (aq_17 shX12_reads_194) uw_0_83
theorem dX12_reads_214 : decode cX12_reads 214 = .ok (.iload 5, 2) := oc_21 214 (aq_20 shX12_reads_194) ub_5
theorem dX12_reads_216 : decode cX12_reads 216 = .ok (.sipush 180, 3) := oc_17 216 (aq_22 shX12_reads_194) sgw_0_180
theorem dX12_reads_219 : decode cX12_reads 219 = .ok (.iload_n 1, 1) := oc_27 219 shX12_reads_219
theorem dX12_reads_220 : decode cX12_reads 220 = .ok (.imul, 1) := oc_104 220 (aq_1 shX12_reads_219)
theorem dX12_reads_221 : decode cX12_reads 221 = .ok (.aload_n 0, 1) := oc_42 221 (aq_2 shX12_reads_219)
theorem dX12_reads_222 : decode cX12_reads 222 = .ok (.getfield 68, 3) := oc_180 222 (aq_3 shX12_reads_219) uw_0_68
theorem dX12_reads_225 : decode cX12_reads 225 = .ok (.iload 4, 2) := oc_21 225 (aq_6 shX12_reads_219) ub_4
theorem dX12_reads_227 : decode cX12_reads 227 = .ok (.iaload, 1) := oc_46 227 (aq_8 shX12_reads_219)
theorem dX12_reads_228 : decode cX12_reads 228 = .ok (.iadd, 1) := oc_96 228 (aq_9 shX12_reads_219)
theorem dX12_reads_229 : decode cX12_reads 229 = .ok (.iastore, 1) := oc_79 229 (aq_10 shX12_reads_219)
theorem dX12_reads_230 : decode cX12_reads 230 = .ok (.iinc 4 1, 3) := oc_132 230 (aq_11 shX12_reads_219) ub_4 sgb_1
theorem dX12_reads_233 : decode cX12_reads 233 = .ok (.goto (-81), 3) := oc_167 233 (aq_14 shX12_reads_219) sgw_255_175
theorem dX12_reads_236 : decode cX12_reads 236 = .ok (.aload_n 0, 1) := oc_42 236 (aq_17 shX12_reads_219)
theorem dX12_reads_237 : decode cX12_reads 237 = .ok (.getfield 312, 3) := oc_180 237 (aq_18 shX12_reads_219) uw_1_56
theorem dX12_reads_240 : decode cX12_reads 240 = .ok (.ireturn, 1) := oc_172 240 (aq_21 shX12_reads_219)
noncomputable def sxX12_contract_38 : List UInt8 := []
noncomputable def sxX12_contract_24 : List UInt8 := 164 :: 0 :: 7 :: 2 :: 167 :: 0 :: 9 :: 42 :: 27 :: 28 :: 182 :: 1 :: 68 :: 172 :: sxX12_contract_38
theorem shX12_contract_0 : cX12_contract.data.toList.drop 0 = 42 :: 27 :: 182 :: 0 :: 218 :: 153 :: 0 :: 22 :: 28 :: 4 :: 17 :: 0 :: 160 :: 184 :: 0 :: 214 :: 153 :: 0 :: 11 :: 28 :: 42 :: 180 :: 0 :: 226 :: sxX12_contract_24 := rfl
theorem shX12_contract_24 : cX12_contract.data.toList.drop 24 = 164 :: 0 :: 7 :: 2 :: 167 :: 0 :: 9 :: 42 :: 27 :: 28 :: 182 :: 1 :: 68 :: 172 :: sxX12_contract_38 := aq_24 shX12_contract_0
theorem dX12_contract_5 : decode cX12_contract 5 = .ok (.ifCond .eq 22, 3) := oc_153 5 (aq_5 shX12_contract_0) sgw_0_22
theorem dX12_contract_16 : decode cX12_contract 16 = .ok (.ifCond .eq 11, 3) := oc_153 16 (aq_16 shX12_contract_0) sgw_0_11
theorem dX12_contract_27 : decode cX12_contract 27 = .ok (.iconst (-1), 1) := oc_2 27 (aq_3 shX12_contract_24)
theorem dX12_contract_28 : decode cX12_contract 28 = .ok (.goto 9, 3) := oc_167 28 (aq_4 shX12_contract_24) sgw_0_9
theorem dX12_contract_37 : decode cX12_contract 37 = .ok (.ireturn, 1) := oc_172 37 (aq_13 shX12_contract_24)
noncomputable def sxX12_law_31 : List UInt8 := []
noncomputable def sxX12_law_24 : List UInt8 := 16 :: 10 :: 27 :: 182 :: 1 :: 68 :: 172 :: sxX12_law_31
theorem shX12_law_0 : cX12_law.data.toList.drop 0 = 27 :: 4 :: 17 :: 0 :: 160 :: 184 :: 0 :: 214 :: 153 :: 0 :: 11 :: 27 :: 42 :: 180 :: 0 :: 226 :: 164 :: 0 :: 7 :: 2 :: 167 :: 0 :: 10 :: 42 :: sxX12_law_24 := rfl
theorem shX12_law_24 : cX12_law.data.toList.drop 24 = 16 :: 10 :: 27 :: 182 :: 1 :: 68 :: 172 :: sxX12_law_31 := aq_24 shX12_law_0
theorem dX12_law_8 : decode cX12_law 8 = .ok (.ifCond .eq 11, 3) := oc_153 8 (aq_8 shX12_law_0) sgw_0_11
theorem dX12_law_19 : decode cX12_law 19 = .ok (.iconst (-1), 1) := oc_2 19 (aq_19 shX12_law_0)
theorem dX12_law_20 : decode cX12_law 20 = .ok (.goto 10, 3) := oc_167 20 (aq_20 shX12_law_0) sgw_0_10
theorem dX12_law_30 : decode cX12_law 30 = .ok (.ireturn, 1) := oc_172 30 (aq_6 shX12_law_24)
noncomputable def sxX12_reckon_97 : List UInt8 := []
noncomputable def sxX12_reckon_95 : List UInt8 := 3 :: 172 :: sxX12_reckon_97
noncomputable def sxX12_reckon_69 : List UInt8 := 4 :: 167 :: 0 :: 4 :: 3 :: 172 :: 27 :: 28 :: 164 :: 0 :: 7 :: 4 :: 167 :: 0 :: 4 :: 3 :: 172 :: 27 :: 28 :: 160 :: 0 :: 7 :: 4 :: 167 :: 0 :: 4 :: sxX12_reckon_95
noncomputable def sxX12_reckon_44 : List UInt8 := 27 :: 28 :: 96 :: 172 :: 27 :: 28 :: 100 :: 172 :: 27 :: 28 :: 104 :: 172 :: 27 :: 28 :: 108 :: 172 :: 27 :: 28 :: 112 :: 172 :: 27 :: 28 :: 162 :: 0 :: 7 :: sxX12_reckon_69
theorem shX12_reckon_0 : cX12_reckon.data.toList.drop 0 = 26 :: 170 :: 0 :: 0 :: 0 :: 0 :: 0 :: 85 :: 0 :: 0 :: 0 :: 2 :: 0 :: 0 :: 0 :: 8 :: 0 :: 0 :: 0 :: 43 :: 0 :: 0 :: 0 :: 47 :: 0 :: 0 :: 0 :: 51 :: 0 :: 0 :: 0 :: 55 :: 0 :: 0 :: 0 :: 59 :: 0 :: 0 :: 0 :: 63 :: 0 :: 0 :: 0 :: 74 :: sxX12_reckon_44 := rfl
theorem shX12_reckon_44 : cX12_reckon.data.toList.drop 44 = 27 :: 28 :: 96 :: 172 :: 27 :: 28 :: 100 :: 172 :: 27 :: 28 :: 104 :: 172 :: 27 :: 28 :: 108 :: 172 :: 27 :: 28 :: 112 :: 172 :: 27 :: 28 :: 162 :: 0 :: 7 :: sxX12_reckon_69 := dSn 44 shX12_reckon_0
theorem shX12_reckon_69 : cX12_reckon.data.toList.drop 69 = 4 :: 167 :: 0 :: 4 :: 3 :: 172 :: 27 :: 28 :: 164 :: 0 :: 7 :: 4 :: 167 :: 0 :: 4 :: 3 :: 172 :: 27 :: 28 :: 160 :: 0 :: 7 :: 4 :: 167 :: 0 :: 4 :: sxX12_reckon_95 := aq_25 shX12_reckon_44
theorem shX12_reckon_95 : cX12_reckon.data.toList.drop 95 = 3 :: 172 :: sxX12_reckon_97 := aq_26 shX12_reckon_69
theorem dX12_reckon_1 : decode cX12_reckon 1 = .ok (.tableswitch 85 2 8 #[43, 47, 51, 55, 59, 63, 74], 43) := by decide +kernel
theorem dX12_reckon_96 : decode cX12_reckon 96 = .ok (.ireturn, 1) := oc_172 96 (aq_1 shX12_reckon_95)
noncomputable def sxX12_comesTo_242 : List UInt8 := []
noncomputable def sxX12_comesTo_219 : List UInt8 := 4 :: 100 :: 46 :: 42 :: 180 :: 0 :: 86 :: 29 :: 46 :: 184 :: 1 :: 71 :: 79 :: 167 :: 255 :: 40 :: 42 :: 180 :: 0 :: 86 :: 3 :: 46 :: 172 :: sxX12_comesTo_242
noncomputable def sxX12_comesTo_195 : List UInt8 := 180 :: 0 :: 86 :: 29 :: 46 :: 154 :: 0 :: 5 :: 3 :: 172 :: 42 :: 180 :: 0 :: 86 :: 29 :: 4 :: 100 :: 21 :: 6 :: 42 :: 180 :: 0 :: 86 :: 29 :: sxX12_comesTo_219
noncomputable def sxX12_comesTo_171 : List UInt8 := 4 :: 100 :: 62 :: 167 :: 0 :: 58 :: 29 :: 4 :: 100 :: 62 :: 21 :: 6 :: 8 :: 159 :: 0 :: 10 :: 21 :: 6 :: 16 :: 6 :: 160 :: 0 :: 14 :: 42 :: sxX12_comesTo_195
noncomputable def sxX12_comesTo_147 : List UInt8 := 16 :: 12 :: 160 :: 0 :: 7 :: 4 :: 167 :: 0 :: 4 :: 3 :: 160 :: 0 :: 13 :: 21 :: 4 :: 21 :: 7 :: 96 :: 54 :: 5 :: 167 :: 0 :: 65 :: 29 :: sxX12_comesTo_171
noncomputable def sxX12_comesTo_123 : List UInt8 := 21 :: 6 :: 16 :: 11 :: 159 :: 0 :: 10 :: 21 :: 6 :: 16 :: 12 :: 160 :: 0 :: 43 :: 42 :: 180 :: 0 :: 86 :: 29 :: 4 :: 100 :: 46 :: 21 :: 6 :: sxX12_comesTo_147
noncomputable def sxX12_comesTo_99 : List UInt8 := 160 :: 0 :: 24 :: 42 :: 180 :: 0 :: 86 :: 29 :: 4 :: 100 :: 4 :: 42 :: 180 :: 0 :: 86 :: 29 :: 4 :: 100 :: 46 :: 100 :: 79 :: 167 :: 0 :: 112 :: sxX12_comesTo_123
noncomputable def sxX12_comesTo_75 : List UInt8 := 21 :: 7 :: 167 :: 0 :: 10 :: 42 :: 180 :: 0 :: 89 :: 21 :: 7 :: 46 :: 79 :: 29 :: 4 :: 96 :: 62 :: 167 :: 0 :: 140 :: 21 :: 6 :: 16 :: 10 :: sxX12_comesTo_99
noncomputable def sxX12_comesTo_50 : List UInt8 := 4 :: 96 :: 54 :: 5 :: 21 :: 6 :: 153 :: 0 :: 9 :: 21 :: 6 :: 4 :: 160 :: 0 :: 33 :: 42 :: 180 :: 0 :: 86 :: 29 :: 21 :: 6 :: 154 :: 0 :: 8 :: sxX12_comesTo_75
noncomputable def sxX12_comesTo_26 : List UInt8 := 21 :: 5 :: 46 :: 19 :: 1 :: 4 :: 108 :: 54 :: 6 :: 42 :: 180 :: 0 :: 71 :: 21 :: 5 :: 46 :: 19 :: 1 :: 4 :: 112 :: 54 :: 7 :: 21 :: 5 :: sxX12_comesTo_50
theorem shX12_comesTo_0 : cX12_comesTo.data.toList.drop 0 = 3 :: 62 :: 17 :: 0 :: 180 :: 27 :: 17 :: 0 :: 180 :: 108 :: 104 :: 54 :: 4 :: 27 :: 54 :: 5 :: 21 :: 5 :: 28 :: 162 :: 0 :: 216 :: 42 :: 180 :: 0 :: 71 :: sxX12_comesTo_26 := rfl
theorem shX12_comesTo_26 : cX12_comesTo.data.toList.drop 26 = 21 :: 5 :: 46 :: 19 :: 1 :: 4 :: 108 :: 54 :: 6 :: 42 :: 180 :: 0 :: 71 :: 21 :: 5 :: 46 :: 19 :: 1 :: 4 :: 112 :: 54 :: 7 :: 21 :: 5 :: sxX12_comesTo_50 := aq_26 shX12_comesTo_0
theorem shX12_comesTo_50 : cX12_comesTo.data.toList.drop 50 = 4 :: 96 :: 54 :: 5 :: 21 :: 6 :: 153 :: 0 :: 9 :: 21 :: 6 :: 4 :: 160 :: 0 :: 33 :: 42 :: 180 :: 0 :: 86 :: 29 :: 21 :: 6 :: 154 :: 0 :: 8 :: sxX12_comesTo_75 := aq_24 shX12_comesTo_26
theorem shX12_comesTo_75 : cX12_comesTo.data.toList.drop 75 = 21 :: 7 :: 167 :: 0 :: 10 :: 42 :: 180 :: 0 :: 89 :: 21 :: 7 :: 46 :: 79 :: 29 :: 4 :: 96 :: 62 :: 167 :: 0 :: 140 :: 21 :: 6 :: 16 :: 10 :: sxX12_comesTo_99 := aq_25 shX12_comesTo_50
theorem shX12_comesTo_99 : cX12_comesTo.data.toList.drop 99 = 160 :: 0 :: 24 :: 42 :: 180 :: 0 :: 86 :: 29 :: 4 :: 100 :: 4 :: 42 :: 180 :: 0 :: 86 :: 29 :: 4 :: 100 :: 46 :: 100 :: 79 :: 167 :: 0 :: 112 :: sxX12_comesTo_123 := aq_24 shX12_comesTo_75
theorem shX12_comesTo_123 : cX12_comesTo.data.toList.drop 123 = 21 :: 6 :: 16 :: 11 :: 159 :: 0 :: 10 :: 21 :: 6 :: 16 :: 12 :: 160 :: 0 :: 43 :: 42 :: 180 :: 0 :: 86 :: 29 :: 4 :: 100 :: 46 :: 21 :: 6 :: sxX12_comesTo_147 := aq_24 shX12_comesTo_99
theorem shX12_comesTo_147 : cX12_comesTo.data.toList.drop 147 = 16 :: 12 :: 160 :: 0 :: 7 :: 4 :: 167 :: 0 :: 4 :: 3 :: 160 :: 0 :: 13 :: 21 :: 4 :: 21 :: 7 :: 96 :: 54 :: 5 :: 167 :: 0 :: 65 :: 29 :: sxX12_comesTo_171 := aq_24 shX12_comesTo_123
theorem shX12_comesTo_171 : cX12_comesTo.data.toList.drop 171 = 4 :: 100 :: 62 :: 167 :: 0 :: 58 :: 29 :: 4 :: 100 :: 62 :: 21 :: 6 :: 8 :: 159 :: 0 :: 10 :: 21 :: 6 :: 16 :: 6 :: 160 :: 0 :: 14 :: 42 :: sxX12_comesTo_195 := aq_24 shX12_comesTo_147
theorem shX12_comesTo_195 : cX12_comesTo.data.toList.drop 195 = 180 :: 0 :: 86 :: 29 :: 46 :: 154 :: 0 :: 5 :: 3 :: 172 :: 42 :: 180 :: 0 :: 86 :: 29 :: 4 :: 100 :: 21 :: 6 :: 42 :: 180 :: 0 :: 86 :: 29 :: sxX12_comesTo_219 := aq_24 shX12_comesTo_171
theorem shX12_comesTo_219 : cX12_comesTo.data.toList.drop 219 = 4 :: 100 :: 46 :: 42 :: 180 :: 0 :: 86 :: 29 :: 46 :: 184 :: 1 :: 71 :: 79 :: 167 :: 255 :: 40 :: 42 :: 180 :: 0 :: 86 :: 3 :: 46 :: 172 :: sxX12_comesTo_242 := aq_24 shX12_comesTo_195
theorem dX12_comesTo_48 : decode cX12_comesTo 48 = .ok (.iload 5, 2) := oc_21 48 (aq_22 shX12_comesTo_26) ub_5
theorem dX12_comesTo_50 : decode cX12_comesTo 50 = .ok (.iconst 1, 1) := oc_4 50 shX12_comesTo_50
theorem dX12_comesTo_51 : decode cX12_comesTo 51 = .ok (.iadd, 1) := oc_96 51 (aq_1 shX12_comesTo_50)
theorem dX12_comesTo_52 : decode cX12_comesTo 52 = .ok (.istore 5, 2) := oc_54 52 (aq_2 shX12_comesTo_50) ub_5
theorem dX12_comesTo_54 : decode cX12_comesTo 54 = .ok (.iload 6, 2) := oc_21 54 (aq_4 shX12_comesTo_50) ub_6
theorem dX12_comesTo_56 : decode cX12_comesTo 56 = .ok (.ifCond .eq 9, 3) := oc_153 56 (aq_6 shX12_comesTo_50) sgw_0_9
theorem dX12_comesTo_59 : decode cX12_comesTo 59 = .ok (.iload 6, 2) := oc_21 59 (aq_9 shX12_comesTo_50) ub_6
theorem dX12_comesTo_61 : decode cX12_comesTo 61 = .ok (.iconst 1, 1) := oc_4 61 (aq_11 shX12_comesTo_50)
theorem dX12_comesTo_62 : decode cX12_comesTo 62 = .ok (.if_icmp .ne 33, 3) := oc_160 62 (aq_12 shX12_comesTo_50) sgw_0_33
theorem dX12_comesTo_95 : decode cX12_comesTo 95 = .ok (.iload 6, 2) := oc_21 95 (aq_20 shX12_comesTo_75) ub_6
theorem dX12_comesTo_97 : decode cX12_comesTo 97 = .ok (.bipush 10, 2) := oc_16 97 (aq_22 shX12_comesTo_75) sgb_10
theorem dX12_comesTo_99 : decode cX12_comesTo 99 = .ok (.if_icmp .ne 24, 3) := oc_160 99 shX12_comesTo_99 sgw_0_24
theorem dX12_comesTo_123 : decode cX12_comesTo 123 = .ok (.iload 6, 2) := oc_21 123 shX12_comesTo_123 ub_6
theorem dX12_comesTo_125 : decode cX12_comesTo 125 = .ok (.bipush 11, 2) := oc_16 125 (aq_2 shX12_comesTo_123) sgb_11
theorem dX12_comesTo_127 : decode cX12_comesTo 127 = .ok (.if_icmp .eq 10, 3) := oc_159 127 (aq_4 shX12_comesTo_123) sgw_0_10
theorem dX12_comesTo_130 : decode cX12_comesTo 130 = .ok (.iload 6, 2) := oc_21 130 (aq_7 shX12_comesTo_123) ub_6
theorem dX12_comesTo_132 : decode cX12_comesTo 132 = .ok (.bipush 12, 2) := oc_16 132 (aq_9 shX12_comesTo_123) sgb_12
theorem dX12_comesTo_134 : decode cX12_comesTo 134 = .ok (.if_icmp .ne 43, 3) := oc_160 134 (aq_11 shX12_comesTo_123) sgw_0_43
theorem dX12_comesTo_177 : decode cX12_comesTo 177 = .ok (.iload_n 3, 1) := oc_29 177 (aq_6 shX12_comesTo_171)
theorem dX12_comesTo_178 : decode cX12_comesTo 178 = .ok (.iconst 1, 1) := oc_4 178 (aq_7 shX12_comesTo_171)
theorem dX12_comesTo_179 : decode cX12_comesTo 179 = .ok (.isub, 1) := oc_100 179 (aq_8 shX12_comesTo_171)
theorem dX12_comesTo_180 : decode cX12_comesTo 180 = .ok (.istore_n 3, 1) := oc_62 180 (aq_9 shX12_comesTo_171)
theorem dX12_comesTo_181 : decode cX12_comesTo 181 = .ok (.iload 6, 2) := oc_21 181 (aq_10 shX12_comesTo_171) ub_6
theorem dX12_comesTo_183 : decode cX12_comesTo 183 = .ok (.iconst 5, 1) := oc_8 183 (aq_12 shX12_comesTo_171)
theorem dX12_comesTo_184 : decode cX12_comesTo 184 = .ok (.if_icmp .eq 10, 3) := oc_159 184 (aq_13 shX12_comesTo_171) sgw_0_10
theorem dX12_comesTo_187 : decode cX12_comesTo 187 = .ok (.iload 6, 2) := oc_21 187 (aq_16 shX12_comesTo_171) ub_6
theorem dX12_comesTo_189 : decode cX12_comesTo 189 = .ok (.bipush 6, 2) := oc_16 189 (aq_18 shX12_comesTo_171) sgb_6
theorem dX12_comesTo_191 : decode cX12_comesTo 191 = .ok (.if_icmp .ne 14, 3) := oc_160 191 (aq_20 shX12_comesTo_171) sgw_0_14
theorem dX12_comesTo_205 : decode cX12_comesTo 205 = .ok (.aload_n 0, 1) := oc_42 205 (aq_10 shX12_comesTo_195)
theorem dX12_comesTo_206 : decode cX12_comesTo 206 = .ok (.getfield 86, 3) := oc_180 206 (aq_11 shX12_comesTo_195) uw_0_86
theorem dX12_comesTo_209 : decode cX12_comesTo 209 = .ok (.iload_n 3, 1) := oc_29 209 (aq_14 shX12_comesTo_195)
theorem dX12_comesTo_210 : decode cX12_comesTo 210 = .ok (.iconst 1, 1) := oc_4 210 (aq_15 shX12_comesTo_195)
theorem dX12_comesTo_211 : decode cX12_comesTo 211 = .ok (.isub, 1) := oc_100 211 (aq_16 shX12_comesTo_195)
theorem dX12_comesTo_212 : decode cX12_comesTo 212 = .ok (.iload 6, 2) := oc_21 212 (aq_17 shX12_comesTo_195) ub_6
theorem dX12_comesTo_214 : decode cX12_comesTo 214 = .ok (.aload_n 0, 1) := oc_42 214 (aq_19 shX12_comesTo_195)
theorem dX12_comesTo_215 : decode cX12_comesTo 215 = .ok (.getfield 86, 3) := oc_180 215 (aq_20 shX12_comesTo_195) uw_0_86
theorem dX12_comesTo_218 : decode cX12_comesTo 218 = .ok (.iload_n 3, 1) := oc_29 218 (aq_23 shX12_comesTo_195)
theorem dX12_comesTo_219 : decode cX12_comesTo 219 = .ok (.iconst 1, 1) := oc_4 219 shX12_comesTo_219
theorem dX12_comesTo_220 : decode cX12_comesTo 220 = .ok (.isub, 1) := oc_100 220 (aq_1 shX12_comesTo_219)
theorem dX12_comesTo_221 : decode cX12_comesTo 221 = .ok (.iaload, 1) := oc_46 221 (aq_2 shX12_comesTo_219)
theorem dX12_comesTo_222 : decode cX12_comesTo 222 = .ok (.aload_n 0, 1) := oc_42 222 (aq_3 shX12_comesTo_219)
theorem dX12_comesTo_223 : decode cX12_comesTo 223 = .ok (.getfield 86, 3) := oc_180 223 (aq_4 shX12_comesTo_219) uw_0_86
theorem dX12_comesTo_226 : decode cX12_comesTo 226 = .ok (.iload_n 3, 1) := oc_29 226 (aq_7 shX12_comesTo_219)
theorem dX12_comesTo_227 : decode cX12_comesTo 227 = .ok (.iaload, 1) := oc_46 227 (aq_8 shX12_comesTo_219)
theorem dX12_comesTo_228 : decode cX12_comesTo 228 = .ok (.invokestatic 327, 3) := oc_184 228 (aq_9 shX12_comesTo_219) uw_1_71
theorem dX12_comesTo_231 : decode cX12_comesTo 231 = .ok (.iastore, 1) := oc_79 231 (aq_12 shX12_comesTo_219)
theorem dX12_comesTo_232 : decode cX12_comesTo 232 = .ok (.goto (-216), 3) := oc_167 232 (aq_13 shX12_comesTo_219) sgw_255_40
noncomputable def sxX12_price_32 : List UInt8 := []
noncomputable def sxX12_price_24 : List UInt8 := 180 :: 0 :: 92 :: 27 :: 28 :: 79 :: 4 :: 172 :: sxX12_price_32
theorem shX12_price_0 : cX12_price.data.toList.drop 0 = 27 :: 3 :: 16 :: 57 :: 184 :: 0 :: 214 :: 153 :: 0 :: 14 :: 28 :: 3 :: 17 :: 3 :: 232 :: 184 :: 0 :: 214 :: 154 :: 0 :: 5 :: 3 :: 172 :: 42 :: sxX12_price_24 := rfl
theorem shX12_price_24 : cX12_price.data.toList.drop 24 = 180 :: 0 :: 92 :: 27 :: 28 :: 79 :: 4 :: 172 :: sxX12_price_32 := aq_24 shX12_price_0
noncomputable def sxX12_penceFor_290 : List UInt8 := []
noncomputable def sxX12_penceFor_267 : List UInt8 := 19 :: 1 :: 78 :: 164 :: 0 :: 9 :: 19 :: 1 :: 78 :: 167 :: 0 :: 5 :: 21 :: 6 :: 172 :: 132 :: 5 :: 1 :: 167 :: 255 :: 166 :: 3 :: 172 :: sxX12_penceFor_290
noncomputable def sxX12_penceFor_243 : List UInt8 := 46 :: 42 :: 180 :: 0 :: 80 :: 21 :: 5 :: 46 :: 182 :: 1 :: 75 :: 54 :: 6 :: 21 :: 6 :: 156 :: 0 :: 7 :: 3 :: 167 :: 0 :: 19 :: 21 :: 6 :: sxX12_penceFor_267
noncomputable def sxX12_penceFor_219 : List UInt8 := 42 :: 180 :: 0 :: 83 :: 21 :: 5 :: 46 :: 182 :: 1 :: 75 :: 4 :: 159 :: 0 :: 6 :: 167 :: 0 :: 49 :: 42 :: 42 :: 180 :: 0 :: 77 :: 21 :: 5 :: sxX12_penceFor_243
noncomputable def sxX12_penceFor_195 : List UInt8 := 21 :: 5 :: 16 :: 12 :: 28 :: 104 :: 42 :: 180 :: 0 :: 74 :: 28 :: 46 :: 96 :: 162 :: 0 :: 80 :: 42 :: 42 :: 180 :: 0 :: 80 :: 21 :: 5 :: 46 :: sxX12_penceFor_219
noncomputable def sxX12_penceFor_170 : List UInt8 := 42 :: 180 :: 0 :: 28 :: 27 :: 46 :: 16 :: 7 :: 108 :: 46 :: 79 :: 42 :: 180 :: 0 :: 89 :: 16 :: 10 :: 3 :: 79 :: 16 :: 12 :: 28 :: 104 :: 54 :: 5 :: sxX12_penceFor_195
noncomputable def sxX12_penceFor_145 : List UInt8 := 180 :: 0 :: 43 :: 27 :: 46 :: 79 :: 42 :: 180 :: 0 :: 89 :: 16 :: 8 :: 21 :: 4 :: 79 :: 42 :: 180 :: 0 :: 89 :: 16 :: 9 :: 42 :: 180 :: 0 :: 92 :: sxX12_penceFor_170
noncomputable def sxX12_penceFor_121 : List UInt8 := 180 :: 0 :: 28 :: 27 :: 46 :: 16 :: 7 :: 112 :: 79 :: 42 :: 180 :: 0 :: 89 :: 16 :: 6 :: 29 :: 79 :: 42 :: 180 :: 0 :: 89 :: 16 :: 7 :: 42 :: sxX12_penceFor_145
noncomputable def sxX12_penceFor_97 : List UInt8 := 27 :: 46 :: 79 :: 42 :: 180 :: 0 :: 89 :: 7 :: 42 :: 180 :: 0 :: 28 :: 27 :: 46 :: 16 :: 7 :: 108 :: 79 :: 42 :: 180 :: 0 :: 89 :: 8 :: 42 :: sxX12_penceFor_121
noncomputable def sxX12_penceFor_73 : List UInt8 := 27 :: 46 :: 79 :: 42 :: 180 :: 0 :: 89 :: 5 :: 42 :: 180 :: 0 :: 37 :: 27 :: 46 :: 79 :: 42 :: 180 :: 0 :: 89 :: 6 :: 42 :: 180 :: 0 :: 28 :: sxX12_penceFor_97
noncomputable def sxX12_penceFor_49 : List UInt8 := 167 :: 255 :: 220 :: 42 :: 180 :: 0 :: 89 :: 3 :: 42 :: 180 :: 0 :: 31 :: 27 :: 46 :: 79 :: 42 :: 180 :: 0 :: 89 :: 4 :: 42 :: 180 :: 0 :: 34 :: sxX12_penceFor_73
noncomputable def sxX12_penceFor_25 : List UInt8 := 21 :: 5 :: 46 :: 29 :: 160 :: 0 :: 13 :: 42 :: 180 :: 0 :: 31 :: 21 :: 5 :: 46 :: 167 :: 0 :: 4 :: 3 :: 96 :: 54 :: 4 :: 132 :: 5 :: 1 :: sxX12_penceFor_49
theorem shX12_penceFor_0 : cX12_penceFor.data.toList.drop 0 = 42 :: 180 :: 0 :: 25 :: 27 :: 46 :: 62 :: 3 :: 54 :: 4 :: 3 :: 54 :: 5 :: 21 :: 5 :: 27 :: 162 :: 0 :: 36 :: 21 :: 4 :: 42 :: 180 :: 0 :: 25 :: sxX12_penceFor_25 := rfl
theorem shX12_penceFor_25 : cX12_penceFor.data.toList.drop 25 = 21 :: 5 :: 46 :: 29 :: 160 :: 0 :: 13 :: 42 :: 180 :: 0 :: 31 :: 21 :: 5 :: 46 :: 167 :: 0 :: 4 :: 3 :: 96 :: 54 :: 4 :: 132 :: 5 :: 1 :: sxX12_penceFor_49 := aq_25 shX12_penceFor_0
theorem shX12_penceFor_49 : cX12_penceFor.data.toList.drop 49 = 167 :: 255 :: 220 :: 42 :: 180 :: 0 :: 89 :: 3 :: 42 :: 180 :: 0 :: 31 :: 27 :: 46 :: 79 :: 42 :: 180 :: 0 :: 89 :: 4 :: 42 :: 180 :: 0 :: 34 :: sxX12_penceFor_73 := aq_24 shX12_penceFor_25
theorem shX12_penceFor_73 : cX12_penceFor.data.toList.drop 73 = 27 :: 46 :: 79 :: 42 :: 180 :: 0 :: 89 :: 5 :: 42 :: 180 :: 0 :: 37 :: 27 :: 46 :: 79 :: 42 :: 180 :: 0 :: 89 :: 6 :: 42 :: 180 :: 0 :: 28 :: sxX12_penceFor_97 := aq_24 shX12_penceFor_49
theorem shX12_penceFor_97 : cX12_penceFor.data.toList.drop 97 = 27 :: 46 :: 79 :: 42 :: 180 :: 0 :: 89 :: 7 :: 42 :: 180 :: 0 :: 28 :: 27 :: 46 :: 16 :: 7 :: 108 :: 79 :: 42 :: 180 :: 0 :: 89 :: 8 :: 42 :: sxX12_penceFor_121 := aq_24 shX12_penceFor_73
theorem shX12_penceFor_121 : cX12_penceFor.data.toList.drop 121 = 180 :: 0 :: 28 :: 27 :: 46 :: 16 :: 7 :: 112 :: 79 :: 42 :: 180 :: 0 :: 89 :: 16 :: 6 :: 29 :: 79 :: 42 :: 180 :: 0 :: 89 :: 16 :: 7 :: 42 :: sxX12_penceFor_145 := aq_24 shX12_penceFor_97
theorem shX12_penceFor_145 : cX12_penceFor.data.toList.drop 145 = 180 :: 0 :: 43 :: 27 :: 46 :: 79 :: 42 :: 180 :: 0 :: 89 :: 16 :: 8 :: 21 :: 4 :: 79 :: 42 :: 180 :: 0 :: 89 :: 16 :: 9 :: 42 :: 180 :: 0 :: 92 :: sxX12_penceFor_170 := aq_24 shX12_penceFor_121
theorem shX12_penceFor_170 : cX12_penceFor.data.toList.drop 170 = 42 :: 180 :: 0 :: 28 :: 27 :: 46 :: 16 :: 7 :: 108 :: 46 :: 79 :: 42 :: 180 :: 0 :: 89 :: 16 :: 10 :: 3 :: 79 :: 16 :: 12 :: 28 :: 104 :: 54 :: 5 :: sxX12_penceFor_195 := aq_25 shX12_penceFor_145
theorem shX12_penceFor_195 : cX12_penceFor.data.toList.drop 195 = 21 :: 5 :: 16 :: 12 :: 28 :: 104 :: 42 :: 180 :: 0 :: 74 :: 28 :: 46 :: 96 :: 162 :: 0 :: 80 :: 42 :: 42 :: 180 :: 0 :: 80 :: 21 :: 5 :: 46 :: sxX12_penceFor_219 := aq_25 shX12_penceFor_170
theorem shX12_penceFor_219 : cX12_penceFor.data.toList.drop 219 = 42 :: 180 :: 0 :: 83 :: 21 :: 5 :: 46 :: 182 :: 1 :: 75 :: 4 :: 159 :: 0 :: 6 :: 167 :: 0 :: 49 :: 42 :: 42 :: 180 :: 0 :: 77 :: 21 :: 5 :: sxX12_penceFor_243 := aq_24 shX12_penceFor_195
theorem shX12_penceFor_243 : cX12_penceFor.data.toList.drop 243 = 46 :: 42 :: 180 :: 0 :: 80 :: 21 :: 5 :: 46 :: 182 :: 1 :: 75 :: 54 :: 6 :: 21 :: 6 :: 156 :: 0 :: 7 :: 3 :: 167 :: 0 :: 19 :: 21 :: 6 :: sxX12_penceFor_267 := aq_24 shX12_penceFor_219
theorem shX12_penceFor_267 : cX12_penceFor.data.toList.drop 267 = 19 :: 1 :: 78 :: 164 :: 0 :: 9 :: 19 :: 1 :: 78 :: 167 :: 0 :: 5 :: 21 :: 6 :: 172 :: 132 :: 5 :: 1 :: 167 :: 255 :: 166 :: 3 :: 172 :: sxX12_penceFor_290 := aq_24 shX12_penceFor_243
noncomputable def sxX12_pence_24 : List UInt8 := []
theorem shX12_pence_0 : cX12_pence.data.toList.drop 0 = 42 :: 27 :: 182 :: 1 :: 79 :: 153 :: 0 :: 17 :: 42 :: 27 :: 42 :: 180 :: 0 :: 25 :: 27 :: 46 :: 182 :: 1 :: 82 :: 167 :: 0 :: 4 :: 2 :: 172 :: sxX12_pence_24 := rfl
noncomputable def sxX12_paid_75 : List UInt8 := []
noncomputable def sxX12_paid_73 : List UInt8 := 29 :: 172 :: sxX12_paid_75
noncomputable def sxX12_paid_49 : List UInt8 := 46 :: 28 :: 163 :: 0 :: 13 :: 42 :: 21 :: 4 :: 27 :: 182 :: 1 :: 82 :: 167 :: 0 :: 4 :: 3 :: 96 :: 62 :: 132 :: 4 :: 1 :: 167 :: 255 :: 208 :: sxX12_paid_73
noncomputable def sxX12_paid_24 : List UInt8 := 42 :: 180 :: 0 :: 208 :: 162 :: 0 :: 45 :: 29 :: 42 :: 180 :: 0 :: 25 :: 21 :: 4 :: 46 :: 27 :: 160 :: 0 :: 24 :: 42 :: 180 :: 0 :: 40 :: 21 :: 4 :: sxX12_paid_49
theorem shX12_paid_0 : cX12_paid.data.toList.drop 0 = 42 :: 27 :: 182 :: 0 :: 218 :: 153 :: 0 :: 10 :: 28 :: 184 :: 1 :: 85 :: 154 :: 0 :: 5 :: 2 :: 172 :: 3 :: 62 :: 3 :: 54 :: 4 :: 21 :: 4 :: sxX12_paid_24 := rfl
theorem shX12_paid_24 : cX12_paid.data.toList.drop 24 = 42 :: 180 :: 0 :: 208 :: 162 :: 0 :: 45 :: 29 :: 42 :: 180 :: 0 :: 25 :: 21 :: 4 :: 46 :: 27 :: 160 :: 0 :: 24 :: 42 :: 180 :: 0 :: 40 :: 21 :: 4 :: sxX12_paid_49 := aq_24 shX12_paid_0
theorem shX12_paid_49 : cX12_paid.data.toList.drop 49 = 46 :: 28 :: 163 :: 0 :: 13 :: 42 :: 21 :: 4 :: 27 :: 182 :: 1 :: 82 :: 167 :: 0 :: 4 :: 3 :: 96 :: 62 :: 132 :: 4 :: 1 :: 167 :: 255 :: 208 :: sxX12_paid_73 := aq_25 shX12_paid_24
theorem shX12_paid_73 : cX12_paid.data.toList.drop 73 = 29 :: 172 :: sxX12_paid_75 := aq_24 shX12_paid_49
noncomputable def sxX12_asIf_65 : List UInt8 := []
noncomputable def sxX12_asIf_51 : List UInt8 := 167 :: 0 :: 4 :: 3 :: 96 :: 62 :: 132 :: 4 :: 1 :: 167 :: 255 :: 219 :: 29 :: 172 :: sxX12_asIf_65
noncomputable def sxX12_asIf_25 : List UInt8 := 42 :: 180 :: 0 :: 208 :: 162 :: 0 :: 34 :: 29 :: 42 :: 180 :: 0 :: 25 :: 21 :: 4 :: 46 :: 27 :: 160 :: 0 :: 13 :: 42 :: 21 :: 4 :: 28 :: 182 :: 1 :: 82 :: sxX12_asIf_51
theorem shX12_asIf_0 : cX12_asIf.data.toList.drop 0 = 42 :: 27 :: 182 :: 0 :: 218 :: 153 :: 0 :: 11 :: 42 :: 28 :: 182 :: 0 :: 218 :: 154 :: 0 :: 5 :: 2 :: 172 :: 3 :: 62 :: 3 :: 54 :: 4 :: 21 :: 4 :: sxX12_asIf_25 := rfl
theorem shX12_asIf_25 : cX12_asIf.data.toList.drop 25 = 42 :: 180 :: 0 :: 208 :: 162 :: 0 :: 34 :: 29 :: 42 :: 180 :: 0 :: 25 :: 21 :: 4 :: 46 :: 27 :: 160 :: 0 :: 13 :: 42 :: 21 :: 4 :: 28 :: 182 :: 1 :: 82 :: sxX12_asIf_51 := aq_25 shX12_asIf_0
theorem shX12_asIf_51 : cX12_asIf.data.toList.drop 51 = 167 :: 0 :: 4 :: 3 :: 96 :: 62 :: 132 :: 4 :: 1 :: 167 :: 255 :: 219 :: 29 :: 172 :: sxX12_asIf_65 := aq_26 shX12_asIf_25
noncomputable def sxX12_missing_19 : List UInt8 := []
theorem shX12_missing_0 : cX12_missing.data.toList.drop 0 = 42 :: 27 :: 182 :: 1 :: 79 :: 153 :: 0 :: 12 :: 42 :: 180 :: 0 :: 43 :: 27 :: 46 :: 167 :: 0 :: 4 :: 2 :: 172 :: sxX12_missing_19 := rfl
noncomputable def sxX12_choose_44 : List UInt8 := []
noncomputable def sxX12_choose_24 : List UInt8 := 27 :: 100 :: 21 :: 4 :: 96 :: 133 :: 105 :: 21 :: 4 :: 133 :: 109 :: 65 :: 132 :: 4 :: 1 :: 167 :: 255 :: 233 :: 32 :: 173 :: sxX12_choose_44
theorem shX12_choose_0 : cX12_choose.data.toList.drop 0 = 27 :: 155 :: 0 :: 8 :: 27 :: 26 :: 164 :: 0 :: 5 :: 9 :: 173 :: 10 :: 65 :: 4 :: 54 :: 4 :: 21 :: 4 :: 27 :: 163 :: 0 :: 23 :: 32 :: 26 :: sxX12_choose_24 := rfl
theorem shX12_choose_24 : cX12_choose.data.toList.drop 24 = 27 :: 100 :: 21 :: 4 :: 96 :: 133 :: 105 :: 21 :: 4 :: 133 :: 109 :: 65 :: 132 :: 4 :: 1 :: 167 :: 255 :: 233 :: 32 :: 173 :: sxX12_choose_44 := aq_24 shX12_choose_0
noncomputable def sxX12_byLot_114 : List UInt8 := []
noncomputable def sxX12_byLot_97 : List UInt8 := 154 :: 0 :: 11 :: 22 :: 5 :: 22 :: 9 :: 109 :: 167 :: 0 :: 8 :: 22 :: 7 :: 22 :: 9 :: 109 :: 173 :: sxX12_byLot_114
noncomputable def sxX12_byLot_73 : List UInt8 := 148 :: 153 :: 0 :: 21 :: 22 :: 9 :: 22 :: 11 :: 113 :: 55 :: 13 :: 22 :: 11 :: 55 :: 9 :: 22 :: 13 :: 55 :: 11 :: 167 :: 255 :: 234 :: 21 :: 4 :: sxX12_byLot_97
noncomputable def sxX12_byLot_49 : List UInt8 := 167 :: 255 :: 222 :: 42 :: 180 :: 0 :: 208 :: 27 :: 184 :: 1 :: 88 :: 55 :: 7 :: 22 :: 5 :: 55 :: 9 :: 22 :: 7 :: 55 :: 11 :: 22 :: 11 :: 9 :: sxX12_byLot_73
noncomputable def sxX12_byLot_24 : List UInt8 := 21 :: 7 :: 184 :: 1 :: 88 :: 42 :: 180 :: 0 :: 208 :: 28 :: 100 :: 27 :: 21 :: 7 :: 100 :: 184 :: 1 :: 88 :: 105 :: 97 :: 55 :: 5 :: 132 :: 7 :: 1 :: sxX12_byLot_49
theorem shX12_byLot_0 : cX12_byLot.data.toList.drop 0 = 21 :: 4 :: 5 :: 160 :: 0 :: 6 :: 29 :: 133 :: 173 :: 9 :: 55 :: 5 :: 29 :: 54 :: 7 :: 21 :: 7 :: 28 :: 163 :: 0 :: 34 :: 22 :: 5 :: 28 :: sxX12_byLot_24 := rfl
theorem shX12_byLot_24 : cX12_byLot.data.toList.drop 24 = 21 :: 7 :: 184 :: 1 :: 88 :: 42 :: 180 :: 0 :: 208 :: 28 :: 100 :: 27 :: 21 :: 7 :: 100 :: 184 :: 1 :: 88 :: 105 :: 97 :: 55 :: 5 :: 132 :: 7 :: 1 :: sxX12_byLot_49 := aq_24 shX12_byLot_0
theorem shX12_byLot_49 : cX12_byLot.data.toList.drop 49 = 167 :: 255 :: 222 :: 42 :: 180 :: 0 :: 208 :: 27 :: 184 :: 1 :: 88 :: 55 :: 7 :: 22 :: 5 :: 55 :: 9 :: 22 :: 7 :: 55 :: 11 :: 22 :: 11 :: 9 :: sxX12_byLot_73 := aq_25 shX12_byLot_24
theorem shX12_byLot_73 : cX12_byLot.data.toList.drop 73 = 148 :: 153 :: 0 :: 21 :: 22 :: 9 :: 22 :: 11 :: 113 :: 55 :: 13 :: 22 :: 11 :: 55 :: 9 :: 22 :: 13 :: 55 :: 11 :: 167 :: 255 :: 234 :: 21 :: 4 :: sxX12_byLot_97 := aq_24 shX12_byLot_49
theorem shX12_byLot_97 : cX12_byLot.data.toList.drop 97 = 154 :: 0 :: 11 :: 22 :: 5 :: 22 :: 9 :: 109 :: 167 :: 0 :: 8 :: 22 :: 7 :: 22 :: 9 :: 109 :: 173 :: sxX12_byLot_114 := aq_24 shX12_byLot_73
noncomputable def sxX12_lacking_37 : List UInt8 := []
noncomputable def sxX12_lacking_26 : List UInt8 := 3 :: 96 :: 60 :: 132 :: 2 :: 1 :: 167 :: 255 :: 228 :: 27 :: 172 :: sxX12_lacking_37
theorem shX12_lacking_0 : cX12_lacking.data.toList.drop 0 = 3 :: 60 :: 3 :: 61 :: 28 :: 42 :: 180 :: 0 :: 208 :: 162 :: 0 :: 26 :: 27 :: 42 :: 180 :: 0 :: 43 :: 28 :: 46 :: 158 :: 0 :: 7 :: 4 :: 167 :: 0 :: 4 :: sxX12_lacking_26 := rfl
theorem shX12_lacking_26 : cX12_lacking.data.toList.drop 26 = 3 :: 96 :: 60 :: 132 :: 2 :: 1 :: 167 :: 255 :: 228 :: 27 :: 172 :: sxX12_lacking_37 := aq_26 shX12_lacking_0
noncomputable def sxX12_beyond_100 : List UInt8 := []
noncomputable def sxX12_beyond_99 : List UInt8 := 173 :: sxX12_beyond_100
noncomputable def sxX12_beyond_73 : List UInt8 := 4 :: 167 :: 0 :: 4 :: 3 :: 96 :: 54 :: 4 :: 132 :: 5 :: 1 :: 167 :: 255 :: 203 :: 42 :: 42 :: 182 :: 1 :: 94 :: 29 :: 21 :: 4 :: 28 :: 182 :: 1 :: 97 :: sxX12_beyond_99
noncomputable def sxX12_beyond_49 : List UInt8 := 112 :: 27 :: 159 :: 0 :: 6 :: 167 :: 0 :: 27 :: 29 :: 4 :: 96 :: 62 :: 21 :: 4 :: 42 :: 180 :: 0 :: 43 :: 21 :: 5 :: 46 :: 158 :: 0 :: 7 :: sxX12_beyond_73
noncomputable def sxX12_beyond_24 : List UInt8 := 62 :: 3 :: 54 :: 4 :: 3 :: 54 :: 5 :: 21 :: 5 :: 42 :: 180 :: 0 :: 208 :: 162 :: 0 :: 50 :: 42 :: 180 :: 0 :: 28 :: 21 :: 5 :: 46 :: 16 :: 7 :: sxX12_beyond_49
theorem shX12_beyond_0 : cX12_beyond.data.toList.drop 0 = 27 :: 3 :: 16 :: 6 :: 184 :: 0 :: 214 :: 153 :: 0 :: 12 :: 28 :: 3 :: 5 :: 184 :: 0 :: 214 :: 154 :: 0 :: 7 :: 20 :: 1 :: 92 :: 173 :: 3 :: sxX12_beyond_24 := rfl
theorem shX12_beyond_24 : cX12_beyond.data.toList.drop 24 = 62 :: 3 :: 54 :: 4 :: 3 :: 54 :: 5 :: 21 :: 5 :: 42 :: 180 :: 0 :: 208 :: 162 :: 0 :: 50 :: 42 :: 180 :: 0 :: 28 :: 21 :: 5 :: 46 :: 16 :: 7 :: sxX12_beyond_49 := aq_24 shX12_beyond_0
theorem shX12_beyond_49 : cX12_beyond.data.toList.drop 49 = 112 :: 27 :: 159 :: 0 :: 6 :: 167 :: 0 :: 27 :: 29 :: 4 :: 96 :: 62 :: 21 :: 4 :: 42 :: 180 :: 0 :: 43 :: 21 :: 5 :: 46 :: 158 :: 0 :: 7 :: sxX12_beyond_73 := aq_25 shX12_beyond_24
theorem shX12_beyond_73 : cX12_beyond.data.toList.drop 73 = 4 :: 167 :: 0 :: 4 :: 3 :: 96 :: 54 :: 4 :: 132 :: 5 :: 1 :: 167 :: 255 :: 203 :: 42 :: 42 :: 182 :: 1 :: 94 :: 29 :: 21 :: 4 :: 28 :: 182 :: 1 :: 97 :: sxX12_beyond_99 := aq_24 shX12_beyond_49
theorem shX12_beyond_99 : cX12_beyond.data.toList.drop 99 = 173 :: sxX12_beyond_100 := aq_26 shX12_beyond_73
noncomputable def sxX12_street_29 : List UInt8 := []
noncomputable def sxX12_street_24 : List UInt8 := 27 :: 28 :: 79 :: 4 :: 172 :: sxX12_street_29
theorem shX12_street_0 : cX12_street.data.toList.drop 0 = 42 :: 27 :: 182 :: 0 :: 218 :: 153 :: 0 :: 13 :: 28 :: 3 :: 16 :: 9 :: 184 :: 0 :: 214 :: 154 :: 0 :: 5 :: 3 :: 172 :: 42 :: 180 :: 0 :: 95 :: sxX12_street_24 := rfl
theorem shX12_street_24 : cX12_street.data.toList.drop 24 = 27 :: 28 :: 79 :: 4 :: 172 :: sxX12_street_29 := aq_24 shX12_street_0
noncomputable def sxX12_streets_102 : List UInt8 := []
noncomputable def sxX12_streets_97 : List UInt8 := 28 :: 182 :: 1 :: 97 :: 173 :: sxX12_streets_102
noncomputable def sxX12_streets_72 : List UInt8 := 158 :: 0 :: 7 :: 4 :: 167 :: 0 :: 4 :: 3 :: 96 :: 54 :: 4 :: 132 :: 5 :: 1 :: 167 :: 255 :: 201 :: 42 :: 42 :: 182 :: 1 :: 94 :: 29 :: 21 :: 4 :: sxX12_streets_97
noncomputable def sxX12_streets_48 : List UInt8 := 21 :: 5 :: 46 :: 46 :: 27 :: 159 :: 0 :: 6 :: 167 :: 0 :: 27 :: 29 :: 4 :: 96 :: 62 :: 21 :: 4 :: 42 :: 180 :: 0 :: 43 :: 21 :: 5 :: 46 :: sxX12_streets_72
noncomputable def sxX12_streets_24 : List UInt8 := 62 :: 3 :: 54 :: 4 :: 3 :: 54 :: 5 :: 21 :: 5 :: 42 :: 180 :: 0 :: 208 :: 162 :: 0 :: 52 :: 42 :: 180 :: 0 :: 95 :: 42 :: 180 :: 0 :: 25 :: sxX12_streets_48
theorem shX12_streets_0 : cX12_streets.data.toList.drop 0 = 27 :: 3 :: 16 :: 9 :: 184 :: 0 :: 214 :: 153 :: 0 :: 12 :: 28 :: 3 :: 5 :: 184 :: 0 :: 214 :: 154 :: 0 :: 7 :: 20 :: 1 :: 92 :: 173 :: 3 :: sxX12_streets_24 := rfl
theorem shX12_streets_24 : cX12_streets.data.toList.drop 24 = 62 :: 3 :: 54 :: 4 :: 3 :: 54 :: 5 :: 21 :: 5 :: 42 :: 180 :: 0 :: 208 :: 162 :: 0 :: 52 :: 42 :: 180 :: 0 :: 95 :: 42 :: 180 :: 0 :: 25 :: sxX12_streets_48 := aq_24 shX12_streets_0
theorem shX12_streets_48 : cX12_streets.data.toList.drop 48 = 21 :: 5 :: 46 :: 46 :: 27 :: 159 :: 0 :: 6 :: 167 :: 0 :: 27 :: 29 :: 4 :: 96 :: 62 :: 21 :: 4 :: 42 :: 180 :: 0 :: 43 :: 21 :: 5 :: 46 :: sxX12_streets_72 := aq_24 shX12_streets_24
theorem shX12_streets_72 : cX12_streets.data.toList.drop 72 = 158 :: 0 :: 7 :: 4 :: 167 :: 0 :: 4 :: 3 :: 96 :: 54 :: 4 :: 132 :: 5 :: 1 :: 167 :: 255 :: 201 :: 42 :: 42 :: 182 :: 1 :: 94 :: 29 :: 21 :: 4 :: sxX12_streets_97 := aq_24 shX12_streets_48
theorem shX12_streets_97 : cX12_streets.data.toList.drop 97 = 28 :: 182 :: 1 :: 97 :: 173 :: sxX12_streets_102 := aq_25 shX12_streets_72
noncomputable def sxX12_cheat_151 : List UInt8 := []
noncomputable def sxX12_cheat_150 : List UInt8 := 173 :: sxX12_cheat_151
noncomputable def sxX12_cheat_125 : List UInt8 := 4 :: 167 :: 0 :: 4 :: 3 :: 96 :: 54 :: 6 :: 132 :: 7 :: 1 :: 167 :: 255 :: 164 :: 42 :: 21 :: 4 :: 21 :: 5 :: 21 :: 6 :: 29 :: 182 :: 1 :: 97 :: sxX12_cheat_150
noncomputable def sxX12_cheat_99 : List UInt8 := 4 :: 167 :: 0 :: 4 :: 3 :: 96 :: 54 :: 5 :: 21 :: 6 :: 21 :: 8 :: 153 :: 0 :: 18 :: 42 :: 180 :: 0 :: 25 :: 21 :: 7 :: 46 :: 27 :: 160 :: 0 :: 7 :: sxX12_cheat_125
noncomputable def sxX12_cheat_75 : List UInt8 := 153 :: 0 :: 7 :: 4 :: 167 :: 0 :: 4 :: 3 :: 96 :: 54 :: 4 :: 21 :: 5 :: 42 :: 180 :: 0 :: 25 :: 21 :: 7 :: 46 :: 27 :: 160 :: 0 :: 7 :: sxX12_cheat_99
noncomputable def sxX12_cheat_50 : List UInt8 := 162 :: 0 :: 89 :: 42 :: 180 :: 0 :: 34 :: 21 :: 7 :: 46 :: 28 :: 161 :: 0 :: 7 :: 4 :: 167 :: 0 :: 4 :: 3 :: 54 :: 8 :: 21 :: 4 :: 21 :: 8 :: sxX12_cheat_75
noncomputable def sxX12_cheat_25 : List UInt8 := 154 :: 0 :: 7 :: 20 :: 1 :: 92 :: 173 :: 3 :: 54 :: 4 :: 3 :: 54 :: 5 :: 3 :: 54 :: 6 :: 3 :: 54 :: 7 :: 21 :: 7 :: 42 :: 180 :: 0 :: 208 :: sxX12_cheat_50
theorem shX12_cheat_0 : cX12_cheat.data.toList.drop 0 = 42 :: 27 :: 182 :: 0 :: 218 :: 153 :: 0 :: 23 :: 28 :: 3 :: 17 :: 3 :: 232 :: 184 :: 0 :: 214 :: 153 :: 0 :: 12 :: 29 :: 3 :: 5 :: 184 :: 0 :: 214 :: sxX12_cheat_25 := rfl
theorem shX12_cheat_25 : cX12_cheat.data.toList.drop 25 = 154 :: 0 :: 7 :: 20 :: 1 :: 92 :: 173 :: 3 :: 54 :: 4 :: 3 :: 54 :: 5 :: 3 :: 54 :: 6 :: 3 :: 54 :: 7 :: 21 :: 7 :: 42 :: 180 :: 0 :: 208 :: sxX12_cheat_50 := aq_25 shX12_cheat_0
theorem shX12_cheat_50 : cX12_cheat.data.toList.drop 50 = 162 :: 0 :: 89 :: 42 :: 180 :: 0 :: 34 :: 21 :: 7 :: 46 :: 28 :: 161 :: 0 :: 7 :: 4 :: 167 :: 0 :: 4 :: 3 :: 54 :: 8 :: 21 :: 4 :: 21 :: 8 :: sxX12_cheat_75 := aq_25 shX12_cheat_25
theorem shX12_cheat_75 : cX12_cheat.data.toList.drop 75 = 153 :: 0 :: 7 :: 4 :: 167 :: 0 :: 4 :: 3 :: 96 :: 54 :: 4 :: 21 :: 5 :: 42 :: 180 :: 0 :: 25 :: 21 :: 7 :: 46 :: 27 :: 160 :: 0 :: 7 :: sxX12_cheat_99 := aq_25 shX12_cheat_50
theorem shX12_cheat_99 : cX12_cheat.data.toList.drop 99 = 4 :: 167 :: 0 :: 4 :: 3 :: 96 :: 54 :: 5 :: 21 :: 6 :: 21 :: 8 :: 153 :: 0 :: 18 :: 42 :: 180 :: 0 :: 25 :: 21 :: 7 :: 46 :: 27 :: 160 :: 0 :: 7 :: sxX12_cheat_125 := aq_24 shX12_cheat_75
theorem shX12_cheat_125 : cX12_cheat.data.toList.drop 125 = 4 :: 167 :: 0 :: 4 :: 3 :: 96 :: 54 :: 6 :: 132 :: 7 :: 1 :: 167 :: 255 :: 164 :: 42 :: 21 :: 4 :: 21 :: 5 :: 21 :: 6 :: 29 :: 182 :: 1 :: 97 :: sxX12_cheat_150 := aq_26 shX12_cheat_99
theorem shX12_cheat_150 : cX12_cheat.data.toList.drop 150 = 173 :: sxX12_cheat_151 := aq_25 shX12_cheat_125
theorem dX12_cheat_104 : decode cX12_cheat 104 = .ok (.iadd, 1) := oc_96 104 (aq_5 shX12_cheat_99)
theorem dX12_cheat_105 : decode cX12_cheat 105 = .ok (.istore 5, 2) := oc_54 105 (aq_6 shX12_cheat_99) ub_5
theorem dX12_cheat_107 : decode cX12_cheat 107 = .ok (.iload 6, 2) := oc_21 107 (aq_8 shX12_cheat_99) ub_6
theorem dX12_cheat_109 : decode cX12_cheat 109 = .ok (.iload 8, 2) := oc_21 109 (aq_10 shX12_cheat_99) ub_8
theorem dX12_cheat_111 : decode cX12_cheat 111 = .ok (.ifCond .eq 18, 3) := oc_153 111 (aq_12 shX12_cheat_99) sgw_0_18
theorem dX12_cheat_129 : decode cX12_cheat 129 = .ok (.iconst 0, 1) := oc_3 129 (aq_4 shX12_cheat_125)
theorem dX12_cheat_130 : decode cX12_cheat 130 = .ok (.iadd, 1) := oc_96 130 (aq_5 shX12_cheat_125)
theorem dX12_cheat_131 : decode cX12_cheat 131 = .ok (.istore 6, 2) := oc_54 131 (aq_6 shX12_cheat_125) ub_6
theorem dX12_cheat_133 : decode cX12_cheat 133 = .ok (.iinc 7 1, 3) := oc_132 133 (aq_8 shX12_cheat_125) ub_7 sgb_1
theorem dX12_cheat_136 : decode cX12_cheat 136 = .ok (.goto (-92), 3) := oc_167 136 (aq_11 shX12_cheat_125) sgw_255_164
noncomputable def sxX12_feast_29 : List UInt8 := []
noncomputable def sxX12_feast_24 : List UInt8 := 27 :: 28 :: 79 :: 4 :: 172 :: sxX12_feast_29
theorem shX12_feast_0 : cX12_feast.data.toList.drop 0 = 27 :: 184 :: 1 :: 85 :: 153 :: 0 :: 14 :: 28 :: 3 :: 17 :: 1 :: 44 :: 184 :: 0 :: 214 :: 154 :: 0 :: 5 :: 3 :: 172 :: 42 :: 180 :: 0 :: 98 :: sxX12_feast_24 := rfl
theorem shX12_feast_24 : cX12_feast.data.toList.drop 24 = 27 :: 28 :: 79 :: 4 :: 172 :: sxX12_feast_29 := aq_24 shX12_feast_0
noncomputable def sxX12_feastedOf_80 : List UInt8 := []
noncomputable def sxX12_feastedOf_74 : List UInt8 := 180 :: 0 :: 19 :: 28 :: 46 :: 172 :: sxX12_feastedOf_80
noncomputable def sxX12_feastedOf_50 : List UInt8 := 108 :: 96 :: 62 :: 132 :: 4 :: 1 :: 167 :: 255 :: 219 :: 29 :: 42 :: 180 :: 0 :: 19 :: 28 :: 46 :: 162 :: 0 :: 7 :: 29 :: 167 :: 0 :: 9 :: 42 :: sxX12_feastedOf_74
noncomputable def sxX12_feastedOf_25 : List UInt8 := 27 :: 46 :: 163 :: 0 :: 32 :: 29 :: 42 :: 180 :: 0 :: 16 :: 28 :: 46 :: 16 :: 100 :: 42 :: 180 :: 0 :: 98 :: 21 :: 4 :: 46 :: 96 :: 104 :: 16 :: 100 :: sxX12_feastedOf_50
theorem shX12_feastedOf_0 : cX12_feastedOf.data.toList.drop 0 = 42 :: 180 :: 0 :: 25 :: 27 :: 46 :: 61 :: 3 :: 62 :: 42 :: 180 :: 0 :: 49 :: 27 :: 46 :: 4 :: 96 :: 54 :: 4 :: 21 :: 4 :: 42 :: 180 :: 0 :: 28 :: sxX12_feastedOf_25 := rfl
theorem shX12_feastedOf_25 : cX12_feastedOf.data.toList.drop 25 = 27 :: 46 :: 163 :: 0 :: 32 :: 29 :: 42 :: 180 :: 0 :: 16 :: 28 :: 46 :: 16 :: 100 :: 42 :: 180 :: 0 :: 98 :: 21 :: 4 :: 46 :: 96 :: 104 :: 16 :: 100 :: sxX12_feastedOf_50 := aq_25 shX12_feastedOf_0
theorem shX12_feastedOf_50 : cX12_feastedOf.data.toList.drop 50 = 108 :: 96 :: 62 :: 132 :: 4 :: 1 :: 167 :: 255 :: 219 :: 29 :: 42 :: 180 :: 0 :: 19 :: 28 :: 46 :: 162 :: 0 :: 7 :: 29 :: 167 :: 0 :: 9 :: 42 :: sxX12_feastedOf_74 := aq_25 shX12_feastedOf_25
theorem shX12_feastedOf_74 : cX12_feastedOf.data.toList.drop 74 = 180 :: 0 :: 19 :: 28 :: 46 :: 172 :: sxX12_feastedOf_80 := aq_24 shX12_feastedOf_50
noncomputable def sxX12_feasted_60 : List UInt8 := []
noncomputable def sxX12_feasted_48 : List UInt8 := 21 :: 4 :: 158 :: 0 :: 8 :: 21 :: 4 :: 167 :: 0 :: 4 :: 3 :: 172 :: sxX12_feasted_60
noncomputable def sxX12_feasted_24 : List UInt8 := 62 :: 29 :: 42 :: 180 :: 0 :: 31 :: 27 :: 46 :: 100 :: 29 :: 16 :: 10 :: 108 :: 100 :: 54 :: 4 :: 28 :: 154 :: 0 :: 7 :: 29 :: 167 :: 0 :: 14 :: sxX12_feasted_48
theorem shX12_feasted_0 : cX12_feasted.data.toList.drop 0 = 42 :: 27 :: 182 :: 1 :: 79 :: 153 :: 0 :: 12 :: 28 :: 3 :: 4 :: 184 :: 0 :: 214 :: 154 :: 0 :: 5 :: 2 :: 172 :: 42 :: 27 :: 182 :: 1 :: 101 :: sxX12_feasted_24 := rfl
theorem shX12_feasted_24 : cX12_feasted.data.toList.drop 24 = 62 :: 29 :: 42 :: 180 :: 0 :: 31 :: 27 :: 46 :: 100 :: 29 :: 16 :: 10 :: 108 :: 100 :: 54 :: 4 :: 28 :: 154 :: 0 :: 7 :: 29 :: 167 :: 0 :: 14 :: sxX12_feasted_48 := aq_24 shX12_feasted_0
theorem shX12_feasted_48 : cX12_feasted.data.toList.drop 48 = 21 :: 4 :: 158 :: 0 :: 8 :: 21 :: 4 :: 167 :: 0 :: 4 :: 3 :: 172 :: sxX12_feasted_60 := aq_24 shX12_feasted_24
noncomputable def sxX12_apart_30 : List UInt8 := []
noncomputable def sxX12_apart_25 : List UInt8 := 27 :: 29 :: 100 :: 96 :: 172 :: sxX12_apart_30
theorem shX12_apart_0 : cX12_apart.data.toList.drop 0 = 26 :: 28 :: 162 :: 0 :: 9 :: 28 :: 26 :: 100 :: 167 :: 0 :: 6 :: 26 :: 28 :: 100 :: 27 :: 29 :: 162 :: 0 :: 9 :: 29 :: 27 :: 100 :: 167 :: 0 :: 6 :: sxX12_apart_25 := rfl
theorem shX12_apart_25 : cX12_apart.data.toList.drop 25 = 27 :: 29 :: 100 :: 96 :: 172 :: sxX12_apart_30 := aq_25 shX12_apart_0
theorem dX12_apart_28 : decode cX12_apart 28 = .ok (.iadd, 1) := oc_96 28 (aq_3 shX12_apart_25)
theorem dX12_apart_29 : decode cX12_apart 29 = .ok (.ireturn, 1) := oc_172 29 (aq_4 shX12_apart_25)
noncomputable def sxX12_toDepot_14 : List UInt8 := []
theorem shX12_toDepot_0 : cX12_toDepot.data.toList.drop 0 = 42 :: 180 :: 0 :: 7 :: 27 :: 46 :: 42 :: 180 :: 0 :: 13 :: 27 :: 46 :: 96 :: 172 :: sxX12_toDepot_14 := rfl
noncomputable def sxX12_way_28 : List UInt8 := []
noncomputable def sxX12_way_24 : List UInt8 := 184 :: 1 :: 104 :: 172 :: sxX12_way_28
theorem shX12_way_0 : cX12_way.data.toList.drop 0 = 42 :: 180 :: 0 :: 7 :: 27 :: 46 :: 42 :: 180 :: 0 :: 13 :: 27 :: 46 :: 42 :: 180 :: 0 :: 7 :: 28 :: 46 :: 42 :: 180 :: 0 :: 13 :: 28 :: 46 :: sxX12_way_24 := rfl
theorem shX12_way_24 : cX12_way.data.toList.drop 24 = 184 :: 1 :: 104 :: 172 :: sxX12_way_28 := aq_24 shX12_way_0
noncomputable def sxX12_goes_159 : List UInt8 := []
noncomputable def sxX12_goes_149 : List UInt8 := 167 :: 255 :: 125 :: 132 :: 2 :: 1 :: 167 :: 255 :: 112 :: 177 :: sxX12_goes_159
noncomputable def sxX12_goes_125 : List UInt8 := 54 :: 4 :: 132 :: 5 :: 1 :: 167 :: 255 :: 177 :: 42 :: 180 :: 0 :: 104 :: 16 :: 8 :: 28 :: 104 :: 29 :: 96 :: 21 :: 4 :: 79 :: 132 :: 3 :: 1 :: sxX12_goes_149
noncomputable def sxX12_goes_101 : List UInt8 := 130 :: 126 :: 104 :: 21 :: 5 :: 96 :: 46 :: 96 :: 54 :: 6 :: 21 :: 6 :: 21 :: 4 :: 162 :: 0 :: 8 :: 21 :: 6 :: 167 :: 0 :: 5 :: 21 :: 4 :: sxX12_goes_125
noncomputable def sxX12_goes_77 : List UInt8 := 29 :: 46 :: 42 :: 180 :: 0 :: 101 :: 21 :: 5 :: 46 :: 182 :: 1 :: 115 :: 42 :: 180 :: 0 :: 104 :: 16 :: 8 :: 28 :: 4 :: 21 :: 5 :: 120 :: 2 :: sxX12_goes_101
noncomputable def sxX12_goes_51 : List UInt8 := 21 :: 5 :: 42 :: 180 :: 1 :: 108 :: 162 :: 0 :: 76 :: 28 :: 21 :: 5 :: 122 :: 4 :: 126 :: 154 :: 0 :: 6 :: 167 :: 0 :: 58 :: 42 :: 42 :: 180 :: 0 :: 101 :: sxX12_goes_77
noncomputable def sxX12_goes_26 : List UInt8 := 28 :: 154 :: 0 :: 16 :: 42 :: 42 :: 180 :: 0 :: 101 :: 29 :: 46 :: 182 :: 1 :: 111 :: 167 :: 0 :: 6 :: 19 :: 1 :: 114 :: 54 :: 4 :: 3 :: 54 :: 5 :: sxX12_goes_51
theorem shX12_goes_0 : cX12_goes.data.toList.drop 0 = 4 :: 42 :: 180 :: 1 :: 108 :: 120 :: 4 :: 100 :: 60 :: 3 :: 61 :: 28 :: 27 :: 163 :: 0 :: 145 :: 3 :: 62 :: 29 :: 42 :: 180 :: 1 :: 108 :: 162 :: 0 :: 129 :: sxX12_goes_26 := rfl
theorem shX12_goes_26 : cX12_goes.data.toList.drop 26 = 28 :: 154 :: 0 :: 16 :: 42 :: 42 :: 180 :: 0 :: 101 :: 29 :: 46 :: 182 :: 1 :: 111 :: 167 :: 0 :: 6 :: 19 :: 1 :: 114 :: 54 :: 4 :: 3 :: 54 :: 5 :: sxX12_goes_51 := aq_26 shX12_goes_0
theorem shX12_goes_51 : cX12_goes.data.toList.drop 51 = 21 :: 5 :: 42 :: 180 :: 1 :: 108 :: 162 :: 0 :: 76 :: 28 :: 21 :: 5 :: 122 :: 4 :: 126 :: 154 :: 0 :: 6 :: 167 :: 0 :: 58 :: 42 :: 42 :: 180 :: 0 :: 101 :: sxX12_goes_77 := aq_25 shX12_goes_26
theorem shX12_goes_77 : cX12_goes.data.toList.drop 77 = 29 :: 46 :: 42 :: 180 :: 0 :: 101 :: 21 :: 5 :: 46 :: 182 :: 1 :: 115 :: 42 :: 180 :: 0 :: 104 :: 16 :: 8 :: 28 :: 4 :: 21 :: 5 :: 120 :: 2 :: sxX12_goes_101 := aq_26 shX12_goes_51
theorem shX12_goes_101 : cX12_goes.data.toList.drop 101 = 130 :: 126 :: 104 :: 21 :: 5 :: 96 :: 46 :: 96 :: 54 :: 6 :: 21 :: 6 :: 21 :: 4 :: 162 :: 0 :: 8 :: 21 :: 6 :: 167 :: 0 :: 5 :: 21 :: 4 :: sxX12_goes_125 := aq_24 shX12_goes_77
theorem shX12_goes_125 : cX12_goes.data.toList.drop 125 = 54 :: 4 :: 132 :: 5 :: 1 :: 167 :: 255 :: 177 :: 42 :: 180 :: 0 :: 104 :: 16 :: 8 :: 28 :: 104 :: 29 :: 96 :: 21 :: 4 :: 79 :: 132 :: 3 :: 1 :: sxX12_goes_149 := aq_24 shX12_goes_101
theorem shX12_goes_149 : cX12_goes.data.toList.drop 149 = 167 :: 255 :: 125 :: 132 :: 2 :: 1 :: 167 :: 255 :: 112 :: 177 :: sxX12_goes_159 := aq_24 shX12_goes_125
theorem dX12_goes_66 : decode cX12_goes 66 = .ok (.ifCond .ne 6, 3) := oc_154 66 (aq_15 shX12_goes_51) sgw_0_6
theorem dX12_goes_125 : decode cX12_goes 125 = .ok (.istore 4, 2) := oc_54 125 shX12_goes_125 ub_4
theorem dX12_goes_127 : decode cX12_goes 127 = .ok (.iinc 5 1, 3) := oc_132 127 (aq_2 shX12_goes_125) ub_5 sgb_1
theorem dX12_goes_130 : decode cX12_goes 130 = .ok (.goto (-79), 3) := oc_167 130 (aq_5 shX12_goes_125) sgw_255_177
noncomputable def sxX12_nextOf_132 : List UInt8 := []
noncomputable def sxX12_nextOf_125 : List UInt8 := 21 :: 4 :: 181 :: 1 :: 118 :: 29 :: 172 :: sxX12_nextOf_132
noncomputable def sxX12_nextOf_99 : List UInt8 := 167 :: 0 :: 10 :: 21 :: 5 :: 62 :: 21 :: 6 :: 54 :: 4 :: 132 :: 5 :: 1 :: 167 :: 255 :: 152 :: 42 :: 29 :: 2 :: 160 :: 0 :: 7 :: 3 :: 167 :: 0 :: 5 :: sxX12_nextOf_125
noncomputable def sxX12_nextOf_75 : List UInt8 := 120 :: 2 :: 130 :: 126 :: 104 :: 21 :: 5 :: 96 :: 46 :: 96 :: 54 :: 6 :: 29 :: 2 :: 159 :: 0 :: 13 :: 21 :: 6 :: 21 :: 4 :: 161 :: 0 :: 6 :: sxX12_nextOf_99
noncomputable def sxX12_nextOf_50 : List UInt8 := 180 :: 0 :: 101 :: 27 :: 46 :: 42 :: 180 :: 0 :: 101 :: 21 :: 5 :: 46 :: 182 :: 1 :: 115 :: 42 :: 180 :: 0 :: 104 :: 16 :: 8 :: 28 :: 4 :: 21 :: 5 :: sxX12_nextOf_75
noncomputable def sxX12_nextOf_26 : List UInt8 := 167 :: 0 :: 83 :: 27 :: 2 :: 160 :: 0 :: 17 :: 42 :: 42 :: 180 :: 0 :: 101 :: 21 :: 5 :: 46 :: 182 :: 1 :: 111 :: 167 :: 0 :: 20 :: 42 :: 42 :: sxX12_nextOf_50
theorem shX12_nextOf_0 : cX12_nextOf.data.toList.drop 0 = 2 :: 62 :: 3 :: 54 :: 4 :: 3 :: 54 :: 5 :: 21 :: 5 :: 42 :: 180 :: 1 :: 108 :: 162 :: 0 :: 101 :: 28 :: 21 :: 5 :: 122 :: 4 :: 126 :: 154 :: 0 :: 6 :: sxX12_nextOf_26 := rfl
theorem shX12_nextOf_26 : cX12_nextOf.data.toList.drop 26 = 167 :: 0 :: 83 :: 27 :: 2 :: 160 :: 0 :: 17 :: 42 :: 42 :: 180 :: 0 :: 101 :: 21 :: 5 :: 46 :: 182 :: 1 :: 111 :: 167 :: 0 :: 20 :: 42 :: 42 :: sxX12_nextOf_50 := aq_26 shX12_nextOf_0
theorem shX12_nextOf_50 : cX12_nextOf.data.toList.drop 50 = 180 :: 0 :: 101 :: 27 :: 46 :: 42 :: 180 :: 0 :: 101 :: 21 :: 5 :: 46 :: 182 :: 1 :: 115 :: 42 :: 180 :: 0 :: 104 :: 16 :: 8 :: 28 :: 4 :: 21 :: 5 :: sxX12_nextOf_75 := aq_24 shX12_nextOf_26
theorem shX12_nextOf_75 : cX12_nextOf.data.toList.drop 75 = 120 :: 2 :: 130 :: 126 :: 104 :: 21 :: 5 :: 96 :: 46 :: 96 :: 54 :: 6 :: 29 :: 2 :: 159 :: 0 :: 13 :: 21 :: 6 :: 21 :: 4 :: 161 :: 0 :: 6 :: sxX12_nextOf_99 := aq_25 shX12_nextOf_50
theorem shX12_nextOf_99 : cX12_nextOf.data.toList.drop 99 = 167 :: 0 :: 10 :: 21 :: 5 :: 62 :: 21 :: 6 :: 54 :: 4 :: 132 :: 5 :: 1 :: 167 :: 255 :: 152 :: 42 :: 29 :: 2 :: 160 :: 0 :: 7 :: 3 :: 167 :: 0 :: 5 :: sxX12_nextOf_125 := aq_24 shX12_nextOf_75
theorem shX12_nextOf_125 : cX12_nextOf.data.toList.drop 125 = 21 :: 4 :: 181 :: 1 :: 118 :: 29 :: 172 :: sxX12_nextOf_132 := aq_26 shX12_nextOf_99
theorem dX12_nextOf_23 : decode cX12_nextOf 23 = .ok (.ifCond .ne 6, 3) := oc_154 23 (aq_23 shX12_nextOf_0) sgw_0_6
theorem dX12_nextOf_102 : decode cX12_nextOf 102 = .ok (.iload 5, 2) := oc_21 102 (aq_3 shX12_nextOf_99) ub_5
theorem dX12_nextOf_104 : decode cX12_nextOf 104 = .ok (.istore_n 3, 1) := oc_62 104 (aq_5 shX12_nextOf_99)
theorem dX12_nextOf_105 : decode cX12_nextOf 105 = .ok (.iload 6, 2) := oc_21 105 (aq_6 shX12_nextOf_99) ub_6
theorem dX12_nextOf_107 : decode cX12_nextOf 107 = .ok (.istore 4, 2) := oc_54 107 (aq_8 shX12_nextOf_99) ub_4
theorem dX12_nextOf_109 : decode cX12_nextOf 109 = .ok (.iinc 5 1, 3) := oc_132 109 (aq_10 shX12_nextOf_99) ub_5 sgb_1
theorem dX12_nextOf_112 : decode cX12_nextOf 112 = .ok (.goto (-104), 3) := oc_167 112 (aq_13 shX12_nextOf_99) sgw_255_152
theorem dX12_nextOf_127 : decode cX12_nextOf 127 = .ok (.putfield 374, 3) := oc_181 127 (aq_2 shX12_nextOf_125) uw_1_118
theorem dX12_nextOf_130 : decode cX12_nextOf 130 = .ok (.iload_n 3, 1) := oc_29 130 (aq_5 shX12_nextOf_125)
theorem dX12_nextOf_131 : decode cX12_nextOf 131 = .ok (.ireturn, 1) := oc_172 131 (aq_6 shX12_nextOf_125)
noncomputable def sxX12_lays_87 : List UInt8 := []
noncomputable def sxX12_lays_72 : List UInt8 := 180 :: 1 :: 108 :: 29 :: 164 :: 0 :: 5 :: 3 :: 172 :: 42 :: 182 :: 1 :: 121 :: 4 :: 172 :: sxX12_lays_87
noncomputable def sxX12_lays_48 : List UInt8 := 42 :: 180 :: 1 :: 108 :: 21 :: 4 :: 79 :: 42 :: 42 :: 180 :: 1 :: 108 :: 4 :: 96 :: 181 :: 1 :: 108 :: 132 :: 4 :: 1 :: 167 :: 255 :: 196 :: 42 :: sxX12_lays_72
noncomputable def sxX12_lays_24 : List UInt8 := 27 :: 164 :: 0 :: 5 :: 3 :: 172 :: 42 :: 21 :: 4 :: 27 :: 182 :: 0 :: 222 :: 28 :: 162 :: 0 :: 6 :: 167 :: 0 :: 24 :: 42 :: 180 :: 0 :: 101 :: sxX12_lays_48
theorem shX12_lays_0 : cX12_lays.data.toList.drop 0 = 42 :: 3 :: 181 :: 1 :: 108 :: 3 :: 54 :: 4 :: 21 :: 4 :: 42 :: 180 :: 0 :: 204 :: 162 :: 0 :: 57 :: 42 :: 180 :: 0 :: 22 :: 21 :: 4 :: 46 :: sxX12_lays_24 := rfl
theorem shX12_lays_24 : cX12_lays.data.toList.drop 24 = 27 :: 164 :: 0 :: 5 :: 3 :: 172 :: 42 :: 21 :: 4 :: 27 :: 182 :: 0 :: 222 :: 28 :: 162 :: 0 :: 6 :: 167 :: 0 :: 24 :: 42 :: 180 :: 0 :: 101 :: sxX12_lays_48 := aq_24 shX12_lays_0
theorem shX12_lays_48 : cX12_lays.data.toList.drop 48 = 42 :: 180 :: 1 :: 108 :: 21 :: 4 :: 79 :: 42 :: 42 :: 180 :: 1 :: 108 :: 4 :: 96 :: 181 :: 1 :: 108 :: 132 :: 4 :: 1 :: 167 :: 255 :: 196 :: 42 :: sxX12_lays_72 := aq_24 shX12_lays_24
theorem shX12_lays_72 : cX12_lays.data.toList.drop 72 = 180 :: 1 :: 108 :: 29 :: 164 :: 0 :: 5 :: 3 :: 172 :: 42 :: 182 :: 1 :: 121 :: 4 :: 172 :: sxX12_lays_87 := aq_24 shX12_lays_48
noncomputable def sxX12_round_124 : List UInt8 := []
noncomputable def sxX12_round_120 : List UInt8 := 21 :: 6 :: 46 :: 172 :: sxX12_round_124
noncomputable def sxX12_round_96 : List UInt8 := 130 :: 126 :: 54 :: 5 :: 42 :: 21 :: 6 :: 21 :: 5 :: 182 :: 1 :: 127 :: 54 :: 6 :: 132 :: 7 :: 1 :: 167 :: 255 :: 226 :: 42 :: 180 :: 0 :: 101 :: sxX12_round_120
noncomputable def sxX12_round_72 : List UInt8 := 29 :: 21 :: 4 :: 161 :: 0 :: 5 :: 2 :: 172 :: 3 :: 54 :: 7 :: 21 :: 7 :: 29 :: 162 :: 0 :: 30 :: 21 :: 5 :: 4 :: 21 :: 6 :: 120 :: 2 :: sxX12_round_96
noncomputable def sxX12_round_48 : List UInt8 := 120 :: 4 :: 100 :: 54 :: 5 :: 42 :: 2 :: 21 :: 5 :: 182 :: 1 :: 127 :: 54 :: 6 :: 29 :: 2 :: 160 :: 0 :: 8 :: 42 :: 180 :: 1 :: 118 :: 172 :: sxX12_round_72
noncomputable def sxX12_round_24 : List UInt8 := 172 :: 42 :: 27 :: 28 :: 16 :: 8 :: 182 :: 1 :: 124 :: 154 :: 0 :: 6 :: 16 :: 254 :: 172 :: 42 :: 180 :: 1 :: 108 :: 54 :: 4 :: 4 :: 21 :: 4 :: sxX12_round_48
theorem shX12_round_0 : cX12_round.data.toList.drop 0 = 27 :: 184 :: 1 :: 85 :: 153 :: 0 :: 19 :: 28 :: 4 :: 17 :: 1 :: 144 :: 184 :: 0 :: 214 :: 153 :: 0 :: 8 :: 29 :: 2 :: 162 :: 0 :: 5 :: 2 :: sxX12_round_24 := rfl
theorem shX12_round_24 : cX12_round.data.toList.drop 24 = 172 :: 42 :: 27 :: 28 :: 16 :: 8 :: 182 :: 1 :: 124 :: 154 :: 0 :: 6 :: 16 :: 254 :: 172 :: 42 :: 180 :: 1 :: 108 :: 54 :: 4 :: 4 :: 21 :: 4 :: sxX12_round_48 := aq_24 shX12_round_0
theorem shX12_round_48 : cX12_round.data.toList.drop 48 = 120 :: 4 :: 100 :: 54 :: 5 :: 42 :: 2 :: 21 :: 5 :: 182 :: 1 :: 127 :: 54 :: 6 :: 29 :: 2 :: 160 :: 0 :: 8 :: 42 :: 180 :: 1 :: 118 :: 172 :: sxX12_round_72 := aq_24 shX12_round_24
theorem shX12_round_72 : cX12_round.data.toList.drop 72 = 29 :: 21 :: 4 :: 161 :: 0 :: 5 :: 2 :: 172 :: 3 :: 54 :: 7 :: 21 :: 7 :: 29 :: 162 :: 0 :: 30 :: 21 :: 5 :: 4 :: 21 :: 6 :: 120 :: 2 :: sxX12_round_96 := aq_24 shX12_round_48
theorem shX12_round_96 : cX12_round.data.toList.drop 96 = 130 :: 126 :: 54 :: 5 :: 42 :: 21 :: 6 :: 21 :: 5 :: 182 :: 1 :: 127 :: 54 :: 6 :: 132 :: 7 :: 1 :: 167 :: 255 :: 226 :: 42 :: 180 :: 0 :: 101 :: sxX12_round_120 := aq_24 shX12_round_72
theorem shX12_round_120 : cX12_round.data.toList.drop 120 = 21 :: 6 :: 46 :: 172 :: sxX12_round_124 := aq_24 shX12_round_96
