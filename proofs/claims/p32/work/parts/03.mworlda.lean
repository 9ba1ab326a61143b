noncomputable def sxX12_in_16 : List UInt8 := []
noncomputable def sxX12_in_15 : List UInt8 := 172 :: sxX12_in_16
noncomputable def sxX12_in_14 : List UInt8 := 3 :: sxX12_in_15
noncomputable def sxX12_in_11 : List UInt8 := 167 :: 0 :: 4 :: sxX12_in_14
noncomputable def sxX12_in_10 : List UInt8 := 4 :: sxX12_in_11
noncomputable def sxX12_in_7 : List UInt8 := 163 :: 0 :: 7 :: sxX12_in_10
noncomputable def sxX12_in_6 : List UInt8 := 28 :: sxX12_in_7
noncomputable def sxX12_in_5 : List UInt8 := 26 :: sxX12_in_6
noncomputable def sxX12_in_2 : List UInt8 := 161 :: 0 :: 12 :: sxX12_in_5
noncomputable def sxX12_in_1 : List UInt8 := 27 :: sxX12_in_2
noncomputable def sxX12_in_0 : List UInt8 := 26 :: sxX12_in_1
theorem shX12_in_0 : cX12_in.data.toList.drop 0 = sxX12_in_0 := rfl
theorem shX12_in_1 : cX12_in.data.toList.drop 1 = sxX12_in_1 := dSn 1 shX12_in_0
theorem shX12_in_2 : cX12_in.data.toList.drop 2 = sxX12_in_2 := dSn 1 shX12_in_1
theorem shX12_in_5 : cX12_in.data.toList.drop 5 = sxX12_in_5 := dSn 3 shX12_in_2
theorem shX12_in_6 : cX12_in.data.toList.drop 6 = sxX12_in_6 := dSn 1 shX12_in_5
theorem shX12_in_7 : cX12_in.data.toList.drop 7 = sxX12_in_7 := dSn 1 shX12_in_6
theorem shX12_in_10 : cX12_in.data.toList.drop 10 = sxX12_in_10 := dSn 3 shX12_in_7
theorem shX12_in_11 : cX12_in.data.toList.drop 11 = sxX12_in_11 := dSn 1 shX12_in_10
theorem shX12_in_14 : cX12_in.data.toList.drop 14 = sxX12_in_14 := dSn 3 shX12_in_11
theorem shX12_in_15 : cX12_in.data.toList.drop 15 = sxX12_in_15 := dSn 1 shX12_in_14
theorem dX12_in_0 : decode cX12_in 0 = .ok (.iload_n 0, 1) := oc_26 shX12_in_0
theorem dX12_in_1 : decode cX12_in 1 = .ok (.iload_n 1, 1) := oc_27 shX12_in_1
theorem dX12_in_2 : decode cX12_in 2 = .ok (.if_icmp .lt 12, 3) := oc_161 shX12_in_2 sgw_0_12
theorem dX12_in_5 : decode cX12_in 5 = .ok (.iload_n 0, 1) := oc_26 shX12_in_5
theorem dX12_in_6 : decode cX12_in 6 = .ok (.iload_n 2, 1) := oc_28 shX12_in_6
theorem dX12_in_7 : decode cX12_in 7 = .ok (.if_icmp .gt 7, 3) := oc_163 shX12_in_7 sgw_0_7
theorem dX12_in_10 : decode cX12_in 10 = .ok (.iconst 1, 1) := oc_4 shX12_in_10
theorem dX12_in_11 : decode cX12_in 11 = .ok (.goto 4, 3) := oc_167 shX12_in_11 sgw_0_4
theorem dX12_in_14 : decode cX12_in 14 = .ok (.iconst 0, 1) := oc_3 shX12_in_14
theorem dX12_in_15 : decode cX12_in 15 = .ok (.ireturn, 1) := oc_172 shX12_in_15
noncomputable def sxX12_isDay_17 : List UInt8 := []
noncomputable def sxX12_isDay_16 : List UInt8 := 172 :: sxX12_isDay_17
noncomputable def sxX12_isDay_15 : List UInt8 := 3 :: sxX12_isDay_16
noncomputable def sxX12_isDay_12 : List UInt8 := 167 :: 0 :: 4 :: sxX12_isDay_15
noncomputable def sxX12_isDay_11 : List UInt8 := 4 :: sxX12_isDay_12
noncomputable def sxX12_isDay_8 : List UInt8 := 163 :: 0 :: 7 :: sxX12_isDay_11
noncomputable def sxX12_isDay_5 : List UInt8 := 17 :: 1 :: 143 :: sxX12_isDay_8
noncomputable def sxX12_isDay_4 : List UInt8 := 26 :: sxX12_isDay_5
noncomputable def sxX12_isDay_1 : List UInt8 := 155 :: 0 :: 14 :: sxX12_isDay_4
noncomputable def sxX12_isDay_0 : List UInt8 := 26 :: sxX12_isDay_1
theorem shX12_isDay_0 : cX12_isDay.data.toList.drop 0 = sxX12_isDay_0 := rfl
theorem shX12_isDay_1 : cX12_isDay.data.toList.drop 1 = sxX12_isDay_1 := dSn 1 shX12_isDay_0
theorem shX12_isDay_4 : cX12_isDay.data.toList.drop 4 = sxX12_isDay_4 := dSn 3 shX12_isDay_1
theorem shX12_isDay_5 : cX12_isDay.data.toList.drop 5 = sxX12_isDay_5 := dSn 1 shX12_isDay_4
theorem shX12_isDay_8 : cX12_isDay.data.toList.drop 8 = sxX12_isDay_8 := dSn 3 shX12_isDay_5
theorem shX12_isDay_11 : cX12_isDay.data.toList.drop 11 = sxX12_isDay_11 := dSn 3 shX12_isDay_8
theorem shX12_isDay_12 : cX12_isDay.data.toList.drop 12 = sxX12_isDay_12 := dSn 1 shX12_isDay_11
theorem shX12_isDay_15 : cX12_isDay.data.toList.drop 15 = sxX12_isDay_15 := dSn 3 shX12_isDay_12
theorem shX12_isDay_16 : cX12_isDay.data.toList.drop 16 = sxX12_isDay_16 := dSn 1 shX12_isDay_15
theorem dX12_isDay_0 : decode cX12_isDay 0 = .ok (.iload_n 0, 1) := oc_26 shX12_isDay_0
theorem dX12_isDay_1 : decode cX12_isDay 1 = .ok (.ifCond .lt 14, 3) := oc_155 shX12_isDay_1 sgw_0_14
theorem dX12_isDay_4 : decode cX12_isDay 4 = .ok (.iload_n 0, 1) := oc_26 shX12_isDay_4
theorem dX12_isDay_5 : decode cX12_isDay 5 = .ok (.sipush 399, 3) := oc_17 shX12_isDay_5 sgw_1_143
theorem dX12_isDay_8 : decode cX12_isDay 8 = .ok (.if_icmp .gt 7, 3) := oc_163 shX12_isDay_8 sgw_0_7
theorem dX12_isDay_11 : decode cX12_isDay 11 = .ok (.iconst 1, 1) := oc_4 shX12_isDay_11
theorem dX12_isDay_12 : decode cX12_isDay 12 = .ok (.goto 4, 3) := oc_167 shX12_isDay_12 sgw_0_4
theorem dX12_isDay_15 : decode cX12_isDay 15 = .ok (.iconst 0, 1) := oc_3 shX12_isDay_15
theorem dX12_isDay_16 : decode cX12_isDay 16 = .ok (.ireturn, 1) := oc_172 shX12_isDay_16
noncomputable def sxX12_isKitchen_18 : List UInt8 := []
noncomputable def sxX12_isKitchen_17 : List UInt8 := 172 :: sxX12_isKitchen_18
noncomputable def sxX12_isKitchen_16 : List UInt8 := 3 :: sxX12_isKitchen_17
noncomputable def sxX12_isKitchen_13 : List UInt8 := 167 :: 0 :: 4 :: sxX12_isKitchen_16
noncomputable def sxX12_isKitchen_12 : List UInt8 := 4 :: sxX12_isKitchen_13
noncomputable def sxX12_isKitchen_9 : List UInt8 := 162 :: 0 :: 7 :: sxX12_isKitchen_12
noncomputable def sxX12_isKitchen_6 : List UInt8 := 180 :: 0 :: 204 :: sxX12_isKitchen_9
noncomputable def sxX12_isKitchen_5 : List UInt8 := 42 :: sxX12_isKitchen_6
noncomputable def sxX12_isKitchen_4 : List UInt8 := 27 :: sxX12_isKitchen_5
noncomputable def sxX12_isKitchen_1 : List UInt8 := 155 :: 0 :: 15 :: sxX12_isKitchen_4
noncomputable def sxX12_isKitchen_0 : List UInt8 := 27 :: sxX12_isKitchen_1
theorem shX12_isKitchen_0 : cX12_isKitchen.data.toList.drop 0 = sxX12_isKitchen_0 := rfl
theorem shX12_isKitchen_1 : cX12_isKitchen.data.toList.drop 1 = sxX12_isKitchen_1 := dSn 1 shX12_isKitchen_0
theorem shX12_isKitchen_4 : cX12_isKitchen.data.toList.drop 4 = sxX12_isKitchen_4 := dSn 3 shX12_isKitchen_1
theorem shX12_isKitchen_5 : cX12_isKitchen.data.toList.drop 5 = sxX12_isKitchen_5 := dSn 1 shX12_isKitchen_4
theorem shX12_isKitchen_6 : cX12_isKitchen.data.toList.drop 6 = sxX12_isKitchen_6 := dSn 1 shX12_isKitchen_5
theorem shX12_isKitchen_9 : cX12_isKitchen.data.toList.drop 9 = sxX12_isKitchen_9 := dSn 3 shX12_isKitchen_6
theorem shX12_isKitchen_12 : cX12_isKitchen.data.toList.drop 12 = sxX12_isKitchen_12 := dSn 3 shX12_isKitchen_9
theorem shX12_isKitchen_13 : cX12_isKitchen.data.toList.drop 13 = sxX12_isKitchen_13 := dSn 1 shX12_isKitchen_12
theorem shX12_isKitchen_16 : cX12_isKitchen.data.toList.drop 16 = sxX12_isKitchen_16 := dSn 3 shX12_isKitchen_13
theorem shX12_isKitchen_17 : cX12_isKitchen.data.toList.drop 17 = sxX12_isKitchen_17 := dSn 1 shX12_isKitchen_16
theorem dX12_isKitchen_0 : decode cX12_isKitchen 0 = .ok (.iload_n 1, 1) := oc_27 shX12_isKitchen_0
theorem dX12_isKitchen_1 : decode cX12_isKitchen 1 = .ok (.ifCond .lt 15, 3) := oc_155 shX12_isKitchen_1 sgw_0_15
theorem dX12_isKitchen_4 : decode cX12_isKitchen 4 = .ok (.iload_n 1, 1) := oc_27 shX12_isKitchen_4
theorem dX12_isKitchen_5 : decode cX12_isKitchen 5 = .ok (.aload_n 0, 1) := oc_42 shX12_isKitchen_5
theorem dX12_isKitchen_6 : decode cX12_isKitchen 6 = .ok (.getfield 204, 3) := oc_180 shX12_isKitchen_6
theorem dX12_isKitchen_9 : decode cX12_isKitchen 9 = .ok (.if_icmp .ge 7, 3) := oc_162 shX12_isKitchen_9 sgw_0_7
theorem dX12_isKitchen_12 : decode cX12_isKitchen 12 = .ok (.iconst 1, 1) := oc_4 shX12_isKitchen_12
theorem dX12_isKitchen_13 : decode cX12_isKitchen 13 = .ok (.goto 4, 3) := oc_167 shX12_isKitchen_13 sgw_0_4
theorem dX12_isKitchen_16 : decode cX12_isKitchen 16 = .ok (.iconst 0, 1) := oc_3 shX12_isKitchen_16
theorem dX12_isKitchen_17 : decode cX12_isKitchen 17 = .ok (.ireturn, 1) := oc_172 shX12_isKitchen_17
noncomputable def sxX12_isLoad_18 : List UInt8 := []
noncomputable def sxX12_isLoad_17 : List UInt8 := 172 :: sxX12_isLoad_18
noncomputable def sxX12_isLoad_16 : List UInt8 := 3 :: sxX12_isLoad_17
noncomputable def sxX12_isLoad_13 : List UInt8 := 167 :: 0 :: 4 :: sxX12_isLoad_16
noncomputable def sxX12_isLoad_12 : List UInt8 := 4 :: sxX12_isLoad_13
noncomputable def sxX12_isLoad_9 : List UInt8 := 162 :: 0 :: 7 :: sxX12_isLoad_12
noncomputable def sxX12_isLoad_6 : List UInt8 := 180 :: 0 :: 208 :: sxX12_isLoad_9
noncomputable def sxX12_isLoad_5 : List UInt8 := 42 :: sxX12_isLoad_6
noncomputable def sxX12_isLoad_4 : List UInt8 := 27 :: sxX12_isLoad_5
noncomputable def sxX12_isLoad_1 : List UInt8 := 155 :: 0 :: 15 :: sxX12_isLoad_4
noncomputable def sxX12_isLoad_0 : List UInt8 := 27 :: sxX12_isLoad_1
theorem shX12_isLoad_0 : cX12_isLoad.data.toList.drop 0 = sxX12_isLoad_0 := rfl
theorem shX12_isLoad_1 : cX12_isLoad.data.toList.drop 1 = sxX12_isLoad_1 := dSn 1 shX12_isLoad_0
theorem shX12_isLoad_4 : cX12_isLoad.data.toList.drop 4 = sxX12_isLoad_4 := dSn 3 shX12_isLoad_1
theorem shX12_isLoad_5 : cX12_isLoad.data.toList.drop 5 = sxX12_isLoad_5 := dSn 1 shX12_isLoad_4
theorem shX12_isLoad_6 : cX12_isLoad.data.toList.drop 6 = sxX12_isLoad_6 := dSn 1 shX12_isLoad_5
theorem shX12_isLoad_9 : cX12_isLoad.data.toList.drop 9 = sxX12_isLoad_9 := dSn 3 shX12_isLoad_6
theorem shX12_isLoad_12 : cX12_isLoad.data.toList.drop 12 = sxX12_isLoad_12 := dSn 3 shX12_isLoad_9
theorem shX12_isLoad_13 : cX12_isLoad.data.toList.drop 13 = sxX12_isLoad_13 := dSn 1 shX12_isLoad_12
theorem shX12_isLoad_16 : cX12_isLoad.data.toList.drop 16 = sxX12_isLoad_16 := dSn 3 shX12_isLoad_13
theorem shX12_isLoad_17 : cX12_isLoad.data.toList.drop 17 = sxX12_isLoad_17 := dSn 1 shX12_isLoad_16
theorem dX12_isLoad_0 : decode cX12_isLoad 0 = .ok (.iload_n 1, 1) := oc_27 shX12_isLoad_0
theorem dX12_isLoad_1 : decode cX12_isLoad 1 = .ok (.ifCond .lt 15, 3) := oc_155 shX12_isLoad_1 sgw_0_15
theorem dX12_isLoad_4 : decode cX12_isLoad 4 = .ok (.iload_n 1, 1) := oc_27 shX12_isLoad_4
theorem dX12_isLoad_5 : decode cX12_isLoad 5 = .ok (.aload_n 0, 1) := oc_42 shX12_isLoad_5
theorem dX12_isLoad_6 : decode cX12_isLoad 6 = .ok (.getfield 208, 3) := oc_180 shX12_isLoad_6
theorem dX12_isLoad_9 : decode cX12_isLoad 9 = .ok (.if_icmp .ge 7, 3) := oc_162 shX12_isLoad_9 sgw_0_7
theorem dX12_isLoad_12 : decode cX12_isLoad 12 = .ok (.iconst 1, 1) := oc_4 shX12_isLoad_12
theorem dX12_isLoad_13 : decode cX12_isLoad 13 = .ok (.goto 4, 3) := oc_167 shX12_isLoad_13 sgw_0_4
theorem dX12_isLoad_16 : decode cX12_isLoad 16 = .ok (.iconst 0, 1) := oc_3 shX12_isLoad_16
theorem dX12_isLoad_17 : decode cX12_isLoad 17 = .ok (.ireturn, 1) := oc_172 shX12_isLoad_17
noncomputable def sxX12_now_23 : List UInt8 := []
noncomputable def sxX12_now_22 : List UInt8 := 172 :: sxX12_now_23
noncomputable def sxX12_now_21 : List UInt8 := 4 :: sxX12_now_22
noncomputable def sxX12_now_18 : List UInt8 := 181 :: 0 :: 211 :: sxX12_now_21
noncomputable def sxX12_now_17 : List UInt8 := 27 :: sxX12_now_18
noncomputable def sxX12_now_16 : List UInt8 := 42 :: sxX12_now_17
noncomputable def sxX12_now_15 : List UInt8 := 172 :: sxX12_now_16
noncomputable def sxX12_now_14 : List UInt8 := 3 :: sxX12_now_15
noncomputable def sxX12_now_11 : List UInt8 := 154 :: 0 :: 5 :: sxX12_now_14
noncomputable def sxX12_now_8 : List UInt8 := 184 :: 0 :: 214 :: sxX12_now_11
noncomputable def sxX12_now_5 : List UInt8 := 17 :: 1 :: 143 :: sxX12_now_8
noncomputable def sxX12_now_2 : List UInt8 := 180 :: 0 :: 211 :: sxX12_now_5
noncomputable def sxX12_now_1 : List UInt8 := 42 :: sxX12_now_2
noncomputable def sxX12_now_0 : List UInt8 := 27 :: sxX12_now_1
theorem shX12_now_0 : cX12_now.data.toList.drop 0 = sxX12_now_0 := rfl
theorem shX12_now_1 : cX12_now.data.toList.drop 1 = sxX12_now_1 := dSn 1 shX12_now_0
theorem shX12_now_2 : cX12_now.data.toList.drop 2 = sxX12_now_2 := dSn 1 shX12_now_1
theorem shX12_now_5 : cX12_now.data.toList.drop 5 = sxX12_now_5 := dSn 3 shX12_now_2
theorem shX12_now_8 : cX12_now.data.toList.drop 8 = sxX12_now_8 := dSn 3 shX12_now_5
theorem shX12_now_11 : cX12_now.data.toList.drop 11 = sxX12_now_11 := dSn 3 shX12_now_8
theorem shX12_now_14 : cX12_now.data.toList.drop 14 = sxX12_now_14 := dSn 3 shX12_now_11
theorem shX12_now_15 : cX12_now.data.toList.drop 15 = sxX12_now_15 := dSn 1 shX12_now_14
theorem shX12_now_16 : cX12_now.data.toList.drop 16 = sxX12_now_16 := dSn 1 shX12_now_15
theorem shX12_now_17 : cX12_now.data.toList.drop 17 = sxX12_now_17 := dSn 1 shX12_now_16
theorem shX12_now_18 : cX12_now.data.toList.drop 18 = sxX12_now_18 := dSn 1 shX12_now_17
theorem shX12_now_21 : cX12_now.data.toList.drop 21 = sxX12_now_21 := dSn 3 shX12_now_18
theorem shX12_now_22 : cX12_now.data.toList.drop 22 = sxX12_now_22 := dSn 1 shX12_now_21
theorem dX12_now_0 : decode cX12_now 0 = .ok (.iload_n 1, 1) := oc_27 shX12_now_0
theorem dX12_now_1 : decode cX12_now 1 = .ok (.aload_n 0, 1) := oc_42 shX12_now_1
theorem dX12_now_2 : decode cX12_now 2 = .ok (.getfield 211, 3) := oc_180 shX12_now_2
theorem dX12_now_5 : decode cX12_now 5 = .ok (.sipush 399, 3) := oc_17 shX12_now_5 sgw_1_143
theorem dX12_now_8 : decode cX12_now 8 = .ok (.invokestatic 214, 3) := oc_184 shX12_now_8
theorem dX12_now_11 : decode cX12_now 11 = .ok (.ifCond .ne 5, 3) := oc_154 shX12_now_11 sgw_0_5
theorem dX12_now_14 : decode cX12_now 14 = .ok (.iconst 0, 1) := oc_3 shX12_now_14
theorem dX12_now_15 : decode cX12_now 15 = .ok (.ireturn, 1) := oc_172 shX12_now_15
theorem dX12_now_16 : decode cX12_now 16 = .ok (.aload_n 0, 1) := oc_42 shX12_now_16
theorem dX12_now_17 : decode cX12_now 17 = .ok (.iload_n 1, 1) := oc_27 shX12_now_17
theorem dX12_now_18 : decode cX12_now 18 = .ok (.putfield 211, 3) := oc_181 shX12_now_18
theorem dX12_now_21 : decode cX12_now 21 = .ok (.iconst 1, 1) := oc_4 shX12_now_21
theorem dX12_now_22 : decode cX12_now 22 = .ok (.ireturn, 1) := oc_172 shX12_now_22
noncomputable def sxX12_kitchen_112 : List UInt8 := []
noncomputable def sxX12_kitchen_111 : List UInt8 := 172 :: sxX12_kitchen_112
noncomputable def sxX12_kitchen_110 : List UInt8 := 100 :: sxX12_kitchen_111
noncomputable def sxX12_kitchen_109 : List UInt8 := 4 :: sxX12_kitchen_110
noncomputable def sxX12_kitchen_106 : List UInt8 := 180 :: 0 :: 204 :: sxX12_kitchen_109
noncomputable def sxX12_kitchen_105 : List UInt8 := 42 :: sxX12_kitchen_106
noncomputable def sxX12_kitchen_102 : List UInt8 := 181 :: 0 :: 204 :: sxX12_kitchen_105
noncomputable def sxX12_kitchen_101 : List UInt8 := 96 :: sxX12_kitchen_102
noncomputable def sxX12_kitchen_100 : List UInt8 := 4 :: sxX12_kitchen_101
noncomputable def sxX12_kitchen_97 : List UInt8 := 180 :: 0 :: 204 :: sxX12_kitchen_100
noncomputable def sxX12_kitchen_96 : List UInt8 := 42 :: sxX12_kitchen_97
noncomputable def sxX12_kitchen_95 : List UInt8 := 42 :: sxX12_kitchen_96
noncomputable def sxX12_kitchen_94 : List UInt8 := 79 :: sxX12_kitchen_95
noncomputable def sxX12_kitchen_92 : List UInt8 := 21 :: 4 :: sxX12_kitchen_94
noncomputable def sxX12_kitchen_89 : List UInt8 := 180 :: 0 :: 204 :: sxX12_kitchen_92
noncomputable def sxX12_kitchen_88 : List UInt8 := 42 :: sxX12_kitchen_89
noncomputable def sxX12_kitchen_85 : List UInt8 := 180 :: 0 :: 19 :: sxX12_kitchen_88
noncomputable def sxX12_kitchen_84 : List UInt8 := 42 :: sxX12_kitchen_85
noncomputable def sxX12_kitchen_83 : List UInt8 := 79 :: sxX12_kitchen_84
noncomputable def sxX12_kitchen_82 : List UInt8 := 29 :: sxX12_kitchen_83
noncomputable def sxX12_kitchen_79 : List UInt8 := 180 :: 0 :: 204 :: sxX12_kitchen_82
noncomputable def sxX12_kitchen_78 : List UInt8 := 42 :: sxX12_kitchen_79
noncomputable def sxX12_kitchen_75 : List UInt8 := 180 :: 0 :: 16 :: sxX12_kitchen_78
noncomputable def sxX12_kitchen_74 : List UInt8 := 42 :: sxX12_kitchen_75
noncomputable def sxX12_kitchen_73 : List UInt8 := 79 :: sxX12_kitchen_74
noncomputable def sxX12_kitchen_72 : List UInt8 := 28 :: sxX12_kitchen_73
noncomputable def sxX12_kitchen_69 : List UInt8 := 180 :: 0 :: 204 :: sxX12_kitchen_72
noncomputable def sxX12_kitchen_68 : List UInt8 := 42 :: sxX12_kitchen_69
noncomputable def sxX12_kitchen_65 : List UInt8 := 180 :: 0 :: 13 :: sxX12_kitchen_68
noncomputable def sxX12_kitchen_64 : List UInt8 := 42 :: sxX12_kitchen_65
noncomputable def sxX12_kitchen_63 : List UInt8 := 79 :: sxX12_kitchen_64
noncomputable def sxX12_kitchen_62 : List UInt8 := 27 :: sxX12_kitchen_63
noncomputable def sxX12_kitchen_59 : List UInt8 := 180 :: 0 :: 204 :: sxX12_kitchen_62
noncomputable def sxX12_kitchen_58 : List UInt8 := 42 :: sxX12_kitchen_59
noncomputable def sxX12_kitchen_55 : List UInt8 := 180 :: 0 :: 7 :: sxX12_kitchen_58
noncomputable def sxX12_kitchen_54 : List UInt8 := 42 :: sxX12_kitchen_55
noncomputable def sxX12_kitchen_53 : List UInt8 := 172 :: sxX12_kitchen_54
noncomputable def sxX12_kitchen_52 : List UInt8 := 2 :: sxX12_kitchen_53
noncomputable def sxX12_kitchen_49 : List UInt8 := 160 :: 0 :: 5 :: sxX12_kitchen_52
noncomputable def sxX12_kitchen_47 : List UInt8 := 16 :: 10 :: sxX12_kitchen_49
noncomputable def sxX12_kitchen_44 : List UInt8 := 180 :: 0 :: 204 :: sxX12_kitchen_47
noncomputable def sxX12_kitchen_43 : List UInt8 := 42 :: sxX12_kitchen_44
noncomputable def sxX12_kitchen_40 : List UInt8 := 153 :: 0 :: 12 :: sxX12_kitchen_43
noncomputable def sxX12_kitchen_37 : List UInt8 := 184 :: 0 :: 214 :: sxX12_kitchen_40
noncomputable def sxX12_kitchen_34 : List UInt8 := 17 :: 1 :: 144 :: sxX12_kitchen_37
noncomputable def sxX12_kitchen_32 : List UInt8 := 16 :: 20 :: sxX12_kitchen_34
noncomputable def sxX12_kitchen_30 : List UInt8 := 21 :: 4 :: sxX12_kitchen_32
noncomputable def sxX12_kitchen_27 : List UInt8 := 153 :: 0 :: 25 :: sxX12_kitchen_30
noncomputable def sxX12_kitchen_24 : List UInt8 := 184 :: 0 :: 214 :: sxX12_kitchen_27
noncomputable def sxX12_kitchen_22 : List UInt8 := 16 :: 50 :: sxX12_kitchen_24
noncomputable def sxX12_kitchen_21 : List UInt8 := 3 :: sxX12_kitchen_22
noncomputable def sxX12_kitchen_20 : List UInt8 := 29 :: sxX12_kitchen_21
noncomputable def sxX12_kitchen_17 : List UInt8 := 153 :: 0 :: 35 :: sxX12_kitchen_20
noncomputable def sxX12_kitchen_14 : List UInt8 := 184 :: 0 :: 214 :: sxX12_kitchen_17
noncomputable def sxX12_kitchen_12 : List UInt8 := 16 :: 99 :: sxX12_kitchen_14
noncomputable def sxX12_kitchen_11 : List UInt8 := 3 :: sxX12_kitchen_12
noncomputable def sxX12_kitchen_10 : List UInt8 := 28 :: sxX12_kitchen_11
noncomputable def sxX12_kitchen_7 : List UInt8 := 153 :: 0 :: 45 :: sxX12_kitchen_10
noncomputable def sxX12_kitchen_4 : List UInt8 := 184 :: 0 :: 214 :: sxX12_kitchen_7
noncomputable def sxX12_kitchen_2 : List UInt8 := 16 :: 99 :: sxX12_kitchen_4
noncomputable def sxX12_kitchen_1 : List UInt8 := 3 :: sxX12_kitchen_2
noncomputable def sxX12_kitchen_0 : List UInt8 := 27 :: sxX12_kitchen_1
theorem shX12_kitchen_0 : cX12_kitchen.data.toList.drop 0 = sxX12_kitchen_0 := rfl
theorem shX12_kitchen_1 : cX12_kitchen.data.toList.drop 1 = sxX12_kitchen_1 := dSn 1 shX12_kitchen_0
theorem shX12_kitchen_2 : cX12_kitchen.data.toList.drop 2 = sxX12_kitchen_2 := dSn 1 shX12_kitchen_1
theorem shX12_kitchen_4 : cX12_kitchen.data.toList.drop 4 = sxX12_kitchen_4 := dSn 2 shX12_kitchen_2
theorem shX12_kitchen_7 : cX12_kitchen.data.toList.drop 7 = sxX12_kitchen_7 := dSn 3 shX12_kitchen_4
theorem shX12_kitchen_10 : cX12_kitchen.data.toList.drop 10 = sxX12_kitchen_10 := dSn 3 shX12_kitchen_7
theorem shX12_kitchen_11 : cX12_kitchen.data.toList.drop 11 = sxX12_kitchen_11 := dSn 1 shX12_kitchen_10
theorem shX12_kitchen_12 : cX12_kitchen.data.toList.drop 12 = sxX12_kitchen_12 := dSn 1 shX12_kitchen_11
theorem shX12_kitchen_14 : cX12_kitchen.data.toList.drop 14 = sxX12_kitchen_14 := dSn 2 shX12_kitchen_12
theorem shX12_kitchen_17 : cX12_kitchen.data.toList.drop 17 = sxX12_kitchen_17 := dSn 3 shX12_kitchen_14
theorem shX12_kitchen_20 : cX12_kitchen.data.toList.drop 20 = sxX12_kitchen_20 := dSn 3 shX12_kitchen_17
theorem shX12_kitchen_21 : cX12_kitchen.data.toList.drop 21 = sxX12_kitchen_21 := dSn 1 shX12_kitchen_20
theorem shX12_kitchen_22 : cX12_kitchen.data.toList.drop 22 = sxX12_kitchen_22 := dSn 1 shX12_kitchen_21
theorem shX12_kitchen_24 : cX12_kitchen.data.toList.drop 24 = sxX12_kitchen_24 := dSn 2 shX12_kitchen_22
theorem shX12_kitchen_27 : cX12_kitchen.data.toList.drop 27 = sxX12_kitchen_27 := dSn 3 shX12_kitchen_24
theorem shX12_kitchen_30 : cX12_kitchen.data.toList.drop 30 = sxX12_kitchen_30 := dSn 3 shX12_kitchen_27
theorem shX12_kitchen_32 : cX12_kitchen.data.toList.drop 32 = sxX12_kitchen_32 := dSn 2 shX12_kitchen_30
theorem shX12_kitchen_34 : cX12_kitchen.data.toList.drop 34 = sxX12_kitchen_34 := dSn 2 shX12_kitchen_32
theorem shX12_kitchen_37 : cX12_kitchen.data.toList.drop 37 = sxX12_kitchen_37 := dSn 3 shX12_kitchen_34
theorem shX12_kitchen_40 : cX12_kitchen.data.toList.drop 40 = sxX12_kitchen_40 := dSn 3 shX12_kitchen_37
theorem shX12_kitchen_43 : cX12_kitchen.data.toList.drop 43 = sxX12_kitchen_43 := dSn 3 shX12_kitchen_40
theorem shX12_kitchen_44 : cX12_kitchen.data.toList.drop 44 = sxX12_kitchen_44 := dSn 1 shX12_kitchen_43
theorem shX12_kitchen_47 : cX12_kitchen.data.toList.drop 47 = sxX12_kitchen_47 := dSn 3 shX12_kitchen_44
theorem shX12_kitchen_49 : cX12_kitchen.data.toList.drop 49 = sxX12_kitchen_49 := dSn 2 shX12_kitchen_47
theorem shX12_kitchen_52 : cX12_kitchen.data.toList.drop 52 = sxX12_kitchen_52 := dSn 3 shX12_kitchen_49
theorem shX12_kitchen_53 : cX12_kitchen.data.toList.drop 53 = sxX12_kitchen_53 := dSn 1 shX12_kitchen_52
theorem shX12_kitchen_54 : cX12_kitchen.data.toList.drop 54 = sxX12_kitchen_54 := dSn 1 shX12_kitchen_53
theorem shX12_kitchen_55 : cX12_kitchen.data.toList.drop 55 = sxX12_kitchen_55 := dSn 1 shX12_kitchen_54
theorem shX12_kitchen_58 : cX12_kitchen.data.toList.drop 58 = sxX12_kitchen_58 := dSn 3 shX12_kitchen_55
theorem shX12_kitchen_59 : cX12_kitchen.data.toList.drop 59 = sxX12_kitchen_59 := dSn 1 shX12_kitchen_58
theorem shX12_kitchen_62 : cX12_kitchen.data.toList.drop 62 = sxX12_kitchen_62 := dSn 3 shX12_kitchen_59
theorem shX12_kitchen_63 : cX12_kitchen.data.toList.drop 63 = sxX12_kitchen_63 := dSn 1 shX12_kitchen_62
theorem shX12_kitchen_64 : cX12_kitchen.data.toList.drop 64 = sxX12_kitchen_64 := dSn 1 shX12_kitchen_63
theorem shX12_kitchen_65 : cX12_kitchen.data.toList.drop 65 = sxX12_kitchen_65 := dSn 1 shX12_kitchen_64
theorem shX12_kitchen_68 : cX12_kitchen.data.toList.drop 68 = sxX12_kitchen_68 := dSn 3 shX12_kitchen_65
theorem shX12_kitchen_69 : cX12_kitchen.data.toList.drop 69 = sxX12_kitchen_69 := dSn 1 shX12_kitchen_68
theorem shX12_kitchen_72 : cX12_kitchen.data.toList.drop 72 = sxX12_kitchen_72 := dSn 3 shX12_kitchen_69
theorem shX12_kitchen_73 : cX12_kitchen.data.toList.drop 73 = sxX12_kitchen_73 := dSn 1 shX12_kitchen_72
theorem shX12_kitchen_74 : cX12_kitchen.data.toList.drop 74 = sxX12_kitchen_74 := dSn 1 shX12_kitchen_73
theorem shX12_kitchen_75 : cX12_kitchen.data.toList.drop 75 = sxX12_kitchen_75 := dSn 1 shX12_kitchen_74
theorem shX12_kitchen_78 : cX12_kitchen.data.toList.drop 78 = sxX12_kitchen_78 := dSn 3 shX12_kitchen_75
theorem shX12_kitchen_79 : cX12_kitchen.data.toList.drop 79 = sxX12_kitchen_79 := dSn 1 shX12_kitchen_78
theorem shX12_kitchen_82 : cX12_kitchen.data.toList.drop 82 = sxX12_kitchen_82 := dSn 3 shX12_kitchen_79
theorem shX12_kitchen_83 : cX12_kitchen.data.toList.drop 83 = sxX12_kitchen_83 := dSn 1 shX12_kitchen_82
theorem shX12_kitchen_84 : cX12_kitchen.data.toList.drop 84 = sxX12_kitchen_84 := dSn 1 shX12_kitchen_83
theorem shX12_kitchen_85 : cX12_kitchen.data.toList.drop 85 = sxX12_kitchen_85 := dSn 1 shX12_kitchen_84
theorem shX12_kitchen_88 : cX12_kitchen.data.toList.drop 88 = sxX12_kitchen_88 := dSn 3 shX12_kitchen_85
theorem shX12_kitchen_89 : cX12_kitchen.data.toList.drop 89 = sxX12_kitchen_89 := dSn 1 shX12_kitchen_88
theorem shX12_kitchen_92 : cX12_kitchen.data.toList.drop 92 = sxX12_kitchen_92 := dSn 3 shX12_kitchen_89
theorem shX12_kitchen_94 : cX12_kitchen.data.toList.drop 94 = sxX12_kitchen_94 := dSn 2 shX12_kitchen_92
theorem shX12_kitchen_95 : cX12_kitchen.data.toList.drop 95 = sxX12_kitchen_95 := dSn 1 shX12_kitchen_94
theorem shX12_kitchen_96 : cX12_kitchen.data.toList.drop 96 = sxX12_kitchen_96 := dSn 1 shX12_kitchen_95
theorem shX12_kitchen_97 : cX12_kitchen.data.toList.drop 97 = sxX12_kitchen_97 := dSn 1 shX12_kitchen_96
theorem shX12_kitchen_100 : cX12_kitchen.data.toList.drop 100 = sxX12_kitchen_100 := dSn 3 shX12_kitchen_97
theorem shX12_kitchen_101 : cX12_kitchen.data.toList.drop 101 = sxX12_kitchen_101 := dSn 1 shX12_kitchen_100
theorem shX12_kitchen_102 : cX12_kitchen.data.toList.drop 102 = sxX12_kitchen_102 := dSn 1 shX12_kitchen_101
theorem shX12_kitchen_105 : cX12_kitchen.data.toList.drop 105 = sxX12_kitchen_105 := dSn 3 shX12_kitchen_102
theorem shX12_kitchen_106 : cX12_kitchen.data.toList.drop 106 = sxX12_kitchen_106 := dSn 1 shX12_kitchen_105
theorem shX12_kitchen_109 : cX12_kitchen.data.toList.drop 109 = sxX12_kitchen_109 := dSn 3 shX12_kitchen_106
theorem shX12_kitchen_110 : cX12_kitchen.data.toList.drop 110 = sxX12_kitchen_110 := dSn 1 shX12_kitchen_109
theorem shX12_kitchen_111 : cX12_kitchen.data.toList.drop 111 = sxX12_kitchen_111 := dSn 1 shX12_kitchen_110
theorem dX12_kitchen_0 : decode cX12_kitchen 0 = .ok (.iload_n 1, 1) := oc_27 shX12_kitchen_0
theorem dX12_kitchen_1 : decode cX12_kitchen 1 = .ok (.iconst 0, 1) := oc_3 shX12_kitchen_1
theorem dX12_kitchen_2 : decode cX12_kitchen 2 = .ok (.bipush 99, 2) := oc_16 shX12_kitchen_2 sgb_99
theorem dX12_kitchen_4 : decode cX12_kitchen 4 = .ok (.invokestatic 214, 3) := oc_184 shX12_kitchen_4
theorem dX12_kitchen_7 : decode cX12_kitchen 7 = .ok (.ifCond .eq 45, 3) := oc_153 shX12_kitchen_7 sgw_0_45
theorem dX12_kitchen_10 : decode cX12_kitchen 10 = .ok (.iload_n 2, 1) := oc_28 shX12_kitchen_10
theorem dX12_kitchen_11 : decode cX12_kitchen 11 = .ok (.iconst 0, 1) := oc_3 shX12_kitchen_11
theorem dX12_kitchen_12 : decode cX12_kitchen 12 = .ok (.bipush 99, 2) := oc_16 shX12_kitchen_12 sgb_99
theorem dX12_kitchen_14 : decode cX12_kitchen 14 = .ok (.invokestatic 214, 3) := oc_184 shX12_kitchen_14
theorem dX12_kitchen_17 : decode cX12_kitchen 17 = .ok (.ifCond .eq 35, 3) := oc_153 shX12_kitchen_17 sgw_0_35
theorem dX12_kitchen_20 : decode cX12_kitchen 20 = .ok (.iload_n 3, 1) := oc_29 shX12_kitchen_20
theorem dX12_kitchen_21 : decode cX12_kitchen 21 = .ok (.iconst 0, 1) := oc_3 shX12_kitchen_21
theorem dX12_kitchen_22 : decode cX12_kitchen 22 = .ok (.bipush 50, 2) := oc_16 shX12_kitchen_22 sgb_50
theorem dX12_kitchen_24 : decode cX12_kitchen 24 = .ok (.invokestatic 214, 3) := oc_184 shX12_kitchen_24
theorem dX12_kitchen_27 : decode cX12_kitchen 27 = .ok (.ifCond .eq 25, 3) := oc_153 shX12_kitchen_27 sgw_0_25
theorem dX12_kitchen_30 : decode cX12_kitchen 30 = .ok (.iload 4, 2) := oc_21 shX12_kitchen_30
theorem dX12_kitchen_32 : decode cX12_kitchen 32 = .ok (.bipush 20, 2) := oc_16 shX12_kitchen_32 sgb_20
theorem dX12_kitchen_34 : decode cX12_kitchen 34 = .ok (.sipush 400, 3) := oc_17 shX12_kitchen_34 sgw_1_144
theorem dX12_kitchen_37 : decode cX12_kitchen 37 = .ok (.invokestatic 214, 3) := oc_184 shX12_kitchen_37
theorem dX12_kitchen_40 : decode cX12_kitchen 40 = .ok (.ifCond .eq 12, 3) := oc_153 shX12_kitchen_40 sgw_0_12
theorem dX12_kitchen_43 : decode cX12_kitchen 43 = .ok (.aload_n 0, 1) := oc_42 shX12_kitchen_43
theorem dX12_kitchen_44 : decode cX12_kitchen 44 = .ok (.getfield 204, 3) := oc_180 shX12_kitchen_44
theorem dX12_kitchen_47 : decode cX12_kitchen 47 = .ok (.bipush 10, 2) := oc_16 shX12_kitchen_47 sgb_10
theorem dX12_kitchen_49 : decode cX12_kitchen 49 = .ok (.if_icmp .ne 5, 3) := oc_160 shX12_kitchen_49 sgw_0_5
theorem dX12_kitchen_52 : decode cX12_kitchen 52 = .ok (.iconst (-1), 1) := oc_2 shX12_kitchen_52
theorem dX12_kitchen_53 : decode cX12_kitchen 53 = .ok (.ireturn, 1) := oc_172 shX12_kitchen_53
theorem dX12_kitchen_54 : decode cX12_kitchen 54 = .ok (.aload_n 0, 1) := oc_42 shX12_kitchen_54
theorem dX12_kitchen_55 : decode cX12_kitchen 55 = .ok (.getfield 7, 3) := oc_180 shX12_kitchen_55
theorem dX12_kitchen_58 : decode cX12_kitchen 58 = .ok (.aload_n 0, 1) := oc_42 shX12_kitchen_58
theorem dX12_kitchen_59 : decode cX12_kitchen 59 = .ok (.getfield 204, 3) := oc_180 shX12_kitchen_59
theorem dX12_kitchen_62 : decode cX12_kitchen 62 = .ok (.iload_n 1, 1) := oc_27 shX12_kitchen_62
theorem dX12_kitchen_63 : decode cX12_kitchen 63 = .ok (.iastore, 1) := oc_79 shX12_kitchen_63
theorem dX12_kitchen_64 : decode cX12_kitchen 64 = .ok (.aload_n 0, 1) := oc_42 shX12_kitchen_64
theorem dX12_kitchen_65 : decode cX12_kitchen 65 = .ok (.getfield 13, 3) := oc_180 shX12_kitchen_65
theorem dX12_kitchen_68 : decode cX12_kitchen 68 = .ok (.aload_n 0, 1) := oc_42 shX12_kitchen_68
theorem dX12_kitchen_69 : decode cX12_kitchen 69 = .ok (.getfield 204, 3) := oc_180 shX12_kitchen_69
theorem dX12_kitchen_72 : decode cX12_kitchen 72 = .ok (.iload_n 2, 1) := oc_28 shX12_kitchen_72
theorem dX12_kitchen_73 : decode cX12_kitchen 73 = .ok (.iastore, 1) := oc_79 shX12_kitchen_73
theorem dX12_kitchen_74 : decode cX12_kitchen 74 = .ok (.aload_n 0, 1) := oc_42 shX12_kitchen_74
theorem dX12_kitchen_75 : decode cX12_kitchen 75 = .ok (.getfield 16, 3) := oc_180 shX12_kitchen_75
theorem dX12_kitchen_78 : decode cX12_kitchen 78 = .ok (.aload_n 0, 1) := oc_42 shX12_kitchen_78
theorem dX12_kitchen_79 : decode cX12_kitchen 79 = .ok (.getfield 204, 3) := oc_180 shX12_kitchen_79
theorem dX12_kitchen_82 : decode cX12_kitchen 82 = .ok (.iload_n 3, 1) := oc_29 shX12_kitchen_82
theorem dX12_kitchen_83 : decode cX12_kitchen 83 = .ok (.iastore, 1) := oc_79 shX12_kitchen_83
theorem dX12_kitchen_84 : decode cX12_kitchen 84 = .ok (.aload_n 0, 1) := oc_42 shX12_kitchen_84
theorem dX12_kitchen_85 : decode cX12_kitchen 85 = .ok (.getfield 19, 3) := oc_180 shX12_kitchen_85
theorem dX12_kitchen_88 : decode cX12_kitchen 88 = .ok (.aload_n 0, 1) := oc_42 shX12_kitchen_88
theorem dX12_kitchen_89 : decode cX12_kitchen 89 = .ok (.getfield 204, 3) := oc_180 shX12_kitchen_89
theorem dX12_kitchen_92 : decode cX12_kitchen 92 = .ok (.iload 4, 2) := oc_21 shX12_kitchen_92
theorem dX12_kitchen_94 : decode cX12_kitchen 94 = .ok (.iastore, 1) := oc_79 shX12_kitchen_94
theorem dX12_kitchen_95 : decode cX12_kitchen 95 = .ok (.aload_n 0, 1) := oc_42 shX12_kitchen_95
theorem dX12_kitchen_96 : decode cX12_kitchen 96 = .ok (.aload_n 0, 1) := oc_42 shX12_kitchen_96
theorem dX12_kitchen_97 : decode cX12_kitchen 97 = .ok (.getfield 204, 3) := oc_180 shX12_kitchen_97
theorem dX12_kitchen_100 : decode cX12_kitchen 100 = .ok (.iconst 1, 1) := oc_4 shX12_kitchen_100
theorem dX12_kitchen_101 : decode cX12_kitchen 101 = .ok (.iadd, 1) := oc_96 shX12_kitchen_101
theorem dX12_kitchen_102 : decode cX12_kitchen 102 = .ok (.putfield 204, 3) := oc_181 shX12_kitchen_102
theorem dX12_kitchen_105 : decode cX12_kitchen 105 = .ok (.aload_n 0, 1) := oc_42 shX12_kitchen_105
theorem dX12_kitchen_106 : decode cX12_kitchen 106 = .ok (.getfield 204, 3) := oc_180 shX12_kitchen_106
theorem dX12_kitchen_109 : decode cX12_kitchen 109 = .ok (.iconst 1, 1) := oc_4 shX12_kitchen_109
theorem dX12_kitchen_110 : decode cX12_kitchen 110 = .ok (.isub, 1) := oc_100 shX12_kitchen_110
theorem dX12_kitchen_111 : decode cX12_kitchen 111 = .ok (.ireturn, 1) := oc_172 shX12_kitchen_111
noncomputable def sxX12_likelyOn_37 : List UInt8 := []
noncomputable def sxX12_likelyOn_36 : List UInt8 := 172 :: sxX12_likelyOn_37
noncomputable def sxX12_likelyOn_35 : List UInt8 := 46 :: sxX12_likelyOn_36
noncomputable def sxX12_likelyOn_34 : List UInt8 := 27 :: sxX12_likelyOn_35
noncomputable def sxX12_likelyOn_31 : List UInt8 := 180 :: 0 :: 19 :: sxX12_likelyOn_34
noncomputable def sxX12_likelyOn_30 : List UInt8 := 42 :: sxX12_likelyOn_31
noncomputable def sxX12_likelyOn_27 : List UInt8 := 167 :: 0 :: 9 :: sxX12_likelyOn_30
noncomputable def sxX12_likelyOn_26 : List UInt8 := 29 :: sxX12_likelyOn_27
noncomputable def sxX12_likelyOn_23 : List UInt8 := 162 :: 0 :: 7 :: sxX12_likelyOn_26
noncomputable def sxX12_likelyOn_22 : List UInt8 := 46 :: sxX12_likelyOn_23
noncomputable def sxX12_likelyOn_21 : List UInt8 := 27 :: sxX12_likelyOn_22
noncomputable def sxX12_likelyOn_18 : List UInt8 := 180 :: 0 :: 19 :: sxX12_likelyOn_21
noncomputable def sxX12_likelyOn_17 : List UInt8 := 42 :: sxX12_likelyOn_18
noncomputable def sxX12_likelyOn_16 : List UInt8 := 29 :: sxX12_likelyOn_17
noncomputable def sxX12_likelyOn_15 : List UInt8 := 62 :: sxX12_likelyOn_16
noncomputable def sxX12_likelyOn_14 : List UInt8 := 104 :: sxX12_likelyOn_15
noncomputable def sxX12_likelyOn_13 : List UInt8 := 100 :: sxX12_likelyOn_14
noncomputable def sxX12_likelyOn_12 : List UInt8 := 46 :: sxX12_likelyOn_13
noncomputable def sxX12_likelyOn_11 : List UInt8 := 27 :: sxX12_likelyOn_12
noncomputable def sxX12_likelyOn_8 : List UInt8 := 180 :: 0 :: 22 :: sxX12_likelyOn_11
noncomputable def sxX12_likelyOn_7 : List UInt8 := 42 :: sxX12_likelyOn_8
noncomputable def sxX12_likelyOn_6 : List UInt8 := 28 :: sxX12_likelyOn_7
noncomputable def sxX12_likelyOn_5 : List UInt8 := 46 :: sxX12_likelyOn_6
noncomputable def sxX12_likelyOn_4 : List UInt8 := 27 :: sxX12_likelyOn_5
noncomputable def sxX12_likelyOn_1 : List UInt8 := 180 :: 0 :: 16 :: sxX12_likelyOn_4
noncomputable def sxX12_likelyOn_0 : List UInt8 := 42 :: sxX12_likelyOn_1
theorem shX12_likelyOn_0 : cX12_likelyOn.data.toList.drop 0 = sxX12_likelyOn_0 := rfl
theorem shX12_likelyOn_1 : cX12_likelyOn.data.toList.drop 1 = sxX12_likelyOn_1 := dSn 1 shX12_likelyOn_0
theorem shX12_likelyOn_4 : cX12_likelyOn.data.toList.drop 4 = sxX12_likelyOn_4 := dSn 3 shX12_likelyOn_1
theorem shX12_likelyOn_5 : cX12_likelyOn.data.toList.drop 5 = sxX12_likelyOn_5 := dSn 1 shX12_likelyOn_4
theorem shX12_likelyOn_6 : cX12_likelyOn.data.toList.drop 6 = sxX12_likelyOn_6 := dSn 1 shX12_likelyOn_5
theorem shX12_likelyOn_7 : cX12_likelyOn.data.toList.drop 7 = sxX12_likelyOn_7 := dSn 1 shX12_likelyOn_6
theorem shX12_likelyOn_8 : cX12_likelyOn.data.toList.drop 8 = sxX12_likelyOn_8 := dSn 1 shX12_likelyOn_7
theorem shX12_likelyOn_11 : cX12_likelyOn.data.toList.drop 11 = sxX12_likelyOn_11 := dSn 3 shX12_likelyOn_8
theorem shX12_likelyOn_12 : cX12_likelyOn.data.toList.drop 12 = sxX12_likelyOn_12 := dSn 1 shX12_likelyOn_11
theorem shX12_likelyOn_13 : cX12_likelyOn.data.toList.drop 13 = sxX12_likelyOn_13 := dSn 1 shX12_likelyOn_12
theorem shX12_likelyOn_14 : cX12_likelyOn.data.toList.drop 14 = sxX12_likelyOn_14 := dSn 1 shX12_likelyOn_13
theorem shX12_likelyOn_15 : cX12_likelyOn.data.toList.drop 15 = sxX12_likelyOn_15 := dSn 1 shX12_likelyOn_14
theorem shX12_likelyOn_16 : cX12_likelyOn.data.toList.drop 16 = sxX12_likelyOn_16 := dSn 1 shX12_likelyOn_15
theorem shX12_likelyOn_17 : cX12_likelyOn.data.toList.drop 17 = sxX12_likelyOn_17 := dSn 1 shX12_likelyOn_16
theorem shX12_likelyOn_18 : cX12_likelyOn.data.toList.drop 18 = sxX12_likelyOn_18 := dSn 1 shX12_likelyOn_17
theorem shX12_likelyOn_21 : cX12_likelyOn.data.toList.drop 21 = sxX12_likelyOn_21 := dSn 3 shX12_likelyOn_18
theorem shX12_likelyOn_22 : cX12_likelyOn.data.toList.drop 22 = sxX12_likelyOn_22 := dSn 1 shX12_likelyOn_21
theorem shX12_likelyOn_23 : cX12_likelyOn.data.toList.drop 23 = sxX12_likelyOn_23 := dSn 1 shX12_likelyOn_22
theorem shX12_likelyOn_26 : cX12_likelyOn.data.toList.drop 26 = sxX12_likelyOn_26 := dSn 3 shX12_likelyOn_23
theorem shX12_likelyOn_27 : cX12_likelyOn.data.toList.drop 27 = sxX12_likelyOn_27 := dSn 1 shX12_likelyOn_26
theorem shX12_likelyOn_30 : cX12_likelyOn.data.toList.drop 30 = sxX12_likelyOn_30 := dSn 3 shX12_likelyOn_27
theorem shX12_likelyOn_31 : cX12_likelyOn.data.toList.drop 31 = sxX12_likelyOn_31 := dSn 1 shX12_likelyOn_30
theorem shX12_likelyOn_34 : cX12_likelyOn.data.toList.drop 34 = sxX12_likelyOn_34 := dSn 3 shX12_likelyOn_31
theorem shX12_likelyOn_35 : cX12_likelyOn.data.toList.drop 35 = sxX12_likelyOn_35 := dSn 1 shX12_likelyOn_34
theorem shX12_likelyOn_36 : cX12_likelyOn.data.toList.drop 36 = sxX12_likelyOn_36 := dSn 1 shX12_likelyOn_35
theorem dX12_likelyOn_0 : decode cX12_likelyOn 0 = .ok (.aload_n 0, 1) := oc_42 shX12_likelyOn_0
theorem dX12_likelyOn_1 : decode cX12_likelyOn 1 = .ok (.getfield 16, 3) := oc_180 shX12_likelyOn_1
theorem dX12_likelyOn_4 : decode cX12_likelyOn 4 = .ok (.iload_n 1, 1) := oc_27 shX12_likelyOn_4
theorem dX12_likelyOn_5 : decode cX12_likelyOn 5 = .ok (.iaload, 1) := oc_46 shX12_likelyOn_5
theorem dX12_likelyOn_6 : decode cX12_likelyOn 6 = .ok (.iload_n 2, 1) := oc_28 shX12_likelyOn_6
theorem dX12_likelyOn_7 : decode cX12_likelyOn 7 = .ok (.aload_n 0, 1) := oc_42 shX12_likelyOn_7
theorem dX12_likelyOn_8 : decode cX12_likelyOn 8 = .ok (.getfield 22, 3) := oc_180 shX12_likelyOn_8
theorem dX12_likelyOn_11 : decode cX12_likelyOn 11 = .ok (.iload_n 1, 1) := oc_27 shX12_likelyOn_11
theorem dX12_likelyOn_12 : decode cX12_likelyOn 12 = .ok (.iaload, 1) := oc_46 shX12_likelyOn_12
theorem dX12_likelyOn_13 : decode cX12_likelyOn 13 = .ok (.isub, 1) := oc_100 shX12_likelyOn_13
theorem dX12_likelyOn_14 : decode cX12_likelyOn 14 = .ok (.imul, 1) := oc_104 shX12_likelyOn_14
theorem dX12_likelyOn_15 : decode cX12_likelyOn 15 = .ok (.istore_n 3, 1) := oc_62 shX12_likelyOn_15
theorem dX12_likelyOn_16 : decode cX12_likelyOn 16 = .ok (.iload_n 3, 1) := oc_29 shX12_likelyOn_16
theorem dX12_likelyOn_17 : decode cX12_likelyOn 17 = .ok (.aload_n 0, 1) := oc_42 shX12_likelyOn_17
theorem dX12_likelyOn_18 : decode cX12_likelyOn 18 = .ok (.getfield 19, 3) := oc_180 shX12_likelyOn_18
theorem dX12_likelyOn_21 : decode cX12_likelyOn 21 = .ok (.iload_n 1, 1) := oc_27 shX12_likelyOn_21
theorem dX12_likelyOn_22 : decode cX12_likelyOn 22 = .ok (.iaload, 1) := oc_46 shX12_likelyOn_22
theorem dX12_likelyOn_23 : decode cX12_likelyOn 23 = .ok (.if_icmp .ge 7, 3) := oc_162 shX12_likelyOn_23 sgw_0_7
theorem dX12_likelyOn_26 : decode cX12_likelyOn 26 = .ok (.iload_n 3, 1) := oc_29 shX12_likelyOn_26
theorem dX12_likelyOn_27 : decode cX12_likelyOn 27 = .ok (.goto 9, 3) := oc_167 shX12_likelyOn_27 sgw_0_9
theorem dX12_likelyOn_30 : decode cX12_likelyOn 30 = .ok (.aload_n 0, 1) := oc_42 shX12_likelyOn_30
theorem dX12_likelyOn_31 : decode cX12_likelyOn 31 = .ok (.getfield 19, 3) := oc_180 shX12_likelyOn_31
theorem dX12_likelyOn_34 : decode cX12_likelyOn 34 = .ok (.iload_n 1, 1) := oc_27 shX12_likelyOn_34
theorem dX12_likelyOn_35 : decode cX12_likelyOn 35 = .ok (.iaload, 1) := oc_46 shX12_likelyOn_35
theorem dX12_likelyOn_36 : decode cX12_likelyOn 36 = .ok (.ireturn, 1) := oc_172 shX12_likelyOn_36
noncomputable def sxX12_likely_35 : List UInt8 := []
noncomputable def sxX12_likely_34 : List UInt8 := 172 :: sxX12_likely_35
noncomputable def sxX12_likely_31 : List UInt8 := 182 :: 0 :: 222 :: sxX12_likely_34
noncomputable def sxX12_likely_30 : List UInt8 := 28 :: sxX12_likely_31
noncomputable def sxX12_likely_29 : List UInt8 := 27 :: sxX12_likely_30
noncomputable def sxX12_likely_28 : List UInt8 := 42 :: sxX12_likely_29
noncomputable def sxX12_likely_25 : List UInt8 := 167 :: 0 :: 9 :: sxX12_likely_28
noncomputable def sxX12_likely_24 : List UInt8 := 2 :: sxX12_likely_25
noncomputable def sxX12_likely_21 : List UInt8 := 154 :: 0 :: 7 :: sxX12_likely_24
noncomputable def sxX12_likely_18 : List UInt8 := 184 :: 0 :: 214 :: sxX12_likely_21
noncomputable def sxX12_likely_15 : List UInt8 := 17 :: 1 :: 143 :: sxX12_likely_18
noncomputable def sxX12_likely_14 : List UInt8 := 46 :: sxX12_likely_15
noncomputable def sxX12_likely_13 : List UInt8 := 27 :: sxX12_likely_14
noncomputable def sxX12_likely_10 : List UInt8 := 180 :: 0 :: 22 :: sxX12_likely_13
noncomputable def sxX12_likely_9 : List UInt8 := 42 :: sxX12_likely_10
noncomputable def sxX12_likely_8 : List UInt8 := 28 :: sxX12_likely_9
noncomputable def sxX12_likely_5 : List UInt8 := 153 :: 0 :: 19 :: sxX12_likely_8
noncomputable def sxX12_likely_2 : List UInt8 := 182 :: 0 :: 218 :: sxX12_likely_5
noncomputable def sxX12_likely_1 : List UInt8 := 27 :: sxX12_likely_2
noncomputable def sxX12_likely_0 : List UInt8 := 42 :: sxX12_likely_1
theorem shX12_likely_0 : cX12_likely.data.toList.drop 0 = sxX12_likely_0 := rfl
theorem shX12_likely_1 : cX12_likely.data.toList.drop 1 = sxX12_likely_1 := dSn 1 shX12_likely_0
theorem shX12_likely_2 : cX12_likely.data.toList.drop 2 = sxX12_likely_2 := dSn 1 shX12_likely_1
theorem shX12_likely_5 : cX12_likely.data.toList.drop 5 = sxX12_likely_5 := dSn 3 shX12_likely_2
theorem shX12_likely_8 : cX12_likely.data.toList.drop 8 = sxX12_likely_8 := dSn 3 shX12_likely_5
theorem shX12_likely_9 : cX12_likely.data.toList.drop 9 = sxX12_likely_9 := dSn 1 shX12_likely_8
theorem shX12_likely_10 : cX12_likely.data.toList.drop 10 = sxX12_likely_10 := dSn 1 shX12_likely_9
theorem shX12_likely_13 : cX12_likely.data.toList.drop 13 = sxX12_likely_13 := dSn 3 shX12_likely_10
theorem shX12_likely_14 : cX12_likely.data.toList.drop 14 = sxX12_likely_14 := dSn 1 shX12_likely_13
theorem shX12_likely_15 : cX12_likely.data.toList.drop 15 = sxX12_likely_15 := dSn 1 shX12_likely_14
theorem shX12_likely_18 : cX12_likely.data.toList.drop 18 = sxX12_likely_18 := dSn 3 shX12_likely_15
theorem shX12_likely_21 : cX12_likely.data.toList.drop 21 = sxX12_likely_21 := dSn 3 shX12_likely_18
theorem shX12_likely_24 : cX12_likely.data.toList.drop 24 = sxX12_likely_24 := dSn 3 shX12_likely_21
theorem shX12_likely_25 : cX12_likely.data.toList.drop 25 = sxX12_likely_25 := dSn 1 shX12_likely_24
theorem shX12_likely_28 : cX12_likely.data.toList.drop 28 = sxX12_likely_28 := dSn 3 shX12_likely_25
theorem shX12_likely_29 : cX12_likely.data.toList.drop 29 = sxX12_likely_29 := dSn 1 shX12_likely_28
theorem shX12_likely_30 : cX12_likely.data.toList.drop 30 = sxX12_likely_30 := dSn 1 shX12_likely_29
theorem shX12_likely_31 : cX12_likely.data.toList.drop 31 = sxX12_likely_31 := dSn 1 shX12_likely_30
theorem shX12_likely_34 : cX12_likely.data.toList.drop 34 = sxX12_likely_34 := dSn 3 shX12_likely_31
theorem dX12_likely_0 : decode cX12_likely 0 = .ok (.aload_n 0, 1) := oc_42 shX12_likely_0
theorem dX12_likely_1 : decode cX12_likely 1 = .ok (.iload_n 1, 1) := oc_27 shX12_likely_1
theorem dX12_likely_2 : decode cX12_likely 2 = .ok (.invokevirtual 218, 3) := oc_182 shX12_likely_2
theorem dX12_likely_5 : decode cX12_likely 5 = .ok (.ifCond .eq 19, 3) := oc_153 shX12_likely_5 sgw_0_19
theorem dX12_likely_8 : decode cX12_likely 8 = .ok (.iload_n 2, 1) := oc_28 shX12_likely_8
theorem dX12_likely_9 : decode cX12_likely 9 = .ok (.aload_n 0, 1) := oc_42 shX12_likely_9
theorem dX12_likely_10 : decode cX12_likely 10 = .ok (.getfield 22, 3) := oc_180 shX12_likely_10
theorem dX12_likely_13 : decode cX12_likely 13 = .ok (.iload_n 1, 1) := oc_27 shX12_likely_13
theorem dX12_likely_14 : decode cX12_likely 14 = .ok (.iaload, 1) := oc_46 shX12_likely_14
theorem dX12_likely_15 : decode cX12_likely 15 = .ok (.sipush 399, 3) := oc_17 shX12_likely_15 sgw_1_143
theorem dX12_likely_18 : decode cX12_likely 18 = .ok (.invokestatic 214, 3) := oc_184 shX12_likely_18
theorem dX12_likely_21 : decode cX12_likely 21 = .ok (.ifCond .ne 7, 3) := oc_154 shX12_likely_21 sgw_0_7
theorem dX12_likely_24 : decode cX12_likely 24 = .ok (.iconst (-1), 1) := oc_2 shX12_likely_24
theorem dX12_likely_25 : decode cX12_likely 25 = .ok (.goto 9, 3) := oc_167 shX12_likely_25 sgw_0_9
theorem dX12_likely_28 : decode cX12_likely 28 = .ok (.aload_n 0, 1) := oc_42 shX12_likely_28
theorem dX12_likely_29 : decode cX12_likely 29 = .ok (.iload_n 1, 1) := oc_27 shX12_likely_29
theorem dX12_likely_30 : decode cX12_likely 30 = .ok (.iload_n 2, 1) := oc_28 shX12_likely_30
theorem dX12_likely_31 : decode cX12_likely 31 = .ok (.invokevirtual 222, 3) := oc_182 shX12_likely_31
theorem dX12_likely_34 : decode cX12_likely 34 = .ok (.ireturn, 1) := oc_172 shX12_likely_34
noncomputable def sxX12_fetch_235 : List UInt8 := []
noncomputable def sxX12_fetch_234 : List UInt8 := 172 :: sxX12_fetch_235
noncomputable def sxX12_fetch_233 : List UInt8 := 100 :: sxX12_fetch_234
noncomputable def sxX12_fetch_232 : List UInt8 := 4 :: sxX12_fetch_233
noncomputable def sxX12_fetch_229 : List UInt8 := 180 :: 0 :: 208 :: sxX12_fetch_232
noncomputable def sxX12_fetch_228 : List UInt8 := 42 :: sxX12_fetch_229
noncomputable def sxX12_fetch_225 : List UInt8 := 181 :: 0 :: 208 :: sxX12_fetch_228
noncomputable def sxX12_fetch_224 : List UInt8 := 96 :: sxX12_fetch_225
noncomputable def sxX12_fetch_223 : List UInt8 := 4 :: sxX12_fetch_224
noncomputable def sxX12_fetch_220 : List UInt8 := 180 :: 0 :: 208 :: sxX12_fetch_223
noncomputable def sxX12_fetch_219 : List UInt8 := 42 :: sxX12_fetch_220
noncomputable def sxX12_fetch_218 : List UInt8 := 42 :: sxX12_fetch_219
noncomputable def sxX12_fetch_217 : List UInt8 := 79 :: sxX12_fetch_218
noncomputable def sxX12_fetch_216 : List UInt8 := 28 :: sxX12_fetch_217
noncomputable def sxX12_fetch_215 : List UInt8 := 27 :: sxX12_fetch_216
noncomputable def sxX12_fetch_212 : List UInt8 := 180 :: 0 :: 22 :: sxX12_fetch_215
noncomputable def sxX12_fetch_211 : List UInt8 := 42 :: sxX12_fetch_212
noncomputable def sxX12_fetch_210 : List UInt8 := 79 :: sxX12_fetch_211
noncomputable def sxX12_fetch_209 : List UInt8 := 46 :: sxX12_fetch_210
noncomputable def sxX12_fetch_208 : List UInt8 := 27 :: sxX12_fetch_209
noncomputable def sxX12_fetch_205 : List UInt8 := 180 :: 0 :: 22 :: sxX12_fetch_208
noncomputable def sxX12_fetch_204 : List UInt8 := 42 :: sxX12_fetch_205
noncomputable def sxX12_fetch_201 : List UInt8 := 180 :: 0 :: 208 :: sxX12_fetch_204
noncomputable def sxX12_fetch_200 : List UInt8 := 42 :: sxX12_fetch_201
noncomputable def sxX12_fetch_197 : List UInt8 := 180 :: 0 :: 49 :: sxX12_fetch_200
noncomputable def sxX12_fetch_196 : List UInt8 := 42 :: sxX12_fetch_197
noncomputable def sxX12_fetch_195 : List UInt8 := 79 :: sxX12_fetch_196
noncomputable def sxX12_fetch_194 : List UInt8 := 2 :: sxX12_fetch_195
noncomputable def sxX12_fetch_191 : List UInt8 := 180 :: 0 :: 208 :: sxX12_fetch_194
noncomputable def sxX12_fetch_190 : List UInt8 := 42 :: sxX12_fetch_191
noncomputable def sxX12_fetch_187 : List UInt8 := 180 :: 0 :: 46 :: sxX12_fetch_190
noncomputable def sxX12_fetch_186 : List UInt8 := 42 :: sxX12_fetch_187
noncomputable def sxX12_fetch_185 : List UInt8 := 79 :: sxX12_fetch_186
noncomputable def sxX12_fetch_184 : List UInt8 := 3 :: sxX12_fetch_185
noncomputable def sxX12_fetch_181 : List UInt8 := 167 :: 0 :: 4 :: sxX12_fetch_184
noncomputable def sxX12_fetch_179 : List UInt8 := 21 :: 8 :: sxX12_fetch_181
noncomputable def sxX12_fetch_176 : List UInt8 := 158 :: 0 :: 8 :: sxX12_fetch_179
noncomputable def sxX12_fetch_174 : List UInt8 := 21 :: 8 :: sxX12_fetch_176
noncomputable def sxX12_fetch_171 : List UInt8 := 180 :: 0 :: 208 :: sxX12_fetch_174
noncomputable def sxX12_fetch_170 : List UInt8 := 42 :: sxX12_fetch_171
noncomputable def sxX12_fetch_167 : List UInt8 := 180 :: 0 :: 43 :: sxX12_fetch_170
noncomputable def sxX12_fetch_166 : List UInt8 := 42 :: sxX12_fetch_167
noncomputable def sxX12_fetch_165 : List UInt8 := 79 :: sxX12_fetch_166
noncomputable def sxX12_fetch_163 : List UInt8 := 21 :: 6 :: sxX12_fetch_165
noncomputable def sxX12_fetch_160 : List UInt8 := 180 :: 0 :: 208 :: sxX12_fetch_163
noncomputable def sxX12_fetch_159 : List UInt8 := 42 :: sxX12_fetch_160
noncomputable def sxX12_fetch_156 : List UInt8 := 180 :: 0 :: 40 :: sxX12_fetch_159
noncomputable def sxX12_fetch_155 : List UInt8 := 42 :: sxX12_fetch_156
noncomputable def sxX12_fetch_154 : List UInt8 := 79 :: sxX12_fetch_155
noncomputable def sxX12_fetch_152 : List UInt8 := 21 :: 5 :: sxX12_fetch_154
noncomputable def sxX12_fetch_149 : List UInt8 := 180 :: 0 :: 208 :: sxX12_fetch_152
noncomputable def sxX12_fetch_148 : List UInt8 := 42 :: sxX12_fetch_149
noncomputable def sxX12_fetch_145 : List UInt8 := 180 :: 0 :: 37 :: sxX12_fetch_148
noncomputable def sxX12_fetch_144 : List UInt8 := 42 :: sxX12_fetch_145
noncomputable def sxX12_fetch_143 : List UInt8 := 79 :: sxX12_fetch_144
noncomputable def sxX12_fetch_141 : List UInt8 := 21 :: 4 :: sxX12_fetch_143
noncomputable def sxX12_fetch_138 : List UInt8 := 180 :: 0 :: 208 :: sxX12_fetch_141
noncomputable def sxX12_fetch_137 : List UInt8 := 42 :: sxX12_fetch_138
noncomputable def sxX12_fetch_134 : List UInt8 := 180 :: 0 :: 34 :: sxX12_fetch_137
noncomputable def sxX12_fetch_133 : List UInt8 := 42 :: sxX12_fetch_134
noncomputable def sxX12_fetch_132 : List UInt8 := 79 :: sxX12_fetch_133
noncomputable def sxX12_fetch_131 : List UInt8 := 29 :: sxX12_fetch_132
noncomputable def sxX12_fetch_128 : List UInt8 := 180 :: 0 :: 208 :: sxX12_fetch_131
noncomputable def sxX12_fetch_127 : List UInt8 := 42 :: sxX12_fetch_128
noncomputable def sxX12_fetch_124 : List UInt8 := 180 :: 0 :: 31 :: sxX12_fetch_127
noncomputable def sxX12_fetch_123 : List UInt8 := 42 :: sxX12_fetch_124
noncomputable def sxX12_fetch_122 : List UInt8 := 79 :: sxX12_fetch_123
noncomputable def sxX12_fetch_121 : List UInt8 := 28 :: sxX12_fetch_122
noncomputable def sxX12_fetch_118 : List UInt8 := 180 :: 0 :: 208 :: sxX12_fetch_121
noncomputable def sxX12_fetch_117 : List UInt8 := 42 :: sxX12_fetch_118
noncomputable def sxX12_fetch_114 : List UInt8 := 180 :: 0 :: 28 :: sxX12_fetch_117
noncomputable def sxX12_fetch_113 : List UInt8 := 42 :: sxX12_fetch_114
noncomputable def sxX12_fetch_112 : List UInt8 := 79 :: sxX12_fetch_113
noncomputable def sxX12_fetch_111 : List UInt8 := 27 :: sxX12_fetch_112
noncomputable def sxX12_fetch_108 : List UInt8 := 180 :: 0 :: 208 :: sxX12_fetch_111
noncomputable def sxX12_fetch_107 : List UInt8 := 42 :: sxX12_fetch_108
noncomputable def sxX12_fetch_104 : List UInt8 := 180 :: 0 :: 25 :: sxX12_fetch_107
noncomputable def sxX12_fetch_103 : List UInt8 := 42 :: sxX12_fetch_104
noncomputable def sxX12_fetch_101 : List UInt8 := 54 :: 8 :: sxX12_fetch_103
noncomputable def sxX12_fetch_100 : List UInt8 := 100 :: sxX12_fetch_101
noncomputable def sxX12_fetch_99 : List UInt8 := 108 :: sxX12_fetch_100
noncomputable def sxX12_fetch_97 : List UInt8 := 16 :: 10 :: sxX12_fetch_99
noncomputable def sxX12_fetch_95 : List UInt8 := 21 :: 7 :: sxX12_fetch_97
noncomputable def sxX12_fetch_94 : List UInt8 := 100 :: sxX12_fetch_95
noncomputable def sxX12_fetch_93 : List UInt8 := 29 :: sxX12_fetch_94
noncomputable def sxX12_fetch_91 : List UInt8 := 21 :: 7 :: sxX12_fetch_93
noncomputable def sxX12_fetch_89 : List UInt8 := 54 :: 7 :: sxX12_fetch_91
noncomputable def sxX12_fetch_86 : List UInt8 := 182 :: 0 :: 222 :: sxX12_fetch_89
noncomputable def sxX12_fetch_85 : List UInt8 := 28 :: sxX12_fetch_86
noncomputable def sxX12_fetch_84 : List UInt8 := 27 :: sxX12_fetch_85
noncomputable def sxX12_fetch_83 : List UInt8 := 42 :: sxX12_fetch_84
noncomputable def sxX12_fetch_82 : List UInt8 := 172 :: sxX12_fetch_83
noncomputable def sxX12_fetch_81 : List UInt8 := 2 :: sxX12_fetch_82
noncomputable def sxX12_fetch_78 : List UInt8 := 160 :: 0 :: 5 :: sxX12_fetch_81
noncomputable def sxX12_fetch_76 : List UInt8 := 16 :: 60 :: sxX12_fetch_78
noncomputable def sxX12_fetch_73 : List UInt8 := 180 :: 0 :: 208 :: sxX12_fetch_76
noncomputable def sxX12_fetch_72 : List UInt8 := 42 :: sxX12_fetch_73
noncomputable def sxX12_fetch_69 : List UInt8 := 153 :: 0 :: 12 :: sxX12_fetch_72
noncomputable def sxX12_fetch_66 : List UInt8 := 184 :: 0 :: 214 :: sxX12_fetch_69
noncomputable def sxX12_fetch_63 : List UInt8 := 17 :: 1 :: 143 :: sxX12_fetch_66
noncomputable def sxX12_fetch_62 : List UInt8 := 28 :: sxX12_fetch_63
noncomputable def sxX12_fetch_60 : List UInt8 := 21 :: 6 :: sxX12_fetch_62
noncomputable def sxX12_fetch_57 : List UInt8 := 153 :: 0 :: 24 :: sxX12_fetch_60
noncomputable def sxX12_fetch_54 : List UInt8 := 184 :: 0 :: 214 :: sxX12_fetch_57
noncomputable def sxX12_fetch_51 : List UInt8 := 17 :: 3 :: 232 :: sxX12_fetch_54
noncomputable def sxX12_fetch_50 : List UInt8 := 3 :: sxX12_fetch_51
noncomputable def sxX12_fetch_48 : List UInt8 := 21 :: 5 :: sxX12_fetch_50
noncomputable def sxX12_fetch_45 : List UInt8 := 153 :: 0 :: 36 :: sxX12_fetch_48
noncomputable def sxX12_fetch_42 : List UInt8 := 184 :: 0 :: 214 :: sxX12_fetch_45
noncomputable def sxX12_fetch_39 : List UInt8 := 17 :: 3 :: 232 :: sxX12_fetch_42
noncomputable def sxX12_fetch_38 : List UInt8 := 3 :: sxX12_fetch_39
noncomputable def sxX12_fetch_36 : List UInt8 := 21 :: 4 :: sxX12_fetch_38
noncomputable def sxX12_fetch_33 : List UInt8 := 153 :: 0 :: 48 :: sxX12_fetch_36
noncomputable def sxX12_fetch_30 : List UInt8 := 184 :: 0 :: 214 :: sxX12_fetch_33
noncomputable def sxX12_fetch_27 : List UInt8 := 17 :: 1 :: 144 :: sxX12_fetch_30
noncomputable def sxX12_fetch_26 : List UInt8 := 3 :: sxX12_fetch_27
noncomputable def sxX12_fetch_25 : List UInt8 := 29 :: sxX12_fetch_26
noncomputable def sxX12_fetch_22 : List UInt8 := 153 :: 0 :: 59 :: sxX12_fetch_25
noncomputable def sxX12_fetch_19 : List UInt8 := 184 :: 0 :: 214 :: sxX12_fetch_22
noncomputable def sxX12_fetch_16 : List UInt8 := 180 :: 0 :: 211 :: sxX12_fetch_19
noncomputable def sxX12_fetch_15 : List UInt8 := 42 :: sxX12_fetch_16
noncomputable def sxX12_fetch_14 : List UInt8 := 46 :: sxX12_fetch_15
noncomputable def sxX12_fetch_13 : List UInt8 := 27 :: sxX12_fetch_14
noncomputable def sxX12_fetch_10 : List UInt8 := 180 :: 0 :: 22 :: sxX12_fetch_13
noncomputable def sxX12_fetch_9 : List UInt8 := 42 :: sxX12_fetch_10
noncomputable def sxX12_fetch_8 : List UInt8 := 28 :: sxX12_fetch_9
noncomputable def sxX12_fetch_5 : List UInt8 := 153 :: 0 :: 76 :: sxX12_fetch_8
noncomputable def sxX12_fetch_2 : List UInt8 := 182 :: 0 :: 218 :: sxX12_fetch_5
noncomputable def sxX12_fetch_1 : List UInt8 := 27 :: sxX12_fetch_2
noncomputable def sxX12_fetch_0 : List UInt8 := 42 :: sxX12_fetch_1
theorem shX12_fetch_0 : cX12_fetch.data.toList.drop 0 = sxX12_fetch_0 := rfl
theorem shX12_fetch_1 : cX12_fetch.data.toList.drop 1 = sxX12_fetch_1 := dSn 1 shX12_fetch_0
theorem shX12_fetch_2 : cX12_fetch.data.toList.drop 2 = sxX12_fetch_2 := dSn 1 shX12_fetch_1
theorem shX12_fetch_5 : cX12_fetch.data.toList.drop 5 = sxX12_fetch_5 := dSn 3 shX12_fetch_2
theorem shX12_fetch_8 : cX12_fetch.data.toList.drop 8 = sxX12_fetch_8 := dSn 3 shX12_fetch_5
theorem shX12_fetch_9 : cX12_fetch.data.toList.drop 9 = sxX12_fetch_9 := dSn 1 shX12_fetch_8
theorem shX12_fetch_10 : cX12_fetch.data.toList.drop 10 = sxX12_fetch_10 := dSn 1 shX12_fetch_9
theorem shX12_fetch_13 : cX12_fetch.data.toList.drop 13 = sxX12_fetch_13 := dSn 3 shX12_fetch_10
theorem shX12_fetch_14 : cX12_fetch.data.toList.drop 14 = sxX12_fetch_14 := dSn 1 shX12_fetch_13
theorem shX12_fetch_15 : cX12_fetch.data.toList.drop 15 = sxX12_fetch_15 := dSn 1 shX12_fetch_14
theorem shX12_fetch_16 : cX12_fetch.data.toList.drop 16 = sxX12_fetch_16 := dSn 1 shX12_fetch_15
theorem shX12_fetch_19 : cX12_fetch.data.toList.drop 19 = sxX12_fetch_19 := dSn 3 shX12_fetch_16
theorem shX12_fetch_22 : cX12_fetch.data.toList.drop 22 = sxX12_fetch_22 := dSn 3 shX12_fetch_19
theorem shX12_fetch_25 : cX12_fetch.data.toList.drop 25 = sxX12_fetch_25 := dSn 3 shX12_fetch_22
theorem shX12_fetch_26 : cX12_fetch.data.toList.drop 26 = sxX12_fetch_26 := dSn 1 shX12_fetch_25
theorem shX12_fetch_27 : cX12_fetch.data.toList.drop 27 = sxX12_fetch_27 := dSn 1 shX12_fetch_26
theorem shX12_fetch_30 : cX12_fetch.data.toList.drop 30 = sxX12_fetch_30 := dSn 3 shX12_fetch_27
theorem shX12_fetch_33 : cX12_fetch.data.toList.drop 33 = sxX12_fetch_33 := dSn 3 shX12_fetch_30
theorem shX12_fetch_36 : cX12_fetch.data.toList.drop 36 = sxX12_fetch_36 := dSn 3 shX12_fetch_33
theorem shX12_fetch_38 : cX12_fetch.data.toList.drop 38 = sxX12_fetch_38 := dSn 2 shX12_fetch_36
theorem shX12_fetch_39 : cX12_fetch.data.toList.drop 39 = sxX12_fetch_39 := dSn 1 shX12_fetch_38
theorem shX12_fetch_42 : cX12_fetch.data.toList.drop 42 = sxX12_fetch_42 := dSn 3 shX12_fetch_39
theorem shX12_fetch_45 : cX12_fetch.data.toList.drop 45 = sxX12_fetch_45 := dSn 3 shX12_fetch_42
theorem shX12_fetch_48 : cX12_fetch.data.toList.drop 48 = sxX12_fetch_48 := dSn 3 shX12_fetch_45
theorem shX12_fetch_50 : cX12_fetch.data.toList.drop 50 = sxX12_fetch_50 := dSn 2 shX12_fetch_48
theorem shX12_fetch_51 : cX12_fetch.data.toList.drop 51 = sxX12_fetch_51 := dSn 1 shX12_fetch_50
theorem shX12_fetch_54 : cX12_fetch.data.toList.drop 54 = sxX12_fetch_54 := dSn 3 shX12_fetch_51
theorem shX12_fetch_57 : cX12_fetch.data.toList.drop 57 = sxX12_fetch_57 := dSn 3 shX12_fetch_54
theorem shX12_fetch_60 : cX12_fetch.data.toList.drop 60 = sxX12_fetch_60 := dSn 3 shX12_fetch_57
theorem shX12_fetch_62 : cX12_fetch.data.toList.drop 62 = sxX12_fetch_62 := dSn 2 shX12_fetch_60
theorem shX12_fetch_63 : cX12_fetch.data.toList.drop 63 = sxX12_fetch_63 := dSn 1 shX12_fetch_62
theorem shX12_fetch_66 : cX12_fetch.data.toList.drop 66 = sxX12_fetch_66 := dSn 3 shX12_fetch_63
theorem shX12_fetch_69 : cX12_fetch.data.toList.drop 69 = sxX12_fetch_69 := dSn 3 shX12_fetch_66
theorem shX12_fetch_72 : cX12_fetch.data.toList.drop 72 = sxX12_fetch_72 := dSn 3 shX12_fetch_69
theorem shX12_fetch_73 : cX12_fetch.data.toList.drop 73 = sxX12_fetch_73 := dSn 1 shX12_fetch_72
theorem shX12_fetch_76 : cX12_fetch.data.toList.drop 76 = sxX12_fetch_76 := dSn 3 shX12_fetch_73
theorem shX12_fetch_78 : cX12_fetch.data.toList.drop 78 = sxX12_fetch_78 := dSn 2 shX12_fetch_76
theorem shX12_fetch_81 : cX12_fetch.data.toList.drop 81 = sxX12_fetch_81 := dSn 3 shX12_fetch_78
theorem shX12_fetch_82 : cX12_fetch.data.toList.drop 82 = sxX12_fetch_82 := dSn 1 shX12_fetch_81
theorem shX12_fetch_83 : cX12_fetch.data.toList.drop 83 = sxX12_fetch_83 := dSn 1 shX12_fetch_82
theorem shX12_fetch_84 : cX12_fetch.data.toList.drop 84 = sxX12_fetch_84 := dSn 1 shX12_fetch_83
theorem shX12_fetch_85 : cX12_fetch.data.toList.drop 85 = sxX12_fetch_85 := dSn 1 shX12_fetch_84
theorem shX12_fetch_86 : cX12_fetch.data.toList.drop 86 = sxX12_fetch_86 := dSn 1 shX12_fetch_85
theorem shX12_fetch_89 : cX12_fetch.data.toList.drop 89 = sxX12_fetch_89 := dSn 3 shX12_fetch_86
theorem shX12_fetch_91 : cX12_fetch.data.toList.drop 91 = sxX12_fetch_91 := dSn 2 shX12_fetch_89
theorem shX12_fetch_93 : cX12_fetch.data.toList.drop 93 = sxX12_fetch_93 := dSn 2 shX12_fetch_91
theorem shX12_fetch_94 : cX12_fetch.data.toList.drop 94 = sxX12_fetch_94 := dSn 1 shX12_fetch_93
theorem shX12_fetch_95 : cX12_fetch.data.toList.drop 95 = sxX12_fetch_95 := dSn 1 shX12_fetch_94
theorem shX12_fetch_97 : cX12_fetch.data.toList.drop 97 = sxX12_fetch_97 := dSn 2 shX12_fetch_95
theorem shX12_fetch_99 : cX12_fetch.data.toList.drop 99 = sxX12_fetch_99 := dSn 2 shX12_fetch_97
theorem shX12_fetch_100 : cX12_fetch.data.toList.drop 100 = sxX12_fetch_100 := dSn 1 shX12_fetch_99
theorem shX12_fetch_101 : cX12_fetch.data.toList.drop 101 = sxX12_fetch_101 := dSn 1 shX12_fetch_100
theorem shX12_fetch_103 : cX12_fetch.data.toList.drop 103 = sxX12_fetch_103 := dSn 2 shX12_fetch_101
theorem shX12_fetch_104 : cX12_fetch.data.toList.drop 104 = sxX12_fetch_104 := dSn 1 shX12_fetch_103
theorem shX12_fetch_107 : cX12_fetch.data.toList.drop 107 = sxX12_fetch_107 := dSn 3 shX12_fetch_104
theorem shX12_fetch_108 : cX12_fetch.data.toList.drop 108 = sxX12_fetch_108 := dSn 1 shX12_fetch_107
theorem shX12_fetch_111 : cX12_fetch.data.toList.drop 111 = sxX12_fetch_111 := dSn 3 shX12_fetch_108
theorem shX12_fetch_112 : cX12_fetch.data.toList.drop 112 = sxX12_fetch_112 := dSn 1 shX12_fetch_111
theorem shX12_fetch_113 : cX12_fetch.data.toList.drop 113 = sxX12_fetch_113 := dSn 1 shX12_fetch_112
theorem shX12_fetch_114 : cX12_fetch.data.toList.drop 114 = sxX12_fetch_114 := dSn 1 shX12_fetch_113
theorem shX12_fetch_117 : cX12_fetch.data.toList.drop 117 = sxX12_fetch_117 := dSn 3 shX12_fetch_114
theorem shX12_fetch_118 : cX12_fetch.data.toList.drop 118 = sxX12_fetch_118 := dSn 1 shX12_fetch_117
theorem shX12_fetch_121 : cX12_fetch.data.toList.drop 121 = sxX12_fetch_121 := dSn 3 shX12_fetch_118
theorem shX12_fetch_122 : cX12_fetch.data.toList.drop 122 = sxX12_fetch_122 := dSn 1 shX12_fetch_121
theorem shX12_fetch_123 : cX12_fetch.data.toList.drop 123 = sxX12_fetch_123 := dSn 1 shX12_fetch_122
theorem shX12_fetch_124 : cX12_fetch.data.toList.drop 124 = sxX12_fetch_124 := dSn 1 shX12_fetch_123
theorem shX12_fetch_127 : cX12_fetch.data.toList.drop 127 = sxX12_fetch_127 := dSn 3 shX12_fetch_124
theorem shX12_fetch_128 : cX12_fetch.data.toList.drop 128 = sxX12_fetch_128 := dSn 1 shX12_fetch_127
theorem shX12_fetch_131 : cX12_fetch.data.toList.drop 131 = sxX12_fetch_131 := dSn 3 shX12_fetch_128
theorem shX12_fetch_132 : cX12_fetch.data.toList.drop 132 = sxX12_fetch_132 := dSn 1 shX12_fetch_131
theorem shX12_fetch_133 : cX12_fetch.data.toList.drop 133 = sxX12_fetch_133 := dSn 1 shX12_fetch_132
theorem shX12_fetch_134 : cX12_fetch.data.toList.drop 134 = sxX12_fetch_134 := dSn 1 shX12_fetch_133
theorem shX12_fetch_137 : cX12_fetch.data.toList.drop 137 = sxX12_fetch_137 := dSn 3 shX12_fetch_134
theorem shX12_fetch_138 : cX12_fetch.data.toList.drop 138 = sxX12_fetch_138 := dSn 1 shX12_fetch_137
theorem shX12_fetch_141 : cX12_fetch.data.toList.drop 141 = sxX12_fetch_141 := dSn 3 shX12_fetch_138
theorem shX12_fetch_143 : cX12_fetch.data.toList.drop 143 = sxX12_fetch_143 := dSn 2 shX12_fetch_141
theorem shX12_fetch_144 : cX12_fetch.data.toList.drop 144 = sxX12_fetch_144 := dSn 1 shX12_fetch_143
theorem shX12_fetch_145 : cX12_fetch.data.toList.drop 145 = sxX12_fetch_145 := dSn 1 shX12_fetch_144
theorem shX12_fetch_148 : cX12_fetch.data.toList.drop 148 = sxX12_fetch_148 := dSn 3 shX12_fetch_145
theorem shX12_fetch_149 : cX12_fetch.data.toList.drop 149 = sxX12_fetch_149 := dSn 1 shX12_fetch_148
theorem shX12_fetch_152 : cX12_fetch.data.toList.drop 152 = sxX12_fetch_152 := dSn 3 shX12_fetch_149
theorem shX12_fetch_154 : cX12_fetch.data.toList.drop 154 = sxX12_fetch_154 := dSn 2 shX12_fetch_152
theorem shX12_fetch_155 : cX12_fetch.data.toList.drop 155 = sxX12_fetch_155 := dSn 1 shX12_fetch_154
theorem shX12_fetch_156 : cX12_fetch.data.toList.drop 156 = sxX12_fetch_156 := dSn 1 shX12_fetch_155
theorem shX12_fetch_159 : cX12_fetch.data.toList.drop 159 = sxX12_fetch_159 := dSn 3 shX12_fetch_156
theorem shX12_fetch_160 : cX12_fetch.data.toList.drop 160 = sxX12_fetch_160 := dSn 1 shX12_fetch_159
theorem shX12_fetch_163 : cX12_fetch.data.toList.drop 163 = sxX12_fetch_163 := dSn 3 shX12_fetch_160
theorem shX12_fetch_165 : cX12_fetch.data.toList.drop 165 = sxX12_fetch_165 := dSn 2 shX12_fetch_163
theorem shX12_fetch_166 : cX12_fetch.data.toList.drop 166 = sxX12_fetch_166 := dSn 1 shX12_fetch_165
theorem shX12_fetch_167 : cX12_fetch.data.toList.drop 167 = sxX12_fetch_167 := dSn 1 shX12_fetch_166
theorem shX12_fetch_170 : cX12_fetch.data.toList.drop 170 = sxX12_fetch_170 := dSn 3 shX12_fetch_167
theorem shX12_fetch_171 : cX12_fetch.data.toList.drop 171 = sxX12_fetch_171 := dSn 1 shX12_fetch_170
theorem shX12_fetch_174 : cX12_fetch.data.toList.drop 174 = sxX12_fetch_174 := dSn 3 shX12_fetch_171
theorem shX12_fetch_176 : cX12_fetch.data.toList.drop 176 = sxX12_fetch_176 := dSn 2 shX12_fetch_174
theorem shX12_fetch_179 : cX12_fetch.data.toList.drop 179 = sxX12_fetch_179 := dSn 3 shX12_fetch_176
theorem shX12_fetch_181 : cX12_fetch.data.toList.drop 181 = sxX12_fetch_181 := dSn 2 shX12_fetch_179
theorem shX12_fetch_184 : cX12_fetch.data.toList.drop 184 = sxX12_fetch_184 := dSn 3 shX12_fetch_181
theorem shX12_fetch_185 : cX12_fetch.data.toList.drop 185 = sxX12_fetch_185 := dSn 1 shX12_fetch_184
theorem shX12_fetch_186 : cX12_fetch.data.toList.drop 186 = sxX12_fetch_186 := dSn 1 shX12_fetch_185
theorem shX12_fetch_187 : cX12_fetch.data.toList.drop 187 = sxX12_fetch_187 := dSn 1 shX12_fetch_186
theorem shX12_fetch_190 : cX12_fetch.data.toList.drop 190 = sxX12_fetch_190 := dSn 3 shX12_fetch_187
theorem shX12_fetch_191 : cX12_fetch.data.toList.drop 191 = sxX12_fetch_191 := dSn 1 shX12_fetch_190
theorem shX12_fetch_194 : cX12_fetch.data.toList.drop 194 = sxX12_fetch_194 := dSn 3 shX12_fetch_191
theorem shX12_fetch_195 : cX12_fetch.data.toList.drop 195 = sxX12_fetch_195 := dSn 1 shX12_fetch_194
theorem shX12_fetch_196 : cX12_fetch.data.toList.drop 196 = sxX12_fetch_196 := dSn 1 shX12_fetch_195
theorem shX12_fetch_197 : cX12_fetch.data.toList.drop 197 = sxX12_fetch_197 := dSn 1 shX12_fetch_196
theorem shX12_fetch_200 : cX12_fetch.data.toList.drop 200 = sxX12_fetch_200 := dSn 3 shX12_fetch_197
theorem shX12_fetch_201 : cX12_fetch.data.toList.drop 201 = sxX12_fetch_201 := dSn 1 shX12_fetch_200
theorem shX12_fetch_204 : cX12_fetch.data.toList.drop 204 = sxX12_fetch_204 := dSn 3 shX12_fetch_201
theorem shX12_fetch_205 : cX12_fetch.data.toList.drop 205 = sxX12_fetch_205 := dSn 1 shX12_fetch_204
theorem shX12_fetch_208 : cX12_fetch.data.toList.drop 208 = sxX12_fetch_208 := dSn 3 shX12_fetch_205
theorem shX12_fetch_209 : cX12_fetch.data.toList.drop 209 = sxX12_fetch_209 := dSn 1 shX12_fetch_208
theorem shX12_fetch_210 : cX12_fetch.data.toList.drop 210 = sxX12_fetch_210 := dSn 1 shX12_fetch_209
theorem shX12_fetch_211 : cX12_fetch.data.toList.drop 211 = sxX12_fetch_211 := dSn 1 shX12_fetch_210
theorem shX12_fetch_212 : cX12_fetch.data.toList.drop 212 = sxX12_fetch_212 := dSn 1 shX12_fetch_211
theorem shX12_fetch_215 : cX12_fetch.data.toList.drop 215 = sxX12_fetch_215 := dSn 3 shX12_fetch_212
theorem shX12_fetch_216 : cX12_fetch.data.toList.drop 216 = sxX12_fetch_216 := dSn 1 shX12_fetch_215
theorem shX12_fetch_217 : cX12_fetch.data.toList.drop 217 = sxX12_fetch_217 := dSn 1 shX12_fetch_216
theorem shX12_fetch_218 : cX12_fetch.data.toList.drop 218 = sxX12_fetch_218 := dSn 1 shX12_fetch_217
theorem shX12_fetch_219 : cX12_fetch.data.toList.drop 219 = sxX12_fetch_219 := dSn 1 shX12_fetch_218
theorem shX12_fetch_220 : cX12_fetch.data.toList.drop 220 = sxX12_fetch_220 := dSn 1 shX12_fetch_219
theorem shX12_fetch_223 : cX12_fetch.data.toList.drop 223 = sxX12_fetch_223 := dSn 3 shX12_fetch_220
theorem shX12_fetch_224 : cX12_fetch.data.toList.drop 224 = sxX12_fetch_224 := dSn 1 shX12_fetch_223
theorem shX12_fetch_225 : cX12_fetch.data.toList.drop 225 = sxX12_fetch_225 := dSn 1 shX12_fetch_224
theorem shX12_fetch_228 : cX12_fetch.data.toList.drop 228 = sxX12_fetch_228 := dSn 3 shX12_fetch_225
theorem shX12_fetch_229 : cX12_fetch.data.toList.drop 229 = sxX12_fetch_229 := dSn 1 shX12_fetch_228
theorem shX12_fetch_232 : cX12_fetch.data.toList.drop 232 = sxX12_fetch_232 := dSn 3 shX12_fetch_229
theorem shX12_fetch_233 : cX12_fetch.data.toList.drop 233 = sxX12_fetch_233 := dSn 1 shX12_fetch_232
theorem shX12_fetch_234 : cX12_fetch.data.toList.drop 234 = sxX12_fetch_234 := dSn 1 shX12_fetch_233
theorem dX12_fetch_0 : decode cX12_fetch 0 = .ok (.aload_n 0, 1) := oc_42 shX12_fetch_0
theorem dX12_fetch_1 : decode cX12_fetch 1 = .ok (.iload_n 1, 1) := oc_27 shX12_fetch_1
theorem dX12_fetch_2 : decode cX12_fetch 2 = .ok (.invokevirtual 218, 3) := oc_182 shX12_fetch_2
theorem dX12_fetch_5 : decode cX12_fetch 5 = .ok (.ifCond .eq 76, 3) := oc_153 shX12_fetch_5 sgw_0_76
theorem dX12_fetch_8 : decode cX12_fetch 8 = .ok (.iload_n 2, 1) := oc_28 shX12_fetch_8
theorem dX12_fetch_9 : decode cX12_fetch 9 = .ok (.aload_n 0, 1) := oc_42 shX12_fetch_9
theorem dX12_fetch_10 : decode cX12_fetch 10 = .ok (.getfield 22, 3) := oc_180 shX12_fetch_10
theorem dX12_fetch_13 : decode cX12_fetch 13 = .ok (.iload_n 1, 1) := oc_27 shX12_fetch_13
theorem dX12_fetch_14 : decode cX12_fetch 14 = .ok (.iaload, 1) := oc_46 shX12_fetch_14
theorem dX12_fetch_15 : decode cX12_fetch 15 = .ok (.aload_n 0, 1) := oc_42 shX12_fetch_15
theorem dX12_fetch_16 : decode cX12_fetch 16 = .ok (.getfield 211, 3) := oc_180 shX12_fetch_16
theorem dX12_fetch_19 : decode cX12_fetch 19 = .ok (.invokestatic 214, 3) := oc_184 shX12_fetch_19
theorem dX12_fetch_22 : decode cX12_fetch 22 = .ok (.ifCond .eq 59, 3) := oc_153 shX12_fetch_22 sgw_0_59
theorem dX12_fetch_25 : decode cX12_fetch 25 = .ok (.iload_n 3, 1) := oc_29 shX12_fetch_25
theorem dX12_fetch_26 : decode cX12_fetch 26 = .ok (.iconst 0, 1) := oc_3 shX12_fetch_26
theorem dX12_fetch_27 : decode cX12_fetch 27 = .ok (.sipush 400, 3) := oc_17 shX12_fetch_27 sgw_1_144
theorem dX12_fetch_30 : decode cX12_fetch 30 = .ok (.invokestatic 214, 3) := oc_184 shX12_fetch_30
theorem dX12_fetch_33 : decode cX12_fetch 33 = .ok (.ifCond .eq 48, 3) := oc_153 shX12_fetch_33 sgw_0_48
theorem dX12_fetch_36 : decode cX12_fetch 36 = .ok (.iload 4, 2) := oc_21 shX12_fetch_36
theorem dX12_fetch_38 : decode cX12_fetch 38 = .ok (.iconst 0, 1) := oc_3 shX12_fetch_38
theorem dX12_fetch_39 : decode cX12_fetch 39 = .ok (.sipush 1000, 3) := oc_17 shX12_fetch_39 sgw_3_232
theorem dX12_fetch_42 : decode cX12_fetch 42 = .ok (.invokestatic 214, 3) := oc_184 shX12_fetch_42
theorem dX12_fetch_45 : decode cX12_fetch 45 = .ok (.ifCond .eq 36, 3) := oc_153 shX12_fetch_45 sgw_0_36
theorem dX12_fetch_48 : decode cX12_fetch 48 = .ok (.iload 5, 2) := oc_21 shX12_fetch_48
theorem dX12_fetch_50 : decode cX12_fetch 50 = .ok (.iconst 0, 1) := oc_3 shX12_fetch_50
theorem dX12_fetch_51 : decode cX12_fetch 51 = .ok (.sipush 1000, 3) := oc_17 shX12_fetch_51 sgw_3_232
theorem dX12_fetch_54 : decode cX12_fetch 54 = .ok (.invokestatic 214, 3) := oc_184 shX12_fetch_54
theorem dX12_fetch_57 : decode cX12_fetch 57 = .ok (.ifCond .eq 24, 3) := oc_153 shX12_fetch_57 sgw_0_24
theorem dX12_fetch_60 : decode cX12_fetch 60 = .ok (.iload 6, 2) := oc_21 shX12_fetch_60
theorem dX12_fetch_62 : decode cX12_fetch 62 = .ok (.iload_n 2, 1) := oc_28 shX12_fetch_62
theorem dX12_fetch_63 : decode cX12_fetch 63 = .ok (.sipush 399, 3) := oc_17 shX12_fetch_63 sgw_1_143
theorem dX12_fetch_66 : decode cX12_fetch 66 = .ok (.invokestatic 214, 3) := oc_184 shX12_fetch_66
theorem dX12_fetch_69 : decode cX12_fetch 69 = .ok (.ifCond .eq 12, 3) := oc_153 shX12_fetch_69 sgw_0_12
theorem dX12_fetch_72 : decode cX12_fetch 72 = .ok (.aload_n 0, 1) := oc_42 shX12_fetch_72
theorem dX12_fetch_73 : decode cX12_fetch 73 = .ok (.getfield 208, 3) := oc_180 shX12_fetch_73
theorem dX12_fetch_76 : decode cX12_fetch 76 = .ok (.bipush 60, 2) := oc_16 shX12_fetch_76 sgb_60
theorem dX12_fetch_78 : decode cX12_fetch 78 = .ok (.if_icmp .ne 5, 3) := oc_160 shX12_fetch_78 sgw_0_5
theorem dX12_fetch_81 : decode cX12_fetch 81 = .ok (.iconst (-1), 1) := oc_2 shX12_fetch_81
theorem dX12_fetch_82 : decode cX12_fetch 82 = .ok (.ireturn, 1) := oc_172 shX12_fetch_82
theorem dX12_fetch_83 : decode cX12_fetch 83 = .ok (.aload_n 0, 1) := oc_42 shX12_fetch_83
theorem dX12_fetch_84 : decode cX12_fetch 84 = .ok (.iload_n 1, 1) := oc_27 shX12_fetch_84
theorem dX12_fetch_85 : decode cX12_fetch 85 = .ok (.iload_n 2, 1) := oc_28 shX12_fetch_85
theorem dX12_fetch_86 : decode cX12_fetch 86 = .ok (.invokevirtual 222, 3) := oc_182 shX12_fetch_86
theorem dX12_fetch_89 : decode cX12_fetch 89 = .ok (.istore 7, 2) := oc_54 shX12_fetch_89
theorem dX12_fetch_91 : decode cX12_fetch 91 = .ok (.iload 7, 2) := oc_21 shX12_fetch_91
theorem dX12_fetch_93 : decode cX12_fetch 93 = .ok (.iload_n 3, 1) := oc_29 shX12_fetch_93
theorem dX12_fetch_94 : decode cX12_fetch 94 = .ok (.isub, 1) := oc_100 shX12_fetch_94
theorem dX12_fetch_95 : decode cX12_fetch 95 = .ok (.iload 7, 2) := oc_21 shX12_fetch_95
theorem dX12_fetch_97 : decode cX12_fetch 97 = .ok (.bipush 10, 2) := oc_16 shX12_fetch_97 sgb_10
theorem dX12_fetch_99 : decode cX12_fetch 99 = .ok (.idiv, 1) := oc_108 shX12_fetch_99
theorem dX12_fetch_100 : decode cX12_fetch 100 = .ok (.isub, 1) := oc_100 shX12_fetch_100
theorem dX12_fetch_101 : decode cX12_fetch 101 = .ok (.istore 8, 2) := oc_54 shX12_fetch_101
theorem dX12_fetch_103 : decode cX12_fetch 103 = .ok (.aload_n 0, 1) := oc_42 shX12_fetch_103
theorem dX12_fetch_104 : decode cX12_fetch 104 = .ok (.getfield 25, 3) := oc_180 shX12_fetch_104
theorem dX12_fetch_107 : decode cX12_fetch 107 = .ok (.aload_n 0, 1) := oc_42 shX12_fetch_107
theorem dX12_fetch_108 : decode cX12_fetch 108 = .ok (.getfield 208, 3) := oc_180 shX12_fetch_108
theorem dX12_fetch_111 : decode cX12_fetch 111 = .ok (.iload_n 1, 1) := oc_27 shX12_fetch_111
theorem dX12_fetch_112 : decode cX12_fetch 112 = .ok (.iastore, 1) := oc_79 shX12_fetch_112
theorem dX12_fetch_113 : decode cX12_fetch 113 = .ok (.aload_n 0, 1) := oc_42 shX12_fetch_113
theorem dX12_fetch_114 : decode cX12_fetch 114 = .ok (.getfield 28, 3) := oc_180 shX12_fetch_114
theorem dX12_fetch_117 : decode cX12_fetch 117 = .ok (.aload_n 0, 1) := oc_42 shX12_fetch_117
theorem dX12_fetch_118 : decode cX12_fetch 118 = .ok (.getfield 208, 3) := oc_180 shX12_fetch_118
theorem dX12_fetch_121 : decode cX12_fetch 121 = .ok (.iload_n 2, 1) := oc_28 shX12_fetch_121
theorem dX12_fetch_122 : decode cX12_fetch 122 = .ok (.iastore, 1) := oc_79 shX12_fetch_122
theorem dX12_fetch_123 : decode cX12_fetch 123 = .ok (.aload_n 0, 1) := oc_42 shX12_fetch_123
theorem dX12_fetch_124 : decode cX12_fetch 124 = .ok (.getfield 31, 3) := oc_180 shX12_fetch_124
theorem dX12_fetch_127 : decode cX12_fetch 127 = .ok (.aload_n 0, 1) := oc_42 shX12_fetch_127
theorem dX12_fetch_128 : decode cX12_fetch 128 = .ok (.getfield 208, 3) := oc_180 shX12_fetch_128
theorem dX12_fetch_131 : decode cX12_fetch 131 = .ok (.iload_n 3, 1) := oc_29 shX12_fetch_131
theorem dX12_fetch_132 : decode cX12_fetch 132 = .ok (.iastore, 1) := oc_79 shX12_fetch_132
theorem dX12_fetch_133 : decode cX12_fetch 133 = .ok (.aload_n 0, 1) := oc_42 shX12_fetch_133
theorem dX12_fetch_134 : decode cX12_fetch 134 = .ok (.getfield 34, 3) := oc_180 shX12_fetch_134
theorem dX12_fetch_137 : decode cX12_fetch 137 = .ok (.aload_n 0, 1) := oc_42 shX12_fetch_137
theorem dX12_fetch_138 : decode cX12_fetch 138 = .ok (.getfield 208, 3) := oc_180 shX12_fetch_138
theorem dX12_fetch_141 : decode cX12_fetch 141 = .ok (.iload 4, 2) := oc_21 shX12_fetch_141
theorem dX12_fetch_143 : decode cX12_fetch 143 = .ok (.iastore, 1) := oc_79 shX12_fetch_143
theorem dX12_fetch_144 : decode cX12_fetch 144 = .ok (.aload_n 0, 1) := oc_42 shX12_fetch_144
theorem dX12_fetch_145 : decode cX12_fetch 145 = .ok (.getfield 37, 3) := oc_180 shX12_fetch_145
theorem dX12_fetch_148 : decode cX12_fetch 148 = .ok (.aload_n 0, 1) := oc_42 shX12_fetch_148
theorem dX12_fetch_149 : decode cX12_fetch 149 = .ok (.getfield 208, 3) := oc_180 shX12_fetch_149
theorem dX12_fetch_152 : decode cX12_fetch 152 = .ok (.iload 5, 2) := oc_21 shX12_fetch_152
theorem dX12_fetch_154 : decode cX12_fetch 154 = .ok (.iastore, 1) := oc_79 shX12_fetch_154
theorem dX12_fetch_155 : decode cX12_fetch 155 = .ok (.aload_n 0, 1) := oc_42 shX12_fetch_155
theorem dX12_fetch_156 : decode cX12_fetch 156 = .ok (.getfield 40, 3) := oc_180 shX12_fetch_156
theorem dX12_fetch_159 : decode cX12_fetch 159 = .ok (.aload_n 0, 1) := oc_42 shX12_fetch_159
theorem dX12_fetch_160 : decode cX12_fetch 160 = .ok (.getfield 208, 3) := oc_180 shX12_fetch_160
theorem dX12_fetch_163 : decode cX12_fetch 163 = .ok (.iload 6, 2) := oc_21 shX12_fetch_163
theorem dX12_fetch_165 : decode cX12_fetch 165 = .ok (.iastore, 1) := oc_79 shX12_fetch_165
theorem dX12_fetch_166 : decode cX12_fetch 166 = .ok (.aload_n 0, 1) := oc_42 shX12_fetch_166
theorem dX12_fetch_167 : decode cX12_fetch 167 = .ok (.getfield 43, 3) := oc_180 shX12_fetch_167
theorem dX12_fetch_170 : decode cX12_fetch 170 = .ok (.aload_n 0, 1) := oc_42 shX12_fetch_170
theorem dX12_fetch_171 : decode cX12_fetch 171 = .ok (.getfield 208, 3) := oc_180 shX12_fetch_171
theorem dX12_fetch_174 : decode cX12_fetch 174 = .ok (.iload 8, 2) := oc_21 shX12_fetch_174
theorem dX12_fetch_176 : decode cX12_fetch 176 = .ok (.ifCond .le 8, 3) := oc_158 shX12_fetch_176 sgw_0_8
theorem dX12_fetch_179 : decode cX12_fetch 179 = .ok (.iload 8, 2) := oc_21 shX12_fetch_179
theorem dX12_fetch_181 : decode cX12_fetch 181 = .ok (.goto 4, 3) := oc_167 shX12_fetch_181 sgw_0_4
theorem dX12_fetch_184 : decode cX12_fetch 184 = .ok (.iconst 0, 1) := oc_3 shX12_fetch_184
theorem dX12_fetch_185 : decode cX12_fetch 185 = .ok (.iastore, 1) := oc_79 shX12_fetch_185
theorem dX12_fetch_186 : decode cX12_fetch 186 = .ok (.aload_n 0, 1) := oc_42 shX12_fetch_186
theorem dX12_fetch_187 : decode cX12_fetch 187 = .ok (.getfield 46, 3) := oc_180 shX12_fetch_187
theorem dX12_fetch_190 : decode cX12_fetch 190 = .ok (.aload_n 0, 1) := oc_42 shX12_fetch_190
theorem dX12_fetch_191 : decode cX12_fetch 191 = .ok (.getfield 208, 3) := oc_180 shX12_fetch_191
theorem dX12_fetch_194 : decode cX12_fetch 194 = .ok (.iconst (-1), 1) := oc_2 shX12_fetch_194
theorem dX12_fetch_195 : decode cX12_fetch 195 = .ok (.iastore, 1) := oc_79 shX12_fetch_195
theorem dX12_fetch_196 : decode cX12_fetch 196 = .ok (.aload_n 0, 1) := oc_42 shX12_fetch_196
theorem dX12_fetch_197 : decode cX12_fetch 197 = .ok (.getfield 49, 3) := oc_180 shX12_fetch_197
theorem dX12_fetch_200 : decode cX12_fetch 200 = .ok (.aload_n 0, 1) := oc_42 shX12_fetch_200
theorem dX12_fetch_201 : decode cX12_fetch 201 = .ok (.getfield 208, 3) := oc_180 shX12_fetch_201
theorem dX12_fetch_204 : decode cX12_fetch 204 = .ok (.aload_n 0, 1) := oc_42 shX12_fetch_204
theorem dX12_fetch_205 : decode cX12_fetch 205 = .ok (.getfield 22, 3) := oc_180 shX12_fetch_205
theorem dX12_fetch_208 : decode cX12_fetch 208 = .ok (.iload_n 1, 1) := oc_27 shX12_fetch_208
theorem dX12_fetch_209 : decode cX12_fetch 209 = .ok (.iaload, 1) := oc_46 shX12_fetch_209
theorem dX12_fetch_210 : decode cX12_fetch 210 = .ok (.iastore, 1) := oc_79 shX12_fetch_210
theorem dX12_fetch_211 : decode cX12_fetch 211 = .ok (.aload_n 0, 1) := oc_42 shX12_fetch_211
theorem dX12_fetch_212 : decode cX12_fetch 212 = .ok (.getfield 22, 3) := oc_180 shX12_fetch_212
theorem dX12_fetch_215 : decode cX12_fetch 215 = .ok (.iload_n 1, 1) := oc_27 shX12_fetch_215
theorem dX12_fetch_216 : decode cX12_fetch 216 = .ok (.iload_n 2, 1) := oc_28 shX12_fetch_216
theorem dX12_fetch_217 : decode cX12_fetch 217 = .ok (.iastore, 1) := oc_79 shX12_fetch_217
theorem dX12_fetch_218 : decode cX12_fetch 218 = .ok (.aload_n 0, 1) := oc_42 shX12_fetch_218
theorem dX12_fetch_219 : decode cX12_fetch 219 = .ok (.aload_n 0, 1) := oc_42 shX12_fetch_219
theorem dX12_fetch_220 : decode cX12_fetch 220 = .ok (.getfield 208, 3) := oc_180 shX12_fetch_220
theorem dX12_fetch_223 : decode cX12_fetch 223 = .ok (.iconst 1, 1) := oc_4 shX12_fetch_223
theorem dX12_fetch_224 : decode cX12_fetch 224 = .ok (.iadd, 1) := oc_96 shX12_fetch_224
theorem dX12_fetch_225 : decode cX12_fetch 225 = .ok (.putfield 208, 3) := oc_181 shX12_fetch_225
theorem dX12_fetch_228 : decode cX12_fetch 228 = .ok (.aload_n 0, 1) := oc_42 shX12_fetch_228
theorem dX12_fetch_229 : decode cX12_fetch 229 = .ok (.getfield 208, 3) := oc_180 shX12_fetch_229
theorem dX12_fetch_232 : decode cX12_fetch 232 = .ok (.iconst 1, 1) := oc_4 shX12_fetch_232
theorem dX12_fetch_233 : decode cX12_fetch 233 = .ok (.isub, 1) := oc_100 shX12_fetch_233
theorem dX12_fetch_234 : decode cX12_fetch 234 = .ok (.ireturn, 1) := oc_172 shX12_fetch_234
noncomputable def sxX12_types_39 : List UInt8 := []
noncomputable def sxX12_types_38 : List UInt8 := 177 :: sxX12_types_39
noncomputable def sxX12_types_35 : List UInt8 := 167 :: 255 :: 223 :: sxX12_types_38
noncomputable def sxX12_types_32 : List UInt8 := 132 :: 2 :: 255 :: sxX12_types_35
noncomputable def sxX12_types_29 : List UInt8 := 181 :: 0 :: 226 :: sxX12_types_32
noncomputable def sxX12_types_28 : List UInt8 := 96 :: sxX12_types_29
noncomputable def sxX12_types_27 : List UInt8 := 4 :: sxX12_types_28
noncomputable def sxX12_types_24 : List UInt8 := 180 :: 0 :: 226 :: sxX12_types_27
noncomputable def sxX12_types_23 : List UInt8 := 42 :: sxX12_types_24
noncomputable def sxX12_types_22 : List UInt8 := 42 :: sxX12_types_23
noncomputable def sxX12_types_21 : List UInt8 := 84 :: sxX12_types_22
noncomputable def sxX12_types_20 : List UInt8 := 145 :: sxX12_types_21
noncomputable def sxX12_types_19 : List UInt8 := 122 :: sxX12_types_20
noncomputable def sxX12_types_18 : List UInt8 := 104 :: sxX12_types_19
noncomputable def sxX12_types_17 : List UInt8 := 28 :: sxX12_types_18
noncomputable def sxX12_types_15 : List UInt8 := 16 :: 8 :: sxX12_types_17
noncomputable def sxX12_types_14 : List UInt8 := 27 :: sxX12_types_15
noncomputable def sxX12_types_11 : List UInt8 := 180 :: 0 :: 226 :: sxX12_types_14
noncomputable def sxX12_types_10 : List UInt8 := 42 :: sxX12_types_11
noncomputable def sxX12_types_7 : List UInt8 := 180 :: 0 :: 52 :: sxX12_types_10
noncomputable def sxX12_types_6 : List UInt8 := 42 :: sxX12_types_7
noncomputable def sxX12_types_3 : List UInt8 := 155 :: 0 :: 35 :: sxX12_types_6
noncomputable def sxX12_types_2 : List UInt8 := 28 :: sxX12_types_3
noncomputable def sxX12_types_1 : List UInt8 := 61 :: sxX12_types_2
noncomputable def sxX12_types_0 : List UInt8 := 6 :: sxX12_types_1
theorem shX12_types_0 : cX12_types.data.toList.drop 0 = sxX12_types_0 := rfl
theorem shX12_types_1 : cX12_types.data.toList.drop 1 = sxX12_types_1 := dSn 1 shX12_types_0
theorem shX12_types_2 : cX12_types.data.toList.drop 2 = sxX12_types_2 := dSn 1 shX12_types_1
theorem shX12_types_3 : cX12_types.data.toList.drop 3 = sxX12_types_3 := dSn 1 shX12_types_2
theorem shX12_types_6 : cX12_types.data.toList.drop 6 = sxX12_types_6 := dSn 3 shX12_types_3
theorem shX12_types_7 : cX12_types.data.toList.drop 7 = sxX12_types_7 := dSn 1 shX12_types_6
theorem shX12_types_10 : cX12_types.data.toList.drop 10 = sxX12_types_10 := dSn 3 shX12_types_7
theorem shX12_types_11 : cX12_types.data.toList.drop 11 = sxX12_types_11 := dSn 1 shX12_types_10
theorem shX12_types_14 : cX12_types.data.toList.drop 14 = sxX12_types_14 := dSn 3 shX12_types_11
theorem shX12_types_15 : cX12_types.data.toList.drop 15 = sxX12_types_15 := dSn 1 shX12_types_14
theorem shX12_types_17 : cX12_types.data.toList.drop 17 = sxX12_types_17 := dSn 2 shX12_types_15
theorem shX12_types_18 : cX12_types.data.toList.drop 18 = sxX12_types_18 := dSn 1 shX12_types_17
theorem shX12_types_19 : cX12_types.data.toList.drop 19 = sxX12_types_19 := dSn 1 shX12_types_18
theorem shX12_types_20 : cX12_types.data.toList.drop 20 = sxX12_types_20 := dSn 1 shX12_types_19
theorem shX12_types_21 : cX12_types.data.toList.drop 21 = sxX12_types_21 := dSn 1 shX12_types_20
theorem shX12_types_22 : cX12_types.data.toList.drop 22 = sxX12_types_22 := dSn 1 shX12_types_21
theorem shX12_types_23 : cX12_types.data.toList.drop 23 = sxX12_types_23 := dSn 1 shX12_types_22
theorem shX12_types_24 : cX12_types.data.toList.drop 24 = sxX12_types_24 := dSn 1 shX12_types_23
theorem shX12_types_27 : cX12_types.data.toList.drop 27 = sxX12_types_27 := dSn 3 shX12_types_24
theorem shX12_types_28 : cX12_types.data.toList.drop 28 = sxX12_types_28 := dSn 1 shX12_types_27
theorem shX12_types_29 : cX12_types.data.toList.drop 29 = sxX12_types_29 := dSn 1 shX12_types_28
theorem shX12_types_32 : cX12_types.data.toList.drop 32 = sxX12_types_32 := dSn 3 shX12_types_29
theorem shX12_types_35 : cX12_types.data.toList.drop 35 = sxX12_types_35 := dSn 3 shX12_types_32
theorem shX12_types_38 : cX12_types.data.toList.drop 38 = sxX12_types_38 := dSn 3 shX12_types_35
theorem dX12_types_0 : decode cX12_types 0 = .ok (.iconst 3, 1) := oc_6 shX12_types_0
theorem dX12_types_1 : decode cX12_types 1 = .ok (.istore_n 2, 1) := oc_61 shX12_types_1
theorem dX12_types_2 : decode cX12_types 2 = .ok (.iload_n 2, 1) := oc_28 shX12_types_2
theorem dX12_types_3 : decode cX12_types 3 = .ok (.ifCond .lt 35, 3) := oc_155 shX12_types_3 sgw_0_35
theorem dX12_types_6 : decode cX12_types 6 = .ok (.aload_n 0, 1) := oc_42 shX12_types_6
theorem dX12_types_7 : decode cX12_types 7 = .ok (.getfield 52, 3) := oc_180 shX12_types_7
theorem dX12_types_10 : decode cX12_types 10 = .ok (.aload_n 0, 1) := oc_42 shX12_types_10
theorem dX12_types_11 : decode cX12_types 11 = .ok (.getfield 226, 3) := oc_180 shX12_types_11
theorem dX12_types_14 : decode cX12_types 14 = .ok (.iload_n 1, 1) := oc_27 shX12_types_14
theorem dX12_types_15 : decode cX12_types 15 = .ok (.bipush 8, 2) := oc_16 shX12_types_15 sgb_8
theorem dX12_types_17 : decode cX12_types 17 = .ok (.iload_n 2, 1) := oc_28 shX12_types_17
theorem dX12_types_18 : decode cX12_types 18 = .ok (.imul, 1) := oc_104 shX12_types_18
theorem dX12_types_19 : decode cX12_types 19 = .ok (.ishr, 1) := oc_122 shX12_types_19
theorem dX12_types_20 : decode cX12_types 20 = .ok (.i2b, 1) := oc_145 shX12_types_20
theorem dX12_types_21 : decode cX12_types 21 = .ok (.bastore, 1) := oc_84 shX12_types_21
theorem dX12_types_22 : decode cX12_types 22 = .ok (.aload_n 0, 1) := oc_42 shX12_types_22
theorem dX12_types_23 : decode cX12_types 23 = .ok (.aload_n 0, 1) := oc_42 shX12_types_23
theorem dX12_types_24 : decode cX12_types 24 = .ok (.getfield 226, 3) := oc_180 shX12_types_24
theorem dX12_types_27 : decode cX12_types 27 = .ok (.iconst 1, 1) := oc_4 shX12_types_27
theorem dX12_types_28 : decode cX12_types 28 = .ok (.iadd, 1) := oc_96 shX12_types_28
theorem dX12_types_29 : decode cX12_types 29 = .ok (.putfield 226, 3) := oc_181 shX12_types_29
theorem dX12_types_32 : decode cX12_types 32 = .ok (.iinc 2 (-1), 3) := oc_132 shX12_types_32 sgb_255
theorem dX12_types_35 : decode cX12_types 35 = .ok (.goto (-33), 3) := oc_167 shX12_types_35 sgw_255_223
theorem dX12_types_38 : decode cX12_types 38 = .ok (.return_, 1) := oc_177 shX12_types_38
noncomputable def sxX12_feed_47 : List UInt8 := []
noncomputable def sxX12_feed_46 : List UInt8 := 172 :: sxX12_feed_47
noncomputable def sxX12_feed_43 : List UInt8 := 180 :: 0 :: 226 :: sxX12_feed_46
noncomputable def sxX12_feed_42 : List UInt8 := 42 :: sxX12_feed_43
noncomputable def sxX12_feed_39 : List UInt8 := 182 :: 0 :: 229 :: sxX12_feed_42
noncomputable def sxX12_feed_37 : List UInt8 := 21 :: 5 :: sxX12_feed_39
noncomputable def sxX12_feed_36 : List UInt8 := 42 :: sxX12_feed_37
noncomputable def sxX12_feed_33 : List UInt8 := 182 :: 0 :: 229 :: sxX12_feed_36
noncomputable def sxX12_feed_31 : List UInt8 := 21 :: 4 :: sxX12_feed_33
noncomputable def sxX12_feed_30 : List UInt8 := 42 :: sxX12_feed_31
noncomputable def sxX12_feed_27 : List UInt8 := 182 :: 0 :: 229 :: sxX12_feed_30
noncomputable def sxX12_feed_26 : List UInt8 := 29 :: sxX12_feed_27
noncomputable def sxX12_feed_25 : List UInt8 := 42 :: sxX12_feed_26
noncomputable def sxX12_feed_22 : List UInt8 := 182 :: 0 :: 229 :: sxX12_feed_25
noncomputable def sxX12_feed_21 : List UInt8 := 28 :: sxX12_feed_22
noncomputable def sxX12_feed_20 : List UInt8 := 42 :: sxX12_feed_21
noncomputable def sxX12_feed_17 : List UInt8 := 182 :: 0 :: 229 :: sxX12_feed_20
noncomputable def sxX12_feed_16 : List UInt8 := 27 :: sxX12_feed_17
noncomputable def sxX12_feed_15 : List UInt8 := 42 :: sxX12_feed_16
noncomputable def sxX12_feed_14 : List UInt8 := 172 :: sxX12_feed_15
noncomputable def sxX12_feed_13 : List UInt8 := 2 :: sxX12_feed_14
noncomputable def sxX12_feed_10 : List UInt8 := 164 :: 0 :: 5 :: sxX12_feed_13
noncomputable def sxX12_feed_7 : List UInt8 := 17 :: 0 :: 200 :: sxX12_feed_10
noncomputable def sxX12_feed_6 : List UInt8 := 96 :: sxX12_feed_7
noncomputable def sxX12_feed_4 : List UInt8 := 16 :: 20 :: sxX12_feed_6
noncomputable def sxX12_feed_1 : List UInt8 := 180 :: 0 :: 226 :: sxX12_feed_4
noncomputable def sxX12_feed_0 : List UInt8 := 42 :: sxX12_feed_1
theorem shX12_feed_0 : cX12_feed.data.toList.drop 0 = sxX12_feed_0 := rfl
theorem shX12_feed_1 : cX12_feed.data.toList.drop 1 = sxX12_feed_1 := dSn 1 shX12_feed_0
theorem shX12_feed_4 : cX12_feed.data.toList.drop 4 = sxX12_feed_4 := dSn 3 shX12_feed_1
theorem shX12_feed_6 : cX12_feed.data.toList.drop 6 = sxX12_feed_6 := dSn 2 shX12_feed_4
theorem shX12_feed_7 : cX12_feed.data.toList.drop 7 = sxX12_feed_7 := dSn 1 shX12_feed_6
theorem shX12_feed_10 : cX12_feed.data.toList.drop 10 = sxX12_feed_10 := dSn 3 shX12_feed_7
theorem shX12_feed_13 : cX12_feed.data.toList.drop 13 = sxX12_feed_13 := dSn 3 shX12_feed_10
theorem shX12_feed_14 : cX12_feed.data.toList.drop 14 = sxX12_feed_14 := dSn 1 shX12_feed_13
theorem shX12_feed_15 : cX12_feed.data.toList.drop 15 = sxX12_feed_15 := dSn 1 shX12_feed_14
theorem shX12_feed_16 : cX12_feed.data.toList.drop 16 = sxX12_feed_16 := dSn 1 shX12_feed_15
theorem shX12_feed_17 : cX12_feed.data.toList.drop 17 = sxX12_feed_17 := dSn 1 shX12_feed_16
theorem shX12_feed_20 : cX12_feed.data.toList.drop 20 = sxX12_feed_20 := dSn 3 shX12_feed_17
theorem shX12_feed_21 : cX12_feed.data.toList.drop 21 = sxX12_feed_21 := dSn 1 shX12_feed_20
theorem shX12_feed_22 : cX12_feed.data.toList.drop 22 = sxX12_feed_22 := dSn 1 shX12_feed_21
theorem shX12_feed_25 : cX12_feed.data.toList.drop 25 = sxX12_feed_25 := dSn 3 shX12_feed_22
theorem shX12_feed_26 : cX12_feed.data.toList.drop 26 = sxX12_feed_26 := dSn 1 shX12_feed_25
theorem shX12_feed_27 : cX12_feed.data.toList.drop 27 = sxX12_feed_27 := dSn 1 shX12_feed_26
theorem shX12_feed_30 : cX12_feed.data.toList.drop 30 = sxX12_feed_30 := dSn 3 shX12_feed_27
theorem shX12_feed_31 : cX12_feed.data.toList.drop 31 = sxX12_feed_31 := dSn 1 shX12_feed_30
theorem shX12_feed_33 : cX12_feed.data.toList.drop 33 = sxX12_feed_33 := dSn 2 shX12_feed_31
theorem shX12_feed_36 : cX12_feed.data.toList.drop 36 = sxX12_feed_36 := dSn 3 shX12_feed_33
theorem shX12_feed_37 : cX12_feed.data.toList.drop 37 = sxX12_feed_37 := dSn 1 shX12_feed_36
theorem shX12_feed_39 : cX12_feed.data.toList.drop 39 = sxX12_feed_39 := dSn 2 shX12_feed_37
theorem shX12_feed_42 : cX12_feed.data.toList.drop 42 = sxX12_feed_42 := dSn 3 shX12_feed_39
theorem shX12_feed_43 : cX12_feed.data.toList.drop 43 = sxX12_feed_43 := dSn 1 shX12_feed_42
theorem shX12_feed_46 : cX12_feed.data.toList.drop 46 = sxX12_feed_46 := dSn 3 shX12_feed_43
theorem dX12_feed_0 : decode cX12_feed 0 = .ok (.aload_n 0, 1) := oc_42 shX12_feed_0
theorem dX12_feed_1 : decode cX12_feed 1 = .ok (.getfield 226, 3) := oc_180 shX12_feed_1
theorem dX12_feed_4 : decode cX12_feed 4 = .ok (.bipush 20, 2) := oc_16 shX12_feed_4 sgb_20
theorem dX12_feed_6 : decode cX12_feed 6 = .ok (.iadd, 1) := oc_96 shX12_feed_6
theorem dX12_feed_7 : decode cX12_feed 7 = .ok (.sipush 200, 3) := oc_17 shX12_feed_7 sgw_0_200
theorem dX12_feed_10 : decode cX12_feed 10 = .ok (.if_icmp .le 5, 3) := oc_164 shX12_feed_10 sgw_0_5
theorem dX12_feed_13 : decode cX12_feed 13 = .ok (.iconst (-1), 1) := oc_2 shX12_feed_13
theorem dX12_feed_14 : decode cX12_feed 14 = .ok (.ireturn, 1) := oc_172 shX12_feed_14
theorem dX12_feed_15 : decode cX12_feed 15 = .ok (.aload_n 0, 1) := oc_42 shX12_feed_15
theorem dX12_feed_16 : decode cX12_feed 16 = .ok (.iload_n 1, 1) := oc_27 shX12_feed_16
theorem dX12_feed_17 : decode cX12_feed 17 = .ok (.invokevirtual 229, 3) := oc_182 shX12_feed_17
theorem dX12_feed_20 : decode cX12_feed 20 = .ok (.aload_n 0, 1) := oc_42 shX12_feed_20
theorem dX12_feed_21 : decode cX12_feed 21 = .ok (.iload_n 2, 1) := oc_28 shX12_feed_21
theorem dX12_feed_22 : decode cX12_feed 22 = .ok (.invokevirtual 229, 3) := oc_182 shX12_feed_22
theorem dX12_feed_25 : decode cX12_feed 25 = .ok (.aload_n 0, 1) := oc_42 shX12_feed_25
theorem dX12_feed_26 : decode cX12_feed 26 = .ok (.iload_n 3, 1) := oc_29 shX12_feed_26
theorem dX12_feed_27 : decode cX12_feed 27 = .ok (.invokevirtual 229, 3) := oc_182 shX12_feed_27
theorem dX12_feed_30 : decode cX12_feed 30 = .ok (.aload_n 0, 1) := oc_42 shX12_feed_30
theorem dX12_feed_31 : decode cX12_feed 31 = .ok (.iload 4, 2) := oc_21 shX12_feed_31
theorem dX12_feed_33 : decode cX12_feed 33 = .ok (.invokevirtual 229, 3) := oc_182 shX12_feed_33
theorem dX12_feed_36 : decode cX12_feed 36 = .ok (.aload_n 0, 1) := oc_42 shX12_feed_36
theorem dX12_feed_37 : decode cX12_feed 37 = .ok (.iload 5, 2) := oc_21 shX12_feed_37
theorem dX12_feed_39 : decode cX12_feed 39 = .ok (.invokevirtual 229, 3) := oc_182 shX12_feed_39
theorem dX12_feed_42 : decode cX12_feed 42 = .ok (.aload_n 0, 1) := oc_42 shX12_feed_42
theorem dX12_feed_43 : decode cX12_feed 43 = .ok (.getfield 226, 3) := oc_180 shX12_feed_43
theorem dX12_feed_46 : decode cX12_feed 46 = .ok (.ireturn, 1) := oc_172 shX12_feed_46
noncomputable def sxX12_here_29 : List UInt8 := []
noncomputable def sxX12_here_28 : List UInt8 := 172 :: sxX12_here_29
noncomputable def sxX12_here_27 : List UInt8 := 2 :: sxX12_here_28
noncomputable def sxX12_here_24 : List UInt8 := 167 :: 0 :: 4 :: sxX12_here_27
noncomputable def sxX12_here_23 : List UInt8 := 126 :: sxX12_here_24
noncomputable def sxX12_here_20 : List UInt8 := 17 :: 0 :: 255 :: sxX12_here_23
noncomputable def sxX12_here_19 : List UInt8 := 51 :: sxX12_here_20
noncomputable def sxX12_here_16 : List UInt8 := 180 :: 0 :: 233 :: sxX12_here_19
noncomputable def sxX12_here_15 : List UInt8 := 42 :: sxX12_here_16
noncomputable def sxX12_here_12 : List UInt8 := 180 :: 0 :: 52 :: sxX12_here_15
noncomputable def sxX12_here_11 : List UInt8 := 42 :: sxX12_here_12
noncomputable def sxX12_here_8 : List UInt8 := 162 :: 0 :: 19 :: sxX12_here_11
noncomputable def sxX12_here_5 : List UInt8 := 180 :: 0 :: 236 :: sxX12_here_8
noncomputable def sxX12_here_4 : List UInt8 := 42 :: sxX12_here_5
noncomputable def sxX12_here_1 : List UInt8 := 180 :: 0 :: 233 :: sxX12_here_4
noncomputable def sxX12_here_0 : List UInt8 := 42 :: sxX12_here_1
theorem shX12_here_0 : cX12_here.data.toList.drop 0 = sxX12_here_0 := rfl
theorem shX12_here_1 : cX12_here.data.toList.drop 1 = sxX12_here_1 := dSn 1 shX12_here_0
theorem shX12_here_4 : cX12_here.data.toList.drop 4 = sxX12_here_4 := dSn 3 shX12_here_1
theorem shX12_here_5 : cX12_here.data.toList.drop 5 = sxX12_here_5 := dSn 1 shX12_here_4
theorem shX12_here_8 : cX12_here.data.toList.drop 8 = sxX12_here_8 := dSn 3 shX12_here_5
theorem shX12_here_11 : cX12_here.data.toList.drop 11 = sxX12_here_11 := dSn 3 shX12_here_8
theorem shX12_here_12 : cX12_here.data.toList.drop 12 = sxX12_here_12 := dSn 1 shX12_here_11
theorem shX12_here_15 : cX12_here.data.toList.drop 15 = sxX12_here_15 := dSn 3 shX12_here_12
theorem shX12_here_16 : cX12_here.data.toList.drop 16 = sxX12_here_16 := dSn 1 shX12_here_15
theorem shX12_here_19 : cX12_here.data.toList.drop 19 = sxX12_here_19 := dSn 3 shX12_here_16
theorem shX12_here_20 : cX12_here.data.toList.drop 20 = sxX12_here_20 := dSn 1 shX12_here_19
theorem shX12_here_23 : cX12_here.data.toList.drop 23 = sxX12_here_23 := dSn 3 shX12_here_20
theorem shX12_here_24 : cX12_here.data.toList.drop 24 = sxX12_here_24 := dSn 1 shX12_here_23
theorem shX12_here_27 : cX12_here.data.toList.drop 27 = sxX12_here_27 := dSn 3 shX12_here_24
theorem shX12_here_28 : cX12_here.data.toList.drop 28 = sxX12_here_28 := dSn 1 shX12_here_27
theorem dX12_here_0 : decode cX12_here 0 = .ok (.aload_n 0, 1) := oc_42 shX12_here_0
theorem dX12_here_1 : decode cX12_here 1 = .ok (.getfield 233, 3) := oc_180 shX12_here_1
theorem dX12_here_4 : decode cX12_here 4 = .ok (.aload_n 0, 1) := oc_42 shX12_here_4
theorem dX12_here_5 : decode cX12_here 5 = .ok (.getfield 236, 3) := oc_180 shX12_here_5
theorem dX12_here_8 : decode cX12_here 8 = .ok (.if_icmp .ge 19, 3) := oc_162 shX12_here_8 sgw_0_19
theorem dX12_here_11 : decode cX12_here 11 = .ok (.aload_n 0, 1) := oc_42 shX12_here_11
theorem dX12_here_12 : decode cX12_here 12 = .ok (.getfield 52, 3) := oc_180 shX12_here_12
theorem dX12_here_15 : decode cX12_here 15 = .ok (.aload_n 0, 1) := oc_42 shX12_here_15
theorem dX12_here_16 : decode cX12_here 16 = .ok (.getfield 233, 3) := oc_180 shX12_here_16
theorem dX12_here_19 : decode cX12_here 19 = .ok (.baload, 1) := oc_51 shX12_here_19
theorem dX12_here_20 : decode cX12_here 20 = .ok (.sipush 255, 3) := oc_17 shX12_here_20 sgw_0_255
theorem dX12_here_23 : decode cX12_here 23 = .ok (.iand, 1) := oc_126 shX12_here_23
theorem dX12_here_24 : decode cX12_here 24 = .ok (.goto 4, 3) := oc_167 shX12_here_24 sgw_0_4
theorem dX12_here_27 : decode cX12_here 27 = .ok (.iconst (-1), 1) := oc_2 shX12_here_27
theorem dX12_here_28 : decode cX12_here 28 = .ok (.ireturn, 1) := oc_172 shX12_here_28
noncomputable def sxX12_isDigit_24 : List UInt8 := []
noncomputable def sxX12_isDigit_23 : List UInt8 := 172 :: sxX12_isDigit_24
noncomputable def sxX12_isDigit_22 : List UInt8 := 3 :: sxX12_isDigit_23
noncomputable def sxX12_isDigit_19 : List UInt8 := 167 :: 0 :: 4 :: sxX12_isDigit_22
noncomputable def sxX12_isDigit_18 : List UInt8 := 4 :: sxX12_isDigit_19
noncomputable def sxX12_isDigit_15 : List UInt8 := 163 :: 0 :: 7 :: sxX12_isDigit_18
noncomputable def sxX12_isDigit_13 : List UInt8 := 16 :: 57 :: sxX12_isDigit_15
noncomputable def sxX12_isDigit_10 : List UInt8 := 182 :: 0 :: 239 :: sxX12_isDigit_13
noncomputable def sxX12_isDigit_9 : List UInt8 := 42 :: sxX12_isDigit_10
noncomputable def sxX12_isDigit_6 : List UInt8 := 161 :: 0 :: 16 :: sxX12_isDigit_9
noncomputable def sxX12_isDigit_4 : List UInt8 := 16 :: 48 :: sxX12_isDigit_6
noncomputable def sxX12_isDigit_1 : List UInt8 := 182 :: 0 :: 239 :: sxX12_isDigit_4
noncomputable def sxX12_isDigit_0 : List UInt8 := 42 :: sxX12_isDigit_1
theorem shX12_isDigit_0 : cX12_isDigit.data.toList.drop 0 = sxX12_isDigit_0 := rfl
theorem shX12_isDigit_1 : cX12_isDigit.data.toList.drop 1 = sxX12_isDigit_1 := dSn 1 shX12_isDigit_0
theorem shX12_isDigit_4 : cX12_isDigit.data.toList.drop 4 = sxX12_isDigit_4 := dSn 3 shX12_isDigit_1
theorem shX12_isDigit_6 : cX12_isDigit.data.toList.drop 6 = sxX12_isDigit_6 := dSn 2 shX12_isDigit_4
theorem shX12_isDigit_9 : cX12_isDigit.data.toList.drop 9 = sxX12_isDigit_9 := dSn 3 shX12_isDigit_6
theorem shX12_isDigit_10 : cX12_isDigit.data.toList.drop 10 = sxX12_isDigit_10 := dSn 1 shX12_isDigit_9
theorem shX12_isDigit_13 : cX12_isDigit.data.toList.drop 13 = sxX12_isDigit_13 := dSn 3 shX12_isDigit_10
theorem shX12_isDigit_15 : cX12_isDigit.data.toList.drop 15 = sxX12_isDigit_15 := dSn 2 shX12_isDigit_13
theorem shX12_isDigit_18 : cX12_isDigit.data.toList.drop 18 = sxX12_isDigit_18 := dSn 3 shX12_isDigit_15
theorem shX12_isDigit_19 : cX12_isDigit.data.toList.drop 19 = sxX12_isDigit_19 := dSn 1 shX12_isDigit_18
theorem shX12_isDigit_22 : cX12_isDigit.data.toList.drop 22 = sxX12_isDigit_22 := dSn 3 shX12_isDigit_19
theorem shX12_isDigit_23 : cX12_isDigit.data.toList.drop 23 = sxX12_isDigit_23 := dSn 1 shX12_isDigit_22
theorem dX12_isDigit_0 : decode cX12_isDigit 0 = .ok (.aload_n 0, 1) := oc_42 shX12_isDigit_0
theorem dX12_isDigit_1 : decode cX12_isDigit 1 = .ok (.invokevirtual 239, 3) := oc_182 shX12_isDigit_1
theorem dX12_isDigit_4 : decode cX12_isDigit 4 = .ok (.bipush 48, 2) := oc_16 shX12_isDigit_4 sgb_48
theorem dX12_isDigit_6 : decode cX12_isDigit 6 = .ok (.if_icmp .lt 16, 3) := oc_161 shX12_isDigit_6 sgw_0_16
theorem dX12_isDigit_9 : decode cX12_isDigit 9 = .ok (.aload_n 0, 1) := oc_42 shX12_isDigit_9
theorem dX12_isDigit_10 : decode cX12_isDigit 10 = .ok (.invokevirtual 239, 3) := oc_182 shX12_isDigit_10
theorem dX12_isDigit_13 : decode cX12_isDigit 13 = .ok (.bipush 57, 2) := oc_16 shX12_isDigit_13 sgb_57
theorem dX12_isDigit_15 : decode cX12_isDigit 15 = .ok (.if_icmp .gt 7, 3) := oc_163 shX12_isDigit_15 sgw_0_7
theorem dX12_isDigit_18 : decode cX12_isDigit 18 = .ok (.iconst 1, 1) := oc_4 shX12_isDigit_18
theorem dX12_isDigit_19 : decode cX12_isDigit 19 = .ok (.goto 4, 3) := oc_167 shX12_isDigit_19 sgw_0_4
theorem dX12_isDigit_22 : decode cX12_isDigit 22 = .ok (.iconst 0, 1) := oc_3 shX12_isDigit_22
theorem dX12_isDigit_23 : decode cX12_isDigit 23 = .ok (.ireturn, 1) := oc_172 shX12_isDigit_23
noncomputable def sxX12_wrong_13 : List UInt8 := []
noncomputable def sxX12_wrong_12 : List UInt8 := 172 :: sxX12_wrong_13
noncomputable def sxX12_wrong_11 : List UInt8 := 3 :: sxX12_wrong_12
noncomputable def sxX12_wrong_8 : List UInt8 := 181 :: 0 :: 243 :: sxX12_wrong_11
noncomputable def sxX12_wrong_7 : List UInt8 := 100 :: sxX12_wrong_8
noncomputable def sxX12_wrong_6 : List UInt8 := 28 :: sxX12_wrong_7
noncomputable def sxX12_wrong_5 : List UInt8 := 104 :: sxX12_wrong_6
noncomputable def sxX12_wrong_4 : List UInt8 := 27 :: sxX12_wrong_5
noncomputable def sxX12_wrong_1 : List UInt8 := 17 :: 252 :: 24 :: sxX12_wrong_4
noncomputable def sxX12_wrong_0 : List UInt8 := 42 :: sxX12_wrong_1
theorem shX12_wrong_0 : cX12_wrong.data.toList.drop 0 = sxX12_wrong_0 := rfl
theorem shX12_wrong_1 : cX12_wrong.data.toList.drop 1 = sxX12_wrong_1 := dSn 1 shX12_wrong_0
theorem shX12_wrong_4 : cX12_wrong.data.toList.drop 4 = sxX12_wrong_4 := dSn 3 shX12_wrong_1
theorem shX12_wrong_5 : cX12_wrong.data.toList.drop 5 = sxX12_wrong_5 := dSn 1 shX12_wrong_4
theorem shX12_wrong_6 : cX12_wrong.data.toList.drop 6 = sxX12_wrong_6 := dSn 1 shX12_wrong_5
theorem shX12_wrong_7 : cX12_wrong.data.toList.drop 7 = sxX12_wrong_7 := dSn 1 shX12_wrong_6
theorem shX12_wrong_8 : cX12_wrong.data.toList.drop 8 = sxX12_wrong_8 := dSn 1 shX12_wrong_7
theorem shX12_wrong_11 : cX12_wrong.data.toList.drop 11 = sxX12_wrong_11 := dSn 3 shX12_wrong_8
theorem shX12_wrong_12 : cX12_wrong.data.toList.drop 12 = sxX12_wrong_12 := dSn 1 shX12_wrong_11
theorem dX12_wrong_0 : decode cX12_wrong 0 = .ok (.aload_n 0, 1) := oc_42 shX12_wrong_0
theorem dX12_wrong_1 : decode cX12_wrong 1 = .ok (.sipush (-1000), 3) := oc_17 shX12_wrong_1 sgw_252_24
theorem dX12_wrong_4 : decode cX12_wrong 4 = .ok (.iload_n 1, 1) := oc_27 shX12_wrong_4
theorem dX12_wrong_5 : decode cX12_wrong 5 = .ok (.imul, 1) := oc_104 shX12_wrong_5
theorem dX12_wrong_6 : decode cX12_wrong 6 = .ok (.iload_n 2, 1) := oc_28 shX12_wrong_6
theorem dX12_wrong_7 : decode cX12_wrong 7 = .ok (.isub, 1) := oc_100 shX12_wrong_7
theorem dX12_wrong_8 : decode cX12_wrong 8 = .ok (.putfield 243, 3) := oc_181 shX12_wrong_8
theorem dX12_wrong_11 : decode cX12_wrong 11 = .ok (.iconst 0, 1) := oc_3 shX12_wrong_11
theorem dX12_wrong_12 : decode cX12_wrong 12 = .ok (.ireturn, 1) := oc_172 shX12_wrong_12
noncomputable def sxX12_takes_30 : List UInt8 := []
noncomputable def sxX12_takes_29 : List UInt8 := 172 :: sxX12_takes_30
noncomputable def sxX12_takes_28 : List UInt8 := 4 :: sxX12_takes_29
noncomputable def sxX12_takes_25 : List UInt8 := 181 :: 0 :: 233 :: sxX12_takes_28
noncomputable def sxX12_takes_24 : List UInt8 := 96 :: sxX12_takes_25
noncomputable def sxX12_takes_23 : List UInt8 := 4 :: sxX12_takes_24
noncomputable def sxX12_takes_20 : List UInt8 := 180 :: 0 :: 233 :: sxX12_takes_23
noncomputable def sxX12_takes_19 : List UInt8 := 42 :: sxX12_takes_20
noncomputable def sxX12_takes_18 : List UInt8 := 42 :: sxX12_takes_19
noncomputable def sxX12_takes_17 : List UInt8 := 172 :: sxX12_takes_18
noncomputable def sxX12_takes_14 : List UInt8 := 182 :: 0 :: 246 :: sxX12_takes_17
noncomputable def sxX12_takes_11 : List UInt8 := 180 :: 0 :: 233 :: sxX12_takes_14
noncomputable def sxX12_takes_10 : List UInt8 := 42 :: sxX12_takes_11
noncomputable def sxX12_takes_9 : List UInt8 := 4 :: sxX12_takes_10
noncomputable def sxX12_takes_8 : List UInt8 := 42 :: sxX12_takes_9
noncomputable def sxX12_takes_5 : List UInt8 := 159 :: 0 :: 13 :: sxX12_takes_8
noncomputable def sxX12_takes_4 : List UInt8 := 27 :: sxX12_takes_5
noncomputable def sxX12_takes_1 : List UInt8 := 182 :: 0 :: 239 :: sxX12_takes_4
noncomputable def sxX12_takes_0 : List UInt8 := 42 :: sxX12_takes_1
theorem shX12_takes_0 : cX12_takes.data.toList.drop 0 = sxX12_takes_0 := rfl
theorem shX12_takes_1 : cX12_takes.data.toList.drop 1 = sxX12_takes_1 := dSn 1 shX12_takes_0
theorem shX12_takes_4 : cX12_takes.data.toList.drop 4 = sxX12_takes_4 := dSn 3 shX12_takes_1
theorem shX12_takes_5 : cX12_takes.data.toList.drop 5 = sxX12_takes_5 := dSn 1 shX12_takes_4
theorem shX12_takes_8 : cX12_takes.data.toList.drop 8 = sxX12_takes_8 := dSn 3 shX12_takes_5
theorem shX12_takes_9 : cX12_takes.data.toList.drop 9 = sxX12_takes_9 := dSn 1 shX12_takes_8
theorem shX12_takes_10 : cX12_takes.data.toList.drop 10 = sxX12_takes_10 := dSn 1 shX12_takes_9
theorem shX12_takes_11 : cX12_takes.data.toList.drop 11 = sxX12_takes_11 := dSn 1 shX12_takes_10
theorem shX12_takes_14 : cX12_takes.data.toList.drop 14 = sxX12_takes_14 := dSn 3 shX12_takes_11
theorem shX12_takes_17 : cX12_takes.data.toList.drop 17 = sxX12_takes_17 := dSn 3 shX12_takes_14
theorem shX12_takes_18 : cX12_takes.data.toList.drop 18 = sxX12_takes_18 := dSn 1 shX12_takes_17
theorem shX12_takes_19 : cX12_takes.data.toList.drop 19 = sxX12_takes_19 := dSn 1 shX12_takes_18
theorem shX12_takes_20 : cX12_takes.data.toList.drop 20 = sxX12_takes_20 := dSn 1 shX12_takes_19
theorem shX12_takes_23 : cX12_takes.data.toList.drop 23 = sxX12_takes_23 := dSn 3 shX12_takes_20
theorem shX12_takes_24 : cX12_takes.data.toList.drop 24 = sxX12_takes_24 := dSn 1 shX12_takes_23
theorem shX12_takes_25 : cX12_takes.data.toList.drop 25 = sxX12_takes_25 := dSn 1 shX12_takes_24
theorem shX12_takes_28 : cX12_takes.data.toList.drop 28 = sxX12_takes_28 := dSn 3 shX12_takes_25
theorem shX12_takes_29 : cX12_takes.data.toList.drop 29 = sxX12_takes_29 := dSn 1 shX12_takes_28
theorem dX12_takes_0 : decode cX12_takes 0 = .ok (.aload_n 0, 1) := oc_42 shX12_takes_0
theorem dX12_takes_1 : decode cX12_takes 1 = .ok (.invokevirtual 239, 3) := oc_182 shX12_takes_1
theorem dX12_takes_4 : decode cX12_takes 4 = .ok (.iload_n 1, 1) := oc_27 shX12_takes_4
theorem dX12_takes_5 : decode cX12_takes 5 = .ok (.if_icmp .eq 13, 3) := oc_159 shX12_takes_5 sgw_0_13
theorem dX12_takes_8 : decode cX12_takes 8 = .ok (.aload_n 0, 1) := oc_42 shX12_takes_8
theorem dX12_takes_9 : decode cX12_takes 9 = .ok (.iconst 1, 1) := oc_4 shX12_takes_9
theorem dX12_takes_10 : decode cX12_takes 10 = .ok (.aload_n 0, 1) := oc_42 shX12_takes_10
theorem dX12_takes_11 : decode cX12_takes 11 = .ok (.getfield 233, 3) := oc_180 shX12_takes_11
theorem dX12_takes_14 : decode cX12_takes 14 = .ok (.invokevirtual 246, 3) := oc_182 shX12_takes_14
theorem dX12_takes_17 : decode cX12_takes 17 = .ok (.ireturn, 1) := oc_172 shX12_takes_17
theorem dX12_takes_18 : decode cX12_takes 18 = .ok (.aload_n 0, 1) := oc_42 shX12_takes_18
theorem dX12_takes_19 : decode cX12_takes 19 = .ok (.aload_n 0, 1) := oc_42 shX12_takes_19
theorem dX12_takes_20 : decode cX12_takes 20 = .ok (.getfield 233, 3) := oc_180 shX12_takes_20
theorem dX12_takes_23 : decode cX12_takes 23 = .ok (.iconst 1, 1) := oc_4 shX12_takes_23
theorem dX12_takes_24 : decode cX12_takes 24 = .ok (.iadd, 1) := oc_96 shX12_takes_24
theorem dX12_takes_25 : decode cX12_takes 25 = .ok (.putfield 233, 3) := oc_181 shX12_takes_25
theorem dX12_takes_28 : decode cX12_takes 28 = .ok (.iconst 1, 1) := oc_4 shX12_takes_28
theorem dX12_takes_29 : decode cX12_takes 29 = .ok (.ireturn, 1) := oc_172 shX12_takes_29
noncomputable def sxX12_readsNumber_72 : List UInt8 := []
noncomputable def sxX12_readsNumber_71 : List UInt8 := 172 :: sxX12_readsNumber_72
noncomputable def sxX12_readsNumber_70 : List UInt8 := 4 :: sxX12_readsNumber_71
noncomputable def sxX12_readsNumber_67 : List UInt8 := 167 :: 255 :: 199 :: sxX12_readsNumber_70
noncomputable def sxX12_readsNumber_64 : List UInt8 := 181 :: 0 :: 233 :: sxX12_readsNumber_67
noncomputable def sxX12_readsNumber_63 : List UInt8 := 96 :: sxX12_readsNumber_64
noncomputable def sxX12_readsNumber_62 : List UInt8 := 4 :: sxX12_readsNumber_63
noncomputable def sxX12_readsNumber_59 : List UInt8 := 180 :: 0 :: 233 :: sxX12_readsNumber_62
noncomputable def sxX12_readsNumber_58 : List UInt8 := 42 :: sxX12_readsNumber_59
noncomputable def sxX12_readsNumber_57 : List UInt8 := 42 :: sxX12_readsNumber_58
noncomputable def sxX12_readsNumber_54 : List UInt8 := 181 :: 0 :: 250 :: sxX12_readsNumber_57
noncomputable def sxX12_readsNumber_53 : List UInt8 := 100 :: sxX12_readsNumber_54
noncomputable def sxX12_readsNumber_51 : List UInt8 := 16 :: 48 :: sxX12_readsNumber_53
noncomputable def sxX12_readsNumber_50 : List UInt8 := 96 :: sxX12_readsNumber_51
noncomputable def sxX12_readsNumber_47 : List UInt8 := 182 :: 0 :: 239 :: sxX12_readsNumber_50
noncomputable def sxX12_readsNumber_46 : List UInt8 := 42 :: sxX12_readsNumber_47
noncomputable def sxX12_readsNumber_45 : List UInt8 := 104 :: sxX12_readsNumber_46
noncomputable def sxX12_readsNumber_42 : List UInt8 := 180 :: 0 :: 250 :: sxX12_readsNumber_45
noncomputable def sxX12_readsNumber_41 : List UInt8 := 42 :: sxX12_readsNumber_42
noncomputable def sxX12_readsNumber_39 : List UInt8 := 16 :: 10 :: sxX12_readsNumber_41
noncomputable def sxX12_readsNumber_38 : List UInt8 := 42 :: sxX12_readsNumber_39
noncomputable def sxX12_readsNumber_37 : List UInt8 := 172 :: sxX12_readsNumber_38
noncomputable def sxX12_readsNumber_34 : List UInt8 := 182 :: 0 :: 246 :: sxX12_readsNumber_37
noncomputable def sxX12_readsNumber_31 : List UInt8 := 180 :: 0 :: 233 :: sxX12_readsNumber_34
noncomputable def sxX12_readsNumber_30 : List UInt8 := 42 :: sxX12_readsNumber_31
noncomputable def sxX12_readsNumber_29 : List UInt8 := 5 :: sxX12_readsNumber_30
noncomputable def sxX12_readsNumber_28 : List UInt8 := 42 :: sxX12_readsNumber_29
noncomputable def sxX12_readsNumber_25 : List UInt8 := 160 :: 0 :: 13 :: sxX12_readsNumber_28
noncomputable def sxX12_readsNumber_24 : List UInt8 := 96 :: sxX12_readsNumber_25
noncomputable def sxX12_readsNumber_22 : List UInt8 := 16 :: 6 :: sxX12_readsNumber_24
noncomputable def sxX12_readsNumber_21 : List UInt8 := 27 :: sxX12_readsNumber_22
noncomputable def sxX12_readsNumber_18 : List UInt8 := 180 :: 0 :: 233 :: sxX12_readsNumber_21
noncomputable def sxX12_readsNumber_17 : List UInt8 := 42 :: sxX12_readsNumber_18
noncomputable def sxX12_readsNumber_14 : List UInt8 := 153 :: 0 :: 56 :: sxX12_readsNumber_17
noncomputable def sxX12_readsNumber_11 : List UInt8 := 182 :: 0 :: 253 :: sxX12_readsNumber_14
noncomputable def sxX12_readsNumber_10 : List UInt8 := 42 :: sxX12_readsNumber_11
noncomputable def sxX12_readsNumber_7 : List UInt8 := 181 :: 0 :: 250 :: sxX12_readsNumber_10
noncomputable def sxX12_readsNumber_6 : List UInt8 := 3 :: sxX12_readsNumber_7
noncomputable def sxX12_readsNumber_5 : List UInt8 := 42 :: sxX12_readsNumber_6
noncomputable def sxX12_readsNumber_4 : List UInt8 := 60 :: sxX12_readsNumber_5
noncomputable def sxX12_readsNumber_1 : List UInt8 := 180 :: 0 :: 233 :: sxX12_readsNumber_4
noncomputable def sxX12_readsNumber_0 : List UInt8 := 42 :: sxX12_readsNumber_1
theorem shX12_readsNumber_0 : cX12_readsNumber.data.toList.drop 0 = sxX12_readsNumber_0 := rfl
theorem shX12_readsNumber_1 : cX12_readsNumber.data.toList.drop 1 = sxX12_readsNumber_1 := dSn 1 shX12_readsNumber_0
theorem shX12_readsNumber_4 : cX12_readsNumber.data.toList.drop 4 = sxX12_readsNumber_4 := dSn 3 shX12_readsNumber_1
theorem shX12_readsNumber_5 : cX12_readsNumber.data.toList.drop 5 = sxX12_readsNumber_5 := dSn 1 shX12_readsNumber_4
theorem shX12_readsNumber_6 : cX12_readsNumber.data.toList.drop 6 = sxX12_readsNumber_6 := dSn 1 shX12_readsNumber_5
theorem shX12_readsNumber_7 : cX12_readsNumber.data.toList.drop 7 = sxX12_readsNumber_7 := dSn 1 shX12_readsNumber_6
theorem shX12_readsNumber_10 : cX12_readsNumber.data.toList.drop 10 = sxX12_readsNumber_10 := dSn 3 shX12_readsNumber_7
theorem shX12_readsNumber_11 : cX12_readsNumber.data.toList.drop 11 = sxX12_readsNumber_11 := dSn 1 shX12_readsNumber_10
theorem shX12_readsNumber_14 : cX12_readsNumber.data.toList.drop 14 = sxX12_readsNumber_14 := dSn 3 shX12_readsNumber_11
theorem shX12_readsNumber_17 : cX12_readsNumber.data.toList.drop 17 = sxX12_readsNumber_17 := dSn 3 shX12_readsNumber_14
theorem shX12_readsNumber_18 : cX12_readsNumber.data.toList.drop 18 = sxX12_readsNumber_18 := dSn 1 shX12_readsNumber_17
theorem shX12_readsNumber_21 : cX12_readsNumber.data.toList.drop 21 = sxX12_readsNumber_21 := dSn 3 shX12_readsNumber_18
theorem shX12_readsNumber_22 : cX12_readsNumber.data.toList.drop 22 = sxX12_readsNumber_22 := dSn 1 shX12_readsNumber_21
theorem shX12_readsNumber_24 : cX12_readsNumber.data.toList.drop 24 = sxX12_readsNumber_24 := dSn 2 shX12_readsNumber_22
theorem shX12_readsNumber_25 : cX12_readsNumber.data.toList.drop 25 = sxX12_readsNumber_25 := dSn 1 shX12_readsNumber_24
theorem shX12_readsNumber_28 : cX12_readsNumber.data.toList.drop 28 = sxX12_readsNumber_28 := dSn 3 shX12_readsNumber_25
theorem shX12_readsNumber_29 : cX12_readsNumber.data.toList.drop 29 = sxX12_readsNumber_29 := dSn 1 shX12_readsNumber_28
theorem shX12_readsNumber_30 : cX12_readsNumber.data.toList.drop 30 = sxX12_readsNumber_30 := dSn 1 shX12_readsNumber_29
theorem shX12_readsNumber_31 : cX12_readsNumber.data.toList.drop 31 = sxX12_readsNumber_31 := dSn 1 shX12_readsNumber_30
theorem shX12_readsNumber_34 : cX12_readsNumber.data.toList.drop 34 = sxX12_readsNumber_34 := dSn 3 shX12_readsNumber_31
theorem shX12_readsNumber_37 : cX12_readsNumber.data.toList.drop 37 = sxX12_readsNumber_37 := dSn 3 shX12_readsNumber_34
theorem shX12_readsNumber_38 : cX12_readsNumber.data.toList.drop 38 = sxX12_readsNumber_38 := dSn 1 shX12_readsNumber_37
theorem shX12_readsNumber_39 : cX12_readsNumber.data.toList.drop 39 = sxX12_readsNumber_39 := dSn 1 shX12_readsNumber_38
theorem shX12_readsNumber_41 : cX12_readsNumber.data.toList.drop 41 = sxX12_readsNumber_41 := dSn 2 shX12_readsNumber_39
theorem shX12_readsNumber_42 : cX12_readsNumber.data.toList.drop 42 = sxX12_readsNumber_42 := dSn 1 shX12_readsNumber_41
theorem shX12_readsNumber_45 : cX12_readsNumber.data.toList.drop 45 = sxX12_readsNumber_45 := dSn 3 shX12_readsNumber_42
theorem shX12_readsNumber_46 : cX12_readsNumber.data.toList.drop 46 = sxX12_readsNumber_46 := dSn 1 shX12_readsNumber_45
theorem shX12_readsNumber_47 : cX12_readsNumber.data.toList.drop 47 = sxX12_readsNumber_47 := dSn 1 shX12_readsNumber_46
theorem shX12_readsNumber_50 : cX12_readsNumber.data.toList.drop 50 = sxX12_readsNumber_50 := dSn 3 shX12_readsNumber_47
theorem shX12_readsNumber_51 : cX12_readsNumber.data.toList.drop 51 = sxX12_readsNumber_51 := dSn 1 shX12_readsNumber_50
theorem shX12_readsNumber_53 : cX12_readsNumber.data.toList.drop 53 = sxX12_readsNumber_53 := dSn 2 shX12_readsNumber_51
theorem shX12_readsNumber_54 : cX12_readsNumber.data.toList.drop 54 = sxX12_readsNumber_54 := dSn 1 shX12_readsNumber_53
theorem shX12_readsNumber_57 : cX12_readsNumber.data.toList.drop 57 = sxX12_readsNumber_57 := dSn 3 shX12_readsNumber_54
theorem shX12_readsNumber_58 : cX12_readsNumber.data.toList.drop 58 = sxX12_readsNumber_58 := dSn 1 shX12_readsNumber_57
theorem shX12_readsNumber_59 : cX12_readsNumber.data.toList.drop 59 = sxX12_readsNumber_59 := dSn 1 shX12_readsNumber_58
theorem shX12_readsNumber_62 : cX12_readsNumber.data.toList.drop 62 = sxX12_readsNumber_62 := dSn 3 shX12_readsNumber_59
theorem shX12_readsNumber_63 : cX12_readsNumber.data.toList.drop 63 = sxX12_readsNumber_63 := dSn 1 shX12_readsNumber_62
theorem shX12_readsNumber_64 : cX12_readsNumber.data.toList.drop 64 = sxX12_readsNumber_64 := dSn 1 shX12_readsNumber_63
theorem shX12_readsNumber_67 : cX12_readsNumber.data.toList.drop 67 = sxX12_readsNumber_67 := dSn 3 shX12_readsNumber_64
theorem shX12_readsNumber_70 : cX12_readsNumber.data.toList.drop 70 = sxX12_readsNumber_70 := dSn 3 shX12_readsNumber_67
theorem shX12_readsNumber_71 : cX12_readsNumber.data.toList.drop 71 = sxX12_readsNumber_71 := dSn 1 shX12_readsNumber_70
theorem dX12_readsNumber_0 : decode cX12_readsNumber 0 = .ok (.aload_n 0, 1) := oc_42 shX12_readsNumber_0
theorem dX12_readsNumber_1 : decode cX12_readsNumber 1 = .ok (.getfield 233, 3) := oc_180 shX12_readsNumber_1
theorem dX12_readsNumber_4 : decode cX12_readsNumber 4 = .ok (.istore_n 1, 1) := oc_60 shX12_readsNumber_4
theorem dX12_readsNumber_5 : decode cX12_readsNumber 5 = .ok (.aload_n 0, 1) := oc_42 shX12_readsNumber_5
theorem dX12_readsNumber_6 : decode cX12_readsNumber 6 = .ok (.iconst 0, 1) := oc_3 shX12_readsNumber_6
theorem dX12_readsNumber_7 : decode cX12_readsNumber 7 = .ok (.putfield 250, 3) := oc_181 shX12_readsNumber_7
theorem dX12_readsNumber_10 : decode cX12_readsNumber 10 = .ok (.aload_n 0, 1) := oc_42 shX12_readsNumber_10
theorem dX12_readsNumber_11 : decode cX12_readsNumber 11 = .ok (.invokevirtual 253, 3) := oc_182 shX12_readsNumber_11
theorem dX12_readsNumber_14 : decode cX12_readsNumber 14 = .ok (.ifCond .eq 56, 3) := oc_153 shX12_readsNumber_14 sgw_0_56
theorem dX12_readsNumber_17 : decode cX12_readsNumber 17 = .ok (.aload_n 0, 1) := oc_42 shX12_readsNumber_17
theorem dX12_readsNumber_18 : decode cX12_readsNumber 18 = .ok (.getfield 233, 3) := oc_180 shX12_readsNumber_18
theorem dX12_readsNumber_21 : decode cX12_readsNumber 21 = .ok (.iload_n 1, 1) := oc_27 shX12_readsNumber_21
theorem dX12_readsNumber_22 : decode cX12_readsNumber 22 = .ok (.bipush 6, 2) := oc_16 shX12_readsNumber_22 sgb_6
theorem dX12_readsNumber_24 : decode cX12_readsNumber 24 = .ok (.iadd, 1) := oc_96 shX12_readsNumber_24
theorem dX12_readsNumber_25 : decode cX12_readsNumber 25 = .ok (.if_icmp .ne 13, 3) := oc_160 shX12_readsNumber_25 sgw_0_13
theorem dX12_readsNumber_28 : decode cX12_readsNumber 28 = .ok (.aload_n 0, 1) := oc_42 shX12_readsNumber_28
theorem dX12_readsNumber_29 : decode cX12_readsNumber 29 = .ok (.iconst 2, 1) := oc_5 shX12_readsNumber_29
theorem dX12_readsNumber_30 : decode cX12_readsNumber 30 = .ok (.aload_n 0, 1) := oc_42 shX12_readsNumber_30
theorem dX12_readsNumber_31 : decode cX12_readsNumber 31 = .ok (.getfield 233, 3) := oc_180 shX12_readsNumber_31
theorem dX12_readsNumber_34 : decode cX12_readsNumber 34 = .ok (.invokevirtual 246, 3) := oc_182 shX12_readsNumber_34
theorem dX12_readsNumber_37 : decode cX12_readsNumber 37 = .ok (.ireturn, 1) := oc_172 shX12_readsNumber_37
theorem dX12_readsNumber_38 : decode cX12_readsNumber 38 = .ok (.aload_n 0, 1) := oc_42 shX12_readsNumber_38
theorem dX12_readsNumber_39 : decode cX12_readsNumber 39 = .ok (.bipush 10, 2) := oc_16 shX12_readsNumber_39 sgb_10
theorem dX12_readsNumber_41 : decode cX12_readsNumber 41 = .ok (.aload_n 0, 1) := oc_42 shX12_readsNumber_41
theorem dX12_readsNumber_42 : decode cX12_readsNumber 42 = .ok (.getfield 250, 3) := oc_180 shX12_readsNumber_42
theorem dX12_readsNumber_45 : decode cX12_readsNumber 45 = .ok (.imul, 1) := oc_104 shX12_readsNumber_45
theorem dX12_readsNumber_46 : decode cX12_readsNumber 46 = .ok (.aload_n 0, 1) := oc_42 shX12_readsNumber_46
theorem dX12_readsNumber_47 : decode cX12_readsNumber 47 = .ok (.invokevirtual 239, 3) := oc_182 shX12_readsNumber_47
theorem dX12_readsNumber_50 : decode cX12_readsNumber 50 = .ok (.iadd, 1) := oc_96 shX12_readsNumber_50
theorem dX12_readsNumber_51 : decode cX12_readsNumber 51 = .ok (.bipush 48, 2) := oc_16 shX12_readsNumber_51 sgb_48
theorem dX12_readsNumber_53 : decode cX12_readsNumber 53 = .ok (.isub, 1) := oc_100 shX12_readsNumber_53
theorem dX12_readsNumber_54 : decode cX12_readsNumber 54 = .ok (.putfield 250, 3) := oc_181 shX12_readsNumber_54
theorem dX12_readsNumber_57 : decode cX12_readsNumber 57 = .ok (.aload_n 0, 1) := oc_42 shX12_readsNumber_57
theorem dX12_readsNumber_58 : decode cX12_readsNumber 58 = .ok (.aload_n 0, 1) := oc_42 shX12_readsNumber_58
theorem dX12_readsNumber_59 : decode cX12_readsNumber 59 = .ok (.getfield 233, 3) := oc_180 shX12_readsNumber_59
theorem dX12_readsNumber_62 : decode cX12_readsNumber 62 = .ok (.iconst 1, 1) := oc_4 shX12_readsNumber_62
theorem dX12_readsNumber_63 : decode cX12_readsNumber 63 = .ok (.iadd, 1) := oc_96 shX12_readsNumber_63
theorem dX12_readsNumber_64 : decode cX12_readsNumber 64 = .ok (.putfield 233, 3) := oc_181 shX12_readsNumber_64
theorem dX12_readsNumber_67 : decode cX12_readsNumber 67 = .ok (.goto (-57), 3) := oc_167 shX12_readsNumber_67 sgw_255_199
theorem dX12_readsNumber_70 : decode cX12_readsNumber 70 = .ok (.iconst 1, 1) := oc_4 shX12_readsNumber_70
theorem dX12_readsNumber_71 : decode cX12_readsNumber 71 = .ok (.ireturn, 1) := oc_172 shX12_readsNumber_71
noncomputable def sxX12_says_27 : List UInt8 := []
noncomputable def sxX12_says_26 : List UInt8 := 177 :: sxX12_says_27
noncomputable def sxX12_says_23 : List UInt8 := 181 :: 1 :: 1 :: sxX12_says_26
noncomputable def sxX12_says_22 : List UInt8 := 96 :: sxX12_says_23
noncomputable def sxX12_says_21 : List UInt8 := 4 :: sxX12_says_22
noncomputable def sxX12_says_18 : List UInt8 := 180 :: 1 :: 1 :: sxX12_says_21
noncomputable def sxX12_says_17 : List UInt8 := 42 :: sxX12_says_18
noncomputable def sxX12_says_16 : List UInt8 := 42 :: sxX12_says_17
noncomputable def sxX12_says_15 : List UInt8 := 79 :: sxX12_says_16
noncomputable def sxX12_says_14 : List UInt8 := 96 :: sxX12_says_15
noncomputable def sxX12_says_13 : List UInt8 := 28 :: sxX12_says_14
noncomputable def sxX12_says_12 : List UInt8 := 104 :: sxX12_says_13
noncomputable def sxX12_says_11 : List UInt8 := 27 :: sxX12_says_12
noncomputable def sxX12_says_8 : List UInt8 := 19 :: 1 :: 4 :: sxX12_says_11
noncomputable def sxX12_says_5 : List UInt8 := 180 :: 1 :: 1 :: sxX12_says_8
noncomputable def sxX12_says_4 : List UInt8 := 42 :: sxX12_says_5
noncomputable def sxX12_says_1 : List UInt8 := 180 :: 0 :: 56 :: sxX12_says_4
noncomputable def sxX12_says_0 : List UInt8 := 42 :: sxX12_says_1
theorem shX12_says_0 : cX12_says.data.toList.drop 0 = sxX12_says_0 := rfl
theorem shX12_says_1 : cX12_says.data.toList.drop 1 = sxX12_says_1 := dSn 1 shX12_says_0
theorem shX12_says_4 : cX12_says.data.toList.drop 4 = sxX12_says_4 := dSn 3 shX12_says_1
theorem shX12_says_5 : cX12_says.data.toList.drop 5 = sxX12_says_5 := dSn 1 shX12_says_4
theorem shX12_says_8 : cX12_says.data.toList.drop 8 = sxX12_says_8 := dSn 3 shX12_says_5
theorem shX12_says_11 : cX12_says.data.toList.drop 11 = sxX12_says_11 := dSn 3 shX12_says_8
theorem shX12_says_12 : cX12_says.data.toList.drop 12 = sxX12_says_12 := dSn 1 shX12_says_11
theorem shX12_says_13 : cX12_says.data.toList.drop 13 = sxX12_says_13 := dSn 1 shX12_says_12
theorem shX12_says_14 : cX12_says.data.toList.drop 14 = sxX12_says_14 := dSn 1 shX12_says_13
theorem shX12_says_15 : cX12_says.data.toList.drop 15 = sxX12_says_15 := dSn 1 shX12_says_14
theorem shX12_says_16 : cX12_says.data.toList.drop 16 = sxX12_says_16 := dSn 1 shX12_says_15
theorem shX12_says_17 : cX12_says.data.toList.drop 17 = sxX12_says_17 := dSn 1 shX12_says_16
theorem shX12_says_18 : cX12_says.data.toList.drop 18 = sxX12_says_18 := dSn 1 shX12_says_17
theorem shX12_says_21 : cX12_says.data.toList.drop 21 = sxX12_says_21 := dSn 3 shX12_says_18
theorem shX12_says_22 : cX12_says.data.toList.drop 22 = sxX12_says_22 := dSn 1 shX12_says_21
theorem shX12_says_23 : cX12_says.data.toList.drop 23 = sxX12_says_23 := dSn 1 shX12_says_22
theorem shX12_says_26 : cX12_says.data.toList.drop 26 = sxX12_says_26 := dSn 3 shX12_says_23
theorem dX12_says_0 : decode cX12_says 0 = .ok (.aload_n 0, 1) := oc_42 shX12_says_0
theorem dX12_says_1 : decode cX12_says 1 = .ok (.getfield 56, 3) := oc_180 shX12_says_1
theorem dX12_says_4 : decode cX12_says 4 = .ok (.aload_n 0, 1) := oc_42 shX12_says_4
theorem dX12_says_5 : decode cX12_says 5 = .ok (.getfield 257, 3) := oc_180 shX12_says_5
theorem dX12_says_8 : decode cX12_says 8 = .ok (.ldc_w 260, 3) := oc_19 shX12_says_8
theorem dX12_says_11 : decode cX12_says 11 = .ok (.iload_n 1, 1) := oc_27 shX12_says_11
theorem dX12_says_12 : decode cX12_says 12 = .ok (.imul, 1) := oc_104 shX12_says_12
theorem dX12_says_13 : decode cX12_says 13 = .ok (.iload_n 2, 1) := oc_28 shX12_says_13
theorem dX12_says_14 : decode cX12_says 14 = .ok (.iadd, 1) := oc_96 shX12_says_14
theorem dX12_says_15 : decode cX12_says 15 = .ok (.iastore, 1) := oc_79 shX12_says_15
theorem dX12_says_16 : decode cX12_says 16 = .ok (.aload_n 0, 1) := oc_42 shX12_says_16
theorem dX12_says_17 : decode cX12_says 17 = .ok (.aload_n 0, 1) := oc_42 shX12_says_17
theorem dX12_says_18 : decode cX12_says 18 = .ok (.getfield 257, 3) := oc_180 shX12_says_18
theorem dX12_says_21 : decode cX12_says 21 = .ok (.iconst 1, 1) := oc_4 shX12_says_21
theorem dX12_says_22 : decode cX12_says 22 = .ok (.iadd, 1) := oc_96 shX12_says_22
theorem dX12_says_23 : decode cX12_says 23 = .ok (.putfield 257, 3) := oc_181 shX12_says_23
theorem dX12_says_26 : decode cX12_says 26 = .ok (.return_, 1) := oc_177 shX12_says_26
noncomputable def sxX12_opens_65 : List UInt8 := []
noncomputable def sxX12_opens_64 : List UInt8 := 172 :: sxX12_opens_65
noncomputable def sxX12_opens_63 : List UInt8 := 4 :: sxX12_opens_64
noncomputable def sxX12_opens_60 : List UInt8 := 181 :: 0 :: 233 :: sxX12_opens_63
noncomputable def sxX12_opens_59 : List UInt8 := 96 :: sxX12_opens_60
noncomputable def sxX12_opens_58 : List UInt8 := 4 :: sxX12_opens_59
noncomputable def sxX12_opens_55 : List UInt8 := 180 :: 0 :: 233 :: sxX12_opens_58
noncomputable def sxX12_opens_54 : List UInt8 := 42 :: sxX12_opens_55
noncomputable def sxX12_opens_53 : List UInt8 := 42 :: sxX12_opens_54
noncomputable def sxX12_opens_50 : List UInt8 := 181 :: 1 :: 8 :: sxX12_opens_53
noncomputable def sxX12_opens_49 : List UInt8 := 96 :: sxX12_opens_50
noncomputable def sxX12_opens_48 : List UInt8 := 4 :: sxX12_opens_49
noncomputable def sxX12_opens_45 : List UInt8 := 180 :: 1 :: 8 :: sxX12_opens_48
noncomputable def sxX12_opens_44 : List UInt8 := 42 :: sxX12_opens_45
noncomputable def sxX12_opens_43 : List UInt8 := 42 :: sxX12_opens_44
noncomputable def sxX12_opens_42 : List UInt8 := 79 :: sxX12_opens_43
noncomputable def sxX12_opens_41 : List UInt8 := 104 :: sxX12_opens_42
noncomputable def sxX12_opens_40 : List UInt8 := 27 :: sxX12_opens_41
noncomputable def sxX12_opens_37 : List UInt8 := 19 :: 1 :: 4 :: sxX12_opens_40
noncomputable def sxX12_opens_34 : List UInt8 := 180 :: 1 :: 8 :: sxX12_opens_37
noncomputable def sxX12_opens_33 : List UInt8 := 42 :: sxX12_opens_34
noncomputable def sxX12_opens_30 : List UInt8 := 180 :: 0 :: 59 :: sxX12_opens_33
noncomputable def sxX12_opens_29 : List UInt8 := 42 :: sxX12_opens_30
noncomputable def sxX12_opens_26 : List UInt8 := 181 :: 1 :: 5 :: sxX12_opens_29
noncomputable def sxX12_opens_25 : List UInt8 := 96 :: sxX12_opens_26
noncomputable def sxX12_opens_24 : List UInt8 := 4 :: sxX12_opens_25
noncomputable def sxX12_opens_21 : List UInt8 := 180 :: 1 :: 5 :: sxX12_opens_24
noncomputable def sxX12_opens_20 : List UInt8 := 42 :: sxX12_opens_21
noncomputable def sxX12_opens_19 : List UInt8 := 42 :: sxX12_opens_20
noncomputable def sxX12_opens_18 : List UInt8 := 172 :: sxX12_opens_19
noncomputable def sxX12_opens_15 : List UInt8 := 182 :: 0 :: 246 :: sxX12_opens_18
noncomputable def sxX12_opens_12 : List UInt8 := 180 :: 0 :: 233 :: sxX12_opens_15
noncomputable def sxX12_opens_11 : List UInt8 := 42 :: sxX12_opens_12
noncomputable def sxX12_opens_10 : List UInt8 := 8 :: sxX12_opens_11
noncomputable def sxX12_opens_9 : List UInt8 := 42 :: sxX12_opens_10
noncomputable def sxX12_opens_6 : List UInt8 := 160 :: 0 :: 13 :: sxX12_opens_9
noncomputable def sxX12_opens_4 : List UInt8 := 16 :: 6 :: sxX12_opens_6
noncomputable def sxX12_opens_1 : List UInt8 := 180 :: 1 :: 5 :: sxX12_opens_4
noncomputable def sxX12_opens_0 : List UInt8 := 42 :: sxX12_opens_1
theorem shX12_opens_0 : cX12_opens.data.toList.drop 0 = sxX12_opens_0 := rfl
theorem shX12_opens_1 : cX12_opens.data.toList.drop 1 = sxX12_opens_1 := dSn 1 shX12_opens_0
theorem shX12_opens_4 : cX12_opens.data.toList.drop 4 = sxX12_opens_4 := dSn 3 shX12_opens_1
theorem shX12_opens_6 : cX12_opens.data.toList.drop 6 = sxX12_opens_6 := dSn 2 shX12_opens_4
theorem shX12_opens_9 : cX12_opens.data.toList.drop 9 = sxX12_opens_9 := dSn 3 shX12_opens_6
theorem shX12_opens_10 : cX12_opens.data.toList.drop 10 = sxX12_opens_10 := dSn 1 shX12_opens_9
theorem shX12_opens_11 : cX12_opens.data.toList.drop 11 = sxX12_opens_11 := dSn 1 shX12_opens_10
theorem shX12_opens_12 : cX12_opens.data.toList.drop 12 = sxX12_opens_12 := dSn 1 shX12_opens_11
theorem shX12_opens_15 : cX12_opens.data.toList.drop 15 = sxX12_opens_15 := dSn 3 shX12_opens_12
theorem shX12_opens_18 : cX12_opens.data.toList.drop 18 = sxX12_opens_18 := dSn 3 shX12_opens_15
theorem shX12_opens_19 : cX12_opens.data.toList.drop 19 = sxX12_opens_19 := dSn 1 shX12_opens_18
theorem shX12_opens_20 : cX12_opens.data.toList.drop 20 = sxX12_opens_20 := dSn 1 shX12_opens_19
theorem shX12_opens_21 : cX12_opens.data.toList.drop 21 = sxX12_opens_21 := dSn 1 shX12_opens_20
theorem shX12_opens_24 : cX12_opens.data.toList.drop 24 = sxX12_opens_24 := dSn 3 shX12_opens_21
theorem shX12_opens_25 : cX12_opens.data.toList.drop 25 = sxX12_opens_25 := dSn 1 shX12_opens_24
theorem shX12_opens_26 : cX12_opens.data.toList.drop 26 = sxX12_opens_26 := dSn 1 shX12_opens_25
theorem shX12_opens_29 : cX12_opens.data.toList.drop 29 = sxX12_opens_29 := dSn 3 shX12_opens_26
theorem shX12_opens_30 : cX12_opens.data.toList.drop 30 = sxX12_opens_30 := dSn 1 shX12_opens_29
theorem shX12_opens_33 : cX12_opens.data.toList.drop 33 = sxX12_opens_33 := dSn 3 shX12_opens_30
theorem shX12_opens_34 : cX12_opens.data.toList.drop 34 = sxX12_opens_34 := dSn 1 shX12_opens_33
theorem shX12_opens_37 : cX12_opens.data.toList.drop 37 = sxX12_opens_37 := dSn 3 shX12_opens_34
theorem shX12_opens_40 : cX12_opens.data.toList.drop 40 = sxX12_opens_40 := dSn 3 shX12_opens_37
theorem shX12_opens_41 : cX12_opens.data.toList.drop 41 = sxX12_opens_41 := dSn 1 shX12_opens_40
theorem shX12_opens_42 : cX12_opens.data.toList.drop 42 = sxX12_opens_42 := dSn 1 shX12_opens_41
theorem shX12_opens_43 : cX12_opens.data.toList.drop 43 = sxX12_opens_43 := dSn 1 shX12_opens_42
theorem shX12_opens_44 : cX12_opens.data.toList.drop 44 = sxX12_opens_44 := dSn 1 shX12_opens_43
theorem shX12_opens_45 : cX12_opens.data.toList.drop 45 = sxX12_opens_45 := dSn 1 shX12_opens_44
theorem shX12_opens_48 : cX12_opens.data.toList.drop 48 = sxX12_opens_48 := dSn 3 shX12_opens_45
theorem shX12_opens_49 : cX12_opens.data.toList.drop 49 = sxX12_opens_49 := dSn 1 shX12_opens_48
theorem shX12_opens_50 : cX12_opens.data.toList.drop 50 = sxX12_opens_50 := dSn 1 shX12_opens_49
theorem shX12_opens_53 : cX12_opens.data.toList.drop 53 = sxX12_opens_53 := dSn 3 shX12_opens_50
theorem shX12_opens_54 : cX12_opens.data.toList.drop 54 = sxX12_opens_54 := dSn 1 shX12_opens_53
theorem shX12_opens_55 : cX12_opens.data.toList.drop 55 = sxX12_opens_55 := dSn 1 shX12_opens_54
theorem shX12_opens_58 : cX12_opens.data.toList.drop 58 = sxX12_opens_58 := dSn 3 shX12_opens_55
theorem shX12_opens_59 : cX12_opens.data.toList.drop 59 = sxX12_opens_59 := dSn 1 shX12_opens_58
theorem shX12_opens_60 : cX12_opens.data.toList.drop 60 = sxX12_opens_60 := dSn 1 shX12_opens_59
theorem shX12_opens_63 : cX12_opens.data.toList.drop 63 = sxX12_opens_63 := dSn 3 shX12_opens_60
theorem shX12_opens_64 : cX12_opens.data.toList.drop 64 = sxX12_opens_64 := dSn 1 shX12_opens_63
theorem dX12_opens_0 : decode cX12_opens 0 = .ok (.aload_n 0, 1) := oc_42 shX12_opens_0
theorem dX12_opens_1 : decode cX12_opens 1 = .ok (.getfield 261, 3) := oc_180 shX12_opens_1
theorem dX12_opens_4 : decode cX12_opens 4 = .ok (.bipush 6, 2) := oc_16 shX12_opens_4 sgb_6
theorem dX12_opens_6 : decode cX12_opens 6 = .ok (.if_icmp .ne 13, 3) := oc_160 shX12_opens_6 sgw_0_13
theorem dX12_opens_9 : decode cX12_opens 9 = .ok (.aload_n 0, 1) := oc_42 shX12_opens_9
theorem dX12_opens_10 : decode cX12_opens 10 = .ok (.iconst 5, 1) := oc_8 shX12_opens_10
theorem dX12_opens_11 : decode cX12_opens 11 = .ok (.aload_n 0, 1) := oc_42 shX12_opens_11
theorem dX12_opens_12 : decode cX12_opens 12 = .ok (.getfield 233, 3) := oc_180 shX12_opens_12
theorem dX12_opens_15 : decode cX12_opens 15 = .ok (.invokevirtual 246, 3) := oc_182 shX12_opens_15
theorem dX12_opens_18 : decode cX12_opens 18 = .ok (.ireturn, 1) := oc_172 shX12_opens_18
theorem dX12_opens_19 : decode cX12_opens 19 = .ok (.aload_n 0, 1) := oc_42 shX12_opens_19
theorem dX12_opens_20 : decode cX12_opens 20 = .ok (.aload_n 0, 1) := oc_42 shX12_opens_20
theorem dX12_opens_21 : decode cX12_opens 21 = .ok (.getfield 261, 3) := oc_180 shX12_opens_21
theorem dX12_opens_24 : decode cX12_opens 24 = .ok (.iconst 1, 1) := oc_4 shX12_opens_24
theorem dX12_opens_25 : decode cX12_opens 25 = .ok (.iadd, 1) := oc_96 shX12_opens_25
theorem dX12_opens_26 : decode cX12_opens 26 = .ok (.putfield 261, 3) := oc_181 shX12_opens_26
theorem dX12_opens_29 : decode cX12_opens 29 = .ok (.aload_n 0, 1) := oc_42 shX12_opens_29
theorem dX12_opens_30 : decode cX12_opens 30 = .ok (.getfield 59, 3) := oc_180 shX12_opens_30
theorem dX12_opens_33 : decode cX12_opens 33 = .ok (.aload_n 0, 1) := oc_42 shX12_opens_33
theorem dX12_opens_34 : decode cX12_opens 34 = .ok (.getfield 264, 3) := oc_180 shX12_opens_34
theorem dX12_opens_37 : decode cX12_opens 37 = .ok (.ldc_w 260, 3) := oc_19 shX12_opens_37
theorem dX12_opens_40 : decode cX12_opens 40 = .ok (.iload_n 1, 1) := oc_27 shX12_opens_40
theorem dX12_opens_41 : decode cX12_opens 41 = .ok (.imul, 1) := oc_104 shX12_opens_41
theorem dX12_opens_42 : decode cX12_opens 42 = .ok (.iastore, 1) := oc_79 shX12_opens_42
theorem dX12_opens_43 : decode cX12_opens 43 = .ok (.aload_n 0, 1) := oc_42 shX12_opens_43
theorem dX12_opens_44 : decode cX12_opens 44 = .ok (.aload_n 0, 1) := oc_42 shX12_opens_44
theorem dX12_opens_45 : decode cX12_opens 45 = .ok (.getfield 264, 3) := oc_180 shX12_opens_45
theorem dX12_opens_48 : decode cX12_opens 48 = .ok (.iconst 1, 1) := oc_4 shX12_opens_48
theorem dX12_opens_49 : decode cX12_opens 49 = .ok (.iadd, 1) := oc_96 shX12_opens_49
theorem dX12_opens_50 : decode cX12_opens 50 = .ok (.putfield 264, 3) := oc_181 shX12_opens_50
theorem dX12_opens_53 : decode cX12_opens 53 = .ok (.aload_n 0, 1) := oc_42 shX12_opens_53
theorem dX12_opens_54 : decode cX12_opens 54 = .ok (.aload_n 0, 1) := oc_42 shX12_opens_54
theorem dX12_opens_55 : decode cX12_opens 55 = .ok (.getfield 233, 3) := oc_180 shX12_opens_55
theorem dX12_opens_58 : decode cX12_opens 58 = .ok (.iconst 1, 1) := oc_4 shX12_opens_58
theorem dX12_opens_59 : decode cX12_opens 59 = .ok (.iadd, 1) := oc_96 shX12_opens_59
theorem dX12_opens_60 : decode cX12_opens 60 = .ok (.putfield 233, 3) := oc_181 shX12_opens_60
theorem dX12_opens_63 : decode cX12_opens 63 = .ok (.iconst 1, 1) := oc_4 shX12_opens_63
theorem dX12_opens_64 : decode cX12_opens 64 = .ok (.ireturn, 1) := oc_172 shX12_opens_64
noncomputable def sxX12_top_27 : List UInt8 := []
noncomputable def sxX12_top_26 : List UInt8 := 172 :: sxX12_top_27
noncomputable def sxX12_top_25 : List UInt8 := 108 :: sxX12_top_26
noncomputable def sxX12_top_22 : List UInt8 := 19 :: 1 :: 4 :: sxX12_top_25
noncomputable def sxX12_top_21 : List UInt8 := 46 :: sxX12_top_22
noncomputable def sxX12_top_20 : List UInt8 := 100 :: sxX12_top_21
noncomputable def sxX12_top_19 : List UInt8 := 4 :: sxX12_top_20
noncomputable def sxX12_top_16 : List UInt8 := 180 :: 1 :: 8 :: sxX12_top_19
noncomputable def sxX12_top_15 : List UInt8 := 42 :: sxX12_top_16
noncomputable def sxX12_top_12 : List UInt8 := 180 :: 0 :: 59 :: sxX12_top_15
noncomputable def sxX12_top_11 : List UInt8 := 42 :: sxX12_top_12
noncomputable def sxX12_top_8 : List UInt8 := 167 :: 0 :: 18 :: sxX12_top_11
noncomputable def sxX12_top_7 : List UInt8 := 2 :: sxX12_top_8
noncomputable def sxX12_top_4 : List UInt8 := 154 :: 0 :: 7 :: sxX12_top_7
noncomputable def sxX12_top_1 : List UInt8 := 180 :: 1 :: 8 :: sxX12_top_4
noncomputable def sxX12_top_0 : List UInt8 := 42 :: sxX12_top_1
theorem shX12_top_0 : cX12_top.data.toList.drop 0 = sxX12_top_0 := rfl
theorem shX12_top_1 : cX12_top.data.toList.drop 1 = sxX12_top_1 := dSn 1 shX12_top_0
theorem shX12_top_4 : cX12_top.data.toList.drop 4 = sxX12_top_4 := dSn 3 shX12_top_1
theorem shX12_top_7 : cX12_top.data.toList.drop 7 = sxX12_top_7 := dSn 3 shX12_top_4
theorem shX12_top_8 : cX12_top.data.toList.drop 8 = sxX12_top_8 := dSn 1 shX12_top_7
theorem shX12_top_11 : cX12_top.data.toList.drop 11 = sxX12_top_11 := dSn 3 shX12_top_8
theorem shX12_top_12 : cX12_top.data.toList.drop 12 = sxX12_top_12 := dSn 1 shX12_top_11
theorem shX12_top_15 : cX12_top.data.toList.drop 15 = sxX12_top_15 := dSn 3 shX12_top_12
theorem shX12_top_16 : cX12_top.data.toList.drop 16 = sxX12_top_16 := dSn 1 shX12_top_15
theorem shX12_top_19 : cX12_top.data.toList.drop 19 = sxX12_top_19 := dSn 3 shX12_top_16
theorem shX12_top_20 : cX12_top.data.toList.drop 20 = sxX12_top_20 := dSn 1 shX12_top_19
theorem shX12_top_21 : cX12_top.data.toList.drop 21 = sxX12_top_21 := dSn 1 shX12_top_20
theorem shX12_top_22 : cX12_top.data.toList.drop 22 = sxX12_top_22 := dSn 1 shX12_top_21
theorem shX12_top_25 : cX12_top.data.toList.drop 25 = sxX12_top_25 := dSn 3 shX12_top_22
theorem shX12_top_26 : cX12_top.data.toList.drop 26 = sxX12_top_26 := dSn 1 shX12_top_25
theorem dX12_top_0 : decode cX12_top 0 = .ok (.aload_n 0, 1) := oc_42 shX12_top_0
theorem dX12_top_1 : decode cX12_top 1 = .ok (.getfield 264, 3) := oc_180 shX12_top_1
theorem dX12_top_4 : decode cX12_top 4 = .ok (.ifCond .ne 7, 3) := oc_154 shX12_top_4 sgw_0_7
theorem dX12_top_7 : decode cX12_top 7 = .ok (.iconst (-1), 1) := oc_2 shX12_top_7
theorem dX12_top_8 : decode cX12_top 8 = .ok (.goto 18, 3) := oc_167 shX12_top_8 sgw_0_18
theorem dX12_top_11 : decode cX12_top 11 = .ok (.aload_n 0, 1) := oc_42 shX12_top_11
theorem dX12_top_12 : decode cX12_top 12 = .ok (.getfield 59, 3) := oc_180 shX12_top_12
theorem dX12_top_15 : decode cX12_top 15 = .ok (.aload_n 0, 1) := oc_42 shX12_top_15
theorem dX12_top_16 : decode cX12_top 16 = .ok (.getfield 264, 3) := oc_180 shX12_top_16
theorem dX12_top_19 : decode cX12_top 19 = .ok (.iconst 1, 1) := oc_4 shX12_top_19
theorem dX12_top_20 : decode cX12_top 20 = .ok (.isub, 1) := oc_100 shX12_top_20
theorem dX12_top_21 : decode cX12_top 21 = .ok (.iaload, 1) := oc_46 shX12_top_21
theorem dX12_top_22 : decode cX12_top 22 = .ok (.ldc_w 260, 3) := oc_19 shX12_top_22
theorem dX12_top_25 : decode cX12_top 25 = .ok (.idiv, 1) := oc_108 shX12_top_25
theorem dX12_top_26 : decode cX12_top 26 = .ok (.ireturn, 1) := oc_172 shX12_top_26
noncomputable def sxX12_factOf_137 : List UInt8 := []
noncomputable def sxX12_factOf_136 : List UInt8 := 172 :: sxX12_factOf_137
noncomputable def sxX12_factOf_135 : List UInt8 := 2 :: sxX12_factOf_136
noncomputable def sxX12_factOf_134 : List UInt8 := 172 :: sxX12_factOf_135
noncomputable def sxX12_factOf_132 : List UInt8 := 16 :: 10 :: sxX12_factOf_134
noncomputable def sxX12_factOf_131 : List UInt8 := 172 :: sxX12_factOf_132
noncomputable def sxX12_factOf_129 : List UInt8 := 16 :: 9 :: sxX12_factOf_131
noncomputable def sxX12_factOf_128 : List UInt8 := 172 :: sxX12_factOf_129
noncomputable def sxX12_factOf_126 : List UInt8 := 16 :: 8 :: sxX12_factOf_128
noncomputable def sxX12_factOf_125 : List UInt8 := 172 :: sxX12_factOf_126
noncomputable def sxX12_factOf_123 : List UInt8 := 16 :: 7 :: sxX12_factOf_125
noncomputable def sxX12_factOf_122 : List UInt8 := 172 :: sxX12_factOf_123
noncomputable def sxX12_factOf_120 : List UInt8 := 16 :: 6 :: sxX12_factOf_122
noncomputable def sxX12_factOf_119 : List UInt8 := 172 :: sxX12_factOf_120
noncomputable def sxX12_factOf_118 : List UInt8 := 8 :: sxX12_factOf_119
noncomputable def sxX12_factOf_117 : List UInt8 := 172 :: sxX12_factOf_118
noncomputable def sxX12_factOf_116 : List UInt8 := 7 :: sxX12_factOf_117
noncomputable def sxX12_factOf_115 : List UInt8 := 172 :: sxX12_factOf_116
noncomputable def sxX12_factOf_114 : List UInt8 := 6 :: sxX12_factOf_115
noncomputable def sxX12_factOf_113 : List UInt8 := 172 :: sxX12_factOf_114
noncomputable def sxX12_factOf_112 : List UInt8 := 5 :: sxX12_factOf_113
noncomputable def sxX12_factOf_111 : List UInt8 := 172 :: sxX12_factOf_112
noncomputable def sxX12_factOf_110 : List UInt8 := 4 :: sxX12_factOf_111
noncomputable def sxX12_factOf_109 : List UInt8 := 172 :: sxX12_factOf_110
noncomputable def sxX12_factOf_108 : List UInt8 := 3 :: sxX12_factOf_109
noncomputable def sxX12_factOf_1 : List UInt8 := 170 :: 0 :: 0 :: 0 :: 0 :: 0 :: 134 :: 0 :: 0 :: 0 :: 97 :: 0 :: 0 :: 0 :: 119 :: 0 :: 0 :: 0 :: 111 :: 0 :: 0 :: 0 :: 134 :: 0 :: 0 :: 0 :: 134 :: 0 :: 0 :: 0 :: 113 :: 0 :: 0 :: 0 :: 134 :: 0 :: 0 :: 0 :: 109 :: 0 :: 0 :: 0 :: 117 :: 0 :: 0 :: 0 :: 134 :: 0 :: 0 :: 0 :: 134 :: 0 :: 0 :: 0 :: 134 :: 0 :: 0 :: 0 :: 119 :: 0 :: 0 :: 0 :: 134 :: 0 :: 0 :: 0 :: 122 :: 0 :: 0 :: 0 :: 131 :: 0 :: 0 :: 0 :: 128 :: 0 :: 0 :: 0 :: 134 :: 0 :: 0 :: 0 :: 107 :: 0 :: 0 :: 0 :: 134 :: 0 :: 0 :: 0 :: 125 :: 0 :: 0 :: 0 :: 134 :: 0 :: 0 :: 0 :: 134 :: 0 :: 0 :: 0 :: 134 :: 0 :: 0 :: 0 :: 115 :: sxX12_factOf_108
noncomputable def sxX12_factOf_0 : List UInt8 := 26 :: sxX12_factOf_1
theorem shX12_factOf_0 : cX12_factOf.data.toList.drop 0 = sxX12_factOf_0 := rfl
theorem shX12_factOf_1 : cX12_factOf.data.toList.drop 1 = sxX12_factOf_1 := dSn 1 shX12_factOf_0
theorem shX12_factOf_108 : cX12_factOf.data.toList.drop 108 = sxX12_factOf_108 := dSn 107 shX12_factOf_1
theorem shX12_factOf_109 : cX12_factOf.data.toList.drop 109 = sxX12_factOf_109 := dSn 1 shX12_factOf_108
theorem shX12_factOf_110 : cX12_factOf.data.toList.drop 110 = sxX12_factOf_110 := dSn 1 shX12_factOf_109
theorem shX12_factOf_111 : cX12_factOf.data.toList.drop 111 = sxX12_factOf_111 := dSn 1 shX12_factOf_110
theorem shX12_factOf_112 : cX12_factOf.data.toList.drop 112 = sxX12_factOf_112 := dSn 1 shX12_factOf_111
theorem shX12_factOf_113 : cX12_factOf.data.toList.drop 113 = sxX12_factOf_113 := dSn 1 shX12_factOf_112
theorem shX12_factOf_114 : cX12_factOf.data.toList.drop 114 = sxX12_factOf_114 := dSn 1 shX12_factOf_113
theorem shX12_factOf_115 : cX12_factOf.data.toList.drop 115 = sxX12_factOf_115 := dSn 1 shX12_factOf_114
theorem shX12_factOf_116 : cX12_factOf.data.toList.drop 116 = sxX12_factOf_116 := dSn 1 shX12_factOf_115
theorem shX12_factOf_117 : cX12_factOf.data.toList.drop 117 = sxX12_factOf_117 := dSn 1 shX12_factOf_116
theorem shX12_factOf_118 : cX12_factOf.data.toList.drop 118 = sxX12_factOf_118 := dSn 1 shX12_factOf_117
theorem shX12_factOf_119 : cX12_factOf.data.toList.drop 119 = sxX12_factOf_119 := dSn 1 shX12_factOf_118
theorem shX12_factOf_120 : cX12_factOf.data.toList.drop 120 = sxX12_factOf_120 := dSn 1 shX12_factOf_119
theorem shX12_factOf_122 : cX12_factOf.data.toList.drop 122 = sxX12_factOf_122 := dSn 2 shX12_factOf_120
theorem shX12_factOf_123 : cX12_factOf.data.toList.drop 123 = sxX12_factOf_123 := dSn 1 shX12_factOf_122
theorem shX12_factOf_125 : cX12_factOf.data.toList.drop 125 = sxX12_factOf_125 := dSn 2 shX12_factOf_123
theorem shX12_factOf_126 : cX12_factOf.data.toList.drop 126 = sxX12_factOf_126 := dSn 1 shX12_factOf_125
theorem shX12_factOf_128 : cX12_factOf.data.toList.drop 128 = sxX12_factOf_128 := dSn 2 shX12_factOf_126
theorem shX12_factOf_129 : cX12_factOf.data.toList.drop 129 = sxX12_factOf_129 := dSn 1 shX12_factOf_128
theorem shX12_factOf_131 : cX12_factOf.data.toList.drop 131 = sxX12_factOf_131 := dSn 2 shX12_factOf_129
theorem shX12_factOf_132 : cX12_factOf.data.toList.drop 132 = sxX12_factOf_132 := dSn 1 shX12_factOf_131
theorem shX12_factOf_134 : cX12_factOf.data.toList.drop 134 = sxX12_factOf_134 := dSn 2 shX12_factOf_132
theorem shX12_factOf_135 : cX12_factOf.data.toList.drop 135 = sxX12_factOf_135 := dSn 1 shX12_factOf_134
theorem shX12_factOf_136 : cX12_factOf.data.toList.drop 136 = sxX12_factOf_136 := dSn 1 shX12_factOf_135
theorem dX12_factOf_0 : decode cX12_factOf 0 = .ok (.iload_n 0, 1) := oc_26 shX12_factOf_0
theorem dX12_factOf_1 : decode cX12_factOf 1 = .ok (.tableswitch 134 97 119 #[111, 134, 134, 113, 134, 109, 117, 134, 134, 134, 119, 134, 122, 131, 128, 134, 107, 134, 125, 134, 134, 134, 115], 107) := by decide +kernel
theorem dX12_factOf_108 : decode cX12_factOf 108 = .ok (.iconst 0, 1) := oc_3 shX12_factOf_108
theorem dX12_factOf_109 : decode cX12_factOf 109 = .ok (.ireturn, 1) := oc_172 shX12_factOf_109
theorem dX12_factOf_110 : decode cX12_factOf 110 = .ok (.iconst 1, 1) := oc_4 shX12_factOf_110
theorem dX12_factOf_111 : decode cX12_factOf 111 = .ok (.ireturn, 1) := oc_172 shX12_factOf_111
theorem dX12_factOf_112 : decode cX12_factOf 112 = .ok (.iconst 2, 1) := oc_5 shX12_factOf_112
theorem dX12_factOf_113 : decode cX12_factOf 113 = .ok (.ireturn, 1) := oc_172 shX12_factOf_113
theorem dX12_factOf_114 : decode cX12_factOf 114 = .ok (.iconst 3, 1) := oc_6 shX12_factOf_114
theorem dX12_factOf_115 : decode cX12_factOf 115 = .ok (.ireturn, 1) := oc_172 shX12_factOf_115
theorem dX12_factOf_116 : decode cX12_factOf 116 = .ok (.iconst 4, 1) := oc_7 shX12_factOf_116
theorem dX12_factOf_117 : decode cX12_factOf 117 = .ok (.ireturn, 1) := oc_172 shX12_factOf_117
theorem dX12_factOf_118 : decode cX12_factOf 118 = .ok (.iconst 5, 1) := oc_8 shX12_factOf_118
theorem dX12_factOf_119 : decode cX12_factOf 119 = .ok (.ireturn, 1) := oc_172 shX12_factOf_119
theorem dX12_factOf_120 : decode cX12_factOf 120 = .ok (.bipush 6, 2) := oc_16 shX12_factOf_120 sgb_6
theorem dX12_factOf_122 : decode cX12_factOf 122 = .ok (.ireturn, 1) := oc_172 shX12_factOf_122
theorem dX12_factOf_123 : decode cX12_factOf 123 = .ok (.bipush 7, 2) := oc_16 shX12_factOf_123 sgb_7
theorem dX12_factOf_125 : decode cX12_factOf 125 = .ok (.ireturn, 1) := oc_172 shX12_factOf_125
theorem dX12_factOf_126 : decode cX12_factOf 126 = .ok (.bipush 8, 2) := oc_16 shX12_factOf_126 sgb_8
theorem dX12_factOf_128 : decode cX12_factOf 128 = .ok (.ireturn, 1) := oc_172 shX12_factOf_128
theorem dX12_factOf_129 : decode cX12_factOf 129 = .ok (.bipush 9, 2) := oc_16 shX12_factOf_129 sgb_9
theorem dX12_factOf_131 : decode cX12_factOf 131 = .ok (.ireturn, 1) := oc_172 shX12_factOf_131
theorem dX12_factOf_132 : decode cX12_factOf 132 = .ok (.bipush 10, 2) := oc_16 shX12_factOf_132 sgb_10
theorem dX12_factOf_134 : decode cX12_factOf 134 = .ok (.ireturn, 1) := oc_172 shX12_factOf_134
theorem dX12_factOf_135 : decode cX12_factOf 135 = .ok (.iconst (-1), 1) := oc_2 shX12_factOf_135
theorem dX12_factOf_136 : decode cX12_factOf 136 = .ok (.ireturn, 1) := oc_172 shX12_factOf_136
noncomputable def sxX12_sumSign_53 : List UInt8 := []
noncomputable def sxX12_sumSign_52 : List UInt8 := 172 :: sxX12_sumSign_53
noncomputable def sxX12_sumSign_51 : List UInt8 := 2 :: sxX12_sumSign_52
noncomputable def sxX12_sumSign_48 : List UInt8 := 167 :: 0 :: 4 :: sxX12_sumSign_51
noncomputable def sxX12_sumSign_46 : List UInt8 := 16 :: 6 :: sxX12_sumSign_48
noncomputable def sxX12_sumSign_43 : List UInt8 := 160 :: 0 :: 8 :: sxX12_sumSign_46
noncomputable def sxX12_sumSign_41 : List UInt8 := 16 :: 37 :: sxX12_sumSign_43
noncomputable def sxX12_sumSign_40 : List UInt8 := 26 :: sxX12_sumSign_41
noncomputable def sxX12_sumSign_37 : List UInt8 := 167 :: 0 :: 15 :: sxX12_sumSign_40
noncomputable def sxX12_sumSign_36 : List UInt8 := 8 :: sxX12_sumSign_37
noncomputable def sxX12_sumSign_33 : List UInt8 := 160 :: 0 :: 7 :: sxX12_sumSign_36
noncomputable def sxX12_sumSign_31 : List UInt8 := 16 :: 47 :: sxX12_sumSign_33
noncomputable def sxX12_sumSign_30 : List UInt8 := 26 :: sxX12_sumSign_31
noncomputable def sxX12_sumSign_27 : List UInt8 := 167 :: 0 :: 25 :: sxX12_sumSign_30
noncomputable def sxX12_sumSign_26 : List UInt8 := 7 :: sxX12_sumSign_27
noncomputable def sxX12_sumSign_23 : List UInt8 := 160 :: 0 :: 7 :: sxX12_sumSign_26
noncomputable def sxX12_sumSign_21 : List UInt8 := 16 :: 42 :: sxX12_sumSign_23
noncomputable def sxX12_sumSign_20 : List UInt8 := 26 :: sxX12_sumSign_21
noncomputable def sxX12_sumSign_17 : List UInt8 := 167 :: 0 :: 35 :: sxX12_sumSign_20
noncomputable def sxX12_sumSign_16 : List UInt8 := 6 :: sxX12_sumSign_17
noncomputable def sxX12_sumSign_13 : List UInt8 := 160 :: 0 :: 7 :: sxX12_sumSign_16
noncomputable def sxX12_sumSign_11 : List UInt8 := 16 :: 45 :: sxX12_sumSign_13
noncomputable def sxX12_sumSign_10 : List UInt8 := 26 :: sxX12_sumSign_11
noncomputable def sxX12_sumSign_7 : List UInt8 := 167 :: 0 :: 45 :: sxX12_sumSign_10
noncomputable def sxX12_sumSign_6 : List UInt8 := 5 :: sxX12_sumSign_7
noncomputable def sxX12_sumSign_3 : List UInt8 := 160 :: 0 :: 7 :: sxX12_sumSign_6
noncomputable def sxX12_sumSign_1 : List UInt8 := 16 :: 43 :: sxX12_sumSign_3
noncomputable def sxX12_sumSign_0 : List UInt8 := 26 :: sxX12_sumSign_1
theorem shX12_sumSign_0 : cX12_sumSign.data.toList.drop 0 = sxX12_sumSign_0 := rfl
theorem shX12_sumSign_1 : cX12_sumSign.data.toList.drop 1 = sxX12_sumSign_1 := dSn 1 shX12_sumSign_0
theorem shX12_sumSign_3 : cX12_sumSign.data.toList.drop 3 = sxX12_sumSign_3 := dSn 2 shX12_sumSign_1
theorem shX12_sumSign_6 : cX12_sumSign.data.toList.drop 6 = sxX12_sumSign_6 := dSn 3 shX12_sumSign_3
theorem shX12_sumSign_7 : cX12_sumSign.data.toList.drop 7 = sxX12_sumSign_7 := dSn 1 shX12_sumSign_6
theorem shX12_sumSign_10 : cX12_sumSign.data.toList.drop 10 = sxX12_sumSign_10 := dSn 3 shX12_sumSign_7
theorem shX12_sumSign_11 : cX12_sumSign.data.toList.drop 11 = sxX12_sumSign_11 := dSn 1 shX12_sumSign_10
theorem shX12_sumSign_13 : cX12_sumSign.data.toList.drop 13 = sxX12_sumSign_13 := dSn 2 shX12_sumSign_11
theorem shX12_sumSign_16 : cX12_sumSign.data.toList.drop 16 = sxX12_sumSign_16 := dSn 3 shX12_sumSign_13
theorem shX12_sumSign_17 : cX12_sumSign.data.toList.drop 17 = sxX12_sumSign_17 := dSn 1 shX12_sumSign_16
theorem shX12_sumSign_20 : cX12_sumSign.data.toList.drop 20 = sxX12_sumSign_20 := dSn 3 shX12_sumSign_17
theorem shX12_sumSign_21 : cX12_sumSign.data.toList.drop 21 = sxX12_sumSign_21 := dSn 1 shX12_sumSign_20
theorem shX12_sumSign_23 : cX12_sumSign.data.toList.drop 23 = sxX12_sumSign_23 := dSn 2 shX12_sumSign_21
theorem shX12_sumSign_26 : cX12_sumSign.data.toList.drop 26 = sxX12_sumSign_26 := dSn 3 shX12_sumSign_23
theorem shX12_sumSign_27 : cX12_sumSign.data.toList.drop 27 = sxX12_sumSign_27 := dSn 1 shX12_sumSign_26
theorem shX12_sumSign_30 : cX12_sumSign.data.toList.drop 30 = sxX12_sumSign_30 := dSn 3 shX12_sumSign_27
theorem shX12_sumSign_31 : cX12_sumSign.data.toList.drop 31 = sxX12_sumSign_31 := dSn 1 shX12_sumSign_30
theorem shX12_sumSign_33 : cX12_sumSign.data.toList.drop 33 = sxX12_sumSign_33 := dSn 2 shX12_sumSign_31
theorem shX12_sumSign_36 : cX12_sumSign.data.toList.drop 36 = sxX12_sumSign_36 := dSn 3 shX12_sumSign_33
theorem shX12_sumSign_37 : cX12_sumSign.data.toList.drop 37 = sxX12_sumSign_37 := dSn 1 shX12_sumSign_36
theorem shX12_sumSign_40 : cX12_sumSign.data.toList.drop 40 = sxX12_sumSign_40 := dSn 3 shX12_sumSign_37
theorem shX12_sumSign_41 : cX12_sumSign.data.toList.drop 41 = sxX12_sumSign_41 := dSn 1 shX12_sumSign_40
theorem shX12_sumSign_43 : cX12_sumSign.data.toList.drop 43 = sxX12_sumSign_43 := dSn 2 shX12_sumSign_41
theorem shX12_sumSign_46 : cX12_sumSign.data.toList.drop 46 = sxX12_sumSign_46 := dSn 3 shX12_sumSign_43
theorem shX12_sumSign_48 : cX12_sumSign.data.toList.drop 48 = sxX12_sumSign_48 := dSn 2 shX12_sumSign_46
theorem shX12_sumSign_51 : cX12_sumSign.data.toList.drop 51 = sxX12_sumSign_51 := dSn 3 shX12_sumSign_48
theorem shX12_sumSign_52 : cX12_sumSign.data.toList.drop 52 = sxX12_sumSign_52 := dSn 1 shX12_sumSign_51
theorem dX12_sumSign_0 : decode cX12_sumSign 0 = .ok (.iload_n 0, 1) := oc_26 shX12_sumSign_0
theorem dX12_sumSign_1 : decode cX12_sumSign 1 = .ok (.bipush 43, 2) := oc_16 shX12_sumSign_1 sgb_43
theorem dX12_sumSign_3 : decode cX12_sumSign 3 = .ok (.if_icmp .ne 7, 3) := oc_160 shX12_sumSign_3 sgw_0_7
theorem dX12_sumSign_6 : decode cX12_sumSign 6 = .ok (.iconst 2, 1) := oc_5 shX12_sumSign_6
theorem dX12_sumSign_7 : decode cX12_sumSign 7 = .ok (.goto 45, 3) := oc_167 shX12_sumSign_7 sgw_0_45
theorem dX12_sumSign_10 : decode cX12_sumSign 10 = .ok (.iload_n 0, 1) := oc_26 shX12_sumSign_10
theorem dX12_sumSign_11 : decode cX12_sumSign 11 = .ok (.bipush 45, 2) := oc_16 shX12_sumSign_11 sgb_45
theorem dX12_sumSign_13 : decode cX12_sumSign 13 = .ok (.if_icmp .ne 7, 3) := oc_160 shX12_sumSign_13 sgw_0_7
theorem dX12_sumSign_16 : decode cX12_sumSign 16 = .ok (.iconst 3, 1) := oc_6 shX12_sumSign_16
theorem dX12_sumSign_17 : decode cX12_sumSign 17 = .ok (.goto 35, 3) := oc_167 shX12_sumSign_17 sgw_0_35
theorem dX12_sumSign_20 : decode cX12_sumSign 20 = .ok (.iload_n 0, 1) := oc_26 shX12_sumSign_20
theorem dX12_sumSign_21 : decode cX12_sumSign 21 = .ok (.bipush 42, 2) := oc_16 shX12_sumSign_21 sgb_42
theorem dX12_sumSign_23 : decode cX12_sumSign 23 = .ok (.if_icmp .ne 7, 3) := oc_160 shX12_sumSign_23 sgw_0_7
theorem dX12_sumSign_26 : decode cX12_sumSign 26 = .ok (.iconst 4, 1) := oc_7 shX12_sumSign_26
theorem dX12_sumSign_27 : decode cX12_sumSign 27 = .ok (.goto 25, 3) := oc_167 shX12_sumSign_27 sgw_0_25
theorem dX12_sumSign_30 : decode cX12_sumSign 30 = .ok (.iload_n 0, 1) := oc_26 shX12_sumSign_30
theorem dX12_sumSign_31 : decode cX12_sumSign 31 = .ok (.bipush 47, 2) := oc_16 shX12_sumSign_31 sgb_47
theorem dX12_sumSign_33 : decode cX12_sumSign 33 = .ok (.if_icmp .ne 7, 3) := oc_160 shX12_sumSign_33 sgw_0_7
theorem dX12_sumSign_36 : decode cX12_sumSign 36 = .ok (.iconst 5, 1) := oc_8 shX12_sumSign_36
theorem dX12_sumSign_37 : decode cX12_sumSign 37 = .ok (.goto 15, 3) := oc_167 shX12_sumSign_37 sgw_0_15
theorem dX12_sumSign_40 : decode cX12_sumSign 40 = .ok (.iload_n 0, 1) := oc_26 shX12_sumSign_40
theorem dX12_sumSign_41 : decode cX12_sumSign 41 = .ok (.bipush 37, 2) := oc_16 shX12_sumSign_41 sgb_37
theorem dX12_sumSign_43 : decode cX12_sumSign 43 = .ok (.if_icmp .ne 8, 3) := oc_160 shX12_sumSign_43 sgw_0_8
theorem dX12_sumSign_46 : decode cX12_sumSign 46 = .ok (.bipush 6, 2) := oc_16 shX12_sumSign_46 sgb_6
theorem dX12_sumSign_48 : decode cX12_sumSign 48 = .ok (.goto 4, 3) := oc_167 shX12_sumSign_48 sgw_0_4
theorem dX12_sumSign_51 : decode cX12_sumSign 51 = .ok (.iconst (-1), 1) := oc_2 shX12_sumSign_51
theorem dX12_sumSign_52 : decode cX12_sumSign 52 = .ok (.ireturn, 1) := oc_172 shX12_sumSign_52
noncomputable def sxX12_closesSums_60 : List UInt8 := []
noncomputable def sxX12_closesSums_59 : List UInt8 := 177 :: sxX12_closesSums_60
noncomputable def sxX12_closesSums_56 : List UInt8 := 167 :: 255 :: 200 :: sxX12_closesSums_59
noncomputable def sxX12_closesSums_53 : List UInt8 := 181 :: 1 :: 8 :: sxX12_closesSums_56
noncomputable def sxX12_closesSums_52 : List UInt8 := 100 :: sxX12_closesSums_53
noncomputable def sxX12_closesSums_51 : List UInt8 := 4 :: sxX12_closesSums_52
noncomputable def sxX12_closesSums_48 : List UInt8 := 180 :: 1 :: 8 :: sxX12_closesSums_51
noncomputable def sxX12_closesSums_47 : List UInt8 := 42 :: sxX12_closesSums_48
noncomputable def sxX12_closesSums_46 : List UInt8 := 42 :: sxX12_closesSums_47
noncomputable def sxX12_closesSums_43 : List UInt8 := 182 :: 1 :: 14 :: sxX12_closesSums_46
noncomputable def sxX12_closesSums_42 : List UInt8 := 3 :: sxX12_closesSums_43
noncomputable def sxX12_closesSums_39 : List UInt8 := 182 :: 1 :: 11 :: sxX12_closesSums_42
noncomputable def sxX12_closesSums_38 : List UInt8 := 42 :: sxX12_closesSums_39
noncomputable def sxX12_closesSums_37 : List UInt8 := 42 :: sxX12_closesSums_38
noncomputable def sxX12_closesSums_34 : List UInt8 := 160 :: 0 :: 25 :: sxX12_closesSums_37
noncomputable def sxX12_closesSums_33 : List UInt8 := 6 :: sxX12_closesSums_34
noncomputable def sxX12_closesSums_30 : List UInt8 := 182 :: 1 :: 11 :: sxX12_closesSums_33
noncomputable def sxX12_closesSums_29 : List UInt8 := 42 :: sxX12_closesSums_30
noncomputable def sxX12_closesSums_26 : List UInt8 := 159 :: 0 :: 11 :: sxX12_closesSums_29
noncomputable def sxX12_closesSums_25 : List UInt8 := 5 :: sxX12_closesSums_26
noncomputable def sxX12_closesSums_22 : List UInt8 := 182 :: 1 :: 11 :: sxX12_closesSums_25
noncomputable def sxX12_closesSums_21 : List UInt8 := 42 :: sxX12_closesSums_22
noncomputable def sxX12_closesSums_18 : List UInt8 := 153 :: 0 :: 41 :: sxX12_closesSums_21
noncomputable def sxX12_closesSums_17 : List UInt8 := 27 :: sxX12_closesSums_18
noncomputable def sxX12_closesSums_14 : List UInt8 := 164 :: 0 :: 23 :: sxX12_closesSums_17
noncomputable def sxX12_closesSums_12 : List UInt8 := 16 :: 6 :: sxX12_closesSums_14
noncomputable def sxX12_closesSums_9 : List UInt8 := 182 :: 1 :: 11 :: sxX12_closesSums_12
noncomputable def sxX12_closesSums_8 : List UInt8 := 42 :: sxX12_closesSums_9
noncomputable def sxX12_closesSums_5 : List UInt8 := 161 :: 0 :: 12 :: sxX12_closesSums_8
noncomputable def sxX12_closesSums_4 : List UInt8 := 7 :: sxX12_closesSums_5
noncomputable def sxX12_closesSums_1 : List UInt8 := 182 :: 1 :: 11 :: sxX12_closesSums_4
noncomputable def sxX12_closesSums_0 : List UInt8 := 42 :: sxX12_closesSums_1
theorem shX12_closesSums_0 : cX12_closesSums.data.toList.drop 0 = sxX12_closesSums_0 := rfl
theorem shX12_closesSums_1 : cX12_closesSums.data.toList.drop 1 = sxX12_closesSums_1 := dSn 1 shX12_closesSums_0
theorem shX12_closesSums_4 : cX12_closesSums.data.toList.drop 4 = sxX12_closesSums_4 := dSn 3 shX12_closesSums_1
theorem shX12_closesSums_5 : cX12_closesSums.data.toList.drop 5 = sxX12_closesSums_5 := dSn 1 shX12_closesSums_4
theorem shX12_closesSums_8 : cX12_closesSums.data.toList.drop 8 = sxX12_closesSums_8 := dSn 3 shX12_closesSums_5
theorem shX12_closesSums_9 : cX12_closesSums.data.toList.drop 9 = sxX12_closesSums_9 := dSn 1 shX12_closesSums_8
theorem shX12_closesSums_12 : cX12_closesSums.data.toList.drop 12 = sxX12_closesSums_12 := dSn 3 shX12_closesSums_9
theorem shX12_closesSums_14 : cX12_closesSums.data.toList.drop 14 = sxX12_closesSums_14 := dSn 2 shX12_closesSums_12
theorem shX12_closesSums_17 : cX12_closesSums.data.toList.drop 17 = sxX12_closesSums_17 := dSn 3 shX12_closesSums_14
theorem shX12_closesSums_18 : cX12_closesSums.data.toList.drop 18 = sxX12_closesSums_18 := dSn 1 shX12_closesSums_17
theorem shX12_closesSums_21 : cX12_closesSums.data.toList.drop 21 = sxX12_closesSums_21 := dSn 3 shX12_closesSums_18
theorem shX12_closesSums_22 : cX12_closesSums.data.toList.drop 22 = sxX12_closesSums_22 := dSn 1 shX12_closesSums_21
theorem shX12_closesSums_25 : cX12_closesSums.data.toList.drop 25 = sxX12_closesSums_25 := dSn 3 shX12_closesSums_22
theorem shX12_closesSums_26 : cX12_closesSums.data.toList.drop 26 = sxX12_closesSums_26 := dSn 1 shX12_closesSums_25
theorem shX12_closesSums_29 : cX12_closesSums.data.toList.drop 29 = sxX12_closesSums_29 := dSn 3 shX12_closesSums_26
theorem shX12_closesSums_30 : cX12_closesSums.data.toList.drop 30 = sxX12_closesSums_30 := dSn 1 shX12_closesSums_29
theorem shX12_closesSums_33 : cX12_closesSums.data.toList.drop 33 = sxX12_closesSums_33 := dSn 3 shX12_closesSums_30
theorem shX12_closesSums_34 : cX12_closesSums.data.toList.drop 34 = sxX12_closesSums_34 := dSn 1 shX12_closesSums_33
theorem shX12_closesSums_37 : cX12_closesSums.data.toList.drop 37 = sxX12_closesSums_37 := dSn 3 shX12_closesSums_34
theorem shX12_closesSums_38 : cX12_closesSums.data.toList.drop 38 = sxX12_closesSums_38 := dSn 1 shX12_closesSums_37
theorem shX12_closesSums_39 : cX12_closesSums.data.toList.drop 39 = sxX12_closesSums_39 := dSn 1 shX12_closesSums_38
theorem shX12_closesSums_42 : cX12_closesSums.data.toList.drop 42 = sxX12_closesSums_42 := dSn 3 shX12_closesSums_39
theorem shX12_closesSums_43 : cX12_closesSums.data.toList.drop 43 = sxX12_closesSums_43 := dSn 1 shX12_closesSums_42
theorem shX12_closesSums_46 : cX12_closesSums.data.toList.drop 46 = sxX12_closesSums_46 := dSn 3 shX12_closesSums_43
theorem shX12_closesSums_47 : cX12_closesSums.data.toList.drop 47 = sxX12_closesSums_47 := dSn 1 shX12_closesSums_46
theorem shX12_closesSums_48 : cX12_closesSums.data.toList.drop 48 = sxX12_closesSums_48 := dSn 1 shX12_closesSums_47
theorem shX12_closesSums_51 : cX12_closesSums.data.toList.drop 51 = sxX12_closesSums_51 := dSn 3 shX12_closesSums_48
theorem shX12_closesSums_52 : cX12_closesSums.data.toList.drop 52 = sxX12_closesSums_52 := dSn 1 shX12_closesSums_51
theorem shX12_closesSums_53 : cX12_closesSums.data.toList.drop 53 = sxX12_closesSums_53 := dSn 1 shX12_closesSums_52
theorem shX12_closesSums_56 : cX12_closesSums.data.toList.drop 56 = sxX12_closesSums_56 := dSn 3 shX12_closesSums_53
theorem shX12_closesSums_59 : cX12_closesSums.data.toList.drop 59 = sxX12_closesSums_59 := dSn 3 shX12_closesSums_56
theorem dX12_closesSums_0 : decode cX12_closesSums 0 = .ok (.aload_n 0, 1) := oc_42 shX12_closesSums_0
theorem dX12_closesSums_1 : decode cX12_closesSums 1 = .ok (.invokevirtual 267, 3) := oc_182 shX12_closesSums_1
theorem dX12_closesSums_4 : decode cX12_closesSums 4 = .ok (.iconst 4, 1) := oc_7 shX12_closesSums_4
theorem dX12_closesSums_5 : decode cX12_closesSums 5 = .ok (.if_icmp .lt 12, 3) := oc_161 shX12_closesSums_5 sgw_0_12
theorem dX12_closesSums_8 : decode cX12_closesSums 8 = .ok (.aload_n 0, 1) := oc_42 shX12_closesSums_8
theorem dX12_closesSums_9 : decode cX12_closesSums 9 = .ok (.invokevirtual 267, 3) := oc_182 shX12_closesSums_9
theorem dX12_closesSums_12 : decode cX12_closesSums 12 = .ok (.bipush 6, 2) := oc_16 shX12_closesSums_12 sgb_6
theorem dX12_closesSums_14 : decode cX12_closesSums 14 = .ok (.if_icmp .le 23, 3) := oc_164 shX12_closesSums_14 sgw_0_23
theorem dX12_closesSums_17 : decode cX12_closesSums 17 = .ok (.iload_n 1, 1) := oc_27 shX12_closesSums_17
theorem dX12_closesSums_18 : decode cX12_closesSums 18 = .ok (.ifCond .eq 41, 3) := oc_153 shX12_closesSums_18 sgw_0_41
theorem dX12_closesSums_21 : decode cX12_closesSums 21 = .ok (.aload_n 0, 1) := oc_42 shX12_closesSums_21
theorem dX12_closesSums_22 : decode cX12_closesSums 22 = .ok (.invokevirtual 267, 3) := oc_182 shX12_closesSums_22
theorem dX12_closesSums_25 : decode cX12_closesSums 25 = .ok (.iconst 2, 1) := oc_5 shX12_closesSums_25
theorem dX12_closesSums_26 : decode cX12_closesSums 26 = .ok (.if_icmp .eq 11, 3) := oc_159 shX12_closesSums_26 sgw_0_11
theorem dX12_closesSums_29 : decode cX12_closesSums 29 = .ok (.aload_n 0, 1) := oc_42 shX12_closesSums_29
theorem dX12_closesSums_30 : decode cX12_closesSums 30 = .ok (.invokevirtual 267, 3) := oc_182 shX12_closesSums_30
theorem dX12_closesSums_33 : decode cX12_closesSums 33 = .ok (.iconst 3, 1) := oc_6 shX12_closesSums_33
theorem dX12_closesSums_34 : decode cX12_closesSums 34 = .ok (.if_icmp .ne 25, 3) := oc_160 shX12_closesSums_34 sgw_0_25
theorem dX12_closesSums_37 : decode cX12_closesSums 37 = .ok (.aload_n 0, 1) := oc_42 shX12_closesSums_37
theorem dX12_closesSums_38 : decode cX12_closesSums 38 = .ok (.aload_n 0, 1) := oc_42 shX12_closesSums_38
theorem dX12_closesSums_39 : decode cX12_closesSums 39 = .ok (.invokevirtual 267, 3) := oc_182 shX12_closesSums_39
theorem dX12_closesSums_42 : decode cX12_closesSums 42 = .ok (.iconst 0, 1) := oc_3 shX12_closesSums_42
theorem dX12_closesSums_43 : decode cX12_closesSums 43 = .ok (.invokevirtual 270, 3) := oc_182 shX12_closesSums_43
theorem dX12_closesSums_46 : decode cX12_closesSums 46 = .ok (.aload_n 0, 1) := oc_42 shX12_closesSums_46
theorem dX12_closesSums_47 : decode cX12_closesSums 47 = .ok (.aload_n 0, 1) := oc_42 shX12_closesSums_47
theorem dX12_closesSums_48 : decode cX12_closesSums 48 = .ok (.getfield 264, 3) := oc_180 shX12_closesSums_48
theorem dX12_closesSums_51 : decode cX12_closesSums 51 = .ok (.iconst 1, 1) := oc_4 shX12_closesSums_51
theorem dX12_closesSums_52 : decode cX12_closesSums 52 = .ok (.isub, 1) := oc_100 shX12_closesSums_52
theorem dX12_closesSums_53 : decode cX12_closesSums 53 = .ok (.putfield 264, 3) := oc_181 shX12_closesSums_53
theorem dX12_closesSums_56 : decode cX12_closesSums 56 = .ok (.goto (-56), 3) := oc_167 shX12_closesSums_56 sgw_255_200
theorem dX12_closesSums_59 : decode cX12_closesSums 59 = .ok (.return_, 1) := oc_177 shX12_closesSums_59
noncomputable def sxX12_readsFactor_88 : List UInt8 := []
noncomputable def sxX12_readsFactor_87 : List UInt8 := 172 :: sxX12_readsFactor_88
noncomputable def sxX12_readsFactor_86 : List UInt8 := 4 :: sxX12_readsFactor_87
noncomputable def sxX12_readsFactor_83 : List UInt8 := 181 :: 0 :: 233 :: sxX12_readsFactor_86
noncomputable def sxX12_readsFactor_82 : List UInt8 := 96 :: sxX12_readsFactor_83
noncomputable def sxX12_readsFactor_81 : List UInt8 := 4 :: sxX12_readsFactor_82
noncomputable def sxX12_readsFactor_78 : List UInt8 := 180 :: 0 :: 233 :: sxX12_readsFactor_81
noncomputable def sxX12_readsFactor_77 : List UInt8 := 42 :: sxX12_readsFactor_78
noncomputable def sxX12_readsFactor_76 : List UInt8 := 42 :: sxX12_readsFactor_77
noncomputable def sxX12_readsFactor_73 : List UInt8 := 182 :: 1 :: 14 :: sxX12_readsFactor_76
noncomputable def sxX12_readsFactor_72 : List UInt8 := 27 :: sxX12_readsFactor_73
noncomputable def sxX12_readsFactor_71 : List UInt8 := 4 :: sxX12_readsFactor_72
noncomputable def sxX12_readsFactor_70 : List UInt8 := 42 :: sxX12_readsFactor_71
noncomputable def sxX12_readsFactor_69 : List UInt8 := 172 :: sxX12_readsFactor_70
noncomputable def sxX12_readsFactor_66 : List UInt8 := 182 :: 0 :: 246 :: sxX12_readsFactor_69
noncomputable def sxX12_readsFactor_63 : List UInt8 := 180 :: 0 :: 233 :: sxX12_readsFactor_66
noncomputable def sxX12_readsFactor_62 : List UInt8 := 42 :: sxX12_readsFactor_63
noncomputable def sxX12_readsFactor_61 : List UInt8 := 4 :: sxX12_readsFactor_62
noncomputable def sxX12_readsFactor_60 : List UInt8 := 42 :: sxX12_readsFactor_61
noncomputable def sxX12_readsFactor_57 : List UInt8 := 160 :: 0 :: 13 :: sxX12_readsFactor_60
noncomputable def sxX12_readsFactor_56 : List UInt8 := 2 :: sxX12_readsFactor_57
noncomputable def sxX12_readsFactor_55 : List UInt8 := 27 :: sxX12_readsFactor_56
noncomputable def sxX12_readsFactor_54 : List UInt8 := 60 :: sxX12_readsFactor_55
noncomputable def sxX12_readsFactor_51 : List UInt8 := 184 :: 1 :: 24 :: sxX12_readsFactor_54
noncomputable def sxX12_readsFactor_48 : List UInt8 := 182 :: 0 :: 239 :: sxX12_readsFactor_51
noncomputable def sxX12_readsFactor_47 : List UInt8 := 42 :: sxX12_readsFactor_48
noncomputable def sxX12_readsFactor_46 : List UInt8 := 172 :: sxX12_readsFactor_47
noncomputable def sxX12_readsFactor_45 : List UInt8 := 4 :: sxX12_readsFactor_46
noncomputable def sxX12_readsFactor_42 : List UInt8 := 182 :: 1 :: 14 :: sxX12_readsFactor_45
noncomputable def sxX12_readsFactor_39 : List UInt8 := 180 :: 0 :: 250 :: sxX12_readsFactor_42
noncomputable def sxX12_readsFactor_38 : List UInt8 := 42 :: sxX12_readsFactor_39
noncomputable def sxX12_readsFactor_37 : List UInt8 := 3 :: sxX12_readsFactor_38
noncomputable def sxX12_readsFactor_36 : List UInt8 := 42 :: sxX12_readsFactor_37
noncomputable def sxX12_readsFactor_35 : List UInt8 := 172 :: sxX12_readsFactor_36
noncomputable def sxX12_readsFactor_34 : List UInt8 := 3 :: sxX12_readsFactor_35
noncomputable def sxX12_readsFactor_31 : List UInt8 := 154 :: 0 :: 5 :: sxX12_readsFactor_34
noncomputable def sxX12_readsFactor_28 : List UInt8 := 182 :: 1 :: 21 :: sxX12_readsFactor_31
noncomputable def sxX12_readsFactor_27 : List UInt8 := 42 :: sxX12_readsFactor_28
noncomputable def sxX12_readsFactor_24 : List UInt8 := 153 :: 0 :: 23 :: sxX12_readsFactor_27
noncomputable def sxX12_readsFactor_21 : List UInt8 := 182 :: 0 :: 253 :: sxX12_readsFactor_24
noncomputable def sxX12_readsFactor_20 : List UInt8 := 42 :: sxX12_readsFactor_21
noncomputable def sxX12_readsFactor_19 : List UInt8 := 172 :: sxX12_readsFactor_20
noncomputable def sxX12_readsFactor_18 : List UInt8 := 3 :: sxX12_readsFactor_19
noncomputable def sxX12_readsFactor_15 : List UInt8 := 154 :: 255 :: 241 :: sxX12_readsFactor_18
noncomputable def sxX12_readsFactor_12 : List UInt8 := 182 :: 1 :: 18 :: sxX12_readsFactor_15
noncomputable def sxX12_readsFactor_10 : List UInt8 := 16 :: 14 :: sxX12_readsFactor_12
noncomputable def sxX12_readsFactor_9 : List UInt8 := 42 :: sxX12_readsFactor_10
noncomputable def sxX12_readsFactor_6 : List UInt8 := 160 :: 0 :: 14 :: sxX12_readsFactor_9
noncomputable def sxX12_readsFactor_4 : List UInt8 := 16 :: 91 :: sxX12_readsFactor_6
noncomputable def sxX12_readsFactor_1 : List UInt8 := 182 :: 0 :: 239 :: sxX12_readsFactor_4
noncomputable def sxX12_readsFactor_0 : List UInt8 := 42 :: sxX12_readsFactor_1
theorem shX12_readsFactor_0 : cX12_readsFactor.data.toList.drop 0 = sxX12_readsFactor_0 := rfl
theorem shX12_readsFactor_1 : cX12_readsFactor.data.toList.drop 1 = sxX12_readsFactor_1 := dSn 1 shX12_readsFactor_0
theorem shX12_readsFactor_4 : cX12_readsFactor.data.toList.drop 4 = sxX12_readsFactor_4 := dSn 3 shX12_readsFactor_1
theorem shX12_readsFactor_6 : cX12_readsFactor.data.toList.drop 6 = sxX12_readsFactor_6 := dSn 2 shX12_readsFactor_4
theorem shX12_readsFactor_9 : cX12_readsFactor.data.toList.drop 9 = sxX12_readsFactor_9 := dSn 3 shX12_readsFactor_6
theorem shX12_readsFactor_10 : cX12_readsFactor.data.toList.drop 10 = sxX12_readsFactor_10 := dSn 1 shX12_readsFactor_9
theorem shX12_readsFactor_12 : cX12_readsFactor.data.toList.drop 12 = sxX12_readsFactor_12 := dSn 2 shX12_readsFactor_10
theorem shX12_readsFactor_15 : cX12_readsFactor.data.toList.drop 15 = sxX12_readsFactor_15 := dSn 3 shX12_readsFactor_12
theorem shX12_readsFactor_18 : cX12_readsFactor.data.toList.drop 18 = sxX12_readsFactor_18 := dSn 3 shX12_readsFactor_15
theorem shX12_readsFactor_19 : cX12_readsFactor.data.toList.drop 19 = sxX12_readsFactor_19 := dSn 1 shX12_readsFactor_18
theorem shX12_readsFactor_20 : cX12_readsFactor.data.toList.drop 20 = sxX12_readsFactor_20 := dSn 1 shX12_readsFactor_19
theorem shX12_readsFactor_21 : cX12_readsFactor.data.toList.drop 21 = sxX12_readsFactor_21 := dSn 1 shX12_readsFactor_20
theorem shX12_readsFactor_24 : cX12_readsFactor.data.toList.drop 24 = sxX12_readsFactor_24 := dSn 3 shX12_readsFactor_21
theorem shX12_readsFactor_27 : cX12_readsFactor.data.toList.drop 27 = sxX12_readsFactor_27 := dSn 3 shX12_readsFactor_24
theorem shX12_readsFactor_28 : cX12_readsFactor.data.toList.drop 28 = sxX12_readsFactor_28 := dSn 1 shX12_readsFactor_27
theorem shX12_readsFactor_31 : cX12_readsFactor.data.toList.drop 31 = sxX12_readsFactor_31 := dSn 3 shX12_readsFactor_28
theorem shX12_readsFactor_34 : cX12_readsFactor.data.toList.drop 34 = sxX12_readsFactor_34 := dSn 3 shX12_readsFactor_31
theorem shX12_readsFactor_35 : cX12_readsFactor.data.toList.drop 35 = sxX12_readsFactor_35 := dSn 1 shX12_readsFactor_34
theorem shX12_readsFactor_36 : cX12_readsFactor.data.toList.drop 36 = sxX12_readsFactor_36 := dSn 1 shX12_readsFactor_35
theorem shX12_readsFactor_37 : cX12_readsFactor.data.toList.drop 37 = sxX12_readsFactor_37 := dSn 1 shX12_readsFactor_36
theorem shX12_readsFactor_38 : cX12_readsFactor.data.toList.drop 38 = sxX12_readsFactor_38 := dSn 1 shX12_readsFactor_37
theorem shX12_readsFactor_39 : cX12_readsFactor.data.toList.drop 39 = sxX12_readsFactor_39 := dSn 1 shX12_readsFactor_38
theorem shX12_readsFactor_42 : cX12_readsFactor.data.toList.drop 42 = sxX12_readsFactor_42 := dSn 3 shX12_readsFactor_39
theorem shX12_readsFactor_45 : cX12_readsFactor.data.toList.drop 45 = sxX12_readsFactor_45 := dSn 3 shX12_readsFactor_42
theorem shX12_readsFactor_46 : cX12_readsFactor.data.toList.drop 46 = sxX12_readsFactor_46 := dSn 1 shX12_readsFactor_45
theorem shX12_readsFactor_47 : cX12_readsFactor.data.toList.drop 47 = sxX12_readsFactor_47 := dSn 1 shX12_readsFactor_46
theorem shX12_readsFactor_48 : cX12_readsFactor.data.toList.drop 48 = sxX12_readsFactor_48 := dSn 1 shX12_readsFactor_47
theorem shX12_readsFactor_51 : cX12_readsFactor.data.toList.drop 51 = sxX12_readsFactor_51 := dSn 3 shX12_readsFactor_48
theorem shX12_readsFactor_54 : cX12_readsFactor.data.toList.drop 54 = sxX12_readsFactor_54 := dSn 3 shX12_readsFactor_51
theorem shX12_readsFactor_55 : cX12_readsFactor.data.toList.drop 55 = sxX12_readsFactor_55 := dSn 1 shX12_readsFactor_54
theorem shX12_readsFactor_56 : cX12_readsFactor.data.toList.drop 56 = sxX12_readsFactor_56 := dSn 1 shX12_readsFactor_55
theorem shX12_readsFactor_57 : cX12_readsFactor.data.toList.drop 57 = sxX12_readsFactor_57 := dSn 1 shX12_readsFactor_56
theorem shX12_readsFactor_60 : cX12_readsFactor.data.toList.drop 60 = sxX12_readsFactor_60 := dSn 3 shX12_readsFactor_57
theorem shX12_readsFactor_61 : cX12_readsFactor.data.toList.drop 61 = sxX12_readsFactor_61 := dSn 1 shX12_readsFactor_60
theorem shX12_readsFactor_62 : cX12_readsFactor.data.toList.drop 62 = sxX12_readsFactor_62 := dSn 1 shX12_readsFactor_61
theorem shX12_readsFactor_63 : cX12_readsFactor.data.toList.drop 63 = sxX12_readsFactor_63 := dSn 1 shX12_readsFactor_62
theorem shX12_readsFactor_66 : cX12_readsFactor.data.toList.drop 66 = sxX12_readsFactor_66 := dSn 3 shX12_readsFactor_63
theorem shX12_readsFactor_69 : cX12_readsFactor.data.toList.drop 69 = sxX12_readsFactor_69 := dSn 3 shX12_readsFactor_66
theorem shX12_readsFactor_70 : cX12_readsFactor.data.toList.drop 70 = sxX12_readsFactor_70 := dSn 1 shX12_readsFactor_69
theorem shX12_readsFactor_71 : cX12_readsFactor.data.toList.drop 71 = sxX12_readsFactor_71 := dSn 1 shX12_readsFactor_70
theorem shX12_readsFactor_72 : cX12_readsFactor.data.toList.drop 72 = sxX12_readsFactor_72 := dSn 1 shX12_readsFactor_71
theorem shX12_readsFactor_73 : cX12_readsFactor.data.toList.drop 73 = sxX12_readsFactor_73 := dSn 1 shX12_readsFactor_72
theorem shX12_readsFactor_76 : cX12_readsFactor.data.toList.drop 76 = sxX12_readsFactor_76 := dSn 3 shX12_readsFactor_73
theorem shX12_readsFactor_77 : cX12_readsFactor.data.toList.drop 77 = sxX12_readsFactor_77 := dSn 1 shX12_readsFactor_76
theorem shX12_readsFactor_78 : cX12_readsFactor.data.toList.drop 78 = sxX12_readsFactor_78 := dSn 1 shX12_readsFactor_77
theorem shX12_readsFactor_81 : cX12_readsFactor.data.toList.drop 81 = sxX12_readsFactor_81 := dSn 3 shX12_readsFactor_78
theorem shX12_readsFactor_82 : cX12_readsFactor.data.toList.drop 82 = sxX12_readsFactor_82 := dSn 1 shX12_readsFactor_81
theorem shX12_readsFactor_83 : cX12_readsFactor.data.toList.drop 83 = sxX12_readsFactor_83 := dSn 1 shX12_readsFactor_82
theorem shX12_readsFactor_86 : cX12_readsFactor.data.toList.drop 86 = sxX12_readsFactor_86 := dSn 3 shX12_readsFactor_83
theorem shX12_readsFactor_87 : cX12_readsFactor.data.toList.drop 87 = sxX12_readsFactor_87 := dSn 1 shX12_readsFactor_86
theorem dX12_readsFactor_0 : decode cX12_readsFactor 0 = .ok (.aload_n 0, 1) := oc_42 shX12_readsFactor_0
theorem dX12_readsFactor_1 : decode cX12_readsFactor 1 = .ok (.invokevirtual 239, 3) := oc_182 shX12_readsFactor_1
theorem dX12_readsFactor_4 : decode cX12_readsFactor 4 = .ok (.bipush 91, 2) := oc_16 shX12_readsFactor_4 sgb_91
theorem dX12_readsFactor_6 : decode cX12_readsFactor 6 = .ok (.if_icmp .ne 14, 3) := oc_160 shX12_readsFactor_6 sgw_0_14
theorem dX12_readsFactor_9 : decode cX12_readsFactor 9 = .ok (.aload_n 0, 1) := oc_42 shX12_readsFactor_9
theorem dX12_readsFactor_10 : decode cX12_readsFactor 10 = .ok (.bipush 14, 2) := oc_16 shX12_readsFactor_10 sgb_14
theorem dX12_readsFactor_12 : decode cX12_readsFactor 12 = .ok (.invokevirtual 274, 3) := oc_182 shX12_readsFactor_12
theorem dX12_readsFactor_15 : decode cX12_readsFactor 15 = .ok (.ifCond .ne (-15), 3) := oc_154 shX12_readsFactor_15 sgw_255_241
theorem dX12_readsFactor_18 : decode cX12_readsFactor 18 = .ok (.iconst 0, 1) := oc_3 shX12_readsFactor_18
theorem dX12_readsFactor_19 : decode cX12_readsFactor 19 = .ok (.ireturn, 1) := oc_172 shX12_readsFactor_19
theorem dX12_readsFactor_20 : decode cX12_readsFactor 20 = .ok (.aload_n 0, 1) := oc_42 shX12_readsFactor_20
theorem dX12_readsFactor_21 : decode cX12_readsFactor 21 = .ok (.invokevirtual 253, 3) := oc_182 shX12_readsFactor_21
theorem dX12_readsFactor_24 : decode cX12_readsFactor 24 = .ok (.ifCond .eq 23, 3) := oc_153 shX12_readsFactor_24 sgw_0_23
theorem dX12_readsFactor_27 : decode cX12_readsFactor 27 = .ok (.aload_n 0, 1) := oc_42 shX12_readsFactor_27
theorem dX12_readsFactor_28 : decode cX12_readsFactor 28 = .ok (.invokevirtual 277, 3) := oc_182 shX12_readsFactor_28
theorem dX12_readsFactor_31 : decode cX12_readsFactor 31 = .ok (.ifCond .ne 5, 3) := oc_154 shX12_readsFactor_31 sgw_0_5
theorem dX12_readsFactor_34 : decode cX12_readsFactor 34 = .ok (.iconst 0, 1) := oc_3 shX12_readsFactor_34
theorem dX12_readsFactor_35 : decode cX12_readsFactor 35 = .ok (.ireturn, 1) := oc_172 shX12_readsFactor_35
theorem dX12_readsFactor_36 : decode cX12_readsFactor 36 = .ok (.aload_n 0, 1) := oc_42 shX12_readsFactor_36
theorem dX12_readsFactor_37 : decode cX12_readsFactor 37 = .ok (.iconst 0, 1) := oc_3 shX12_readsFactor_37
theorem dX12_readsFactor_38 : decode cX12_readsFactor 38 = .ok (.aload_n 0, 1) := oc_42 shX12_readsFactor_38
theorem dX12_readsFactor_39 : decode cX12_readsFactor 39 = .ok (.getfield 250, 3) := oc_180 shX12_readsFactor_39
theorem dX12_readsFactor_42 : decode cX12_readsFactor 42 = .ok (.invokevirtual 270, 3) := oc_182 shX12_readsFactor_42
theorem dX12_readsFactor_45 : decode cX12_readsFactor 45 = .ok (.iconst 1, 1) := oc_4 shX12_readsFactor_45
theorem dX12_readsFactor_46 : decode cX12_readsFactor 46 = .ok (.ireturn, 1) := oc_172 shX12_readsFactor_46
theorem dX12_readsFactor_47 : decode cX12_readsFactor 47 = .ok (.aload_n 0, 1) := oc_42 shX12_readsFactor_47
theorem dX12_readsFactor_48 : decode cX12_readsFactor 48 = .ok (.invokevirtual 239, 3) := oc_182 shX12_readsFactor_48
theorem dX12_readsFactor_51 : decode cX12_readsFactor 51 = .ok (.invokestatic 280, 3) := oc_184 shX12_readsFactor_51
theorem dX12_readsFactor_54 : decode cX12_readsFactor 54 = .ok (.istore_n 1, 1) := oc_60 shX12_readsFactor_54
theorem dX12_readsFactor_55 : decode cX12_readsFactor 55 = .ok (.iload_n 1, 1) := oc_27 shX12_readsFactor_55
theorem dX12_readsFactor_56 : decode cX12_readsFactor 56 = .ok (.iconst (-1), 1) := oc_2 shX12_readsFactor_56
theorem dX12_readsFactor_57 : decode cX12_readsFactor 57 = .ok (.if_icmp .ne 13, 3) := oc_160 shX12_readsFactor_57 sgw_0_13
theorem dX12_readsFactor_60 : decode cX12_readsFactor 60 = .ok (.aload_n 0, 1) := oc_42 shX12_readsFactor_60
theorem dX12_readsFactor_61 : decode cX12_readsFactor 61 = .ok (.iconst 1, 1) := oc_4 shX12_readsFactor_61
theorem dX12_readsFactor_62 : decode cX12_readsFactor 62 = .ok (.aload_n 0, 1) := oc_42 shX12_readsFactor_62
theorem dX12_readsFactor_63 : decode cX12_readsFactor 63 = .ok (.getfield 233, 3) := oc_180 shX12_readsFactor_63
theorem dX12_readsFactor_66 : decode cX12_readsFactor 66 = .ok (.invokevirtual 246, 3) := oc_182 shX12_readsFactor_66
theorem dX12_readsFactor_69 : decode cX12_readsFactor 69 = .ok (.ireturn, 1) := oc_172 shX12_readsFactor_69
theorem dX12_readsFactor_70 : decode cX12_readsFactor 70 = .ok (.aload_n 0, 1) := oc_42 shX12_readsFactor_70
theorem dX12_readsFactor_71 : decode cX12_readsFactor 71 = .ok (.iconst 1, 1) := oc_4 shX12_readsFactor_71
theorem dX12_readsFactor_72 : decode cX12_readsFactor 72 = .ok (.iload_n 1, 1) := oc_27 shX12_readsFactor_72
theorem dX12_readsFactor_73 : decode cX12_readsFactor 73 = .ok (.invokevirtual 270, 3) := oc_182 shX12_readsFactor_73
theorem dX12_readsFactor_76 : decode cX12_readsFactor 76 = .ok (.aload_n 0, 1) := oc_42 shX12_readsFactor_76
theorem dX12_readsFactor_77 : decode cX12_readsFactor 77 = .ok (.aload_n 0, 1) := oc_42 shX12_readsFactor_77
theorem dX12_readsFactor_78 : decode cX12_readsFactor 78 = .ok (.getfield 233, 3) := oc_180 shX12_readsFactor_78
theorem dX12_readsFactor_81 : decode cX12_readsFactor 81 = .ok (.iconst 1, 1) := oc_4 shX12_readsFactor_81
theorem dX12_readsFactor_82 : decode cX12_readsFactor 82 = .ok (.iadd, 1) := oc_96 shX12_readsFactor_82
theorem dX12_readsFactor_83 : decode cX12_readsFactor 83 = .ok (.putfield 233, 3) := oc_181 shX12_readsFactor_83
theorem dX12_readsFactor_86 : decode cX12_readsFactor 86 = .ok (.iconst 1, 1) := oc_4 shX12_readsFactor_86
theorem dX12_readsFactor_87 : decode cX12_readsFactor 87 = .ok (.ireturn, 1) := oc_172 shX12_readsFactor_87
noncomputable def sxX12_hasOpenSum_35 : List UInt8 := []
noncomputable def sxX12_hasOpenSum_34 : List UInt8 := 172 :: sxX12_hasOpenSum_35
noncomputable def sxX12_hasOpenSum_33 : List UInt8 := 3 :: sxX12_hasOpenSum_34
noncomputable def sxX12_hasOpenSum_30 : List UInt8 := 167 :: 255 :: 228 :: sxX12_hasOpenSum_33
noncomputable def sxX12_hasOpenSum_27 : List UInt8 := 132 :: 2 :: 1 :: sxX12_hasOpenSum_30
noncomputable def sxX12_hasOpenSum_26 : List UInt8 := 172 :: sxX12_hasOpenSum_27
noncomputable def sxX12_hasOpenSum_25 : List UInt8 := 4 :: sxX12_hasOpenSum_26
noncomputable def sxX12_hasOpenSum_22 : List UInt8 := 160 :: 0 :: 5 :: sxX12_hasOpenSum_25
noncomputable def sxX12_hasOpenSum_20 : List UInt8 := 16 :: 14 :: sxX12_hasOpenSum_22
noncomputable def sxX12_hasOpenSum_19 : List UInt8 := 108 :: sxX12_hasOpenSum_20
noncomputable def sxX12_hasOpenSum_16 : List UInt8 := 19 :: 1 :: 4 :: sxX12_hasOpenSum_19
noncomputable def sxX12_hasOpenSum_15 : List UInt8 := 46 :: sxX12_hasOpenSum_16
noncomputable def sxX12_hasOpenSum_14 : List UInt8 := 28 :: sxX12_hasOpenSum_15
noncomputable def sxX12_hasOpenSum_11 : List UInt8 := 180 :: 0 :: 59 :: sxX12_hasOpenSum_14
noncomputable def sxX12_hasOpenSum_10 : List UInt8 := 42 :: sxX12_hasOpenSum_11
noncomputable def sxX12_hasOpenSum_7 : List UInt8 := 162 :: 0 :: 26 :: sxX12_hasOpenSum_10
noncomputable def sxX12_hasOpenSum_4 : List UInt8 := 180 :: 1 :: 8 :: sxX12_hasOpenSum_7
noncomputable def sxX12_hasOpenSum_3 : List UInt8 := 42 :: sxX12_hasOpenSum_4
noncomputable def sxX12_hasOpenSum_2 : List UInt8 := 28 :: sxX12_hasOpenSum_3
noncomputable def sxX12_hasOpenSum_1 : List UInt8 := 61 :: sxX12_hasOpenSum_2
noncomputable def sxX12_hasOpenSum_0 : List UInt8 := 27 :: sxX12_hasOpenSum_1
theorem shX12_hasOpenSum_0 : cX12_hasOpenSum.data.toList.drop 0 = sxX12_hasOpenSum_0 := rfl
theorem shX12_hasOpenSum_1 : cX12_hasOpenSum.data.toList.drop 1 = sxX12_hasOpenSum_1 := dSn 1 shX12_hasOpenSum_0
theorem shX12_hasOpenSum_2 : cX12_hasOpenSum.data.toList.drop 2 = sxX12_hasOpenSum_2 := dSn 1 shX12_hasOpenSum_1
theorem shX12_hasOpenSum_3 : cX12_hasOpenSum.data.toList.drop 3 = sxX12_hasOpenSum_3 := dSn 1 shX12_hasOpenSum_2
theorem shX12_hasOpenSum_4 : cX12_hasOpenSum.data.toList.drop 4 = sxX12_hasOpenSum_4 := dSn 1 shX12_hasOpenSum_3
theorem shX12_hasOpenSum_7 : cX12_hasOpenSum.data.toList.drop 7 = sxX12_hasOpenSum_7 := dSn 3 shX12_hasOpenSum_4
theorem shX12_hasOpenSum_10 : cX12_hasOpenSum.data.toList.drop 10 = sxX12_hasOpenSum_10 := dSn 3 shX12_hasOpenSum_7
theorem shX12_hasOpenSum_11 : cX12_hasOpenSum.data.toList.drop 11 = sxX12_hasOpenSum_11 := dSn 1 shX12_hasOpenSum_10
theorem shX12_hasOpenSum_14 : cX12_hasOpenSum.data.toList.drop 14 = sxX12_hasOpenSum_14 := dSn 3 shX12_hasOpenSum_11
theorem shX12_hasOpenSum_15 : cX12_hasOpenSum.data.toList.drop 15 = sxX12_hasOpenSum_15 := dSn 1 shX12_hasOpenSum_14
theorem shX12_hasOpenSum_16 : cX12_hasOpenSum.data.toList.drop 16 = sxX12_hasOpenSum_16 := dSn 1 shX12_hasOpenSum_15
theorem shX12_hasOpenSum_19 : cX12_hasOpenSum.data.toList.drop 19 = sxX12_hasOpenSum_19 := dSn 3 shX12_hasOpenSum_16
theorem shX12_hasOpenSum_20 : cX12_hasOpenSum.data.toList.drop 20 = sxX12_hasOpenSum_20 := dSn 1 shX12_hasOpenSum_19
theorem shX12_hasOpenSum_22 : cX12_hasOpenSum.data.toList.drop 22 = sxX12_hasOpenSum_22 := dSn 2 shX12_hasOpenSum_20
theorem shX12_hasOpenSum_25 : cX12_hasOpenSum.data.toList.drop 25 = sxX12_hasOpenSum_25 := dSn 3 shX12_hasOpenSum_22
theorem shX12_hasOpenSum_26 : cX12_hasOpenSum.data.toList.drop 26 = sxX12_hasOpenSum_26 := dSn 1 shX12_hasOpenSum_25
theorem shX12_hasOpenSum_27 : cX12_hasOpenSum.data.toList.drop 27 = sxX12_hasOpenSum_27 := dSn 1 shX12_hasOpenSum_26
theorem shX12_hasOpenSum_30 : cX12_hasOpenSum.data.toList.drop 30 = sxX12_hasOpenSum_30 := dSn 3 shX12_hasOpenSum_27
theorem shX12_hasOpenSum_33 : cX12_hasOpenSum.data.toList.drop 33 = sxX12_hasOpenSum_33 := dSn 3 shX12_hasOpenSum_30
theorem shX12_hasOpenSum_34 : cX12_hasOpenSum.data.toList.drop 34 = sxX12_hasOpenSum_34 := dSn 1 shX12_hasOpenSum_33
theorem dX12_hasOpenSum_0 : decode cX12_hasOpenSum 0 = .ok (.iload_n 1, 1) := oc_27 shX12_hasOpenSum_0
theorem dX12_hasOpenSum_1 : decode cX12_hasOpenSum 1 = .ok (.istore_n 2, 1) := oc_61 shX12_hasOpenSum_1
theorem dX12_hasOpenSum_2 : decode cX12_hasOpenSum 2 = .ok (.iload_n 2, 1) := oc_28 shX12_hasOpenSum_2
theorem dX12_hasOpenSum_3 : decode cX12_hasOpenSum 3 = .ok (.aload_n 0, 1) := oc_42 shX12_hasOpenSum_3
theorem dX12_hasOpenSum_4 : decode cX12_hasOpenSum 4 = .ok (.getfield 264, 3) := oc_180 shX12_hasOpenSum_4
theorem dX12_hasOpenSum_7 : decode cX12_hasOpenSum 7 = .ok (.if_icmp .ge 26, 3) := oc_162 shX12_hasOpenSum_7 sgw_0_26
theorem dX12_hasOpenSum_10 : decode cX12_hasOpenSum 10 = .ok (.aload_n 0, 1) := oc_42 shX12_hasOpenSum_10
theorem dX12_hasOpenSum_11 : decode cX12_hasOpenSum 11 = .ok (.getfield 59, 3) := oc_180 shX12_hasOpenSum_11
theorem dX12_hasOpenSum_14 : decode cX12_hasOpenSum 14 = .ok (.iload_n 2, 1) := oc_28 shX12_hasOpenSum_14
theorem dX12_hasOpenSum_15 : decode cX12_hasOpenSum 15 = .ok (.iaload, 1) := oc_46 shX12_hasOpenSum_15
theorem dX12_hasOpenSum_16 : decode cX12_hasOpenSum 16 = .ok (.ldc_w 260, 3) := oc_19 shX12_hasOpenSum_16
theorem dX12_hasOpenSum_19 : decode cX12_hasOpenSum 19 = .ok (.idiv, 1) := oc_108 shX12_hasOpenSum_19
theorem dX12_hasOpenSum_20 : decode cX12_hasOpenSum 20 = .ok (.bipush 14, 2) := oc_16 shX12_hasOpenSum_20 sgb_14
theorem dX12_hasOpenSum_22 : decode cX12_hasOpenSum 22 = .ok (.if_icmp .ne 5, 3) := oc_160 shX12_hasOpenSum_22 sgw_0_5
theorem dX12_hasOpenSum_25 : decode cX12_hasOpenSum 25 = .ok (.iconst 1, 1) := oc_4 shX12_hasOpenSum_25
theorem dX12_hasOpenSum_26 : decode cX12_hasOpenSum 26 = .ok (.ireturn, 1) := oc_172 shX12_hasOpenSum_26
theorem dX12_hasOpenSum_27 : decode cX12_hasOpenSum 27 = .ok (.iinc 2 1, 3) := oc_132 shX12_hasOpenSum_27 sgb_1
theorem dX12_hasOpenSum_30 : decode cX12_hasOpenSum 30 = .ok (.goto (-28), 3) := oc_167 shX12_hasOpenSum_30 sgw_255_228
theorem dX12_hasOpenSum_33 : decode cX12_hasOpenSum 33 = .ok (.iconst 0, 1) := oc_3 shX12_hasOpenSum_33
theorem dX12_hasOpenSum_34 : decode cX12_hasOpenSum 34 = .ok (.ireturn, 1) := oc_172 shX12_hasOpenSum_34
noncomputable def sxX12_readsSum_167 : List UInt8 := []
noncomputable def sxX12_readsSum_164 : List UInt8 := 167 :: 255 :: 106 :: sxX12_readsSum_167
noncomputable def sxX12_readsSum_163 : List UInt8 := 172 :: sxX12_readsSum_164
noncomputable def sxX12_readsSum_162 : List UInt8 := 4 :: sxX12_readsSum_163
noncomputable def sxX12_readsSum_159 : List UInt8 := 182 :: 1 :: 34 :: sxX12_readsSum_162
noncomputable def sxX12_readsSum_158 : List UInt8 := 4 :: sxX12_readsSum_159
noncomputable def sxX12_readsSum_157 : List UInt8 := 42 :: sxX12_readsSum_158
noncomputable def sxX12_readsSum_156 : List UInt8 := 172 :: sxX12_readsSum_157
noncomputable def sxX12_readsSum_153 : List UInt8 := 182 :: 0 :: 246 :: sxX12_readsSum_156
noncomputable def sxX12_readsSum_150 : List UInt8 := 180 :: 0 :: 233 :: sxX12_readsSum_153
noncomputable def sxX12_readsSum_149 : List UInt8 := 42 :: sxX12_readsSum_150
noncomputable def sxX12_readsSum_148 : List UInt8 := 4 :: sxX12_readsSum_149
noncomputable def sxX12_readsSum_147 : List UInt8 := 42 :: sxX12_readsSum_148
noncomputable def sxX12_readsSum_144 : List UInt8 := 153 :: 0 :: 13 :: sxX12_readsSum_147
noncomputable def sxX12_readsSum_141 : List UInt8 := 182 :: 1 :: 38 :: sxX12_readsSum_144
noncomputable def sxX12_readsSum_140 : List UInt8 := 27 :: sxX12_readsSum_141
noncomputable def sxX12_readsSum_139 : List UInt8 := 42 :: sxX12_readsSum_140
noncomputable def sxX12_readsSum_136 : List UInt8 := 167 :: 0 :: 28 :: sxX12_readsSum_139
noncomputable def sxX12_readsSum_133 : List UInt8 := 181 :: 0 :: 233 :: sxX12_readsSum_136
noncomputable def sxX12_readsSum_132 : List UInt8 := 96 :: sxX12_readsSum_133
noncomputable def sxX12_readsSum_131 : List UInt8 := 4 :: sxX12_readsSum_132
noncomputable def sxX12_readsSum_128 : List UInt8 := 180 :: 0 :: 233 :: sxX12_readsSum_131
noncomputable def sxX12_readsSum_127 : List UInt8 := 42 :: sxX12_readsSum_128
noncomputable def sxX12_readsSum_126 : List UInt8 := 42 :: sxX12_readsSum_127
noncomputable def sxX12_readsSum_123 : List UInt8 := 181 :: 1 :: 5 :: sxX12_readsSum_126
noncomputable def sxX12_readsSum_122 : List UInt8 := 100 :: sxX12_readsSum_123
noncomputable def sxX12_readsSum_121 : List UInt8 := 4 :: sxX12_readsSum_122
noncomputable def sxX12_readsSum_118 : List UInt8 := 180 :: 1 :: 5 :: sxX12_readsSum_121
noncomputable def sxX12_readsSum_117 : List UInt8 := 42 :: sxX12_readsSum_118
noncomputable def sxX12_readsSum_116 : List UInt8 := 42 :: sxX12_readsSum_117
noncomputable def sxX12_readsSum_113 : List UInt8 := 181 :: 1 :: 8 :: sxX12_readsSum_116
noncomputable def sxX12_readsSum_112 : List UInt8 := 100 :: sxX12_readsSum_113
noncomputable def sxX12_readsSum_111 : List UInt8 := 4 :: sxX12_readsSum_112
noncomputable def sxX12_readsSum_108 : List UInt8 := 180 :: 1 :: 8 :: sxX12_readsSum_111
noncomputable def sxX12_readsSum_107 : List UInt8 := 42 :: sxX12_readsSum_108
noncomputable def sxX12_readsSum_106 : List UInt8 := 42 :: sxX12_readsSum_107
noncomputable def sxX12_readsSum_103 : List UInt8 := 182 :: 1 :: 34 :: sxX12_readsSum_106
noncomputable def sxX12_readsSum_102 : List UInt8 := 4 :: sxX12_readsSum_103
noncomputable def sxX12_readsSum_101 : List UInt8 := 42 :: sxX12_readsSum_102
noncomputable def sxX12_readsSum_98 : List UInt8 := 153 :: 0 :: 41 :: sxX12_readsSum_101
noncomputable def sxX12_readsSum_95 : List UInt8 := 182 :: 1 :: 38 :: sxX12_readsSum_98
noncomputable def sxX12_readsSum_94 : List UInt8 := 27 :: sxX12_readsSum_95
noncomputable def sxX12_readsSum_93 : List UInt8 := 42 :: sxX12_readsSum_94
noncomputable def sxX12_readsSum_90 : List UInt8 := 160 :: 0 :: 49 :: sxX12_readsSum_93
noncomputable def sxX12_readsSum_88 : List UInt8 := 16 :: 93 :: sxX12_readsSum_90
noncomputable def sxX12_readsSum_85 : List UInt8 := 182 :: 0 :: 239 :: sxX12_readsSum_88
noncomputable def sxX12_readsSum_84 : List UInt8 := 42 :: sxX12_readsSum_85
noncomputable def sxX12_readsSum_83 : List UInt8 := 172 :: sxX12_readsSum_84
noncomputable def sxX12_readsSum_82 : List UInt8 := 3 :: sxX12_readsSum_83
noncomputable def sxX12_readsSum_79 : List UInt8 := 154 :: 0 :: 85 :: sxX12_readsSum_82
noncomputable def sxX12_readsSum_76 : List UInt8 := 182 :: 1 :: 28 :: sxX12_readsSum_79
noncomputable def sxX12_readsSum_75 : List UInt8 := 42 :: sxX12_readsSum_76
noncomputable def sxX12_readsSum_72 : List UInt8 := 181 :: 0 :: 233 :: sxX12_readsSum_75
noncomputable def sxX12_readsSum_71 : List UInt8 := 96 :: sxX12_readsSum_72
noncomputable def sxX12_readsSum_70 : List UInt8 := 4 :: sxX12_readsSum_71
noncomputable def sxX12_readsSum_67 : List UInt8 := 180 :: 0 :: 233 :: sxX12_readsSum_70
noncomputable def sxX12_readsSum_66 : List UInt8 := 42 :: sxX12_readsSum_67
noncomputable def sxX12_readsSum_65 : List UInt8 := 42 :: sxX12_readsSum_66
noncomputable def sxX12_readsSum_62 : List UInt8 := 181 :: 1 :: 8 :: sxX12_readsSum_65
noncomputable def sxX12_readsSum_61 : List UInt8 := 96 :: sxX12_readsSum_62
noncomputable def sxX12_readsSum_60 : List UInt8 := 4 :: sxX12_readsSum_61
noncomputable def sxX12_readsSum_57 : List UInt8 := 180 :: 1 :: 8 :: sxX12_readsSum_60
noncomputable def sxX12_readsSum_56 : List UInt8 := 42 :: sxX12_readsSum_57
noncomputable def sxX12_readsSum_55 : List UInt8 := 42 :: sxX12_readsSum_56
noncomputable def sxX12_readsSum_54 : List UInt8 := 79 :: sxX12_readsSum_55
noncomputable def sxX12_readsSum_53 : List UInt8 := 104 :: sxX12_readsSum_54
noncomputable def sxX12_readsSum_52 : List UInt8 := 28 :: sxX12_readsSum_53
noncomputable def sxX12_readsSum_49 : List UInt8 := 19 :: 1 :: 4 :: sxX12_readsSum_52
noncomputable def sxX12_readsSum_46 : List UInt8 := 180 :: 1 :: 8 :: sxX12_readsSum_49
noncomputable def sxX12_readsSum_45 : List UInt8 := 42 :: sxX12_readsSum_46
noncomputable def sxX12_readsSum_42 : List UInt8 := 180 :: 0 :: 59 :: sxX12_readsSum_45
noncomputable def sxX12_readsSum_41 : List UInt8 := 42 :: sxX12_readsSum_42
noncomputable def sxX12_readsSum_38 : List UInt8 := 182 :: 1 :: 34 :: sxX12_readsSum_41
noncomputable def sxX12_readsSum_37 : List UInt8 := 3 :: sxX12_readsSum_38
noncomputable def sxX12_readsSum_34 : List UInt8 := 167 :: 0 :: 4 :: sxX12_readsSum_37
noncomputable def sxX12_readsSum_33 : List UInt8 := 4 :: sxX12_readsSum_34
noncomputable def sxX12_readsSum_30 : List UInt8 := 162 :: 0 :: 7 :: sxX12_readsSum_33
noncomputable def sxX12_readsSum_29 : List UInt8 := 7 :: sxX12_readsSum_30
noncomputable def sxX12_readsSum_28 : List UInt8 := 28 :: sxX12_readsSum_29
noncomputable def sxX12_readsSum_27 : List UInt8 := 42 :: sxX12_readsSum_28
noncomputable def sxX12_readsSum_24 : List UInt8 := 159 :: 0 :: 60 :: sxX12_readsSum_27
noncomputable def sxX12_readsSum_23 : List UInt8 := 2 :: sxX12_readsSum_24
noncomputable def sxX12_readsSum_22 : List UInt8 := 28 :: sxX12_readsSum_23
noncomputable def sxX12_readsSum_21 : List UInt8 := 61 :: sxX12_readsSum_22
noncomputable def sxX12_readsSum_18 : List UInt8 := 184 :: 1 :: 31 :: sxX12_readsSum_21
noncomputable def sxX12_readsSum_15 : List UInt8 := 182 :: 0 :: 239 :: sxX12_readsSum_18
noncomputable def sxX12_readsSum_14 : List UInt8 := 42 :: sxX12_readsSum_15
noncomputable def sxX12_readsSum_13 : List UInt8 := 172 :: sxX12_readsSum_14
noncomputable def sxX12_readsSum_12 : List UInt8 := 3 :: sxX12_readsSum_13
noncomputable def sxX12_readsSum_9 : List UInt8 := 154 :: 0 :: 5 :: sxX12_readsSum_12
noncomputable def sxX12_readsSum_6 : List UInt8 := 182 :: 1 :: 28 :: sxX12_readsSum_9
noncomputable def sxX12_readsSum_5 : List UInt8 := 42 :: sxX12_readsSum_6
noncomputable def sxX12_readsSum_4 : List UInt8 := 60 :: sxX12_readsSum_5
noncomputable def sxX12_readsSum_1 : List UInt8 := 180 :: 1 :: 8 :: sxX12_readsSum_4
noncomputable def sxX12_readsSum_0 : List UInt8 := 42 :: sxX12_readsSum_1
theorem shX12_readsSum_0 : cX12_readsSum.data.toList.drop 0 = sxX12_readsSum_0 := rfl
theorem shX12_readsSum_1 : cX12_readsSum.data.toList.drop 1 = sxX12_readsSum_1 := dSn 1 shX12_readsSum_0
theorem shX12_readsSum_4 : cX12_readsSum.data.toList.drop 4 = sxX12_readsSum_4 := dSn 3 shX12_readsSum_1
theorem shX12_readsSum_5 : cX12_readsSum.data.toList.drop 5 = sxX12_readsSum_5 := dSn 1 shX12_readsSum_4
theorem shX12_readsSum_6 : cX12_readsSum.data.toList.drop 6 = sxX12_readsSum_6 := dSn 1 shX12_readsSum_5
theorem shX12_readsSum_9 : cX12_readsSum.data.toList.drop 9 = sxX12_readsSum_9 := dSn 3 shX12_readsSum_6
theorem shX12_readsSum_12 : cX12_readsSum.data.toList.drop 12 = sxX12_readsSum_12 := dSn 3 shX12_readsSum_9
theorem shX12_readsSum_13 : cX12_readsSum.data.toList.drop 13 = sxX12_readsSum_13 := dSn 1 shX12_readsSum_12
theorem shX12_readsSum_14 : cX12_readsSum.data.toList.drop 14 = sxX12_readsSum_14 := dSn 1 shX12_readsSum_13
theorem shX12_readsSum_15 : cX12_readsSum.data.toList.drop 15 = sxX12_readsSum_15 := dSn 1 shX12_readsSum_14
theorem shX12_readsSum_18 : cX12_readsSum.data.toList.drop 18 = sxX12_readsSum_18 := dSn 3 shX12_readsSum_15
theorem shX12_readsSum_21 : cX12_readsSum.data.toList.drop 21 = sxX12_readsSum_21 := dSn 3 shX12_readsSum_18
theorem shX12_readsSum_22 : cX12_readsSum.data.toList.drop 22 = sxX12_readsSum_22 := dSn 1 shX12_readsSum_21
theorem shX12_readsSum_23 : cX12_readsSum.data.toList.drop 23 = sxX12_readsSum_23 := dSn 1 shX12_readsSum_22
theorem shX12_readsSum_24 : cX12_readsSum.data.toList.drop 24 = sxX12_readsSum_24 := dSn 1 shX12_readsSum_23
theorem shX12_readsSum_27 : cX12_readsSum.data.toList.drop 27 = sxX12_readsSum_27 := dSn 3 shX12_readsSum_24
theorem shX12_readsSum_28 : cX12_readsSum.data.toList.drop 28 = sxX12_readsSum_28 := dSn 1 shX12_readsSum_27
theorem shX12_readsSum_29 : cX12_readsSum.data.toList.drop 29 = sxX12_readsSum_29 := dSn 1 shX12_readsSum_28
theorem shX12_readsSum_30 : cX12_readsSum.data.toList.drop 30 = sxX12_readsSum_30 := dSn 1 shX12_readsSum_29
theorem shX12_readsSum_33 : cX12_readsSum.data.toList.drop 33 = sxX12_readsSum_33 := dSn 3 shX12_readsSum_30
theorem shX12_readsSum_34 : cX12_readsSum.data.toList.drop 34 = sxX12_readsSum_34 := dSn 1 shX12_readsSum_33
theorem shX12_readsSum_37 : cX12_readsSum.data.toList.drop 37 = sxX12_readsSum_37 := dSn 3 shX12_readsSum_34
theorem shX12_readsSum_38 : cX12_readsSum.data.toList.drop 38 = sxX12_readsSum_38 := dSn 1 shX12_readsSum_37
theorem shX12_readsSum_41 : cX12_readsSum.data.toList.drop 41 = sxX12_readsSum_41 := dSn 3 shX12_readsSum_38
theorem shX12_readsSum_42 : cX12_readsSum.data.toList.drop 42 = sxX12_readsSum_42 := dSn 1 shX12_readsSum_41
theorem shX12_readsSum_45 : cX12_readsSum.data.toList.drop 45 = sxX12_readsSum_45 := dSn 3 shX12_readsSum_42
theorem shX12_readsSum_46 : cX12_readsSum.data.toList.drop 46 = sxX12_readsSum_46 := dSn 1 shX12_readsSum_45
theorem shX12_readsSum_49 : cX12_readsSum.data.toList.drop 49 = sxX12_readsSum_49 := dSn 3 shX12_readsSum_46
theorem shX12_readsSum_52 : cX12_readsSum.data.toList.drop 52 = sxX12_readsSum_52 := dSn 3 shX12_readsSum_49
theorem shX12_readsSum_53 : cX12_readsSum.data.toList.drop 53 = sxX12_readsSum_53 := dSn 1 shX12_readsSum_52
theorem shX12_readsSum_54 : cX12_readsSum.data.toList.drop 54 = sxX12_readsSum_54 := dSn 1 shX12_readsSum_53
theorem shX12_readsSum_55 : cX12_readsSum.data.toList.drop 55 = sxX12_readsSum_55 := dSn 1 shX12_readsSum_54
theorem shX12_readsSum_56 : cX12_readsSum.data.toList.drop 56 = sxX12_readsSum_56 := dSn 1 shX12_readsSum_55
theorem shX12_readsSum_57 : cX12_readsSum.data.toList.drop 57 = sxX12_readsSum_57 := dSn 1 shX12_readsSum_56
theorem shX12_readsSum_60 : cX12_readsSum.data.toList.drop 60 = sxX12_readsSum_60 := dSn 3 shX12_readsSum_57
theorem shX12_readsSum_61 : cX12_readsSum.data.toList.drop 61 = sxX12_readsSum_61 := dSn 1 shX12_readsSum_60
theorem shX12_readsSum_62 : cX12_readsSum.data.toList.drop 62 = sxX12_readsSum_62 := dSn 1 shX12_readsSum_61
theorem shX12_readsSum_65 : cX12_readsSum.data.toList.drop 65 = sxX12_readsSum_65 := dSn 3 shX12_readsSum_62
theorem shX12_readsSum_66 : cX12_readsSum.data.toList.drop 66 = sxX12_readsSum_66 := dSn 1 shX12_readsSum_65
theorem shX12_readsSum_67 : cX12_readsSum.data.toList.drop 67 = sxX12_readsSum_67 := dSn 1 shX12_readsSum_66
theorem shX12_readsSum_70 : cX12_readsSum.data.toList.drop 70 = sxX12_readsSum_70 := dSn 3 shX12_readsSum_67
theorem shX12_readsSum_71 : cX12_readsSum.data.toList.drop 71 = sxX12_readsSum_71 := dSn 1 shX12_readsSum_70
theorem shX12_readsSum_72 : cX12_readsSum.data.toList.drop 72 = sxX12_readsSum_72 := dSn 1 shX12_readsSum_71
theorem shX12_readsSum_75 : cX12_readsSum.data.toList.drop 75 = sxX12_readsSum_75 := dSn 3 shX12_readsSum_72
theorem shX12_readsSum_76 : cX12_readsSum.data.toList.drop 76 = sxX12_readsSum_76 := dSn 1 shX12_readsSum_75
theorem shX12_readsSum_79 : cX12_readsSum.data.toList.drop 79 = sxX12_readsSum_79 := dSn 3 shX12_readsSum_76
theorem shX12_readsSum_82 : cX12_readsSum.data.toList.drop 82 = sxX12_readsSum_82 := dSn 3 shX12_readsSum_79
theorem shX12_readsSum_83 : cX12_readsSum.data.toList.drop 83 = sxX12_readsSum_83 := dSn 1 shX12_readsSum_82
theorem shX12_readsSum_84 : cX12_readsSum.data.toList.drop 84 = sxX12_readsSum_84 := dSn 1 shX12_readsSum_83
theorem shX12_readsSum_85 : cX12_readsSum.data.toList.drop 85 = sxX12_readsSum_85 := dSn 1 shX12_readsSum_84
theorem shX12_readsSum_88 : cX12_readsSum.data.toList.drop 88 = sxX12_readsSum_88 := dSn 3 shX12_readsSum_85
theorem shX12_readsSum_90 : cX12_readsSum.data.toList.drop 90 = sxX12_readsSum_90 := dSn 2 shX12_readsSum_88
theorem shX12_readsSum_93 : cX12_readsSum.data.toList.drop 93 = sxX12_readsSum_93 := dSn 3 shX12_readsSum_90
theorem shX12_readsSum_94 : cX12_readsSum.data.toList.drop 94 = sxX12_readsSum_94 := dSn 1 shX12_readsSum_93
theorem shX12_readsSum_95 : cX12_readsSum.data.toList.drop 95 = sxX12_readsSum_95 := dSn 1 shX12_readsSum_94
theorem shX12_readsSum_98 : cX12_readsSum.data.toList.drop 98 = sxX12_readsSum_98 := dSn 3 shX12_readsSum_95
theorem shX12_readsSum_101 : cX12_readsSum.data.toList.drop 101 = sxX12_readsSum_101 := dSn 3 shX12_readsSum_98
theorem shX12_readsSum_102 : cX12_readsSum.data.toList.drop 102 = sxX12_readsSum_102 := dSn 1 shX12_readsSum_101
theorem shX12_readsSum_103 : cX12_readsSum.data.toList.drop 103 = sxX12_readsSum_103 := dSn 1 shX12_readsSum_102
theorem shX12_readsSum_106 : cX12_readsSum.data.toList.drop 106 = sxX12_readsSum_106 := dSn 3 shX12_readsSum_103
theorem shX12_readsSum_107 : cX12_readsSum.data.toList.drop 107 = sxX12_readsSum_107 := dSn 1 shX12_readsSum_106
theorem shX12_readsSum_108 : cX12_readsSum.data.toList.drop 108 = sxX12_readsSum_108 := dSn 1 shX12_readsSum_107
theorem shX12_readsSum_111 : cX12_readsSum.data.toList.drop 111 = sxX12_readsSum_111 := dSn 3 shX12_readsSum_108
theorem shX12_readsSum_112 : cX12_readsSum.data.toList.drop 112 = sxX12_readsSum_112 := dSn 1 shX12_readsSum_111
theorem shX12_readsSum_113 : cX12_readsSum.data.toList.drop 113 = sxX12_readsSum_113 := dSn 1 shX12_readsSum_112
theorem shX12_readsSum_116 : cX12_readsSum.data.toList.drop 116 = sxX12_readsSum_116 := dSn 3 shX12_readsSum_113
theorem shX12_readsSum_117 : cX12_readsSum.data.toList.drop 117 = sxX12_readsSum_117 := dSn 1 shX12_readsSum_116
theorem shX12_readsSum_118 : cX12_readsSum.data.toList.drop 118 = sxX12_readsSum_118 := dSn 1 shX12_readsSum_117
theorem shX12_readsSum_121 : cX12_readsSum.data.toList.drop 121 = sxX12_readsSum_121 := dSn 3 shX12_readsSum_118
theorem shX12_readsSum_122 : cX12_readsSum.data.toList.drop 122 = sxX12_readsSum_122 := dSn 1 shX12_readsSum_121
theorem shX12_readsSum_123 : cX12_readsSum.data.toList.drop 123 = sxX12_readsSum_123 := dSn 1 shX12_readsSum_122
theorem shX12_readsSum_126 : cX12_readsSum.data.toList.drop 126 = sxX12_readsSum_126 := dSn 3 shX12_readsSum_123
theorem shX12_readsSum_127 : cX12_readsSum.data.toList.drop 127 = sxX12_readsSum_127 := dSn 1 shX12_readsSum_126
theorem shX12_readsSum_128 : cX12_readsSum.data.toList.drop 128 = sxX12_readsSum_128 := dSn 1 shX12_readsSum_127
theorem shX12_readsSum_131 : cX12_readsSum.data.toList.drop 131 = sxX12_readsSum_131 := dSn 3 shX12_readsSum_128
theorem shX12_readsSum_132 : cX12_readsSum.data.toList.drop 132 = sxX12_readsSum_132 := dSn 1 shX12_readsSum_131
theorem shX12_readsSum_133 : cX12_readsSum.data.toList.drop 133 = sxX12_readsSum_133 := dSn 1 shX12_readsSum_132
theorem shX12_readsSum_136 : cX12_readsSum.data.toList.drop 136 = sxX12_readsSum_136 := dSn 3 shX12_readsSum_133
theorem shX12_readsSum_139 : cX12_readsSum.data.toList.drop 139 = sxX12_readsSum_139 := dSn 3 shX12_readsSum_136
theorem shX12_readsSum_140 : cX12_readsSum.data.toList.drop 140 = sxX12_readsSum_140 := dSn 1 shX12_readsSum_139
theorem shX12_readsSum_141 : cX12_readsSum.data.toList.drop 141 = sxX12_readsSum_141 := dSn 1 shX12_readsSum_140
theorem shX12_readsSum_144 : cX12_readsSum.data.toList.drop 144 = sxX12_readsSum_144 := dSn 3 shX12_readsSum_141
theorem shX12_readsSum_147 : cX12_readsSum.data.toList.drop 147 = sxX12_readsSum_147 := dSn 3 shX12_readsSum_144
theorem shX12_readsSum_148 : cX12_readsSum.data.toList.drop 148 = sxX12_readsSum_148 := dSn 1 shX12_readsSum_147
theorem shX12_readsSum_149 : cX12_readsSum.data.toList.drop 149 = sxX12_readsSum_149 := dSn 1 shX12_readsSum_148
theorem shX12_readsSum_150 : cX12_readsSum.data.toList.drop 150 = sxX12_readsSum_150 := dSn 1 shX12_readsSum_149
theorem shX12_readsSum_153 : cX12_readsSum.data.toList.drop 153 = sxX12_readsSum_153 := dSn 3 shX12_readsSum_150
theorem shX12_readsSum_156 : cX12_readsSum.data.toList.drop 156 = sxX12_readsSum_156 := dSn 3 shX12_readsSum_153
theorem shX12_readsSum_157 : cX12_readsSum.data.toList.drop 157 = sxX12_readsSum_157 := dSn 1 shX12_readsSum_156
theorem shX12_readsSum_158 : cX12_readsSum.data.toList.drop 158 = sxX12_readsSum_158 := dSn 1 shX12_readsSum_157
theorem shX12_readsSum_159 : cX12_readsSum.data.toList.drop 159 = sxX12_readsSum_159 := dSn 1 shX12_readsSum_158
theorem shX12_readsSum_162 : cX12_readsSum.data.toList.drop 162 = sxX12_readsSum_162 := dSn 3 shX12_readsSum_159
theorem shX12_readsSum_163 : cX12_readsSum.data.toList.drop 163 = sxX12_readsSum_163 := dSn 1 shX12_readsSum_162
theorem shX12_readsSum_164 : cX12_readsSum.data.toList.drop 164 = sxX12_readsSum_164 := dSn 1 shX12_readsSum_163
theorem dX12_readsSum_0 : decode cX12_readsSum 0 = .ok (.aload_n 0, 1) := oc_42 shX12_readsSum_0
theorem dX12_readsSum_1 : decode cX12_readsSum 1 = .ok (.getfield 264, 3) := oc_180 shX12_readsSum_1
theorem dX12_readsSum_4 : decode cX12_readsSum 4 = .ok (.istore_n 1, 1) := oc_60 shX12_readsSum_4
theorem dX12_readsSum_5 : decode cX12_readsSum 5 = .ok (.aload_n 0, 1) := oc_42 shX12_readsSum_5
theorem dX12_readsSum_6 : decode cX12_readsSum 6 = .ok (.invokevirtual 284, 3) := oc_182 shX12_readsSum_6
theorem dX12_readsSum_9 : decode cX12_readsSum 9 = .ok (.ifCond .ne 5, 3) := oc_154 shX12_readsSum_9 sgw_0_5
theorem dX12_readsSum_12 : decode cX12_readsSum 12 = .ok (.iconst 0, 1) := oc_3 shX12_readsSum_12
theorem dX12_readsSum_13 : decode cX12_readsSum 13 = .ok (.ireturn, 1) := oc_172 shX12_readsSum_13
theorem dX12_readsSum_14 : decode cX12_readsSum 14 = .ok (.aload_n 0, 1) := oc_42 shX12_readsSum_14
theorem dX12_readsSum_15 : decode cX12_readsSum 15 = .ok (.invokevirtual 239, 3) := oc_182 shX12_readsSum_15
theorem dX12_readsSum_18 : decode cX12_readsSum 18 = .ok (.invokestatic 287, 3) := oc_184 shX12_readsSum_18
theorem dX12_readsSum_21 : decode cX12_readsSum 21 = .ok (.istore_n 2, 1) := oc_61 shX12_readsSum_21
theorem dX12_readsSum_22 : decode cX12_readsSum 22 = .ok (.iload_n 2, 1) := oc_28 shX12_readsSum_22
theorem dX12_readsSum_23 : decode cX12_readsSum 23 = .ok (.iconst (-1), 1) := oc_2 shX12_readsSum_23
theorem dX12_readsSum_24 : decode cX12_readsSum 24 = .ok (.if_icmp .eq 60, 3) := oc_159 shX12_readsSum_24 sgw_0_60
theorem dX12_readsSum_27 : decode cX12_readsSum 27 = .ok (.aload_n 0, 1) := oc_42 shX12_readsSum_27
theorem dX12_readsSum_28 : decode cX12_readsSum 28 = .ok (.iload_n 2, 1) := oc_28 shX12_readsSum_28
theorem dX12_readsSum_29 : decode cX12_readsSum 29 = .ok (.iconst 4, 1) := oc_7 shX12_readsSum_29
theorem dX12_readsSum_30 : decode cX12_readsSum 30 = .ok (.if_icmp .ge 7, 3) := oc_162 shX12_readsSum_30 sgw_0_7
theorem dX12_readsSum_33 : decode cX12_readsSum 33 = .ok (.iconst 1, 1) := oc_4 shX12_readsSum_33
theorem dX12_readsSum_34 : decode cX12_readsSum 34 = .ok (.goto 4, 3) := oc_167 shX12_readsSum_34 sgw_0_4
theorem dX12_readsSum_37 : decode cX12_readsSum 37 = .ok (.iconst 0, 1) := oc_3 shX12_readsSum_37
theorem dX12_readsSum_38 : decode cX12_readsSum 38 = .ok (.invokevirtual 290, 3) := oc_182 shX12_readsSum_38
theorem dX12_readsSum_41 : decode cX12_readsSum 41 = .ok (.aload_n 0, 1) := oc_42 shX12_readsSum_41
theorem dX12_readsSum_42 : decode cX12_readsSum 42 = .ok (.getfield 59, 3) := oc_180 shX12_readsSum_42
theorem dX12_readsSum_45 : decode cX12_readsSum 45 = .ok (.aload_n 0, 1) := oc_42 shX12_readsSum_45
theorem dX12_readsSum_46 : decode cX12_readsSum 46 = .ok (.getfield 264, 3) := oc_180 shX12_readsSum_46
theorem dX12_readsSum_49 : decode cX12_readsSum 49 = .ok (.ldc_w 260, 3) := oc_19 shX12_readsSum_49
theorem dX12_readsSum_52 : decode cX12_readsSum 52 = .ok (.iload_n 2, 1) := oc_28 shX12_readsSum_52
theorem dX12_readsSum_53 : decode cX12_readsSum 53 = .ok (.imul, 1) := oc_104 shX12_readsSum_53
theorem dX12_readsSum_54 : decode cX12_readsSum 54 = .ok (.iastore, 1) := oc_79 shX12_readsSum_54
theorem dX12_readsSum_55 : decode cX12_readsSum 55 = .ok (.aload_n 0, 1) := oc_42 shX12_readsSum_55
theorem dX12_readsSum_56 : decode cX12_readsSum 56 = .ok (.aload_n 0, 1) := oc_42 shX12_readsSum_56
theorem dX12_readsSum_57 : decode cX12_readsSum 57 = .ok (.getfield 264, 3) := oc_180 shX12_readsSum_57
theorem dX12_readsSum_60 : decode cX12_readsSum 60 = .ok (.iconst 1, 1) := oc_4 shX12_readsSum_60
theorem dX12_readsSum_61 : decode cX12_readsSum 61 = .ok (.iadd, 1) := oc_96 shX12_readsSum_61
theorem dX12_readsSum_62 : decode cX12_readsSum 62 = .ok (.putfield 264, 3) := oc_181 shX12_readsSum_62
theorem dX12_readsSum_65 : decode cX12_readsSum 65 = .ok (.aload_n 0, 1) := oc_42 shX12_readsSum_65
theorem dX12_readsSum_66 : decode cX12_readsSum 66 = .ok (.aload_n 0, 1) := oc_42 shX12_readsSum_66
theorem dX12_readsSum_67 : decode cX12_readsSum 67 = .ok (.getfield 233, 3) := oc_180 shX12_readsSum_67
theorem dX12_readsSum_70 : decode cX12_readsSum 70 = .ok (.iconst 1, 1) := oc_4 shX12_readsSum_70
theorem dX12_readsSum_71 : decode cX12_readsSum 71 = .ok (.iadd, 1) := oc_96 shX12_readsSum_71
theorem dX12_readsSum_72 : decode cX12_readsSum 72 = .ok (.putfield 233, 3) := oc_181 shX12_readsSum_72
theorem dX12_readsSum_75 : decode cX12_readsSum 75 = .ok (.aload_n 0, 1) := oc_42 shX12_readsSum_75
theorem dX12_readsSum_76 : decode cX12_readsSum 76 = .ok (.invokevirtual 284, 3) := oc_182 shX12_readsSum_76
theorem dX12_readsSum_79 : decode cX12_readsSum 79 = .ok (.ifCond .ne 85, 3) := oc_154 shX12_readsSum_79 sgw_0_85
theorem dX12_readsSum_82 : decode cX12_readsSum 82 = .ok (.iconst 0, 1) := oc_3 shX12_readsSum_82
theorem dX12_readsSum_83 : decode cX12_readsSum 83 = .ok (.ireturn, 1) := oc_172 shX12_readsSum_83
theorem dX12_readsSum_84 : decode cX12_readsSum 84 = .ok (.aload_n 0, 1) := oc_42 shX12_readsSum_84
theorem dX12_readsSum_85 : decode cX12_readsSum 85 = .ok (.invokevirtual 239, 3) := oc_182 shX12_readsSum_85
theorem dX12_readsSum_88 : decode cX12_readsSum 88 = .ok (.bipush 93, 2) := oc_16 shX12_readsSum_88 sgb_93
theorem dX12_readsSum_90 : decode cX12_readsSum 90 = .ok (.if_icmp .ne 49, 3) := oc_160 shX12_readsSum_90 sgw_0_49
theorem dX12_readsSum_93 : decode cX12_readsSum 93 = .ok (.aload_n 0, 1) := oc_42 shX12_readsSum_93
theorem dX12_readsSum_94 : decode cX12_readsSum 94 = .ok (.iload_n 1, 1) := oc_27 shX12_readsSum_94
theorem dX12_readsSum_95 : decode cX12_readsSum 95 = .ok (.invokevirtual 294, 3) := oc_182 shX12_readsSum_95
theorem dX12_readsSum_98 : decode cX12_readsSum 98 = .ok (.ifCond .eq 41, 3) := oc_153 shX12_readsSum_98 sgw_0_41
theorem dX12_readsSum_101 : decode cX12_readsSum 101 = .ok (.aload_n 0, 1) := oc_42 shX12_readsSum_101
theorem dX12_readsSum_102 : decode cX12_readsSum 102 = .ok (.iconst 1, 1) := oc_4 shX12_readsSum_102
theorem dX12_readsSum_103 : decode cX12_readsSum 103 = .ok (.invokevirtual 290, 3) := oc_182 shX12_readsSum_103
theorem dX12_readsSum_106 : decode cX12_readsSum 106 = .ok (.aload_n 0, 1) := oc_42 shX12_readsSum_106
theorem dX12_readsSum_107 : decode cX12_readsSum 107 = .ok (.aload_n 0, 1) := oc_42 shX12_readsSum_107
theorem dX12_readsSum_108 : decode cX12_readsSum 108 = .ok (.getfield 264, 3) := oc_180 shX12_readsSum_108
theorem dX12_readsSum_111 : decode cX12_readsSum 111 = .ok (.iconst 1, 1) := oc_4 shX12_readsSum_111
theorem dX12_readsSum_112 : decode cX12_readsSum 112 = .ok (.isub, 1) := oc_100 shX12_readsSum_112
theorem dX12_readsSum_113 : decode cX12_readsSum 113 = .ok (.putfield 264, 3) := oc_181 shX12_readsSum_113
theorem dX12_readsSum_116 : decode cX12_readsSum 116 = .ok (.aload_n 0, 1) := oc_42 shX12_readsSum_116
theorem dX12_readsSum_117 : decode cX12_readsSum 117 = .ok (.aload_n 0, 1) := oc_42 shX12_readsSum_117
theorem dX12_readsSum_118 : decode cX12_readsSum 118 = .ok (.getfield 261, 3) := oc_180 shX12_readsSum_118
theorem dX12_readsSum_121 : decode cX12_readsSum 121 = .ok (.iconst 1, 1) := oc_4 shX12_readsSum_121
theorem dX12_readsSum_122 : decode cX12_readsSum 122 = .ok (.isub, 1) := oc_100 shX12_readsSum_122
theorem dX12_readsSum_123 : decode cX12_readsSum 123 = .ok (.putfield 261, 3) := oc_181 shX12_readsSum_123
theorem dX12_readsSum_126 : decode cX12_readsSum 126 = .ok (.aload_n 0, 1) := oc_42 shX12_readsSum_126
theorem dX12_readsSum_127 : decode cX12_readsSum 127 = .ok (.aload_n 0, 1) := oc_42 shX12_readsSum_127
theorem dX12_readsSum_128 : decode cX12_readsSum 128 = .ok (.getfield 233, 3) := oc_180 shX12_readsSum_128
theorem dX12_readsSum_131 : decode cX12_readsSum 131 = .ok (.iconst 1, 1) := oc_4 shX12_readsSum_131
theorem dX12_readsSum_132 : decode cX12_readsSum 132 = .ok (.iadd, 1) := oc_96 shX12_readsSum_132
theorem dX12_readsSum_133 : decode cX12_readsSum 133 = .ok (.putfield 233, 3) := oc_181 shX12_readsSum_133
theorem dX12_readsSum_136 : decode cX12_readsSum 136 = .ok (.goto 28, 3) := oc_167 shX12_readsSum_136 sgw_0_28
theorem dX12_readsSum_139 : decode cX12_readsSum 139 = .ok (.aload_n 0, 1) := oc_42 shX12_readsSum_139
theorem dX12_readsSum_140 : decode cX12_readsSum 140 = .ok (.iload_n 1, 1) := oc_27 shX12_readsSum_140
theorem dX12_readsSum_141 : decode cX12_readsSum 141 = .ok (.invokevirtual 294, 3) := oc_182 shX12_readsSum_141
theorem dX12_readsSum_144 : decode cX12_readsSum 144 = .ok (.ifCond .eq 13, 3) := oc_153 shX12_readsSum_144 sgw_0_13
theorem dX12_readsSum_147 : decode cX12_readsSum 147 = .ok (.aload_n 0, 1) := oc_42 shX12_readsSum_147
theorem dX12_readsSum_148 : decode cX12_readsSum 148 = .ok (.iconst 1, 1) := oc_4 shX12_readsSum_148
theorem dX12_readsSum_149 : decode cX12_readsSum 149 = .ok (.aload_n 0, 1) := oc_42 shX12_readsSum_149
theorem dX12_readsSum_150 : decode cX12_readsSum 150 = .ok (.getfield 233, 3) := oc_180 shX12_readsSum_150
theorem dX12_readsSum_153 : decode cX12_readsSum 153 = .ok (.invokevirtual 246, 3) := oc_182 shX12_readsSum_153
theorem dX12_readsSum_156 : decode cX12_readsSum 156 = .ok (.ireturn, 1) := oc_172 shX12_readsSum_156
theorem dX12_readsSum_157 : decode cX12_readsSum 157 = .ok (.aload_n 0, 1) := oc_42 shX12_readsSum_157
theorem dX12_readsSum_158 : decode cX12_readsSum 158 = .ok (.iconst 1, 1) := oc_4 shX12_readsSum_158
theorem dX12_readsSum_159 : decode cX12_readsSum 159 = .ok (.invokevirtual 290, 3) := oc_182 shX12_readsSum_159
theorem dX12_readsSum_162 : decode cX12_readsSum 162 = .ok (.iconst 1, 1) := oc_4 shX12_readsSum_162
theorem dX12_readsSum_163 : decode cX12_readsSum 163 = .ok (.ireturn, 1) := oc_172 shX12_readsSum_163
theorem dX12_readsSum_164 : decode cX12_readsSum 164 = .ok (.goto (-150), 3) := oc_167 shX12_readsSum_164 sgw_255_106
noncomputable def sxX12_endsPiece_40 : List UInt8 := []
noncomputable def sxX12_endsPiece_39 : List UInt8 := 177 :: sxX12_endsPiece_40
noncomputable def sxX12_endsPiece_36 : List UInt8 := 167 :: 255 :: 220 :: sxX12_endsPiece_39
noncomputable def sxX12_endsPiece_33 : List UInt8 := 181 :: 1 :: 5 :: sxX12_endsPiece_36
noncomputable def sxX12_endsPiece_32 : List UInt8 := 100 :: sxX12_endsPiece_33
noncomputable def sxX12_endsPiece_31 : List UInt8 := 4 :: sxX12_endsPiece_32
noncomputable def sxX12_endsPiece_28 : List UInt8 := 180 :: 1 :: 5 :: sxX12_endsPiece_31
noncomputable def sxX12_endsPiece_27 : List UInt8 := 42 :: sxX12_endsPiece_28
noncomputable def sxX12_endsPiece_26 : List UInt8 := 42 :: sxX12_endsPiece_27
noncomputable def sxX12_endsPiece_23 : List UInt8 := 181 :: 1 :: 8 :: sxX12_endsPiece_26
noncomputable def sxX12_endsPiece_22 : List UInt8 := 100 :: sxX12_endsPiece_23
noncomputable def sxX12_endsPiece_21 : List UInt8 := 4 :: sxX12_endsPiece_22
noncomputable def sxX12_endsPiece_18 : List UInt8 := 180 :: 1 :: 8 :: sxX12_endsPiece_21
noncomputable def sxX12_endsPiece_17 : List UInt8 := 42 :: sxX12_endsPiece_18
noncomputable def sxX12_endsPiece_16 : List UInt8 := 42 :: sxX12_endsPiece_17
noncomputable def sxX12_endsPiece_13 : List UInt8 := 182 :: 1 :: 14 :: sxX12_endsPiece_16
noncomputable def sxX12_endsPiece_12 : List UInt8 := 3 :: sxX12_endsPiece_13
noncomputable def sxX12_endsPiece_10 : List UInt8 := 16 :: 10 :: sxX12_endsPiece_12
noncomputable def sxX12_endsPiece_9 : List UInt8 := 42 :: sxX12_endsPiece_10
noncomputable def sxX12_endsPiece_6 : List UInt8 := 160 :: 0 :: 33 :: sxX12_endsPiece_9
noncomputable def sxX12_endsPiece_4 : List UInt8 := 16 :: 10 :: sxX12_endsPiece_6
noncomputable def sxX12_endsPiece_1 : List UInt8 := 182 :: 1 :: 11 :: sxX12_endsPiece_4
noncomputable def sxX12_endsPiece_0 : List UInt8 := 42 :: sxX12_endsPiece_1
theorem shX12_endsPiece_0 : cX12_endsPiece.data.toList.drop 0 = sxX12_endsPiece_0 := rfl
theorem shX12_endsPiece_1 : cX12_endsPiece.data.toList.drop 1 = sxX12_endsPiece_1 := dSn 1 shX12_endsPiece_0
theorem shX12_endsPiece_4 : cX12_endsPiece.data.toList.drop 4 = sxX12_endsPiece_4 := dSn 3 shX12_endsPiece_1
theorem shX12_endsPiece_6 : cX12_endsPiece.data.toList.drop 6 = sxX12_endsPiece_6 := dSn 2 shX12_endsPiece_4
theorem shX12_endsPiece_9 : cX12_endsPiece.data.toList.drop 9 = sxX12_endsPiece_9 := dSn 3 shX12_endsPiece_6
theorem shX12_endsPiece_10 : cX12_endsPiece.data.toList.drop 10 = sxX12_endsPiece_10 := dSn 1 shX12_endsPiece_9
theorem shX12_endsPiece_12 : cX12_endsPiece.data.toList.drop 12 = sxX12_endsPiece_12 := dSn 2 shX12_endsPiece_10
theorem shX12_endsPiece_13 : cX12_endsPiece.data.toList.drop 13 = sxX12_endsPiece_13 := dSn 1 shX12_endsPiece_12
theorem shX12_endsPiece_16 : cX12_endsPiece.data.toList.drop 16 = sxX12_endsPiece_16 := dSn 3 shX12_endsPiece_13
theorem shX12_endsPiece_17 : cX12_endsPiece.data.toList.drop 17 = sxX12_endsPiece_17 := dSn 1 shX12_endsPiece_16
theorem shX12_endsPiece_18 : cX12_endsPiece.data.toList.drop 18 = sxX12_endsPiece_18 := dSn 1 shX12_endsPiece_17
theorem shX12_endsPiece_21 : cX12_endsPiece.data.toList.drop 21 = sxX12_endsPiece_21 := dSn 3 shX12_endsPiece_18
theorem shX12_endsPiece_22 : cX12_endsPiece.data.toList.drop 22 = sxX12_endsPiece_22 := dSn 1 shX12_endsPiece_21
theorem shX12_endsPiece_23 : cX12_endsPiece.data.toList.drop 23 = sxX12_endsPiece_23 := dSn 1 shX12_endsPiece_22
theorem shX12_endsPiece_26 : cX12_endsPiece.data.toList.drop 26 = sxX12_endsPiece_26 := dSn 3 shX12_endsPiece_23
theorem shX12_endsPiece_27 : cX12_endsPiece.data.toList.drop 27 = sxX12_endsPiece_27 := dSn 1 shX12_endsPiece_26
theorem shX12_endsPiece_28 : cX12_endsPiece.data.toList.drop 28 = sxX12_endsPiece_28 := dSn 1 shX12_endsPiece_27
theorem shX12_endsPiece_31 : cX12_endsPiece.data.toList.drop 31 = sxX12_endsPiece_31 := dSn 3 shX12_endsPiece_28
theorem shX12_endsPiece_32 : cX12_endsPiece.data.toList.drop 32 = sxX12_endsPiece_32 := dSn 1 shX12_endsPiece_31
theorem shX12_endsPiece_33 : cX12_endsPiece.data.toList.drop 33 = sxX12_endsPiece_33 := dSn 1 shX12_endsPiece_32
theorem shX12_endsPiece_36 : cX12_endsPiece.data.toList.drop 36 = sxX12_endsPiece_36 := dSn 3 shX12_endsPiece_33
theorem shX12_endsPiece_39 : cX12_endsPiece.data.toList.drop 39 = sxX12_endsPiece_39 := dSn 3 shX12_endsPiece_36
theorem dX12_endsPiece_0 : decode cX12_endsPiece 0 = .ok (.aload_n 0, 1) := oc_42 shX12_endsPiece_0
theorem dX12_endsPiece_1 : decode cX12_endsPiece 1 = .ok (.invokevirtual 267, 3) := oc_182 shX12_endsPiece_1
theorem dX12_endsPiece_4 : decode cX12_endsPiece 4 = .ok (.bipush 10, 2) := oc_16 shX12_endsPiece_4 sgb_10
theorem dX12_endsPiece_6 : decode cX12_endsPiece 6 = .ok (.if_icmp .ne 33, 3) := oc_160 shX12_endsPiece_6 sgw_0_33
theorem dX12_endsPiece_9 : decode cX12_endsPiece 9 = .ok (.aload_n 0, 1) := oc_42 shX12_endsPiece_9
theorem dX12_endsPiece_10 : decode cX12_endsPiece 10 = .ok (.bipush 10, 2) := oc_16 shX12_endsPiece_10 sgb_10
theorem dX12_endsPiece_12 : decode cX12_endsPiece 12 = .ok (.iconst 0, 1) := oc_3 shX12_endsPiece_12
theorem dX12_endsPiece_13 : decode cX12_endsPiece 13 = .ok (.invokevirtual 270, 3) := oc_182 shX12_endsPiece_13
theorem dX12_endsPiece_16 : decode cX12_endsPiece 16 = .ok (.aload_n 0, 1) := oc_42 shX12_endsPiece_16
theorem dX12_endsPiece_17 : decode cX12_endsPiece 17 = .ok (.aload_n 0, 1) := oc_42 shX12_endsPiece_17
theorem dX12_endsPiece_18 : decode cX12_endsPiece 18 = .ok (.getfield 264, 3) := oc_180 shX12_endsPiece_18
theorem dX12_endsPiece_21 : decode cX12_endsPiece 21 = .ok (.iconst 1, 1) := oc_4 shX12_endsPiece_21
theorem dX12_endsPiece_22 : decode cX12_endsPiece 22 = .ok (.isub, 1) := oc_100 shX12_endsPiece_22
theorem dX12_endsPiece_23 : decode cX12_endsPiece 23 = .ok (.putfield 264, 3) := oc_181 shX12_endsPiece_23
theorem dX12_endsPiece_26 : decode cX12_endsPiece 26 = .ok (.aload_n 0, 1) := oc_42 shX12_endsPiece_26
theorem dX12_endsPiece_27 : decode cX12_endsPiece 27 = .ok (.aload_n 0, 1) := oc_42 shX12_endsPiece_27
theorem dX12_endsPiece_28 : decode cX12_endsPiece 28 = .ok (.getfield 261, 3) := oc_180 shX12_endsPiece_28
theorem dX12_endsPiece_31 : decode cX12_endsPiece 31 = .ok (.iconst 1, 1) := oc_4 shX12_endsPiece_31
theorem dX12_endsPiece_32 : decode cX12_endsPiece 32 = .ok (.isub, 1) := oc_100 shX12_endsPiece_32
theorem dX12_endsPiece_33 : decode cX12_endsPiece 33 = .ok (.putfield 261, 3) := oc_181 shX12_endsPiece_33
theorem dX12_endsPiece_36 : decode cX12_endsPiece 36 = .ok (.goto (-36), 3) := oc_167 shX12_endsPiece_36 sgw_255_220
theorem dX12_endsPiece_39 : decode cX12_endsPiece 39 = .ok (.return_, 1) := oc_177 shX12_endsPiece_39
noncomputable def sxX12_lands_77 : List UInt8 := []
noncomputable def sxX12_lands_76 : List UInt8 := 177 :: sxX12_lands_77
noncomputable def sxX12_lands_73 : List UInt8 := 167 :: 255 :: 183 :: sxX12_lands_76
noncomputable def sxX12_lands_70 : List UInt8 := 181 :: 1 :: 8 :: sxX12_lands_73
noncomputable def sxX12_lands_69 : List UInt8 := 100 :: sxX12_lands_70
noncomputable def sxX12_lands_68 : List UInt8 := 4 :: sxX12_lands_69
noncomputable def sxX12_lands_65 : List UInt8 := 180 :: 1 :: 8 :: sxX12_lands_68
noncomputable def sxX12_lands_64 : List UInt8 := 42 :: sxX12_lands_65
noncomputable def sxX12_lands_63 : List UInt8 := 42 :: sxX12_lands_64
noncomputable def sxX12_lands_62 : List UInt8 := 79 :: sxX12_lands_63
noncomputable def sxX12_lands_61 : List UInt8 := 96 :: sxX12_lands_62
noncomputable def sxX12_lands_58 : List UInt8 := 180 :: 1 :: 1 :: sxX12_lands_61
noncomputable def sxX12_lands_57 : List UInt8 := 42 :: sxX12_lands_58
noncomputable def sxX12_lands_56 : List UInt8 := 104 :: sxX12_lands_57
noncomputable def sxX12_lands_55 : List UInt8 := 108 :: sxX12_lands_56
noncomputable def sxX12_lands_52 : List UInt8 := 19 :: 1 :: 4 :: sxX12_lands_55
noncomputable def sxX12_lands_51 : List UInt8 := 46 :: sxX12_lands_52
noncomputable def sxX12_lands_50 : List UInt8 := 28 :: sxX12_lands_51
noncomputable def sxX12_lands_47 : List UInt8 := 180 :: 0 :: 56 :: sxX12_lands_50
noncomputable def sxX12_lands_46 : List UInt8 := 42 :: sxX12_lands_47
noncomputable def sxX12_lands_43 : List UInt8 := 19 :: 1 :: 4 :: sxX12_lands_46
noncomputable def sxX12_lands_42 : List UInt8 := 28 :: sxX12_lands_43
noncomputable def sxX12_lands_39 : List UInt8 := 180 :: 0 :: 56 :: sxX12_lands_42
noncomputable def sxX12_lands_38 : List UInt8 := 42 :: sxX12_lands_39
noncomputable def sxX12_lands_37 : List UInt8 := 61 :: sxX12_lands_38
noncomputable def sxX12_lands_36 : List UInt8 := 112 :: sxX12_lands_37
noncomputable def sxX12_lands_33 : List UInt8 := 19 :: 1 :: 4 :: sxX12_lands_36
noncomputable def sxX12_lands_32 : List UInt8 := 46 :: sxX12_lands_33
noncomputable def sxX12_lands_31 : List UInt8 := 100 :: sxX12_lands_32
noncomputable def sxX12_lands_30 : List UInt8 := 4 :: sxX12_lands_31
noncomputable def sxX12_lands_27 : List UInt8 := 180 :: 1 :: 8 :: sxX12_lands_30
noncomputable def sxX12_lands_26 : List UInt8 := 42 :: sxX12_lands_27
noncomputable def sxX12_lands_23 : List UInt8 := 180 :: 0 :: 59 :: sxX12_lands_26
noncomputable def sxX12_lands_22 : List UInt8 := 42 :: sxX12_lands_23
noncomputable def sxX12_lands_19 : List UInt8 := 160 :: 0 :: 57 :: sxX12_lands_22
noncomputable def sxX12_lands_17 : List UInt8 := 16 :: 12 :: sxX12_lands_19
noncomputable def sxX12_lands_14 : List UInt8 := 182 :: 1 :: 11 :: sxX12_lands_17
noncomputable def sxX12_lands_13 : List UInt8 := 42 :: sxX12_lands_14
noncomputable def sxX12_lands_10 : List UInt8 := 153 :: 0 :: 66 :: sxX12_lands_13
noncomputable def sxX12_lands_9 : List UInt8 := 27 :: sxX12_lands_10
noncomputable def sxX12_lands_6 : List UInt8 := 159 :: 0 :: 16 :: sxX12_lands_9
noncomputable def sxX12_lands_4 : List UInt8 := 16 :: 11 :: sxX12_lands_6
noncomputable def sxX12_lands_1 : List UInt8 := 182 :: 1 :: 11 :: sxX12_lands_4
noncomputable def sxX12_lands_0 : List UInt8 := 42 :: sxX12_lands_1
theorem shX12_lands_0 : cX12_lands.data.toList.drop 0 = sxX12_lands_0 := rfl
theorem shX12_lands_1 : cX12_lands.data.toList.drop 1 = sxX12_lands_1 := dSn 1 shX12_lands_0
theorem shX12_lands_4 : cX12_lands.data.toList.drop 4 = sxX12_lands_4 := dSn 3 shX12_lands_1
theorem shX12_lands_6 : cX12_lands.data.toList.drop 6 = sxX12_lands_6 := dSn 2 shX12_lands_4
theorem shX12_lands_9 : cX12_lands.data.toList.drop 9 = sxX12_lands_9 := dSn 3 shX12_lands_6
theorem shX12_lands_10 : cX12_lands.data.toList.drop 10 = sxX12_lands_10 := dSn 1 shX12_lands_9
theorem shX12_lands_13 : cX12_lands.data.toList.drop 13 = sxX12_lands_13 := dSn 3 shX12_lands_10
theorem shX12_lands_14 : cX12_lands.data.toList.drop 14 = sxX12_lands_14 := dSn 1 shX12_lands_13
theorem shX12_lands_17 : cX12_lands.data.toList.drop 17 = sxX12_lands_17 := dSn 3 shX12_lands_14
theorem shX12_lands_19 : cX12_lands.data.toList.drop 19 = sxX12_lands_19 := dSn 2 shX12_lands_17
theorem shX12_lands_22 : cX12_lands.data.toList.drop 22 = sxX12_lands_22 := dSn 3 shX12_lands_19
theorem shX12_lands_23 : cX12_lands.data.toList.drop 23 = sxX12_lands_23 := dSn 1 shX12_lands_22
theorem shX12_lands_26 : cX12_lands.data.toList.drop 26 = sxX12_lands_26 := dSn 3 shX12_lands_23
theorem shX12_lands_27 : cX12_lands.data.toList.drop 27 = sxX12_lands_27 := dSn 1 shX12_lands_26
theorem shX12_lands_30 : cX12_lands.data.toList.drop 30 = sxX12_lands_30 := dSn 3 shX12_lands_27
theorem shX12_lands_31 : cX12_lands.data.toList.drop 31 = sxX12_lands_31 := dSn 1 shX12_lands_30
theorem shX12_lands_32 : cX12_lands.data.toList.drop 32 = sxX12_lands_32 := dSn 1 shX12_lands_31
theorem shX12_lands_33 : cX12_lands.data.toList.drop 33 = sxX12_lands_33 := dSn 1 shX12_lands_32
theorem shX12_lands_36 : cX12_lands.data.toList.drop 36 = sxX12_lands_36 := dSn 3 shX12_lands_33
theorem shX12_lands_37 : cX12_lands.data.toList.drop 37 = sxX12_lands_37 := dSn 1 shX12_lands_36
theorem shX12_lands_38 : cX12_lands.data.toList.drop 38 = sxX12_lands_38 := dSn 1 shX12_lands_37
theorem shX12_lands_39 : cX12_lands.data.toList.drop 39 = sxX12_lands_39 := dSn 1 shX12_lands_38
theorem shX12_lands_42 : cX12_lands.data.toList.drop 42 = sxX12_lands_42 := dSn 3 shX12_lands_39
theorem shX12_lands_43 : cX12_lands.data.toList.drop 43 = sxX12_lands_43 := dSn 1 shX12_lands_42
theorem shX12_lands_46 : cX12_lands.data.toList.drop 46 = sxX12_lands_46 := dSn 3 shX12_lands_43
theorem shX12_lands_47 : cX12_lands.data.toList.drop 47 = sxX12_lands_47 := dSn 1 shX12_lands_46
theorem shX12_lands_50 : cX12_lands.data.toList.drop 50 = sxX12_lands_50 := dSn 3 shX12_lands_47
theorem shX12_lands_51 : cX12_lands.data.toList.drop 51 = sxX12_lands_51 := dSn 1 shX12_lands_50
theorem shX12_lands_52 : cX12_lands.data.toList.drop 52 = sxX12_lands_52 := dSn 1 shX12_lands_51
theorem shX12_lands_55 : cX12_lands.data.toList.drop 55 = sxX12_lands_55 := dSn 3 shX12_lands_52
theorem shX12_lands_56 : cX12_lands.data.toList.drop 56 = sxX12_lands_56 := dSn 1 shX12_lands_55
theorem shX12_lands_57 : cX12_lands.data.toList.drop 57 = sxX12_lands_57 := dSn 1 shX12_lands_56
theorem shX12_lands_58 : cX12_lands.data.toList.drop 58 = sxX12_lands_58 := dSn 1 shX12_lands_57
theorem shX12_lands_61 : cX12_lands.data.toList.drop 61 = sxX12_lands_61 := dSn 3 shX12_lands_58
theorem shX12_lands_62 : cX12_lands.data.toList.drop 62 = sxX12_lands_62 := dSn 1 shX12_lands_61
theorem shX12_lands_63 : cX12_lands.data.toList.drop 63 = sxX12_lands_63 := dSn 1 shX12_lands_62
theorem shX12_lands_64 : cX12_lands.data.toList.drop 64 = sxX12_lands_64 := dSn 1 shX12_lands_63
theorem shX12_lands_65 : cX12_lands.data.toList.drop 65 = sxX12_lands_65 := dSn 1 shX12_lands_64
theorem shX12_lands_68 : cX12_lands.data.toList.drop 68 = sxX12_lands_68 := dSn 3 shX12_lands_65
theorem shX12_lands_69 : cX12_lands.data.toList.drop 69 = sxX12_lands_69 := dSn 1 shX12_lands_68
theorem shX12_lands_70 : cX12_lands.data.toList.drop 70 = sxX12_lands_70 := dSn 1 shX12_lands_69
theorem shX12_lands_73 : cX12_lands.data.toList.drop 73 = sxX12_lands_73 := dSn 3 shX12_lands_70
theorem shX12_lands_76 : cX12_lands.data.toList.drop 76 = sxX12_lands_76 := dSn 3 shX12_lands_73
theorem dX12_lands_0 : decode cX12_lands 0 = .ok (.aload_n 0, 1) := oc_42 shX12_lands_0
theorem dX12_lands_1 : decode cX12_lands 1 = .ok (.invokevirtual 267, 3) := oc_182 shX12_lands_1
theorem dX12_lands_4 : decode cX12_lands 4 = .ok (.bipush 11, 2) := oc_16 shX12_lands_4 sgb_11
theorem dX12_lands_6 : decode cX12_lands 6 = .ok (.if_icmp .eq 16, 3) := oc_159 shX12_lands_6 sgw_0_16
theorem dX12_lands_9 : decode cX12_lands 9 = .ok (.iload_n 1, 1) := oc_27 shX12_lands_9
theorem dX12_lands_10 : decode cX12_lands 10 = .ok (.ifCond .eq 66, 3) := oc_153 shX12_lands_10 sgw_0_66
theorem dX12_lands_13 : decode cX12_lands 13 = .ok (.aload_n 0, 1) := oc_42 shX12_lands_13
theorem dX12_lands_14 : decode cX12_lands 14 = .ok (.invokevirtual 267, 3) := oc_182 shX12_lands_14
theorem dX12_lands_17 : decode cX12_lands 17 = .ok (.bipush 12, 2) := oc_16 shX12_lands_17 sgb_12
theorem dX12_lands_19 : decode cX12_lands 19 = .ok (.if_icmp .ne 57, 3) := oc_160 shX12_lands_19 sgw_0_57
theorem dX12_lands_22 : decode cX12_lands 22 = .ok (.aload_n 0, 1) := oc_42 shX12_lands_22
theorem dX12_lands_23 : decode cX12_lands 23 = .ok (.getfield 59, 3) := oc_180 shX12_lands_23
theorem dX12_lands_26 : decode cX12_lands 26 = .ok (.aload_n 0, 1) := oc_42 shX12_lands_26
theorem dX12_lands_27 : decode cX12_lands 27 = .ok (.getfield 264, 3) := oc_180 shX12_lands_27
theorem dX12_lands_30 : decode cX12_lands 30 = .ok (.iconst 1, 1) := oc_4 shX12_lands_30
theorem dX12_lands_31 : decode cX12_lands 31 = .ok (.isub, 1) := oc_100 shX12_lands_31
theorem dX12_lands_32 : decode cX12_lands 32 = .ok (.iaload, 1) := oc_46 shX12_lands_32
theorem dX12_lands_33 : decode cX12_lands 33 = .ok (.ldc_w 260, 3) := oc_19 shX12_lands_33
theorem dX12_lands_36 : decode cX12_lands 36 = .ok (.irem, 1) := oc_112 shX12_lands_36
theorem dX12_lands_37 : decode cX12_lands 37 = .ok (.istore_n 2, 1) := oc_61 shX12_lands_37
theorem dX12_lands_38 : decode cX12_lands 38 = .ok (.aload_n 0, 1) := oc_42 shX12_lands_38
theorem dX12_lands_39 : decode cX12_lands 39 = .ok (.getfield 56, 3) := oc_180 shX12_lands_39
theorem dX12_lands_42 : decode cX12_lands 42 = .ok (.iload_n 2, 1) := oc_28 shX12_lands_42
theorem dX12_lands_43 : decode cX12_lands 43 = .ok (.ldc_w 260, 3) := oc_19 shX12_lands_43
theorem dX12_lands_46 : decode cX12_lands 46 = .ok (.aload_n 0, 1) := oc_42 shX12_lands_46
theorem dX12_lands_47 : decode cX12_lands 47 = .ok (.getfield 56, 3) := oc_180 shX12_lands_47
theorem dX12_lands_50 : decode cX12_lands 50 = .ok (.iload_n 2, 1) := oc_28 shX12_lands_50
theorem dX12_lands_51 : decode cX12_lands 51 = .ok (.iaload, 1) := oc_46 shX12_lands_51
theorem dX12_lands_52 : decode cX12_lands 52 = .ok (.ldc_w 260, 3) := oc_19 shX12_lands_52
theorem dX12_lands_55 : decode cX12_lands 55 = .ok (.idiv, 1) := oc_108 shX12_lands_55
theorem dX12_lands_56 : decode cX12_lands 56 = .ok (.imul, 1) := oc_104 shX12_lands_56
theorem dX12_lands_57 : decode cX12_lands 57 = .ok (.aload_n 0, 1) := oc_42 shX12_lands_57
theorem dX12_lands_58 : decode cX12_lands 58 = .ok (.getfield 257, 3) := oc_180 shX12_lands_58
theorem dX12_lands_61 : decode cX12_lands 61 = .ok (.iadd, 1) := oc_96 shX12_lands_61
theorem dX12_lands_62 : decode cX12_lands 62 = .ok (.iastore, 1) := oc_79 shX12_lands_62
theorem dX12_lands_63 : decode cX12_lands 63 = .ok (.aload_n 0, 1) := oc_42 shX12_lands_63
theorem dX12_lands_64 : decode cX12_lands 64 = .ok (.aload_n 0, 1) := oc_42 shX12_lands_64
theorem dX12_lands_65 : decode cX12_lands 65 = .ok (.getfield 264, 3) := oc_180 shX12_lands_65
theorem dX12_lands_68 : decode cX12_lands 68 = .ok (.iconst 1, 1) := oc_4 shX12_lands_68
theorem dX12_lands_69 : decode cX12_lands 69 = .ok (.isub, 1) := oc_100 shX12_lands_69
theorem dX12_lands_70 : decode cX12_lands 70 = .ok (.putfield 264, 3) := oc_181 shX12_lands_70
theorem dX12_lands_73 : decode cX12_lands 73 = .ok (.goto (-73), 3) := oc_167 shX12_lands_73 sgw_255_183
theorem dX12_lands_76 : decode cX12_lands 76 = .ok (.return_, 1) := oc_177 shX12_lands_76
noncomputable def sxX12_jumps_46 : List UInt8 := []
noncomputable def sxX12_jumps_45 : List UInt8 := 177 :: sxX12_jumps_46
noncomputable def sxX12_jumps_42 : List UInt8 := 181 :: 0 :: 233 :: sxX12_jumps_45
noncomputable def sxX12_jumps_41 : List UInt8 := 96 :: sxX12_jumps_42
noncomputable def sxX12_jumps_40 : List UInt8 := 4 :: sxX12_jumps_41
noncomputable def sxX12_jumps_37 : List UInt8 := 180 :: 0 :: 233 :: sxX12_jumps_40
noncomputable def sxX12_jumps_36 : List UInt8 := 42 :: sxX12_jumps_37
noncomputable def sxX12_jumps_35 : List UInt8 := 42 :: sxX12_jumps_36
noncomputable def sxX12_jumps_32 : List UInt8 := 182 :: 1 :: 14 :: sxX12_jumps_35
noncomputable def sxX12_jumps_31 : List UInt8 := 3 :: sxX12_jumps_32
noncomputable def sxX12_jumps_30 : List UInt8 := 27 :: sxX12_jumps_31
noncomputable def sxX12_jumps_29 : List UInt8 := 42 :: sxX12_jumps_30
noncomputable def sxX12_jumps_26 : List UInt8 := 181 :: 1 :: 8 :: sxX12_jumps_29
noncomputable def sxX12_jumps_25 : List UInt8 := 96 :: sxX12_jumps_26
noncomputable def sxX12_jumps_24 : List UInt8 := 4 :: sxX12_jumps_25
noncomputable def sxX12_jumps_21 : List UInt8 := 180 :: 1 :: 8 :: sxX12_jumps_24
noncomputable def sxX12_jumps_20 : List UInt8 := 42 :: sxX12_jumps_21
noncomputable def sxX12_jumps_19 : List UInt8 := 42 :: sxX12_jumps_20
noncomputable def sxX12_jumps_18 : List UInt8 := 79 :: sxX12_jumps_19
noncomputable def sxX12_jumps_17 : List UInt8 := 96 :: sxX12_jumps_18
noncomputable def sxX12_jumps_14 : List UInt8 := 180 :: 1 :: 1 :: sxX12_jumps_17
noncomputable def sxX12_jumps_13 : List UInt8 := 42 :: sxX12_jumps_14
noncomputable def sxX12_jumps_12 : List UInt8 := 104 :: sxX12_jumps_13
noncomputable def sxX12_jumps_11 : List UInt8 := 27 :: sxX12_jumps_12
noncomputable def sxX12_jumps_8 : List UInt8 := 19 :: 1 :: 4 :: sxX12_jumps_11
noncomputable def sxX12_jumps_5 : List UInt8 := 180 :: 1 :: 8 :: sxX12_jumps_8
noncomputable def sxX12_jumps_4 : List UInt8 := 42 :: sxX12_jumps_5
noncomputable def sxX12_jumps_1 : List UInt8 := 180 :: 0 :: 59 :: sxX12_jumps_4
noncomputable def sxX12_jumps_0 : List UInt8 := 42 :: sxX12_jumps_1
theorem shX12_jumps_0 : cX12_jumps.data.toList.drop 0 = sxX12_jumps_0 := rfl
theorem shX12_jumps_1 : cX12_jumps.data.toList.drop 1 = sxX12_jumps_1 := dSn 1 shX12_jumps_0
theorem shX12_jumps_4 : cX12_jumps.data.toList.drop 4 = sxX12_jumps_4 := dSn 3 shX12_jumps_1
theorem shX12_jumps_5 : cX12_jumps.data.toList.drop 5 = sxX12_jumps_5 := dSn 1 shX12_jumps_4
theorem shX12_jumps_8 : cX12_jumps.data.toList.drop 8 = sxX12_jumps_8 := dSn 3 shX12_jumps_5
theorem shX12_jumps_11 : cX12_jumps.data.toList.drop 11 = sxX12_jumps_11 := dSn 3 shX12_jumps_8
theorem shX12_jumps_12 : cX12_jumps.data.toList.drop 12 = sxX12_jumps_12 := dSn 1 shX12_jumps_11
theorem shX12_jumps_13 : cX12_jumps.data.toList.drop 13 = sxX12_jumps_13 := dSn 1 shX12_jumps_12
theorem shX12_jumps_14 : cX12_jumps.data.toList.drop 14 = sxX12_jumps_14 := dSn 1 shX12_jumps_13
theorem shX12_jumps_17 : cX12_jumps.data.toList.drop 17 = sxX12_jumps_17 := dSn 3 shX12_jumps_14
theorem shX12_jumps_18 : cX12_jumps.data.toList.drop 18 = sxX12_jumps_18 := dSn 1 shX12_jumps_17
theorem shX12_jumps_19 : cX12_jumps.data.toList.drop 19 = sxX12_jumps_19 := dSn 1 shX12_jumps_18
theorem shX12_jumps_20 : cX12_jumps.data.toList.drop 20 = sxX12_jumps_20 := dSn 1 shX12_jumps_19
theorem shX12_jumps_21 : cX12_jumps.data.toList.drop 21 = sxX12_jumps_21 := dSn 1 shX12_jumps_20
theorem shX12_jumps_24 : cX12_jumps.data.toList.drop 24 = sxX12_jumps_24 := dSn 3 shX12_jumps_21
theorem shX12_jumps_25 : cX12_jumps.data.toList.drop 25 = sxX12_jumps_25 := dSn 1 shX12_jumps_24
theorem shX12_jumps_26 : cX12_jumps.data.toList.drop 26 = sxX12_jumps_26 := dSn 1 shX12_jumps_25
theorem shX12_jumps_29 : cX12_jumps.data.toList.drop 29 = sxX12_jumps_29 := dSn 3 shX12_jumps_26
theorem shX12_jumps_30 : cX12_jumps.data.toList.drop 30 = sxX12_jumps_30 := dSn 1 shX12_jumps_29
theorem shX12_jumps_31 : cX12_jumps.data.toList.drop 31 = sxX12_jumps_31 := dSn 1 shX12_jumps_30
theorem shX12_jumps_32 : cX12_jumps.data.toList.drop 32 = sxX12_jumps_32 := dSn 1 shX12_jumps_31
theorem shX12_jumps_35 : cX12_jumps.data.toList.drop 35 = sxX12_jumps_35 := dSn 3 shX12_jumps_32
theorem shX12_jumps_36 : cX12_jumps.data.toList.drop 36 = sxX12_jumps_36 := dSn 1 shX12_jumps_35
theorem shX12_jumps_37 : cX12_jumps.data.toList.drop 37 = sxX12_jumps_37 := dSn 1 shX12_jumps_36
theorem shX12_jumps_40 : cX12_jumps.data.toList.drop 40 = sxX12_jumps_40 := dSn 3 shX12_jumps_37
theorem shX12_jumps_41 : cX12_jumps.data.toList.drop 41 = sxX12_jumps_41 := dSn 1 shX12_jumps_40
theorem shX12_jumps_42 : cX12_jumps.data.toList.drop 42 = sxX12_jumps_42 := dSn 1 shX12_jumps_41
theorem shX12_jumps_45 : cX12_jumps.data.toList.drop 45 = sxX12_jumps_45 := dSn 3 shX12_jumps_42
theorem dX12_jumps_0 : decode cX12_jumps 0 = .ok (.aload_n 0, 1) := oc_42 shX12_jumps_0
theorem dX12_jumps_1 : decode cX12_jumps 1 = .ok (.getfield 59, 3) := oc_180 shX12_jumps_1
theorem dX12_jumps_4 : decode cX12_jumps 4 = .ok (.aload_n 0, 1) := oc_42 shX12_jumps_4
theorem dX12_jumps_5 : decode cX12_jumps 5 = .ok (.getfield 264, 3) := oc_180 shX12_jumps_5
theorem dX12_jumps_8 : decode cX12_jumps 8 = .ok (.ldc_w 260, 3) := oc_19 shX12_jumps_8
theorem dX12_jumps_11 : decode cX12_jumps 11 = .ok (.iload_n 1, 1) := oc_27 shX12_jumps_11
theorem dX12_jumps_12 : decode cX12_jumps 12 = .ok (.imul, 1) := oc_104 shX12_jumps_12
theorem dX12_jumps_13 : decode cX12_jumps 13 = .ok (.aload_n 0, 1) := oc_42 shX12_jumps_13
theorem dX12_jumps_14 : decode cX12_jumps 14 = .ok (.getfield 257, 3) := oc_180 shX12_jumps_14
theorem dX12_jumps_17 : decode cX12_jumps 17 = .ok (.iadd, 1) := oc_96 shX12_jumps_17
theorem dX12_jumps_18 : decode cX12_jumps 18 = .ok (.iastore, 1) := oc_79 shX12_jumps_18
theorem dX12_jumps_19 : decode cX12_jumps 19 = .ok (.aload_n 0, 1) := oc_42 shX12_jumps_19
theorem dX12_jumps_20 : decode cX12_jumps 20 = .ok (.aload_n 0, 1) := oc_42 shX12_jumps_20
theorem dX12_jumps_21 : decode cX12_jumps 21 = .ok (.getfield 264, 3) := oc_180 shX12_jumps_21
theorem dX12_jumps_24 : decode cX12_jumps 24 = .ok (.iconst 1, 1) := oc_4 shX12_jumps_24
theorem dX12_jumps_25 : decode cX12_jumps 25 = .ok (.iadd, 1) := oc_96 shX12_jumps_25
theorem dX12_jumps_26 : decode cX12_jumps 26 = .ok (.putfield 264, 3) := oc_181 shX12_jumps_26
theorem dX12_jumps_29 : decode cX12_jumps 29 = .ok (.aload_n 0, 1) := oc_42 shX12_jumps_29
theorem dX12_jumps_30 : decode cX12_jumps 30 = .ok (.iload_n 1, 1) := oc_27 shX12_jumps_30
theorem dX12_jumps_31 : decode cX12_jumps 31 = .ok (.iconst 0, 1) := oc_3 shX12_jumps_31
theorem dX12_jumps_32 : decode cX12_jumps 32 = .ok (.invokevirtual 270, 3) := oc_182 shX12_jumps_32
theorem dX12_jumps_35 : decode cX12_jumps 35 = .ok (.aload_n 0, 1) := oc_42 shX12_jumps_35
theorem dX12_jumps_36 : decode cX12_jumps 36 = .ok (.aload_n 0, 1) := oc_42 shX12_jumps_36
theorem dX12_jumps_37 : decode cX12_jumps 37 = .ok (.getfield 233, 3) := oc_180 shX12_jumps_37
theorem dX12_jumps_40 : decode cX12_jumps 40 = .ok (.iconst 1, 1) := oc_4 shX12_jumps_40
theorem dX12_jumps_41 : decode cX12_jumps 41 = .ok (.iadd, 1) := oc_96 shX12_jumps_41
theorem dX12_jumps_42 : decode cX12_jumps 42 = .ok (.putfield 233, 3) := oc_181 shX12_jumps_42
theorem dX12_jumps_45 : decode cX12_jumps 45 = .ok (.return_, 1) := oc_177 shX12_jumps_45
noncomputable def sxX12_readsCompared_99 : List UInt8 := []
noncomputable def sxX12_readsCompared_98 : List UInt8 := 172 :: sxX12_readsCompared_99
noncomputable def sxX12_readsCompared_97 : List UInt8 := 4 :: sxX12_readsCompared_98
noncomputable def sxX12_readsCompared_94 : List UInt8 := 182 :: 1 :: 44 :: sxX12_readsCompared_97
noncomputable def sxX12_readsCompared_93 : List UInt8 := 42 :: sxX12_readsCompared_94
noncomputable def sxX12_readsCompared_90 : List UInt8 := 182 :: 1 :: 14 :: sxX12_readsCompared_93
noncomputable def sxX12_readsCompared_89 : List UInt8 := 3 :: sxX12_readsCompared_90
noncomputable def sxX12_readsCompared_88 : List UInt8 := 27 :: sxX12_readsCompared_89
noncomputable def sxX12_readsCompared_87 : List UInt8 := 42 :: sxX12_readsCompared_88
noncomputable def sxX12_readsCompared_86 : List UInt8 := 172 :: sxX12_readsCompared_87
noncomputable def sxX12_readsCompared_85 : List UInt8 := 3 :: sxX12_readsCompared_86
noncomputable def sxX12_readsCompared_82 : List UInt8 := 154 :: 0 :: 5 :: sxX12_readsCompared_85
noncomputable def sxX12_readsCompared_79 : List UInt8 := 182 :: 1 :: 41 :: sxX12_readsCompared_82
noncomputable def sxX12_readsCompared_78 : List UInt8 := 42 :: sxX12_readsCompared_79
noncomputable def sxX12_readsCompared_75 : List UInt8 := 181 :: 0 :: 233 :: sxX12_readsCompared_78
noncomputable def sxX12_readsCompared_74 : List UInt8 := 96 :: sxX12_readsCompared_75
noncomputable def sxX12_readsCompared_73 : List UInt8 := 4 :: sxX12_readsCompared_74
noncomputable def sxX12_readsCompared_70 : List UInt8 := 180 :: 0 :: 233 :: sxX12_readsCompared_73
noncomputable def sxX12_readsCompared_69 : List UInt8 := 42 :: sxX12_readsCompared_70
noncomputable def sxX12_readsCompared_68 : List UInt8 := 42 :: sxX12_readsCompared_69
noncomputable def sxX12_readsCompared_67 : List UInt8 := 172 :: sxX12_readsCompared_68
noncomputable def sxX12_readsCompared_64 : List UInt8 := 182 :: 0 :: 246 :: sxX12_readsCompared_67
noncomputable def sxX12_readsCompared_61 : List UInt8 := 180 :: 0 :: 233 :: sxX12_readsCompared_64
noncomputable def sxX12_readsCompared_60 : List UInt8 := 42 :: sxX12_readsCompared_61
noncomputable def sxX12_readsCompared_59 : List UInt8 := 4 :: sxX12_readsCompared_60
noncomputable def sxX12_readsCompared_58 : List UInt8 := 42 :: sxX12_readsCompared_59
noncomputable def sxX12_readsCompared_55 : List UInt8 := 160 :: 0 :: 13 :: sxX12_readsCompared_58
noncomputable def sxX12_readsCompared_54 : List UInt8 := 2 :: sxX12_readsCompared_55
noncomputable def sxX12_readsCompared_53 : List UInt8 := 27 :: sxX12_readsCompared_54
noncomputable def sxX12_readsCompared_52 : List UInt8 := 60 :: sxX12_readsCompared_53
noncomputable def sxX12_readsCompared_51 : List UInt8 := 2 :: sxX12_readsCompared_52
noncomputable def sxX12_readsCompared_48 : List UInt8 := 167 :: 0 :: 4 :: sxX12_readsCompared_51
noncomputable def sxX12_readsCompared_46 : List UInt8 := 16 :: 9 :: sxX12_readsCompared_48
noncomputable def sxX12_readsCompared_43 : List UInt8 := 160 :: 0 :: 8 :: sxX12_readsCompared_46
noncomputable def sxX12_readsCompared_41 : List UInt8 := 16 :: 61 :: sxX12_readsCompared_43
noncomputable def sxX12_readsCompared_38 : List UInt8 := 182 :: 0 :: 239 :: sxX12_readsCompared_41
noncomputable def sxX12_readsCompared_37 : List UInt8 := 42 :: sxX12_readsCompared_38
noncomputable def sxX12_readsCompared_34 : List UInt8 := 167 :: 0 :: 18 :: sxX12_readsCompared_37
noncomputable def sxX12_readsCompared_32 : List UInt8 := 16 :: 8 :: sxX12_readsCompared_34
noncomputable def sxX12_readsCompared_29 : List UInt8 := 160 :: 0 :: 8 :: sxX12_readsCompared_32
noncomputable def sxX12_readsCompared_27 : List UInt8 := 16 :: 62 :: sxX12_readsCompared_29
noncomputable def sxX12_readsCompared_24 : List UInt8 := 182 :: 0 :: 239 :: sxX12_readsCompared_27
noncomputable def sxX12_readsCompared_23 : List UInt8 := 42 :: sxX12_readsCompared_24
noncomputable def sxX12_readsCompared_20 : List UInt8 := 167 :: 0 :: 32 :: sxX12_readsCompared_23
noncomputable def sxX12_readsCompared_18 : List UInt8 := 16 :: 7 :: sxX12_readsCompared_20
noncomputable def sxX12_readsCompared_15 : List UInt8 := 160 :: 0 :: 8 :: sxX12_readsCompared_18
noncomputable def sxX12_readsCompared_13 : List UInt8 := 16 :: 60 :: sxX12_readsCompared_15
noncomputable def sxX12_readsCompared_10 : List UInt8 := 182 :: 0 :: 239 :: sxX12_readsCompared_13
noncomputable def sxX12_readsCompared_9 : List UInt8 := 42 :: sxX12_readsCompared_10
noncomputable def sxX12_readsCompared_8 : List UInt8 := 172 :: sxX12_readsCompared_9
noncomputable def sxX12_readsCompared_7 : List UInt8 := 3 :: sxX12_readsCompared_8
noncomputable def sxX12_readsCompared_4 : List UInt8 := 154 :: 0 :: 5 :: sxX12_readsCompared_7
noncomputable def sxX12_readsCompared_1 : List UInt8 := 182 :: 1 :: 41 :: sxX12_readsCompared_4
noncomputable def sxX12_readsCompared_0 : List UInt8 := 42 :: sxX12_readsCompared_1
theorem shX12_readsCompared_0 : cX12_readsCompared.data.toList.drop 0 = sxX12_readsCompared_0 := rfl
theorem shX12_readsCompared_1 : cX12_readsCompared.data.toList.drop 1 = sxX12_readsCompared_1 := dSn 1 shX12_readsCompared_0
theorem shX12_readsCompared_4 : cX12_readsCompared.data.toList.drop 4 = sxX12_readsCompared_4 := dSn 3 shX12_readsCompared_1
theorem shX12_readsCompared_7 : cX12_readsCompared.data.toList.drop 7 = sxX12_readsCompared_7 := dSn 3 shX12_readsCompared_4
theorem shX12_readsCompared_8 : cX12_readsCompared.data.toList.drop 8 = sxX12_readsCompared_8 := dSn 1 shX12_readsCompared_7
theorem shX12_readsCompared_9 : cX12_readsCompared.data.toList.drop 9 = sxX12_readsCompared_9 := dSn 1 shX12_readsCompared_8
theorem shX12_readsCompared_10 : cX12_readsCompared.data.toList.drop 10 = sxX12_readsCompared_10 := dSn 1 shX12_readsCompared_9
theorem shX12_readsCompared_13 : cX12_readsCompared.data.toList.drop 13 = sxX12_readsCompared_13 := dSn 3 shX12_readsCompared_10
theorem shX12_readsCompared_15 : cX12_readsCompared.data.toList.drop 15 = sxX12_readsCompared_15 := dSn 2 shX12_readsCompared_13
theorem shX12_readsCompared_18 : cX12_readsCompared.data.toList.drop 18 = sxX12_readsCompared_18 := dSn 3 shX12_readsCompared_15
theorem shX12_readsCompared_20 : cX12_readsCompared.data.toList.drop 20 = sxX12_readsCompared_20 := dSn 2 shX12_readsCompared_18
theorem shX12_readsCompared_23 : cX12_readsCompared.data.toList.drop 23 = sxX12_readsCompared_23 := dSn 3 shX12_readsCompared_20
theorem shX12_readsCompared_24 : cX12_readsCompared.data.toList.drop 24 = sxX12_readsCompared_24 := dSn 1 shX12_readsCompared_23
theorem shX12_readsCompared_27 : cX12_readsCompared.data.toList.drop 27 = sxX12_readsCompared_27 := dSn 3 shX12_readsCompared_24
theorem shX12_readsCompared_29 : cX12_readsCompared.data.toList.drop 29 = sxX12_readsCompared_29 := dSn 2 shX12_readsCompared_27
theorem shX12_readsCompared_32 : cX12_readsCompared.data.toList.drop 32 = sxX12_readsCompared_32 := dSn 3 shX12_readsCompared_29
theorem shX12_readsCompared_34 : cX12_readsCompared.data.toList.drop 34 = sxX12_readsCompared_34 := dSn 2 shX12_readsCompared_32
theorem shX12_readsCompared_37 : cX12_readsCompared.data.toList.drop 37 = sxX12_readsCompared_37 := dSn 3 shX12_readsCompared_34
theorem shX12_readsCompared_38 : cX12_readsCompared.data.toList.drop 38 = sxX12_readsCompared_38 := dSn 1 shX12_readsCompared_37
theorem shX12_readsCompared_41 : cX12_readsCompared.data.toList.drop 41 = sxX12_readsCompared_41 := dSn 3 shX12_readsCompared_38
theorem shX12_readsCompared_43 : cX12_readsCompared.data.toList.drop 43 = sxX12_readsCompared_43 := dSn 2 shX12_readsCompared_41
theorem shX12_readsCompared_46 : cX12_readsCompared.data.toList.drop 46 = sxX12_readsCompared_46 := dSn 3 shX12_readsCompared_43
theorem shX12_readsCompared_48 : cX12_readsCompared.data.toList.drop 48 = sxX12_readsCompared_48 := dSn 2 shX12_readsCompared_46
theorem shX12_readsCompared_51 : cX12_readsCompared.data.toList.drop 51 = sxX12_readsCompared_51 := dSn 3 shX12_readsCompared_48
theorem shX12_readsCompared_52 : cX12_readsCompared.data.toList.drop 52 = sxX12_readsCompared_52 := dSn 1 shX12_readsCompared_51
theorem shX12_readsCompared_53 : cX12_readsCompared.data.toList.drop 53 = sxX12_readsCompared_53 := dSn 1 shX12_readsCompared_52
theorem shX12_readsCompared_54 : cX12_readsCompared.data.toList.drop 54 = sxX12_readsCompared_54 := dSn 1 shX12_readsCompared_53
theorem shX12_readsCompared_55 : cX12_readsCompared.data.toList.drop 55 = sxX12_readsCompared_55 := dSn 1 shX12_readsCompared_54
theorem shX12_readsCompared_58 : cX12_readsCompared.data.toList.drop 58 = sxX12_readsCompared_58 := dSn 3 shX12_readsCompared_55
theorem shX12_readsCompared_59 : cX12_readsCompared.data.toList.drop 59 = sxX12_readsCompared_59 := dSn 1 shX12_readsCompared_58
theorem shX12_readsCompared_60 : cX12_readsCompared.data.toList.drop 60 = sxX12_readsCompared_60 := dSn 1 shX12_readsCompared_59
theorem shX12_readsCompared_61 : cX12_readsCompared.data.toList.drop 61 = sxX12_readsCompared_61 := dSn 1 shX12_readsCompared_60
theorem shX12_readsCompared_64 : cX12_readsCompared.data.toList.drop 64 = sxX12_readsCompared_64 := dSn 3 shX12_readsCompared_61
theorem shX12_readsCompared_67 : cX12_readsCompared.data.toList.drop 67 = sxX12_readsCompared_67 := dSn 3 shX12_readsCompared_64
theorem shX12_readsCompared_68 : cX12_readsCompared.data.toList.drop 68 = sxX12_readsCompared_68 := dSn 1 shX12_readsCompared_67
theorem shX12_readsCompared_69 : cX12_readsCompared.data.toList.drop 69 = sxX12_readsCompared_69 := dSn 1 shX12_readsCompared_68
theorem shX12_readsCompared_70 : cX12_readsCompared.data.toList.drop 70 = sxX12_readsCompared_70 := dSn 1 shX12_readsCompared_69
theorem shX12_readsCompared_73 : cX12_readsCompared.data.toList.drop 73 = sxX12_readsCompared_73 := dSn 3 shX12_readsCompared_70
theorem shX12_readsCompared_74 : cX12_readsCompared.data.toList.drop 74 = sxX12_readsCompared_74 := dSn 1 shX12_readsCompared_73
theorem shX12_readsCompared_75 : cX12_readsCompared.data.toList.drop 75 = sxX12_readsCompared_75 := dSn 1 shX12_readsCompared_74
theorem shX12_readsCompared_78 : cX12_readsCompared.data.toList.drop 78 = sxX12_readsCompared_78 := dSn 3 shX12_readsCompared_75
theorem shX12_readsCompared_79 : cX12_readsCompared.data.toList.drop 79 = sxX12_readsCompared_79 := dSn 1 shX12_readsCompared_78
theorem shX12_readsCompared_82 : cX12_readsCompared.data.toList.drop 82 = sxX12_readsCompared_82 := dSn 3 shX12_readsCompared_79
theorem shX12_readsCompared_85 : cX12_readsCompared.data.toList.drop 85 = sxX12_readsCompared_85 := dSn 3 shX12_readsCompared_82
theorem shX12_readsCompared_86 : cX12_readsCompared.data.toList.drop 86 = sxX12_readsCompared_86 := dSn 1 shX12_readsCompared_85
theorem shX12_readsCompared_87 : cX12_readsCompared.data.toList.drop 87 = sxX12_readsCompared_87 := dSn 1 shX12_readsCompared_86
theorem shX12_readsCompared_88 : cX12_readsCompared.data.toList.drop 88 = sxX12_readsCompared_88 := dSn 1 shX12_readsCompared_87
theorem shX12_readsCompared_89 : cX12_readsCompared.data.toList.drop 89 = sxX12_readsCompared_89 := dSn 1 shX12_readsCompared_88
theorem shX12_readsCompared_90 : cX12_readsCompared.data.toList.drop 90 = sxX12_readsCompared_90 := dSn 1 shX12_readsCompared_89
theorem shX12_readsCompared_93 : cX12_readsCompared.data.toList.drop 93 = sxX12_readsCompared_93 := dSn 3 shX12_readsCompared_90
theorem shX12_readsCompared_94 : cX12_readsCompared.data.toList.drop 94 = sxX12_readsCompared_94 := dSn 1 shX12_readsCompared_93
theorem shX12_readsCompared_97 : cX12_readsCompared.data.toList.drop 97 = sxX12_readsCompared_97 := dSn 3 shX12_readsCompared_94
theorem shX12_readsCompared_98 : cX12_readsCompared.data.toList.drop 98 = sxX12_readsCompared_98 := dSn 1 shX12_readsCompared_97
theorem dX12_readsCompared_0 : decode cX12_readsCompared 0 = .ok (.aload_n 0, 1) := oc_42 shX12_readsCompared_0
theorem dX12_readsCompared_1 : decode cX12_readsCompared 1 = .ok (.invokevirtual 297, 3) := oc_182 shX12_readsCompared_1
theorem dX12_readsCompared_4 : decode cX12_readsCompared 4 = .ok (.ifCond .ne 5, 3) := oc_154 shX12_readsCompared_4 sgw_0_5
theorem dX12_readsCompared_7 : decode cX12_readsCompared 7 = .ok (.iconst 0, 1) := oc_3 shX12_readsCompared_7
theorem dX12_readsCompared_8 : decode cX12_readsCompared 8 = .ok (.ireturn, 1) := oc_172 shX12_readsCompared_8
theorem dX12_readsCompared_9 : decode cX12_readsCompared 9 = .ok (.aload_n 0, 1) := oc_42 shX12_readsCompared_9
theorem dX12_readsCompared_10 : decode cX12_readsCompared 10 = .ok (.invokevirtual 239, 3) := oc_182 shX12_readsCompared_10
theorem dX12_readsCompared_13 : decode cX12_readsCompared 13 = .ok (.bipush 60, 2) := oc_16 shX12_readsCompared_13 sgb_60
theorem dX12_readsCompared_15 : decode cX12_readsCompared 15 = .ok (.if_icmp .ne 8, 3) := oc_160 shX12_readsCompared_15 sgw_0_8
theorem dX12_readsCompared_18 : decode cX12_readsCompared 18 = .ok (.bipush 7, 2) := oc_16 shX12_readsCompared_18 sgb_7
theorem dX12_readsCompared_20 : decode cX12_readsCompared 20 = .ok (.goto 32, 3) := oc_167 shX12_readsCompared_20 sgw_0_32
theorem dX12_readsCompared_23 : decode cX12_readsCompared 23 = .ok (.aload_n 0, 1) := oc_42 shX12_readsCompared_23
theorem dX12_readsCompared_24 : decode cX12_readsCompared 24 = .ok (.invokevirtual 239, 3) := oc_182 shX12_readsCompared_24
theorem dX12_readsCompared_27 : decode cX12_readsCompared 27 = .ok (.bipush 62, 2) := oc_16 shX12_readsCompared_27 sgb_62
theorem dX12_readsCompared_29 : decode cX12_readsCompared 29 = .ok (.if_icmp .ne 8, 3) := oc_160 shX12_readsCompared_29 sgw_0_8
theorem dX12_readsCompared_32 : decode cX12_readsCompared 32 = .ok (.bipush 8, 2) := oc_16 shX12_readsCompared_32 sgb_8
theorem dX12_readsCompared_34 : decode cX12_readsCompared 34 = .ok (.goto 18, 3) := oc_167 shX12_readsCompared_34 sgw_0_18
theorem dX12_readsCompared_37 : decode cX12_readsCompared 37 = .ok (.aload_n 0, 1) := oc_42 shX12_readsCompared_37
theorem dX12_readsCompared_38 : decode cX12_readsCompared 38 = .ok (.invokevirtual 239, 3) := oc_182 shX12_readsCompared_38
theorem dX12_readsCompared_41 : decode cX12_readsCompared 41 = .ok (.bipush 61, 2) := oc_16 shX12_readsCompared_41 sgb_61
theorem dX12_readsCompared_43 : decode cX12_readsCompared 43 = .ok (.if_icmp .ne 8, 3) := oc_160 shX12_readsCompared_43 sgw_0_8
theorem dX12_readsCompared_46 : decode cX12_readsCompared 46 = .ok (.bipush 9, 2) := oc_16 shX12_readsCompared_46 sgb_9
theorem dX12_readsCompared_48 : decode cX12_readsCompared 48 = .ok (.goto 4, 3) := oc_167 shX12_readsCompared_48 sgw_0_4
theorem dX12_readsCompared_51 : decode cX12_readsCompared 51 = .ok (.iconst (-1), 1) := oc_2 shX12_readsCompared_51
theorem dX12_readsCompared_52 : decode cX12_readsCompared 52 = .ok (.istore_n 1, 1) := oc_60 shX12_readsCompared_52
theorem dX12_readsCompared_53 : decode cX12_readsCompared 53 = .ok (.iload_n 1, 1) := oc_27 shX12_readsCompared_53
theorem dX12_readsCompared_54 : decode cX12_readsCompared 54 = .ok (.iconst (-1), 1) := oc_2 shX12_readsCompared_54
theorem dX12_readsCompared_55 : decode cX12_readsCompared 55 = .ok (.if_icmp .ne 13, 3) := oc_160 shX12_readsCompared_55 sgw_0_13
theorem dX12_readsCompared_58 : decode cX12_readsCompared 58 = .ok (.aload_n 0, 1) := oc_42 shX12_readsCompared_58
theorem dX12_readsCompared_59 : decode cX12_readsCompared 59 = .ok (.iconst 1, 1) := oc_4 shX12_readsCompared_59
theorem dX12_readsCompared_60 : decode cX12_readsCompared 60 = .ok (.aload_n 0, 1) := oc_42 shX12_readsCompared_60
theorem dX12_readsCompared_61 : decode cX12_readsCompared 61 = .ok (.getfield 233, 3) := oc_180 shX12_readsCompared_61
theorem dX12_readsCompared_64 : decode cX12_readsCompared 64 = .ok (.invokevirtual 246, 3) := oc_182 shX12_readsCompared_64
theorem dX12_readsCompared_67 : decode cX12_readsCompared 67 = .ok (.ireturn, 1) := oc_172 shX12_readsCompared_67
theorem dX12_readsCompared_68 : decode cX12_readsCompared 68 = .ok (.aload_n 0, 1) := oc_42 shX12_readsCompared_68
theorem dX12_readsCompared_69 : decode cX12_readsCompared 69 = .ok (.aload_n 0, 1) := oc_42 shX12_readsCompared_69
theorem dX12_readsCompared_70 : decode cX12_readsCompared 70 = .ok (.getfield 233, 3) := oc_180 shX12_readsCompared_70
theorem dX12_readsCompared_73 : decode cX12_readsCompared 73 = .ok (.iconst 1, 1) := oc_4 shX12_readsCompared_73
theorem dX12_readsCompared_74 : decode cX12_readsCompared 74 = .ok (.iadd, 1) := oc_96 shX12_readsCompared_74
theorem dX12_readsCompared_75 : decode cX12_readsCompared 75 = .ok (.putfield 233, 3) := oc_181 shX12_readsCompared_75
theorem dX12_readsCompared_78 : decode cX12_readsCompared 78 = .ok (.aload_n 0, 1) := oc_42 shX12_readsCompared_78
theorem dX12_readsCompared_79 : decode cX12_readsCompared 79 = .ok (.invokevirtual 297, 3) := oc_182 shX12_readsCompared_79
theorem dX12_readsCompared_82 : decode cX12_readsCompared 82 = .ok (.ifCond .ne 5, 3) := oc_154 shX12_readsCompared_82 sgw_0_5
theorem dX12_readsCompared_85 : decode cX12_readsCompared 85 = .ok (.iconst 0, 1) := oc_3 shX12_readsCompared_85
theorem dX12_readsCompared_86 : decode cX12_readsCompared 86 = .ok (.ireturn, 1) := oc_172 shX12_readsCompared_86
theorem dX12_readsCompared_87 : decode cX12_readsCompared 87 = .ok (.aload_n 0, 1) := oc_42 shX12_readsCompared_87
theorem dX12_readsCompared_88 : decode cX12_readsCompared 88 = .ok (.iload_n 1, 1) := oc_27 shX12_readsCompared_88
theorem dX12_readsCompared_89 : decode cX12_readsCompared 89 = .ok (.iconst 0, 1) := oc_3 shX12_readsCompared_89
theorem dX12_readsCompared_90 : decode cX12_readsCompared 90 = .ok (.invokevirtual 270, 3) := oc_182 shX12_readsCompared_90
theorem dX12_readsCompared_93 : decode cX12_readsCompared 93 = .ok (.aload_n 0, 1) := oc_42 shX12_readsCompared_93
theorem dX12_readsCompared_94 : decode cX12_readsCompared 94 = .ok (.invokevirtual 300, 3) := oc_182 shX12_readsCompared_94
theorem dX12_readsCompared_97 : decode cX12_readsCompared 97 = .ok (.iconst 1, 1) := oc_4 shX12_readsCompared_97
theorem dX12_readsCompared_98 : decode cX12_readsCompared 98 = .ok (.ireturn, 1) := oc_172 shX12_readsCompared_98
noncomputable def sxX12_readsCondition_221 : List UInt8 := []
noncomputable def sxX12_readsCondition_218 : List UInt8 := 167 :: 255 :: 78 :: sxX12_readsCondition_221
noncomputable def sxX12_readsCondition_215 : List UInt8 := 182 :: 1 :: 53 :: sxX12_readsCondition_218
noncomputable def sxX12_readsCondition_213 : List UInt8 := 16 :: 12 :: sxX12_readsCondition_215
noncomputable def sxX12_readsCondition_210 : List UInt8 := 167 :: 0 :: 5 :: sxX12_readsCondition_213
noncomputable def sxX12_readsCondition_208 : List UInt8 := 16 :: 11 :: sxX12_readsCondition_210
noncomputable def sxX12_readsCondition_205 : List UInt8 := 160 :: 0 :: 8 :: sxX12_readsCondition_208
noncomputable def sxX12_readsCondition_203 : List UInt8 := 16 :: 38 :: sxX12_readsCondition_205
noncomputable def sxX12_readsCondition_200 : List UInt8 := 182 :: 0 :: 239 :: sxX12_readsCondition_203
noncomputable def sxX12_readsCondition_199 : List UInt8 := 42 :: sxX12_readsCondition_200
noncomputable def sxX12_readsCondition_198 : List UInt8 := 42 :: sxX12_readsCondition_199
noncomputable def sxX12_readsCondition_195 : List UInt8 := 182 :: 1 :: 50 :: sxX12_readsCondition_198
noncomputable def sxX12_readsCondition_194 : List UInt8 := 3 :: sxX12_readsCondition_195
noncomputable def sxX12_readsCondition_191 : List UInt8 := 167 :: 0 :: 4 :: sxX12_readsCondition_194
noncomputable def sxX12_readsCondition_190 : List UInt8 := 4 :: sxX12_readsCondition_191
noncomputable def sxX12_readsCondition_187 : List UInt8 := 160 :: 0 :: 7 :: sxX12_readsCondition_190
noncomputable def sxX12_readsCondition_185 : List UInt8 := 16 :: 124 :: sxX12_readsCondition_187
noncomputable def sxX12_readsCondition_182 : List UInt8 := 182 :: 0 :: 239 :: sxX12_readsCondition_185
noncomputable def sxX12_readsCondition_181 : List UInt8 := 42 :: sxX12_readsCondition_182
noncomputable def sxX12_readsCondition_180 : List UInt8 := 42 :: sxX12_readsCondition_181
noncomputable def sxX12_readsCondition_179 : List UInt8 := 172 :: sxX12_readsCondition_180
noncomputable def sxX12_readsCondition_176 : List UInt8 := 182 :: 0 :: 246 :: sxX12_readsCondition_179
noncomputable def sxX12_readsCondition_173 : List UInt8 := 180 :: 0 :: 233 :: sxX12_readsCondition_176
noncomputable def sxX12_readsCondition_172 : List UInt8 := 42 :: sxX12_readsCondition_173
noncomputable def sxX12_readsCondition_171 : List UInt8 := 4 :: sxX12_readsCondition_172
noncomputable def sxX12_readsCondition_170 : List UInt8 := 42 :: sxX12_readsCondition_171
noncomputable def sxX12_readsCondition_167 : List UInt8 := 159 :: 0 :: 13 :: sxX12_readsCondition_170
noncomputable def sxX12_readsCondition_165 : List UInt8 := 16 :: 124 :: sxX12_readsCondition_167
noncomputable def sxX12_readsCondition_162 : List UInt8 := 182 :: 0 :: 239 :: sxX12_readsCondition_165
noncomputable def sxX12_readsCondition_161 : List UInt8 := 42 :: sxX12_readsCondition_162
noncomputable def sxX12_readsCondition_158 : List UInt8 := 159 :: 0 :: 22 :: sxX12_readsCondition_161
noncomputable def sxX12_readsCondition_156 : List UInt8 := 16 :: 38 :: sxX12_readsCondition_158
noncomputable def sxX12_readsCondition_153 : List UInt8 := 182 :: 0 :: 239 :: sxX12_readsCondition_156
noncomputable def sxX12_readsCondition_152 : List UInt8 := 42 :: sxX12_readsCondition_153
noncomputable def sxX12_readsCondition_149 : List UInt8 := 167 :: 255 :: 199 :: sxX12_readsCondition_152
noncomputable def sxX12_readsCondition_146 : List UInt8 := 182 :: 1 :: 44 :: sxX12_readsCondition_149
noncomputable def sxX12_readsCondition_145 : List UInt8 := 42 :: sxX12_readsCondition_146
noncomputable def sxX12_readsCondition_144 : List UInt8 := 172 :: sxX12_readsCondition_145
noncomputable def sxX12_readsCondition_143 : List UInt8 := 4 :: sxX12_readsCondition_144
noncomputable def sxX12_readsCondition_140 : List UInt8 := 154 :: 0 :: 5 :: sxX12_readsCondition_143
noncomputable def sxX12_readsCondition_137 : List UInt8 := 180 :: 1 :: 8 :: sxX12_readsCondition_140
noncomputable def sxX12_readsCondition_136 : List UInt8 := 42 :: sxX12_readsCondition_137
noncomputable def sxX12_readsCondition_133 : List UInt8 := 181 :: 0 :: 233 :: sxX12_readsCondition_136
noncomputable def sxX12_readsCondition_132 : List UInt8 := 96 :: sxX12_readsCondition_133
noncomputable def sxX12_readsCondition_131 : List UInt8 := 4 :: sxX12_readsCondition_132
noncomputable def sxX12_readsCondition_128 : List UInt8 := 180 :: 0 :: 233 :: sxX12_readsCondition_131
noncomputable def sxX12_readsCondition_127 : List UInt8 := 42 :: sxX12_readsCondition_128
noncomputable def sxX12_readsCondition_126 : List UInt8 := 42 :: sxX12_readsCondition_127
noncomputable def sxX12_readsCondition_123 : List UInt8 := 181 :: 1 :: 5 :: sxX12_readsCondition_126
noncomputable def sxX12_readsCondition_122 : List UInt8 := 100 :: sxX12_readsCondition_123
noncomputable def sxX12_readsCondition_121 : List UInt8 := 4 :: sxX12_readsCondition_122
noncomputable def sxX12_readsCondition_118 : List UInt8 := 180 :: 1 :: 5 :: sxX12_readsCondition_121
noncomputable def sxX12_readsCondition_117 : List UInt8 := 42 :: sxX12_readsCondition_118
noncomputable def sxX12_readsCondition_116 : List UInt8 := 42 :: sxX12_readsCondition_117
noncomputable def sxX12_readsCondition_113 : List UInt8 := 181 :: 1 :: 8 :: sxX12_readsCondition_116
noncomputable def sxX12_readsCondition_112 : List UInt8 := 100 :: sxX12_readsCondition_113
noncomputable def sxX12_readsCondition_111 : List UInt8 := 4 :: sxX12_readsCondition_112
noncomputable def sxX12_readsCondition_108 : List UInt8 := 180 :: 1 :: 8 :: sxX12_readsCondition_111
noncomputable def sxX12_readsCondition_107 : List UInt8 := 42 :: sxX12_readsCondition_108
noncomputable def sxX12_readsCondition_106 : List UInt8 := 42 :: sxX12_readsCondition_107
noncomputable def sxX12_readsCondition_103 : List UInt8 := 182 :: 1 :: 50 :: sxX12_readsCondition_106
noncomputable def sxX12_readsCondition_102 : List UInt8 := 4 :: sxX12_readsCondition_103
noncomputable def sxX12_readsCondition_101 : List UInt8 := 42 :: sxX12_readsCondition_102
noncomputable def sxX12_readsCondition_98 : List UInt8 := 160 :: 0 :: 54 :: sxX12_readsCondition_101
noncomputable def sxX12_readsCondition_96 : List UInt8 := 16 :: 41 :: sxX12_readsCondition_98
noncomputable def sxX12_readsCondition_93 : List UInt8 := 182 :: 0 :: 239 :: sxX12_readsCondition_96
noncomputable def sxX12_readsCondition_92 : List UInt8 := 42 :: sxX12_readsCondition_93
noncomputable def sxX12_readsCondition_91 : List UInt8 := 172 :: sxX12_readsCondition_92
noncomputable def sxX12_readsCondition_90 : List UInt8 := 3 :: sxX12_readsCondition_91
noncomputable def sxX12_readsCondition_87 : List UInt8 := 154 :: 0 :: 5 :: sxX12_readsCondition_90
noncomputable def sxX12_readsCondition_84 : List UInt8 := 182 :: 1 :: 47 :: sxX12_readsCondition_87
noncomputable def sxX12_readsCondition_83 : List UInt8 := 42 :: sxX12_readsCondition_84
noncomputable def sxX12_readsCondition_82 : List UInt8 := 172 :: sxX12_readsCondition_83
noncomputable def sxX12_readsCondition_81 : List UInt8 := 3 :: sxX12_readsCondition_82
noncomputable def sxX12_readsCondition_78 : List UInt8 := 154 :: 255 :: 218 :: sxX12_readsCondition_81
noncomputable def sxX12_readsCondition_75 : List UInt8 := 182 :: 1 :: 18 :: sxX12_readsCondition_78
noncomputable def sxX12_readsCondition_73 : List UInt8 := 16 :: 13 :: sxX12_readsCondition_75
noncomputable def sxX12_readsCondition_70 : List UInt8 := 167 :: 0 :: 5 :: sxX12_readsCondition_73
noncomputable def sxX12_readsCondition_68 : List UInt8 := 16 :: 10 :: sxX12_readsCondition_70
noncomputable def sxX12_readsCondition_65 : List UInt8 := 160 :: 0 :: 8 :: sxX12_readsCondition_68
noncomputable def sxX12_readsCondition_63 : List UInt8 := 16 :: 33 :: sxX12_readsCondition_65
noncomputable def sxX12_readsCondition_60 : List UInt8 := 182 :: 0 :: 239 :: sxX12_readsCondition_63
noncomputable def sxX12_readsCondition_59 : List UInt8 := 42 :: sxX12_readsCondition_60
noncomputable def sxX12_readsCondition_58 : List UInt8 := 42 :: sxX12_readsCondition_59
noncomputable def sxX12_readsCondition_55 : List UInt8 := 160 :: 0 :: 28 :: sxX12_readsCondition_58
noncomputable def sxX12_readsCondition_53 : List UInt8 := 16 :: 40 :: sxX12_readsCondition_55
noncomputable def sxX12_readsCondition_50 : List UInt8 := 182 :: 0 :: 239 :: sxX12_readsCondition_53
noncomputable def sxX12_readsCondition_49 : List UInt8 := 42 :: sxX12_readsCondition_50
noncomputable def sxX12_readsCondition_46 : List UInt8 := 159 :: 0 :: 12 :: sxX12_readsCondition_49
noncomputable def sxX12_readsCondition_44 : List UInt8 := 16 :: 33 :: sxX12_readsCondition_46
noncomputable def sxX12_readsCondition_41 : List UInt8 := 182 :: 0 :: 239 :: sxX12_readsCondition_44
noncomputable def sxX12_readsCondition_40 : List UInt8 := 42 :: sxX12_readsCondition_41
noncomputable def sxX12_readsCondition_39 : List UInt8 := 172 :: sxX12_readsCondition_40
noncomputable def sxX12_readsCondition_38 : List UInt8 := 3 :: sxX12_readsCondition_39
noncomputable def sxX12_readsCondition_35 : List UInt8 := 154 :: 0 :: 5 :: sxX12_readsCondition_38
noncomputable def sxX12_readsCondition_32 : List UInt8 := 182 :: 1 :: 18 :: sxX12_readsCondition_35
noncomputable def sxX12_readsCondition_30 : List UInt8 := 16 :: 13 :: sxX12_readsCondition_32
noncomputable def sxX12_readsCondition_29 : List UInt8 := 42 :: sxX12_readsCondition_30
noncomputable def sxX12_readsCondition_26 : List UInt8 := 181 :: 1 :: 8 :: sxX12_readsCondition_29
noncomputable def sxX12_readsCondition_25 : List UInt8 := 3 :: sxX12_readsCondition_26
noncomputable def sxX12_readsCondition_24 : List UInt8 := 42 :: sxX12_readsCondition_25
noncomputable def sxX12_readsCondition_21 : List UInt8 := 181 :: 1 :: 5 :: sxX12_readsCondition_24
noncomputable def sxX12_readsCondition_20 : List UInt8 := 3 :: sxX12_readsCondition_21
noncomputable def sxX12_readsCondition_19 : List UInt8 := 42 :: sxX12_readsCondition_20
noncomputable def sxX12_readsCondition_18 : List UInt8 := 172 :: sxX12_readsCondition_19
noncomputable def sxX12_readsCondition_15 : List UInt8 := 182 :: 0 :: 246 :: sxX12_readsCondition_18
noncomputable def sxX12_readsCondition_12 : List UInt8 := 180 :: 0 :: 233 :: sxX12_readsCondition_15
noncomputable def sxX12_readsCondition_11 : List UInt8 := 42 :: sxX12_readsCondition_12
noncomputable def sxX12_readsCondition_10 : List UInt8 := 4 :: sxX12_readsCondition_11
noncomputable def sxX12_readsCondition_9 : List UInt8 := 42 :: sxX12_readsCondition_10
noncomputable def sxX12_readsCondition_6 : List UInt8 := 159 :: 0 :: 13 :: sxX12_readsCondition_9
noncomputable def sxX12_readsCondition_4 : List UInt8 := 16 :: 40 :: sxX12_readsCondition_6
noncomputable def sxX12_readsCondition_1 : List UInt8 := 182 :: 0 :: 239 :: sxX12_readsCondition_4
noncomputable def sxX12_readsCondition_0 : List UInt8 := 42 :: sxX12_readsCondition_1
theorem shX12_readsCondition_0 : cX12_readsCondition.data.toList.drop 0 = sxX12_readsCondition_0 := rfl
theorem shX12_readsCondition_1 : cX12_readsCondition.data.toList.drop 1 = sxX12_readsCondition_1 := dSn 1 shX12_readsCondition_0
theorem shX12_readsCondition_4 : cX12_readsCondition.data.toList.drop 4 = sxX12_readsCondition_4 := dSn 3 shX12_readsCondition_1
theorem shX12_readsCondition_6 : cX12_readsCondition.data.toList.drop 6 = sxX12_readsCondition_6 := dSn 2 shX12_readsCondition_4
theorem shX12_readsCondition_9 : cX12_readsCondition.data.toList.drop 9 = sxX12_readsCondition_9 := dSn 3 shX12_readsCondition_6
theorem shX12_readsCondition_10 : cX12_readsCondition.data.toList.drop 10 = sxX12_readsCondition_10 := dSn 1 shX12_readsCondition_9
theorem shX12_readsCondition_11 : cX12_readsCondition.data.toList.drop 11 = sxX12_readsCondition_11 := dSn 1 shX12_readsCondition_10
theorem shX12_readsCondition_12 : cX12_readsCondition.data.toList.drop 12 = sxX12_readsCondition_12 := dSn 1 shX12_readsCondition_11
theorem shX12_readsCondition_15 : cX12_readsCondition.data.toList.drop 15 = sxX12_readsCondition_15 := dSn 3 shX12_readsCondition_12
theorem shX12_readsCondition_18 : cX12_readsCondition.data.toList.drop 18 = sxX12_readsCondition_18 := dSn 3 shX12_readsCondition_15
theorem shX12_readsCondition_19 : cX12_readsCondition.data.toList.drop 19 = sxX12_readsCondition_19 := dSn 1 shX12_readsCondition_18
theorem shX12_readsCondition_20 : cX12_readsCondition.data.toList.drop 20 = sxX12_readsCondition_20 := dSn 1 shX12_readsCondition_19
theorem shX12_readsCondition_21 : cX12_readsCondition.data.toList.drop 21 = sxX12_readsCondition_21 := dSn 1 shX12_readsCondition_20
theorem shX12_readsCondition_24 : cX12_readsCondition.data.toList.drop 24 = sxX12_readsCondition_24 := dSn 3 shX12_readsCondition_21
theorem shX12_readsCondition_25 : cX12_readsCondition.data.toList.drop 25 = sxX12_readsCondition_25 := dSn 1 shX12_readsCondition_24
theorem shX12_readsCondition_26 : cX12_readsCondition.data.toList.drop 26 = sxX12_readsCondition_26 := dSn 1 shX12_readsCondition_25
theorem shX12_readsCondition_29 : cX12_readsCondition.data.toList.drop 29 = sxX12_readsCondition_29 := dSn 3 shX12_readsCondition_26
theorem shX12_readsCondition_30 : cX12_readsCondition.data.toList.drop 30 = sxX12_readsCondition_30 := dSn 1 shX12_readsCondition_29
theorem shX12_readsCondition_32 : cX12_readsCondition.data.toList.drop 32 = sxX12_readsCondition_32 := dSn 2 shX12_readsCondition_30
theorem shX12_readsCondition_35 : cX12_readsCondition.data.toList.drop 35 = sxX12_readsCondition_35 := dSn 3 shX12_readsCondition_32
theorem shX12_readsCondition_38 : cX12_readsCondition.data.toList.drop 38 = sxX12_readsCondition_38 := dSn 3 shX12_readsCondition_35
theorem shX12_readsCondition_39 : cX12_readsCondition.data.toList.drop 39 = sxX12_readsCondition_39 := dSn 1 shX12_readsCondition_38
theorem shX12_readsCondition_40 : cX12_readsCondition.data.toList.drop 40 = sxX12_readsCondition_40 := dSn 1 shX12_readsCondition_39
theorem shX12_readsCondition_41 : cX12_readsCondition.data.toList.drop 41 = sxX12_readsCondition_41 := dSn 1 shX12_readsCondition_40
theorem shX12_readsCondition_44 : cX12_readsCondition.data.toList.drop 44 = sxX12_readsCondition_44 := dSn 3 shX12_readsCondition_41
theorem shX12_readsCondition_46 : cX12_readsCondition.data.toList.drop 46 = sxX12_readsCondition_46 := dSn 2 shX12_readsCondition_44
theorem shX12_readsCondition_49 : cX12_readsCondition.data.toList.drop 49 = sxX12_readsCondition_49 := dSn 3 shX12_readsCondition_46
theorem shX12_readsCondition_50 : cX12_readsCondition.data.toList.drop 50 = sxX12_readsCondition_50 := dSn 1 shX12_readsCondition_49
theorem shX12_readsCondition_53 : cX12_readsCondition.data.toList.drop 53 = sxX12_readsCondition_53 := dSn 3 shX12_readsCondition_50
theorem shX12_readsCondition_55 : cX12_readsCondition.data.toList.drop 55 = sxX12_readsCondition_55 := dSn 2 shX12_readsCondition_53
theorem shX12_readsCondition_58 : cX12_readsCondition.data.toList.drop 58 = sxX12_readsCondition_58 := dSn 3 shX12_readsCondition_55
theorem shX12_readsCondition_59 : cX12_readsCondition.data.toList.drop 59 = sxX12_readsCondition_59 := dSn 1 shX12_readsCondition_58
theorem shX12_readsCondition_60 : cX12_readsCondition.data.toList.drop 60 = sxX12_readsCondition_60 := dSn 1 shX12_readsCondition_59
theorem shX12_readsCondition_63 : cX12_readsCondition.data.toList.drop 63 = sxX12_readsCondition_63 := dSn 3 shX12_readsCondition_60
theorem shX12_readsCondition_65 : cX12_readsCondition.data.toList.drop 65 = sxX12_readsCondition_65 := dSn 2 shX12_readsCondition_63
theorem shX12_readsCondition_68 : cX12_readsCondition.data.toList.drop 68 = sxX12_readsCondition_68 := dSn 3 shX12_readsCondition_65
theorem shX12_readsCondition_70 : cX12_readsCondition.data.toList.drop 70 = sxX12_readsCondition_70 := dSn 2 shX12_readsCondition_68
theorem shX12_readsCondition_73 : cX12_readsCondition.data.toList.drop 73 = sxX12_readsCondition_73 := dSn 3 shX12_readsCondition_70
theorem shX12_readsCondition_75 : cX12_readsCondition.data.toList.drop 75 = sxX12_readsCondition_75 := dSn 2 shX12_readsCondition_73
theorem shX12_readsCondition_78 : cX12_readsCondition.data.toList.drop 78 = sxX12_readsCondition_78 := dSn 3 shX12_readsCondition_75
theorem shX12_readsCondition_81 : cX12_readsCondition.data.toList.drop 81 = sxX12_readsCondition_81 := dSn 3 shX12_readsCondition_78
theorem shX12_readsCondition_82 : cX12_readsCondition.data.toList.drop 82 = sxX12_readsCondition_82 := dSn 1 shX12_readsCondition_81
theorem shX12_readsCondition_83 : cX12_readsCondition.data.toList.drop 83 = sxX12_readsCondition_83 := dSn 1 shX12_readsCondition_82
theorem shX12_readsCondition_84 : cX12_readsCondition.data.toList.drop 84 = sxX12_readsCondition_84 := dSn 1 shX12_readsCondition_83
theorem shX12_readsCondition_87 : cX12_readsCondition.data.toList.drop 87 = sxX12_readsCondition_87 := dSn 3 shX12_readsCondition_84
theorem shX12_readsCondition_90 : cX12_readsCondition.data.toList.drop 90 = sxX12_readsCondition_90 := dSn 3 shX12_readsCondition_87
theorem shX12_readsCondition_91 : cX12_readsCondition.data.toList.drop 91 = sxX12_readsCondition_91 := dSn 1 shX12_readsCondition_90
theorem shX12_readsCondition_92 : cX12_readsCondition.data.toList.drop 92 = sxX12_readsCondition_92 := dSn 1 shX12_readsCondition_91
theorem shX12_readsCondition_93 : cX12_readsCondition.data.toList.drop 93 = sxX12_readsCondition_93 := dSn 1 shX12_readsCondition_92
theorem shX12_readsCondition_96 : cX12_readsCondition.data.toList.drop 96 = sxX12_readsCondition_96 := dSn 3 shX12_readsCondition_93
theorem shX12_readsCondition_98 : cX12_readsCondition.data.toList.drop 98 = sxX12_readsCondition_98 := dSn 2 shX12_readsCondition_96
theorem shX12_readsCondition_101 : cX12_readsCondition.data.toList.drop 101 = sxX12_readsCondition_101 := dSn 3 shX12_readsCondition_98
theorem shX12_readsCondition_102 : cX12_readsCondition.data.toList.drop 102 = sxX12_readsCondition_102 := dSn 1 shX12_readsCondition_101
theorem shX12_readsCondition_103 : cX12_readsCondition.data.toList.drop 103 = sxX12_readsCondition_103 := dSn 1 shX12_readsCondition_102
theorem shX12_readsCondition_106 : cX12_readsCondition.data.toList.drop 106 = sxX12_readsCondition_106 := dSn 3 shX12_readsCondition_103
theorem shX12_readsCondition_107 : cX12_readsCondition.data.toList.drop 107 = sxX12_readsCondition_107 := dSn 1 shX12_readsCondition_106
theorem shX12_readsCondition_108 : cX12_readsCondition.data.toList.drop 108 = sxX12_readsCondition_108 := dSn 1 shX12_readsCondition_107
theorem shX12_readsCondition_111 : cX12_readsCondition.data.toList.drop 111 = sxX12_readsCondition_111 := dSn 3 shX12_readsCondition_108
theorem shX12_readsCondition_112 : cX12_readsCondition.data.toList.drop 112 = sxX12_readsCondition_112 := dSn 1 shX12_readsCondition_111
theorem shX12_readsCondition_113 : cX12_readsCondition.data.toList.drop 113 = sxX12_readsCondition_113 := dSn 1 shX12_readsCondition_112
theorem shX12_readsCondition_116 : cX12_readsCondition.data.toList.drop 116 = sxX12_readsCondition_116 := dSn 3 shX12_readsCondition_113
theorem shX12_readsCondition_117 : cX12_readsCondition.data.toList.drop 117 = sxX12_readsCondition_117 := dSn 1 shX12_readsCondition_116
theorem shX12_readsCondition_118 : cX12_readsCondition.data.toList.drop 118 = sxX12_readsCondition_118 := dSn 1 shX12_readsCondition_117
theorem shX12_readsCondition_121 : cX12_readsCondition.data.toList.drop 121 = sxX12_readsCondition_121 := dSn 3 shX12_readsCondition_118
theorem shX12_readsCondition_122 : cX12_readsCondition.data.toList.drop 122 = sxX12_readsCondition_122 := dSn 1 shX12_readsCondition_121
theorem shX12_readsCondition_123 : cX12_readsCondition.data.toList.drop 123 = sxX12_readsCondition_123 := dSn 1 shX12_readsCondition_122
theorem shX12_readsCondition_126 : cX12_readsCondition.data.toList.drop 126 = sxX12_readsCondition_126 := dSn 3 shX12_readsCondition_123
theorem shX12_readsCondition_127 : cX12_readsCondition.data.toList.drop 127 = sxX12_readsCondition_127 := dSn 1 shX12_readsCondition_126
theorem shX12_readsCondition_128 : cX12_readsCondition.data.toList.drop 128 = sxX12_readsCondition_128 := dSn 1 shX12_readsCondition_127
theorem shX12_readsCondition_131 : cX12_readsCondition.data.toList.drop 131 = sxX12_readsCondition_131 := dSn 3 shX12_readsCondition_128
theorem shX12_readsCondition_132 : cX12_readsCondition.data.toList.drop 132 = sxX12_readsCondition_132 := dSn 1 shX12_readsCondition_131
theorem shX12_readsCondition_133 : cX12_readsCondition.data.toList.drop 133 = sxX12_readsCondition_133 := dSn 1 shX12_readsCondition_132
theorem shX12_readsCondition_136 : cX12_readsCondition.data.toList.drop 136 = sxX12_readsCondition_136 := dSn 3 shX12_readsCondition_133
theorem shX12_readsCondition_137 : cX12_readsCondition.data.toList.drop 137 = sxX12_readsCondition_137 := dSn 1 shX12_readsCondition_136
theorem shX12_readsCondition_140 : cX12_readsCondition.data.toList.drop 140 = sxX12_readsCondition_140 := dSn 3 shX12_readsCondition_137
theorem shX12_readsCondition_143 : cX12_readsCondition.data.toList.drop 143 = sxX12_readsCondition_143 := dSn 3 shX12_readsCondition_140
theorem shX12_readsCondition_144 : cX12_readsCondition.data.toList.drop 144 = sxX12_readsCondition_144 := dSn 1 shX12_readsCondition_143
theorem shX12_readsCondition_145 : cX12_readsCondition.data.toList.drop 145 = sxX12_readsCondition_145 := dSn 1 shX12_readsCondition_144
theorem shX12_readsCondition_146 : cX12_readsCondition.data.toList.drop 146 = sxX12_readsCondition_146 := dSn 1 shX12_readsCondition_145
theorem shX12_readsCondition_149 : cX12_readsCondition.data.toList.drop 149 = sxX12_readsCondition_149 := dSn 3 shX12_readsCondition_146
theorem shX12_readsCondition_152 : cX12_readsCondition.data.toList.drop 152 = sxX12_readsCondition_152 := dSn 3 shX12_readsCondition_149
theorem shX12_readsCondition_153 : cX12_readsCondition.data.toList.drop 153 = sxX12_readsCondition_153 := dSn 1 shX12_readsCondition_152
theorem shX12_readsCondition_156 : cX12_readsCondition.data.toList.drop 156 = sxX12_readsCondition_156 := dSn 3 shX12_readsCondition_153
theorem shX12_readsCondition_158 : cX12_readsCondition.data.toList.drop 158 = sxX12_readsCondition_158 := dSn 2 shX12_readsCondition_156
theorem shX12_readsCondition_161 : cX12_readsCondition.data.toList.drop 161 = sxX12_readsCondition_161 := dSn 3 shX12_readsCondition_158
theorem shX12_readsCondition_162 : cX12_readsCondition.data.toList.drop 162 = sxX12_readsCondition_162 := dSn 1 shX12_readsCondition_161
theorem shX12_readsCondition_165 : cX12_readsCondition.data.toList.drop 165 = sxX12_readsCondition_165 := dSn 3 shX12_readsCondition_162
theorem shX12_readsCondition_167 : cX12_readsCondition.data.toList.drop 167 = sxX12_readsCondition_167 := dSn 2 shX12_readsCondition_165
theorem shX12_readsCondition_170 : cX12_readsCondition.data.toList.drop 170 = sxX12_readsCondition_170 := dSn 3 shX12_readsCondition_167
theorem shX12_readsCondition_171 : cX12_readsCondition.data.toList.drop 171 = sxX12_readsCondition_171 := dSn 1 shX12_readsCondition_170
theorem shX12_readsCondition_172 : cX12_readsCondition.data.toList.drop 172 = sxX12_readsCondition_172 := dSn 1 shX12_readsCondition_171
theorem shX12_readsCondition_173 : cX12_readsCondition.data.toList.drop 173 = sxX12_readsCondition_173 := dSn 1 shX12_readsCondition_172
theorem shX12_readsCondition_176 : cX12_readsCondition.data.toList.drop 176 = sxX12_readsCondition_176 := dSn 3 shX12_readsCondition_173
theorem shX12_readsCondition_179 : cX12_readsCondition.data.toList.drop 179 = sxX12_readsCondition_179 := dSn 3 shX12_readsCondition_176
theorem shX12_readsCondition_180 : cX12_readsCondition.data.toList.drop 180 = sxX12_readsCondition_180 := dSn 1 shX12_readsCondition_179
theorem shX12_readsCondition_181 : cX12_readsCondition.data.toList.drop 181 = sxX12_readsCondition_181 := dSn 1 shX12_readsCondition_180
theorem shX12_readsCondition_182 : cX12_readsCondition.data.toList.drop 182 = sxX12_readsCondition_182 := dSn 1 shX12_readsCondition_181
theorem shX12_readsCondition_185 : cX12_readsCondition.data.toList.drop 185 = sxX12_readsCondition_185 := dSn 3 shX12_readsCondition_182
theorem shX12_readsCondition_187 : cX12_readsCondition.data.toList.drop 187 = sxX12_readsCondition_187 := dSn 2 shX12_readsCondition_185
theorem shX12_readsCondition_190 : cX12_readsCondition.data.toList.drop 190 = sxX12_readsCondition_190 := dSn 3 shX12_readsCondition_187
theorem shX12_readsCondition_191 : cX12_readsCondition.data.toList.drop 191 = sxX12_readsCondition_191 := dSn 1 shX12_readsCondition_190
theorem shX12_readsCondition_194 : cX12_readsCondition.data.toList.drop 194 = sxX12_readsCondition_194 := dSn 3 shX12_readsCondition_191
theorem shX12_readsCondition_195 : cX12_readsCondition.data.toList.drop 195 = sxX12_readsCondition_195 := dSn 1 shX12_readsCondition_194
theorem shX12_readsCondition_198 : cX12_readsCondition.data.toList.drop 198 = sxX12_readsCondition_198 := dSn 3 shX12_readsCondition_195
theorem shX12_readsCondition_199 : cX12_readsCondition.data.toList.drop 199 = sxX12_readsCondition_199 := dSn 1 shX12_readsCondition_198
theorem shX12_readsCondition_200 : cX12_readsCondition.data.toList.drop 200 = sxX12_readsCondition_200 := dSn 1 shX12_readsCondition_199
theorem shX12_readsCondition_203 : cX12_readsCondition.data.toList.drop 203 = sxX12_readsCondition_203 := dSn 3 shX12_readsCondition_200
theorem shX12_readsCondition_205 : cX12_readsCondition.data.toList.drop 205 = sxX12_readsCondition_205 := dSn 2 shX12_readsCondition_203
theorem shX12_readsCondition_208 : cX12_readsCondition.data.toList.drop 208 = sxX12_readsCondition_208 := dSn 3 shX12_readsCondition_205
theorem shX12_readsCondition_210 : cX12_readsCondition.data.toList.drop 210 = sxX12_readsCondition_210 := dSn 2 shX12_readsCondition_208
theorem shX12_readsCondition_213 : cX12_readsCondition.data.toList.drop 213 = sxX12_readsCondition_213 := dSn 3 shX12_readsCondition_210
theorem shX12_readsCondition_215 : cX12_readsCondition.data.toList.drop 215 = sxX12_readsCondition_215 := dSn 2 shX12_readsCondition_213
theorem shX12_readsCondition_218 : cX12_readsCondition.data.toList.drop 218 = sxX12_readsCondition_218 := dSn 3 shX12_readsCondition_215
theorem dX12_readsCondition_0 : decode cX12_readsCondition 0 = .ok (.aload_n 0, 1) := oc_42 shX12_readsCondition_0
theorem dX12_readsCondition_1 : decode cX12_readsCondition 1 = .ok (.invokevirtual 239, 3) := oc_182 shX12_readsCondition_1
theorem dX12_readsCondition_4 : decode cX12_readsCondition 4 = .ok (.bipush 40, 2) := oc_16 shX12_readsCondition_4 sgb_40
theorem dX12_readsCondition_6 : decode cX12_readsCondition 6 = .ok (.if_icmp .eq 13, 3) := oc_159 shX12_readsCondition_6 sgw_0_13
theorem dX12_readsCondition_9 : decode cX12_readsCondition 9 = .ok (.aload_n 0, 1) := oc_42 shX12_readsCondition_9
theorem dX12_readsCondition_10 : decode cX12_readsCondition 10 = .ok (.iconst 1, 1) := oc_4 shX12_readsCondition_10
theorem dX12_readsCondition_11 : decode cX12_readsCondition 11 = .ok (.aload_n 0, 1) := oc_42 shX12_readsCondition_11
theorem dX12_readsCondition_12 : decode cX12_readsCondition 12 = .ok (.getfield 233, 3) := oc_180 shX12_readsCondition_12
theorem dX12_readsCondition_15 : decode cX12_readsCondition 15 = .ok (.invokevirtual 246, 3) := oc_182 shX12_readsCondition_15
theorem dX12_readsCondition_18 : decode cX12_readsCondition 18 = .ok (.ireturn, 1) := oc_172 shX12_readsCondition_18
theorem dX12_readsCondition_19 : decode cX12_readsCondition 19 = .ok (.aload_n 0, 1) := oc_42 shX12_readsCondition_19
theorem dX12_readsCondition_20 : decode cX12_readsCondition 20 = .ok (.iconst 0, 1) := oc_3 shX12_readsCondition_20
theorem dX12_readsCondition_21 : decode cX12_readsCondition 21 = .ok (.putfield 261, 3) := oc_181 shX12_readsCondition_21
theorem dX12_readsCondition_24 : decode cX12_readsCondition 24 = .ok (.aload_n 0, 1) := oc_42 shX12_readsCondition_24
theorem dX12_readsCondition_25 : decode cX12_readsCondition 25 = .ok (.iconst 0, 1) := oc_3 shX12_readsCondition_25
theorem dX12_readsCondition_26 : decode cX12_readsCondition 26 = .ok (.putfield 264, 3) := oc_181 shX12_readsCondition_26
theorem dX12_readsCondition_29 : decode cX12_readsCondition 29 = .ok (.aload_n 0, 1) := oc_42 shX12_readsCondition_29
theorem dX12_readsCondition_30 : decode cX12_readsCondition 30 = .ok (.bipush 13, 2) := oc_16 shX12_readsCondition_30 sgb_13
theorem dX12_readsCondition_32 : decode cX12_readsCondition 32 = .ok (.invokevirtual 274, 3) := oc_182 shX12_readsCondition_32
theorem dX12_readsCondition_35 : decode cX12_readsCondition 35 = .ok (.ifCond .ne 5, 3) := oc_154 shX12_readsCondition_35 sgw_0_5
theorem dX12_readsCondition_38 : decode cX12_readsCondition 38 = .ok (.iconst 0, 1) := oc_3 shX12_readsCondition_38
theorem dX12_readsCondition_39 : decode cX12_readsCondition 39 = .ok (.ireturn, 1) := oc_172 shX12_readsCondition_39
theorem dX12_readsCondition_40 : decode cX12_readsCondition 40 = .ok (.aload_n 0, 1) := oc_42 shX12_readsCondition_40
theorem dX12_readsCondition_41 : decode cX12_readsCondition 41 = .ok (.invokevirtual 239, 3) := oc_182 shX12_readsCondition_41
theorem dX12_readsCondition_44 : decode cX12_readsCondition 44 = .ok (.bipush 33, 2) := oc_16 shX12_readsCondition_44 sgb_33
theorem dX12_readsCondition_46 : decode cX12_readsCondition 46 = .ok (.if_icmp .eq 12, 3) := oc_159 shX12_readsCondition_46 sgw_0_12
theorem dX12_readsCondition_49 : decode cX12_readsCondition 49 = .ok (.aload_n 0, 1) := oc_42 shX12_readsCondition_49
theorem dX12_readsCondition_50 : decode cX12_readsCondition 50 = .ok (.invokevirtual 239, 3) := oc_182 shX12_readsCondition_50
theorem dX12_readsCondition_53 : decode cX12_readsCondition 53 = .ok (.bipush 40, 2) := oc_16 shX12_readsCondition_53 sgb_40
theorem dX12_readsCondition_55 : decode cX12_readsCondition 55 = .ok (.if_icmp .ne 28, 3) := oc_160 shX12_readsCondition_55 sgw_0_28
theorem dX12_readsCondition_58 : decode cX12_readsCondition 58 = .ok (.aload_n 0, 1) := oc_42 shX12_readsCondition_58
theorem dX12_readsCondition_59 : decode cX12_readsCondition 59 = .ok (.aload_n 0, 1) := oc_42 shX12_readsCondition_59
theorem dX12_readsCondition_60 : decode cX12_readsCondition 60 = .ok (.invokevirtual 239, 3) := oc_182 shX12_readsCondition_60
theorem dX12_readsCondition_63 : decode cX12_readsCondition 63 = .ok (.bipush 33, 2) := oc_16 shX12_readsCondition_63 sgb_33
theorem dX12_readsCondition_65 : decode cX12_readsCondition 65 = .ok (.if_icmp .ne 8, 3) := oc_160 shX12_readsCondition_65 sgw_0_8
theorem dX12_readsCondition_68 : decode cX12_readsCondition 68 = .ok (.bipush 10, 2) := oc_16 shX12_readsCondition_68 sgb_10
theorem dX12_readsCondition_70 : decode cX12_readsCondition 70 = .ok (.goto 5, 3) := oc_167 shX12_readsCondition_70 sgw_0_5
theorem dX12_readsCondition_73 : decode cX12_readsCondition 73 = .ok (.bipush 13, 2) := oc_16 shX12_readsCondition_73 sgb_13
theorem dX12_readsCondition_75 : decode cX12_readsCondition 75 = .ok (.invokevirtual 274, 3) := oc_182 shX12_readsCondition_75
theorem dX12_readsCondition_78 : decode cX12_readsCondition 78 = .ok (.ifCond .ne (-38), 3) := oc_154 shX12_readsCondition_78 sgw_255_218
theorem dX12_readsCondition_81 : decode cX12_readsCondition 81 = .ok (.iconst 0, 1) := oc_3 shX12_readsCondition_81
theorem dX12_readsCondition_82 : decode cX12_readsCondition 82 = .ok (.ireturn, 1) := oc_172 shX12_readsCondition_82
theorem dX12_readsCondition_83 : decode cX12_readsCondition 83 = .ok (.aload_n 0, 1) := oc_42 shX12_readsCondition_83
theorem dX12_readsCondition_84 : decode cX12_readsCondition 84 = .ok (.invokevirtual 303, 3) := oc_182 shX12_readsCondition_84
theorem dX12_readsCondition_87 : decode cX12_readsCondition 87 = .ok (.ifCond .ne 5, 3) := oc_154 shX12_readsCondition_87 sgw_0_5
theorem dX12_readsCondition_90 : decode cX12_readsCondition 90 = .ok (.iconst 0, 1) := oc_3 shX12_readsCondition_90
theorem dX12_readsCondition_91 : decode cX12_readsCondition 91 = .ok (.ireturn, 1) := oc_172 shX12_readsCondition_91
theorem dX12_readsCondition_92 : decode cX12_readsCondition 92 = .ok (.aload_n 0, 1) := oc_42 shX12_readsCondition_92
theorem dX12_readsCondition_93 : decode cX12_readsCondition 93 = .ok (.invokevirtual 239, 3) := oc_182 shX12_readsCondition_93
theorem dX12_readsCondition_96 : decode cX12_readsCondition 96 = .ok (.bipush 41, 2) := oc_16 shX12_readsCondition_96 sgb_41
theorem dX12_readsCondition_98 : decode cX12_readsCondition 98 = .ok (.if_icmp .ne 54, 3) := oc_160 shX12_readsCondition_98 sgw_0_54
theorem dX12_readsCondition_101 : decode cX12_readsCondition 101 = .ok (.aload_n 0, 1) := oc_42 shX12_readsCondition_101
theorem dX12_readsCondition_102 : decode cX12_readsCondition 102 = .ok (.iconst 1, 1) := oc_4 shX12_readsCondition_102
theorem dX12_readsCondition_103 : decode cX12_readsCondition 103 = .ok (.invokevirtual 306, 3) := oc_182 shX12_readsCondition_103
theorem dX12_readsCondition_106 : decode cX12_readsCondition 106 = .ok (.aload_n 0, 1) := oc_42 shX12_readsCondition_106
theorem dX12_readsCondition_107 : decode cX12_readsCondition 107 = .ok (.aload_n 0, 1) := oc_42 shX12_readsCondition_107
theorem dX12_readsCondition_108 : decode cX12_readsCondition 108 = .ok (.getfield 264, 3) := oc_180 shX12_readsCondition_108
theorem dX12_readsCondition_111 : decode cX12_readsCondition 111 = .ok (.iconst 1, 1) := oc_4 shX12_readsCondition_111
theorem dX12_readsCondition_112 : decode cX12_readsCondition 112 = .ok (.isub, 1) := oc_100 shX12_readsCondition_112
theorem dX12_readsCondition_113 : decode cX12_readsCondition 113 = .ok (.putfield 264, 3) := oc_181 shX12_readsCondition_113
theorem dX12_readsCondition_116 : decode cX12_readsCondition 116 = .ok (.aload_n 0, 1) := oc_42 shX12_readsCondition_116
theorem dX12_readsCondition_117 : decode cX12_readsCondition 117 = .ok (.aload_n 0, 1) := oc_42 shX12_readsCondition_117
theorem dX12_readsCondition_118 : decode cX12_readsCondition 118 = .ok (.getfield 261, 3) := oc_180 shX12_readsCondition_118
theorem dX12_readsCondition_121 : decode cX12_readsCondition 121 = .ok (.iconst 1, 1) := oc_4 shX12_readsCondition_121
theorem dX12_readsCondition_122 : decode cX12_readsCondition 122 = .ok (.isub, 1) := oc_100 shX12_readsCondition_122
theorem dX12_readsCondition_123 : decode cX12_readsCondition 123 = .ok (.putfield 261, 3) := oc_181 shX12_readsCondition_123
theorem dX12_readsCondition_126 : decode cX12_readsCondition 126 = .ok (.aload_n 0, 1) := oc_42 shX12_readsCondition_126
theorem dX12_readsCondition_127 : decode cX12_readsCondition 127 = .ok (.aload_n 0, 1) := oc_42 shX12_readsCondition_127
theorem dX12_readsCondition_128 : decode cX12_readsCondition 128 = .ok (.getfield 233, 3) := oc_180 shX12_readsCondition_128
theorem dX12_readsCondition_131 : decode cX12_readsCondition 131 = .ok (.iconst 1, 1) := oc_4 shX12_readsCondition_131
theorem dX12_readsCondition_132 : decode cX12_readsCondition 132 = .ok (.iadd, 1) := oc_96 shX12_readsCondition_132
theorem dX12_readsCondition_133 : decode cX12_readsCondition 133 = .ok (.putfield 233, 3) := oc_181 shX12_readsCondition_133
theorem dX12_readsCondition_136 : decode cX12_readsCondition 136 = .ok (.aload_n 0, 1) := oc_42 shX12_readsCondition_136
theorem dX12_readsCondition_137 : decode cX12_readsCondition 137 = .ok (.getfield 264, 3) := oc_180 shX12_readsCondition_137
theorem dX12_readsCondition_140 : decode cX12_readsCondition 140 = .ok (.ifCond .ne 5, 3) := oc_154 shX12_readsCondition_140 sgw_0_5
theorem dX12_readsCondition_143 : decode cX12_readsCondition 143 = .ok (.iconst 1, 1) := oc_4 shX12_readsCondition_143
theorem dX12_readsCondition_144 : decode cX12_readsCondition 144 = .ok (.ireturn, 1) := oc_172 shX12_readsCondition_144
theorem dX12_readsCondition_145 : decode cX12_readsCondition 145 = .ok (.aload_n 0, 1) := oc_42 shX12_readsCondition_145
theorem dX12_readsCondition_146 : decode cX12_readsCondition 146 = .ok (.invokevirtual 300, 3) := oc_182 shX12_readsCondition_146
theorem dX12_readsCondition_149 : decode cX12_readsCondition 149 = .ok (.goto (-57), 3) := oc_167 shX12_readsCondition_149 sgw_255_199
theorem dX12_readsCondition_152 : decode cX12_readsCondition 152 = .ok (.aload_n 0, 1) := oc_42 shX12_readsCondition_152
theorem dX12_readsCondition_153 : decode cX12_readsCondition 153 = .ok (.invokevirtual 239, 3) := oc_182 shX12_readsCondition_153
theorem dX12_readsCondition_156 : decode cX12_readsCondition 156 = .ok (.bipush 38, 2) := oc_16 shX12_readsCondition_156 sgb_38
theorem dX12_readsCondition_158 : decode cX12_readsCondition 158 = .ok (.if_icmp .eq 22, 3) := oc_159 shX12_readsCondition_158 sgw_0_22
theorem dX12_readsCondition_161 : decode cX12_readsCondition 161 = .ok (.aload_n 0, 1) := oc_42 shX12_readsCondition_161
theorem dX12_readsCondition_162 : decode cX12_readsCondition 162 = .ok (.invokevirtual 239, 3) := oc_182 shX12_readsCondition_162
theorem dX12_readsCondition_165 : decode cX12_readsCondition 165 = .ok (.bipush 124, 2) := oc_16 shX12_readsCondition_165 sgb_124
theorem dX12_readsCondition_167 : decode cX12_readsCondition 167 = .ok (.if_icmp .eq 13, 3) := oc_159 shX12_readsCondition_167 sgw_0_13
theorem dX12_readsCondition_170 : decode cX12_readsCondition 170 = .ok (.aload_n 0, 1) := oc_42 shX12_readsCondition_170
theorem dX12_readsCondition_171 : decode cX12_readsCondition 171 = .ok (.iconst 1, 1) := oc_4 shX12_readsCondition_171
theorem dX12_readsCondition_172 : decode cX12_readsCondition 172 = .ok (.aload_n 0, 1) := oc_42 shX12_readsCondition_172
theorem dX12_readsCondition_173 : decode cX12_readsCondition 173 = .ok (.getfield 233, 3) := oc_180 shX12_readsCondition_173
theorem dX12_readsCondition_176 : decode cX12_readsCondition 176 = .ok (.invokevirtual 246, 3) := oc_182 shX12_readsCondition_176
theorem dX12_readsCondition_179 : decode cX12_readsCondition 179 = .ok (.ireturn, 1) := oc_172 shX12_readsCondition_179
theorem dX12_readsCondition_180 : decode cX12_readsCondition 180 = .ok (.aload_n 0, 1) := oc_42 shX12_readsCondition_180
theorem dX12_readsCondition_181 : decode cX12_readsCondition 181 = .ok (.aload_n 0, 1) := oc_42 shX12_readsCondition_181
theorem dX12_readsCondition_182 : decode cX12_readsCondition 182 = .ok (.invokevirtual 239, 3) := oc_182 shX12_readsCondition_182
theorem dX12_readsCondition_185 : decode cX12_readsCondition 185 = .ok (.bipush 124, 2) := oc_16 shX12_readsCondition_185 sgb_124
theorem dX12_readsCondition_187 : decode cX12_readsCondition 187 = .ok (.if_icmp .ne 7, 3) := oc_160 shX12_readsCondition_187 sgw_0_7
theorem dX12_readsCondition_190 : decode cX12_readsCondition 190 = .ok (.iconst 1, 1) := oc_4 shX12_readsCondition_190
theorem dX12_readsCondition_191 : decode cX12_readsCondition 191 = .ok (.goto 4, 3) := oc_167 shX12_readsCondition_191 sgw_0_4
theorem dX12_readsCondition_194 : decode cX12_readsCondition 194 = .ok (.iconst 0, 1) := oc_3 shX12_readsCondition_194
theorem dX12_readsCondition_195 : decode cX12_readsCondition 195 = .ok (.invokevirtual 306, 3) := oc_182 shX12_readsCondition_195
theorem dX12_readsCondition_198 : decode cX12_readsCondition 198 = .ok (.aload_n 0, 1) := oc_42 shX12_readsCondition_198
theorem dX12_readsCondition_199 : decode cX12_readsCondition 199 = .ok (.aload_n 0, 1) := oc_42 shX12_readsCondition_199
theorem dX12_readsCondition_200 : decode cX12_readsCondition 200 = .ok (.invokevirtual 239, 3) := oc_182 shX12_readsCondition_200
theorem dX12_readsCondition_203 : decode cX12_readsCondition 203 = .ok (.bipush 38, 2) := oc_16 shX12_readsCondition_203 sgb_38
theorem dX12_readsCondition_205 : decode cX12_readsCondition 205 = .ok (.if_icmp .ne 8, 3) := oc_160 shX12_readsCondition_205 sgw_0_8
theorem dX12_readsCondition_208 : decode cX12_readsCondition 208 = .ok (.bipush 11, 2) := oc_16 shX12_readsCondition_208 sgb_11
theorem dX12_readsCondition_210 : decode cX12_readsCondition 210 = .ok (.goto 5, 3) := oc_167 shX12_readsCondition_210 sgw_0_5
theorem dX12_readsCondition_213 : decode cX12_readsCondition 213 = .ok (.bipush 12, 2) := oc_16 shX12_readsCondition_213 sgb_12
theorem dX12_readsCondition_215 : decode cX12_readsCondition 215 = .ok (.invokevirtual 309, 3) := oc_182 shX12_readsCondition_215
theorem dX12_readsCondition_218 : decode cX12_readsCondition 218 = .ok (.goto (-178), 3) := oc_167 shX12_readsCondition_218 sgw_255_78
noncomputable def sxX12_readsClause_140 : List UInt8 := []
noncomputable def sxX12_readsClause_139 : List UInt8 := 172 :: sxX12_readsClause_140
noncomputable def sxX12_readsClause_138 : List UInt8 := 4 :: sxX12_readsClause_139
noncomputable def sxX12_readsClause_135 : List UInt8 := 181 :: 1 :: 56 :: sxX12_readsClause_138
noncomputable def sxX12_readsClause_134 : List UInt8 := 96 :: sxX12_readsClause_135
noncomputable def sxX12_readsClause_133 : List UInt8 := 4 :: sxX12_readsClause_134
noncomputable def sxX12_readsClause_130 : List UInt8 := 180 :: 1 :: 56 :: sxX12_readsClause_133
noncomputable def sxX12_readsClause_129 : List UInt8 := 42 :: sxX12_readsClause_130
noncomputable def sxX12_readsClause_128 : List UInt8 := 42 :: sxX12_readsClause_129
noncomputable def sxX12_readsClause_127 : List UInt8 := 79 :: sxX12_readsClause_128
noncomputable def sxX12_readsClause_124 : List UInt8 := 180 :: 1 :: 1 :: sxX12_readsClause_127
noncomputable def sxX12_readsClause_123 : List UInt8 := 42 :: sxX12_readsClause_124
noncomputable def sxX12_readsClause_120 : List UInt8 := 180 :: 1 :: 56 :: sxX12_readsClause_123
noncomputable def sxX12_readsClause_119 : List UInt8 := 42 :: sxX12_readsClause_120
noncomputable def sxX12_readsClause_116 : List UInt8 := 180 :: 0 :: 68 :: sxX12_readsClause_119
noncomputable def sxX12_readsClause_115 : List UInt8 := 42 :: sxX12_readsClause_116
noncomputable def sxX12_readsClause_114 : List UInt8 := 172 :: sxX12_readsClause_115
noncomputable def sxX12_readsClause_113 : List UInt8 := 3 :: sxX12_readsClause_114
noncomputable def sxX12_readsClause_110 : List UInt8 := 154 :: 0 :: 5 :: sxX12_readsClause_113
noncomputable def sxX12_readsClause_107 : List UInt8 := 182 :: 1 :: 59 :: sxX12_readsClause_110
noncomputable def sxX12_readsClause_106 : List UInt8 := 42 :: sxX12_readsClause_107
noncomputable def sxX12_readsClause_105 : List UInt8 := 79 :: sxX12_readsClause_106
noncomputable def sxX12_readsClause_102 : List UInt8 := 180 :: 1 :: 1 :: sxX12_readsClause_105
noncomputable def sxX12_readsClause_101 : List UInt8 := 42 :: sxX12_readsClause_102
noncomputable def sxX12_readsClause_98 : List UInt8 := 180 :: 1 :: 56 :: sxX12_readsClause_101
noncomputable def sxX12_readsClause_97 : List UInt8 := 42 :: sxX12_readsClause_98
noncomputable def sxX12_readsClause_94 : List UInt8 := 180 :: 0 :: 65 :: sxX12_readsClause_97
noncomputable def sxX12_readsClause_93 : List UInt8 := 42 :: sxX12_readsClause_94
noncomputable def sxX12_readsClause_92 : List UInt8 := 172 :: sxX12_readsClause_93
noncomputable def sxX12_readsClause_91 : List UInt8 := 3 :: sxX12_readsClause_92
noncomputable def sxX12_readsClause_88 : List UInt8 := 154 :: 0 :: 5 :: sxX12_readsClause_91
noncomputable def sxX12_readsClause_85 : List UInt8 := 182 :: 1 :: 41 :: sxX12_readsClause_88
noncomputable def sxX12_readsClause_84 : List UInt8 := 42 :: sxX12_readsClause_85
noncomputable def sxX12_readsClause_81 : List UInt8 := 154 :: 0 :: 12 :: sxX12_readsClause_84
noncomputable def sxX12_readsClause_80 : List UInt8 := 27 :: sxX12_readsClause_81
noncomputable def sxX12_readsClause_77 : List UInt8 := 181 :: 1 :: 8 :: sxX12_readsClause_80
noncomputable def sxX12_readsClause_76 : List UInt8 := 3 :: sxX12_readsClause_77
noncomputable def sxX12_readsClause_75 : List UInt8 := 42 :: sxX12_readsClause_76
noncomputable def sxX12_readsClause_72 : List UInt8 := 181 :: 1 :: 5 :: sxX12_readsClause_75
noncomputable def sxX12_readsClause_71 : List UInt8 := 3 :: sxX12_readsClause_72
noncomputable def sxX12_readsClause_70 : List UInt8 := 42 :: sxX12_readsClause_71
noncomputable def sxX12_readsClause_69 : List UInt8 := 79 :: sxX12_readsClause_70
noncomputable def sxX12_readsClause_66 : List UInt8 := 180 :: 1 :: 1 :: sxX12_readsClause_69
noncomputable def sxX12_readsClause_65 : List UInt8 := 42 :: sxX12_readsClause_66
noncomputable def sxX12_readsClause_62 : List UInt8 := 180 :: 1 :: 56 :: sxX12_readsClause_65
noncomputable def sxX12_readsClause_61 : List UInt8 := 42 :: sxX12_readsClause_62
noncomputable def sxX12_readsClause_58 : List UInt8 := 180 :: 0 :: 62 :: sxX12_readsClause_61
noncomputable def sxX12_readsClause_57 : List UInt8 := 42 :: sxX12_readsClause_58
noncomputable def sxX12_readsClause_54 : List UInt8 := 181 :: 0 :: 233 :: sxX12_readsClause_57
noncomputable def sxX12_readsClause_53 : List UInt8 := 96 :: sxX12_readsClause_54
noncomputable def sxX12_readsClause_52 : List UInt8 := 4 :: sxX12_readsClause_53
noncomputable def sxX12_readsClause_49 : List UInt8 := 180 :: 0 :: 233 :: sxX12_readsClause_52
noncomputable def sxX12_readsClause_48 : List UInt8 := 42 :: sxX12_readsClause_49
noncomputable def sxX12_readsClause_47 : List UInt8 := 42 :: sxX12_readsClause_48
noncomputable def sxX12_readsClause_46 : List UInt8 := 172 :: sxX12_readsClause_47
noncomputable def sxX12_readsClause_43 : List UInt8 := 182 :: 0 :: 246 :: sxX12_readsClause_46
noncomputable def sxX12_readsClause_40 : List UInt8 := 180 :: 0 :: 233 :: sxX12_readsClause_43
noncomputable def sxX12_readsClause_39 : List UInt8 := 42 :: sxX12_readsClause_40
noncomputable def sxX12_readsClause_38 : List UInt8 := 7 :: sxX12_readsClause_39
noncomputable def sxX12_readsClause_37 : List UInt8 := 42 :: sxX12_readsClause_38
noncomputable def sxX12_readsClause_34 : List UInt8 := 160 :: 0 :: 13 :: sxX12_readsClause_37
noncomputable def sxX12_readsClause_32 : List UInt8 := 16 :: 12 :: sxX12_readsClause_34
noncomputable def sxX12_readsClause_29 : List UInt8 := 180 :: 1 :: 56 :: sxX12_readsClause_32
noncomputable def sxX12_readsClause_28 : List UInt8 := 42 :: sxX12_readsClause_29
noncomputable def sxX12_readsClause_27 : List UInt8 := 172 :: sxX12_readsClause_28
noncomputable def sxX12_readsClause_24 : List UInt8 := 182 :: 0 :: 246 :: sxX12_readsClause_27
noncomputable def sxX12_readsClause_21 : List UInt8 := 180 :: 0 :: 233 :: sxX12_readsClause_24
noncomputable def sxX12_readsClause_20 : List UInt8 := 42 :: sxX12_readsClause_21
noncomputable def sxX12_readsClause_19 : List UInt8 := 4 :: sxX12_readsClause_20
noncomputable def sxX12_readsClause_18 : List UInt8 := 42 :: sxX12_readsClause_19
noncomputable def sxX12_readsClause_15 : List UInt8 := 159 :: 0 :: 13 :: sxX12_readsClause_18
noncomputable def sxX12_readsClause_13 : List UInt8 := 16 :: 112 :: sxX12_readsClause_15
noncomputable def sxX12_readsClause_10 : List UInt8 := 167 :: 0 :: 5 :: sxX12_readsClause_13
noncomputable def sxX12_readsClause_8 : List UInt8 := 16 :: 108 :: sxX12_readsClause_10
noncomputable def sxX12_readsClause_5 : List UInt8 := 153 :: 0 :: 8 :: sxX12_readsClause_8
noncomputable def sxX12_readsClause_4 : List UInt8 := 27 :: sxX12_readsClause_5
noncomputable def sxX12_readsClause_1 : List UInt8 := 182 :: 0 :: 239 :: sxX12_readsClause_4
noncomputable def sxX12_readsClause_0 : List UInt8 := 42 :: sxX12_readsClause_1
theorem shX12_readsClause_0 : cX12_readsClause.data.toList.drop 0 = sxX12_readsClause_0 := rfl
theorem shX12_readsClause_1 : cX12_readsClause.data.toList.drop 1 = sxX12_readsClause_1 := dSn 1 shX12_readsClause_0
theorem shX12_readsClause_4 : cX12_readsClause.data.toList.drop 4 = sxX12_readsClause_4 := dSn 3 shX12_readsClause_1
theorem shX12_readsClause_5 : cX12_readsClause.data.toList.drop 5 = sxX12_readsClause_5 := dSn 1 shX12_readsClause_4
theorem shX12_readsClause_8 : cX12_readsClause.data.toList.drop 8 = sxX12_readsClause_8 := dSn 3 shX12_readsClause_5
theorem shX12_readsClause_10 : cX12_readsClause.data.toList.drop 10 = sxX12_readsClause_10 := dSn 2 shX12_readsClause_8
theorem shX12_readsClause_13 : cX12_readsClause.data.toList.drop 13 = sxX12_readsClause_13 := dSn 3 shX12_readsClause_10
theorem shX12_readsClause_15 : cX12_readsClause.data.toList.drop 15 = sxX12_readsClause_15 := dSn 2 shX12_readsClause_13
theorem shX12_readsClause_18 : cX12_readsClause.data.toList.drop 18 = sxX12_readsClause_18 := dSn 3 shX12_readsClause_15
theorem shX12_readsClause_19 : cX12_readsClause.data.toList.drop 19 = sxX12_readsClause_19 := dSn 1 shX12_readsClause_18
theorem shX12_readsClause_20 : cX12_readsClause.data.toList.drop 20 = sxX12_readsClause_20 := dSn 1 shX12_readsClause_19
theorem shX12_readsClause_21 : cX12_readsClause.data.toList.drop 21 = sxX12_readsClause_21 := dSn 1 shX12_readsClause_20
theorem shX12_readsClause_24 : cX12_readsClause.data.toList.drop 24 = sxX12_readsClause_24 := dSn 3 shX12_readsClause_21
theorem shX12_readsClause_27 : cX12_readsClause.data.toList.drop 27 = sxX12_readsClause_27 := dSn 3 shX12_readsClause_24
theorem shX12_readsClause_28 : cX12_readsClause.data.toList.drop 28 = sxX12_readsClause_28 := dSn 1 shX12_readsClause_27
theorem shX12_readsClause_29 : cX12_readsClause.data.toList.drop 29 = sxX12_readsClause_29 := dSn 1 shX12_readsClause_28
theorem shX12_readsClause_32 : cX12_readsClause.data.toList.drop 32 = sxX12_readsClause_32 := dSn 3 shX12_readsClause_29
theorem shX12_readsClause_34 : cX12_readsClause.data.toList.drop 34 = sxX12_readsClause_34 := dSn 2 shX12_readsClause_32
theorem shX12_readsClause_37 : cX12_readsClause.data.toList.drop 37 = sxX12_readsClause_37 := dSn 3 shX12_readsClause_34
theorem shX12_readsClause_38 : cX12_readsClause.data.toList.drop 38 = sxX12_readsClause_38 := dSn 1 shX12_readsClause_37
theorem shX12_readsClause_39 : cX12_readsClause.data.toList.drop 39 = sxX12_readsClause_39 := dSn 1 shX12_readsClause_38
theorem shX12_readsClause_40 : cX12_readsClause.data.toList.drop 40 = sxX12_readsClause_40 := dSn 1 shX12_readsClause_39
theorem shX12_readsClause_43 : cX12_readsClause.data.toList.drop 43 = sxX12_readsClause_43 := dSn 3 shX12_readsClause_40
theorem shX12_readsClause_46 : cX12_readsClause.data.toList.drop 46 = sxX12_readsClause_46 := dSn 3 shX12_readsClause_43
theorem shX12_readsClause_47 : cX12_readsClause.data.toList.drop 47 = sxX12_readsClause_47 := dSn 1 shX12_readsClause_46
theorem shX12_readsClause_48 : cX12_readsClause.data.toList.drop 48 = sxX12_readsClause_48 := dSn 1 shX12_readsClause_47
theorem shX12_readsClause_49 : cX12_readsClause.data.toList.drop 49 = sxX12_readsClause_49 := dSn 1 shX12_readsClause_48
theorem shX12_readsClause_52 : cX12_readsClause.data.toList.drop 52 = sxX12_readsClause_52 := dSn 3 shX12_readsClause_49
theorem shX12_readsClause_53 : cX12_readsClause.data.toList.drop 53 = sxX12_readsClause_53 := dSn 1 shX12_readsClause_52
theorem shX12_readsClause_54 : cX12_readsClause.data.toList.drop 54 = sxX12_readsClause_54 := dSn 1 shX12_readsClause_53
theorem shX12_readsClause_57 : cX12_readsClause.data.toList.drop 57 = sxX12_readsClause_57 := dSn 3 shX12_readsClause_54
theorem shX12_readsClause_58 : cX12_readsClause.data.toList.drop 58 = sxX12_readsClause_58 := dSn 1 shX12_readsClause_57
theorem shX12_readsClause_61 : cX12_readsClause.data.toList.drop 61 = sxX12_readsClause_61 := dSn 3 shX12_readsClause_58
theorem shX12_readsClause_62 : cX12_readsClause.data.toList.drop 62 = sxX12_readsClause_62 := dSn 1 shX12_readsClause_61
theorem shX12_readsClause_65 : cX12_readsClause.data.toList.drop 65 = sxX12_readsClause_65 := dSn 3 shX12_readsClause_62
theorem shX12_readsClause_66 : cX12_readsClause.data.toList.drop 66 = sxX12_readsClause_66 := dSn 1 shX12_readsClause_65
theorem shX12_readsClause_69 : cX12_readsClause.data.toList.drop 69 = sxX12_readsClause_69 := dSn 3 shX12_readsClause_66
theorem shX12_readsClause_70 : cX12_readsClause.data.toList.drop 70 = sxX12_readsClause_70 := dSn 1 shX12_readsClause_69
theorem shX12_readsClause_71 : cX12_readsClause.data.toList.drop 71 = sxX12_readsClause_71 := dSn 1 shX12_readsClause_70
theorem shX12_readsClause_72 : cX12_readsClause.data.toList.drop 72 = sxX12_readsClause_72 := dSn 1 shX12_readsClause_71
theorem shX12_readsClause_75 : cX12_readsClause.data.toList.drop 75 = sxX12_readsClause_75 := dSn 3 shX12_readsClause_72
theorem shX12_readsClause_76 : cX12_readsClause.data.toList.drop 76 = sxX12_readsClause_76 := dSn 1 shX12_readsClause_75
theorem shX12_readsClause_77 : cX12_readsClause.data.toList.drop 77 = sxX12_readsClause_77 := dSn 1 shX12_readsClause_76
theorem shX12_readsClause_80 : cX12_readsClause.data.toList.drop 80 = sxX12_readsClause_80 := dSn 3 shX12_readsClause_77
theorem shX12_readsClause_81 : cX12_readsClause.data.toList.drop 81 = sxX12_readsClause_81 := dSn 1 shX12_readsClause_80
theorem shX12_readsClause_84 : cX12_readsClause.data.toList.drop 84 = sxX12_readsClause_84 := dSn 3 shX12_readsClause_81
theorem shX12_readsClause_85 : cX12_readsClause.data.toList.drop 85 = sxX12_readsClause_85 := dSn 1 shX12_readsClause_84
theorem shX12_readsClause_88 : cX12_readsClause.data.toList.drop 88 = sxX12_readsClause_88 := dSn 3 shX12_readsClause_85
theorem shX12_readsClause_91 : cX12_readsClause.data.toList.drop 91 = sxX12_readsClause_91 := dSn 3 shX12_readsClause_88
theorem shX12_readsClause_92 : cX12_readsClause.data.toList.drop 92 = sxX12_readsClause_92 := dSn 1 shX12_readsClause_91
theorem shX12_readsClause_93 : cX12_readsClause.data.toList.drop 93 = sxX12_readsClause_93 := dSn 1 shX12_readsClause_92
theorem shX12_readsClause_94 : cX12_readsClause.data.toList.drop 94 = sxX12_readsClause_94 := dSn 1 shX12_readsClause_93
theorem shX12_readsClause_97 : cX12_readsClause.data.toList.drop 97 = sxX12_readsClause_97 := dSn 3 shX12_readsClause_94
theorem shX12_readsClause_98 : cX12_readsClause.data.toList.drop 98 = sxX12_readsClause_98 := dSn 1 shX12_readsClause_97
theorem shX12_readsClause_101 : cX12_readsClause.data.toList.drop 101 = sxX12_readsClause_101 := dSn 3 shX12_readsClause_98
theorem shX12_readsClause_102 : cX12_readsClause.data.toList.drop 102 = sxX12_readsClause_102 := dSn 1 shX12_readsClause_101
theorem shX12_readsClause_105 : cX12_readsClause.data.toList.drop 105 = sxX12_readsClause_105 := dSn 3 shX12_readsClause_102
theorem shX12_readsClause_106 : cX12_readsClause.data.toList.drop 106 = sxX12_readsClause_106 := dSn 1 shX12_readsClause_105
theorem shX12_readsClause_107 : cX12_readsClause.data.toList.drop 107 = sxX12_readsClause_107 := dSn 1 shX12_readsClause_106
theorem shX12_readsClause_110 : cX12_readsClause.data.toList.drop 110 = sxX12_readsClause_110 := dSn 3 shX12_readsClause_107
theorem shX12_readsClause_113 : cX12_readsClause.data.toList.drop 113 = sxX12_readsClause_113 := dSn 3 shX12_readsClause_110
theorem shX12_readsClause_114 : cX12_readsClause.data.toList.drop 114 = sxX12_readsClause_114 := dSn 1 shX12_readsClause_113
theorem shX12_readsClause_115 : cX12_readsClause.data.toList.drop 115 = sxX12_readsClause_115 := dSn 1 shX12_readsClause_114
theorem shX12_readsClause_116 : cX12_readsClause.data.toList.drop 116 = sxX12_readsClause_116 := dSn 1 shX12_readsClause_115
theorem shX12_readsClause_119 : cX12_readsClause.data.toList.drop 119 = sxX12_readsClause_119 := dSn 3 shX12_readsClause_116
theorem shX12_readsClause_120 : cX12_readsClause.data.toList.drop 120 = sxX12_readsClause_120 := dSn 1 shX12_readsClause_119
theorem shX12_readsClause_123 : cX12_readsClause.data.toList.drop 123 = sxX12_readsClause_123 := dSn 3 shX12_readsClause_120
theorem shX12_readsClause_124 : cX12_readsClause.data.toList.drop 124 = sxX12_readsClause_124 := dSn 1 shX12_readsClause_123
theorem shX12_readsClause_127 : cX12_readsClause.data.toList.drop 127 = sxX12_readsClause_127 := dSn 3 shX12_readsClause_124
theorem shX12_readsClause_128 : cX12_readsClause.data.toList.drop 128 = sxX12_readsClause_128 := dSn 1 shX12_readsClause_127
theorem shX12_readsClause_129 : cX12_readsClause.data.toList.drop 129 = sxX12_readsClause_129 := dSn 1 shX12_readsClause_128
theorem shX12_readsClause_130 : cX12_readsClause.data.toList.drop 130 = sxX12_readsClause_130 := dSn 1 shX12_readsClause_129
theorem shX12_readsClause_133 : cX12_readsClause.data.toList.drop 133 = sxX12_readsClause_133 := dSn 3 shX12_readsClause_130
theorem shX12_readsClause_134 : cX12_readsClause.data.toList.drop 134 = sxX12_readsClause_134 := dSn 1 shX12_readsClause_133
theorem shX12_readsClause_135 : cX12_readsClause.data.toList.drop 135 = sxX12_readsClause_135 := dSn 1 shX12_readsClause_134
theorem shX12_readsClause_138 : cX12_readsClause.data.toList.drop 138 = sxX12_readsClause_138 := dSn 3 shX12_readsClause_135
theorem shX12_readsClause_139 : cX12_readsClause.data.toList.drop 139 = sxX12_readsClause_139 := dSn 1 shX12_readsClause_138
theorem dX12_readsClause_0 : decode cX12_readsClause 0 = .ok (.aload_n 0, 1) := oc_42 shX12_readsClause_0
theorem dX12_readsClause_1 : decode cX12_readsClause 1 = .ok (.invokevirtual 239, 3) := oc_182 shX12_readsClause_1
theorem dX12_readsClause_4 : decode cX12_readsClause 4 = .ok (.iload_n 1, 1) := oc_27 shX12_readsClause_4
theorem dX12_readsClause_5 : decode cX12_readsClause 5 = .ok (.ifCond .eq 8, 3) := oc_153 shX12_readsClause_5 sgw_0_8
theorem dX12_readsClause_8 : decode cX12_readsClause 8 = .ok (.bipush 108, 2) := oc_16 shX12_readsClause_8 sgb_108
theorem dX12_readsClause_10 : decode cX12_readsClause 10 = .ok (.goto 5, 3) := oc_167 shX12_readsClause_10 sgw_0_5
theorem dX12_readsClause_13 : decode cX12_readsClause 13 = .ok (.bipush 112, 2) := oc_16 shX12_readsClause_13 sgb_112
theorem dX12_readsClause_15 : decode cX12_readsClause 15 = .ok (.if_icmp .eq 13, 3) := oc_159 shX12_readsClause_15 sgw_0_13
theorem dX12_readsClause_18 : decode cX12_readsClause 18 = .ok (.aload_n 0, 1) := oc_42 shX12_readsClause_18
theorem dX12_readsClause_19 : decode cX12_readsClause 19 = .ok (.iconst 1, 1) := oc_4 shX12_readsClause_19
theorem dX12_readsClause_20 : decode cX12_readsClause 20 = .ok (.aload_n 0, 1) := oc_42 shX12_readsClause_20
theorem dX12_readsClause_21 : decode cX12_readsClause 21 = .ok (.getfield 233, 3) := oc_180 shX12_readsClause_21
theorem dX12_readsClause_24 : decode cX12_readsClause 24 = .ok (.invokevirtual 246, 3) := oc_182 shX12_readsClause_24
theorem dX12_readsClause_27 : decode cX12_readsClause 27 = .ok (.ireturn, 1) := oc_172 shX12_readsClause_27
theorem dX12_readsClause_28 : decode cX12_readsClause 28 = .ok (.aload_n 0, 1) := oc_42 shX12_readsClause_28
theorem dX12_readsClause_29 : decode cX12_readsClause 29 = .ok (.getfield 312, 3) := oc_180 shX12_readsClause_29
theorem dX12_readsClause_32 : decode cX12_readsClause 32 = .ok (.bipush 12, 2) := oc_16 shX12_readsClause_32 sgb_12
theorem dX12_readsClause_34 : decode cX12_readsClause 34 = .ok (.if_icmp .ne 13, 3) := oc_160 shX12_readsClause_34 sgw_0_13
theorem dX12_readsClause_37 : decode cX12_readsClause 37 = .ok (.aload_n 0, 1) := oc_42 shX12_readsClause_37
theorem dX12_readsClause_38 : decode cX12_readsClause 38 = .ok (.iconst 4, 1) := oc_7 shX12_readsClause_38
theorem dX12_readsClause_39 : decode cX12_readsClause 39 = .ok (.aload_n 0, 1) := oc_42 shX12_readsClause_39
theorem dX12_readsClause_40 : decode cX12_readsClause 40 = .ok (.getfield 233, 3) := oc_180 shX12_readsClause_40
theorem dX12_readsClause_43 : decode cX12_readsClause 43 = .ok (.invokevirtual 246, 3) := oc_182 shX12_readsClause_43
theorem dX12_readsClause_46 : decode cX12_readsClause 46 = .ok (.ireturn, 1) := oc_172 shX12_readsClause_46
theorem dX12_readsClause_47 : decode cX12_readsClause 47 = .ok (.aload_n 0, 1) := oc_42 shX12_readsClause_47
theorem dX12_readsClause_48 : decode cX12_readsClause 48 = .ok (.aload_n 0, 1) := oc_42 shX12_readsClause_48
theorem dX12_readsClause_49 : decode cX12_readsClause 49 = .ok (.getfield 233, 3) := oc_180 shX12_readsClause_49
theorem dX12_readsClause_52 : decode cX12_readsClause 52 = .ok (.iconst 1, 1) := oc_4 shX12_readsClause_52
theorem dX12_readsClause_53 : decode cX12_readsClause 53 = .ok (.iadd, 1) := oc_96 shX12_readsClause_53
theorem dX12_readsClause_54 : decode cX12_readsClause 54 = .ok (.putfield 233, 3) := oc_181 shX12_readsClause_54
theorem dX12_readsClause_57 : decode cX12_readsClause 57 = .ok (.aload_n 0, 1) := oc_42 shX12_readsClause_57
theorem dX12_readsClause_58 : decode cX12_readsClause 58 = .ok (.getfield 62, 3) := oc_180 shX12_readsClause_58
theorem dX12_readsClause_61 : decode cX12_readsClause 61 = .ok (.aload_n 0, 1) := oc_42 shX12_readsClause_61
theorem dX12_readsClause_62 : decode cX12_readsClause 62 = .ok (.getfield 312, 3) := oc_180 shX12_readsClause_62
theorem dX12_readsClause_65 : decode cX12_readsClause 65 = .ok (.aload_n 0, 1) := oc_42 shX12_readsClause_65
theorem dX12_readsClause_66 : decode cX12_readsClause 66 = .ok (.getfield 257, 3) := oc_180 shX12_readsClause_66
theorem dX12_readsClause_69 : decode cX12_readsClause 69 = .ok (.iastore, 1) := oc_79 shX12_readsClause_69
theorem dX12_readsClause_70 : decode cX12_readsClause 70 = .ok (.aload_n 0, 1) := oc_42 shX12_readsClause_70
theorem dX12_readsClause_71 : decode cX12_readsClause 71 = .ok (.iconst 0, 1) := oc_3 shX12_readsClause_71
theorem dX12_readsClause_72 : decode cX12_readsClause 72 = .ok (.putfield 261, 3) := oc_181 shX12_readsClause_72
theorem dX12_readsClause_75 : decode cX12_readsClause 75 = .ok (.aload_n 0, 1) := oc_42 shX12_readsClause_75
theorem dX12_readsClause_76 : decode cX12_readsClause 76 = .ok (.iconst 0, 1) := oc_3 shX12_readsClause_76
theorem dX12_readsClause_77 : decode cX12_readsClause 77 = .ok (.putfield 264, 3) := oc_181 shX12_readsClause_77
theorem dX12_readsClause_80 : decode cX12_readsClause 80 = .ok (.iload_n 1, 1) := oc_27 shX12_readsClause_80
theorem dX12_readsClause_81 : decode cX12_readsClause 81 = .ok (.ifCond .ne 12, 3) := oc_154 shX12_readsClause_81 sgw_0_12
theorem dX12_readsClause_84 : decode cX12_readsClause 84 = .ok (.aload_n 0, 1) := oc_42 shX12_readsClause_84
theorem dX12_readsClause_85 : decode cX12_readsClause 85 = .ok (.invokevirtual 297, 3) := oc_182 shX12_readsClause_85
theorem dX12_readsClause_88 : decode cX12_readsClause 88 = .ok (.ifCond .ne 5, 3) := oc_154 shX12_readsClause_88 sgw_0_5
theorem dX12_readsClause_91 : decode cX12_readsClause 91 = .ok (.iconst 0, 1) := oc_3 shX12_readsClause_91
theorem dX12_readsClause_92 : decode cX12_readsClause 92 = .ok (.ireturn, 1) := oc_172 shX12_readsClause_92
theorem dX12_readsClause_93 : decode cX12_readsClause 93 = .ok (.aload_n 0, 1) := oc_42 shX12_readsClause_93
theorem dX12_readsClause_94 : decode cX12_readsClause 94 = .ok (.getfield 65, 3) := oc_180 shX12_readsClause_94
theorem dX12_readsClause_97 : decode cX12_readsClause 97 = .ok (.aload_n 0, 1) := oc_42 shX12_readsClause_97
theorem dX12_readsClause_98 : decode cX12_readsClause 98 = .ok (.getfield 312, 3) := oc_180 shX12_readsClause_98
theorem dX12_readsClause_101 : decode cX12_readsClause 101 = .ok (.aload_n 0, 1) := oc_42 shX12_readsClause_101
theorem dX12_readsClause_102 : decode cX12_readsClause 102 = .ok (.getfield 257, 3) := oc_180 shX12_readsClause_102
theorem dX12_readsClause_105 : decode cX12_readsClause 105 = .ok (.iastore, 1) := oc_79 shX12_readsClause_105
theorem dX12_readsClause_106 : decode cX12_readsClause 106 = .ok (.aload_n 0, 1) := oc_42 shX12_readsClause_106
theorem dX12_readsClause_107 : decode cX12_readsClause 107 = .ok (.invokevirtual 315, 3) := oc_182 shX12_readsClause_107
theorem dX12_readsClause_110 : decode cX12_readsClause 110 = .ok (.ifCond .ne 5, 3) := oc_154 shX12_readsClause_110 sgw_0_5
theorem dX12_readsClause_113 : decode cX12_readsClause 113 = .ok (.iconst 0, 1) := oc_3 shX12_readsClause_113
theorem dX12_readsClause_114 : decode cX12_readsClause 114 = .ok (.ireturn, 1) := oc_172 shX12_readsClause_114
theorem dX12_readsClause_115 : decode cX12_readsClause 115 = .ok (.aload_n 0, 1) := oc_42 shX12_readsClause_115
theorem dX12_readsClause_116 : decode cX12_readsClause 116 = .ok (.getfield 68, 3) := oc_180 shX12_readsClause_116
theorem dX12_readsClause_119 : decode cX12_readsClause 119 = .ok (.aload_n 0, 1) := oc_42 shX12_readsClause_119
theorem dX12_readsClause_120 : decode cX12_readsClause 120 = .ok (.getfield 312, 3) := oc_180 shX12_readsClause_120
theorem dX12_readsClause_123 : decode cX12_readsClause 123 = .ok (.aload_n 0, 1) := oc_42 shX12_readsClause_123
theorem dX12_readsClause_124 : decode cX12_readsClause 124 = .ok (.getfield 257, 3) := oc_180 shX12_readsClause_124
theorem dX12_readsClause_127 : decode cX12_readsClause 127 = .ok (.iastore, 1) := oc_79 shX12_readsClause_127
theorem dX12_readsClause_128 : decode cX12_readsClause 128 = .ok (.aload_n 0, 1) := oc_42 shX12_readsClause_128
theorem dX12_readsClause_129 : decode cX12_readsClause 129 = .ok (.aload_n 0, 1) := oc_42 shX12_readsClause_129
theorem dX12_readsClause_130 : decode cX12_readsClause 130 = .ok (.getfield 312, 3) := oc_180 shX12_readsClause_130
theorem dX12_readsClause_133 : decode cX12_readsClause 133 = .ok (.iconst 1, 1) := oc_4 shX12_readsClause_133
theorem dX12_readsClause_134 : decode cX12_readsClause 134 = .ok (.iadd, 1) := oc_96 shX12_readsClause_134
theorem dX12_readsClause_135 : decode cX12_readsClause 135 = .ok (.putfield 312, 3) := oc_181 shX12_readsClause_135
theorem dX12_readsClause_138 : decode cX12_readsClause 138 = .ok (.iconst 1, 1) := oc_4 shX12_readsClause_138
theorem dX12_readsClause_139 : decode cX12_readsClause 139 = .ok (.ireturn, 1) := oc_172 shX12_readsClause_139
noncomputable def sxX12_reads_241 : List UInt8 := []
noncomputable def sxX12_reads_240 : List UInt8 := 172 :: sxX12_reads_241
noncomputable def sxX12_reads_237 : List UInt8 := 180 :: 1 :: 56 :: sxX12_reads_240
noncomputable def sxX12_reads_236 : List UInt8 := 42 :: sxX12_reads_237
noncomputable def sxX12_reads_233 : List UInt8 := 167 :: 255 :: 175 :: sxX12_reads_236
noncomputable def sxX12_reads_230 : List UInt8 := 132 :: 4 :: 1 :: sxX12_reads_233
noncomputable def sxX12_reads_229 : List UInt8 := 79 :: sxX12_reads_230
noncomputable def sxX12_reads_228 : List UInt8 := 96 :: sxX12_reads_229
noncomputable def sxX12_reads_227 : List UInt8 := 46 :: sxX12_reads_228
noncomputable def sxX12_reads_225 : List UInt8 := 21 :: 4 :: sxX12_reads_227
noncomputable def sxX12_reads_222 : List UInt8 := 180 :: 0 :: 68 :: sxX12_reads_225
noncomputable def sxX12_reads_221 : List UInt8 := 42 :: sxX12_reads_222
noncomputable def sxX12_reads_220 : List UInt8 := 104 :: sxX12_reads_221
noncomputable def sxX12_reads_219 : List UInt8 := 27 :: sxX12_reads_220
noncomputable def sxX12_reads_216 : List UInt8 := 17 :: 0 :: 180 :: sxX12_reads_219
noncomputable def sxX12_reads_214 : List UInt8 := 21 :: 5 :: sxX12_reads_216
noncomputable def sxX12_reads_211 : List UInt8 := 180 :: 0 :: 83 :: sxX12_reads_214
noncomputable def sxX12_reads_210 : List UInt8 := 42 :: sxX12_reads_211
noncomputable def sxX12_reads_209 : List UInt8 := 79 :: sxX12_reads_210
noncomputable def sxX12_reads_208 : List UInt8 := 96 :: sxX12_reads_209
noncomputable def sxX12_reads_207 : List UInt8 := 46 :: sxX12_reads_208
noncomputable def sxX12_reads_205 : List UInt8 := 21 :: 4 :: sxX12_reads_207
noncomputable def sxX12_reads_202 : List UInt8 := 180 :: 0 :: 65 :: sxX12_reads_205
noncomputable def sxX12_reads_201 : List UInt8 := 42 :: sxX12_reads_202
noncomputable def sxX12_reads_200 : List UInt8 := 104 :: sxX12_reads_201
noncomputable def sxX12_reads_199 : List UInt8 := 27 :: sxX12_reads_200
noncomputable def sxX12_reads_196 : List UInt8 := 17 :: 0 :: 180 :: sxX12_reads_199
noncomputable def sxX12_reads_194 : List UInt8 := 21 :: 5 :: sxX12_reads_196
noncomputable def sxX12_reads_191 : List UInt8 := 180 :: 0 :: 80 :: sxX12_reads_194
noncomputable def sxX12_reads_190 : List UInt8 := 42 :: sxX12_reads_191
noncomputable def sxX12_reads_189 : List UInt8 := 79 :: sxX12_reads_190
noncomputable def sxX12_reads_188 : List UInt8 := 96 :: sxX12_reads_189
noncomputable def sxX12_reads_187 : List UInt8 := 46 :: sxX12_reads_188
noncomputable def sxX12_reads_185 : List UInt8 := 21 :: 4 :: sxX12_reads_187
noncomputable def sxX12_reads_182 : List UInt8 := 180 :: 0 :: 62 :: sxX12_reads_185
noncomputable def sxX12_reads_181 : List UInt8 := 42 :: sxX12_reads_182
noncomputable def sxX12_reads_180 : List UInt8 := 104 :: sxX12_reads_181
noncomputable def sxX12_reads_179 : List UInt8 := 27 :: sxX12_reads_180
noncomputable def sxX12_reads_176 : List UInt8 := 17 :: 0 :: 180 :: sxX12_reads_179
noncomputable def sxX12_reads_174 : List UInt8 := 21 :: 5 :: sxX12_reads_176
noncomputable def sxX12_reads_171 : List UInt8 := 180 :: 0 :: 77 :: sxX12_reads_174
noncomputable def sxX12_reads_170 : List UInt8 := 42 :: sxX12_reads_171
noncomputable def sxX12_reads_168 : List UInt8 := 54 :: 5 :: sxX12_reads_170
noncomputable def sxX12_reads_167 : List UInt8 := 96 :: sxX12_reads_168
noncomputable def sxX12_reads_165 : List UInt8 := 21 :: 4 :: sxX12_reads_167
noncomputable def sxX12_reads_164 : List UInt8 := 104 :: sxX12_reads_165
noncomputable def sxX12_reads_163 : List UInt8 := 27 :: sxX12_reads_164
noncomputable def sxX12_reads_161 : List UInt8 := 16 :: 12 :: sxX12_reads_163
noncomputable def sxX12_reads_158 : List UInt8 := 162 :: 0 :: 78 :: sxX12_reads_161
noncomputable def sxX12_reads_155 : List UInt8 := 180 :: 1 :: 56 :: sxX12_reads_158
noncomputable def sxX12_reads_154 : List UInt8 := 42 :: sxX12_reads_155
noncomputable def sxX12_reads_152 : List UInt8 := 21 :: 4 :: sxX12_reads_154
noncomputable def sxX12_reads_150 : List UInt8 := 54 :: 4 :: sxX12_reads_152
noncomputable def sxX12_reads_149 : List UInt8 := 3 :: sxX12_reads_150
noncomputable def sxX12_reads_146 : List UInt8 := 167 :: 255 :: 224 :: sxX12_reads_149
noncomputable def sxX12_reads_143 : List UInt8 := 132 :: 4 :: 1 :: sxX12_reads_146
noncomputable def sxX12_reads_142 : List UInt8 := 79 :: sxX12_reads_143
noncomputable def sxX12_reads_141 : List UInt8 := 46 :: sxX12_reads_142
noncomputable def sxX12_reads_139 : List UInt8 := 21 :: 4 :: sxX12_reads_141
noncomputable def sxX12_reads_136 : List UInt8 := 180 :: 0 :: 56 :: sxX12_reads_139
noncomputable def sxX12_reads_135 : List UInt8 := 42 :: sxX12_reads_136
noncomputable def sxX12_reads_134 : List UInt8 := 96 :: sxX12_reads_135
noncomputable def sxX12_reads_132 : List UInt8 := 21 :: 4 :: sxX12_reads_134
noncomputable def sxX12_reads_131 : List UInt8 := 104 :: sxX12_reads_132
noncomputable def sxX12_reads_130 : List UInt8 := 27 :: sxX12_reads_131
noncomputable def sxX12_reads_127 : List UInt8 := 17 :: 0 :: 180 :: sxX12_reads_130
noncomputable def sxX12_reads_124 : List UInt8 := 180 :: 0 :: 71 :: sxX12_reads_127
noncomputable def sxX12_reads_123 : List UInt8 := 42 :: sxX12_reads_124
noncomputable def sxX12_reads_120 : List UInt8 := 162 :: 0 :: 29 :: sxX12_reads_123
noncomputable def sxX12_reads_117 : List UInt8 := 180 :: 1 :: 1 :: sxX12_reads_120
noncomputable def sxX12_reads_116 : List UInt8 := 42 :: sxX12_reads_117
noncomputable def sxX12_reads_114 : List UInt8 := 21 :: 4 :: sxX12_reads_116
noncomputable def sxX12_reads_112 : List UInt8 := 54 :: 4 :: sxX12_reads_114
noncomputable def sxX12_reads_111 : List UInt8 := 3 :: sxX12_reads_112
noncomputable def sxX12_reads_110 : List UInt8 := 79 :: sxX12_reads_111
noncomputable def sxX12_reads_107 : List UInt8 := 180 :: 1 :: 56 :: sxX12_reads_110
noncomputable def sxX12_reads_106 : List UInt8 := 42 :: sxX12_reads_107
noncomputable def sxX12_reads_105 : List UInt8 := 27 :: sxX12_reads_106
noncomputable def sxX12_reads_102 : List UInt8 := 180 :: 0 :: 74 :: sxX12_reads_105
noncomputable def sxX12_reads_101 : List UInt8 := 42 :: sxX12_reads_102
noncomputable def sxX12_reads_100 : List UInt8 := 172 :: sxX12_reads_101
noncomputable def sxX12_reads_97 : List UInt8 := 180 :: 0 :: 243 :: sxX12_reads_100
noncomputable def sxX12_reads_96 : List UInt8 := 42 :: sxX12_reads_97
noncomputable def sxX12_reads_93 : List UInt8 := 154 :: 0 :: 8 :: sxX12_reads_96
noncomputable def sxX12_reads_92 : List UInt8 := 29 :: sxX12_reads_93
noncomputable def sxX12_reads_89 : List UInt8 := 181 :: 0 :: 226 :: sxX12_reads_92
noncomputable def sxX12_reads_88 : List UInt8 := 3 :: sxX12_reads_89
noncomputable def sxX12_reads_87 : List UInt8 := 42 :: sxX12_reads_88
noncomputable def sxX12_reads_84 : List UInt8 := 167 :: 255 :: 208 :: sxX12_reads_87
noncomputable def sxX12_reads_83 : List UInt8 := 62 :: sxX12_reads_84
noncomputable def sxX12_reads_82 : List UInt8 := 3 :: sxX12_reads_83
noncomputable def sxX12_reads_79 : List UInt8 := 167 :: 0 :: 4 :: sxX12_reads_82
noncomputable def sxX12_reads_78 : List UInt8 := 4 :: sxX12_reads_79
noncomputable def sxX12_reads_75 : List UInt8 := 153 :: 0 :: 7 :: sxX12_reads_78
noncomputable def sxX12_reads_72 : List UInt8 := 182 :: 1 :: 62 :: sxX12_reads_75
noncomputable def sxX12_reads_71 : List UInt8 := 3 :: sxX12_reads_72
noncomputable def sxX12_reads_68 : List UInt8 := 167 :: 0 :: 4 :: sxX12_reads_71
noncomputable def sxX12_reads_67 : List UInt8 := 4 :: sxX12_reads_68
noncomputable def sxX12_reads_64 : List UInt8 := 160 :: 0 :: 7 :: sxX12_reads_67
noncomputable def sxX12_reads_62 : List UInt8 := 16 :: 10 :: sxX12_reads_64
noncomputable def sxX12_reads_61 : List UInt8 := 27 :: sxX12_reads_62
noncomputable def sxX12_reads_60 : List UInt8 := 42 :: sxX12_reads_61
noncomputable def sxX12_reads_57 : List UInt8 := 153 :: 0 :: 25 :: sxX12_reads_60
noncomputable def sxX12_reads_54 : List UInt8 := 182 :: 1 :: 66 :: sxX12_reads_57
noncomputable def sxX12_reads_52 : List UInt8 := 16 :: 59 :: sxX12_reads_54
noncomputable def sxX12_reads_51 : List UInt8 := 42 :: sxX12_reads_52
noncomputable def sxX12_reads_48 : List UInt8 := 162 :: 0 :: 39 :: sxX12_reads_51
noncomputable def sxX12_reads_45 : List UInt8 := 180 :: 0 :: 236 :: sxX12_reads_48
noncomputable def sxX12_reads_44 : List UInt8 := 42 :: sxX12_reads_45
noncomputable def sxX12_reads_41 : List UInt8 := 180 :: 0 :: 233 :: sxX12_reads_44
noncomputable def sxX12_reads_40 : List UInt8 := 42 :: sxX12_reads_41
noncomputable def sxX12_reads_37 : List UInt8 := 153 :: 0 :: 50 :: sxX12_reads_40
noncomputable def sxX12_reads_36 : List UInt8 := 29 :: sxX12_reads_37
noncomputable def sxX12_reads_35 : List UInt8 := 62 :: sxX12_reads_36
noncomputable def sxX12_reads_32 : List UInt8 := 182 :: 1 :: 62 :: sxX12_reads_35
noncomputable def sxX12_reads_31 : List UInt8 := 3 :: sxX12_reads_32
noncomputable def sxX12_reads_28 : List UInt8 := 167 :: 0 :: 4 :: sxX12_reads_31
noncomputable def sxX12_reads_27 : List UInt8 := 4 :: sxX12_reads_28
noncomputable def sxX12_reads_24 : List UInt8 := 160 :: 0 :: 7 :: sxX12_reads_27
noncomputable def sxX12_reads_22 : List UInt8 := 16 :: 10 :: sxX12_reads_24
noncomputable def sxX12_reads_21 : List UInt8 := 27 :: sxX12_reads_22
noncomputable def sxX12_reads_20 : List UInt8 := 42 :: sxX12_reads_21
noncomputable def sxX12_reads_17 : List UInt8 := 181 :: 1 :: 56 :: sxX12_reads_20
noncomputable def sxX12_reads_16 : List UInt8 := 3 :: sxX12_reads_17
noncomputable def sxX12_reads_15 : List UInt8 := 42 :: sxX12_reads_16
noncomputable def sxX12_reads_12 : List UInt8 := 181 :: 1 :: 1 :: sxX12_reads_15
noncomputable def sxX12_reads_11 : List UInt8 := 3 :: sxX12_reads_12
noncomputable def sxX12_reads_10 : List UInt8 := 42 :: sxX12_reads_11
noncomputable def sxX12_reads_7 : List UInt8 := 181 :: 0 :: 236 :: sxX12_reads_10
noncomputable def sxX12_reads_6 : List UInt8 := 28 :: sxX12_reads_7
noncomputable def sxX12_reads_5 : List UInt8 := 42 :: sxX12_reads_6
noncomputable def sxX12_reads_2 : List UInt8 := 181 :: 0 :: 233 :: sxX12_reads_5
noncomputable def sxX12_reads_1 : List UInt8 := 3 :: sxX12_reads_2
noncomputable def sxX12_reads_0 : List UInt8 := 42 :: sxX12_reads_1
theorem shX12_reads_0 : cX12_reads.data.toList.drop 0 = sxX12_reads_0 := rfl
theorem shX12_reads_1 : cX12_reads.data.toList.drop 1 = sxX12_reads_1 := dSn 1 shX12_reads_0
theorem shX12_reads_2 : cX12_reads.data.toList.drop 2 = sxX12_reads_2 := dSn 1 shX12_reads_1
theorem shX12_reads_5 : cX12_reads.data.toList.drop 5 = sxX12_reads_5 := dSn 3 shX12_reads_2
theorem shX12_reads_6 : cX12_reads.data.toList.drop 6 = sxX12_reads_6 := dSn 1 shX12_reads_5
theorem shX12_reads_7 : cX12_reads.data.toList.drop 7 = sxX12_reads_7 := dSn 1 shX12_reads_6
theorem shX12_reads_10 : cX12_reads.data.toList.drop 10 = sxX12_reads_10 := dSn 3 shX12_reads_7
theorem shX12_reads_11 : cX12_reads.data.toList.drop 11 = sxX12_reads_11 := dSn 1 shX12_reads_10
theorem shX12_reads_12 : cX12_reads.data.toList.drop 12 = sxX12_reads_12 := dSn 1 shX12_reads_11
theorem shX12_reads_15 : cX12_reads.data.toList.drop 15 = sxX12_reads_15 := dSn 3 shX12_reads_12
theorem shX12_reads_16 : cX12_reads.data.toList.drop 16 = sxX12_reads_16 := dSn 1 shX12_reads_15
theorem shX12_reads_17 : cX12_reads.data.toList.drop 17 = sxX12_reads_17 := dSn 1 shX12_reads_16
theorem shX12_reads_20 : cX12_reads.data.toList.drop 20 = sxX12_reads_20 := dSn 3 shX12_reads_17
theorem shX12_reads_21 : cX12_reads.data.toList.drop 21 = sxX12_reads_21 := dSn 1 shX12_reads_20
theorem shX12_reads_22 : cX12_reads.data.toList.drop 22 = sxX12_reads_22 := dSn 1 shX12_reads_21
theorem shX12_reads_24 : cX12_reads.data.toList.drop 24 = sxX12_reads_24 := dSn 2 shX12_reads_22
theorem shX12_reads_27 : cX12_reads.data.toList.drop 27 = sxX12_reads_27 := dSn 3 shX12_reads_24
theorem shX12_reads_28 : cX12_reads.data.toList.drop 28 = sxX12_reads_28 := dSn 1 shX12_reads_27
theorem shX12_reads_31 : cX12_reads.data.toList.drop 31 = sxX12_reads_31 := dSn 3 shX12_reads_28
theorem shX12_reads_32 : cX12_reads.data.toList.drop 32 = sxX12_reads_32 := dSn 1 shX12_reads_31
theorem shX12_reads_35 : cX12_reads.data.toList.drop 35 = sxX12_reads_35 := dSn 3 shX12_reads_32
theorem shX12_reads_36 : cX12_reads.data.toList.drop 36 = sxX12_reads_36 := dSn 1 shX12_reads_35
theorem shX12_reads_37 : cX12_reads.data.toList.drop 37 = sxX12_reads_37 := dSn 1 shX12_reads_36
theorem shX12_reads_40 : cX12_reads.data.toList.drop 40 = sxX12_reads_40 := dSn 3 shX12_reads_37
theorem shX12_reads_41 : cX12_reads.data.toList.drop 41 = sxX12_reads_41 := dSn 1 shX12_reads_40
theorem shX12_reads_44 : cX12_reads.data.toList.drop 44 = sxX12_reads_44 := dSn 3 shX12_reads_41
theorem shX12_reads_45 : cX12_reads.data.toList.drop 45 = sxX12_reads_45 := dSn 1 shX12_reads_44
theorem shX12_reads_48 : cX12_reads.data.toList.drop 48 = sxX12_reads_48 := dSn 3 shX12_reads_45
theorem shX12_reads_51 : cX12_reads.data.toList.drop 51 = sxX12_reads_51 := dSn 3 shX12_reads_48
theorem shX12_reads_52 : cX12_reads.data.toList.drop 52 = sxX12_reads_52 := dSn 1 shX12_reads_51
theorem shX12_reads_54 : cX12_reads.data.toList.drop 54 = sxX12_reads_54 := dSn 2 shX12_reads_52
theorem shX12_reads_57 : cX12_reads.data.toList.drop 57 = sxX12_reads_57 := dSn 3 shX12_reads_54
theorem shX12_reads_60 : cX12_reads.data.toList.drop 60 = sxX12_reads_60 := dSn 3 shX12_reads_57
theorem shX12_reads_61 : cX12_reads.data.toList.drop 61 = sxX12_reads_61 := dSn 1 shX12_reads_60
theorem shX12_reads_62 : cX12_reads.data.toList.drop 62 = sxX12_reads_62 := dSn 1 shX12_reads_61
theorem shX12_reads_64 : cX12_reads.data.toList.drop 64 = sxX12_reads_64 := dSn 2 shX12_reads_62
theorem shX12_reads_67 : cX12_reads.data.toList.drop 67 = sxX12_reads_67 := dSn 3 shX12_reads_64
theorem shX12_reads_68 : cX12_reads.data.toList.drop 68 = sxX12_reads_68 := dSn 1 shX12_reads_67
theorem shX12_reads_71 : cX12_reads.data.toList.drop 71 = sxX12_reads_71 := dSn 3 shX12_reads_68
theorem shX12_reads_72 : cX12_reads.data.toList.drop 72 = sxX12_reads_72 := dSn 1 shX12_reads_71
theorem shX12_reads_75 : cX12_reads.data.toList.drop 75 = sxX12_reads_75 := dSn 3 shX12_reads_72
theorem shX12_reads_78 : cX12_reads.data.toList.drop 78 = sxX12_reads_78 := dSn 3 shX12_reads_75
theorem shX12_reads_79 : cX12_reads.data.toList.drop 79 = sxX12_reads_79 := dSn 1 shX12_reads_78
theorem shX12_reads_82 : cX12_reads.data.toList.drop 82 = sxX12_reads_82 := dSn 3 shX12_reads_79
theorem shX12_reads_83 : cX12_reads.data.toList.drop 83 = sxX12_reads_83 := dSn 1 shX12_reads_82
theorem shX12_reads_84 : cX12_reads.data.toList.drop 84 = sxX12_reads_84 := dSn 1 shX12_reads_83
theorem shX12_reads_87 : cX12_reads.data.toList.drop 87 = sxX12_reads_87 := dSn 3 shX12_reads_84
theorem shX12_reads_88 : cX12_reads.data.toList.drop 88 = sxX12_reads_88 := dSn 1 shX12_reads_87
theorem shX12_reads_89 : cX12_reads.data.toList.drop 89 = sxX12_reads_89 := dSn 1 shX12_reads_88
theorem shX12_reads_92 : cX12_reads.data.toList.drop 92 = sxX12_reads_92 := dSn 3 shX12_reads_89
theorem shX12_reads_93 : cX12_reads.data.toList.drop 93 = sxX12_reads_93 := dSn 1 shX12_reads_92
theorem shX12_reads_96 : cX12_reads.data.toList.drop 96 = sxX12_reads_96 := dSn 3 shX12_reads_93
theorem shX12_reads_97 : cX12_reads.data.toList.drop 97 = sxX12_reads_97 := dSn 1 shX12_reads_96
theorem shX12_reads_100 : cX12_reads.data.toList.drop 100 = sxX12_reads_100 := dSn 3 shX12_reads_97
theorem shX12_reads_101 : cX12_reads.data.toList.drop 101 = sxX12_reads_101 := dSn 1 shX12_reads_100
theorem shX12_reads_102 : cX12_reads.data.toList.drop 102 = sxX12_reads_102 := dSn 1 shX12_reads_101
theorem shX12_reads_105 : cX12_reads.data.toList.drop 105 = sxX12_reads_105 := dSn 3 shX12_reads_102
theorem shX12_reads_106 : cX12_reads.data.toList.drop 106 = sxX12_reads_106 := dSn 1 shX12_reads_105
theorem shX12_reads_107 : cX12_reads.data.toList.drop 107 = sxX12_reads_107 := dSn 1 shX12_reads_106
theorem shX12_reads_110 : cX12_reads.data.toList.drop 110 = sxX12_reads_110 := dSn 3 shX12_reads_107
theorem shX12_reads_111 : cX12_reads.data.toList.drop 111 = sxX12_reads_111 := dSn 1 shX12_reads_110
theorem shX12_reads_112 : cX12_reads.data.toList.drop 112 = sxX12_reads_112 := dSn 1 shX12_reads_111
theorem shX12_reads_114 : cX12_reads.data.toList.drop 114 = sxX12_reads_114 := dSn 2 shX12_reads_112
theorem shX12_reads_116 : cX12_reads.data.toList.drop 116 = sxX12_reads_116 := dSn 2 shX12_reads_114
theorem shX12_reads_117 : cX12_reads.data.toList.drop 117 = sxX12_reads_117 := dSn 1 shX12_reads_116
theorem shX12_reads_120 : cX12_reads.data.toList.drop 120 = sxX12_reads_120 := dSn 3 shX12_reads_117
theorem shX12_reads_123 : cX12_reads.data.toList.drop 123 = sxX12_reads_123 := dSn 3 shX12_reads_120
theorem shX12_reads_124 : cX12_reads.data.toList.drop 124 = sxX12_reads_124 := dSn 1 shX12_reads_123
theorem shX12_reads_127 : cX12_reads.data.toList.drop 127 = sxX12_reads_127 := dSn 3 shX12_reads_124
theorem shX12_reads_130 : cX12_reads.data.toList.drop 130 = sxX12_reads_130 := dSn 3 shX12_reads_127
theorem shX12_reads_131 : cX12_reads.data.toList.drop 131 = sxX12_reads_131 := dSn 1 shX12_reads_130
theorem shX12_reads_132 : cX12_reads.data.toList.drop 132 = sxX12_reads_132 := dSn 1 shX12_reads_131
theorem shX12_reads_134 : cX12_reads.data.toList.drop 134 = sxX12_reads_134 := dSn 2 shX12_reads_132
theorem shX12_reads_135 : cX12_reads.data.toList.drop 135 = sxX12_reads_135 := dSn 1 shX12_reads_134
theorem shX12_reads_136 : cX12_reads.data.toList.drop 136 = sxX12_reads_136 := dSn 1 shX12_reads_135
theorem shX12_reads_139 : cX12_reads.data.toList.drop 139 = sxX12_reads_139 := dSn 3 shX12_reads_136
theorem shX12_reads_141 : cX12_reads.data.toList.drop 141 = sxX12_reads_141 := dSn 2 shX12_reads_139
theorem shX12_reads_142 : cX12_reads.data.toList.drop 142 = sxX12_reads_142 := dSn 1 shX12_reads_141
theorem shX12_reads_143 : cX12_reads.data.toList.drop 143 = sxX12_reads_143 := dSn 1 shX12_reads_142
theorem shX12_reads_146 : cX12_reads.data.toList.drop 146 = sxX12_reads_146 := dSn 3 shX12_reads_143
theorem shX12_reads_149 : cX12_reads.data.toList.drop 149 = sxX12_reads_149 := dSn 3 shX12_reads_146
theorem shX12_reads_150 : cX12_reads.data.toList.drop 150 = sxX12_reads_150 := dSn 1 shX12_reads_149
theorem shX12_reads_152 : cX12_reads.data.toList.drop 152 = sxX12_reads_152 := dSn 2 shX12_reads_150
theorem shX12_reads_154 : cX12_reads.data.toList.drop 154 = sxX12_reads_154 := dSn 2 shX12_reads_152
theorem shX12_reads_155 : cX12_reads.data.toList.drop 155 = sxX12_reads_155 := dSn 1 shX12_reads_154
theorem shX12_reads_158 : cX12_reads.data.toList.drop 158 = sxX12_reads_158 := dSn 3 shX12_reads_155
theorem shX12_reads_161 : cX12_reads.data.toList.drop 161 = sxX12_reads_161 := dSn 3 shX12_reads_158
theorem shX12_reads_163 : cX12_reads.data.toList.drop 163 = sxX12_reads_163 := dSn 2 shX12_reads_161
theorem shX12_reads_164 : cX12_reads.data.toList.drop 164 = sxX12_reads_164 := dSn 1 shX12_reads_163
theorem shX12_reads_165 : cX12_reads.data.toList.drop 165 = sxX12_reads_165 := dSn 1 shX12_reads_164
theorem shX12_reads_167 : cX12_reads.data.toList.drop 167 = sxX12_reads_167 := dSn 2 shX12_reads_165
theorem shX12_reads_168 : cX12_reads.data.toList.drop 168 = sxX12_reads_168 := dSn 1 shX12_reads_167
theorem shX12_reads_170 : cX12_reads.data.toList.drop 170 = sxX12_reads_170 := dSn 2 shX12_reads_168
theorem shX12_reads_171 : cX12_reads.data.toList.drop 171 = sxX12_reads_171 := dSn 1 shX12_reads_170
theorem shX12_reads_174 : cX12_reads.data.toList.drop 174 = sxX12_reads_174 := dSn 3 shX12_reads_171
theorem shX12_reads_176 : cX12_reads.data.toList.drop 176 = sxX12_reads_176 := dSn 2 shX12_reads_174
theorem shX12_reads_179 : cX12_reads.data.toList.drop 179 = sxX12_reads_179 := dSn 3 shX12_reads_176
theorem shX12_reads_180 : cX12_reads.data.toList.drop 180 = sxX12_reads_180 := dSn 1 shX12_reads_179
theorem shX12_reads_181 : cX12_reads.data.toList.drop 181 = sxX12_reads_181 := dSn 1 shX12_reads_180
theorem shX12_reads_182 : cX12_reads.data.toList.drop 182 = sxX12_reads_182 := dSn 1 shX12_reads_181
theorem shX12_reads_185 : cX12_reads.data.toList.drop 185 = sxX12_reads_185 := dSn 3 shX12_reads_182
theorem shX12_reads_187 : cX12_reads.data.toList.drop 187 = sxX12_reads_187 := dSn 2 shX12_reads_185
theorem shX12_reads_188 : cX12_reads.data.toList.drop 188 = sxX12_reads_188 := dSn 1 shX12_reads_187
theorem shX12_reads_189 : cX12_reads.data.toList.drop 189 = sxX12_reads_189 := dSn 1 shX12_reads_188
theorem shX12_reads_190 : cX12_reads.data.toList.drop 190 = sxX12_reads_190 := dSn 1 shX12_reads_189
theorem shX12_reads_191 : cX12_reads.data.toList.drop 191 = sxX12_reads_191 := dSn 1 shX12_reads_190
theorem shX12_reads_194 : cX12_reads.data.toList.drop 194 = sxX12_reads_194 := dSn 3 shX12_reads_191
theorem shX12_reads_196 : cX12_reads.data.toList.drop 196 = sxX12_reads_196 := dSn 2 shX12_reads_194
theorem shX12_reads_199 : cX12_reads.data.toList.drop 199 = sxX12_reads_199 := dSn 3 shX12_reads_196
theorem shX12_reads_200 : cX12_reads.data.toList.drop 200 = sxX12_reads_200 := dSn 1 shX12_reads_199
theorem shX12_reads_201 : cX12_reads.data.toList.drop 201 = sxX12_reads_201 := dSn 1 shX12_reads_200
theorem shX12_reads_202 : cX12_reads.data.toList.drop 202 = sxX12_reads_202 := dSn 1 shX12_reads_201
theorem shX12_reads_205 : cX12_reads.data.toList.drop 205 = sxX12_reads_205 := dSn 3 shX12_reads_202
theorem shX12_reads_207 : cX12_reads.data.toList.drop 207 = sxX12_reads_207 := dSn 2 shX12_reads_205
theorem shX12_reads_208 : cX12_reads.data.toList.drop 208 = sxX12_reads_208 := dSn 1 shX12_reads_207
theorem shX12_reads_209 : cX12_reads.data.toList.drop 209 = sxX12_reads_209 := dSn 1 shX12_reads_208
theorem shX12_reads_210 : cX12_reads.data.toList.drop 210 = sxX12_reads_210 := dSn 1 shX12_reads_209
theorem shX12_reads_211 : cX12_reads.data.toList.drop 211 = sxX12_reads_211 := dSn 1 shX12_reads_210
theorem shX12_reads_214 : cX12_reads.data.toList.drop 214 = sxX12_reads_214 := dSn 3 shX12_reads_211
theorem shX12_reads_216 : cX12_reads.data.toList.drop 216 = sxX12_reads_216 := dSn 2 shX12_reads_214
theorem shX12_reads_219 : cX12_reads.data.toList.drop 219 = sxX12_reads_219 := dSn 3 shX12_reads_216
theorem shX12_reads_220 : cX12_reads.data.toList.drop 220 = sxX12_reads_220 := dSn 1 shX12_reads_219
theorem shX12_reads_221 : cX12_reads.data.toList.drop 221 = sxX12_reads_221 := dSn 1 shX12_reads_220
theorem shX12_reads_222 : cX12_reads.data.toList.drop 222 = sxX12_reads_222 := dSn 1 shX12_reads_221
theorem shX12_reads_225 : cX12_reads.data.toList.drop 225 = sxX12_reads_225 := dSn 3 shX12_reads_222
theorem shX12_reads_227 : cX12_reads.data.toList.drop 227 = sxX12_reads_227 := dSn 2 shX12_reads_225
theorem shX12_reads_228 : cX12_reads.data.toList.drop 228 = sxX12_reads_228 := dSn 1 shX12_reads_227
theorem shX12_reads_229 : cX12_reads.data.toList.drop 229 = sxX12_reads_229 := dSn 1 shX12_reads_228
theorem shX12_reads_230 : cX12_reads.data.toList.drop 230 = sxX12_reads_230 := dSn 1 shX12_reads_229
theorem shX12_reads_233 : cX12_reads.data.toList.drop 233 = sxX12_reads_233 := dSn 3 shX12_reads_230
theorem shX12_reads_236 : cX12_reads.data.toList.drop 236 = sxX12_reads_236 := dSn 3 shX12_reads_233
theorem shX12_reads_237 : cX12_reads.data.toList.drop 237 = sxX12_reads_237 := dSn 1 shX12_reads_236
theorem shX12_reads_240 : cX12_reads.data.toList.drop 240 = sxX12_reads_240 := dSn 3 shX12_reads_237
theorem dX12_reads_0 : decode cX12_reads 0 = .ok (.aload_n 0, 1) := oc_42 shX12_reads_0
theorem dX12_reads_1 : decode cX12_reads 1 = .ok (.iconst 0, 1) := oc_3 shX12_reads_1
theorem dX12_reads_2 : decode cX12_reads 2 = .ok (.putfield 233, 3) := oc_181 shX12_reads_2
theorem dX12_reads_5 : decode cX12_reads 5 = .ok (.aload_n 0, 1) := oc_42 shX12_reads_5
theorem dX12_reads_6 : decode cX12_reads 6 = .ok (.iload_n 2, 1) := oc_28 shX12_reads_6
theorem dX12_reads_7 : decode cX12_reads 7 = .ok (.putfield 236, 3) := oc_181 shX12_reads_7
theorem dX12_reads_10 : decode cX12_reads 10 = .ok (.aload_n 0, 1) := oc_42 shX12_reads_10
theorem dX12_reads_11 : decode cX12_reads 11 = .ok (.iconst 0, 1) := oc_3 shX12_reads_11
theorem dX12_reads_12 : decode cX12_reads 12 = .ok (.putfield 257, 3) := oc_181 shX12_reads_12
theorem dX12_reads_15 : decode cX12_reads 15 = .ok (.aload_n 0, 1) := oc_42 shX12_reads_15
theorem dX12_reads_16 : decode cX12_reads 16 = .ok (.iconst 0, 1) := oc_3 shX12_reads_16
theorem dX12_reads_17 : decode cX12_reads 17 = .ok (.putfield 312, 3) := oc_181 shX12_reads_17
theorem dX12_reads_20 : decode cX12_reads 20 = .ok (.aload_n 0, 1) := oc_42 shX12_reads_20
theorem dX12_reads_21 : decode cX12_reads 21 = .ok (.iload_n 1, 1) := oc_27 shX12_reads_21
theorem dX12_reads_22 : decode cX12_reads 22 = .ok (.bipush 10, 2) := oc_16 shX12_reads_22 sgb_10
theorem dX12_reads_24 : decode cX12_reads 24 = .ok (.if_icmp .ne 7, 3) := oc_160 shX12_reads_24 sgw_0_7
theorem dX12_reads_27 : decode cX12_reads 27 = .ok (.iconst 1, 1) := oc_4 shX12_reads_27
theorem dX12_reads_28 : decode cX12_reads 28 = .ok (.goto 4, 3) := oc_167 shX12_reads_28 sgw_0_4
theorem dX12_reads_31 : decode cX12_reads 31 = .ok (.iconst 0, 1) := oc_3 shX12_reads_31
theorem dX12_reads_32 : decode cX12_reads 32 = .ok (.invokevirtual 318, 3) := oc_182 shX12_reads_32
theorem dX12_reads_35 : decode cX12_reads 35 = .ok (.istore_n 3, 1) := oc_62 shX12_reads_35
theorem dX12_reads_36 : decode cX12_reads 36 = .ok (.iload_n 3, 1) := oc_29 shX12_reads_36
theorem dX12_reads_37 : decode cX12_reads 37 = .ok (.ifCond .eq 50, 3) := oc_153 shX12_reads_37 sgw_0_50
theorem dX12_reads_40 : decode cX12_reads 40 = .ok (.aload_n 0, 1) := oc_42 shX12_reads_40
theorem dX12_reads_41 : decode cX12_reads 41 = .ok (.getfield 233, 3) := oc_180 shX12_reads_41
theorem dX12_reads_44 : decode cX12_reads 44 = .ok (.aload_n 0, 1) := oc_42 shX12_reads_44
theorem dX12_reads_45 : decode cX12_reads 45 = .ok (.getfield 236, 3) := oc_180 shX12_reads_45
theorem dX12_reads_48 : decode cX12_reads 48 = .ok (.if_icmp .ge 39, 3) := oc_162 shX12_reads_48 sgw_0_39
theorem dX12_reads_51 : decode cX12_reads 51 = .ok (.aload_n 0, 1) := oc_42 shX12_reads_51
theorem dX12_reads_52 : decode cX12_reads 52 = .ok (.bipush 59, 2) := oc_16 shX12_reads_52 sgb_59
theorem dX12_reads_54 : decode cX12_reads 54 = .ok (.invokevirtual 322, 3) := oc_182 shX12_reads_54
theorem dX12_reads_57 : decode cX12_reads 57 = .ok (.ifCond .eq 25, 3) := oc_153 shX12_reads_57 sgw_0_25
theorem dX12_reads_60 : decode cX12_reads 60 = .ok (.aload_n 0, 1) := oc_42 shX12_reads_60
theorem dX12_reads_61 : decode cX12_reads 61 = .ok (.iload_n 1, 1) := oc_27 shX12_reads_61
theorem dX12_reads_62 : decode cX12_reads 62 = .ok (.bipush 10, 2) := oc_16 shX12_reads_62 sgb_10
theorem dX12_reads_64 : decode cX12_reads 64 = .ok (.if_icmp .ne 7, 3) := oc_160 shX12_reads_64 sgw_0_7
theorem dX12_reads_67 : decode cX12_reads 67 = .ok (.iconst 1, 1) := oc_4 shX12_reads_67
theorem dX12_reads_68 : decode cX12_reads 68 = .ok (.goto 4, 3) := oc_167 shX12_reads_68 sgw_0_4
theorem dX12_reads_71 : decode cX12_reads 71 = .ok (.iconst 0, 1) := oc_3 shX12_reads_71
theorem dX12_reads_72 : decode cX12_reads 72 = .ok (.invokevirtual 318, 3) := oc_182 shX12_reads_72
theorem dX12_reads_75 : decode cX12_reads 75 = .ok (.ifCond .eq 7, 3) := oc_153 shX12_reads_75 sgw_0_7
theorem dX12_reads_78 : decode cX12_reads 78 = .ok (.iconst 1, 1) := oc_4 shX12_reads_78
theorem dX12_reads_79 : decode cX12_reads 79 = .ok (.goto 4, 3) := oc_167 shX12_reads_79 sgw_0_4
theorem dX12_reads_82 : decode cX12_reads 82 = .ok (.iconst 0, 1) := oc_3 shX12_reads_82
theorem dX12_reads_83 : decode cX12_reads 83 = .ok (.istore_n 3, 1) := oc_62 shX12_reads_83
theorem dX12_reads_84 : decode cX12_reads 84 = .ok (.goto (-48), 3) := oc_167 shX12_reads_84 sgw_255_208
theorem dX12_reads_87 : decode cX12_reads 87 = .ok (.aload_n 0, 1) := oc_42 shX12_reads_87
theorem dX12_reads_88 : decode cX12_reads 88 = .ok (.iconst 0, 1) := oc_3 shX12_reads_88
theorem dX12_reads_89 : decode cX12_reads 89 = .ok (.putfield 226, 3) := oc_181 shX12_reads_89
theorem dX12_reads_92 : decode cX12_reads 92 = .ok (.iload_n 3, 1) := oc_29 shX12_reads_92
theorem dX12_reads_93 : decode cX12_reads 93 = .ok (.ifCond .ne 8, 3) := oc_154 shX12_reads_93 sgw_0_8
theorem dX12_reads_96 : decode cX12_reads 96 = .ok (.aload_n 0, 1) := oc_42 shX12_reads_96
theorem dX12_reads_97 : decode cX12_reads 97 = .ok (.getfield 243, 3) := oc_180 shX12_reads_97
theorem dX12_reads_100 : decode cX12_reads 100 = .ok (.ireturn, 1) := oc_172 shX12_reads_100
theorem dX12_reads_101 : decode cX12_reads 101 = .ok (.aload_n 0, 1) := oc_42 shX12_reads_101
theorem dX12_reads_102 : decode cX12_reads 102 = .ok (.getfield 74, 3) := oc_180 shX12_reads_102
theorem dX12_reads_105 : decode cX12_reads 105 = .ok (.iload_n 1, 1) := oc_27 shX12_reads_105
theorem dX12_reads_106 : decode cX12_reads 106 = .ok (.aload_n 0, 1) := oc_42 shX12_reads_106
theorem dX12_reads_107 : decode cX12_reads 107 = .ok (.getfield 312, 3) := oc_180 shX12_reads_107
theorem dX12_reads_110 : decode cX12_reads 110 = .ok (.iastore, 1) := oc_79 shX12_reads_110
theorem dX12_reads_111 : decode cX12_reads 111 = .ok (.iconst 0, 1) := oc_3 shX12_reads_111
theorem dX12_reads_112 : decode cX12_reads 112 = .ok (.istore 4, 2) := oc_54 shX12_reads_112
theorem dX12_reads_114 : decode cX12_reads 114 = .ok (.iload 4, 2) := oc_21 shX12_reads_114
theorem dX12_reads_116 : decode cX12_reads 116 = .ok (.aload_n 0, 1) := oc_42 shX12_reads_116
theorem dX12_reads_117 : decode cX12_reads 117 = .ok (.getfield 257, 3) := oc_180 shX12_reads_117
theorem dX12_reads_120 : decode cX12_reads 120 = .ok (.if_icmp .ge 29, 3) := oc_162 shX12_reads_120 sgw_0_29
theorem dX12_reads_123 : decode cX12_reads 123 = .ok (.aload_n 0, 1) := oc_42 shX12_reads_123
theorem dX12_reads_124 : decode cX12_reads 124 = .ok (.getfield 71, 3) := oc_180 shX12_reads_124
theorem dX12_reads_127 : decode cX12_reads 127 = .ok (.sipush 180, 3) := oc_17 shX12_reads_127 sgw_0_180
theorem dX12_reads_130 : decode cX12_reads 130 = .ok (.iload_n 1, 1) := oc_27 shX12_reads_130
theorem dX12_reads_131 : decode cX12_reads 131 = .ok (.imul, 1) := oc_104 shX12_reads_131
theorem dX12_reads_132 : decode cX12_reads 132 = .ok (.iload 4, 2) := oc_21 shX12_reads_132
theorem dX12_reads_134 : decode cX12_reads 134 = .ok (.iadd, 1) := oc_96 shX12_reads_134
theorem dX12_reads_135 : decode cX12_reads 135 = .ok (.aload_n 0, 1) := oc_42 shX12_reads_135
theorem dX12_reads_136 : decode cX12_reads 136 = .ok (.getfield 56, 3) := oc_180 shX12_reads_136
theorem dX12_reads_139 : decode cX12_reads 139 = .ok (.iload 4, 2) := oc_21 shX12_reads_139
theorem dX12_reads_141 : decode cX12_reads 141 = .ok (.iaload, 1) := oc_46 shX12_reads_141
theorem dX12_reads_142 : decode cX12_reads 142 = .ok (.iastore, 1) := oc_79 shX12_reads_142
theorem dX12_reads_143 : decode cX12_reads 143 = .ok (.iinc 4 1, 3) := oc_132 shX12_reads_143 sgb_1
theorem dX12_reads_146 : decode cX12_reads 146 = .ok (.goto (-32), 3) := oc_167 shX12_reads_146 sgw_255_224
theorem dX12_reads_149 : decode cX12_reads 149 = .ok (.iconst 0, 1) := oc_3 shX12_reads_149
theorem dX12_reads_150 : decode cX12_reads 150 = .ok (.istore 4, 2) := oc_54 shX12_reads_150
theorem dX12_reads_152 : decode cX12_reads 152 = .ok (.iload 4, 2) := oc_21 shX12_reads_152
theorem dX12_reads_154 : decode cX12_reads 154 = .ok (.aload_n 0, 1) := oc_42 shX12_reads_154
theorem dX12_reads_155 : decode cX12_reads 155 = .ok (.getfield 312, 3) := oc_180 shX12_reads_155
theorem dX12_reads_158 : decode cX12_reads 158 = .ok (.if_icmp .ge 78, 3) := oc_162 shX12_reads_158 sgw_0_78
theorem dX12_reads_161 : decode cX12_reads 161 = .ok (.bipush 12, 2) := oc_16 shX12_reads_161 sgb_12
theorem dX12_reads_163 : decode cX12_reads 163 = .ok (.iload_n 1, 1) := oc_27 shX12_reads_163
theorem dX12_reads_164 : decode cX12_reads 164 = .ok (.imul, 1) := oc_104 shX12_reads_164
theorem dX12_reads_165 : decode cX12_reads 165 = .ok (.iload 4, 2) := oc_21 shX12_reads_165
theorem dX12_reads_167 : decode cX12_reads 167 = .ok (.iadd, 1) := oc_96 shX12_reads_167
theorem dX12_reads_168 : decode cX12_reads 168 = .ok (.istore 5, 2) := oc_54 shX12_reads_168
theorem dX12_reads_170 : decode cX12_reads 170 = .ok (.aload_n 0, 1) := oc_42 shX12_reads_170
theorem dX12_reads_171 : decode cX12_reads 171 = .ok (.getfield 77, 3) := oc_180 shX12_reads_171
theorem dX12_reads_174 : decode cX12_reads 174 = .ok (.iload 5, 2) := oc_21 shX12_reads_174
theorem dX12_reads_176 : decode cX12_reads 176 = .ok (.sipush 180, 3) := oc_17 shX12_reads_176 sgw_0_180
theorem dX12_reads_179 : decode cX12_reads 179 = .ok (.iload_n 1, 1) := oc_27 shX12_reads_179
theorem dX12_reads_180 : decode cX12_reads 180 = .ok (.imul, 1) := oc_104 shX12_reads_180
theorem dX12_reads_181 : decode cX12_reads 181 = .ok (.aload_n 0, 1) := oc_42 shX12_reads_181
theorem dX12_reads_182 : decode cX12_reads 182 = .ok (.getfield 62, 3) := oc_180 shX12_reads_182
theorem dX12_reads_185 : decode cX12_reads 185 = .ok (.iload 4, 2) := oc_21 shX12_reads_185
theorem dX12_reads_187 : decode cX12_reads 187 = .ok (.iaload, 1) := oc_46 shX12_reads_187
theorem dX12_reads_188 : decode cX12_reads 188 = .ok (.iadd, 1) := oc_96 shX12_reads_188
theorem dX12_reads_189 : decode cX12_reads 189 = .ok (.iastore, 1) := oc_79 shX12_reads_189
theorem dX12_reads_190 : decode cX12_reads 190 = .ok (.aload_n 0, 1) := oc_42 shX12_reads_190
theorem dX12_reads_191 : decode cX12_reads 191 = .ok (.getfield 80, 3) := oc_180 shX12_reads_191
theorem dX12_reads_194 : decode cX12_reads 194 = .ok (.iload 5, 2) := oc_21 shX12_reads_194
theorem dX12_reads_196 : decode cX12_reads 196 = .ok (.sipush 180, 3) := oc_17 shX12_reads_196 sgw_0_180
theorem dX12_reads_199 : decode cX12_reads 199 = .ok (.iload_n 1, 1) := oc_27 shX12_reads_199
theorem dX12_reads_200 : decode cX12_reads 200 = .ok (.imul, 1) := oc_104 shX12_reads_200
theorem dX12_reads_201 : decode cX12_reads 201 = .ok (.aload_n 0, 1) := oc_42 shX12_reads_201
theorem dX12_reads_202 : decode cX12_reads 202 = .ok (.getfield 65, 3) := oc_180 shX12_reads_202
theorem dX12_reads_205 : decode cX12_reads 205 = .ok (.iload 4, 2) := oc_21 shX12_reads_205
theorem dX12_reads_207 : decode cX12_reads 207 = .ok (.iaload, 1) := oc_46 shX12_reads_207
theorem dX12_reads_208 : decode cX12_reads 208 = .ok (.iadd, 1) := oc_96 shX12_reads_208
theorem dX12_reads_209 : decode cX12_reads 209 = .ok (.iastore, 1) := oc_79 shX12_reads_209
theorem dX12_reads_210 : decode cX12_reads 210 = .ok (.aload_n 0, 1) := oc_42 shX12_reads_210
theorem dX12_reads_211 : decode cX12_reads 211 = .ok (.getfield 83, 3) := oc_180 shX12_reads_211
theorem dX12_reads_214 : decode cX12_reads 214 = .ok (.iload 5, 2) := oc_21 shX12_reads_214
theorem dX12_reads_216 : decode cX12_reads 216 = .ok (.sipush 180, 3) := oc_17 shX12_reads_216 sgw_0_180
theorem dX12_reads_219 : decode cX12_reads 219 = .ok (.iload_n 1, 1) := oc_27 shX12_reads_219
theorem dX12_reads_220 : decode cX12_reads 220 = .ok (.imul, 1) := oc_104 shX12_reads_220
theorem dX12_reads_221 : decode cX12_reads 221 = .ok (.aload_n 0, 1) := oc_42 shX12_reads_221
theorem dX12_reads_222 : decode cX12_reads 222 = .ok (.getfield 68, 3) := oc_180 shX12_reads_222
theorem dX12_reads_225 : decode cX12_reads 225 = .ok (.iload 4, 2) := oc_21 shX12_reads_225
theorem dX12_reads_227 : decode cX12_reads 227 = .ok (.iaload, 1) := oc_46 shX12_reads_227
theorem dX12_reads_228 : decode cX12_reads 228 = .ok (.iadd, 1) := oc_96 shX12_reads_228
theorem dX12_reads_229 : decode cX12_reads 229 = .ok (.iastore, 1) := oc_79 shX12_reads_229
theorem dX12_reads_230 : decode cX12_reads 230 = .ok (.iinc 4 1, 3) := oc_132 shX12_reads_230 sgb_1
theorem dX12_reads_233 : decode cX12_reads 233 = .ok (.goto (-81), 3) := oc_167 shX12_reads_233 sgw_255_175
theorem dX12_reads_236 : decode cX12_reads 236 = .ok (.aload_n 0, 1) := oc_42 shX12_reads_236
theorem dX12_reads_237 : decode cX12_reads 237 = .ok (.getfield 312, 3) := oc_180 shX12_reads_237
theorem dX12_reads_240 : decode cX12_reads 240 = .ok (.ireturn, 1) := oc_172 shX12_reads_240
noncomputable def sxX12_contract_38 : List UInt8 := []
noncomputable def sxX12_contract_37 : List UInt8 := 172 :: sxX12_contract_38
noncomputable def sxX12_contract_34 : List UInt8 := 182 :: 1 :: 68 :: sxX12_contract_37
noncomputable def sxX12_contract_33 : List UInt8 := 28 :: sxX12_contract_34
noncomputable def sxX12_contract_32 : List UInt8 := 27 :: sxX12_contract_33
noncomputable def sxX12_contract_31 : List UInt8 := 42 :: sxX12_contract_32
noncomputable def sxX12_contract_28 : List UInt8 := 167 :: 0 :: 9 :: sxX12_contract_31
noncomputable def sxX12_contract_27 : List UInt8 := 2 :: sxX12_contract_28
noncomputable def sxX12_contract_24 : List UInt8 := 164 :: 0 :: 7 :: sxX12_contract_27
noncomputable def sxX12_contract_21 : List UInt8 := 180 :: 0 :: 226 :: sxX12_contract_24
noncomputable def sxX12_contract_20 : List UInt8 := 42 :: sxX12_contract_21
noncomputable def sxX12_contract_19 : List UInt8 := 28 :: sxX12_contract_20
noncomputable def sxX12_contract_16 : List UInt8 := 153 :: 0 :: 11 :: sxX12_contract_19
noncomputable def sxX12_contract_13 : List UInt8 := 184 :: 0 :: 214 :: sxX12_contract_16
noncomputable def sxX12_contract_10 : List UInt8 := 17 :: 0 :: 160 :: sxX12_contract_13
noncomputable def sxX12_contract_9 : List UInt8 := 4 :: sxX12_contract_10
noncomputable def sxX12_contract_8 : List UInt8 := 28 :: sxX12_contract_9
noncomputable def sxX12_contract_5 : List UInt8 := 153 :: 0 :: 22 :: sxX12_contract_8
noncomputable def sxX12_contract_2 : List UInt8 := 182 :: 0 :: 218 :: sxX12_contract_5
noncomputable def sxX12_contract_1 : List UInt8 := 27 :: sxX12_contract_2
noncomputable def sxX12_contract_0 : List UInt8 := 42 :: sxX12_contract_1
theorem shX12_contract_0 : cX12_contract.data.toList.drop 0 = sxX12_contract_0 := rfl
theorem shX12_contract_1 : cX12_contract.data.toList.drop 1 = sxX12_contract_1 := dSn 1 shX12_contract_0
theorem shX12_contract_2 : cX12_contract.data.toList.drop 2 = sxX12_contract_2 := dSn 1 shX12_contract_1
theorem shX12_contract_5 : cX12_contract.data.toList.drop 5 = sxX12_contract_5 := dSn 3 shX12_contract_2
theorem shX12_contract_8 : cX12_contract.data.toList.drop 8 = sxX12_contract_8 := dSn 3 shX12_contract_5
theorem shX12_contract_9 : cX12_contract.data.toList.drop 9 = sxX12_contract_9 := dSn 1 shX12_contract_8
theorem shX12_contract_10 : cX12_contract.data.toList.drop 10 = sxX12_contract_10 := dSn 1 shX12_contract_9
theorem shX12_contract_13 : cX12_contract.data.toList.drop 13 = sxX12_contract_13 := dSn 3 shX12_contract_10
theorem shX12_contract_16 : cX12_contract.data.toList.drop 16 = sxX12_contract_16 := dSn 3 shX12_contract_13
theorem shX12_contract_19 : cX12_contract.data.toList.drop 19 = sxX12_contract_19 := dSn 3 shX12_contract_16
theorem shX12_contract_20 : cX12_contract.data.toList.drop 20 = sxX12_contract_20 := dSn 1 shX12_contract_19
theorem shX12_contract_21 : cX12_contract.data.toList.drop 21 = sxX12_contract_21 := dSn 1 shX12_contract_20
theorem shX12_contract_24 : cX12_contract.data.toList.drop 24 = sxX12_contract_24 := dSn 3 shX12_contract_21
theorem shX12_contract_27 : cX12_contract.data.toList.drop 27 = sxX12_contract_27 := dSn 3 shX12_contract_24
theorem shX12_contract_28 : cX12_contract.data.toList.drop 28 = sxX12_contract_28 := dSn 1 shX12_contract_27
theorem shX12_contract_31 : cX12_contract.data.toList.drop 31 = sxX12_contract_31 := dSn 3 shX12_contract_28
theorem shX12_contract_32 : cX12_contract.data.toList.drop 32 = sxX12_contract_32 := dSn 1 shX12_contract_31
theorem shX12_contract_33 : cX12_contract.data.toList.drop 33 = sxX12_contract_33 := dSn 1 shX12_contract_32
theorem shX12_contract_34 : cX12_contract.data.toList.drop 34 = sxX12_contract_34 := dSn 1 shX12_contract_33
theorem shX12_contract_37 : cX12_contract.data.toList.drop 37 = sxX12_contract_37 := dSn 3 shX12_contract_34
theorem dX12_contract_0 : decode cX12_contract 0 = .ok (.aload_n 0, 1) := oc_42 shX12_contract_0
theorem dX12_contract_1 : decode cX12_contract 1 = .ok (.iload_n 1, 1) := oc_27 shX12_contract_1
theorem dX12_contract_2 : decode cX12_contract 2 = .ok (.invokevirtual 218, 3) := oc_182 shX12_contract_2
theorem dX12_contract_5 : decode cX12_contract 5 = .ok (.ifCond .eq 22, 3) := oc_153 shX12_contract_5 sgw_0_22
theorem dX12_contract_8 : decode cX12_contract 8 = .ok (.iload_n 2, 1) := oc_28 shX12_contract_8
theorem dX12_contract_9 : decode cX12_contract 9 = .ok (.iconst 1, 1) := oc_4 shX12_contract_9
theorem dX12_contract_10 : decode cX12_contract 10 = .ok (.sipush 160, 3) := oc_17 shX12_contract_10 sgw_0_160
theorem dX12_contract_13 : decode cX12_contract 13 = .ok (.invokestatic 214, 3) := oc_184 shX12_contract_13
theorem dX12_contract_16 : decode cX12_contract 16 = .ok (.ifCond .eq 11, 3) := oc_153 shX12_contract_16 sgw_0_11
theorem dX12_contract_19 : decode cX12_contract 19 = .ok (.iload_n 2, 1) := oc_28 shX12_contract_19
theorem dX12_contract_20 : decode cX12_contract 20 = .ok (.aload_n 0, 1) := oc_42 shX12_contract_20
theorem dX12_contract_21 : decode cX12_contract 21 = .ok (.getfield 226, 3) := oc_180 shX12_contract_21
theorem dX12_contract_24 : decode cX12_contract 24 = .ok (.if_icmp .le 7, 3) := oc_164 shX12_contract_24 sgw_0_7
theorem dX12_contract_27 : decode cX12_contract 27 = .ok (.iconst (-1), 1) := oc_2 shX12_contract_27
theorem dX12_contract_28 : decode cX12_contract 28 = .ok (.goto 9, 3) := oc_167 shX12_contract_28 sgw_0_9
theorem dX12_contract_31 : decode cX12_contract 31 = .ok (.aload_n 0, 1) := oc_42 shX12_contract_31
theorem dX12_contract_32 : decode cX12_contract 32 = .ok (.iload_n 1, 1) := oc_27 shX12_contract_32
theorem dX12_contract_33 : decode cX12_contract 33 = .ok (.iload_n 2, 1) := oc_28 shX12_contract_33
theorem dX12_contract_34 : decode cX12_contract 34 = .ok (.invokevirtual 324, 3) := oc_182 shX12_contract_34
theorem dX12_contract_37 : decode cX12_contract 37 = .ok (.ireturn, 1) := oc_172 shX12_contract_37
noncomputable def sxX12_law_31 : List UInt8 := []
noncomputable def sxX12_law_30 : List UInt8 := 172 :: sxX12_law_31
noncomputable def sxX12_law_27 : List UInt8 := 182 :: 1 :: 68 :: sxX12_law_30
noncomputable def sxX12_law_26 : List UInt8 := 27 :: sxX12_law_27
noncomputable def sxX12_law_24 : List UInt8 := 16 :: 10 :: sxX12_law_26
noncomputable def sxX12_law_23 : List UInt8 := 42 :: sxX12_law_24
noncomputable def sxX12_law_20 : List UInt8 := 167 :: 0 :: 10 :: sxX12_law_23
noncomputable def sxX12_law_19 : List UInt8 := 2 :: sxX12_law_20
noncomputable def sxX12_law_16 : List UInt8 := 164 :: 0 :: 7 :: sxX12_law_19
noncomputable def sxX12_law_13 : List UInt8 := 180 :: 0 :: 226 :: sxX12_law_16
noncomputable def sxX12_law_12 : List UInt8 := 42 :: sxX12_law_13
noncomputable def sxX12_law_11 : List UInt8 := 27 :: sxX12_law_12
noncomputable def sxX12_law_8 : List UInt8 := 153 :: 0 :: 11 :: sxX12_law_11
noncomputable def sxX12_law_5 : List UInt8 := 184 :: 0 :: 214 :: sxX12_law_8
noncomputable def sxX12_law_2 : List UInt8 := 17 :: 0 :: 160 :: sxX12_law_5
noncomputable def sxX12_law_1 : List UInt8 := 4 :: sxX12_law_2
noncomputable def sxX12_law_0 : List UInt8 := 27 :: sxX12_law_1
theorem shX12_law_0 : cX12_law.data.toList.drop 0 = sxX12_law_0 := rfl
theorem shX12_law_1 : cX12_law.data.toList.drop 1 = sxX12_law_1 := dSn 1 shX12_law_0
theorem shX12_law_2 : cX12_law.data.toList.drop 2 = sxX12_law_2 := dSn 1 shX12_law_1
theorem shX12_law_5 : cX12_law.data.toList.drop 5 = sxX12_law_5 := dSn 3 shX12_law_2
theorem shX12_law_8 : cX12_law.data.toList.drop 8 = sxX12_law_8 := dSn 3 shX12_law_5
theorem shX12_law_11 : cX12_law.data.toList.drop 11 = sxX12_law_11 := dSn 3 shX12_law_8
theorem shX12_law_12 : cX12_law.data.toList.drop 12 = sxX12_law_12 := dSn 1 shX12_law_11
theorem shX12_law_13 : cX12_law.data.toList.drop 13 = sxX12_law_13 := dSn 1 shX12_law_12
theorem shX12_law_16 : cX12_law.data.toList.drop 16 = sxX12_law_16 := dSn 3 shX12_law_13
theorem shX12_law_19 : cX12_law.data.toList.drop 19 = sxX12_law_19 := dSn 3 shX12_law_16
theorem shX12_law_20 : cX12_law.data.toList.drop 20 = sxX12_law_20 := dSn 1 shX12_law_19
theorem shX12_law_23 : cX12_law.data.toList.drop 23 = sxX12_law_23 := dSn 3 shX12_law_20
theorem shX12_law_24 : cX12_law.data.toList.drop 24 = sxX12_law_24 := dSn 1 shX12_law_23
theorem shX12_law_26 : cX12_law.data.toList.drop 26 = sxX12_law_26 := dSn 2 shX12_law_24
theorem shX12_law_27 : cX12_law.data.toList.drop 27 = sxX12_law_27 := dSn 1 shX12_law_26
theorem shX12_law_30 : cX12_law.data.toList.drop 30 = sxX12_law_30 := dSn 3 shX12_law_27
theorem dX12_law_0 : decode cX12_law 0 = .ok (.iload_n 1, 1) := oc_27 shX12_law_0
theorem dX12_law_1 : decode cX12_law 1 = .ok (.iconst 1, 1) := oc_4 shX12_law_1
theorem dX12_law_2 : decode cX12_law 2 = .ok (.sipush 160, 3) := oc_17 shX12_law_2 sgw_0_160
theorem dX12_law_5 : decode cX12_law 5 = .ok (.invokestatic 214, 3) := oc_184 shX12_law_5
theorem dX12_law_8 : decode cX12_law 8 = .ok (.ifCond .eq 11, 3) := oc_153 shX12_law_8 sgw_0_11
theorem dX12_law_11 : decode cX12_law 11 = .ok (.iload_n 1, 1) := oc_27 shX12_law_11
theorem dX12_law_12 : decode cX12_law 12 = .ok (.aload_n 0, 1) := oc_42 shX12_law_12
theorem dX12_law_13 : decode cX12_law 13 = .ok (.getfield 226, 3) := oc_180 shX12_law_13
theorem dX12_law_16 : decode cX12_law 16 = .ok (.if_icmp .le 7, 3) := oc_164 shX12_law_16 sgw_0_7
theorem dX12_law_19 : decode cX12_law 19 = .ok (.iconst (-1), 1) := oc_2 shX12_law_19
theorem dX12_law_20 : decode cX12_law 20 = .ok (.goto 10, 3) := oc_167 shX12_law_20 sgw_0_10
theorem dX12_law_23 : decode cX12_law 23 = .ok (.aload_n 0, 1) := oc_42 shX12_law_23
theorem dX12_law_24 : decode cX12_law 24 = .ok (.bipush 10, 2) := oc_16 shX12_law_24 sgb_10
theorem dX12_law_26 : decode cX12_law 26 = .ok (.iload_n 1, 1) := oc_27 shX12_law_26
theorem dX12_law_27 : decode cX12_law 27 = .ok (.invokevirtual 324, 3) := oc_182 shX12_law_27
theorem dX12_law_30 : decode cX12_law 30 = .ok (.ireturn, 1) := oc_172 shX12_law_30
noncomputable def sxX12_reckon_97 : List UInt8 := []
noncomputable def sxX12_reckon_96 : List UInt8 := 172 :: sxX12_reckon_97
noncomputable def sxX12_reckon_95 : List UInt8 := 3 :: sxX12_reckon_96
noncomputable def sxX12_reckon_92 : List UInt8 := 167 :: 0 :: 4 :: sxX12_reckon_95
noncomputable def sxX12_reckon_91 : List UInt8 := 4 :: sxX12_reckon_92
noncomputable def sxX12_reckon_88 : List UInt8 := 160 :: 0 :: 7 :: sxX12_reckon_91
noncomputable def sxX12_reckon_87 : List UInt8 := 28 :: sxX12_reckon_88
noncomputable def sxX12_reckon_86 : List UInt8 := 27 :: sxX12_reckon_87
noncomputable def sxX12_reckon_85 : List UInt8 := 172 :: sxX12_reckon_86
noncomputable def sxX12_reckon_84 : List UInt8 := 3 :: sxX12_reckon_85
noncomputable def sxX12_reckon_81 : List UInt8 := 167 :: 0 :: 4 :: sxX12_reckon_84
noncomputable def sxX12_reckon_80 : List UInt8 := 4 :: sxX12_reckon_81
noncomputable def sxX12_reckon_77 : List UInt8 := 164 :: 0 :: 7 :: sxX12_reckon_80
noncomputable def sxX12_reckon_76 : List UInt8 := 28 :: sxX12_reckon_77
noncomputable def sxX12_reckon_75 : List UInt8 := 27 :: sxX12_reckon_76
noncomputable def sxX12_reckon_74 : List UInt8 := 172 :: sxX12_reckon_75
noncomputable def sxX12_reckon_73 : List UInt8 := 3 :: sxX12_reckon_74
noncomputable def sxX12_reckon_70 : List UInt8 := 167 :: 0 :: 4 :: sxX12_reckon_73
noncomputable def sxX12_reckon_69 : List UInt8 := 4 :: sxX12_reckon_70
noncomputable def sxX12_reckon_66 : List UInt8 := 162 :: 0 :: 7 :: sxX12_reckon_69
noncomputable def sxX12_reckon_65 : List UInt8 := 28 :: sxX12_reckon_66
noncomputable def sxX12_reckon_64 : List UInt8 := 27 :: sxX12_reckon_65
noncomputable def sxX12_reckon_63 : List UInt8 := 172 :: sxX12_reckon_64
noncomputable def sxX12_reckon_62 : List UInt8 := 112 :: sxX12_reckon_63
noncomputable def sxX12_reckon_61 : List UInt8 := 28 :: sxX12_reckon_62
noncomputable def sxX12_reckon_60 : List UInt8 := 27 :: sxX12_reckon_61
noncomputable def sxX12_reckon_59 : List UInt8 := 172 :: sxX12_reckon_60
noncomputable def sxX12_reckon_58 : List UInt8 := 108 :: sxX12_reckon_59
noncomputable def sxX12_reckon_57 : List UInt8 := 28 :: sxX12_reckon_58
noncomputable def sxX12_reckon_56 : List UInt8 := 27 :: sxX12_reckon_57
noncomputable def sxX12_reckon_55 : List UInt8 := 172 :: sxX12_reckon_56
noncomputable def sxX12_reckon_54 : List UInt8 := 104 :: sxX12_reckon_55
noncomputable def sxX12_reckon_53 : List UInt8 := 28 :: sxX12_reckon_54
noncomputable def sxX12_reckon_52 : List UInt8 := 27 :: sxX12_reckon_53
noncomputable def sxX12_reckon_51 : List UInt8 := 172 :: sxX12_reckon_52
noncomputable def sxX12_reckon_50 : List UInt8 := 100 :: sxX12_reckon_51
noncomputable def sxX12_reckon_49 : List UInt8 := 28 :: sxX12_reckon_50
noncomputable def sxX12_reckon_48 : List UInt8 := 27 :: sxX12_reckon_49
noncomputable def sxX12_reckon_47 : List UInt8 := 172 :: sxX12_reckon_48
noncomputable def sxX12_reckon_46 : List UInt8 := 96 :: sxX12_reckon_47
noncomputable def sxX12_reckon_45 : List UInt8 := 28 :: sxX12_reckon_46
noncomputable def sxX12_reckon_44 : List UInt8 := 27 :: sxX12_reckon_45
noncomputable def sxX12_reckon_1 : List UInt8 := 170 :: 0 :: 0 :: 0 :: 0 :: 0 :: 85 :: 0 :: 0 :: 0 :: 2 :: 0 :: 0 :: 0 :: 8 :: 0 :: 0 :: 0 :: 43 :: 0 :: 0 :: 0 :: 47 :: 0 :: 0 :: 0 :: 51 :: 0 :: 0 :: 0 :: 55 :: 0 :: 0 :: 0 :: 59 :: 0 :: 0 :: 0 :: 63 :: 0 :: 0 :: 0 :: 74 :: sxX12_reckon_44
noncomputable def sxX12_reckon_0 : List UInt8 := 26 :: sxX12_reckon_1
theorem shX12_reckon_0 : cX12_reckon.data.toList.drop 0 = sxX12_reckon_0 := rfl
theorem shX12_reckon_1 : cX12_reckon.data.toList.drop 1 = sxX12_reckon_1 := dSn 1 shX12_reckon_0
theorem shX12_reckon_44 : cX12_reckon.data.toList.drop 44 = sxX12_reckon_44 := dSn 43 shX12_reckon_1
theorem shX12_reckon_45 : cX12_reckon.data.toList.drop 45 = sxX12_reckon_45 := dSn 1 shX12_reckon_44
theorem shX12_reckon_46 : cX12_reckon.data.toList.drop 46 = sxX12_reckon_46 := dSn 1 shX12_reckon_45
theorem shX12_reckon_47 : cX12_reckon.data.toList.drop 47 = sxX12_reckon_47 := dSn 1 shX12_reckon_46
theorem shX12_reckon_48 : cX12_reckon.data.toList.drop 48 = sxX12_reckon_48 := dSn 1 shX12_reckon_47
theorem shX12_reckon_49 : cX12_reckon.data.toList.drop 49 = sxX12_reckon_49 := dSn 1 shX12_reckon_48
theorem shX12_reckon_50 : cX12_reckon.data.toList.drop 50 = sxX12_reckon_50 := dSn 1 shX12_reckon_49
theorem shX12_reckon_51 : cX12_reckon.data.toList.drop 51 = sxX12_reckon_51 := dSn 1 shX12_reckon_50
theorem shX12_reckon_52 : cX12_reckon.data.toList.drop 52 = sxX12_reckon_52 := dSn 1 shX12_reckon_51
theorem shX12_reckon_53 : cX12_reckon.data.toList.drop 53 = sxX12_reckon_53 := dSn 1 shX12_reckon_52
theorem shX12_reckon_54 : cX12_reckon.data.toList.drop 54 = sxX12_reckon_54 := dSn 1 shX12_reckon_53
theorem shX12_reckon_55 : cX12_reckon.data.toList.drop 55 = sxX12_reckon_55 := dSn 1 shX12_reckon_54
theorem shX12_reckon_56 : cX12_reckon.data.toList.drop 56 = sxX12_reckon_56 := dSn 1 shX12_reckon_55
theorem shX12_reckon_57 : cX12_reckon.data.toList.drop 57 = sxX12_reckon_57 := dSn 1 shX12_reckon_56
theorem shX12_reckon_58 : cX12_reckon.data.toList.drop 58 = sxX12_reckon_58 := dSn 1 shX12_reckon_57
theorem shX12_reckon_59 : cX12_reckon.data.toList.drop 59 = sxX12_reckon_59 := dSn 1 shX12_reckon_58
theorem shX12_reckon_60 : cX12_reckon.data.toList.drop 60 = sxX12_reckon_60 := dSn 1 shX12_reckon_59
theorem shX12_reckon_61 : cX12_reckon.data.toList.drop 61 = sxX12_reckon_61 := dSn 1 shX12_reckon_60
theorem shX12_reckon_62 : cX12_reckon.data.toList.drop 62 = sxX12_reckon_62 := dSn 1 shX12_reckon_61
theorem shX12_reckon_63 : cX12_reckon.data.toList.drop 63 = sxX12_reckon_63 := dSn 1 shX12_reckon_62
theorem shX12_reckon_64 : cX12_reckon.data.toList.drop 64 = sxX12_reckon_64 := dSn 1 shX12_reckon_63
theorem shX12_reckon_65 : cX12_reckon.data.toList.drop 65 = sxX12_reckon_65 := dSn 1 shX12_reckon_64
theorem shX12_reckon_66 : cX12_reckon.data.toList.drop 66 = sxX12_reckon_66 := dSn 1 shX12_reckon_65
theorem shX12_reckon_69 : cX12_reckon.data.toList.drop 69 = sxX12_reckon_69 := dSn 3 shX12_reckon_66
theorem shX12_reckon_70 : cX12_reckon.data.toList.drop 70 = sxX12_reckon_70 := dSn 1 shX12_reckon_69
theorem shX12_reckon_73 : cX12_reckon.data.toList.drop 73 = sxX12_reckon_73 := dSn 3 shX12_reckon_70
theorem shX12_reckon_74 : cX12_reckon.data.toList.drop 74 = sxX12_reckon_74 := dSn 1 shX12_reckon_73
theorem shX12_reckon_75 : cX12_reckon.data.toList.drop 75 = sxX12_reckon_75 := dSn 1 shX12_reckon_74
theorem shX12_reckon_76 : cX12_reckon.data.toList.drop 76 = sxX12_reckon_76 := dSn 1 shX12_reckon_75
theorem shX12_reckon_77 : cX12_reckon.data.toList.drop 77 = sxX12_reckon_77 := dSn 1 shX12_reckon_76
theorem shX12_reckon_80 : cX12_reckon.data.toList.drop 80 = sxX12_reckon_80 := dSn 3 shX12_reckon_77
theorem shX12_reckon_81 : cX12_reckon.data.toList.drop 81 = sxX12_reckon_81 := dSn 1 shX12_reckon_80
theorem shX12_reckon_84 : cX12_reckon.data.toList.drop 84 = sxX12_reckon_84 := dSn 3 shX12_reckon_81
theorem shX12_reckon_85 : cX12_reckon.data.toList.drop 85 = sxX12_reckon_85 := dSn 1 shX12_reckon_84
theorem shX12_reckon_86 : cX12_reckon.data.toList.drop 86 = sxX12_reckon_86 := dSn 1 shX12_reckon_85
theorem shX12_reckon_87 : cX12_reckon.data.toList.drop 87 = sxX12_reckon_87 := dSn 1 shX12_reckon_86
theorem shX12_reckon_88 : cX12_reckon.data.toList.drop 88 = sxX12_reckon_88 := dSn 1 shX12_reckon_87
theorem shX12_reckon_91 : cX12_reckon.data.toList.drop 91 = sxX12_reckon_91 := dSn 3 shX12_reckon_88
theorem shX12_reckon_92 : cX12_reckon.data.toList.drop 92 = sxX12_reckon_92 := dSn 1 shX12_reckon_91
theorem shX12_reckon_95 : cX12_reckon.data.toList.drop 95 = sxX12_reckon_95 := dSn 3 shX12_reckon_92
theorem shX12_reckon_96 : cX12_reckon.data.toList.drop 96 = sxX12_reckon_96 := dSn 1 shX12_reckon_95
theorem dX12_reckon_0 : decode cX12_reckon 0 = .ok (.iload_n 0, 1) := oc_26 shX12_reckon_0
theorem dX12_reckon_1 : decode cX12_reckon 1 = .ok (.tableswitch 85 2 8 #[43, 47, 51, 55, 59, 63, 74], 43) := by decide +kernel
theorem dX12_reckon_44 : decode cX12_reckon 44 = .ok (.iload_n 1, 1) := oc_27 shX12_reckon_44
theorem dX12_reckon_45 : decode cX12_reckon 45 = .ok (.iload_n 2, 1) := oc_28 shX12_reckon_45
theorem dX12_reckon_46 : decode cX12_reckon 46 = .ok (.iadd, 1) := oc_96 shX12_reckon_46
theorem dX12_reckon_47 : decode cX12_reckon 47 = .ok (.ireturn, 1) := oc_172 shX12_reckon_47
theorem dX12_reckon_48 : decode cX12_reckon 48 = .ok (.iload_n 1, 1) := oc_27 shX12_reckon_48
theorem dX12_reckon_49 : decode cX12_reckon 49 = .ok (.iload_n 2, 1) := oc_28 shX12_reckon_49
theorem dX12_reckon_50 : decode cX12_reckon 50 = .ok (.isub, 1) := oc_100 shX12_reckon_50
theorem dX12_reckon_51 : decode cX12_reckon 51 = .ok (.ireturn, 1) := oc_172 shX12_reckon_51
theorem dX12_reckon_52 : decode cX12_reckon 52 = .ok (.iload_n 1, 1) := oc_27 shX12_reckon_52
theorem dX12_reckon_53 : decode cX12_reckon 53 = .ok (.iload_n 2, 1) := oc_28 shX12_reckon_53
theorem dX12_reckon_54 : decode cX12_reckon 54 = .ok (.imul, 1) := oc_104 shX12_reckon_54
theorem dX12_reckon_55 : decode cX12_reckon 55 = .ok (.ireturn, 1) := oc_172 shX12_reckon_55
theorem dX12_reckon_56 : decode cX12_reckon 56 = .ok (.iload_n 1, 1) := oc_27 shX12_reckon_56
theorem dX12_reckon_57 : decode cX12_reckon 57 = .ok (.iload_n 2, 1) := oc_28 shX12_reckon_57
theorem dX12_reckon_58 : decode cX12_reckon 58 = .ok (.idiv, 1) := oc_108 shX12_reckon_58
theorem dX12_reckon_59 : decode cX12_reckon 59 = .ok (.ireturn, 1) := oc_172 shX12_reckon_59
theorem dX12_reckon_60 : decode cX12_reckon 60 = .ok (.iload_n 1, 1) := oc_27 shX12_reckon_60
theorem dX12_reckon_61 : decode cX12_reckon 61 = .ok (.iload_n 2, 1) := oc_28 shX12_reckon_61
theorem dX12_reckon_62 : decode cX12_reckon 62 = .ok (.irem, 1) := oc_112 shX12_reckon_62
theorem dX12_reckon_63 : decode cX12_reckon 63 = .ok (.ireturn, 1) := oc_172 shX12_reckon_63
theorem dX12_reckon_64 : decode cX12_reckon 64 = .ok (.iload_n 1, 1) := oc_27 shX12_reckon_64
theorem dX12_reckon_65 : decode cX12_reckon 65 = .ok (.iload_n 2, 1) := oc_28 shX12_reckon_65
theorem dX12_reckon_66 : decode cX12_reckon 66 = .ok (.if_icmp .ge 7, 3) := oc_162 shX12_reckon_66 sgw_0_7
theorem dX12_reckon_69 : decode cX12_reckon 69 = .ok (.iconst 1, 1) := oc_4 shX12_reckon_69
theorem dX12_reckon_70 : decode cX12_reckon 70 = .ok (.goto 4, 3) := oc_167 shX12_reckon_70 sgw_0_4
theorem dX12_reckon_73 : decode cX12_reckon 73 = .ok (.iconst 0, 1) := oc_3 shX12_reckon_73
theorem dX12_reckon_74 : decode cX12_reckon 74 = .ok (.ireturn, 1) := oc_172 shX12_reckon_74
theorem dX12_reckon_75 : decode cX12_reckon 75 = .ok (.iload_n 1, 1) := oc_27 shX12_reckon_75
theorem dX12_reckon_76 : decode cX12_reckon 76 = .ok (.iload_n 2, 1) := oc_28 shX12_reckon_76
theorem dX12_reckon_77 : decode cX12_reckon 77 = .ok (.if_icmp .le 7, 3) := oc_164 shX12_reckon_77 sgw_0_7
theorem dX12_reckon_80 : decode cX12_reckon 80 = .ok (.iconst 1, 1) := oc_4 shX12_reckon_80
theorem dX12_reckon_81 : decode cX12_reckon 81 = .ok (.goto 4, 3) := oc_167 shX12_reckon_81 sgw_0_4
theorem dX12_reckon_84 : decode cX12_reckon 84 = .ok (.iconst 0, 1) := oc_3 shX12_reckon_84
theorem dX12_reckon_85 : decode cX12_reckon 85 = .ok (.ireturn, 1) := oc_172 shX12_reckon_85
theorem dX12_reckon_86 : decode cX12_reckon 86 = .ok (.iload_n 1, 1) := oc_27 shX12_reckon_86
theorem dX12_reckon_87 : decode cX12_reckon 87 = .ok (.iload_n 2, 1) := oc_28 shX12_reckon_87
theorem dX12_reckon_88 : decode cX12_reckon 88 = .ok (.if_icmp .ne 7, 3) := oc_160 shX12_reckon_88 sgw_0_7
theorem dX12_reckon_91 : decode cX12_reckon 91 = .ok (.iconst 1, 1) := oc_4 shX12_reckon_91
theorem dX12_reckon_92 : decode cX12_reckon 92 = .ok (.goto 4, 3) := oc_167 shX12_reckon_92 sgw_0_4
theorem dX12_reckon_95 : decode cX12_reckon 95 = .ok (.iconst 0, 1) := oc_3 shX12_reckon_95
theorem dX12_reckon_96 : decode cX12_reckon 96 = .ok (.ireturn, 1) := oc_172 shX12_reckon_96
noncomputable def sxX12_comesTo_242 : List UInt8 := []
noncomputable def sxX12_comesTo_241 : List UInt8 := 172 :: sxX12_comesTo_242
noncomputable def sxX12_comesTo_240 : List UInt8 := 46 :: sxX12_comesTo_241
noncomputable def sxX12_comesTo_239 : List UInt8 := 3 :: sxX12_comesTo_240
noncomputable def sxX12_comesTo_236 : List UInt8 := 180 :: 0 :: 86 :: sxX12_comesTo_239
noncomputable def sxX12_comesTo_235 : List UInt8 := 42 :: sxX12_comesTo_236
noncomputable def sxX12_comesTo_232 : List UInt8 := 167 :: 255 :: 40 :: sxX12_comesTo_235
noncomputable def sxX12_comesTo_231 : List UInt8 := 79 :: sxX12_comesTo_232
noncomputable def sxX12_comesTo_228 : List UInt8 := 184 :: 1 :: 71 :: sxX12_comesTo_231
noncomputable def sxX12_comesTo_227 : List UInt8 := 46 :: sxX12_comesTo_228
noncomputable def sxX12_comesTo_226 : List UInt8 := 29 :: sxX12_comesTo_227
noncomputable def sxX12_comesTo_223 : List UInt8 := 180 :: 0 :: 86 :: sxX12_comesTo_226
noncomputable def sxX12_comesTo_222 : List UInt8 := 42 :: sxX12_comesTo_223
noncomputable def sxX12_comesTo_221 : List UInt8 := 46 :: sxX12_comesTo_222
noncomputable def sxX12_comesTo_220 : List UInt8 := 100 :: sxX12_comesTo_221
noncomputable def sxX12_comesTo_219 : List UInt8 := 4 :: sxX12_comesTo_220
noncomputable def sxX12_comesTo_218 : List UInt8 := 29 :: sxX12_comesTo_219
noncomputable def sxX12_comesTo_215 : List UInt8 := 180 :: 0 :: 86 :: sxX12_comesTo_218
noncomputable def sxX12_comesTo_214 : List UInt8 := 42 :: sxX12_comesTo_215
noncomputable def sxX12_comesTo_212 : List UInt8 := 21 :: 6 :: sxX12_comesTo_214
noncomputable def sxX12_comesTo_211 : List UInt8 := 100 :: sxX12_comesTo_212
noncomputable def sxX12_comesTo_210 : List UInt8 := 4 :: sxX12_comesTo_211
noncomputable def sxX12_comesTo_209 : List UInt8 := 29 :: sxX12_comesTo_210
noncomputable def sxX12_comesTo_206 : List UInt8 := 180 :: 0 :: 86 :: sxX12_comesTo_209
noncomputable def sxX12_comesTo_205 : List UInt8 := 42 :: sxX12_comesTo_206
noncomputable def sxX12_comesTo_204 : List UInt8 := 172 :: sxX12_comesTo_205
noncomputable def sxX12_comesTo_203 : List UInt8 := 3 :: sxX12_comesTo_204
noncomputable def sxX12_comesTo_200 : List UInt8 := 154 :: 0 :: 5 :: sxX12_comesTo_203
noncomputable def sxX12_comesTo_199 : List UInt8 := 46 :: sxX12_comesTo_200
noncomputable def sxX12_comesTo_198 : List UInt8 := 29 :: sxX12_comesTo_199
noncomputable def sxX12_comesTo_195 : List UInt8 := 180 :: 0 :: 86 :: sxX12_comesTo_198
noncomputable def sxX12_comesTo_194 : List UInt8 := 42 :: sxX12_comesTo_195
noncomputable def sxX12_comesTo_191 : List UInt8 := 160 :: 0 :: 14 :: sxX12_comesTo_194
noncomputable def sxX12_comesTo_189 : List UInt8 := 16 :: 6 :: sxX12_comesTo_191
noncomputable def sxX12_comesTo_187 : List UInt8 := 21 :: 6 :: sxX12_comesTo_189
noncomputable def sxX12_comesTo_184 : List UInt8 := 159 :: 0 :: 10 :: sxX12_comesTo_187
noncomputable def sxX12_comesTo_183 : List UInt8 := 8 :: sxX12_comesTo_184
noncomputable def sxX12_comesTo_181 : List UInt8 := 21 :: 6 :: sxX12_comesTo_183
noncomputable def sxX12_comesTo_180 : List UInt8 := 62 :: sxX12_comesTo_181
noncomputable def sxX12_comesTo_179 : List UInt8 := 100 :: sxX12_comesTo_180
noncomputable def sxX12_comesTo_178 : List UInt8 := 4 :: sxX12_comesTo_179
noncomputable def sxX12_comesTo_177 : List UInt8 := 29 :: sxX12_comesTo_178
noncomputable def sxX12_comesTo_174 : List UInt8 := 167 :: 0 :: 58 :: sxX12_comesTo_177
noncomputable def sxX12_comesTo_173 : List UInt8 := 62 :: sxX12_comesTo_174
noncomputable def sxX12_comesTo_172 : List UInt8 := 100 :: sxX12_comesTo_173
noncomputable def sxX12_comesTo_171 : List UInt8 := 4 :: sxX12_comesTo_172
noncomputable def sxX12_comesTo_170 : List UInt8 := 29 :: sxX12_comesTo_171
noncomputable def sxX12_comesTo_167 : List UInt8 := 167 :: 0 :: 65 :: sxX12_comesTo_170
noncomputable def sxX12_comesTo_165 : List UInt8 := 54 :: 5 :: sxX12_comesTo_167
noncomputable def sxX12_comesTo_164 : List UInt8 := 96 :: sxX12_comesTo_165
noncomputable def sxX12_comesTo_162 : List UInt8 := 21 :: 7 :: sxX12_comesTo_164
noncomputable def sxX12_comesTo_160 : List UInt8 := 21 :: 4 :: sxX12_comesTo_162
noncomputable def sxX12_comesTo_157 : List UInt8 := 160 :: 0 :: 13 :: sxX12_comesTo_160
noncomputable def sxX12_comesTo_156 : List UInt8 := 3 :: sxX12_comesTo_157
noncomputable def sxX12_comesTo_153 : List UInt8 := 167 :: 0 :: 4 :: sxX12_comesTo_156
noncomputable def sxX12_comesTo_152 : List UInt8 := 4 :: sxX12_comesTo_153
noncomputable def sxX12_comesTo_149 : List UInt8 := 160 :: 0 :: 7 :: sxX12_comesTo_152
noncomputable def sxX12_comesTo_147 : List UInt8 := 16 :: 12 :: sxX12_comesTo_149
noncomputable def sxX12_comesTo_145 : List UInt8 := 21 :: 6 :: sxX12_comesTo_147
noncomputable def sxX12_comesTo_144 : List UInt8 := 46 :: sxX12_comesTo_145
noncomputable def sxX12_comesTo_143 : List UInt8 := 100 :: sxX12_comesTo_144
noncomputable def sxX12_comesTo_142 : List UInt8 := 4 :: sxX12_comesTo_143
noncomputable def sxX12_comesTo_141 : List UInt8 := 29 :: sxX12_comesTo_142
noncomputable def sxX12_comesTo_138 : List UInt8 := 180 :: 0 :: 86 :: sxX12_comesTo_141
noncomputable def sxX12_comesTo_137 : List UInt8 := 42 :: sxX12_comesTo_138
noncomputable def sxX12_comesTo_134 : List UInt8 := 160 :: 0 :: 43 :: sxX12_comesTo_137
noncomputable def sxX12_comesTo_132 : List UInt8 := 16 :: 12 :: sxX12_comesTo_134
noncomputable def sxX12_comesTo_130 : List UInt8 := 21 :: 6 :: sxX12_comesTo_132
noncomputable def sxX12_comesTo_127 : List UInt8 := 159 :: 0 :: 10 :: sxX12_comesTo_130
noncomputable def sxX12_comesTo_125 : List UInt8 := 16 :: 11 :: sxX12_comesTo_127
noncomputable def sxX12_comesTo_123 : List UInt8 := 21 :: 6 :: sxX12_comesTo_125
noncomputable def sxX12_comesTo_120 : List UInt8 := 167 :: 0 :: 112 :: sxX12_comesTo_123
noncomputable def sxX12_comesTo_119 : List UInt8 := 79 :: sxX12_comesTo_120
noncomputable def sxX12_comesTo_118 : List UInt8 := 100 :: sxX12_comesTo_119
noncomputable def sxX12_comesTo_117 : List UInt8 := 46 :: sxX12_comesTo_118
noncomputable def sxX12_comesTo_116 : List UInt8 := 100 :: sxX12_comesTo_117
noncomputable def sxX12_comesTo_115 : List UInt8 := 4 :: sxX12_comesTo_116
noncomputable def sxX12_comesTo_114 : List UInt8 := 29 :: sxX12_comesTo_115
noncomputable def sxX12_comesTo_111 : List UInt8 := 180 :: 0 :: 86 :: sxX12_comesTo_114
noncomputable def sxX12_comesTo_110 : List UInt8 := 42 :: sxX12_comesTo_111
noncomputable def sxX12_comesTo_109 : List UInt8 := 4 :: sxX12_comesTo_110
noncomputable def sxX12_comesTo_108 : List UInt8 := 100 :: sxX12_comesTo_109
noncomputable def sxX12_comesTo_107 : List UInt8 := 4 :: sxX12_comesTo_108
noncomputable def sxX12_comesTo_106 : List UInt8 := 29 :: sxX12_comesTo_107
noncomputable def sxX12_comesTo_103 : List UInt8 := 180 :: 0 :: 86 :: sxX12_comesTo_106
noncomputable def sxX12_comesTo_102 : List UInt8 := 42 :: sxX12_comesTo_103
noncomputable def sxX12_comesTo_99 : List UInt8 := 160 :: 0 :: 24 :: sxX12_comesTo_102
noncomputable def sxX12_comesTo_97 : List UInt8 := 16 :: 10 :: sxX12_comesTo_99
noncomputable def sxX12_comesTo_95 : List UInt8 := 21 :: 6 :: sxX12_comesTo_97
noncomputable def sxX12_comesTo_92 : List UInt8 := 167 :: 0 :: 140 :: sxX12_comesTo_95
noncomputable def sxX12_comesTo_91 : List UInt8 := 62 :: sxX12_comesTo_92
noncomputable def sxX12_comesTo_90 : List UInt8 := 96 :: sxX12_comesTo_91
noncomputable def sxX12_comesTo_89 : List UInt8 := 4 :: sxX12_comesTo_90
noncomputable def sxX12_comesTo_88 : List UInt8 := 29 :: sxX12_comesTo_89
noncomputable def sxX12_comesTo_87 : List UInt8 := 79 :: sxX12_comesTo_88
noncomputable def sxX12_comesTo_86 : List UInt8 := 46 :: sxX12_comesTo_87
noncomputable def sxX12_comesTo_84 : List UInt8 := 21 :: 7 :: sxX12_comesTo_86
noncomputable def sxX12_comesTo_81 : List UInt8 := 180 :: 0 :: 89 :: sxX12_comesTo_84
noncomputable def sxX12_comesTo_80 : List UInt8 := 42 :: sxX12_comesTo_81
noncomputable def sxX12_comesTo_77 : List UInt8 := 167 :: 0 :: 10 :: sxX12_comesTo_80
noncomputable def sxX12_comesTo_75 : List UInt8 := 21 :: 7 :: sxX12_comesTo_77
noncomputable def sxX12_comesTo_72 : List UInt8 := 154 :: 0 :: 8 :: sxX12_comesTo_75
noncomputable def sxX12_comesTo_70 : List UInt8 := 21 :: 6 :: sxX12_comesTo_72
noncomputable def sxX12_comesTo_69 : List UInt8 := 29 :: sxX12_comesTo_70
noncomputable def sxX12_comesTo_66 : List UInt8 := 180 :: 0 :: 86 :: sxX12_comesTo_69
noncomputable def sxX12_comesTo_65 : List UInt8 := 42 :: sxX12_comesTo_66
noncomputable def sxX12_comesTo_62 : List UInt8 := 160 :: 0 :: 33 :: sxX12_comesTo_65
noncomputable def sxX12_comesTo_61 : List UInt8 := 4 :: sxX12_comesTo_62
noncomputable def sxX12_comesTo_59 : List UInt8 := 21 :: 6 :: sxX12_comesTo_61
noncomputable def sxX12_comesTo_56 : List UInt8 := 153 :: 0 :: 9 :: sxX12_comesTo_59
noncomputable def sxX12_comesTo_54 : List UInt8 := 21 :: 6 :: sxX12_comesTo_56
noncomputable def sxX12_comesTo_52 : List UInt8 := 54 :: 5 :: sxX12_comesTo_54
noncomputable def sxX12_comesTo_51 : List UInt8 := 96 :: sxX12_comesTo_52
noncomputable def sxX12_comesTo_50 : List UInt8 := 4 :: sxX12_comesTo_51
noncomputable def sxX12_comesTo_48 : List UInt8 := 21 :: 5 :: sxX12_comesTo_50
noncomputable def sxX12_comesTo_46 : List UInt8 := 54 :: 7 :: sxX12_comesTo_48
noncomputable def sxX12_comesTo_45 : List UInt8 := 112 :: sxX12_comesTo_46
noncomputable def sxX12_comesTo_42 : List UInt8 := 19 :: 1 :: 4 :: sxX12_comesTo_45
noncomputable def sxX12_comesTo_41 : List UInt8 := 46 :: sxX12_comesTo_42
noncomputable def sxX12_comesTo_39 : List UInt8 := 21 :: 5 :: sxX12_comesTo_41
noncomputable def sxX12_comesTo_36 : List UInt8 := 180 :: 0 :: 71 :: sxX12_comesTo_39
noncomputable def sxX12_comesTo_35 : List UInt8 := 42 :: sxX12_comesTo_36
noncomputable def sxX12_comesTo_33 : List UInt8 := 54 :: 6 :: sxX12_comesTo_35
noncomputable def sxX12_comesTo_32 : List UInt8 := 108 :: sxX12_comesTo_33
noncomputable def sxX12_comesTo_29 : List UInt8 := 19 :: 1 :: 4 :: sxX12_comesTo_32
noncomputable def sxX12_comesTo_28 : List UInt8 := 46 :: sxX12_comesTo_29
noncomputable def sxX12_comesTo_26 : List UInt8 := 21 :: 5 :: sxX12_comesTo_28
noncomputable def sxX12_comesTo_23 : List UInt8 := 180 :: 0 :: 71 :: sxX12_comesTo_26
noncomputable def sxX12_comesTo_22 : List UInt8 := 42 :: sxX12_comesTo_23
noncomputable def sxX12_comesTo_19 : List UInt8 := 162 :: 0 :: 216 :: sxX12_comesTo_22
noncomputable def sxX12_comesTo_18 : List UInt8 := 28 :: sxX12_comesTo_19
noncomputable def sxX12_comesTo_16 : List UInt8 := 21 :: 5 :: sxX12_comesTo_18
noncomputable def sxX12_comesTo_14 : List UInt8 := 54 :: 5 :: sxX12_comesTo_16
noncomputable def sxX12_comesTo_13 : List UInt8 := 27 :: sxX12_comesTo_14
noncomputable def sxX12_comesTo_11 : List UInt8 := 54 :: 4 :: sxX12_comesTo_13
noncomputable def sxX12_comesTo_10 : List UInt8 := 104 :: sxX12_comesTo_11
noncomputable def sxX12_comesTo_9 : List UInt8 := 108 :: sxX12_comesTo_10
noncomputable def sxX12_comesTo_6 : List UInt8 := 17 :: 0 :: 180 :: sxX12_comesTo_9
noncomputable def sxX12_comesTo_5 : List UInt8 := 27 :: sxX12_comesTo_6
noncomputable def sxX12_comesTo_2 : List UInt8 := 17 :: 0 :: 180 :: sxX12_comesTo_5
noncomputable def sxX12_comesTo_1 : List UInt8 := 62 :: sxX12_comesTo_2
noncomputable def sxX12_comesTo_0 : List UInt8 := 3 :: sxX12_comesTo_1
theorem shX12_comesTo_0 : cX12_comesTo.data.toList.drop 0 = sxX12_comesTo_0 := rfl
theorem shX12_comesTo_1 : cX12_comesTo.data.toList.drop 1 = sxX12_comesTo_1 := dSn 1 shX12_comesTo_0
theorem shX12_comesTo_2 : cX12_comesTo.data.toList.drop 2 = sxX12_comesTo_2 := dSn 1 shX12_comesTo_1
theorem shX12_comesTo_5 : cX12_comesTo.data.toList.drop 5 = sxX12_comesTo_5 := dSn 3 shX12_comesTo_2
theorem shX12_comesTo_6 : cX12_comesTo.data.toList.drop 6 = sxX12_comesTo_6 := dSn 1 shX12_comesTo_5
theorem shX12_comesTo_9 : cX12_comesTo.data.toList.drop 9 = sxX12_comesTo_9 := dSn 3 shX12_comesTo_6
theorem shX12_comesTo_10 : cX12_comesTo.data.toList.drop 10 = sxX12_comesTo_10 := dSn 1 shX12_comesTo_9
theorem shX12_comesTo_11 : cX12_comesTo.data.toList.drop 11 = sxX12_comesTo_11 := dSn 1 shX12_comesTo_10
theorem shX12_comesTo_13 : cX12_comesTo.data.toList.drop 13 = sxX12_comesTo_13 := dSn 2 shX12_comesTo_11
theorem shX12_comesTo_14 : cX12_comesTo.data.toList.drop 14 = sxX12_comesTo_14 := dSn 1 shX12_comesTo_13
theorem shX12_comesTo_16 : cX12_comesTo.data.toList.drop 16 = sxX12_comesTo_16 := dSn 2 shX12_comesTo_14
theorem shX12_comesTo_18 : cX12_comesTo.data.toList.drop 18 = sxX12_comesTo_18 := dSn 2 shX12_comesTo_16
theorem shX12_comesTo_19 : cX12_comesTo.data.toList.drop 19 = sxX12_comesTo_19 := dSn 1 shX12_comesTo_18
theorem shX12_comesTo_22 : cX12_comesTo.data.toList.drop 22 = sxX12_comesTo_22 := dSn 3 shX12_comesTo_19
theorem shX12_comesTo_23 : cX12_comesTo.data.toList.drop 23 = sxX12_comesTo_23 := dSn 1 shX12_comesTo_22
theorem shX12_comesTo_26 : cX12_comesTo.data.toList.drop 26 = sxX12_comesTo_26 := dSn 3 shX12_comesTo_23
theorem shX12_comesTo_28 : cX12_comesTo.data.toList.drop 28 = sxX12_comesTo_28 := dSn 2 shX12_comesTo_26
theorem shX12_comesTo_29 : cX12_comesTo.data.toList.drop 29 = sxX12_comesTo_29 := dSn 1 shX12_comesTo_28
theorem shX12_comesTo_32 : cX12_comesTo.data.toList.drop 32 = sxX12_comesTo_32 := dSn 3 shX12_comesTo_29
theorem shX12_comesTo_33 : cX12_comesTo.data.toList.drop 33 = sxX12_comesTo_33 := dSn 1 shX12_comesTo_32
theorem shX12_comesTo_35 : cX12_comesTo.data.toList.drop 35 = sxX12_comesTo_35 := dSn 2 shX12_comesTo_33
theorem shX12_comesTo_36 : cX12_comesTo.data.toList.drop 36 = sxX12_comesTo_36 := dSn 1 shX12_comesTo_35
theorem shX12_comesTo_39 : cX12_comesTo.data.toList.drop 39 = sxX12_comesTo_39 := dSn 3 shX12_comesTo_36
theorem shX12_comesTo_41 : cX12_comesTo.data.toList.drop 41 = sxX12_comesTo_41 := dSn 2 shX12_comesTo_39
theorem shX12_comesTo_42 : cX12_comesTo.data.toList.drop 42 = sxX12_comesTo_42 := dSn 1 shX12_comesTo_41
theorem shX12_comesTo_45 : cX12_comesTo.data.toList.drop 45 = sxX12_comesTo_45 := dSn 3 shX12_comesTo_42
theorem shX12_comesTo_46 : cX12_comesTo.data.toList.drop 46 = sxX12_comesTo_46 := dSn 1 shX12_comesTo_45
theorem shX12_comesTo_48 : cX12_comesTo.data.toList.drop 48 = sxX12_comesTo_48 := dSn 2 shX12_comesTo_46
theorem shX12_comesTo_50 : cX12_comesTo.data.toList.drop 50 = sxX12_comesTo_50 := dSn 2 shX12_comesTo_48
theorem shX12_comesTo_51 : cX12_comesTo.data.toList.drop 51 = sxX12_comesTo_51 := dSn 1 shX12_comesTo_50
theorem shX12_comesTo_52 : cX12_comesTo.data.toList.drop 52 = sxX12_comesTo_52 := dSn 1 shX12_comesTo_51
theorem shX12_comesTo_54 : cX12_comesTo.data.toList.drop 54 = sxX12_comesTo_54 := dSn 2 shX12_comesTo_52
theorem shX12_comesTo_56 : cX12_comesTo.data.toList.drop 56 = sxX12_comesTo_56 := dSn 2 shX12_comesTo_54
theorem shX12_comesTo_59 : cX12_comesTo.data.toList.drop 59 = sxX12_comesTo_59 := dSn 3 shX12_comesTo_56
theorem shX12_comesTo_61 : cX12_comesTo.data.toList.drop 61 = sxX12_comesTo_61 := dSn 2 shX12_comesTo_59
theorem shX12_comesTo_62 : cX12_comesTo.data.toList.drop 62 = sxX12_comesTo_62 := dSn 1 shX12_comesTo_61
theorem shX12_comesTo_65 : cX12_comesTo.data.toList.drop 65 = sxX12_comesTo_65 := dSn 3 shX12_comesTo_62
theorem shX12_comesTo_66 : cX12_comesTo.data.toList.drop 66 = sxX12_comesTo_66 := dSn 1 shX12_comesTo_65
theorem shX12_comesTo_69 : cX12_comesTo.data.toList.drop 69 = sxX12_comesTo_69 := dSn 3 shX12_comesTo_66
theorem shX12_comesTo_70 : cX12_comesTo.data.toList.drop 70 = sxX12_comesTo_70 := dSn 1 shX12_comesTo_69
theorem shX12_comesTo_72 : cX12_comesTo.data.toList.drop 72 = sxX12_comesTo_72 := dSn 2 shX12_comesTo_70
theorem shX12_comesTo_75 : cX12_comesTo.data.toList.drop 75 = sxX12_comesTo_75 := dSn 3 shX12_comesTo_72
theorem shX12_comesTo_77 : cX12_comesTo.data.toList.drop 77 = sxX12_comesTo_77 := dSn 2 shX12_comesTo_75
theorem shX12_comesTo_80 : cX12_comesTo.data.toList.drop 80 = sxX12_comesTo_80 := dSn 3 shX12_comesTo_77
theorem shX12_comesTo_81 : cX12_comesTo.data.toList.drop 81 = sxX12_comesTo_81 := dSn 1 shX12_comesTo_80
theorem shX12_comesTo_84 : cX12_comesTo.data.toList.drop 84 = sxX12_comesTo_84 := dSn 3 shX12_comesTo_81
theorem shX12_comesTo_86 : cX12_comesTo.data.toList.drop 86 = sxX12_comesTo_86 := dSn 2 shX12_comesTo_84
theorem shX12_comesTo_87 : cX12_comesTo.data.toList.drop 87 = sxX12_comesTo_87 := dSn 1 shX12_comesTo_86
theorem shX12_comesTo_88 : cX12_comesTo.data.toList.drop 88 = sxX12_comesTo_88 := dSn 1 shX12_comesTo_87
theorem shX12_comesTo_89 : cX12_comesTo.data.toList.drop 89 = sxX12_comesTo_89 := dSn 1 shX12_comesTo_88
theorem shX12_comesTo_90 : cX12_comesTo.data.toList.drop 90 = sxX12_comesTo_90 := dSn 1 shX12_comesTo_89
theorem shX12_comesTo_91 : cX12_comesTo.data.toList.drop 91 = sxX12_comesTo_91 := dSn 1 shX12_comesTo_90
theorem shX12_comesTo_92 : cX12_comesTo.data.toList.drop 92 = sxX12_comesTo_92 := dSn 1 shX12_comesTo_91
theorem shX12_comesTo_95 : cX12_comesTo.data.toList.drop 95 = sxX12_comesTo_95 := dSn 3 shX12_comesTo_92
theorem shX12_comesTo_97 : cX12_comesTo.data.toList.drop 97 = sxX12_comesTo_97 := dSn 2 shX12_comesTo_95
theorem shX12_comesTo_99 : cX12_comesTo.data.toList.drop 99 = sxX12_comesTo_99 := dSn 2 shX12_comesTo_97
theorem shX12_comesTo_102 : cX12_comesTo.data.toList.drop 102 = sxX12_comesTo_102 := dSn 3 shX12_comesTo_99
theorem shX12_comesTo_103 : cX12_comesTo.data.toList.drop 103 = sxX12_comesTo_103 := dSn 1 shX12_comesTo_102
theorem shX12_comesTo_106 : cX12_comesTo.data.toList.drop 106 = sxX12_comesTo_106 := dSn 3 shX12_comesTo_103
theorem shX12_comesTo_107 : cX12_comesTo.data.toList.drop 107 = sxX12_comesTo_107 := dSn 1 shX12_comesTo_106
theorem shX12_comesTo_108 : cX12_comesTo.data.toList.drop 108 = sxX12_comesTo_108 := dSn 1 shX12_comesTo_107
theorem shX12_comesTo_109 : cX12_comesTo.data.toList.drop 109 = sxX12_comesTo_109 := dSn 1 shX12_comesTo_108
theorem shX12_comesTo_110 : cX12_comesTo.data.toList.drop 110 = sxX12_comesTo_110 := dSn 1 shX12_comesTo_109
theorem shX12_comesTo_111 : cX12_comesTo.data.toList.drop 111 = sxX12_comesTo_111 := dSn 1 shX12_comesTo_110
theorem shX12_comesTo_114 : cX12_comesTo.data.toList.drop 114 = sxX12_comesTo_114 := dSn 3 shX12_comesTo_111
theorem shX12_comesTo_115 : cX12_comesTo.data.toList.drop 115 = sxX12_comesTo_115 := dSn 1 shX12_comesTo_114
theorem shX12_comesTo_116 : cX12_comesTo.data.toList.drop 116 = sxX12_comesTo_116 := dSn 1 shX12_comesTo_115
theorem shX12_comesTo_117 : cX12_comesTo.data.toList.drop 117 = sxX12_comesTo_117 := dSn 1 shX12_comesTo_116
theorem shX12_comesTo_118 : cX12_comesTo.data.toList.drop 118 = sxX12_comesTo_118 := dSn 1 shX12_comesTo_117
theorem shX12_comesTo_119 : cX12_comesTo.data.toList.drop 119 = sxX12_comesTo_119 := dSn 1 shX12_comesTo_118
theorem shX12_comesTo_120 : cX12_comesTo.data.toList.drop 120 = sxX12_comesTo_120 := dSn 1 shX12_comesTo_119
theorem shX12_comesTo_123 : cX12_comesTo.data.toList.drop 123 = sxX12_comesTo_123 := dSn 3 shX12_comesTo_120
theorem shX12_comesTo_125 : cX12_comesTo.data.toList.drop 125 = sxX12_comesTo_125 := dSn 2 shX12_comesTo_123
theorem shX12_comesTo_127 : cX12_comesTo.data.toList.drop 127 = sxX12_comesTo_127 := dSn 2 shX12_comesTo_125
theorem shX12_comesTo_130 : cX12_comesTo.data.toList.drop 130 = sxX12_comesTo_130 := dSn 3 shX12_comesTo_127
theorem shX12_comesTo_132 : cX12_comesTo.data.toList.drop 132 = sxX12_comesTo_132 := dSn 2 shX12_comesTo_130
theorem shX12_comesTo_134 : cX12_comesTo.data.toList.drop 134 = sxX12_comesTo_134 := dSn 2 shX12_comesTo_132
theorem shX12_comesTo_137 : cX12_comesTo.data.toList.drop 137 = sxX12_comesTo_137 := dSn 3 shX12_comesTo_134
theorem shX12_comesTo_138 : cX12_comesTo.data.toList.drop 138 = sxX12_comesTo_138 := dSn 1 shX12_comesTo_137
theorem shX12_comesTo_141 : cX12_comesTo.data.toList.drop 141 = sxX12_comesTo_141 := dSn 3 shX12_comesTo_138
theorem shX12_comesTo_142 : cX12_comesTo.data.toList.drop 142 = sxX12_comesTo_142 := dSn 1 shX12_comesTo_141
theorem shX12_comesTo_143 : cX12_comesTo.data.toList.drop 143 = sxX12_comesTo_143 := dSn 1 shX12_comesTo_142
theorem shX12_comesTo_144 : cX12_comesTo.data.toList.drop 144 = sxX12_comesTo_144 := dSn 1 shX12_comesTo_143
theorem shX12_comesTo_145 : cX12_comesTo.data.toList.drop 145 = sxX12_comesTo_145 := dSn 1 shX12_comesTo_144
theorem shX12_comesTo_147 : cX12_comesTo.data.toList.drop 147 = sxX12_comesTo_147 := dSn 2 shX12_comesTo_145
theorem shX12_comesTo_149 : cX12_comesTo.data.toList.drop 149 = sxX12_comesTo_149 := dSn 2 shX12_comesTo_147
theorem shX12_comesTo_152 : cX12_comesTo.data.toList.drop 152 = sxX12_comesTo_152 := dSn 3 shX12_comesTo_149
theorem shX12_comesTo_153 : cX12_comesTo.data.toList.drop 153 = sxX12_comesTo_153 := dSn 1 shX12_comesTo_152
theorem shX12_comesTo_156 : cX12_comesTo.data.toList.drop 156 = sxX12_comesTo_156 := dSn 3 shX12_comesTo_153
theorem shX12_comesTo_157 : cX12_comesTo.data.toList.drop 157 = sxX12_comesTo_157 := dSn 1 shX12_comesTo_156
theorem shX12_comesTo_160 : cX12_comesTo.data.toList.drop 160 = sxX12_comesTo_160 := dSn 3 shX12_comesTo_157
theorem shX12_comesTo_162 : cX12_comesTo.data.toList.drop 162 = sxX12_comesTo_162 := dSn 2 shX12_comesTo_160
theorem shX12_comesTo_164 : cX12_comesTo.data.toList.drop 164 = sxX12_comesTo_164 := dSn 2 shX12_comesTo_162
theorem shX12_comesTo_165 : cX12_comesTo.data.toList.drop 165 = sxX12_comesTo_165 := dSn 1 shX12_comesTo_164
theorem shX12_comesTo_167 : cX12_comesTo.data.toList.drop 167 = sxX12_comesTo_167 := dSn 2 shX12_comesTo_165
theorem shX12_comesTo_170 : cX12_comesTo.data.toList.drop 170 = sxX12_comesTo_170 := dSn 3 shX12_comesTo_167
theorem shX12_comesTo_171 : cX12_comesTo.data.toList.drop 171 = sxX12_comesTo_171 := dSn 1 shX12_comesTo_170
theorem shX12_comesTo_172 : cX12_comesTo.data.toList.drop 172 = sxX12_comesTo_172 := dSn 1 shX12_comesTo_171
theorem shX12_comesTo_173 : cX12_comesTo.data.toList.drop 173 = sxX12_comesTo_173 := dSn 1 shX12_comesTo_172
theorem shX12_comesTo_174 : cX12_comesTo.data.toList.drop 174 = sxX12_comesTo_174 := dSn 1 shX12_comesTo_173
theorem shX12_comesTo_177 : cX12_comesTo.data.toList.drop 177 = sxX12_comesTo_177 := dSn 3 shX12_comesTo_174
theorem shX12_comesTo_178 : cX12_comesTo.data.toList.drop 178 = sxX12_comesTo_178 := dSn 1 shX12_comesTo_177
theorem shX12_comesTo_179 : cX12_comesTo.data.toList.drop 179 = sxX12_comesTo_179 := dSn 1 shX12_comesTo_178
theorem shX12_comesTo_180 : cX12_comesTo.data.toList.drop 180 = sxX12_comesTo_180 := dSn 1 shX12_comesTo_179
theorem shX12_comesTo_181 : cX12_comesTo.data.toList.drop 181 = sxX12_comesTo_181 := dSn 1 shX12_comesTo_180
theorem shX12_comesTo_183 : cX12_comesTo.data.toList.drop 183 = sxX12_comesTo_183 := dSn 2 shX12_comesTo_181
theorem shX12_comesTo_184 : cX12_comesTo.data.toList.drop 184 = sxX12_comesTo_184 := dSn 1 shX12_comesTo_183
theorem shX12_comesTo_187 : cX12_comesTo.data.toList.drop 187 = sxX12_comesTo_187 := dSn 3 shX12_comesTo_184
theorem shX12_comesTo_189 : cX12_comesTo.data.toList.drop 189 = sxX12_comesTo_189 := dSn 2 shX12_comesTo_187
theorem shX12_comesTo_191 : cX12_comesTo.data.toList.drop 191 = sxX12_comesTo_191 := dSn 2 shX12_comesTo_189
theorem shX12_comesTo_194 : cX12_comesTo.data.toList.drop 194 = sxX12_comesTo_194 := dSn 3 shX12_comesTo_191
theorem shX12_comesTo_195 : cX12_comesTo.data.toList.drop 195 = sxX12_comesTo_195 := dSn 1 shX12_comesTo_194
theorem shX12_comesTo_198 : cX12_comesTo.data.toList.drop 198 = sxX12_comesTo_198 := dSn 3 shX12_comesTo_195
theorem shX12_comesTo_199 : cX12_comesTo.data.toList.drop 199 = sxX12_comesTo_199 := dSn 1 shX12_comesTo_198
theorem shX12_comesTo_200 : cX12_comesTo.data.toList.drop 200 = sxX12_comesTo_200 := dSn 1 shX12_comesTo_199
theorem shX12_comesTo_203 : cX12_comesTo.data.toList.drop 203 = sxX12_comesTo_203 := dSn 3 shX12_comesTo_200
theorem shX12_comesTo_204 : cX12_comesTo.data.toList.drop 204 = sxX12_comesTo_204 := dSn 1 shX12_comesTo_203
theorem shX12_comesTo_205 : cX12_comesTo.data.toList.drop 205 = sxX12_comesTo_205 := dSn 1 shX12_comesTo_204
theorem shX12_comesTo_206 : cX12_comesTo.data.toList.drop 206 = sxX12_comesTo_206 := dSn 1 shX12_comesTo_205
theorem shX12_comesTo_209 : cX12_comesTo.data.toList.drop 209 = sxX12_comesTo_209 := dSn 3 shX12_comesTo_206
theorem shX12_comesTo_210 : cX12_comesTo.data.toList.drop 210 = sxX12_comesTo_210 := dSn 1 shX12_comesTo_209
theorem shX12_comesTo_211 : cX12_comesTo.data.toList.drop 211 = sxX12_comesTo_211 := dSn 1 shX12_comesTo_210
theorem shX12_comesTo_212 : cX12_comesTo.data.toList.drop 212 = sxX12_comesTo_212 := dSn 1 shX12_comesTo_211
theorem shX12_comesTo_214 : cX12_comesTo.data.toList.drop 214 = sxX12_comesTo_214 := dSn 2 shX12_comesTo_212
theorem shX12_comesTo_215 : cX12_comesTo.data.toList.drop 215 = sxX12_comesTo_215 := dSn 1 shX12_comesTo_214
theorem shX12_comesTo_218 : cX12_comesTo.data.toList.drop 218 = sxX12_comesTo_218 := dSn 3 shX12_comesTo_215
theorem shX12_comesTo_219 : cX12_comesTo.data.toList.drop 219 = sxX12_comesTo_219 := dSn 1 shX12_comesTo_218
theorem shX12_comesTo_220 : cX12_comesTo.data.toList.drop 220 = sxX12_comesTo_220 := dSn 1 shX12_comesTo_219
theorem shX12_comesTo_221 : cX12_comesTo.data.toList.drop 221 = sxX12_comesTo_221 := dSn 1 shX12_comesTo_220
theorem shX12_comesTo_222 : cX12_comesTo.data.toList.drop 222 = sxX12_comesTo_222 := dSn 1 shX12_comesTo_221
theorem shX12_comesTo_223 : cX12_comesTo.data.toList.drop 223 = sxX12_comesTo_223 := dSn 1 shX12_comesTo_222
theorem shX12_comesTo_226 : cX12_comesTo.data.toList.drop 226 = sxX12_comesTo_226 := dSn 3 shX12_comesTo_223
theorem shX12_comesTo_227 : cX12_comesTo.data.toList.drop 227 = sxX12_comesTo_227 := dSn 1 shX12_comesTo_226
theorem shX12_comesTo_228 : cX12_comesTo.data.toList.drop 228 = sxX12_comesTo_228 := dSn 1 shX12_comesTo_227
theorem shX12_comesTo_231 : cX12_comesTo.data.toList.drop 231 = sxX12_comesTo_231 := dSn 3 shX12_comesTo_228
theorem shX12_comesTo_232 : cX12_comesTo.data.toList.drop 232 = sxX12_comesTo_232 := dSn 1 shX12_comesTo_231
theorem shX12_comesTo_235 : cX12_comesTo.data.toList.drop 235 = sxX12_comesTo_235 := dSn 3 shX12_comesTo_232
theorem shX12_comesTo_236 : cX12_comesTo.data.toList.drop 236 = sxX12_comesTo_236 := dSn 1 shX12_comesTo_235
theorem shX12_comesTo_239 : cX12_comesTo.data.toList.drop 239 = sxX12_comesTo_239 := dSn 3 shX12_comesTo_236
theorem shX12_comesTo_240 : cX12_comesTo.data.toList.drop 240 = sxX12_comesTo_240 := dSn 1 shX12_comesTo_239
theorem shX12_comesTo_241 : cX12_comesTo.data.toList.drop 241 = sxX12_comesTo_241 := dSn 1 shX12_comesTo_240
theorem dX12_comesTo_0 : decode cX12_comesTo 0 = .ok (.iconst 0, 1) := oc_3 shX12_comesTo_0
theorem dX12_comesTo_1 : decode cX12_comesTo 1 = .ok (.istore_n 3, 1) := oc_62 shX12_comesTo_1
theorem dX12_comesTo_2 : decode cX12_comesTo 2 = .ok (.sipush 180, 3) := oc_17 shX12_comesTo_2 sgw_0_180
theorem dX12_comesTo_5 : decode cX12_comesTo 5 = .ok (.iload_n 1, 1) := oc_27 shX12_comesTo_5
theorem dX12_comesTo_6 : decode cX12_comesTo 6 = .ok (.sipush 180, 3) := oc_17 shX12_comesTo_6 sgw_0_180
theorem dX12_comesTo_9 : decode cX12_comesTo 9 = .ok (.idiv, 1) := oc_108 shX12_comesTo_9
theorem dX12_comesTo_10 : decode cX12_comesTo 10 = .ok (.imul, 1) := oc_104 shX12_comesTo_10
theorem dX12_comesTo_11 : decode cX12_comesTo 11 = .ok (.istore 4, 2) := oc_54 shX12_comesTo_11
theorem dX12_comesTo_13 : decode cX12_comesTo 13 = .ok (.iload_n 1, 1) := oc_27 shX12_comesTo_13
theorem dX12_comesTo_14 : decode cX12_comesTo 14 = .ok (.istore 5, 2) := oc_54 shX12_comesTo_14
theorem dX12_comesTo_16 : decode cX12_comesTo 16 = .ok (.iload 5, 2) := oc_21 shX12_comesTo_16
theorem dX12_comesTo_18 : decode cX12_comesTo 18 = .ok (.iload_n 2, 1) := oc_28 shX12_comesTo_18
theorem dX12_comesTo_19 : decode cX12_comesTo 19 = .ok (.if_icmp .ge 216, 3) := oc_162 shX12_comesTo_19 sgw_0_216
theorem dX12_comesTo_22 : decode cX12_comesTo 22 = .ok (.aload_n 0, 1) := oc_42 shX12_comesTo_22
theorem dX12_comesTo_23 : decode cX12_comesTo 23 = .ok (.getfield 71, 3) := oc_180 shX12_comesTo_23
theorem dX12_comesTo_26 : decode cX12_comesTo 26 = .ok (.iload 5, 2) := oc_21 shX12_comesTo_26
theorem dX12_comesTo_28 : decode cX12_comesTo 28 = .ok (.iaload, 1) := oc_46 shX12_comesTo_28
theorem dX12_comesTo_29 : decode cX12_comesTo 29 = .ok (.ldc_w 260, 3) := oc_19 shX12_comesTo_29
theorem dX12_comesTo_32 : decode cX12_comesTo 32 = .ok (.idiv, 1) := oc_108 shX12_comesTo_32
theorem dX12_comesTo_33 : decode cX12_comesTo 33 = .ok (.istore 6, 2) := oc_54 shX12_comesTo_33
theorem dX12_comesTo_35 : decode cX12_comesTo 35 = .ok (.aload_n 0, 1) := oc_42 shX12_comesTo_35
theorem dX12_comesTo_36 : decode cX12_comesTo 36 = .ok (.getfield 71, 3) := oc_180 shX12_comesTo_36
theorem dX12_comesTo_39 : decode cX12_comesTo 39 = .ok (.iload 5, 2) := oc_21 shX12_comesTo_39
theorem dX12_comesTo_41 : decode cX12_comesTo 41 = .ok (.iaload, 1) := oc_46 shX12_comesTo_41
theorem dX12_comesTo_42 : decode cX12_comesTo 42 = .ok (.ldc_w 260, 3) := oc_19 shX12_comesTo_42
theorem dX12_comesTo_45 : decode cX12_comesTo 45 = .ok (.irem, 1) := oc_112 shX12_comesTo_45
theorem dX12_comesTo_46 : decode cX12_comesTo 46 = .ok (.istore 7, 2) := oc_54 shX12_comesTo_46
theorem dX12_comesTo_48 : decode cX12_comesTo 48 = .ok (.iload 5, 2) := oc_21 shX12_comesTo_48
theorem dX12_comesTo_50 : decode cX12_comesTo 50 = .ok (.iconst 1, 1) := oc_4 shX12_comesTo_50
theorem dX12_comesTo_51 : decode cX12_comesTo 51 = .ok (.iadd, 1) := oc_96 shX12_comesTo_51
theorem dX12_comesTo_52 : decode cX12_comesTo 52 = .ok (.istore 5, 2) := oc_54 shX12_comesTo_52
theorem dX12_comesTo_54 : decode cX12_comesTo 54 = .ok (.iload 6, 2) := oc_21 shX12_comesTo_54
theorem dX12_comesTo_56 : decode cX12_comesTo 56 = .ok (.ifCond .eq 9, 3) := oc_153 shX12_comesTo_56 sgw_0_9
theorem dX12_comesTo_59 : decode cX12_comesTo 59 = .ok (.iload 6, 2) := oc_21 shX12_comesTo_59
theorem dX12_comesTo_61 : decode cX12_comesTo 61 = .ok (.iconst 1, 1) := oc_4 shX12_comesTo_61
theorem dX12_comesTo_62 : decode cX12_comesTo 62 = .ok (.if_icmp .ne 33, 3) := oc_160 shX12_comesTo_62 sgw_0_33
theorem dX12_comesTo_65 : decode cX12_comesTo 65 = .ok (.aload_n 0, 1) := oc_42 shX12_comesTo_65
theorem dX12_comesTo_66 : decode cX12_comesTo 66 = .ok (.getfield 86, 3) := oc_180 shX12_comesTo_66
theorem dX12_comesTo_69 : decode cX12_comesTo 69 = .ok (.iload_n 3, 1) := oc_29 shX12_comesTo_69
theorem dX12_comesTo_70 : decode cX12_comesTo 70 = .ok (.iload 6, 2) := oc_21 shX12_comesTo_70
theorem dX12_comesTo_72 : decode cX12_comesTo 72 = .ok (.ifCond .ne 8, 3) := oc_154 shX12_comesTo_72 sgw_0_8
theorem dX12_comesTo_75 : decode cX12_comesTo 75 = .ok (.iload 7, 2) := oc_21 shX12_comesTo_75
theorem dX12_comesTo_77 : decode cX12_comesTo 77 = .ok (.goto 10, 3) := oc_167 shX12_comesTo_77 sgw_0_10
theorem dX12_comesTo_80 : decode cX12_comesTo 80 = .ok (.aload_n 0, 1) := oc_42 shX12_comesTo_80
theorem dX12_comesTo_81 : decode cX12_comesTo 81 = .ok (.getfield 89, 3) := oc_180 shX12_comesTo_81
theorem dX12_comesTo_84 : decode cX12_comesTo 84 = .ok (.iload 7, 2) := oc_21 shX12_comesTo_84
theorem dX12_comesTo_86 : decode cX12_comesTo 86 = .ok (.iaload, 1) := oc_46 shX12_comesTo_86
theorem dX12_comesTo_87 : decode cX12_comesTo 87 = .ok (.iastore, 1) := oc_79 shX12_comesTo_87
theorem dX12_comesTo_88 : decode cX12_comesTo 88 = .ok (.iload_n 3, 1) := oc_29 shX12_comesTo_88
theorem dX12_comesTo_89 : decode cX12_comesTo 89 = .ok (.iconst 1, 1) := oc_4 shX12_comesTo_89
theorem dX12_comesTo_90 : decode cX12_comesTo 90 = .ok (.iadd, 1) := oc_96 shX12_comesTo_90
theorem dX12_comesTo_91 : decode cX12_comesTo 91 = .ok (.istore_n 3, 1) := oc_62 shX12_comesTo_91
theorem dX12_comesTo_92 : decode cX12_comesTo 92 = .ok (.goto 140, 3) := oc_167 shX12_comesTo_92 sgw_0_140
theorem dX12_comesTo_95 : decode cX12_comesTo 95 = .ok (.iload 6, 2) := oc_21 shX12_comesTo_95
theorem dX12_comesTo_97 : decode cX12_comesTo 97 = .ok (.bipush 10, 2) := oc_16 shX12_comesTo_97 sgb_10
theorem dX12_comesTo_99 : decode cX12_comesTo 99 = .ok (.if_icmp .ne 24, 3) := oc_160 shX12_comesTo_99 sgw_0_24
theorem dX12_comesTo_102 : decode cX12_comesTo 102 = .ok (.aload_n 0, 1) := oc_42 shX12_comesTo_102
theorem dX12_comesTo_103 : decode cX12_comesTo 103 = .ok (.getfield 86, 3) := oc_180 shX12_comesTo_103
theorem dX12_comesTo_106 : decode cX12_comesTo 106 = .ok (.iload_n 3, 1) := oc_29 shX12_comesTo_106
theorem dX12_comesTo_107 : decode cX12_comesTo 107 = .ok (.iconst 1, 1) := oc_4 shX12_comesTo_107
theorem dX12_comesTo_108 : decode cX12_comesTo 108 = .ok (.isub, 1) := oc_100 shX12_comesTo_108
theorem dX12_comesTo_109 : decode cX12_comesTo 109 = .ok (.iconst 1, 1) := oc_4 shX12_comesTo_109
theorem dX12_comesTo_110 : decode cX12_comesTo 110 = .ok (.aload_n 0, 1) := oc_42 shX12_comesTo_110
theorem dX12_comesTo_111 : decode cX12_comesTo 111 = .ok (.getfield 86, 3) := oc_180 shX12_comesTo_111
theorem dX12_comesTo_114 : decode cX12_comesTo 114 = .ok (.iload_n 3, 1) := oc_29 shX12_comesTo_114
theorem dX12_comesTo_115 : decode cX12_comesTo 115 = .ok (.iconst 1, 1) := oc_4 shX12_comesTo_115
theorem dX12_comesTo_116 : decode cX12_comesTo 116 = .ok (.isub, 1) := oc_100 shX12_comesTo_116
theorem dX12_comesTo_117 : decode cX12_comesTo 117 = .ok (.iaload, 1) := oc_46 shX12_comesTo_117
theorem dX12_comesTo_118 : decode cX12_comesTo 118 = .ok (.isub, 1) := oc_100 shX12_comesTo_118
theorem dX12_comesTo_119 : decode cX12_comesTo 119 = .ok (.iastore, 1) := oc_79 shX12_comesTo_119
theorem dX12_comesTo_120 : decode cX12_comesTo 120 = .ok (.goto 112, 3) := oc_167 shX12_comesTo_120 sgw_0_112
theorem dX12_comesTo_123 : decode cX12_comesTo 123 = .ok (.iload 6, 2) := oc_21 shX12_comesTo_123
theorem dX12_comesTo_125 : decode cX12_comesTo 125 = .ok (.bipush 11, 2) := oc_16 shX12_comesTo_125 sgb_11
theorem dX12_comesTo_127 : decode cX12_comesTo 127 = .ok (.if_icmp .eq 10, 3) := oc_159 shX12_comesTo_127 sgw_0_10
theorem dX12_comesTo_130 : decode cX12_comesTo 130 = .ok (.iload 6, 2) := oc_21 shX12_comesTo_130
theorem dX12_comesTo_132 : decode cX12_comesTo 132 = .ok (.bipush 12, 2) := oc_16 shX12_comesTo_132 sgb_12
theorem dX12_comesTo_134 : decode cX12_comesTo 134 = .ok (.if_icmp .ne 43, 3) := oc_160 shX12_comesTo_134 sgw_0_43
theorem dX12_comesTo_137 : decode cX12_comesTo 137 = .ok (.aload_n 0, 1) := oc_42 shX12_comesTo_137
theorem dX12_comesTo_138 : decode cX12_comesTo 138 = .ok (.getfield 86, 3) := oc_180 shX12_comesTo_138
theorem dX12_comesTo_141 : decode cX12_comesTo 141 = .ok (.iload_n 3, 1) := oc_29 shX12_comesTo_141
theorem dX12_comesTo_142 : decode cX12_comesTo 142 = .ok (.iconst 1, 1) := oc_4 shX12_comesTo_142
theorem dX12_comesTo_143 : decode cX12_comesTo 143 = .ok (.isub, 1) := oc_100 shX12_comesTo_143
theorem dX12_comesTo_144 : decode cX12_comesTo 144 = .ok (.iaload, 1) := oc_46 shX12_comesTo_144
theorem dX12_comesTo_145 : decode cX12_comesTo 145 = .ok (.iload 6, 2) := oc_21 shX12_comesTo_145
theorem dX12_comesTo_147 : decode cX12_comesTo 147 = .ok (.bipush 12, 2) := oc_16 shX12_comesTo_147 sgb_12
theorem dX12_comesTo_149 : decode cX12_comesTo 149 = .ok (.if_icmp .ne 7, 3) := oc_160 shX12_comesTo_149 sgw_0_7
theorem dX12_comesTo_152 : decode cX12_comesTo 152 = .ok (.iconst 1, 1) := oc_4 shX12_comesTo_152
theorem dX12_comesTo_153 : decode cX12_comesTo 153 = .ok (.goto 4, 3) := oc_167 shX12_comesTo_153 sgw_0_4
theorem dX12_comesTo_156 : decode cX12_comesTo 156 = .ok (.iconst 0, 1) := oc_3 shX12_comesTo_156
theorem dX12_comesTo_157 : decode cX12_comesTo 157 = .ok (.if_icmp .ne 13, 3) := oc_160 shX12_comesTo_157 sgw_0_13
theorem dX12_comesTo_160 : decode cX12_comesTo 160 = .ok (.iload 4, 2) := oc_21 shX12_comesTo_160
theorem dX12_comesTo_162 : decode cX12_comesTo 162 = .ok (.iload 7, 2) := oc_21 shX12_comesTo_162
theorem dX12_comesTo_164 : decode cX12_comesTo 164 = .ok (.iadd, 1) := oc_96 shX12_comesTo_164
theorem dX12_comesTo_165 : decode cX12_comesTo 165 = .ok (.istore 5, 2) := oc_54 shX12_comesTo_165
theorem dX12_comesTo_167 : decode cX12_comesTo 167 = .ok (.goto 65, 3) := oc_167 shX12_comesTo_167 sgw_0_65
theorem dX12_comesTo_170 : decode cX12_comesTo 170 = .ok (.iload_n 3, 1) := oc_29 shX12_comesTo_170
theorem dX12_comesTo_171 : decode cX12_comesTo 171 = .ok (.iconst 1, 1) := oc_4 shX12_comesTo_171
theorem dX12_comesTo_172 : decode cX12_comesTo 172 = .ok (.isub, 1) := oc_100 shX12_comesTo_172
theorem dX12_comesTo_173 : decode cX12_comesTo 173 = .ok (.istore_n 3, 1) := oc_62 shX12_comesTo_173
theorem dX12_comesTo_174 : decode cX12_comesTo 174 = .ok (.goto 58, 3) := oc_167 shX12_comesTo_174 sgw_0_58
theorem dX12_comesTo_177 : decode cX12_comesTo 177 = .ok (.iload_n 3, 1) := oc_29 shX12_comesTo_177
theorem dX12_comesTo_178 : decode cX12_comesTo 178 = .ok (.iconst 1, 1) := oc_4 shX12_comesTo_178
theorem dX12_comesTo_179 : decode cX12_comesTo 179 = .ok (.isub, 1) := oc_100 shX12_comesTo_179
theorem dX12_comesTo_180 : decode cX12_comesTo 180 = .ok (.istore_n 3, 1) := oc_62 shX12_comesTo_180
theorem dX12_comesTo_181 : decode cX12_comesTo 181 = .ok (.iload 6, 2) := oc_21 shX12_comesTo_181
theorem dX12_comesTo_183 : decode cX12_comesTo 183 = .ok (.iconst 5, 1) := oc_8 shX12_comesTo_183
theorem dX12_comesTo_184 : decode cX12_comesTo 184 = .ok (.if_icmp .eq 10, 3) := oc_159 shX12_comesTo_184 sgw_0_10
theorem dX12_comesTo_187 : decode cX12_comesTo 187 = .ok (.iload 6, 2) := oc_21 shX12_comesTo_187
theorem dX12_comesTo_189 : decode cX12_comesTo 189 = .ok (.bipush 6, 2) := oc_16 shX12_comesTo_189 sgb_6
theorem dX12_comesTo_191 : decode cX12_comesTo 191 = .ok (.if_icmp .ne 14, 3) := oc_160 shX12_comesTo_191 sgw_0_14
theorem dX12_comesTo_194 : decode cX12_comesTo 194 = .ok (.aload_n 0, 1) := oc_42 shX12_comesTo_194
theorem dX12_comesTo_195 : decode cX12_comesTo 195 = .ok (.getfield 86, 3) := oc_180 shX12_comesTo_195
theorem dX12_comesTo_198 : decode cX12_comesTo 198 = .ok (.iload_n 3, 1) := oc_29 shX12_comesTo_198
theorem dX12_comesTo_199 : decode cX12_comesTo 199 = .ok (.iaload, 1) := oc_46 shX12_comesTo_199
theorem dX12_comesTo_200 : decode cX12_comesTo 200 = .ok (.ifCond .ne 5, 3) := oc_154 shX12_comesTo_200 sgw_0_5
theorem dX12_comesTo_203 : decode cX12_comesTo 203 = .ok (.iconst 0, 1) := oc_3 shX12_comesTo_203
theorem dX12_comesTo_204 : decode cX12_comesTo 204 = .ok (.ireturn, 1) := oc_172 shX12_comesTo_204
theorem dX12_comesTo_205 : decode cX12_comesTo 205 = .ok (.aload_n 0, 1) := oc_42 shX12_comesTo_205
theorem dX12_comesTo_206 : decode cX12_comesTo 206 = .ok (.getfield 86, 3) := oc_180 shX12_comesTo_206
theorem dX12_comesTo_209 : decode cX12_comesTo 209 = .ok (.iload_n 3, 1) := oc_29 shX12_comesTo_209
theorem dX12_comesTo_210 : decode cX12_comesTo 210 = .ok (.iconst 1, 1) := oc_4 shX12_comesTo_210
theorem dX12_comesTo_211 : decode cX12_comesTo 211 = .ok (.isub, 1) := oc_100 shX12_comesTo_211
theorem dX12_comesTo_212 : decode cX12_comesTo 212 = .ok (.iload 6, 2) := oc_21 shX12_comesTo_212
theorem dX12_comesTo_214 : decode cX12_comesTo 214 = .ok (.aload_n 0, 1) := oc_42 shX12_comesTo_214
theorem dX12_comesTo_215 : decode cX12_comesTo 215 = .ok (.getfield 86, 3) := oc_180 shX12_comesTo_215
theorem dX12_comesTo_218 : decode cX12_comesTo 218 = .ok (.iload_n 3, 1) := oc_29 shX12_comesTo_218
theorem dX12_comesTo_219 : decode cX12_comesTo 219 = .ok (.iconst 1, 1) := oc_4 shX12_comesTo_219
theorem dX12_comesTo_220 : decode cX12_comesTo 220 = .ok (.isub, 1) := oc_100 shX12_comesTo_220
theorem dX12_comesTo_221 : decode cX12_comesTo 221 = .ok (.iaload, 1) := oc_46 shX12_comesTo_221
theorem dX12_comesTo_222 : decode cX12_comesTo 222 = .ok (.aload_n 0, 1) := oc_42 shX12_comesTo_222
theorem dX12_comesTo_223 : decode cX12_comesTo 223 = .ok (.getfield 86, 3) := oc_180 shX12_comesTo_223
theorem dX12_comesTo_226 : decode cX12_comesTo 226 = .ok (.iload_n 3, 1) := oc_29 shX12_comesTo_226
theorem dX12_comesTo_227 : decode cX12_comesTo 227 = .ok (.iaload, 1) := oc_46 shX12_comesTo_227
theorem dX12_comesTo_228 : decode cX12_comesTo 228 = .ok (.invokestatic 327, 3) := oc_184 shX12_comesTo_228
theorem dX12_comesTo_231 : decode cX12_comesTo 231 = .ok (.iastore, 1) := oc_79 shX12_comesTo_231
theorem dX12_comesTo_232 : decode cX12_comesTo 232 = .ok (.goto (-216), 3) := oc_167 shX12_comesTo_232 sgw_255_40
theorem dX12_comesTo_235 : decode cX12_comesTo 235 = .ok (.aload_n 0, 1) := oc_42 shX12_comesTo_235
theorem dX12_comesTo_236 : decode cX12_comesTo 236 = .ok (.getfield 86, 3) := oc_180 shX12_comesTo_236
theorem dX12_comesTo_239 : decode cX12_comesTo 239 = .ok (.iconst 0, 1) := oc_3 shX12_comesTo_239
theorem dX12_comesTo_240 : decode cX12_comesTo 240 = .ok (.iaload, 1) := oc_46 shX12_comesTo_240
theorem dX12_comesTo_241 : decode cX12_comesTo 241 = .ok (.ireturn, 1) := oc_172 shX12_comesTo_241
noncomputable def sxX12_price_32 : List UInt8 := []
noncomputable def sxX12_price_31 : List UInt8 := 172 :: sxX12_price_32
noncomputable def sxX12_price_30 : List UInt8 := 4 :: sxX12_price_31
noncomputable def sxX12_price_29 : List UInt8 := 79 :: sxX12_price_30
noncomputable def sxX12_price_28 : List UInt8 := 28 :: sxX12_price_29
noncomputable def sxX12_price_27 : List UInt8 := 27 :: sxX12_price_28
noncomputable def sxX12_price_24 : List UInt8 := 180 :: 0 :: 92 :: sxX12_price_27
noncomputable def sxX12_price_23 : List UInt8 := 42 :: sxX12_price_24
noncomputable def sxX12_price_22 : List UInt8 := 172 :: sxX12_price_23
noncomputable def sxX12_price_21 : List UInt8 := 3 :: sxX12_price_22
noncomputable def sxX12_price_18 : List UInt8 := 154 :: 0 :: 5 :: sxX12_price_21
noncomputable def sxX12_price_15 : List UInt8 := 184 :: 0 :: 214 :: sxX12_price_18
noncomputable def sxX12_price_12 : List UInt8 := 17 :: 3 :: 232 :: sxX12_price_15
noncomputable def sxX12_price_11 : List UInt8 := 3 :: sxX12_price_12
noncomputable def sxX12_price_10 : List UInt8 := 28 :: sxX12_price_11
noncomputable def sxX12_price_7 : List UInt8 := 153 :: 0 :: 14 :: sxX12_price_10
noncomputable def sxX12_price_4 : List UInt8 := 184 :: 0 :: 214 :: sxX12_price_7
noncomputable def sxX12_price_2 : List UInt8 := 16 :: 57 :: sxX12_price_4
noncomputable def sxX12_price_1 : List UInt8 := 3 :: sxX12_price_2
noncomputable def sxX12_price_0 : List UInt8 := 27 :: sxX12_price_1
theorem shX12_price_0 : cX12_price.data.toList.drop 0 = sxX12_price_0 := rfl
theorem shX12_price_1 : cX12_price.data.toList.drop 1 = sxX12_price_1 := dSn 1 shX12_price_0
theorem shX12_price_2 : cX12_price.data.toList.drop 2 = sxX12_price_2 := dSn 1 shX12_price_1
theorem shX12_price_4 : cX12_price.data.toList.drop 4 = sxX12_price_4 := dSn 2 shX12_price_2
theorem shX12_price_7 : cX12_price.data.toList.drop 7 = sxX12_price_7 := dSn 3 shX12_price_4
theorem shX12_price_10 : cX12_price.data.toList.drop 10 = sxX12_price_10 := dSn 3 shX12_price_7
theorem shX12_price_11 : cX12_price.data.toList.drop 11 = sxX12_price_11 := dSn 1 shX12_price_10
theorem shX12_price_12 : cX12_price.data.toList.drop 12 = sxX12_price_12 := dSn 1 shX12_price_11
theorem shX12_price_15 : cX12_price.data.toList.drop 15 = sxX12_price_15 := dSn 3 shX12_price_12
theorem shX12_price_18 : cX12_price.data.toList.drop 18 = sxX12_price_18 := dSn 3 shX12_price_15
theorem shX12_price_21 : cX12_price.data.toList.drop 21 = sxX12_price_21 := dSn 3 shX12_price_18
theorem shX12_price_22 : cX12_price.data.toList.drop 22 = sxX12_price_22 := dSn 1 shX12_price_21
theorem shX12_price_23 : cX12_price.data.toList.drop 23 = sxX12_price_23 := dSn 1 shX12_price_22
theorem shX12_price_24 : cX12_price.data.toList.drop 24 = sxX12_price_24 := dSn 1 shX12_price_23
theorem shX12_price_27 : cX12_price.data.toList.drop 27 = sxX12_price_27 := dSn 3 shX12_price_24
theorem shX12_price_28 : cX12_price.data.toList.drop 28 = sxX12_price_28 := dSn 1 shX12_price_27
theorem shX12_price_29 : cX12_price.data.toList.drop 29 = sxX12_price_29 := dSn 1 shX12_price_28
theorem shX12_price_30 : cX12_price.data.toList.drop 30 = sxX12_price_30 := dSn 1 shX12_price_29
theorem shX12_price_31 : cX12_price.data.toList.drop 31 = sxX12_price_31 := dSn 1 shX12_price_30
theorem dX12_price_0 : decode cX12_price 0 = .ok (.iload_n 1, 1) := oc_27 shX12_price_0
theorem dX12_price_1 : decode cX12_price 1 = .ok (.iconst 0, 1) := oc_3 shX12_price_1
theorem dX12_price_2 : decode cX12_price 2 = .ok (.bipush 57, 2) := oc_16 shX12_price_2 sgb_57
theorem dX12_price_4 : decode cX12_price 4 = .ok (.invokestatic 214, 3) := oc_184 shX12_price_4
theorem dX12_price_7 : decode cX12_price 7 = .ok (.ifCond .eq 14, 3) := oc_153 shX12_price_7 sgw_0_14
theorem dX12_price_10 : decode cX12_price 10 = .ok (.iload_n 2, 1) := oc_28 shX12_price_10
theorem dX12_price_11 : decode cX12_price 11 = .ok (.iconst 0, 1) := oc_3 shX12_price_11
theorem dX12_price_12 : decode cX12_price 12 = .ok (.sipush 1000, 3) := oc_17 shX12_price_12 sgw_3_232
theorem dX12_price_15 : decode cX12_price 15 = .ok (.invokestatic 214, 3) := oc_184 shX12_price_15
theorem dX12_price_18 : decode cX12_price 18 = .ok (.ifCond .ne 5, 3) := oc_154 shX12_price_18 sgw_0_5
theorem dX12_price_21 : decode cX12_price 21 = .ok (.iconst 0, 1) := oc_3 shX12_price_21
theorem dX12_price_22 : decode cX12_price 22 = .ok (.ireturn, 1) := oc_172 shX12_price_22
theorem dX12_price_23 : decode cX12_price 23 = .ok (.aload_n 0, 1) := oc_42 shX12_price_23
theorem dX12_price_24 : decode cX12_price 24 = .ok (.getfield 92, 3) := oc_180 shX12_price_24
theorem dX12_price_27 : decode cX12_price 27 = .ok (.iload_n 1, 1) := oc_27 shX12_price_27
theorem dX12_price_28 : decode cX12_price 28 = .ok (.iload_n 2, 1) := oc_28 shX12_price_28
theorem dX12_price_29 : decode cX12_price 29 = .ok (.iastore, 1) := oc_79 shX12_price_29
theorem dX12_price_30 : decode cX12_price 30 = .ok (.iconst 1, 1) := oc_4 shX12_price_30
theorem dX12_price_31 : decode cX12_price 31 = .ok (.ireturn, 1) := oc_172 shX12_price_31
noncomputable def sxX12_penceFor_290 : List UInt8 := []
noncomputable def sxX12_penceFor_289 : List UInt8 := 172 :: sxX12_penceFor_290
noncomputable def sxX12_penceFor_288 : List UInt8 := 3 :: sxX12_penceFor_289
noncomputable def sxX12_penceFor_285 : List UInt8 := 167 :: 255 :: 166 :: sxX12_penceFor_288
noncomputable def sxX12_penceFor_282 : List UInt8 := 132 :: 5 :: 1 :: sxX12_penceFor_285
noncomputable def sxX12_penceFor_281 : List UInt8 := 172 :: sxX12_penceFor_282
noncomputable def sxX12_penceFor_279 : List UInt8 := 21 :: 6 :: sxX12_penceFor_281
noncomputable def sxX12_penceFor_276 : List UInt8 := 167 :: 0 :: 5 :: sxX12_penceFor_279
noncomputable def sxX12_penceFor_273 : List UInt8 := 19 :: 1 :: 78 :: sxX12_penceFor_276
noncomputable def sxX12_penceFor_270 : List UInt8 := 164 :: 0 :: 9 :: sxX12_penceFor_273
noncomputable def sxX12_penceFor_267 : List UInt8 := 19 :: 1 :: 78 :: sxX12_penceFor_270
noncomputable def sxX12_penceFor_265 : List UInt8 := 21 :: 6 :: sxX12_penceFor_267
noncomputable def sxX12_penceFor_262 : List UInt8 := 167 :: 0 :: 19 :: sxX12_penceFor_265
noncomputable def sxX12_penceFor_261 : List UInt8 := 3 :: sxX12_penceFor_262
noncomputable def sxX12_penceFor_258 : List UInt8 := 156 :: 0 :: 7 :: sxX12_penceFor_261
noncomputable def sxX12_penceFor_256 : List UInt8 := 21 :: 6 :: sxX12_penceFor_258
noncomputable def sxX12_penceFor_254 : List UInt8 := 54 :: 6 :: sxX12_penceFor_256
noncomputable def sxX12_penceFor_251 : List UInt8 := 182 :: 1 :: 75 :: sxX12_penceFor_254
noncomputable def sxX12_penceFor_250 : List UInt8 := 46 :: sxX12_penceFor_251
noncomputable def sxX12_penceFor_248 : List UInt8 := 21 :: 5 :: sxX12_penceFor_250
noncomputable def sxX12_penceFor_245 : List UInt8 := 180 :: 0 :: 80 :: sxX12_penceFor_248
noncomputable def sxX12_penceFor_244 : List UInt8 := 42 :: sxX12_penceFor_245
noncomputable def sxX12_penceFor_243 : List UInt8 := 46 :: sxX12_penceFor_244
noncomputable def sxX12_penceFor_241 : List UInt8 := 21 :: 5 :: sxX12_penceFor_243
noncomputable def sxX12_penceFor_238 : List UInt8 := 180 :: 0 :: 77 :: sxX12_penceFor_241
noncomputable def sxX12_penceFor_237 : List UInt8 := 42 :: sxX12_penceFor_238
noncomputable def sxX12_penceFor_236 : List UInt8 := 42 :: sxX12_penceFor_237
noncomputable def sxX12_penceFor_233 : List UInt8 := 167 :: 0 :: 49 :: sxX12_penceFor_236
noncomputable def sxX12_penceFor_230 : List UInt8 := 159 :: 0 :: 6 :: sxX12_penceFor_233
noncomputable def sxX12_penceFor_229 : List UInt8 := 4 :: sxX12_penceFor_230
noncomputable def sxX12_penceFor_226 : List UInt8 := 182 :: 1 :: 75 :: sxX12_penceFor_229
noncomputable def sxX12_penceFor_225 : List UInt8 := 46 :: sxX12_penceFor_226
noncomputable def sxX12_penceFor_223 : List UInt8 := 21 :: 5 :: sxX12_penceFor_225
noncomputable def sxX12_penceFor_220 : List UInt8 := 180 :: 0 :: 83 :: sxX12_penceFor_223
noncomputable def sxX12_penceFor_219 : List UInt8 := 42 :: sxX12_penceFor_220
noncomputable def sxX12_penceFor_218 : List UInt8 := 46 :: sxX12_penceFor_219
noncomputable def sxX12_penceFor_216 : List UInt8 := 21 :: 5 :: sxX12_penceFor_218
noncomputable def sxX12_penceFor_213 : List UInt8 := 180 :: 0 :: 80 :: sxX12_penceFor_216
noncomputable def sxX12_penceFor_212 : List UInt8 := 42 :: sxX12_penceFor_213
noncomputable def sxX12_penceFor_211 : List UInt8 := 42 :: sxX12_penceFor_212
noncomputable def sxX12_penceFor_208 : List UInt8 := 162 :: 0 :: 80 :: sxX12_penceFor_211
noncomputable def sxX12_penceFor_207 : List UInt8 := 96 :: sxX12_penceFor_208
noncomputable def sxX12_penceFor_206 : List UInt8 := 46 :: sxX12_penceFor_207
noncomputable def sxX12_penceFor_205 : List UInt8 := 28 :: sxX12_penceFor_206
noncomputable def sxX12_penceFor_202 : List UInt8 := 180 :: 0 :: 74 :: sxX12_penceFor_205
noncomputable def sxX12_penceFor_201 : List UInt8 := 42 :: sxX12_penceFor_202
noncomputable def sxX12_penceFor_200 : List UInt8 := 104 :: sxX12_penceFor_201
noncomputable def sxX12_penceFor_199 : List UInt8 := 28 :: sxX12_penceFor_200
noncomputable def sxX12_penceFor_197 : List UInt8 := 16 :: 12 :: sxX12_penceFor_199
noncomputable def sxX12_penceFor_195 : List UInt8 := 21 :: 5 :: sxX12_penceFor_197
noncomputable def sxX12_penceFor_193 : List UInt8 := 54 :: 5 :: sxX12_penceFor_195
noncomputable def sxX12_penceFor_192 : List UInt8 := 104 :: sxX12_penceFor_193
noncomputable def sxX12_penceFor_191 : List UInt8 := 28 :: sxX12_penceFor_192
noncomputable def sxX12_penceFor_189 : List UInt8 := 16 :: 12 :: sxX12_penceFor_191
noncomputable def sxX12_penceFor_188 : List UInt8 := 79 :: sxX12_penceFor_189
noncomputable def sxX12_penceFor_187 : List UInt8 := 3 :: sxX12_penceFor_188
noncomputable def sxX12_penceFor_185 : List UInt8 := 16 :: 10 :: sxX12_penceFor_187
noncomputable def sxX12_penceFor_182 : List UInt8 := 180 :: 0 :: 89 :: sxX12_penceFor_185
noncomputable def sxX12_penceFor_181 : List UInt8 := 42 :: sxX12_penceFor_182
noncomputable def sxX12_penceFor_180 : List UInt8 := 79 :: sxX12_penceFor_181
noncomputable def sxX12_penceFor_179 : List UInt8 := 46 :: sxX12_penceFor_180
noncomputable def sxX12_penceFor_178 : List UInt8 := 108 :: sxX12_penceFor_179
noncomputable def sxX12_penceFor_176 : List UInt8 := 16 :: 7 :: sxX12_penceFor_178
noncomputable def sxX12_penceFor_175 : List UInt8 := 46 :: sxX12_penceFor_176
noncomputable def sxX12_penceFor_174 : List UInt8 := 27 :: sxX12_penceFor_175
noncomputable def sxX12_penceFor_171 : List UInt8 := 180 :: 0 :: 28 :: sxX12_penceFor_174
noncomputable def sxX12_penceFor_170 : List UInt8 := 42 :: sxX12_penceFor_171
noncomputable def sxX12_penceFor_167 : List UInt8 := 180 :: 0 :: 92 :: sxX12_penceFor_170
noncomputable def sxX12_penceFor_166 : List UInt8 := 42 :: sxX12_penceFor_167
noncomputable def sxX12_penceFor_164 : List UInt8 := 16 :: 9 :: sxX12_penceFor_166
noncomputable def sxX12_penceFor_161 : List UInt8 := 180 :: 0 :: 89 :: sxX12_penceFor_164
noncomputable def sxX12_penceFor_160 : List UInt8 := 42 :: sxX12_penceFor_161
noncomputable def sxX12_penceFor_159 : List UInt8 := 79 :: sxX12_penceFor_160
noncomputable def sxX12_penceFor_157 : List UInt8 := 21 :: 4 :: sxX12_penceFor_159
noncomputable def sxX12_penceFor_155 : List UInt8 := 16 :: 8 :: sxX12_penceFor_157
noncomputable def sxX12_penceFor_152 : List UInt8 := 180 :: 0 :: 89 :: sxX12_penceFor_155
noncomputable def sxX12_penceFor_151 : List UInt8 := 42 :: sxX12_penceFor_152
noncomputable def sxX12_penceFor_150 : List UInt8 := 79 :: sxX12_penceFor_151
noncomputable def sxX12_penceFor_149 : List UInt8 := 46 :: sxX12_penceFor_150
noncomputable def sxX12_penceFor_148 : List UInt8 := 27 :: sxX12_penceFor_149
noncomputable def sxX12_penceFor_145 : List UInt8 := 180 :: 0 :: 43 :: sxX12_penceFor_148
noncomputable def sxX12_penceFor_144 : List UInt8 := 42 :: sxX12_penceFor_145
noncomputable def sxX12_penceFor_142 : List UInt8 := 16 :: 7 :: sxX12_penceFor_144
noncomputable def sxX12_penceFor_139 : List UInt8 := 180 :: 0 :: 89 :: sxX12_penceFor_142
noncomputable def sxX12_penceFor_138 : List UInt8 := 42 :: sxX12_penceFor_139
noncomputable def sxX12_penceFor_137 : List UInt8 := 79 :: sxX12_penceFor_138
noncomputable def sxX12_penceFor_136 : List UInt8 := 29 :: sxX12_penceFor_137
noncomputable def sxX12_penceFor_134 : List UInt8 := 16 :: 6 :: sxX12_penceFor_136
noncomputable def sxX12_penceFor_131 : List UInt8 := 180 :: 0 :: 89 :: sxX12_penceFor_134
noncomputable def sxX12_penceFor_130 : List UInt8 := 42 :: sxX12_penceFor_131
noncomputable def sxX12_penceFor_129 : List UInt8 := 79 :: sxX12_penceFor_130
noncomputable def sxX12_penceFor_128 : List UInt8 := 112 :: sxX12_penceFor_129
noncomputable def sxX12_penceFor_126 : List UInt8 := 16 :: 7 :: sxX12_penceFor_128
noncomputable def sxX12_penceFor_125 : List UInt8 := 46 :: sxX12_penceFor_126
noncomputable def sxX12_penceFor_124 : List UInt8 := 27 :: sxX12_penceFor_125
noncomputable def sxX12_penceFor_121 : List UInt8 := 180 :: 0 :: 28 :: sxX12_penceFor_124
noncomputable def sxX12_penceFor_120 : List UInt8 := 42 :: sxX12_penceFor_121
noncomputable def sxX12_penceFor_119 : List UInt8 := 8 :: sxX12_penceFor_120
noncomputable def sxX12_penceFor_116 : List UInt8 := 180 :: 0 :: 89 :: sxX12_penceFor_119
noncomputable def sxX12_penceFor_115 : List UInt8 := 42 :: sxX12_penceFor_116
noncomputable def sxX12_penceFor_114 : List UInt8 := 79 :: sxX12_penceFor_115
noncomputable def sxX12_penceFor_113 : List UInt8 := 108 :: sxX12_penceFor_114
noncomputable def sxX12_penceFor_111 : List UInt8 := 16 :: 7 :: sxX12_penceFor_113
noncomputable def sxX12_penceFor_110 : List UInt8 := 46 :: sxX12_penceFor_111
noncomputable def sxX12_penceFor_109 : List UInt8 := 27 :: sxX12_penceFor_110
noncomputable def sxX12_penceFor_106 : List UInt8 := 180 :: 0 :: 28 :: sxX12_penceFor_109
noncomputable def sxX12_penceFor_105 : List UInt8 := 42 :: sxX12_penceFor_106
noncomputable def sxX12_penceFor_104 : List UInt8 := 7 :: sxX12_penceFor_105
noncomputable def sxX12_penceFor_101 : List UInt8 := 180 :: 0 :: 89 :: sxX12_penceFor_104
noncomputable def sxX12_penceFor_100 : List UInt8 := 42 :: sxX12_penceFor_101
noncomputable def sxX12_penceFor_99 : List UInt8 := 79 :: sxX12_penceFor_100
noncomputable def sxX12_penceFor_98 : List UInt8 := 46 :: sxX12_penceFor_99
noncomputable def sxX12_penceFor_97 : List UInt8 := 27 :: sxX12_penceFor_98
noncomputable def sxX12_penceFor_94 : List UInt8 := 180 :: 0 :: 28 :: sxX12_penceFor_97
noncomputable def sxX12_penceFor_93 : List UInt8 := 42 :: sxX12_penceFor_94
noncomputable def sxX12_penceFor_92 : List UInt8 := 6 :: sxX12_penceFor_93
noncomputable def sxX12_penceFor_89 : List UInt8 := 180 :: 0 :: 89 :: sxX12_penceFor_92
noncomputable def sxX12_penceFor_88 : List UInt8 := 42 :: sxX12_penceFor_89
noncomputable def sxX12_penceFor_87 : List UInt8 := 79 :: sxX12_penceFor_88
noncomputable def sxX12_penceFor_86 : List UInt8 := 46 :: sxX12_penceFor_87
noncomputable def sxX12_penceFor_85 : List UInt8 := 27 :: sxX12_penceFor_86
noncomputable def sxX12_penceFor_82 : List UInt8 := 180 :: 0 :: 37 :: sxX12_penceFor_85
noncomputable def sxX12_penceFor_81 : List UInt8 := 42 :: sxX12_penceFor_82
noncomputable def sxX12_penceFor_80 : List UInt8 := 5 :: sxX12_penceFor_81
noncomputable def sxX12_penceFor_77 : List UInt8 := 180 :: 0 :: 89 :: sxX12_penceFor_80
noncomputable def sxX12_penceFor_76 : List UInt8 := 42 :: sxX12_penceFor_77
noncomputable def sxX12_penceFor_75 : List UInt8 := 79 :: sxX12_penceFor_76
noncomputable def sxX12_penceFor_74 : List UInt8 := 46 :: sxX12_penceFor_75
noncomputable def sxX12_penceFor_73 : List UInt8 := 27 :: sxX12_penceFor_74
noncomputable def sxX12_penceFor_70 : List UInt8 := 180 :: 0 :: 34 :: sxX12_penceFor_73
noncomputable def sxX12_penceFor_69 : List UInt8 := 42 :: sxX12_penceFor_70
noncomputable def sxX12_penceFor_68 : List UInt8 := 4 :: sxX12_penceFor_69
noncomputable def sxX12_penceFor_65 : List UInt8 := 180 :: 0 :: 89 :: sxX12_penceFor_68
noncomputable def sxX12_penceFor_64 : List UInt8 := 42 :: sxX12_penceFor_65
noncomputable def sxX12_penceFor_63 : List UInt8 := 79 :: sxX12_penceFor_64
noncomputable def sxX12_penceFor_62 : List UInt8 := 46 :: sxX12_penceFor_63
noncomputable def sxX12_penceFor_61 : List UInt8 := 27 :: sxX12_penceFor_62
noncomputable def sxX12_penceFor_58 : List UInt8 := 180 :: 0 :: 31 :: sxX12_penceFor_61
noncomputable def sxX12_penceFor_57 : List UInt8 := 42 :: sxX12_penceFor_58
noncomputable def sxX12_penceFor_56 : List UInt8 := 3 :: sxX12_penceFor_57
noncomputable def sxX12_penceFor_53 : List UInt8 := 180 :: 0 :: 89 :: sxX12_penceFor_56
noncomputable def sxX12_penceFor_52 : List UInt8 := 42 :: sxX12_penceFor_53
noncomputable def sxX12_penceFor_49 : List UInt8 := 167 :: 255 :: 220 :: sxX12_penceFor_52
noncomputable def sxX12_penceFor_46 : List UInt8 := 132 :: 5 :: 1 :: sxX12_penceFor_49
noncomputable def sxX12_penceFor_44 : List UInt8 := 54 :: 4 :: sxX12_penceFor_46
noncomputable def sxX12_penceFor_43 : List UInt8 := 96 :: sxX12_penceFor_44
noncomputable def sxX12_penceFor_42 : List UInt8 := 3 :: sxX12_penceFor_43
noncomputable def sxX12_penceFor_39 : List UInt8 := 167 :: 0 :: 4 :: sxX12_penceFor_42
noncomputable def sxX12_penceFor_38 : List UInt8 := 46 :: sxX12_penceFor_39
noncomputable def sxX12_penceFor_36 : List UInt8 := 21 :: 5 :: sxX12_penceFor_38
noncomputable def sxX12_penceFor_33 : List UInt8 := 180 :: 0 :: 31 :: sxX12_penceFor_36
noncomputable def sxX12_penceFor_32 : List UInt8 := 42 :: sxX12_penceFor_33
noncomputable def sxX12_penceFor_29 : List UInt8 := 160 :: 0 :: 13 :: sxX12_penceFor_32
noncomputable def sxX12_penceFor_28 : List UInt8 := 29 :: sxX12_penceFor_29
noncomputable def sxX12_penceFor_27 : List UInt8 := 46 :: sxX12_penceFor_28
noncomputable def sxX12_penceFor_25 : List UInt8 := 21 :: 5 :: sxX12_penceFor_27
noncomputable def sxX12_penceFor_22 : List UInt8 := 180 :: 0 :: 25 :: sxX12_penceFor_25
noncomputable def sxX12_penceFor_21 : List UInt8 := 42 :: sxX12_penceFor_22
noncomputable def sxX12_penceFor_19 : List UInt8 := 21 :: 4 :: sxX12_penceFor_21
noncomputable def sxX12_penceFor_16 : List UInt8 := 162 :: 0 :: 36 :: sxX12_penceFor_19
noncomputable def sxX12_penceFor_15 : List UInt8 := 27 :: sxX12_penceFor_16
noncomputable def sxX12_penceFor_13 : List UInt8 := 21 :: 5 :: sxX12_penceFor_15
noncomputable def sxX12_penceFor_11 : List UInt8 := 54 :: 5 :: sxX12_penceFor_13
noncomputable def sxX12_penceFor_10 : List UInt8 := 3 :: sxX12_penceFor_11
noncomputable def sxX12_penceFor_8 : List UInt8 := 54 :: 4 :: sxX12_penceFor_10
noncomputable def sxX12_penceFor_7 : List UInt8 := 3 :: sxX12_penceFor_8
noncomputable def sxX12_penceFor_6 : List UInt8 := 62 :: sxX12_penceFor_7
noncomputable def sxX12_penceFor_5 : List UInt8 := 46 :: sxX12_penceFor_6
noncomputable def sxX12_penceFor_4 : List UInt8 := 27 :: sxX12_penceFor_5
noncomputable def sxX12_penceFor_1 : List UInt8 := 180 :: 0 :: 25 :: sxX12_penceFor_4
noncomputable def sxX12_penceFor_0 : List UInt8 := 42 :: sxX12_penceFor_1
theorem shX12_penceFor_0 : cX12_penceFor.data.toList.drop 0 = sxX12_penceFor_0 := rfl
theorem shX12_penceFor_1 : cX12_penceFor.data.toList.drop 1 = sxX12_penceFor_1 := dSn 1 shX12_penceFor_0
theorem shX12_penceFor_4 : cX12_penceFor.data.toList.drop 4 = sxX12_penceFor_4 := dSn 3 shX12_penceFor_1
theorem shX12_penceFor_5 : cX12_penceFor.data.toList.drop 5 = sxX12_penceFor_5 := dSn 1 shX12_penceFor_4
theorem shX12_penceFor_6 : cX12_penceFor.data.toList.drop 6 = sxX12_penceFor_6 := dSn 1 shX12_penceFor_5
theorem shX12_penceFor_7 : cX12_penceFor.data.toList.drop 7 = sxX12_penceFor_7 := dSn 1 shX12_penceFor_6
theorem shX12_penceFor_8 : cX12_penceFor.data.toList.drop 8 = sxX12_penceFor_8 := dSn 1 shX12_penceFor_7
theorem shX12_penceFor_10 : cX12_penceFor.data.toList.drop 10 = sxX12_penceFor_10 := dSn 2 shX12_penceFor_8
theorem shX12_penceFor_11 : cX12_penceFor.data.toList.drop 11 = sxX12_penceFor_11 := dSn 1 shX12_penceFor_10
theorem shX12_penceFor_13 : cX12_penceFor.data.toList.drop 13 = sxX12_penceFor_13 := dSn 2 shX12_penceFor_11
theorem shX12_penceFor_15 : cX12_penceFor.data.toList.drop 15 = sxX12_penceFor_15 := dSn 2 shX12_penceFor_13
theorem shX12_penceFor_16 : cX12_penceFor.data.toList.drop 16 = sxX12_penceFor_16 := dSn 1 shX12_penceFor_15
theorem shX12_penceFor_19 : cX12_penceFor.data.toList.drop 19 = sxX12_penceFor_19 := dSn 3 shX12_penceFor_16
theorem shX12_penceFor_21 : cX12_penceFor.data.toList.drop 21 = sxX12_penceFor_21 := dSn 2 shX12_penceFor_19
theorem shX12_penceFor_22 : cX12_penceFor.data.toList.drop 22 = sxX12_penceFor_22 := dSn 1 shX12_penceFor_21
theorem shX12_penceFor_25 : cX12_penceFor.data.toList.drop 25 = sxX12_penceFor_25 := dSn 3 shX12_penceFor_22
theorem shX12_penceFor_27 : cX12_penceFor.data.toList.drop 27 = sxX12_penceFor_27 := dSn 2 shX12_penceFor_25
theorem shX12_penceFor_28 : cX12_penceFor.data.toList.drop 28 = sxX12_penceFor_28 := dSn 1 shX12_penceFor_27
theorem shX12_penceFor_29 : cX12_penceFor.data.toList.drop 29 = sxX12_penceFor_29 := dSn 1 shX12_penceFor_28
theorem shX12_penceFor_32 : cX12_penceFor.data.toList.drop 32 = sxX12_penceFor_32 := dSn 3 shX12_penceFor_29
theorem shX12_penceFor_33 : cX12_penceFor.data.toList.drop 33 = sxX12_penceFor_33 := dSn 1 shX12_penceFor_32
theorem shX12_penceFor_36 : cX12_penceFor.data.toList.drop 36 = sxX12_penceFor_36 := dSn 3 shX12_penceFor_33
theorem shX12_penceFor_38 : cX12_penceFor.data.toList.drop 38 = sxX12_penceFor_38 := dSn 2 shX12_penceFor_36
theorem shX12_penceFor_39 : cX12_penceFor.data.toList.drop 39 = sxX12_penceFor_39 := dSn 1 shX12_penceFor_38
theorem shX12_penceFor_42 : cX12_penceFor.data.toList.drop 42 = sxX12_penceFor_42 := dSn 3 shX12_penceFor_39
theorem shX12_penceFor_43 : cX12_penceFor.data.toList.drop 43 = sxX12_penceFor_43 := dSn 1 shX12_penceFor_42
theorem shX12_penceFor_44 : cX12_penceFor.data.toList.drop 44 = sxX12_penceFor_44 := dSn 1 shX12_penceFor_43
theorem shX12_penceFor_46 : cX12_penceFor.data.toList.drop 46 = sxX12_penceFor_46 := dSn 2 shX12_penceFor_44
theorem shX12_penceFor_49 : cX12_penceFor.data.toList.drop 49 = sxX12_penceFor_49 := dSn 3 shX12_penceFor_46
theorem shX12_penceFor_52 : cX12_penceFor.data.toList.drop 52 = sxX12_penceFor_52 := dSn 3 shX12_penceFor_49
theorem shX12_penceFor_53 : cX12_penceFor.data.toList.drop 53 = sxX12_penceFor_53 := dSn 1 shX12_penceFor_52
theorem shX12_penceFor_56 : cX12_penceFor.data.toList.drop 56 = sxX12_penceFor_56 := dSn 3 shX12_penceFor_53
theorem shX12_penceFor_57 : cX12_penceFor.data.toList.drop 57 = sxX12_penceFor_57 := dSn 1 shX12_penceFor_56
theorem shX12_penceFor_58 : cX12_penceFor.data.toList.drop 58 = sxX12_penceFor_58 := dSn 1 shX12_penceFor_57
theorem shX12_penceFor_61 : cX12_penceFor.data.toList.drop 61 = sxX12_penceFor_61 := dSn 3 shX12_penceFor_58
theorem shX12_penceFor_62 : cX12_penceFor.data.toList.drop 62 = sxX12_penceFor_62 := dSn 1 shX12_penceFor_61
theorem shX12_penceFor_63 : cX12_penceFor.data.toList.drop 63 = sxX12_penceFor_63 := dSn 1 shX12_penceFor_62
theorem shX12_penceFor_64 : cX12_penceFor.data.toList.drop 64 = sxX12_penceFor_64 := dSn 1 shX12_penceFor_63
theorem shX12_penceFor_65 : cX12_penceFor.data.toList.drop 65 = sxX12_penceFor_65 := dSn 1 shX12_penceFor_64
theorem shX12_penceFor_68 : cX12_penceFor.data.toList.drop 68 = sxX12_penceFor_68 := dSn 3 shX12_penceFor_65
theorem shX12_penceFor_69 : cX12_penceFor.data.toList.drop 69 = sxX12_penceFor_69 := dSn 1 shX12_penceFor_68
theorem shX12_penceFor_70 : cX12_penceFor.data.toList.drop 70 = sxX12_penceFor_70 := dSn 1 shX12_penceFor_69
theorem shX12_penceFor_73 : cX12_penceFor.data.toList.drop 73 = sxX12_penceFor_73 := dSn 3 shX12_penceFor_70
theorem shX12_penceFor_74 : cX12_penceFor.data.toList.drop 74 = sxX12_penceFor_74 := dSn 1 shX12_penceFor_73
theorem shX12_penceFor_75 : cX12_penceFor.data.toList.drop 75 = sxX12_penceFor_75 := dSn 1 shX12_penceFor_74
theorem shX12_penceFor_76 : cX12_penceFor.data.toList.drop 76 = sxX12_penceFor_76 := dSn 1 shX12_penceFor_75
theorem shX12_penceFor_77 : cX12_penceFor.data.toList.drop 77 = sxX12_penceFor_77 := dSn 1 shX12_penceFor_76
theorem shX12_penceFor_80 : cX12_penceFor.data.toList.drop 80 = sxX12_penceFor_80 := dSn 3 shX12_penceFor_77
theorem shX12_penceFor_81 : cX12_penceFor.data.toList.drop 81 = sxX12_penceFor_81 := dSn 1 shX12_penceFor_80
theorem shX12_penceFor_82 : cX12_penceFor.data.toList.drop 82 = sxX12_penceFor_82 := dSn 1 shX12_penceFor_81
theorem shX12_penceFor_85 : cX12_penceFor.data.toList.drop 85 = sxX12_penceFor_85 := dSn 3 shX12_penceFor_82
theorem shX12_penceFor_86 : cX12_penceFor.data.toList.drop 86 = sxX12_penceFor_86 := dSn 1 shX12_penceFor_85
theorem shX12_penceFor_87 : cX12_penceFor.data.toList.drop 87 = sxX12_penceFor_87 := dSn 1 shX12_penceFor_86
theorem shX12_penceFor_88 : cX12_penceFor.data.toList.drop 88 = sxX12_penceFor_88 := dSn 1 shX12_penceFor_87
theorem shX12_penceFor_89 : cX12_penceFor.data.toList.drop 89 = sxX12_penceFor_89 := dSn 1 shX12_penceFor_88
theorem shX12_penceFor_92 : cX12_penceFor.data.toList.drop 92 = sxX12_penceFor_92 := dSn 3 shX12_penceFor_89
theorem shX12_penceFor_93 : cX12_penceFor.data.toList.drop 93 = sxX12_penceFor_93 := dSn 1 shX12_penceFor_92
theorem shX12_penceFor_94 : cX12_penceFor.data.toList.drop 94 = sxX12_penceFor_94 := dSn 1 shX12_penceFor_93
theorem shX12_penceFor_97 : cX12_penceFor.data.toList.drop 97 = sxX12_penceFor_97 := dSn 3 shX12_penceFor_94
theorem shX12_penceFor_98 : cX12_penceFor.data.toList.drop 98 = sxX12_penceFor_98 := dSn 1 shX12_penceFor_97
theorem shX12_penceFor_99 : cX12_penceFor.data.toList.drop 99 = sxX12_penceFor_99 := dSn 1 shX12_penceFor_98
theorem shX12_penceFor_100 : cX12_penceFor.data.toList.drop 100 = sxX12_penceFor_100 := dSn 1 shX12_penceFor_99
theorem shX12_penceFor_101 : cX12_penceFor.data.toList.drop 101 = sxX12_penceFor_101 := dSn 1 shX12_penceFor_100
theorem shX12_penceFor_104 : cX12_penceFor.data.toList.drop 104 = sxX12_penceFor_104 := dSn 3 shX12_penceFor_101
theorem shX12_penceFor_105 : cX12_penceFor.data.toList.drop 105 = sxX12_penceFor_105 := dSn 1 shX12_penceFor_104
theorem shX12_penceFor_106 : cX12_penceFor.data.toList.drop 106 = sxX12_penceFor_106 := dSn 1 shX12_penceFor_105
theorem shX12_penceFor_109 : cX12_penceFor.data.toList.drop 109 = sxX12_penceFor_109 := dSn 3 shX12_penceFor_106
theorem shX12_penceFor_110 : cX12_penceFor.data.toList.drop 110 = sxX12_penceFor_110 := dSn 1 shX12_penceFor_109
theorem shX12_penceFor_111 : cX12_penceFor.data.toList.drop 111 = sxX12_penceFor_111 := dSn 1 shX12_penceFor_110
theorem shX12_penceFor_113 : cX12_penceFor.data.toList.drop 113 = sxX12_penceFor_113 := dSn 2 shX12_penceFor_111
theorem shX12_penceFor_114 : cX12_penceFor.data.toList.drop 114 = sxX12_penceFor_114 := dSn 1 shX12_penceFor_113
theorem shX12_penceFor_115 : cX12_penceFor.data.toList.drop 115 = sxX12_penceFor_115 := dSn 1 shX12_penceFor_114
theorem shX12_penceFor_116 : cX12_penceFor.data.toList.drop 116 = sxX12_penceFor_116 := dSn 1 shX12_penceFor_115
theorem shX12_penceFor_119 : cX12_penceFor.data.toList.drop 119 = sxX12_penceFor_119 := dSn 3 shX12_penceFor_116
theorem shX12_penceFor_120 : cX12_penceFor.data.toList.drop 120 = sxX12_penceFor_120 := dSn 1 shX12_penceFor_119
theorem shX12_penceFor_121 : cX12_penceFor.data.toList.drop 121 = sxX12_penceFor_121 := dSn 1 shX12_penceFor_120
theorem shX12_penceFor_124 : cX12_penceFor.data.toList.drop 124 = sxX12_penceFor_124 := dSn 3 shX12_penceFor_121
theorem shX12_penceFor_125 : cX12_penceFor.data.toList.drop 125 = sxX12_penceFor_125 := dSn 1 shX12_penceFor_124
theorem shX12_penceFor_126 : cX12_penceFor.data.toList.drop 126 = sxX12_penceFor_126 := dSn 1 shX12_penceFor_125
theorem shX12_penceFor_128 : cX12_penceFor.data.toList.drop 128 = sxX12_penceFor_128 := dSn 2 shX12_penceFor_126
theorem shX12_penceFor_129 : cX12_penceFor.data.toList.drop 129 = sxX12_penceFor_129 := dSn 1 shX12_penceFor_128
theorem shX12_penceFor_130 : cX12_penceFor.data.toList.drop 130 = sxX12_penceFor_130 := dSn 1 shX12_penceFor_129
theorem shX12_penceFor_131 : cX12_penceFor.data.toList.drop 131 = sxX12_penceFor_131 := dSn 1 shX12_penceFor_130
theorem shX12_penceFor_134 : cX12_penceFor.data.toList.drop 134 = sxX12_penceFor_134 := dSn 3 shX12_penceFor_131
theorem shX12_penceFor_136 : cX12_penceFor.data.toList.drop 136 = sxX12_penceFor_136 := dSn 2 shX12_penceFor_134
theorem shX12_penceFor_137 : cX12_penceFor.data.toList.drop 137 = sxX12_penceFor_137 := dSn 1 shX12_penceFor_136
theorem shX12_penceFor_138 : cX12_penceFor.data.toList.drop 138 = sxX12_penceFor_138 := dSn 1 shX12_penceFor_137
theorem shX12_penceFor_139 : cX12_penceFor.data.toList.drop 139 = sxX12_penceFor_139 := dSn 1 shX12_penceFor_138
theorem shX12_penceFor_142 : cX12_penceFor.data.toList.drop 142 = sxX12_penceFor_142 := dSn 3 shX12_penceFor_139
theorem shX12_penceFor_144 : cX12_penceFor.data.toList.drop 144 = sxX12_penceFor_144 := dSn 2 shX12_penceFor_142
theorem shX12_penceFor_145 : cX12_penceFor.data.toList.drop 145 = sxX12_penceFor_145 := dSn 1 shX12_penceFor_144
theorem shX12_penceFor_148 : cX12_penceFor.data.toList.drop 148 = sxX12_penceFor_148 := dSn 3 shX12_penceFor_145
theorem shX12_penceFor_149 : cX12_penceFor.data.toList.drop 149 = sxX12_penceFor_149 := dSn 1 shX12_penceFor_148
theorem shX12_penceFor_150 : cX12_penceFor.data.toList.drop 150 = sxX12_penceFor_150 := dSn 1 shX12_penceFor_149
theorem shX12_penceFor_151 : cX12_penceFor.data.toList.drop 151 = sxX12_penceFor_151 := dSn 1 shX12_penceFor_150
theorem shX12_penceFor_152 : cX12_penceFor.data.toList.drop 152 = sxX12_penceFor_152 := dSn 1 shX12_penceFor_151
theorem shX12_penceFor_155 : cX12_penceFor.data.toList.drop 155 = sxX12_penceFor_155 := dSn 3 shX12_penceFor_152
theorem shX12_penceFor_157 : cX12_penceFor.data.toList.drop 157 = sxX12_penceFor_157 := dSn 2 shX12_penceFor_155
theorem shX12_penceFor_159 : cX12_penceFor.data.toList.drop 159 = sxX12_penceFor_159 := dSn 2 shX12_penceFor_157
theorem shX12_penceFor_160 : cX12_penceFor.data.toList.drop 160 = sxX12_penceFor_160 := dSn 1 shX12_penceFor_159
theorem shX12_penceFor_161 : cX12_penceFor.data.toList.drop 161 = sxX12_penceFor_161 := dSn 1 shX12_penceFor_160
theorem shX12_penceFor_164 : cX12_penceFor.data.toList.drop 164 = sxX12_penceFor_164 := dSn 3 shX12_penceFor_161
theorem shX12_penceFor_166 : cX12_penceFor.data.toList.drop 166 = sxX12_penceFor_166 := dSn 2 shX12_penceFor_164
theorem shX12_penceFor_167 : cX12_penceFor.data.toList.drop 167 = sxX12_penceFor_167 := dSn 1 shX12_penceFor_166
theorem shX12_penceFor_170 : cX12_penceFor.data.toList.drop 170 = sxX12_penceFor_170 := dSn 3 shX12_penceFor_167
theorem shX12_penceFor_171 : cX12_penceFor.data.toList.drop 171 = sxX12_penceFor_171 := dSn 1 shX12_penceFor_170
theorem shX12_penceFor_174 : cX12_penceFor.data.toList.drop 174 = sxX12_penceFor_174 := dSn 3 shX12_penceFor_171
theorem shX12_penceFor_175 : cX12_penceFor.data.toList.drop 175 = sxX12_penceFor_175 := dSn 1 shX12_penceFor_174
theorem shX12_penceFor_176 : cX12_penceFor.data.toList.drop 176 = sxX12_penceFor_176 := dSn 1 shX12_penceFor_175
theorem shX12_penceFor_178 : cX12_penceFor.data.toList.drop 178 = sxX12_penceFor_178 := dSn 2 shX12_penceFor_176
theorem shX12_penceFor_179 : cX12_penceFor.data.toList.drop 179 = sxX12_penceFor_179 := dSn 1 shX12_penceFor_178
theorem shX12_penceFor_180 : cX12_penceFor.data.toList.drop 180 = sxX12_penceFor_180 := dSn 1 shX12_penceFor_179
theorem shX12_penceFor_181 : cX12_penceFor.data.toList.drop 181 = sxX12_penceFor_181 := dSn 1 shX12_penceFor_180
theorem shX12_penceFor_182 : cX12_penceFor.data.toList.drop 182 = sxX12_penceFor_182 := dSn 1 shX12_penceFor_181
theorem shX12_penceFor_185 : cX12_penceFor.data.toList.drop 185 = sxX12_penceFor_185 := dSn 3 shX12_penceFor_182
theorem shX12_penceFor_187 : cX12_penceFor.data.toList.drop 187 = sxX12_penceFor_187 := dSn 2 shX12_penceFor_185
theorem shX12_penceFor_188 : cX12_penceFor.data.toList.drop 188 = sxX12_penceFor_188 := dSn 1 shX12_penceFor_187
theorem shX12_penceFor_189 : cX12_penceFor.data.toList.drop 189 = sxX12_penceFor_189 := dSn 1 shX12_penceFor_188
theorem shX12_penceFor_191 : cX12_penceFor.data.toList.drop 191 = sxX12_penceFor_191 := dSn 2 shX12_penceFor_189
theorem shX12_penceFor_192 : cX12_penceFor.data.toList.drop 192 = sxX12_penceFor_192 := dSn 1 shX12_penceFor_191
theorem shX12_penceFor_193 : cX12_penceFor.data.toList.drop 193 = sxX12_penceFor_193 := dSn 1 shX12_penceFor_192
theorem shX12_penceFor_195 : cX12_penceFor.data.toList.drop 195 = sxX12_penceFor_195 := dSn 2 shX12_penceFor_193
theorem shX12_penceFor_197 : cX12_penceFor.data.toList.drop 197 = sxX12_penceFor_197 := dSn 2 shX12_penceFor_195
theorem shX12_penceFor_199 : cX12_penceFor.data.toList.drop 199 = sxX12_penceFor_199 := dSn 2 shX12_penceFor_197
theorem shX12_penceFor_200 : cX12_penceFor.data.toList.drop 200 = sxX12_penceFor_200 := dSn 1 shX12_penceFor_199
theorem shX12_penceFor_201 : cX12_penceFor.data.toList.drop 201 = sxX12_penceFor_201 := dSn 1 shX12_penceFor_200
theorem shX12_penceFor_202 : cX12_penceFor.data.toList.drop 202 = sxX12_penceFor_202 := dSn 1 shX12_penceFor_201
theorem shX12_penceFor_205 : cX12_penceFor.data.toList.drop 205 = sxX12_penceFor_205 := dSn 3 shX12_penceFor_202
theorem shX12_penceFor_206 : cX12_penceFor.data.toList.drop 206 = sxX12_penceFor_206 := dSn 1 shX12_penceFor_205
theorem shX12_penceFor_207 : cX12_penceFor.data.toList.drop 207 = sxX12_penceFor_207 := dSn 1 shX12_penceFor_206
theorem shX12_penceFor_208 : cX12_penceFor.data.toList.drop 208 = sxX12_penceFor_208 := dSn 1 shX12_penceFor_207
theorem shX12_penceFor_211 : cX12_penceFor.data.toList.drop 211 = sxX12_penceFor_211 := dSn 3 shX12_penceFor_208
theorem shX12_penceFor_212 : cX12_penceFor.data.toList.drop 212 = sxX12_penceFor_212 := dSn 1 shX12_penceFor_211
theorem shX12_penceFor_213 : cX12_penceFor.data.toList.drop 213 = sxX12_penceFor_213 := dSn 1 shX12_penceFor_212
theorem shX12_penceFor_216 : cX12_penceFor.data.toList.drop 216 = sxX12_penceFor_216 := dSn 3 shX12_penceFor_213
theorem shX12_penceFor_218 : cX12_penceFor.data.toList.drop 218 = sxX12_penceFor_218 := dSn 2 shX12_penceFor_216
theorem shX12_penceFor_219 : cX12_penceFor.data.toList.drop 219 = sxX12_penceFor_219 := dSn 1 shX12_penceFor_218
theorem shX12_penceFor_220 : cX12_penceFor.data.toList.drop 220 = sxX12_penceFor_220 := dSn 1 shX12_penceFor_219
theorem shX12_penceFor_223 : cX12_penceFor.data.toList.drop 223 = sxX12_penceFor_223 := dSn 3 shX12_penceFor_220
theorem shX12_penceFor_225 : cX12_penceFor.data.toList.drop 225 = sxX12_penceFor_225 := dSn 2 shX12_penceFor_223
theorem shX12_penceFor_226 : cX12_penceFor.data.toList.drop 226 = sxX12_penceFor_226 := dSn 1 shX12_penceFor_225
theorem shX12_penceFor_229 : cX12_penceFor.data.toList.drop 229 = sxX12_penceFor_229 := dSn 3 shX12_penceFor_226
theorem shX12_penceFor_230 : cX12_penceFor.data.toList.drop 230 = sxX12_penceFor_230 := dSn 1 shX12_penceFor_229
theorem shX12_penceFor_233 : cX12_penceFor.data.toList.drop 233 = sxX12_penceFor_233 := dSn 3 shX12_penceFor_230
theorem shX12_penceFor_236 : cX12_penceFor.data.toList.drop 236 = sxX12_penceFor_236 := dSn 3 shX12_penceFor_233
theorem shX12_penceFor_237 : cX12_penceFor.data.toList.drop 237 = sxX12_penceFor_237 := dSn 1 shX12_penceFor_236
theorem shX12_penceFor_238 : cX12_penceFor.data.toList.drop 238 = sxX12_penceFor_238 := dSn 1 shX12_penceFor_237
theorem shX12_penceFor_241 : cX12_penceFor.data.toList.drop 241 = sxX12_penceFor_241 := dSn 3 shX12_penceFor_238
theorem shX12_penceFor_243 : cX12_penceFor.data.toList.drop 243 = sxX12_penceFor_243 := dSn 2 shX12_penceFor_241
theorem shX12_penceFor_244 : cX12_penceFor.data.toList.drop 244 = sxX12_penceFor_244 := dSn 1 shX12_penceFor_243
theorem shX12_penceFor_245 : cX12_penceFor.data.toList.drop 245 = sxX12_penceFor_245 := dSn 1 shX12_penceFor_244
theorem shX12_penceFor_248 : cX12_penceFor.data.toList.drop 248 = sxX12_penceFor_248 := dSn 3 shX12_penceFor_245
theorem shX12_penceFor_250 : cX12_penceFor.data.toList.drop 250 = sxX12_penceFor_250 := dSn 2 shX12_penceFor_248
theorem shX12_penceFor_251 : cX12_penceFor.data.toList.drop 251 = sxX12_penceFor_251 := dSn 1 shX12_penceFor_250
theorem shX12_penceFor_254 : cX12_penceFor.data.toList.drop 254 = sxX12_penceFor_254 := dSn 3 shX12_penceFor_251
theorem shX12_penceFor_256 : cX12_penceFor.data.toList.drop 256 = sxX12_penceFor_256 := dSn 2 shX12_penceFor_254
theorem shX12_penceFor_258 : cX12_penceFor.data.toList.drop 258 = sxX12_penceFor_258 := dSn 2 shX12_penceFor_256
theorem shX12_penceFor_261 : cX12_penceFor.data.toList.drop 261 = sxX12_penceFor_261 := dSn 3 shX12_penceFor_258
theorem shX12_penceFor_262 : cX12_penceFor.data.toList.drop 262 = sxX12_penceFor_262 := dSn 1 shX12_penceFor_261
theorem shX12_penceFor_265 : cX12_penceFor.data.toList.drop 265 = sxX12_penceFor_265 := dSn 3 shX12_penceFor_262
theorem shX12_penceFor_267 : cX12_penceFor.data.toList.drop 267 = sxX12_penceFor_267 := dSn 2 shX12_penceFor_265
theorem shX12_penceFor_270 : cX12_penceFor.data.toList.drop 270 = sxX12_penceFor_270 := dSn 3 shX12_penceFor_267
theorem shX12_penceFor_273 : cX12_penceFor.data.toList.drop 273 = sxX12_penceFor_273 := dSn 3 shX12_penceFor_270
theorem shX12_penceFor_276 : cX12_penceFor.data.toList.drop 276 = sxX12_penceFor_276 := dSn 3 shX12_penceFor_273
theorem shX12_penceFor_279 : cX12_penceFor.data.toList.drop 279 = sxX12_penceFor_279 := dSn 3 shX12_penceFor_276
theorem shX12_penceFor_281 : cX12_penceFor.data.toList.drop 281 = sxX12_penceFor_281 := dSn 2 shX12_penceFor_279
theorem shX12_penceFor_282 : cX12_penceFor.data.toList.drop 282 = sxX12_penceFor_282 := dSn 1 shX12_penceFor_281
theorem shX12_penceFor_285 : cX12_penceFor.data.toList.drop 285 = sxX12_penceFor_285 := dSn 3 shX12_penceFor_282
theorem shX12_penceFor_288 : cX12_penceFor.data.toList.drop 288 = sxX12_penceFor_288 := dSn 3 shX12_penceFor_285
theorem shX12_penceFor_289 : cX12_penceFor.data.toList.drop 289 = sxX12_penceFor_289 := dSn 1 shX12_penceFor_288
theorem dX12_penceFor_0 : decode cX12_penceFor 0 = .ok (.aload_n 0, 1) := oc_42 shX12_penceFor_0
theorem dX12_penceFor_1 : decode cX12_penceFor 1 = .ok (.getfield 25, 3) := oc_180 shX12_penceFor_1
theorem dX12_penceFor_4 : decode cX12_penceFor 4 = .ok (.iload_n 1, 1) := oc_27 shX12_penceFor_4
theorem dX12_penceFor_5 : decode cX12_penceFor 5 = .ok (.iaload, 1) := oc_46 shX12_penceFor_5
theorem dX12_penceFor_6 : decode cX12_penceFor 6 = .ok (.istore_n 3, 1) := oc_62 shX12_penceFor_6
theorem dX12_penceFor_7 : decode cX12_penceFor 7 = .ok (.iconst 0, 1) := oc_3 shX12_penceFor_7
theorem dX12_penceFor_8 : decode cX12_penceFor 8 = .ok (.istore 4, 2) := oc_54 shX12_penceFor_8
theorem dX12_penceFor_10 : decode cX12_penceFor 10 = .ok (.iconst 0, 1) := oc_3 shX12_penceFor_10
theorem dX12_penceFor_11 : decode cX12_penceFor 11 = .ok (.istore 5, 2) := oc_54 shX12_penceFor_11
theorem dX12_penceFor_13 : decode cX12_penceFor 13 = .ok (.iload 5, 2) := oc_21 shX12_penceFor_13
theorem dX12_penceFor_15 : decode cX12_penceFor 15 = .ok (.iload_n 1, 1) := oc_27 shX12_penceFor_15
theorem dX12_penceFor_16 : decode cX12_penceFor 16 = .ok (.if_icmp .ge 36, 3) := oc_162 shX12_penceFor_16 sgw_0_36
theorem dX12_penceFor_19 : decode cX12_penceFor 19 = .ok (.iload 4, 2) := oc_21 shX12_penceFor_19
theorem dX12_penceFor_21 : decode cX12_penceFor 21 = .ok (.aload_n 0, 1) := oc_42 shX12_penceFor_21
theorem dX12_penceFor_22 : decode cX12_penceFor 22 = .ok (.getfield 25, 3) := oc_180 shX12_penceFor_22
theorem dX12_penceFor_25 : decode cX12_penceFor 25 = .ok (.iload 5, 2) := oc_21 shX12_penceFor_25
theorem dX12_penceFor_27 : decode cX12_penceFor 27 = .ok (.iaload, 1) := oc_46 shX12_penceFor_27
theorem dX12_penceFor_28 : decode cX12_penceFor 28 = .ok (.iload_n 3, 1) := oc_29 shX12_penceFor_28
theorem dX12_penceFor_29 : decode cX12_penceFor 29 = .ok (.if_icmp .ne 13, 3) := oc_160 shX12_penceFor_29 sgw_0_13
theorem dX12_penceFor_32 : decode cX12_penceFor 32 = .ok (.aload_n 0, 1) := oc_42 shX12_penceFor_32
theorem dX12_penceFor_33 : decode cX12_penceFor 33 = .ok (.getfield 31, 3) := oc_180 shX12_penceFor_33
theorem dX12_penceFor_36 : decode cX12_penceFor 36 = .ok (.iload 5, 2) := oc_21 shX12_penceFor_36
theorem dX12_penceFor_38 : decode cX12_penceFor 38 = .ok (.iaload, 1) := oc_46 shX12_penceFor_38
theorem dX12_penceFor_39 : decode cX12_penceFor 39 = .ok (.goto 4, 3) := oc_167 shX12_penceFor_39 sgw_0_4
theorem dX12_penceFor_42 : decode cX12_penceFor 42 = .ok (.iconst 0, 1) := oc_3 shX12_penceFor_42
theorem dX12_penceFor_43 : decode cX12_penceFor 43 = .ok (.iadd, 1) := oc_96 shX12_penceFor_43
theorem dX12_penceFor_44 : decode cX12_penceFor 44 = .ok (.istore 4, 2) := oc_54 shX12_penceFor_44
theorem dX12_penceFor_46 : decode cX12_penceFor 46 = .ok (.iinc 5 1, 3) := oc_132 shX12_penceFor_46 sgb_1
theorem dX12_penceFor_49 : decode cX12_penceFor 49 = .ok (.goto (-36), 3) := oc_167 shX12_penceFor_49 sgw_255_220
theorem dX12_penceFor_52 : decode cX12_penceFor 52 = .ok (.aload_n 0, 1) := oc_42 shX12_penceFor_52
theorem dX12_penceFor_53 : decode cX12_penceFor 53 = .ok (.getfield 89, 3) := oc_180 shX12_penceFor_53
theorem dX12_penceFor_56 : decode cX12_penceFor 56 = .ok (.iconst 0, 1) := oc_3 shX12_penceFor_56
theorem dX12_penceFor_57 : decode cX12_penceFor 57 = .ok (.aload_n 0, 1) := oc_42 shX12_penceFor_57
theorem dX12_penceFor_58 : decode cX12_penceFor 58 = .ok (.getfield 31, 3) := oc_180 shX12_penceFor_58
theorem dX12_penceFor_61 : decode cX12_penceFor 61 = .ok (.iload_n 1, 1) := oc_27 shX12_penceFor_61
theorem dX12_penceFor_62 : decode cX12_penceFor 62 = .ok (.iaload, 1) := oc_46 shX12_penceFor_62
theorem dX12_penceFor_63 : decode cX12_penceFor 63 = .ok (.iastore, 1) := oc_79 shX12_penceFor_63
theorem dX12_penceFor_64 : decode cX12_penceFor 64 = .ok (.aload_n 0, 1) := oc_42 shX12_penceFor_64
theorem dX12_penceFor_65 : decode cX12_penceFor 65 = .ok (.getfield 89, 3) := oc_180 shX12_penceFor_65
theorem dX12_penceFor_68 : decode cX12_penceFor 68 = .ok (.iconst 1, 1) := oc_4 shX12_penceFor_68
theorem dX12_penceFor_69 : decode cX12_penceFor 69 = .ok (.aload_n 0, 1) := oc_42 shX12_penceFor_69
theorem dX12_penceFor_70 : decode cX12_penceFor 70 = .ok (.getfield 34, 3) := oc_180 shX12_penceFor_70
theorem dX12_penceFor_73 : decode cX12_penceFor 73 = .ok (.iload_n 1, 1) := oc_27 shX12_penceFor_73
theorem dX12_penceFor_74 : decode cX12_penceFor 74 = .ok (.iaload, 1) := oc_46 shX12_penceFor_74
theorem dX12_penceFor_75 : decode cX12_penceFor 75 = .ok (.iastore, 1) := oc_79 shX12_penceFor_75
theorem dX12_penceFor_76 : decode cX12_penceFor 76 = .ok (.aload_n 0, 1) := oc_42 shX12_penceFor_76
theorem dX12_penceFor_77 : decode cX12_penceFor 77 = .ok (.getfield 89, 3) := oc_180 shX12_penceFor_77
theorem dX12_penceFor_80 : decode cX12_penceFor 80 = .ok (.iconst 2, 1) := oc_5 shX12_penceFor_80
theorem dX12_penceFor_81 : decode cX12_penceFor 81 = .ok (.aload_n 0, 1) := oc_42 shX12_penceFor_81
theorem dX12_penceFor_82 : decode cX12_penceFor 82 = .ok (.getfield 37, 3) := oc_180 shX12_penceFor_82
theorem dX12_penceFor_85 : decode cX12_penceFor 85 = .ok (.iload_n 1, 1) := oc_27 shX12_penceFor_85
theorem dX12_penceFor_86 : decode cX12_penceFor 86 = .ok (.iaload, 1) := oc_46 shX12_penceFor_86
theorem dX12_penceFor_87 : decode cX12_penceFor 87 = .ok (.iastore, 1) := oc_79 shX12_penceFor_87
theorem dX12_penceFor_88 : decode cX12_penceFor 88 = .ok (.aload_n 0, 1) := oc_42 shX12_penceFor_88
theorem dX12_penceFor_89 : decode cX12_penceFor 89 = .ok (.getfield 89, 3) := oc_180 shX12_penceFor_89
theorem dX12_penceFor_92 : decode cX12_penceFor 92 = .ok (.iconst 3, 1) := oc_6 shX12_penceFor_92
theorem dX12_penceFor_93 : decode cX12_penceFor 93 = .ok (.aload_n 0, 1) := oc_42 shX12_penceFor_93
theorem dX12_penceFor_94 : decode cX12_penceFor 94 = .ok (.getfield 28, 3) := oc_180 shX12_penceFor_94
theorem dX12_penceFor_97 : decode cX12_penceFor 97 = .ok (.iload_n 1, 1) := oc_27 shX12_penceFor_97
theorem dX12_penceFor_98 : decode cX12_penceFor 98 = .ok (.iaload, 1) := oc_46 shX12_penceFor_98
theorem dX12_penceFor_99 : decode cX12_penceFor 99 = .ok (.iastore, 1) := oc_79 shX12_penceFor_99
theorem dX12_penceFor_100 : decode cX12_penceFor 100 = .ok (.aload_n 0, 1) := oc_42 shX12_penceFor_100
theorem dX12_penceFor_101 : decode cX12_penceFor 101 = .ok (.getfield 89, 3) := oc_180 shX12_penceFor_101
theorem dX12_penceFor_104 : decode cX12_penceFor 104 = .ok (.iconst 4, 1) := oc_7 shX12_penceFor_104
theorem dX12_penceFor_105 : decode cX12_penceFor 105 = .ok (.aload_n 0, 1) := oc_42 shX12_penceFor_105
theorem dX12_penceFor_106 : decode cX12_penceFor 106 = .ok (.getfield 28, 3) := oc_180 shX12_penceFor_106
theorem dX12_penceFor_109 : decode cX12_penceFor 109 = .ok (.iload_n 1, 1) := oc_27 shX12_penceFor_109
theorem dX12_penceFor_110 : decode cX12_penceFor 110 = .ok (.iaload, 1) := oc_46 shX12_penceFor_110
theorem dX12_penceFor_111 : decode cX12_penceFor 111 = .ok (.bipush 7, 2) := oc_16 shX12_penceFor_111 sgb_7
theorem dX12_penceFor_113 : decode cX12_penceFor 113 = .ok (.idiv, 1) := oc_108 shX12_penceFor_113
theorem dX12_penceFor_114 : decode cX12_penceFor 114 = .ok (.iastore, 1) := oc_79 shX12_penceFor_114
theorem dX12_penceFor_115 : decode cX12_penceFor 115 = .ok (.aload_n 0, 1) := oc_42 shX12_penceFor_115
theorem dX12_penceFor_116 : decode cX12_penceFor 116 = .ok (.getfield 89, 3) := oc_180 shX12_penceFor_116
theorem dX12_penceFor_119 : decode cX12_penceFor 119 = .ok (.iconst 5, 1) := oc_8 shX12_penceFor_119
theorem dX12_penceFor_120 : decode cX12_penceFor 120 = .ok (.aload_n 0, 1) := oc_42 shX12_penceFor_120
theorem dX12_penceFor_121 : decode cX12_penceFor 121 = .ok (.getfield 28, 3) := oc_180 shX12_penceFor_121
theorem dX12_penceFor_124 : decode cX12_penceFor 124 = .ok (.iload_n 1, 1) := oc_27 shX12_penceFor_124
theorem dX12_penceFor_125 : decode cX12_penceFor 125 = .ok (.iaload, 1) := oc_46 shX12_penceFor_125
theorem dX12_penceFor_126 : decode cX12_penceFor 126 = .ok (.bipush 7, 2) := oc_16 shX12_penceFor_126 sgb_7
theorem dX12_penceFor_128 : decode cX12_penceFor 128 = .ok (.irem, 1) := oc_112 shX12_penceFor_128
theorem dX12_penceFor_129 : decode cX12_penceFor 129 = .ok (.iastore, 1) := oc_79 shX12_penceFor_129
theorem dX12_penceFor_130 : decode cX12_penceFor 130 = .ok (.aload_n 0, 1) := oc_42 shX12_penceFor_130
theorem dX12_penceFor_131 : decode cX12_penceFor 131 = .ok (.getfield 89, 3) := oc_180 shX12_penceFor_131
theorem dX12_penceFor_134 : decode cX12_penceFor 134 = .ok (.bipush 6, 2) := oc_16 shX12_penceFor_134 sgb_6
theorem dX12_penceFor_136 : decode cX12_penceFor 136 = .ok (.iload_n 3, 1) := oc_29 shX12_penceFor_136
theorem dX12_penceFor_137 : decode cX12_penceFor 137 = .ok (.iastore, 1) := oc_79 shX12_penceFor_137
theorem dX12_penceFor_138 : decode cX12_penceFor 138 = .ok (.aload_n 0, 1) := oc_42 shX12_penceFor_138
theorem dX12_penceFor_139 : decode cX12_penceFor 139 = .ok (.getfield 89, 3) := oc_180 shX12_penceFor_139
theorem dX12_penceFor_142 : decode cX12_penceFor 142 = .ok (.bipush 7, 2) := oc_16 shX12_penceFor_142 sgb_7
theorem dX12_penceFor_144 : decode cX12_penceFor 144 = .ok (.aload_n 0, 1) := oc_42 shX12_penceFor_144
theorem dX12_penceFor_145 : decode cX12_penceFor 145 = .ok (.getfield 43, 3) := oc_180 shX12_penceFor_145
theorem dX12_penceFor_148 : decode cX12_penceFor 148 = .ok (.iload_n 1, 1) := oc_27 shX12_penceFor_148
theorem dX12_penceFor_149 : decode cX12_penceFor 149 = .ok (.iaload, 1) := oc_46 shX12_penceFor_149
theorem dX12_penceFor_150 : decode cX12_penceFor 150 = .ok (.iastore, 1) := oc_79 shX12_penceFor_150
theorem dX12_penceFor_151 : decode cX12_penceFor 151 = .ok (.aload_n 0, 1) := oc_42 shX12_penceFor_151
theorem dX12_penceFor_152 : decode cX12_penceFor 152 = .ok (.getfield 89, 3) := oc_180 shX12_penceFor_152
theorem dX12_penceFor_155 : decode cX12_penceFor 155 = .ok (.bipush 8, 2) := oc_16 shX12_penceFor_155 sgb_8
theorem dX12_penceFor_157 : decode cX12_penceFor 157 = .ok (.iload 4, 2) := oc_21 shX12_penceFor_157
theorem dX12_penceFor_159 : decode cX12_penceFor 159 = .ok (.iastore, 1) := oc_79 shX12_penceFor_159
theorem dX12_penceFor_160 : decode cX12_penceFor 160 = .ok (.aload_n 0, 1) := oc_42 shX12_penceFor_160
theorem dX12_penceFor_161 : decode cX12_penceFor 161 = .ok (.getfield 89, 3) := oc_180 shX12_penceFor_161
theorem dX12_penceFor_164 : decode cX12_penceFor 164 = .ok (.bipush 9, 2) := oc_16 shX12_penceFor_164 sgb_9
theorem dX12_penceFor_166 : decode cX12_penceFor 166 = .ok (.aload_n 0, 1) := oc_42 shX12_penceFor_166
theorem dX12_penceFor_167 : decode cX12_penceFor 167 = .ok (.getfield 92, 3) := oc_180 shX12_penceFor_167
theorem dX12_penceFor_170 : decode cX12_penceFor 170 = .ok (.aload_n 0, 1) := oc_42 shX12_penceFor_170
theorem dX12_penceFor_171 : decode cX12_penceFor 171 = .ok (.getfield 28, 3) := oc_180 shX12_penceFor_171
theorem dX12_penceFor_174 : decode cX12_penceFor 174 = .ok (.iload_n 1, 1) := oc_27 shX12_penceFor_174
theorem dX12_penceFor_175 : decode cX12_penceFor 175 = .ok (.iaload, 1) := oc_46 shX12_penceFor_175
theorem dX12_penceFor_176 : decode cX12_penceFor 176 = .ok (.bipush 7, 2) := oc_16 shX12_penceFor_176 sgb_7
theorem dX12_penceFor_178 : decode cX12_penceFor 178 = .ok (.idiv, 1) := oc_108 shX12_penceFor_178
theorem dX12_penceFor_179 : decode cX12_penceFor 179 = .ok (.iaload, 1) := oc_46 shX12_penceFor_179
theorem dX12_penceFor_180 : decode cX12_penceFor 180 = .ok (.iastore, 1) := oc_79 shX12_penceFor_180
theorem dX12_penceFor_181 : decode cX12_penceFor 181 = .ok (.aload_n 0, 1) := oc_42 shX12_penceFor_181
theorem dX12_penceFor_182 : decode cX12_penceFor 182 = .ok (.getfield 89, 3) := oc_180 shX12_penceFor_182
theorem dX12_penceFor_185 : decode cX12_penceFor 185 = .ok (.bipush 10, 2) := oc_16 shX12_penceFor_185 sgb_10
theorem dX12_penceFor_187 : decode cX12_penceFor 187 = .ok (.iconst 0, 1) := oc_3 shX12_penceFor_187
theorem dX12_penceFor_188 : decode cX12_penceFor 188 = .ok (.iastore, 1) := oc_79 shX12_penceFor_188
theorem dX12_penceFor_189 : decode cX12_penceFor 189 = .ok (.bipush 12, 2) := oc_16 shX12_penceFor_189 sgb_12
theorem dX12_penceFor_191 : decode cX12_penceFor 191 = .ok (.iload_n 2, 1) := oc_28 shX12_penceFor_191
theorem dX12_penceFor_192 : decode cX12_penceFor 192 = .ok (.imul, 1) := oc_104 shX12_penceFor_192
theorem dX12_penceFor_193 : decode cX12_penceFor 193 = .ok (.istore 5, 2) := oc_54 shX12_penceFor_193
theorem dX12_penceFor_195 : decode cX12_penceFor 195 = .ok (.iload 5, 2) := oc_21 shX12_penceFor_195
theorem dX12_penceFor_197 : decode cX12_penceFor 197 = .ok (.bipush 12, 2) := oc_16 shX12_penceFor_197 sgb_12
theorem dX12_penceFor_199 : decode cX12_penceFor 199 = .ok (.iload_n 2, 1) := oc_28 shX12_penceFor_199
theorem dX12_penceFor_200 : decode cX12_penceFor 200 = .ok (.imul, 1) := oc_104 shX12_penceFor_200
theorem dX12_penceFor_201 : decode cX12_penceFor 201 = .ok (.aload_n 0, 1) := oc_42 shX12_penceFor_201
theorem dX12_penceFor_202 : decode cX12_penceFor 202 = .ok (.getfield 74, 3) := oc_180 shX12_penceFor_202
theorem dX12_penceFor_205 : decode cX12_penceFor 205 = .ok (.iload_n 2, 1) := oc_28 shX12_penceFor_205
theorem dX12_penceFor_206 : decode cX12_penceFor 206 = .ok (.iaload, 1) := oc_46 shX12_penceFor_206
theorem dX12_penceFor_207 : decode cX12_penceFor 207 = .ok (.iadd, 1) := oc_96 shX12_penceFor_207
theorem dX12_penceFor_208 : decode cX12_penceFor 208 = .ok (.if_icmp .ge 80, 3) := oc_162 shX12_penceFor_208 sgw_0_80
theorem dX12_penceFor_211 : decode cX12_penceFor 211 = .ok (.aload_n 0, 1) := oc_42 shX12_penceFor_211
theorem dX12_penceFor_212 : decode cX12_penceFor 212 = .ok (.aload_n 0, 1) := oc_42 shX12_penceFor_212
theorem dX12_penceFor_213 : decode cX12_penceFor 213 = .ok (.getfield 80, 3) := oc_180 shX12_penceFor_213
theorem dX12_penceFor_216 : decode cX12_penceFor 216 = .ok (.iload 5, 2) := oc_21 shX12_penceFor_216
theorem dX12_penceFor_218 : decode cX12_penceFor 218 = .ok (.iaload, 1) := oc_46 shX12_penceFor_218
theorem dX12_penceFor_219 : decode cX12_penceFor 219 = .ok (.aload_n 0, 1) := oc_42 shX12_penceFor_219
theorem dX12_penceFor_220 : decode cX12_penceFor 220 = .ok (.getfield 83, 3) := oc_180 shX12_penceFor_220
theorem dX12_penceFor_223 : decode cX12_penceFor 223 = .ok (.iload 5, 2) := oc_21 shX12_penceFor_223
theorem dX12_penceFor_225 : decode cX12_penceFor 225 = .ok (.iaload, 1) := oc_46 shX12_penceFor_225
theorem dX12_penceFor_226 : decode cX12_penceFor 226 = .ok (.invokevirtual 331, 3) := oc_182 shX12_penceFor_226
theorem dX12_penceFor_229 : decode cX12_penceFor 229 = .ok (.iconst 1, 1) := oc_4 shX12_penceFor_229
theorem dX12_penceFor_230 : decode cX12_penceFor 230 = .ok (.if_icmp .eq 6, 3) := oc_159 shX12_penceFor_230 sgw_0_6
theorem dX12_penceFor_233 : decode cX12_penceFor 233 = .ok (.goto 49, 3) := oc_167 shX12_penceFor_233 sgw_0_49
theorem dX12_penceFor_236 : decode cX12_penceFor 236 = .ok (.aload_n 0, 1) := oc_42 shX12_penceFor_236
theorem dX12_penceFor_237 : decode cX12_penceFor 237 = .ok (.aload_n 0, 1) := oc_42 shX12_penceFor_237
theorem dX12_penceFor_238 : decode cX12_penceFor 238 = .ok (.getfield 77, 3) := oc_180 shX12_penceFor_238
theorem dX12_penceFor_241 : decode cX12_penceFor 241 = .ok (.iload 5, 2) := oc_21 shX12_penceFor_241
theorem dX12_penceFor_243 : decode cX12_penceFor 243 = .ok (.iaload, 1) := oc_46 shX12_penceFor_243
theorem dX12_penceFor_244 : decode cX12_penceFor 244 = .ok (.aload_n 0, 1) := oc_42 shX12_penceFor_244
theorem dX12_penceFor_245 : decode cX12_penceFor 245 = .ok (.getfield 80, 3) := oc_180 shX12_penceFor_245
theorem dX12_penceFor_248 : decode cX12_penceFor 248 = .ok (.iload 5, 2) := oc_21 shX12_penceFor_248
theorem dX12_penceFor_250 : decode cX12_penceFor 250 = .ok (.iaload, 1) := oc_46 shX12_penceFor_250
theorem dX12_penceFor_251 : decode cX12_penceFor 251 = .ok (.invokevirtual 331, 3) := oc_182 shX12_penceFor_251
theorem dX12_penceFor_254 : decode cX12_penceFor 254 = .ok (.istore 6, 2) := oc_54 shX12_penceFor_254
theorem dX12_penceFor_256 : decode cX12_penceFor 256 = .ok (.iload 6, 2) := oc_21 shX12_penceFor_256
theorem dX12_penceFor_258 : decode cX12_penceFor 258 = .ok (.ifCond .ge 7, 3) := oc_156 shX12_penceFor_258 sgw_0_7
theorem dX12_penceFor_261 : decode cX12_penceFor 261 = .ok (.iconst 0, 1) := oc_3 shX12_penceFor_261
theorem dX12_penceFor_262 : decode cX12_penceFor 262 = .ok (.goto 19, 3) := oc_167 shX12_penceFor_262 sgw_0_19
theorem dX12_penceFor_265 : decode cX12_penceFor 265 = .ok (.iload 6, 2) := oc_21 shX12_penceFor_265
theorem dX12_penceFor_267 : decode cX12_penceFor 267 = .ok (.ldc_w 334, 3) := oc_19 shX12_penceFor_267
theorem dX12_penceFor_270 : decode cX12_penceFor 270 = .ok (.if_icmp .le 9, 3) := oc_164 shX12_penceFor_270 sgw_0_9
theorem dX12_penceFor_273 : decode cX12_penceFor 273 = .ok (.ldc_w 334, 3) := oc_19 shX12_penceFor_273
theorem dX12_penceFor_276 : decode cX12_penceFor 276 = .ok (.goto 5, 3) := oc_167 shX12_penceFor_276 sgw_0_5
theorem dX12_penceFor_279 : decode cX12_penceFor 279 = .ok (.iload 6, 2) := oc_21 shX12_penceFor_279
theorem dX12_penceFor_281 : decode cX12_penceFor 281 = .ok (.ireturn, 1) := oc_172 shX12_penceFor_281
theorem dX12_penceFor_282 : decode cX12_penceFor 282 = .ok (.iinc 5 1, 3) := oc_132 shX12_penceFor_282 sgb_1
theorem dX12_penceFor_285 : decode cX12_penceFor 285 = .ok (.goto (-90), 3) := oc_167 shX12_penceFor_285 sgw_255_166
theorem dX12_penceFor_288 : decode cX12_penceFor 288 = .ok (.iconst 0, 1) := oc_3 shX12_penceFor_288
theorem dX12_penceFor_289 : decode cX12_penceFor 289 = .ok (.ireturn, 1) := oc_172 shX12_penceFor_289
noncomputable def sxX12_pence_24 : List UInt8 := []
noncomputable def sxX12_pence_23 : List UInt8 := 172 :: sxX12_pence_24
noncomputable def sxX12_pence_22 : List UInt8 := 2 :: sxX12_pence_23
noncomputable def sxX12_pence_19 : List UInt8 := 167 :: 0 :: 4 :: sxX12_pence_22
noncomputable def sxX12_pence_16 : List UInt8 := 182 :: 1 :: 82 :: sxX12_pence_19
noncomputable def sxX12_pence_15 : List UInt8 := 46 :: sxX12_pence_16
noncomputable def sxX12_pence_14 : List UInt8 := 27 :: sxX12_pence_15
noncomputable def sxX12_pence_11 : List UInt8 := 180 :: 0 :: 25 :: sxX12_pence_14
noncomputable def sxX12_pence_10 : List UInt8 := 42 :: sxX12_pence_11
noncomputable def sxX12_pence_9 : List UInt8 := 27 :: sxX12_pence_10
noncomputable def sxX12_pence_8 : List UInt8 := 42 :: sxX12_pence_9
noncomputable def sxX12_pence_5 : List UInt8 := 153 :: 0 :: 17 :: sxX12_pence_8
noncomputable def sxX12_pence_2 : List UInt8 := 182 :: 1 :: 79 :: sxX12_pence_5
noncomputable def sxX12_pence_1 : List UInt8 := 27 :: sxX12_pence_2
noncomputable def sxX12_pence_0 : List UInt8 := 42 :: sxX12_pence_1
theorem shX12_pence_0 : cX12_pence.data.toList.drop 0 = sxX12_pence_0 := rfl
theorem shX12_pence_1 : cX12_pence.data.toList.drop 1 = sxX12_pence_1 := dSn 1 shX12_pence_0
theorem shX12_pence_2 : cX12_pence.data.toList.drop 2 = sxX12_pence_2 := dSn 1 shX12_pence_1
theorem shX12_pence_5 : cX12_pence.data.toList.drop 5 = sxX12_pence_5 := dSn 3 shX12_pence_2
theorem shX12_pence_8 : cX12_pence.data.toList.drop 8 = sxX12_pence_8 := dSn 3 shX12_pence_5
theorem shX12_pence_9 : cX12_pence.data.toList.drop 9 = sxX12_pence_9 := dSn 1 shX12_pence_8
theorem shX12_pence_10 : cX12_pence.data.toList.drop 10 = sxX12_pence_10 := dSn 1 shX12_pence_9
theorem shX12_pence_11 : cX12_pence.data.toList.drop 11 = sxX12_pence_11 := dSn 1 shX12_pence_10
theorem shX12_pence_14 : cX12_pence.data.toList.drop 14 = sxX12_pence_14 := dSn 3 shX12_pence_11
theorem shX12_pence_15 : cX12_pence.data.toList.drop 15 = sxX12_pence_15 := dSn 1 shX12_pence_14
theorem shX12_pence_16 : cX12_pence.data.toList.drop 16 = sxX12_pence_16 := dSn 1 shX12_pence_15
theorem shX12_pence_19 : cX12_pence.data.toList.drop 19 = sxX12_pence_19 := dSn 3 shX12_pence_16
theorem shX12_pence_22 : cX12_pence.data.toList.drop 22 = sxX12_pence_22 := dSn 3 shX12_pence_19
theorem shX12_pence_23 : cX12_pence.data.toList.drop 23 = sxX12_pence_23 := dSn 1 shX12_pence_22
theorem dX12_pence_0 : decode cX12_pence 0 = .ok (.aload_n 0, 1) := oc_42 shX12_pence_0
theorem dX12_pence_1 : decode cX12_pence 1 = .ok (.iload_n 1, 1) := oc_27 shX12_pence_1
theorem dX12_pence_2 : decode cX12_pence 2 = .ok (.invokevirtual 335, 3) := oc_182 shX12_pence_2
theorem dX12_pence_5 : decode cX12_pence 5 = .ok (.ifCond .eq 17, 3) := oc_153 shX12_pence_5 sgw_0_17
theorem dX12_pence_8 : decode cX12_pence 8 = .ok (.aload_n 0, 1) := oc_42 shX12_pence_8
theorem dX12_pence_9 : decode cX12_pence 9 = .ok (.iload_n 1, 1) := oc_27 shX12_pence_9
theorem dX12_pence_10 : decode cX12_pence 10 = .ok (.aload_n 0, 1) := oc_42 shX12_pence_10
theorem dX12_pence_11 : decode cX12_pence 11 = .ok (.getfield 25, 3) := oc_180 shX12_pence_11
theorem dX12_pence_14 : decode cX12_pence 14 = .ok (.iload_n 1, 1) := oc_27 shX12_pence_14
theorem dX12_pence_15 : decode cX12_pence 15 = .ok (.iaload, 1) := oc_46 shX12_pence_15
theorem dX12_pence_16 : decode cX12_pence 16 = .ok (.invokevirtual 338, 3) := oc_182 shX12_pence_16
theorem dX12_pence_19 : decode cX12_pence 19 = .ok (.goto 4, 3) := oc_167 shX12_pence_19 sgw_0_4
theorem dX12_pence_22 : decode cX12_pence 22 = .ok (.iconst (-1), 1) := oc_2 shX12_pence_22
theorem dX12_pence_23 : decode cX12_pence 23 = .ok (.ireturn, 1) := oc_172 shX12_pence_23
noncomputable def sxX12_paid_75 : List UInt8 := []
noncomputable def sxX12_paid_74 : List UInt8 := 172 :: sxX12_paid_75
noncomputable def sxX12_paid_73 : List UInt8 := 29 :: sxX12_paid_74
noncomputable def sxX12_paid_70 : List UInt8 := 167 :: 255 :: 208 :: sxX12_paid_73
noncomputable def sxX12_paid_67 : List UInt8 := 132 :: 4 :: 1 :: sxX12_paid_70
noncomputable def sxX12_paid_66 : List UInt8 := 62 :: sxX12_paid_67
noncomputable def sxX12_paid_65 : List UInt8 := 96 :: sxX12_paid_66
noncomputable def sxX12_paid_64 : List UInt8 := 3 :: sxX12_paid_65
noncomputable def sxX12_paid_61 : List UInt8 := 167 :: 0 :: 4 :: sxX12_paid_64
noncomputable def sxX12_paid_58 : List UInt8 := 182 :: 1 :: 82 :: sxX12_paid_61
noncomputable def sxX12_paid_57 : List UInt8 := 27 :: sxX12_paid_58
noncomputable def sxX12_paid_55 : List UInt8 := 21 :: 4 :: sxX12_paid_57
noncomputable def sxX12_paid_54 : List UInt8 := 42 :: sxX12_paid_55
noncomputable def sxX12_paid_51 : List UInt8 := 163 :: 0 :: 13 :: sxX12_paid_54
noncomputable def sxX12_paid_50 : List UInt8 := 28 :: sxX12_paid_51
noncomputable def sxX12_paid_49 : List UInt8 := 46 :: sxX12_paid_50
noncomputable def sxX12_paid_47 : List UInt8 := 21 :: 4 :: sxX12_paid_49
noncomputable def sxX12_paid_44 : List UInt8 := 180 :: 0 :: 40 :: sxX12_paid_47
noncomputable def sxX12_paid_43 : List UInt8 := 42 :: sxX12_paid_44
noncomputable def sxX12_paid_40 : List UInt8 := 160 :: 0 :: 24 :: sxX12_paid_43
noncomputable def sxX12_paid_39 : List UInt8 := 27 :: sxX12_paid_40
noncomputable def sxX12_paid_38 : List UInt8 := 46 :: sxX12_paid_39
noncomputable def sxX12_paid_36 : List UInt8 := 21 :: 4 :: sxX12_paid_38
noncomputable def sxX12_paid_33 : List UInt8 := 180 :: 0 :: 25 :: sxX12_paid_36
noncomputable def sxX12_paid_32 : List UInt8 := 42 :: sxX12_paid_33
noncomputable def sxX12_paid_31 : List UInt8 := 29 :: sxX12_paid_32
noncomputable def sxX12_paid_28 : List UInt8 := 162 :: 0 :: 45 :: sxX12_paid_31
noncomputable def sxX12_paid_25 : List UInt8 := 180 :: 0 :: 208 :: sxX12_paid_28
noncomputable def sxX12_paid_24 : List UInt8 := 42 :: sxX12_paid_25
noncomputable def sxX12_paid_22 : List UInt8 := 21 :: 4 :: sxX12_paid_24
noncomputable def sxX12_paid_20 : List UInt8 := 54 :: 4 :: sxX12_paid_22
noncomputable def sxX12_paid_19 : List UInt8 := 3 :: sxX12_paid_20
noncomputable def sxX12_paid_18 : List UInt8 := 62 :: sxX12_paid_19
noncomputable def sxX12_paid_17 : List UInt8 := 3 :: sxX12_paid_18
noncomputable def sxX12_paid_16 : List UInt8 := 172 :: sxX12_paid_17
noncomputable def sxX12_paid_15 : List UInt8 := 2 :: sxX12_paid_16
noncomputable def sxX12_paid_12 : List UInt8 := 154 :: 0 :: 5 :: sxX12_paid_15
noncomputable def sxX12_paid_9 : List UInt8 := 184 :: 1 :: 85 :: sxX12_paid_12
noncomputable def sxX12_paid_8 : List UInt8 := 28 :: sxX12_paid_9
noncomputable def sxX12_paid_5 : List UInt8 := 153 :: 0 :: 10 :: sxX12_paid_8
noncomputable def sxX12_paid_2 : List UInt8 := 182 :: 0 :: 218 :: sxX12_paid_5
noncomputable def sxX12_paid_1 : List UInt8 := 27 :: sxX12_paid_2
noncomputable def sxX12_paid_0 : List UInt8 := 42 :: sxX12_paid_1
theorem shX12_paid_0 : cX12_paid.data.toList.drop 0 = sxX12_paid_0 := rfl
theorem shX12_paid_1 : cX12_paid.data.toList.drop 1 = sxX12_paid_1 := dSn 1 shX12_paid_0
theorem shX12_paid_2 : cX12_paid.data.toList.drop 2 = sxX12_paid_2 := dSn 1 shX12_paid_1
theorem shX12_paid_5 : cX12_paid.data.toList.drop 5 = sxX12_paid_5 := dSn 3 shX12_paid_2
theorem shX12_paid_8 : cX12_paid.data.toList.drop 8 = sxX12_paid_8 := dSn 3 shX12_paid_5
theorem shX12_paid_9 : cX12_paid.data.toList.drop 9 = sxX12_paid_9 := dSn 1 shX12_paid_8
theorem shX12_paid_12 : cX12_paid.data.toList.drop 12 = sxX12_paid_12 := dSn 3 shX12_paid_9
theorem shX12_paid_15 : cX12_paid.data.toList.drop 15 = sxX12_paid_15 := dSn 3 shX12_paid_12
theorem shX12_paid_16 : cX12_paid.data.toList.drop 16 = sxX12_paid_16 := dSn 1 shX12_paid_15
theorem shX12_paid_17 : cX12_paid.data.toList.drop 17 = sxX12_paid_17 := dSn 1 shX12_paid_16
theorem shX12_paid_18 : cX12_paid.data.toList.drop 18 = sxX12_paid_18 := dSn 1 shX12_paid_17
theorem shX12_paid_19 : cX12_paid.data.toList.drop 19 = sxX12_paid_19 := dSn 1 shX12_paid_18
theorem shX12_paid_20 : cX12_paid.data.toList.drop 20 = sxX12_paid_20 := dSn 1 shX12_paid_19
theorem shX12_paid_22 : cX12_paid.data.toList.drop 22 = sxX12_paid_22 := dSn 2 shX12_paid_20
theorem shX12_paid_24 : cX12_paid.data.toList.drop 24 = sxX12_paid_24 := dSn 2 shX12_paid_22
theorem shX12_paid_25 : cX12_paid.data.toList.drop 25 = sxX12_paid_25 := dSn 1 shX12_paid_24
theorem shX12_paid_28 : cX12_paid.data.toList.drop 28 = sxX12_paid_28 := dSn 3 shX12_paid_25
theorem shX12_paid_31 : cX12_paid.data.toList.drop 31 = sxX12_paid_31 := dSn 3 shX12_paid_28
theorem shX12_paid_32 : cX12_paid.data.toList.drop 32 = sxX12_paid_32 := dSn 1 shX12_paid_31
theorem shX12_paid_33 : cX12_paid.data.toList.drop 33 = sxX12_paid_33 := dSn 1 shX12_paid_32
theorem shX12_paid_36 : cX12_paid.data.toList.drop 36 = sxX12_paid_36 := dSn 3 shX12_paid_33
theorem shX12_paid_38 : cX12_paid.data.toList.drop 38 = sxX12_paid_38 := dSn 2 shX12_paid_36
theorem shX12_paid_39 : cX12_paid.data.toList.drop 39 = sxX12_paid_39 := dSn 1 shX12_paid_38
theorem shX12_paid_40 : cX12_paid.data.toList.drop 40 = sxX12_paid_40 := dSn 1 shX12_paid_39
theorem shX12_paid_43 : cX12_paid.data.toList.drop 43 = sxX12_paid_43 := dSn 3 shX12_paid_40
theorem shX12_paid_44 : cX12_paid.data.toList.drop 44 = sxX12_paid_44 := dSn 1 shX12_paid_43
theorem shX12_paid_47 : cX12_paid.data.toList.drop 47 = sxX12_paid_47 := dSn 3 shX12_paid_44
theorem shX12_paid_49 : cX12_paid.data.toList.drop 49 = sxX12_paid_49 := dSn 2 shX12_paid_47
theorem shX12_paid_50 : cX12_paid.data.toList.drop 50 = sxX12_paid_50 := dSn 1 shX12_paid_49
theorem shX12_paid_51 : cX12_paid.data.toList.drop 51 = sxX12_paid_51 := dSn 1 shX12_paid_50
theorem shX12_paid_54 : cX12_paid.data.toList.drop 54 = sxX12_paid_54 := dSn 3 shX12_paid_51
theorem shX12_paid_55 : cX12_paid.data.toList.drop 55 = sxX12_paid_55 := dSn 1 shX12_paid_54
theorem shX12_paid_57 : cX12_paid.data.toList.drop 57 = sxX12_paid_57 := dSn 2 shX12_paid_55
theorem shX12_paid_58 : cX12_paid.data.toList.drop 58 = sxX12_paid_58 := dSn 1 shX12_paid_57
theorem shX12_paid_61 : cX12_paid.data.toList.drop 61 = sxX12_paid_61 := dSn 3 shX12_paid_58
theorem shX12_paid_64 : cX12_paid.data.toList.drop 64 = sxX12_paid_64 := dSn 3 shX12_paid_61
theorem shX12_paid_65 : cX12_paid.data.toList.drop 65 = sxX12_paid_65 := dSn 1 shX12_paid_64
theorem shX12_paid_66 : cX12_paid.data.toList.drop 66 = sxX12_paid_66 := dSn 1 shX12_paid_65
theorem shX12_paid_67 : cX12_paid.data.toList.drop 67 = sxX12_paid_67 := dSn 1 shX12_paid_66
theorem shX12_paid_70 : cX12_paid.data.toList.drop 70 = sxX12_paid_70 := dSn 3 shX12_paid_67
theorem shX12_paid_73 : cX12_paid.data.toList.drop 73 = sxX12_paid_73 := dSn 3 shX12_paid_70
theorem shX12_paid_74 : cX12_paid.data.toList.drop 74 = sxX12_paid_74 := dSn 1 shX12_paid_73
theorem dX12_paid_0 : decode cX12_paid 0 = .ok (.aload_n 0, 1) := oc_42 shX12_paid_0
theorem dX12_paid_1 : decode cX12_paid 1 = .ok (.iload_n 1, 1) := oc_27 shX12_paid_1
theorem dX12_paid_2 : decode cX12_paid 2 = .ok (.invokevirtual 218, 3) := oc_182 shX12_paid_2
theorem dX12_paid_5 : decode cX12_paid 5 = .ok (.ifCond .eq 10, 3) := oc_153 shX12_paid_5 sgw_0_10
theorem dX12_paid_8 : decode cX12_paid 8 = .ok (.iload_n 2, 1) := oc_28 shX12_paid_8
theorem dX12_paid_9 : decode cX12_paid 9 = .ok (.invokestatic 341, 3) := oc_184 shX12_paid_9
theorem dX12_paid_12 : decode cX12_paid 12 = .ok (.ifCond .ne 5, 3) := oc_154 shX12_paid_12 sgw_0_5
theorem dX12_paid_15 : decode cX12_paid 15 = .ok (.iconst (-1), 1) := oc_2 shX12_paid_15
theorem dX12_paid_16 : decode cX12_paid 16 = .ok (.ireturn, 1) := oc_172 shX12_paid_16
theorem dX12_paid_17 : decode cX12_paid 17 = .ok (.iconst 0, 1) := oc_3 shX12_paid_17
theorem dX12_paid_18 : decode cX12_paid 18 = .ok (.istore_n 3, 1) := oc_62 shX12_paid_18
theorem dX12_paid_19 : decode cX12_paid 19 = .ok (.iconst 0, 1) := oc_3 shX12_paid_19
theorem dX12_paid_20 : decode cX12_paid 20 = .ok (.istore 4, 2) := oc_54 shX12_paid_20
theorem dX12_paid_22 : decode cX12_paid 22 = .ok (.iload 4, 2) := oc_21 shX12_paid_22
theorem dX12_paid_24 : decode cX12_paid 24 = .ok (.aload_n 0, 1) := oc_42 shX12_paid_24
theorem dX12_paid_25 : decode cX12_paid 25 = .ok (.getfield 208, 3) := oc_180 shX12_paid_25
theorem dX12_paid_28 : decode cX12_paid 28 = .ok (.if_icmp .ge 45, 3) := oc_162 shX12_paid_28 sgw_0_45
theorem dX12_paid_31 : decode cX12_paid 31 = .ok (.iload_n 3, 1) := oc_29 shX12_paid_31
theorem dX12_paid_32 : decode cX12_paid 32 = .ok (.aload_n 0, 1) := oc_42 shX12_paid_32
theorem dX12_paid_33 : decode cX12_paid 33 = .ok (.getfield 25, 3) := oc_180 shX12_paid_33
theorem dX12_paid_36 : decode cX12_paid 36 = .ok (.iload 4, 2) := oc_21 shX12_paid_36
theorem dX12_paid_38 : decode cX12_paid 38 = .ok (.iaload, 1) := oc_46 shX12_paid_38
theorem dX12_paid_39 : decode cX12_paid 39 = .ok (.iload_n 1, 1) := oc_27 shX12_paid_39
theorem dX12_paid_40 : decode cX12_paid 40 = .ok (.if_icmp .ne 24, 3) := oc_160 shX12_paid_40 sgw_0_24
theorem dX12_paid_43 : decode cX12_paid 43 = .ok (.aload_n 0, 1) := oc_42 shX12_paid_43
theorem dX12_paid_44 : decode cX12_paid 44 = .ok (.getfield 40, 3) := oc_180 shX12_paid_44
theorem dX12_paid_47 : decode cX12_paid 47 = .ok (.iload 4, 2) := oc_21 shX12_paid_47
theorem dX12_paid_49 : decode cX12_paid 49 = .ok (.iaload, 1) := oc_46 shX12_paid_49
theorem dX12_paid_50 : decode cX12_paid 50 = .ok (.iload_n 2, 1) := oc_28 shX12_paid_50
theorem dX12_paid_51 : decode cX12_paid 51 = .ok (.if_icmp .gt 13, 3) := oc_163 shX12_paid_51 sgw_0_13
theorem dX12_paid_54 : decode cX12_paid 54 = .ok (.aload_n 0, 1) := oc_42 shX12_paid_54
theorem dX12_paid_55 : decode cX12_paid 55 = .ok (.iload 4, 2) := oc_21 shX12_paid_55
theorem dX12_paid_57 : decode cX12_paid 57 = .ok (.iload_n 1, 1) := oc_27 shX12_paid_57
theorem dX12_paid_58 : decode cX12_paid 58 = .ok (.invokevirtual 338, 3) := oc_182 shX12_paid_58
theorem dX12_paid_61 : decode cX12_paid 61 = .ok (.goto 4, 3) := oc_167 shX12_paid_61 sgw_0_4
theorem dX12_paid_64 : decode cX12_paid 64 = .ok (.iconst 0, 1) := oc_3 shX12_paid_64
theorem dX12_paid_65 : decode cX12_paid 65 = .ok (.iadd, 1) := oc_96 shX12_paid_65
theorem dX12_paid_66 : decode cX12_paid 66 = .ok (.istore_n 3, 1) := oc_62 shX12_paid_66
theorem dX12_paid_67 : decode cX12_paid 67 = .ok (.iinc 4 1, 3) := oc_132 shX12_paid_67 sgb_1
theorem dX12_paid_70 : decode cX12_paid 70 = .ok (.goto (-48), 3) := oc_167 shX12_paid_70 sgw_255_208
theorem dX12_paid_73 : decode cX12_paid 73 = .ok (.iload_n 3, 1) := oc_29 shX12_paid_73
theorem dX12_paid_74 : decode cX12_paid 74 = .ok (.ireturn, 1) := oc_172 shX12_paid_74
noncomputable def sxX12_asIf_65 : List UInt8 := []
noncomputable def sxX12_asIf_64 : List UInt8 := 172 :: sxX12_asIf_65
noncomputable def sxX12_asIf_63 : List UInt8 := 29 :: sxX12_asIf_64
noncomputable def sxX12_asIf_60 : List UInt8 := 167 :: 255 :: 219 :: sxX12_asIf_63
noncomputable def sxX12_asIf_57 : List UInt8 := 132 :: 4 :: 1 :: sxX12_asIf_60
noncomputable def sxX12_asIf_56 : List UInt8 := 62 :: sxX12_asIf_57
noncomputable def sxX12_asIf_55 : List UInt8 := 96 :: sxX12_asIf_56
noncomputable def sxX12_asIf_54 : List UInt8 := 3 :: sxX12_asIf_55
noncomputable def sxX12_asIf_51 : List UInt8 := 167 :: 0 :: 4 :: sxX12_asIf_54
noncomputable def sxX12_asIf_48 : List UInt8 := 182 :: 1 :: 82 :: sxX12_asIf_51
noncomputable def sxX12_asIf_47 : List UInt8 := 28 :: sxX12_asIf_48
noncomputable def sxX12_asIf_45 : List UInt8 := 21 :: 4 :: sxX12_asIf_47
noncomputable def sxX12_asIf_44 : List UInt8 := 42 :: sxX12_asIf_45
noncomputable def sxX12_asIf_41 : List UInt8 := 160 :: 0 :: 13 :: sxX12_asIf_44
noncomputable def sxX12_asIf_40 : List UInt8 := 27 :: sxX12_asIf_41
noncomputable def sxX12_asIf_39 : List UInt8 := 46 :: sxX12_asIf_40
noncomputable def sxX12_asIf_37 : List UInt8 := 21 :: 4 :: sxX12_asIf_39
noncomputable def sxX12_asIf_34 : List UInt8 := 180 :: 0 :: 25 :: sxX12_asIf_37
noncomputable def sxX12_asIf_33 : List UInt8 := 42 :: sxX12_asIf_34
noncomputable def sxX12_asIf_32 : List UInt8 := 29 :: sxX12_asIf_33
noncomputable def sxX12_asIf_29 : List UInt8 := 162 :: 0 :: 34 :: sxX12_asIf_32
noncomputable def sxX12_asIf_26 : List UInt8 := 180 :: 0 :: 208 :: sxX12_asIf_29
noncomputable def sxX12_asIf_25 : List UInt8 := 42 :: sxX12_asIf_26
noncomputable def sxX12_asIf_23 : List UInt8 := 21 :: 4 :: sxX12_asIf_25
noncomputable def sxX12_asIf_21 : List UInt8 := 54 :: 4 :: sxX12_asIf_23
noncomputable def sxX12_asIf_20 : List UInt8 := 3 :: sxX12_asIf_21
noncomputable def sxX12_asIf_19 : List UInt8 := 62 :: sxX12_asIf_20
noncomputable def sxX12_asIf_18 : List UInt8 := 3 :: sxX12_asIf_19
noncomputable def sxX12_asIf_17 : List UInt8 := 172 :: sxX12_asIf_18
noncomputable def sxX12_asIf_16 : List UInt8 := 2 :: sxX12_asIf_17
noncomputable def sxX12_asIf_13 : List UInt8 := 154 :: 0 :: 5 :: sxX12_asIf_16
noncomputable def sxX12_asIf_10 : List UInt8 := 182 :: 0 :: 218 :: sxX12_asIf_13
noncomputable def sxX12_asIf_9 : List UInt8 := 28 :: sxX12_asIf_10
noncomputable def sxX12_asIf_8 : List UInt8 := 42 :: sxX12_asIf_9
noncomputable def sxX12_asIf_5 : List UInt8 := 153 :: 0 :: 11 :: sxX12_asIf_8
noncomputable def sxX12_asIf_2 : List UInt8 := 182 :: 0 :: 218 :: sxX12_asIf_5
noncomputable def sxX12_asIf_1 : List UInt8 := 27 :: sxX12_asIf_2
noncomputable def sxX12_asIf_0 : List UInt8 := 42 :: sxX12_asIf_1
theorem shX12_asIf_0 : cX12_asIf.data.toList.drop 0 = sxX12_asIf_0 := rfl
theorem shX12_asIf_1 : cX12_asIf.data.toList.drop 1 = sxX12_asIf_1 := dSn 1 shX12_asIf_0
theorem shX12_asIf_2 : cX12_asIf.data.toList.drop 2 = sxX12_asIf_2 := dSn 1 shX12_asIf_1
theorem shX12_asIf_5 : cX12_asIf.data.toList.drop 5 = sxX12_asIf_5 := dSn 3 shX12_asIf_2
theorem shX12_asIf_8 : cX12_asIf.data.toList.drop 8 = sxX12_asIf_8 := dSn 3 shX12_asIf_5
theorem shX12_asIf_9 : cX12_asIf.data.toList.drop 9 = sxX12_asIf_9 := dSn 1 shX12_asIf_8
theorem shX12_asIf_10 : cX12_asIf.data.toList.drop 10 = sxX12_asIf_10 := dSn 1 shX12_asIf_9
theorem shX12_asIf_13 : cX12_asIf.data.toList.drop 13 = sxX12_asIf_13 := dSn 3 shX12_asIf_10
theorem shX12_asIf_16 : cX12_asIf.data.toList.drop 16 = sxX12_asIf_16 := dSn 3 shX12_asIf_13
theorem shX12_asIf_17 : cX12_asIf.data.toList.drop 17 = sxX12_asIf_17 := dSn 1 shX12_asIf_16
theorem shX12_asIf_18 : cX12_asIf.data.toList.drop 18 = sxX12_asIf_18 := dSn 1 shX12_asIf_17
theorem shX12_asIf_19 : cX12_asIf.data.toList.drop 19 = sxX12_asIf_19 := dSn 1 shX12_asIf_18
theorem shX12_asIf_20 : cX12_asIf.data.toList.drop 20 = sxX12_asIf_20 := dSn 1 shX12_asIf_19
theorem shX12_asIf_21 : cX12_asIf.data.toList.drop 21 = sxX12_asIf_21 := dSn 1 shX12_asIf_20
theorem shX12_asIf_23 : cX12_asIf.data.toList.drop 23 = sxX12_asIf_23 := dSn 2 shX12_asIf_21
theorem shX12_asIf_25 : cX12_asIf.data.toList.drop 25 = sxX12_asIf_25 := dSn 2 shX12_asIf_23
theorem shX12_asIf_26 : cX12_asIf.data.toList.drop 26 = sxX12_asIf_26 := dSn 1 shX12_asIf_25
theorem shX12_asIf_29 : cX12_asIf.data.toList.drop 29 = sxX12_asIf_29 := dSn 3 shX12_asIf_26
theorem shX12_asIf_32 : cX12_asIf.data.toList.drop 32 = sxX12_asIf_32 := dSn 3 shX12_asIf_29
theorem shX12_asIf_33 : cX12_asIf.data.toList.drop 33 = sxX12_asIf_33 := dSn 1 shX12_asIf_32
theorem shX12_asIf_34 : cX12_asIf.data.toList.drop 34 = sxX12_asIf_34 := dSn 1 shX12_asIf_33
theorem shX12_asIf_37 : cX12_asIf.data.toList.drop 37 = sxX12_asIf_37 := dSn 3 shX12_asIf_34
theorem shX12_asIf_39 : cX12_asIf.data.toList.drop 39 = sxX12_asIf_39 := dSn 2 shX12_asIf_37
theorem shX12_asIf_40 : cX12_asIf.data.toList.drop 40 = sxX12_asIf_40 := dSn 1 shX12_asIf_39
theorem shX12_asIf_41 : cX12_asIf.data.toList.drop 41 = sxX12_asIf_41 := dSn 1 shX12_asIf_40
theorem shX12_asIf_44 : cX12_asIf.data.toList.drop 44 = sxX12_asIf_44 := dSn 3 shX12_asIf_41
theorem shX12_asIf_45 : cX12_asIf.data.toList.drop 45 = sxX12_asIf_45 := dSn 1 shX12_asIf_44
theorem shX12_asIf_47 : cX12_asIf.data.toList.drop 47 = sxX12_asIf_47 := dSn 2 shX12_asIf_45
theorem shX12_asIf_48 : cX12_asIf.data.toList.drop 48 = sxX12_asIf_48 := dSn 1 shX12_asIf_47
theorem shX12_asIf_51 : cX12_asIf.data.toList.drop 51 = sxX12_asIf_51 := dSn 3 shX12_asIf_48
theorem shX12_asIf_54 : cX12_asIf.data.toList.drop 54 = sxX12_asIf_54 := dSn 3 shX12_asIf_51
theorem shX12_asIf_55 : cX12_asIf.data.toList.drop 55 = sxX12_asIf_55 := dSn 1 shX12_asIf_54
theorem shX12_asIf_56 : cX12_asIf.data.toList.drop 56 = sxX12_asIf_56 := dSn 1 shX12_asIf_55
theorem shX12_asIf_57 : cX12_asIf.data.toList.drop 57 = sxX12_asIf_57 := dSn 1 shX12_asIf_56
theorem shX12_asIf_60 : cX12_asIf.data.toList.drop 60 = sxX12_asIf_60 := dSn 3 shX12_asIf_57
theorem shX12_asIf_63 : cX12_asIf.data.toList.drop 63 = sxX12_asIf_63 := dSn 3 shX12_asIf_60
theorem shX12_asIf_64 : cX12_asIf.data.toList.drop 64 = sxX12_asIf_64 := dSn 1 shX12_asIf_63
theorem dX12_asIf_0 : decode cX12_asIf 0 = .ok (.aload_n 0, 1) := oc_42 shX12_asIf_0
theorem dX12_asIf_1 : decode cX12_asIf 1 = .ok (.iload_n 1, 1) := oc_27 shX12_asIf_1
theorem dX12_asIf_2 : decode cX12_asIf 2 = .ok (.invokevirtual 218, 3) := oc_182 shX12_asIf_2
theorem dX12_asIf_5 : decode cX12_asIf 5 = .ok (.ifCond .eq 11, 3) := oc_153 shX12_asIf_5 sgw_0_11
theorem dX12_asIf_8 : decode cX12_asIf 8 = .ok (.aload_n 0, 1) := oc_42 shX12_asIf_8
theorem dX12_asIf_9 : decode cX12_asIf 9 = .ok (.iload_n 2, 1) := oc_28 shX12_asIf_9
theorem dX12_asIf_10 : decode cX12_asIf 10 = .ok (.invokevirtual 218, 3) := oc_182 shX12_asIf_10
theorem dX12_asIf_13 : decode cX12_asIf 13 = .ok (.ifCond .ne 5, 3) := oc_154 shX12_asIf_13 sgw_0_5
theorem dX12_asIf_16 : decode cX12_asIf 16 = .ok (.iconst (-1), 1) := oc_2 shX12_asIf_16
theorem dX12_asIf_17 : decode cX12_asIf 17 = .ok (.ireturn, 1) := oc_172 shX12_asIf_17
theorem dX12_asIf_18 : decode cX12_asIf 18 = .ok (.iconst 0, 1) := oc_3 shX12_asIf_18
theorem dX12_asIf_19 : decode cX12_asIf 19 = .ok (.istore_n 3, 1) := oc_62 shX12_asIf_19
theorem dX12_asIf_20 : decode cX12_asIf 20 = .ok (.iconst 0, 1) := oc_3 shX12_asIf_20
theorem dX12_asIf_21 : decode cX12_asIf 21 = .ok (.istore 4, 2) := oc_54 shX12_asIf_21
theorem dX12_asIf_23 : decode cX12_asIf 23 = .ok (.iload 4, 2) := oc_21 shX12_asIf_23
theorem dX12_asIf_25 : decode cX12_asIf 25 = .ok (.aload_n 0, 1) := oc_42 shX12_asIf_25
theorem dX12_asIf_26 : decode cX12_asIf 26 = .ok (.getfield 208, 3) := oc_180 shX12_asIf_26
theorem dX12_asIf_29 : decode cX12_asIf 29 = .ok (.if_icmp .ge 34, 3) := oc_162 shX12_asIf_29 sgw_0_34
theorem dX12_asIf_32 : decode cX12_asIf 32 = .ok (.iload_n 3, 1) := oc_29 shX12_asIf_32
theorem dX12_asIf_33 : decode cX12_asIf 33 = .ok (.aload_n 0, 1) := oc_42 shX12_asIf_33
theorem dX12_asIf_34 : decode cX12_asIf 34 = .ok (.getfield 25, 3) := oc_180 shX12_asIf_34
theorem dX12_asIf_37 : decode cX12_asIf 37 = .ok (.iload 4, 2) := oc_21 shX12_asIf_37
theorem dX12_asIf_39 : decode cX12_asIf 39 = .ok (.iaload, 1) := oc_46 shX12_asIf_39
theorem dX12_asIf_40 : decode cX12_asIf 40 = .ok (.iload_n 1, 1) := oc_27 shX12_asIf_40
theorem dX12_asIf_41 : decode cX12_asIf 41 = .ok (.if_icmp .ne 13, 3) := oc_160 shX12_asIf_41 sgw_0_13
theorem dX12_asIf_44 : decode cX12_asIf 44 = .ok (.aload_n 0, 1) := oc_42 shX12_asIf_44
theorem dX12_asIf_45 : decode cX12_asIf 45 = .ok (.iload 4, 2) := oc_21 shX12_asIf_45
theorem dX12_asIf_47 : decode cX12_asIf 47 = .ok (.iload_n 2, 1) := oc_28 shX12_asIf_47
theorem dX12_asIf_48 : decode cX12_asIf 48 = .ok (.invokevirtual 338, 3) := oc_182 shX12_asIf_48
theorem dX12_asIf_51 : decode cX12_asIf 51 = .ok (.goto 4, 3) := oc_167 shX12_asIf_51 sgw_0_4
theorem dX12_asIf_54 : decode cX12_asIf 54 = .ok (.iconst 0, 1) := oc_3 shX12_asIf_54
theorem dX12_asIf_55 : decode cX12_asIf 55 = .ok (.iadd, 1) := oc_96 shX12_asIf_55
theorem dX12_asIf_56 : decode cX12_asIf 56 = .ok (.istore_n 3, 1) := oc_62 shX12_asIf_56
theorem dX12_asIf_57 : decode cX12_asIf 57 = .ok (.iinc 4 1, 3) := oc_132 shX12_asIf_57 sgb_1
theorem dX12_asIf_60 : decode cX12_asIf 60 = .ok (.goto (-37), 3) := oc_167 shX12_asIf_60 sgw_255_219
theorem dX12_asIf_63 : decode cX12_asIf 63 = .ok (.iload_n 3, 1) := oc_29 shX12_asIf_63
theorem dX12_asIf_64 : decode cX12_asIf 64 = .ok (.ireturn, 1) := oc_172 shX12_asIf_64
noncomputable def sxX12_missing_19 : List UInt8 := []
noncomputable def sxX12_missing_18 : List UInt8 := 172 :: sxX12_missing_19
noncomputable def sxX12_missing_17 : List UInt8 := 2 :: sxX12_missing_18
noncomputable def sxX12_missing_14 : List UInt8 := 167 :: 0 :: 4 :: sxX12_missing_17
noncomputable def sxX12_missing_13 : List UInt8 := 46 :: sxX12_missing_14
noncomputable def sxX12_missing_12 : List UInt8 := 27 :: sxX12_missing_13
noncomputable def sxX12_missing_9 : List UInt8 := 180 :: 0 :: 43 :: sxX12_missing_12
noncomputable def sxX12_missing_8 : List UInt8 := 42 :: sxX12_missing_9
noncomputable def sxX12_missing_5 : List UInt8 := 153 :: 0 :: 12 :: sxX12_missing_8
noncomputable def sxX12_missing_2 : List UInt8 := 182 :: 1 :: 79 :: sxX12_missing_5
noncomputable def sxX12_missing_1 : List UInt8 := 27 :: sxX12_missing_2
noncomputable def sxX12_missing_0 : List UInt8 := 42 :: sxX12_missing_1
theorem shX12_missing_0 : cX12_missing.data.toList.drop 0 = sxX12_missing_0 := rfl
theorem shX12_missing_1 : cX12_missing.data.toList.drop 1 = sxX12_missing_1 := dSn 1 shX12_missing_0
theorem shX12_missing_2 : cX12_missing.data.toList.drop 2 = sxX12_missing_2 := dSn 1 shX12_missing_1
theorem shX12_missing_5 : cX12_missing.data.toList.drop 5 = sxX12_missing_5 := dSn 3 shX12_missing_2
theorem shX12_missing_8 : cX12_missing.data.toList.drop 8 = sxX12_missing_8 := dSn 3 shX12_missing_5
theorem shX12_missing_9 : cX12_missing.data.toList.drop 9 = sxX12_missing_9 := dSn 1 shX12_missing_8
theorem shX12_missing_12 : cX12_missing.data.toList.drop 12 = sxX12_missing_12 := dSn 3 shX12_missing_9
theorem shX12_missing_13 : cX12_missing.data.toList.drop 13 = sxX12_missing_13 := dSn 1 shX12_missing_12
theorem shX12_missing_14 : cX12_missing.data.toList.drop 14 = sxX12_missing_14 := dSn 1 shX12_missing_13
theorem shX12_missing_17 : cX12_missing.data.toList.drop 17 = sxX12_missing_17 := dSn 3 shX12_missing_14
theorem shX12_missing_18 : cX12_missing.data.toList.drop 18 = sxX12_missing_18 := dSn 1 shX12_missing_17
theorem dX12_missing_0 : decode cX12_missing 0 = .ok (.aload_n 0, 1) := oc_42 shX12_missing_0
theorem dX12_missing_1 : decode cX12_missing 1 = .ok (.iload_n 1, 1) := oc_27 shX12_missing_1
theorem dX12_missing_2 : decode cX12_missing 2 = .ok (.invokevirtual 335, 3) := oc_182 shX12_missing_2
theorem dX12_missing_5 : decode cX12_missing 5 = .ok (.ifCond .eq 12, 3) := oc_153 shX12_missing_5 sgw_0_12
theorem dX12_missing_8 : decode cX12_missing 8 = .ok (.aload_n 0, 1) := oc_42 shX12_missing_8
theorem dX12_missing_9 : decode cX12_missing 9 = .ok (.getfield 43, 3) := oc_180 shX12_missing_9
theorem dX12_missing_12 : decode cX12_missing 12 = .ok (.iload_n 1, 1) := oc_27 shX12_missing_12
theorem dX12_missing_13 : decode cX12_missing 13 = .ok (.iaload, 1) := oc_46 shX12_missing_13
theorem dX12_missing_14 : decode cX12_missing 14 = .ok (.goto 4, 3) := oc_167 shX12_missing_14 sgw_0_4
theorem dX12_missing_17 : decode cX12_missing 17 = .ok (.iconst (-1), 1) := oc_2 shX12_missing_17
theorem dX12_missing_18 : decode cX12_missing 18 = .ok (.ireturn, 1) := oc_172 shX12_missing_18
noncomputable def sxX12_choose_44 : List UInt8 := []
noncomputable def sxX12_choose_43 : List UInt8 := 173 :: sxX12_choose_44
noncomputable def sxX12_choose_42 : List UInt8 := 32 :: sxX12_choose_43
noncomputable def sxX12_choose_39 : List UInt8 := 167 :: 255 :: 233 :: sxX12_choose_42
noncomputable def sxX12_choose_36 : List UInt8 := 132 :: 4 :: 1 :: sxX12_choose_39
noncomputable def sxX12_choose_35 : List UInt8 := 65 :: sxX12_choose_36
noncomputable def sxX12_choose_34 : List UInt8 := 109 :: sxX12_choose_35
noncomputable def sxX12_choose_33 : List UInt8 := 133 :: sxX12_choose_34
noncomputable def sxX12_choose_31 : List UInt8 := 21 :: 4 :: sxX12_choose_33
noncomputable def sxX12_choose_30 : List UInt8 := 105 :: sxX12_choose_31
noncomputable def sxX12_choose_29 : List UInt8 := 133 :: sxX12_choose_30
noncomputable def sxX12_choose_28 : List UInt8 := 96 :: sxX12_choose_29
noncomputable def sxX12_choose_26 : List UInt8 := 21 :: 4 :: sxX12_choose_28
noncomputable def sxX12_choose_25 : List UInt8 := 100 :: sxX12_choose_26
noncomputable def sxX12_choose_24 : List UInt8 := 27 :: sxX12_choose_25
noncomputable def sxX12_choose_23 : List UInt8 := 26 :: sxX12_choose_24
noncomputable def sxX12_choose_22 : List UInt8 := 32 :: sxX12_choose_23
noncomputable def sxX12_choose_19 : List UInt8 := 163 :: 0 :: 23 :: sxX12_choose_22
noncomputable def sxX12_choose_18 : List UInt8 := 27 :: sxX12_choose_19
noncomputable def sxX12_choose_16 : List UInt8 := 21 :: 4 :: sxX12_choose_18
noncomputable def sxX12_choose_14 : List UInt8 := 54 :: 4 :: sxX12_choose_16
noncomputable def sxX12_choose_13 : List UInt8 := 4 :: sxX12_choose_14
noncomputable def sxX12_choose_12 : List UInt8 := 65 :: sxX12_choose_13
noncomputable def sxX12_choose_11 : List UInt8 := 10 :: sxX12_choose_12
noncomputable def sxX12_choose_10 : List UInt8 := 173 :: sxX12_choose_11
noncomputable def sxX12_choose_9 : List UInt8 := 9 :: sxX12_choose_10
noncomputable def sxX12_choose_6 : List UInt8 := 164 :: 0 :: 5 :: sxX12_choose_9
noncomputable def sxX12_choose_5 : List UInt8 := 26 :: sxX12_choose_6
noncomputable def sxX12_choose_4 : List UInt8 := 27 :: sxX12_choose_5
noncomputable def sxX12_choose_1 : List UInt8 := 155 :: 0 :: 8 :: sxX12_choose_4
noncomputable def sxX12_choose_0 : List UInt8 := 27 :: sxX12_choose_1
theorem shX12_choose_0 : cX12_choose.data.toList.drop 0 = sxX12_choose_0 := rfl
theorem shX12_choose_1 : cX12_choose.data.toList.drop 1 = sxX12_choose_1 := dSn 1 shX12_choose_0
theorem shX12_choose_4 : cX12_choose.data.toList.drop 4 = sxX12_choose_4 := dSn 3 shX12_choose_1
theorem shX12_choose_5 : cX12_choose.data.toList.drop 5 = sxX12_choose_5 := dSn 1 shX12_choose_4
theorem shX12_choose_6 : cX12_choose.data.toList.drop 6 = sxX12_choose_6 := dSn 1 shX12_choose_5
theorem shX12_choose_9 : cX12_choose.data.toList.drop 9 = sxX12_choose_9 := dSn 3 shX12_choose_6
theorem shX12_choose_10 : cX12_choose.data.toList.drop 10 = sxX12_choose_10 := dSn 1 shX12_choose_9
theorem shX12_choose_11 : cX12_choose.data.toList.drop 11 = sxX12_choose_11 := dSn 1 shX12_choose_10
theorem shX12_choose_12 : cX12_choose.data.toList.drop 12 = sxX12_choose_12 := dSn 1 shX12_choose_11
theorem shX12_choose_13 : cX12_choose.data.toList.drop 13 = sxX12_choose_13 := dSn 1 shX12_choose_12
theorem shX12_choose_14 : cX12_choose.data.toList.drop 14 = sxX12_choose_14 := dSn 1 shX12_choose_13
theorem shX12_choose_16 : cX12_choose.data.toList.drop 16 = sxX12_choose_16 := dSn 2 shX12_choose_14
theorem shX12_choose_18 : cX12_choose.data.toList.drop 18 = sxX12_choose_18 := dSn 2 shX12_choose_16
theorem shX12_choose_19 : cX12_choose.data.toList.drop 19 = sxX12_choose_19 := dSn 1 shX12_choose_18
theorem shX12_choose_22 : cX12_choose.data.toList.drop 22 = sxX12_choose_22 := dSn 3 shX12_choose_19
theorem shX12_choose_23 : cX12_choose.data.toList.drop 23 = sxX12_choose_23 := dSn 1 shX12_choose_22
theorem shX12_choose_24 : cX12_choose.data.toList.drop 24 = sxX12_choose_24 := dSn 1 shX12_choose_23
theorem shX12_choose_25 : cX12_choose.data.toList.drop 25 = sxX12_choose_25 := dSn 1 shX12_choose_24
theorem shX12_choose_26 : cX12_choose.data.toList.drop 26 = sxX12_choose_26 := dSn 1 shX12_choose_25
theorem shX12_choose_28 : cX12_choose.data.toList.drop 28 = sxX12_choose_28 := dSn 2 shX12_choose_26
theorem shX12_choose_29 : cX12_choose.data.toList.drop 29 = sxX12_choose_29 := dSn 1 shX12_choose_28
theorem shX12_choose_30 : cX12_choose.data.toList.drop 30 = sxX12_choose_30 := dSn 1 shX12_choose_29
theorem shX12_choose_31 : cX12_choose.data.toList.drop 31 = sxX12_choose_31 := dSn 1 shX12_choose_30
theorem shX12_choose_33 : cX12_choose.data.toList.drop 33 = sxX12_choose_33 := dSn 2 shX12_choose_31
theorem shX12_choose_34 : cX12_choose.data.toList.drop 34 = sxX12_choose_34 := dSn 1 shX12_choose_33
theorem shX12_choose_35 : cX12_choose.data.toList.drop 35 = sxX12_choose_35 := dSn 1 shX12_choose_34
theorem shX12_choose_36 : cX12_choose.data.toList.drop 36 = sxX12_choose_36 := dSn 1 shX12_choose_35
theorem shX12_choose_39 : cX12_choose.data.toList.drop 39 = sxX12_choose_39 := dSn 3 shX12_choose_36
theorem shX12_choose_42 : cX12_choose.data.toList.drop 42 = sxX12_choose_42 := dSn 3 shX12_choose_39
theorem shX12_choose_43 : cX12_choose.data.toList.drop 43 = sxX12_choose_43 := dSn 1 shX12_choose_42
theorem dX12_choose_0 : decode cX12_choose 0 = .ok (.iload_n 1, 1) := oc_27 shX12_choose_0
theorem dX12_choose_1 : decode cX12_choose 1 = .ok (.ifCond .lt 8, 3) := oc_155 shX12_choose_1 sgw_0_8
theorem dX12_choose_4 : decode cX12_choose 4 = .ok (.iload_n 1, 1) := oc_27 shX12_choose_4
theorem dX12_choose_5 : decode cX12_choose 5 = .ok (.iload_n 0, 1) := oc_26 shX12_choose_5
theorem dX12_choose_6 : decode cX12_choose 6 = .ok (.if_icmp .le 5, 3) := oc_164 shX12_choose_6 sgw_0_5
theorem dX12_choose_9 : decode cX12_choose 9 = .ok (.lconst 0, 1) := oc_9 shX12_choose_9
theorem dX12_choose_10 : decode cX12_choose 10 = .ok (.lreturn, 1) := oc_173 shX12_choose_10
theorem dX12_choose_11 : decode cX12_choose 11 = .ok (.lconst 1, 1) := oc_10 shX12_choose_11
theorem dX12_choose_12 : decode cX12_choose 12 = .ok (.lstore_n 2, 1) := oc_65 shX12_choose_12
theorem dX12_choose_13 : decode cX12_choose 13 = .ok (.iconst 1, 1) := oc_4 shX12_choose_13
theorem dX12_choose_14 : decode cX12_choose 14 = .ok (.istore 4, 2) := oc_54 shX12_choose_14
theorem dX12_choose_16 : decode cX12_choose 16 = .ok (.iload 4, 2) := oc_21 shX12_choose_16
theorem dX12_choose_18 : decode cX12_choose 18 = .ok (.iload_n 1, 1) := oc_27 shX12_choose_18
theorem dX12_choose_19 : decode cX12_choose 19 = .ok (.if_icmp .gt 23, 3) := oc_163 shX12_choose_19 sgw_0_23
theorem dX12_choose_22 : decode cX12_choose 22 = .ok (.lload_n 2, 1) := oc_32 shX12_choose_22
theorem dX12_choose_23 : decode cX12_choose 23 = .ok (.iload_n 0, 1) := oc_26 shX12_choose_23
theorem dX12_choose_24 : decode cX12_choose 24 = .ok (.iload_n 1, 1) := oc_27 shX12_choose_24
theorem dX12_choose_25 : decode cX12_choose 25 = .ok (.isub, 1) := oc_100 shX12_choose_25
theorem dX12_choose_26 : decode cX12_choose 26 = .ok (.iload 4, 2) := oc_21 shX12_choose_26
theorem dX12_choose_28 : decode cX12_choose 28 = .ok (.iadd, 1) := oc_96 shX12_choose_28
theorem dX12_choose_29 : decode cX12_choose 29 = .ok (.i2l, 1) := oc_133 shX12_choose_29
theorem dX12_choose_30 : decode cX12_choose 30 = .ok (.lmul, 1) := oc_105 shX12_choose_30
theorem dX12_choose_31 : decode cX12_choose 31 = .ok (.iload 4, 2) := oc_21 shX12_choose_31
theorem dX12_choose_33 : decode cX12_choose 33 = .ok (.i2l, 1) := oc_133 shX12_choose_33
theorem dX12_choose_34 : decode cX12_choose 34 = .ok (.ldiv, 1) := oc_109 shX12_choose_34
theorem dX12_choose_35 : decode cX12_choose 35 = .ok (.lstore_n 2, 1) := oc_65 shX12_choose_35
theorem dX12_choose_36 : decode cX12_choose 36 = .ok (.iinc 4 1, 3) := oc_132 shX12_choose_36 sgb_1
theorem dX12_choose_39 : decode cX12_choose 39 = .ok (.goto (-23), 3) := oc_167 shX12_choose_39 sgw_255_233
theorem dX12_choose_42 : decode cX12_choose 42 = .ok (.lload_n 2, 1) := oc_32 shX12_choose_42
theorem dX12_choose_43 : decode cX12_choose 43 = .ok (.lreturn, 1) := oc_173 shX12_choose_43
noncomputable def sxX12_byLot_114 : List UInt8 := []
noncomputable def sxX12_byLot_113 : List UInt8 := 173 :: sxX12_byLot_114
noncomputable def sxX12_byLot_112 : List UInt8 := 109 :: sxX12_byLot_113
noncomputable def sxX12_byLot_110 : List UInt8 := 22 :: 9 :: sxX12_byLot_112
noncomputable def sxX12_byLot_108 : List UInt8 := 22 :: 7 :: sxX12_byLot_110
noncomputable def sxX12_byLot_105 : List UInt8 := 167 :: 0 :: 8 :: sxX12_byLot_108
noncomputable def sxX12_byLot_104 : List UInt8 := 109 :: sxX12_byLot_105
noncomputable def sxX12_byLot_102 : List UInt8 := 22 :: 9 :: sxX12_byLot_104
noncomputable def sxX12_byLot_100 : List UInt8 := 22 :: 5 :: sxX12_byLot_102
noncomputable def sxX12_byLot_97 : List UInt8 := 154 :: 0 :: 11 :: sxX12_byLot_100
noncomputable def sxX12_byLot_95 : List UInt8 := 21 :: 4 :: sxX12_byLot_97
noncomputable def sxX12_byLot_92 : List UInt8 := 167 :: 255 :: 234 :: sxX12_byLot_95
noncomputable def sxX12_byLot_90 : List UInt8 := 55 :: 11 :: sxX12_byLot_92
noncomputable def sxX12_byLot_88 : List UInt8 := 22 :: 13 :: sxX12_byLot_90
noncomputable def sxX12_byLot_86 : List UInt8 := 55 :: 9 :: sxX12_byLot_88
noncomputable def sxX12_byLot_84 : List UInt8 := 22 :: 11 :: sxX12_byLot_86
noncomputable def sxX12_byLot_82 : List UInt8 := 55 :: 13 :: sxX12_byLot_84
noncomputable def sxX12_byLot_81 : List UInt8 := 113 :: sxX12_byLot_82
noncomputable def sxX12_byLot_79 : List UInt8 := 22 :: 11 :: sxX12_byLot_81
noncomputable def sxX12_byLot_77 : List UInt8 := 22 :: 9 :: sxX12_byLot_79
noncomputable def sxX12_byLot_74 : List UInt8 := 153 :: 0 :: 21 :: sxX12_byLot_77
noncomputable def sxX12_byLot_73 : List UInt8 := 148 :: sxX12_byLot_74
noncomputable def sxX12_byLot_72 : List UInt8 := 9 :: sxX12_byLot_73
noncomputable def sxX12_byLot_70 : List UInt8 := 22 :: 11 :: sxX12_byLot_72
noncomputable def sxX12_byLot_68 : List UInt8 := 55 :: 11 :: sxX12_byLot_70
noncomputable def sxX12_byLot_66 : List UInt8 := 22 :: 7 :: sxX12_byLot_68
noncomputable def sxX12_byLot_64 : List UInt8 := 55 :: 9 :: sxX12_byLot_66
noncomputable def sxX12_byLot_62 : List UInt8 := 22 :: 5 :: sxX12_byLot_64
noncomputable def sxX12_byLot_60 : List UInt8 := 55 :: 7 :: sxX12_byLot_62
noncomputable def sxX12_byLot_57 : List UInt8 := 184 :: 1 :: 88 :: sxX12_byLot_60
noncomputable def sxX12_byLot_56 : List UInt8 := 27 :: sxX12_byLot_57
noncomputable def sxX12_byLot_53 : List UInt8 := 180 :: 0 :: 208 :: sxX12_byLot_56
noncomputable def sxX12_byLot_52 : List UInt8 := 42 :: sxX12_byLot_53
noncomputable def sxX12_byLot_49 : List UInt8 := 167 :: 255 :: 222 :: sxX12_byLot_52
noncomputable def sxX12_byLot_46 : List UInt8 := 132 :: 7 :: 1 :: sxX12_byLot_49
noncomputable def sxX12_byLot_44 : List UInt8 := 55 :: 5 :: sxX12_byLot_46
noncomputable def sxX12_byLot_43 : List UInt8 := 97 :: sxX12_byLot_44
noncomputable def sxX12_byLot_42 : List UInt8 := 105 :: sxX12_byLot_43
noncomputable def sxX12_byLot_39 : List UInt8 := 184 :: 1 :: 88 :: sxX12_byLot_42
noncomputable def sxX12_byLot_38 : List UInt8 := 100 :: sxX12_byLot_39
noncomputable def sxX12_byLot_36 : List UInt8 := 21 :: 7 :: sxX12_byLot_38
noncomputable def sxX12_byLot_35 : List UInt8 := 27 :: sxX12_byLot_36
noncomputable def sxX12_byLot_34 : List UInt8 := 100 :: sxX12_byLot_35
noncomputable def sxX12_byLot_33 : List UInt8 := 28 :: sxX12_byLot_34
noncomputable def sxX12_byLot_30 : List UInt8 := 180 :: 0 :: 208 :: sxX12_byLot_33
noncomputable def sxX12_byLot_29 : List UInt8 := 42 :: sxX12_byLot_30
noncomputable def sxX12_byLot_26 : List UInt8 := 184 :: 1 :: 88 :: sxX12_byLot_29
noncomputable def sxX12_byLot_24 : List UInt8 := 21 :: 7 :: sxX12_byLot_26
noncomputable def sxX12_byLot_23 : List UInt8 := 28 :: sxX12_byLot_24
noncomputable def sxX12_byLot_21 : List UInt8 := 22 :: 5 :: sxX12_byLot_23
noncomputable def sxX12_byLot_18 : List UInt8 := 163 :: 0 :: 34 :: sxX12_byLot_21
noncomputable def sxX12_byLot_17 : List UInt8 := 28 :: sxX12_byLot_18
noncomputable def sxX12_byLot_15 : List UInt8 := 21 :: 7 :: sxX12_byLot_17
noncomputable def sxX12_byLot_13 : List UInt8 := 54 :: 7 :: sxX12_byLot_15
noncomputable def sxX12_byLot_12 : List UInt8 := 29 :: sxX12_byLot_13
noncomputable def sxX12_byLot_10 : List UInt8 := 55 :: 5 :: sxX12_byLot_12
noncomputable def sxX12_byLot_9 : List UInt8 := 9 :: sxX12_byLot_10
noncomputable def sxX12_byLot_8 : List UInt8 := 173 :: sxX12_byLot_9
noncomputable def sxX12_byLot_7 : List UInt8 := 133 :: sxX12_byLot_8
noncomputable def sxX12_byLot_6 : List UInt8 := 29 :: sxX12_byLot_7
noncomputable def sxX12_byLot_3 : List UInt8 := 160 :: 0 :: 6 :: sxX12_byLot_6
noncomputable def sxX12_byLot_2 : List UInt8 := 5 :: sxX12_byLot_3
noncomputable def sxX12_byLot_0 : List UInt8 := 21 :: 4 :: sxX12_byLot_2
theorem shX12_byLot_0 : cX12_byLot.data.toList.drop 0 = sxX12_byLot_0 := rfl
theorem shX12_byLot_2 : cX12_byLot.data.toList.drop 2 = sxX12_byLot_2 := dSn 2 shX12_byLot_0
theorem shX12_byLot_3 : cX12_byLot.data.toList.drop 3 = sxX12_byLot_3 := dSn 1 shX12_byLot_2
theorem shX12_byLot_6 : cX12_byLot.data.toList.drop 6 = sxX12_byLot_6 := dSn 3 shX12_byLot_3
theorem shX12_byLot_7 : cX12_byLot.data.toList.drop 7 = sxX12_byLot_7 := dSn 1 shX12_byLot_6
theorem shX12_byLot_8 : cX12_byLot.data.toList.drop 8 = sxX12_byLot_8 := dSn 1 shX12_byLot_7
theorem shX12_byLot_9 : cX12_byLot.data.toList.drop 9 = sxX12_byLot_9 := dSn 1 shX12_byLot_8
theorem shX12_byLot_10 : cX12_byLot.data.toList.drop 10 = sxX12_byLot_10 := dSn 1 shX12_byLot_9
theorem shX12_byLot_12 : cX12_byLot.data.toList.drop 12 = sxX12_byLot_12 := dSn 2 shX12_byLot_10
theorem shX12_byLot_13 : cX12_byLot.data.toList.drop 13 = sxX12_byLot_13 := dSn 1 shX12_byLot_12
theorem shX12_byLot_15 : cX12_byLot.data.toList.drop 15 = sxX12_byLot_15 := dSn 2 shX12_byLot_13
theorem shX12_byLot_17 : cX12_byLot.data.toList.drop 17 = sxX12_byLot_17 := dSn 2 shX12_byLot_15
theorem shX12_byLot_18 : cX12_byLot.data.toList.drop 18 = sxX12_byLot_18 := dSn 1 shX12_byLot_17
theorem shX12_byLot_21 : cX12_byLot.data.toList.drop 21 = sxX12_byLot_21 := dSn 3 shX12_byLot_18
theorem shX12_byLot_23 : cX12_byLot.data.toList.drop 23 = sxX12_byLot_23 := dSn 2 shX12_byLot_21
theorem shX12_byLot_24 : cX12_byLot.data.toList.drop 24 = sxX12_byLot_24 := dSn 1 shX12_byLot_23
theorem shX12_byLot_26 : cX12_byLot.data.toList.drop 26 = sxX12_byLot_26 := dSn 2 shX12_byLot_24
theorem shX12_byLot_29 : cX12_byLot.data.toList.drop 29 = sxX12_byLot_29 := dSn 3 shX12_byLot_26
theorem shX12_byLot_30 : cX12_byLot.data.toList.drop 30 = sxX12_byLot_30 := dSn 1 shX12_byLot_29
theorem shX12_byLot_33 : cX12_byLot.data.toList.drop 33 = sxX12_byLot_33 := dSn 3 shX12_byLot_30
theorem shX12_byLot_34 : cX12_byLot.data.toList.drop 34 = sxX12_byLot_34 := dSn 1 shX12_byLot_33
theorem shX12_byLot_35 : cX12_byLot.data.toList.drop 35 = sxX12_byLot_35 := dSn 1 shX12_byLot_34
theorem shX12_byLot_36 : cX12_byLot.data.toList.drop 36 = sxX12_byLot_36 := dSn 1 shX12_byLot_35
theorem shX12_byLot_38 : cX12_byLot.data.toList.drop 38 = sxX12_byLot_38 := dSn 2 shX12_byLot_36
theorem shX12_byLot_39 : cX12_byLot.data.toList.drop 39 = sxX12_byLot_39 := dSn 1 shX12_byLot_38
theorem shX12_byLot_42 : cX12_byLot.data.toList.drop 42 = sxX12_byLot_42 := dSn 3 shX12_byLot_39
theorem shX12_byLot_43 : cX12_byLot.data.toList.drop 43 = sxX12_byLot_43 := dSn 1 shX12_byLot_42
theorem shX12_byLot_44 : cX12_byLot.data.toList.drop 44 = sxX12_byLot_44 := dSn 1 shX12_byLot_43
theorem shX12_byLot_46 : cX12_byLot.data.toList.drop 46 = sxX12_byLot_46 := dSn 2 shX12_byLot_44
theorem shX12_byLot_49 : cX12_byLot.data.toList.drop 49 = sxX12_byLot_49 := dSn 3 shX12_byLot_46
theorem shX12_byLot_52 : cX12_byLot.data.toList.drop 52 = sxX12_byLot_52 := dSn 3 shX12_byLot_49
theorem shX12_byLot_53 : cX12_byLot.data.toList.drop 53 = sxX12_byLot_53 := dSn 1 shX12_byLot_52
theorem shX12_byLot_56 : cX12_byLot.data.toList.drop 56 = sxX12_byLot_56 := dSn 3 shX12_byLot_53
theorem shX12_byLot_57 : cX12_byLot.data.toList.drop 57 = sxX12_byLot_57 := dSn 1 shX12_byLot_56
theorem shX12_byLot_60 : cX12_byLot.data.toList.drop 60 = sxX12_byLot_60 := dSn 3 shX12_byLot_57
theorem shX12_byLot_62 : cX12_byLot.data.toList.drop 62 = sxX12_byLot_62 := dSn 2 shX12_byLot_60
theorem shX12_byLot_64 : cX12_byLot.data.toList.drop 64 = sxX12_byLot_64 := dSn 2 shX12_byLot_62
theorem shX12_byLot_66 : cX12_byLot.data.toList.drop 66 = sxX12_byLot_66 := dSn 2 shX12_byLot_64
theorem shX12_byLot_68 : cX12_byLot.data.toList.drop 68 = sxX12_byLot_68 := dSn 2 shX12_byLot_66
theorem shX12_byLot_70 : cX12_byLot.data.toList.drop 70 = sxX12_byLot_70 := dSn 2 shX12_byLot_68
theorem shX12_byLot_72 : cX12_byLot.data.toList.drop 72 = sxX12_byLot_72 := dSn 2 shX12_byLot_70
theorem shX12_byLot_73 : cX12_byLot.data.toList.drop 73 = sxX12_byLot_73 := dSn 1 shX12_byLot_72
theorem shX12_byLot_74 : cX12_byLot.data.toList.drop 74 = sxX12_byLot_74 := dSn 1 shX12_byLot_73
theorem shX12_byLot_77 : cX12_byLot.data.toList.drop 77 = sxX12_byLot_77 := dSn 3 shX12_byLot_74
theorem shX12_byLot_79 : cX12_byLot.data.toList.drop 79 = sxX12_byLot_79 := dSn 2 shX12_byLot_77
theorem shX12_byLot_81 : cX12_byLot.data.toList.drop 81 = sxX12_byLot_81 := dSn 2 shX12_byLot_79
theorem shX12_byLot_82 : cX12_byLot.data.toList.drop 82 = sxX12_byLot_82 := dSn 1 shX12_byLot_81
theorem shX12_byLot_84 : cX12_byLot.data.toList.drop 84 = sxX12_byLot_84 := dSn 2 shX12_byLot_82
theorem shX12_byLot_86 : cX12_byLot.data.toList.drop 86 = sxX12_byLot_86 := dSn 2 shX12_byLot_84
theorem shX12_byLot_88 : cX12_byLot.data.toList.drop 88 = sxX12_byLot_88 := dSn 2 shX12_byLot_86
theorem shX12_byLot_90 : cX12_byLot.data.toList.drop 90 = sxX12_byLot_90 := dSn 2 shX12_byLot_88
theorem shX12_byLot_92 : cX12_byLot.data.toList.drop 92 = sxX12_byLot_92 := dSn 2 shX12_byLot_90
theorem shX12_byLot_95 : cX12_byLot.data.toList.drop 95 = sxX12_byLot_95 := dSn 3 shX12_byLot_92
theorem shX12_byLot_97 : cX12_byLot.data.toList.drop 97 = sxX12_byLot_97 := dSn 2 shX12_byLot_95
theorem shX12_byLot_100 : cX12_byLot.data.toList.drop 100 = sxX12_byLot_100 := dSn 3 shX12_byLot_97
theorem shX12_byLot_102 : cX12_byLot.data.toList.drop 102 = sxX12_byLot_102 := dSn 2 shX12_byLot_100
theorem shX12_byLot_104 : cX12_byLot.data.toList.drop 104 = sxX12_byLot_104 := dSn 2 shX12_byLot_102
theorem shX12_byLot_105 : cX12_byLot.data.toList.drop 105 = sxX12_byLot_105 := dSn 1 shX12_byLot_104
theorem shX12_byLot_108 : cX12_byLot.data.toList.drop 108 = sxX12_byLot_108 := dSn 3 shX12_byLot_105
theorem shX12_byLot_110 : cX12_byLot.data.toList.drop 110 = sxX12_byLot_110 := dSn 2 shX12_byLot_108
theorem shX12_byLot_112 : cX12_byLot.data.toList.drop 112 = sxX12_byLot_112 := dSn 2 shX12_byLot_110
theorem shX12_byLot_113 : cX12_byLot.data.toList.drop 113 = sxX12_byLot_113 := dSn 1 shX12_byLot_112
theorem dX12_byLot_0 : decode cX12_byLot 0 = .ok (.iload 4, 2) := oc_21 shX12_byLot_0
theorem dX12_byLot_2 : decode cX12_byLot 2 = .ok (.iconst 2, 1) := oc_5 shX12_byLot_2
theorem dX12_byLot_3 : decode cX12_byLot 3 = .ok (.if_icmp .ne 6, 3) := oc_160 shX12_byLot_3 sgw_0_6
theorem dX12_byLot_6 : decode cX12_byLot 6 = .ok (.iload_n 3, 1) := oc_29 shX12_byLot_6
theorem dX12_byLot_7 : decode cX12_byLot 7 = .ok (.i2l, 1) := oc_133 shX12_byLot_7
theorem dX12_byLot_8 : decode cX12_byLot 8 = .ok (.lreturn, 1) := oc_173 shX12_byLot_8
theorem dX12_byLot_9 : decode cX12_byLot 9 = .ok (.lconst 0, 1) := oc_9 shX12_byLot_9
theorem dX12_byLot_10 : decode cX12_byLot 10 = .ok (.lstore 5, 2) := oc_55 shX12_byLot_10
theorem dX12_byLot_12 : decode cX12_byLot 12 = .ok (.iload_n 3, 1) := oc_29 shX12_byLot_12
theorem dX12_byLot_13 : decode cX12_byLot 13 = .ok (.istore 7, 2) := oc_54 shX12_byLot_13
theorem dX12_byLot_15 : decode cX12_byLot 15 = .ok (.iload 7, 2) := oc_21 shX12_byLot_15
theorem dX12_byLot_17 : decode cX12_byLot 17 = .ok (.iload_n 2, 1) := oc_28 shX12_byLot_17
theorem dX12_byLot_18 : decode cX12_byLot 18 = .ok (.if_icmp .gt 34, 3) := oc_163 shX12_byLot_18 sgw_0_34
theorem dX12_byLot_21 : decode cX12_byLot 21 = .ok (.lload 5, 2) := oc_22 shX12_byLot_21
theorem dX12_byLot_23 : decode cX12_byLot 23 = .ok (.iload_n 2, 1) := oc_28 shX12_byLot_23
theorem dX12_byLot_24 : decode cX12_byLot 24 = .ok (.iload 7, 2) := oc_21 shX12_byLot_24
theorem dX12_byLot_26 : decode cX12_byLot 26 = .ok (.invokestatic 344, 3) := oc_184 shX12_byLot_26
theorem dX12_byLot_29 : decode cX12_byLot 29 = .ok (.aload_n 0, 1) := oc_42 shX12_byLot_29
theorem dX12_byLot_30 : decode cX12_byLot 30 = .ok (.getfield 208, 3) := oc_180 shX12_byLot_30
theorem dX12_byLot_33 : decode cX12_byLot 33 = .ok (.iload_n 2, 1) := oc_28 shX12_byLot_33
theorem dX12_byLot_34 : decode cX12_byLot 34 = .ok (.isub, 1) := oc_100 shX12_byLot_34
theorem dX12_byLot_35 : decode cX12_byLot 35 = .ok (.iload_n 1, 1) := oc_27 shX12_byLot_35
theorem dX12_byLot_36 : decode cX12_byLot 36 = .ok (.iload 7, 2) := oc_21 shX12_byLot_36
theorem dX12_byLot_38 : decode cX12_byLot 38 = .ok (.isub, 1) := oc_100 shX12_byLot_38
theorem dX12_byLot_39 : decode cX12_byLot 39 = .ok (.invokestatic 344, 3) := oc_184 shX12_byLot_39
theorem dX12_byLot_42 : decode cX12_byLot 42 = .ok (.lmul, 1) := oc_105 shX12_byLot_42
theorem dX12_byLot_43 : decode cX12_byLot 43 = .ok (.ladd, 1) := oc_97 shX12_byLot_43
theorem dX12_byLot_44 : decode cX12_byLot 44 = .ok (.lstore 5, 2) := oc_55 shX12_byLot_44
theorem dX12_byLot_46 : decode cX12_byLot 46 = .ok (.iinc 7 1, 3) := oc_132 shX12_byLot_46 sgb_1
theorem dX12_byLot_49 : decode cX12_byLot 49 = .ok (.goto (-34), 3) := oc_167 shX12_byLot_49 sgw_255_222
theorem dX12_byLot_52 : decode cX12_byLot 52 = .ok (.aload_n 0, 1) := oc_42 shX12_byLot_52
theorem dX12_byLot_53 : decode cX12_byLot 53 = .ok (.getfield 208, 3) := oc_180 shX12_byLot_53
theorem dX12_byLot_56 : decode cX12_byLot 56 = .ok (.iload_n 1, 1) := oc_27 shX12_byLot_56
theorem dX12_byLot_57 : decode cX12_byLot 57 = .ok (.invokestatic 344, 3) := oc_184 shX12_byLot_57
theorem dX12_byLot_60 : decode cX12_byLot 60 = .ok (.lstore 7, 2) := oc_55 shX12_byLot_60
theorem dX12_byLot_62 : decode cX12_byLot 62 = .ok (.lload 5, 2) := oc_22 shX12_byLot_62
theorem dX12_byLot_64 : decode cX12_byLot 64 = .ok (.lstore 9, 2) := oc_55 shX12_byLot_64
theorem dX12_byLot_66 : decode cX12_byLot 66 = .ok (.lload 7, 2) := oc_22 shX12_byLot_66
theorem dX12_byLot_68 : decode cX12_byLot 68 = .ok (.lstore 11, 2) := oc_55 shX12_byLot_68
theorem dX12_byLot_70 : decode cX12_byLot 70 = .ok (.lload 11, 2) := oc_22 shX12_byLot_70
theorem dX12_byLot_72 : decode cX12_byLot 72 = .ok (.lconst 0, 1) := oc_9 shX12_byLot_72
theorem dX12_byLot_73 : decode cX12_byLot 73 = .ok (.lcmp, 1) := oc_148 shX12_byLot_73
theorem dX12_byLot_74 : decode cX12_byLot 74 = .ok (.ifCond .eq 21, 3) := oc_153 shX12_byLot_74 sgw_0_21
theorem dX12_byLot_77 : decode cX12_byLot 77 = .ok (.lload 9, 2) := oc_22 shX12_byLot_77
theorem dX12_byLot_79 : decode cX12_byLot 79 = .ok (.lload 11, 2) := oc_22 shX12_byLot_79
theorem dX12_byLot_81 : decode cX12_byLot 81 = .ok (.lrem, 1) := oc_113 shX12_byLot_81
theorem dX12_byLot_82 : decode cX12_byLot 82 = .ok (.lstore 13, 2) := oc_55 shX12_byLot_82
theorem dX12_byLot_84 : decode cX12_byLot 84 = .ok (.lload 11, 2) := oc_22 shX12_byLot_84
theorem dX12_byLot_86 : decode cX12_byLot 86 = .ok (.lstore 9, 2) := oc_55 shX12_byLot_86
theorem dX12_byLot_88 : decode cX12_byLot 88 = .ok (.lload 13, 2) := oc_22 shX12_byLot_88
theorem dX12_byLot_90 : decode cX12_byLot 90 = .ok (.lstore 11, 2) := oc_55 shX12_byLot_90
theorem dX12_byLot_92 : decode cX12_byLot 92 = .ok (.goto (-22), 3) := oc_167 shX12_byLot_92 sgw_255_234
theorem dX12_byLot_95 : decode cX12_byLot 95 = .ok (.iload 4, 2) := oc_21 shX12_byLot_95
theorem dX12_byLot_97 : decode cX12_byLot 97 = .ok (.ifCond .ne 11, 3) := oc_154 shX12_byLot_97 sgw_0_11
theorem dX12_byLot_100 : decode cX12_byLot 100 = .ok (.lload 5, 2) := oc_22 shX12_byLot_100
theorem dX12_byLot_102 : decode cX12_byLot 102 = .ok (.lload 9, 2) := oc_22 shX12_byLot_102
theorem dX12_byLot_104 : decode cX12_byLot 104 = .ok (.ldiv, 1) := oc_109 shX12_byLot_104
theorem dX12_byLot_105 : decode cX12_byLot 105 = .ok (.goto 8, 3) := oc_167 shX12_byLot_105 sgw_0_8
theorem dX12_byLot_108 : decode cX12_byLot 108 = .ok (.lload 7, 2) := oc_22 shX12_byLot_108
theorem dX12_byLot_110 : decode cX12_byLot 110 = .ok (.lload 9, 2) := oc_22 shX12_byLot_110
theorem dX12_byLot_112 : decode cX12_byLot 112 = .ok (.ldiv, 1) := oc_109 shX12_byLot_112
theorem dX12_byLot_113 : decode cX12_byLot 113 = .ok (.lreturn, 1) := oc_173 shX12_byLot_113
noncomputable def sxX12_lacking_37 : List UInt8 := []
noncomputable def sxX12_lacking_36 : List UInt8 := 172 :: sxX12_lacking_37
noncomputable def sxX12_lacking_35 : List UInt8 := 27 :: sxX12_lacking_36
noncomputable def sxX12_lacking_32 : List UInt8 := 167 :: 255 :: 228 :: sxX12_lacking_35
noncomputable def sxX12_lacking_29 : List UInt8 := 132 :: 2 :: 1 :: sxX12_lacking_32
noncomputable def sxX12_lacking_28 : List UInt8 := 60 :: sxX12_lacking_29
noncomputable def sxX12_lacking_27 : List UInt8 := 96 :: sxX12_lacking_28
noncomputable def sxX12_lacking_26 : List UInt8 := 3 :: sxX12_lacking_27
noncomputable def sxX12_lacking_23 : List UInt8 := 167 :: 0 :: 4 :: sxX12_lacking_26
noncomputable def sxX12_lacking_22 : List UInt8 := 4 :: sxX12_lacking_23
noncomputable def sxX12_lacking_19 : List UInt8 := 158 :: 0 :: 7 :: sxX12_lacking_22
noncomputable def sxX12_lacking_18 : List UInt8 := 46 :: sxX12_lacking_19
noncomputable def sxX12_lacking_17 : List UInt8 := 28 :: sxX12_lacking_18
noncomputable def sxX12_lacking_14 : List UInt8 := 180 :: 0 :: 43 :: sxX12_lacking_17
noncomputable def sxX12_lacking_13 : List UInt8 := 42 :: sxX12_lacking_14
noncomputable def sxX12_lacking_12 : List UInt8 := 27 :: sxX12_lacking_13
noncomputable def sxX12_lacking_9 : List UInt8 := 162 :: 0 :: 26 :: sxX12_lacking_12
noncomputable def sxX12_lacking_6 : List UInt8 := 180 :: 0 :: 208 :: sxX12_lacking_9
noncomputable def sxX12_lacking_5 : List UInt8 := 42 :: sxX12_lacking_6
noncomputable def sxX12_lacking_4 : List UInt8 := 28 :: sxX12_lacking_5
noncomputable def sxX12_lacking_3 : List UInt8 := 61 :: sxX12_lacking_4
noncomputable def sxX12_lacking_2 : List UInt8 := 3 :: sxX12_lacking_3
noncomputable def sxX12_lacking_1 : List UInt8 := 60 :: sxX12_lacking_2
noncomputable def sxX12_lacking_0 : List UInt8 := 3 :: sxX12_lacking_1
theorem shX12_lacking_0 : cX12_lacking.data.toList.drop 0 = sxX12_lacking_0 := rfl
theorem shX12_lacking_1 : cX12_lacking.data.toList.drop 1 = sxX12_lacking_1 := dSn 1 shX12_lacking_0
theorem shX12_lacking_2 : cX12_lacking.data.toList.drop 2 = sxX12_lacking_2 := dSn 1 shX12_lacking_1
theorem shX12_lacking_3 : cX12_lacking.data.toList.drop 3 = sxX12_lacking_3 := dSn 1 shX12_lacking_2
theorem shX12_lacking_4 : cX12_lacking.data.toList.drop 4 = sxX12_lacking_4 := dSn 1 shX12_lacking_3
theorem shX12_lacking_5 : cX12_lacking.data.toList.drop 5 = sxX12_lacking_5 := dSn 1 shX12_lacking_4
theorem shX12_lacking_6 : cX12_lacking.data.toList.drop 6 = sxX12_lacking_6 := dSn 1 shX12_lacking_5
theorem shX12_lacking_9 : cX12_lacking.data.toList.drop 9 = sxX12_lacking_9 := dSn 3 shX12_lacking_6
theorem shX12_lacking_12 : cX12_lacking.data.toList.drop 12 = sxX12_lacking_12 := dSn 3 shX12_lacking_9
theorem shX12_lacking_13 : cX12_lacking.data.toList.drop 13 = sxX12_lacking_13 := dSn 1 shX12_lacking_12
theorem shX12_lacking_14 : cX12_lacking.data.toList.drop 14 = sxX12_lacking_14 := dSn 1 shX12_lacking_13
theorem shX12_lacking_17 : cX12_lacking.data.toList.drop 17 = sxX12_lacking_17 := dSn 3 shX12_lacking_14
theorem shX12_lacking_18 : cX12_lacking.data.toList.drop 18 = sxX12_lacking_18 := dSn 1 shX12_lacking_17
theorem shX12_lacking_19 : cX12_lacking.data.toList.drop 19 = sxX12_lacking_19 := dSn 1 shX12_lacking_18
theorem shX12_lacking_22 : cX12_lacking.data.toList.drop 22 = sxX12_lacking_22 := dSn 3 shX12_lacking_19
theorem shX12_lacking_23 : cX12_lacking.data.toList.drop 23 = sxX12_lacking_23 := dSn 1 shX12_lacking_22
theorem shX12_lacking_26 : cX12_lacking.data.toList.drop 26 = sxX12_lacking_26 := dSn 3 shX12_lacking_23
theorem shX12_lacking_27 : cX12_lacking.data.toList.drop 27 = sxX12_lacking_27 := dSn 1 shX12_lacking_26
theorem shX12_lacking_28 : cX12_lacking.data.toList.drop 28 = sxX12_lacking_28 := dSn 1 shX12_lacking_27
theorem shX12_lacking_29 : cX12_lacking.data.toList.drop 29 = sxX12_lacking_29 := dSn 1 shX12_lacking_28
theorem shX12_lacking_32 : cX12_lacking.data.toList.drop 32 = sxX12_lacking_32 := dSn 3 shX12_lacking_29
theorem shX12_lacking_35 : cX12_lacking.data.toList.drop 35 = sxX12_lacking_35 := dSn 3 shX12_lacking_32
theorem shX12_lacking_36 : cX12_lacking.data.toList.drop 36 = sxX12_lacking_36 := dSn 1 shX12_lacking_35
theorem dX12_lacking_0 : decode cX12_lacking 0 = .ok (.iconst 0, 1) := oc_3 shX12_lacking_0
theorem dX12_lacking_1 : decode cX12_lacking 1 = .ok (.istore_n 1, 1) := oc_60 shX12_lacking_1
theorem dX12_lacking_2 : decode cX12_lacking 2 = .ok (.iconst 0, 1) := oc_3 shX12_lacking_2
theorem dX12_lacking_3 : decode cX12_lacking 3 = .ok (.istore_n 2, 1) := oc_61 shX12_lacking_3
theorem dX12_lacking_4 : decode cX12_lacking 4 = .ok (.iload_n 2, 1) := oc_28 shX12_lacking_4
theorem dX12_lacking_5 : decode cX12_lacking 5 = .ok (.aload_n 0, 1) := oc_42 shX12_lacking_5
theorem dX12_lacking_6 : decode cX12_lacking 6 = .ok (.getfield 208, 3) := oc_180 shX12_lacking_6
theorem dX12_lacking_9 : decode cX12_lacking 9 = .ok (.if_icmp .ge 26, 3) := oc_162 shX12_lacking_9 sgw_0_26
theorem dX12_lacking_12 : decode cX12_lacking 12 = .ok (.iload_n 1, 1) := oc_27 shX12_lacking_12
theorem dX12_lacking_13 : decode cX12_lacking 13 = .ok (.aload_n 0, 1) := oc_42 shX12_lacking_13
theorem dX12_lacking_14 : decode cX12_lacking 14 = .ok (.getfield 43, 3) := oc_180 shX12_lacking_14
theorem dX12_lacking_17 : decode cX12_lacking 17 = .ok (.iload_n 2, 1) := oc_28 shX12_lacking_17
theorem dX12_lacking_18 : decode cX12_lacking 18 = .ok (.iaload, 1) := oc_46 shX12_lacking_18
theorem dX12_lacking_19 : decode cX12_lacking 19 = .ok (.ifCond .le 7, 3) := oc_158 shX12_lacking_19 sgw_0_7
theorem dX12_lacking_22 : decode cX12_lacking 22 = .ok (.iconst 1, 1) := oc_4 shX12_lacking_22
theorem dX12_lacking_23 : decode cX12_lacking 23 = .ok (.goto 4, 3) := oc_167 shX12_lacking_23 sgw_0_4
theorem dX12_lacking_26 : decode cX12_lacking 26 = .ok (.iconst 0, 1) := oc_3 shX12_lacking_26
theorem dX12_lacking_27 : decode cX12_lacking 27 = .ok (.iadd, 1) := oc_96 shX12_lacking_27
theorem dX12_lacking_28 : decode cX12_lacking 28 = .ok (.istore_n 1, 1) := oc_60 shX12_lacking_28
theorem dX12_lacking_29 : decode cX12_lacking 29 = .ok (.iinc 2 1, 3) := oc_132 shX12_lacking_29 sgb_1
theorem dX12_lacking_32 : decode cX12_lacking 32 = .ok (.goto (-28), 3) := oc_167 shX12_lacking_32 sgw_255_228
theorem dX12_lacking_35 : decode cX12_lacking 35 = .ok (.iload_n 1, 1) := oc_27 shX12_lacking_35
theorem dX12_lacking_36 : decode cX12_lacking 36 = .ok (.ireturn, 1) := oc_172 shX12_lacking_36
noncomputable def sxX12_beyond_100 : List UInt8 := []
noncomputable def sxX12_beyond_99 : List UInt8 := 173 :: sxX12_beyond_100
noncomputable def sxX12_beyond_96 : List UInt8 := 182 :: 1 :: 97 :: sxX12_beyond_99
noncomputable def sxX12_beyond_95 : List UInt8 := 28 :: sxX12_beyond_96
noncomputable def sxX12_beyond_93 : List UInt8 := 21 :: 4 :: sxX12_beyond_95
noncomputable def sxX12_beyond_92 : List UInt8 := 29 :: sxX12_beyond_93
noncomputable def sxX12_beyond_89 : List UInt8 := 182 :: 1 :: 94 :: sxX12_beyond_92
noncomputable def sxX12_beyond_88 : List UInt8 := 42 :: sxX12_beyond_89
noncomputable def sxX12_beyond_87 : List UInt8 := 42 :: sxX12_beyond_88
noncomputable def sxX12_beyond_84 : List UInt8 := 167 :: 255 :: 203 :: sxX12_beyond_87
noncomputable def sxX12_beyond_81 : List UInt8 := 132 :: 5 :: 1 :: sxX12_beyond_84
noncomputable def sxX12_beyond_79 : List UInt8 := 54 :: 4 :: sxX12_beyond_81
noncomputable def sxX12_beyond_78 : List UInt8 := 96 :: sxX12_beyond_79
noncomputable def sxX12_beyond_77 : List UInt8 := 3 :: sxX12_beyond_78
noncomputable def sxX12_beyond_74 : List UInt8 := 167 :: 0 :: 4 :: sxX12_beyond_77
noncomputable def sxX12_beyond_73 : List UInt8 := 4 :: sxX12_beyond_74
noncomputable def sxX12_beyond_70 : List UInt8 := 158 :: 0 :: 7 :: sxX12_beyond_73
noncomputable def sxX12_beyond_69 : List UInt8 := 46 :: sxX12_beyond_70
noncomputable def sxX12_beyond_67 : List UInt8 := 21 :: 5 :: sxX12_beyond_69
noncomputable def sxX12_beyond_64 : List UInt8 := 180 :: 0 :: 43 :: sxX12_beyond_67
noncomputable def sxX12_beyond_63 : List UInt8 := 42 :: sxX12_beyond_64
noncomputable def sxX12_beyond_61 : List UInt8 := 21 :: 4 :: sxX12_beyond_63
noncomputable def sxX12_beyond_60 : List UInt8 := 62 :: sxX12_beyond_61
noncomputable def sxX12_beyond_59 : List UInt8 := 96 :: sxX12_beyond_60
noncomputable def sxX12_beyond_58 : List UInt8 := 4 :: sxX12_beyond_59
noncomputable def sxX12_beyond_57 : List UInt8 := 29 :: sxX12_beyond_58
noncomputable def sxX12_beyond_54 : List UInt8 := 167 :: 0 :: 27 :: sxX12_beyond_57
noncomputable def sxX12_beyond_51 : List UInt8 := 159 :: 0 :: 6 :: sxX12_beyond_54
noncomputable def sxX12_beyond_50 : List UInt8 := 27 :: sxX12_beyond_51
noncomputable def sxX12_beyond_49 : List UInt8 := 112 :: sxX12_beyond_50
noncomputable def sxX12_beyond_47 : List UInt8 := 16 :: 7 :: sxX12_beyond_49
noncomputable def sxX12_beyond_46 : List UInt8 := 46 :: sxX12_beyond_47
noncomputable def sxX12_beyond_44 : List UInt8 := 21 :: 5 :: sxX12_beyond_46
noncomputable def sxX12_beyond_41 : List UInt8 := 180 :: 0 :: 28 :: sxX12_beyond_44
noncomputable def sxX12_beyond_40 : List UInt8 := 42 :: sxX12_beyond_41
noncomputable def sxX12_beyond_37 : List UInt8 := 162 :: 0 :: 50 :: sxX12_beyond_40
noncomputable def sxX12_beyond_34 : List UInt8 := 180 :: 0 :: 208 :: sxX12_beyond_37
noncomputable def sxX12_beyond_33 : List UInt8 := 42 :: sxX12_beyond_34
noncomputable def sxX12_beyond_31 : List UInt8 := 21 :: 5 :: sxX12_beyond_33
noncomputable def sxX12_beyond_29 : List UInt8 := 54 :: 5 :: sxX12_beyond_31
noncomputable def sxX12_beyond_28 : List UInt8 := 3 :: sxX12_beyond_29
noncomputable def sxX12_beyond_26 : List UInt8 := 54 :: 4 :: sxX12_beyond_28
noncomputable def sxX12_beyond_25 : List UInt8 := 3 :: sxX12_beyond_26
noncomputable def sxX12_beyond_24 : List UInt8 := 62 :: sxX12_beyond_25
noncomputable def sxX12_beyond_23 : List UInt8 := 3 :: sxX12_beyond_24
noncomputable def sxX12_beyond_22 : List UInt8 := 173 :: sxX12_beyond_23
noncomputable def sxX12_beyond_19 : List UInt8 := 20 :: 1 :: 92 :: sxX12_beyond_22
noncomputable def sxX12_beyond_16 : List UInt8 := 154 :: 0 :: 7 :: sxX12_beyond_19
noncomputable def sxX12_beyond_13 : List UInt8 := 184 :: 0 :: 214 :: sxX12_beyond_16
noncomputable def sxX12_beyond_12 : List UInt8 := 5 :: sxX12_beyond_13
noncomputable def sxX12_beyond_11 : List UInt8 := 3 :: sxX12_beyond_12
noncomputable def sxX12_beyond_10 : List UInt8 := 28 :: sxX12_beyond_11
noncomputable def sxX12_beyond_7 : List UInt8 := 153 :: 0 :: 12 :: sxX12_beyond_10
noncomputable def sxX12_beyond_4 : List UInt8 := 184 :: 0 :: 214 :: sxX12_beyond_7
noncomputable def sxX12_beyond_2 : List UInt8 := 16 :: 6 :: sxX12_beyond_4
noncomputable def sxX12_beyond_1 : List UInt8 := 3 :: sxX12_beyond_2
noncomputable def sxX12_beyond_0 : List UInt8 := 27 :: sxX12_beyond_1
theorem shX12_beyond_0 : cX12_beyond.data.toList.drop 0 = sxX12_beyond_0 := rfl
theorem shX12_beyond_1 : cX12_beyond.data.toList.drop 1 = sxX12_beyond_1 := dSn 1 shX12_beyond_0
theorem shX12_beyond_2 : cX12_beyond.data.toList.drop 2 = sxX12_beyond_2 := dSn 1 shX12_beyond_1
theorem shX12_beyond_4 : cX12_beyond.data.toList.drop 4 = sxX12_beyond_4 := dSn 2 shX12_beyond_2
theorem shX12_beyond_7 : cX12_beyond.data.toList.drop 7 = sxX12_beyond_7 := dSn 3 shX12_beyond_4
theorem shX12_beyond_10 : cX12_beyond.data.toList.drop 10 = sxX12_beyond_10 := dSn 3 shX12_beyond_7
theorem shX12_beyond_11 : cX12_beyond.data.toList.drop 11 = sxX12_beyond_11 := dSn 1 shX12_beyond_10
theorem shX12_beyond_12 : cX12_beyond.data.toList.drop 12 = sxX12_beyond_12 := dSn 1 shX12_beyond_11
theorem shX12_beyond_13 : cX12_beyond.data.toList.drop 13 = sxX12_beyond_13 := dSn 1 shX12_beyond_12
theorem shX12_beyond_16 : cX12_beyond.data.toList.drop 16 = sxX12_beyond_16 := dSn 3 shX12_beyond_13
theorem shX12_beyond_19 : cX12_beyond.data.toList.drop 19 = sxX12_beyond_19 := dSn 3 shX12_beyond_16
theorem shX12_beyond_22 : cX12_beyond.data.toList.drop 22 = sxX12_beyond_22 := dSn 3 shX12_beyond_19
theorem shX12_beyond_23 : cX12_beyond.data.toList.drop 23 = sxX12_beyond_23 := dSn 1 shX12_beyond_22
theorem shX12_beyond_24 : cX12_beyond.data.toList.drop 24 = sxX12_beyond_24 := dSn 1 shX12_beyond_23
theorem shX12_beyond_25 : cX12_beyond.data.toList.drop 25 = sxX12_beyond_25 := dSn 1 shX12_beyond_24
theorem shX12_beyond_26 : cX12_beyond.data.toList.drop 26 = sxX12_beyond_26 := dSn 1 shX12_beyond_25
theorem shX12_beyond_28 : cX12_beyond.data.toList.drop 28 = sxX12_beyond_28 := dSn 2 shX12_beyond_26
theorem shX12_beyond_29 : cX12_beyond.data.toList.drop 29 = sxX12_beyond_29 := dSn 1 shX12_beyond_28
theorem shX12_beyond_31 : cX12_beyond.data.toList.drop 31 = sxX12_beyond_31 := dSn 2 shX12_beyond_29
theorem shX12_beyond_33 : cX12_beyond.data.toList.drop 33 = sxX12_beyond_33 := dSn 2 shX12_beyond_31
theorem shX12_beyond_34 : cX12_beyond.data.toList.drop 34 = sxX12_beyond_34 := dSn 1 shX12_beyond_33
theorem shX12_beyond_37 : cX12_beyond.data.toList.drop 37 = sxX12_beyond_37 := dSn 3 shX12_beyond_34
theorem shX12_beyond_40 : cX12_beyond.data.toList.drop 40 = sxX12_beyond_40 := dSn 3 shX12_beyond_37
theorem shX12_beyond_41 : cX12_beyond.data.toList.drop 41 = sxX12_beyond_41 := dSn 1 shX12_beyond_40
theorem shX12_beyond_44 : cX12_beyond.data.toList.drop 44 = sxX12_beyond_44 := dSn 3 shX12_beyond_41
theorem shX12_beyond_46 : cX12_beyond.data.toList.drop 46 = sxX12_beyond_46 := dSn 2 shX12_beyond_44
theorem shX12_beyond_47 : cX12_beyond.data.toList.drop 47 = sxX12_beyond_47 := dSn 1 shX12_beyond_46
theorem shX12_beyond_49 : cX12_beyond.data.toList.drop 49 = sxX12_beyond_49 := dSn 2 shX12_beyond_47
theorem shX12_beyond_50 : cX12_beyond.data.toList.drop 50 = sxX12_beyond_50 := dSn 1 shX12_beyond_49
theorem shX12_beyond_51 : cX12_beyond.data.toList.drop 51 = sxX12_beyond_51 := dSn 1 shX12_beyond_50
theorem shX12_beyond_54 : cX12_beyond.data.toList.drop 54 = sxX12_beyond_54 := dSn 3 shX12_beyond_51
theorem shX12_beyond_57 : cX12_beyond.data.toList.drop 57 = sxX12_beyond_57 := dSn 3 shX12_beyond_54
theorem shX12_beyond_58 : cX12_beyond.data.toList.drop 58 = sxX12_beyond_58 := dSn 1 shX12_beyond_57
theorem shX12_beyond_59 : cX12_beyond.data.toList.drop 59 = sxX12_beyond_59 := dSn 1 shX12_beyond_58
theorem shX12_beyond_60 : cX12_beyond.data.toList.drop 60 = sxX12_beyond_60 := dSn 1 shX12_beyond_59
theorem shX12_beyond_61 : cX12_beyond.data.toList.drop 61 = sxX12_beyond_61 := dSn 1 shX12_beyond_60
theorem shX12_beyond_63 : cX12_beyond.data.toList.drop 63 = sxX12_beyond_63 := dSn 2 shX12_beyond_61
theorem shX12_beyond_64 : cX12_beyond.data.toList.drop 64 = sxX12_beyond_64 := dSn 1 shX12_beyond_63
theorem shX12_beyond_67 : cX12_beyond.data.toList.drop 67 = sxX12_beyond_67 := dSn 3 shX12_beyond_64
theorem shX12_beyond_69 : cX12_beyond.data.toList.drop 69 = sxX12_beyond_69 := dSn 2 shX12_beyond_67
theorem shX12_beyond_70 : cX12_beyond.data.toList.drop 70 = sxX12_beyond_70 := dSn 1 shX12_beyond_69
theorem shX12_beyond_73 : cX12_beyond.data.toList.drop 73 = sxX12_beyond_73 := dSn 3 shX12_beyond_70
theorem shX12_beyond_74 : cX12_beyond.data.toList.drop 74 = sxX12_beyond_74 := dSn 1 shX12_beyond_73
theorem shX12_beyond_77 : cX12_beyond.data.toList.drop 77 = sxX12_beyond_77 := dSn 3 shX12_beyond_74
theorem shX12_beyond_78 : cX12_beyond.data.toList.drop 78 = sxX12_beyond_78 := dSn 1 shX12_beyond_77
theorem shX12_beyond_79 : cX12_beyond.data.toList.drop 79 = sxX12_beyond_79 := dSn 1 shX12_beyond_78
theorem shX12_beyond_81 : cX12_beyond.data.toList.drop 81 = sxX12_beyond_81 := dSn 2 shX12_beyond_79
theorem shX12_beyond_84 : cX12_beyond.data.toList.drop 84 = sxX12_beyond_84 := dSn 3 shX12_beyond_81
theorem shX12_beyond_87 : cX12_beyond.data.toList.drop 87 = sxX12_beyond_87 := dSn 3 shX12_beyond_84
theorem shX12_beyond_88 : cX12_beyond.data.toList.drop 88 = sxX12_beyond_88 := dSn 1 shX12_beyond_87
theorem shX12_beyond_89 : cX12_beyond.data.toList.drop 89 = sxX12_beyond_89 := dSn 1 shX12_beyond_88
theorem shX12_beyond_92 : cX12_beyond.data.toList.drop 92 = sxX12_beyond_92 := dSn 3 shX12_beyond_89
theorem shX12_beyond_93 : cX12_beyond.data.toList.drop 93 = sxX12_beyond_93 := dSn 1 shX12_beyond_92
theorem shX12_beyond_95 : cX12_beyond.data.toList.drop 95 = sxX12_beyond_95 := dSn 2 shX12_beyond_93
theorem shX12_beyond_96 : cX12_beyond.data.toList.drop 96 = sxX12_beyond_96 := dSn 1 shX12_beyond_95
theorem shX12_beyond_99 : cX12_beyond.data.toList.drop 99 = sxX12_beyond_99 := dSn 3 shX12_beyond_96
theorem dX12_beyond_0 : decode cX12_beyond 0 = .ok (.iload_n 1, 1) := oc_27 shX12_beyond_0
theorem dX12_beyond_1 : decode cX12_beyond 1 = .ok (.iconst 0, 1) := oc_3 shX12_beyond_1
theorem dX12_beyond_2 : decode cX12_beyond 2 = .ok (.bipush 6, 2) := oc_16 shX12_beyond_2 sgb_6
theorem dX12_beyond_4 : decode cX12_beyond 4 = .ok (.invokestatic 214, 3) := oc_184 shX12_beyond_4
theorem dX12_beyond_7 : decode cX12_beyond 7 = .ok (.ifCond .eq 12, 3) := oc_153 shX12_beyond_7 sgw_0_12
theorem dX12_beyond_10 : decode cX12_beyond 10 = .ok (.iload_n 2, 1) := oc_28 shX12_beyond_10
theorem dX12_beyond_11 : decode cX12_beyond 11 = .ok (.iconst 0, 1) := oc_3 shX12_beyond_11
theorem dX12_beyond_12 : decode cX12_beyond 12 = .ok (.iconst 2, 1) := oc_5 shX12_beyond_12
theorem dX12_beyond_13 : decode cX12_beyond 13 = .ok (.invokestatic 214, 3) := oc_184 shX12_beyond_13
theorem dX12_beyond_16 : decode cX12_beyond 16 = .ok (.ifCond .ne 7, 3) := oc_154 shX12_beyond_16 sgw_0_7
theorem dX12_beyond_19 : decode cX12_beyond 19 = .ok (.ldc2_w 348, 3) := oc_20 shX12_beyond_19
theorem dX12_beyond_22 : decode cX12_beyond 22 = .ok (.lreturn, 1) := oc_173 shX12_beyond_22
theorem dX12_beyond_23 : decode cX12_beyond 23 = .ok (.iconst 0, 1) := oc_3 shX12_beyond_23
theorem dX12_beyond_24 : decode cX12_beyond 24 = .ok (.istore_n 3, 1) := oc_62 shX12_beyond_24
theorem dX12_beyond_25 : decode cX12_beyond 25 = .ok (.iconst 0, 1) := oc_3 shX12_beyond_25
theorem dX12_beyond_26 : decode cX12_beyond 26 = .ok (.istore 4, 2) := oc_54 shX12_beyond_26
theorem dX12_beyond_28 : decode cX12_beyond 28 = .ok (.iconst 0, 1) := oc_3 shX12_beyond_28
theorem dX12_beyond_29 : decode cX12_beyond 29 = .ok (.istore 5, 2) := oc_54 shX12_beyond_29
theorem dX12_beyond_31 : decode cX12_beyond 31 = .ok (.iload 5, 2) := oc_21 shX12_beyond_31
theorem dX12_beyond_33 : decode cX12_beyond 33 = .ok (.aload_n 0, 1) := oc_42 shX12_beyond_33
theorem dX12_beyond_34 : decode cX12_beyond 34 = .ok (.getfield 208, 3) := oc_180 shX12_beyond_34
theorem dX12_beyond_37 : decode cX12_beyond 37 = .ok (.if_icmp .ge 50, 3) := oc_162 shX12_beyond_37 sgw_0_50
theorem dX12_beyond_40 : decode cX12_beyond 40 = .ok (.aload_n 0, 1) := oc_42 shX12_beyond_40
theorem dX12_beyond_41 : decode cX12_beyond 41 = .ok (.getfield 28, 3) := oc_180 shX12_beyond_41
theorem dX12_beyond_44 : decode cX12_beyond 44 = .ok (.iload 5, 2) := oc_21 shX12_beyond_44
theorem dX12_beyond_46 : decode cX12_beyond 46 = .ok (.iaload, 1) := oc_46 shX12_beyond_46
theorem dX12_beyond_47 : decode cX12_beyond 47 = .ok (.bipush 7, 2) := oc_16 shX12_beyond_47 sgb_7
theorem dX12_beyond_49 : decode cX12_beyond 49 = .ok (.irem, 1) := oc_112 shX12_beyond_49
theorem dX12_beyond_50 : decode cX12_beyond 50 = .ok (.iload_n 1, 1) := oc_27 shX12_beyond_50
theorem dX12_beyond_51 : decode cX12_beyond 51 = .ok (.if_icmp .eq 6, 3) := oc_159 shX12_beyond_51 sgw_0_6
theorem dX12_beyond_54 : decode cX12_beyond 54 = .ok (.goto 27, 3) := oc_167 shX12_beyond_54 sgw_0_27
theorem dX12_beyond_57 : decode cX12_beyond 57 = .ok (.iload_n 3, 1) := oc_29 shX12_beyond_57
theorem dX12_beyond_58 : decode cX12_beyond 58 = .ok (.iconst 1, 1) := oc_4 shX12_beyond_58
theorem dX12_beyond_59 : decode cX12_beyond 59 = .ok (.iadd, 1) := oc_96 shX12_beyond_59
theorem dX12_beyond_60 : decode cX12_beyond 60 = .ok (.istore_n 3, 1) := oc_62 shX12_beyond_60
theorem dX12_beyond_61 : decode cX12_beyond 61 = .ok (.iload 4, 2) := oc_21 shX12_beyond_61
theorem dX12_beyond_63 : decode cX12_beyond 63 = .ok (.aload_n 0, 1) := oc_42 shX12_beyond_63
theorem dX12_beyond_64 : decode cX12_beyond 64 = .ok (.getfield 43, 3) := oc_180 shX12_beyond_64
theorem dX12_beyond_67 : decode cX12_beyond 67 = .ok (.iload 5, 2) := oc_21 shX12_beyond_67
theorem dX12_beyond_69 : decode cX12_beyond 69 = .ok (.iaload, 1) := oc_46 shX12_beyond_69
theorem dX12_beyond_70 : decode cX12_beyond 70 = .ok (.ifCond .le 7, 3) := oc_158 shX12_beyond_70 sgw_0_7
theorem dX12_beyond_73 : decode cX12_beyond 73 = .ok (.iconst 1, 1) := oc_4 shX12_beyond_73
theorem dX12_beyond_74 : decode cX12_beyond 74 = .ok (.goto 4, 3) := oc_167 shX12_beyond_74 sgw_0_4
theorem dX12_beyond_77 : decode cX12_beyond 77 = .ok (.iconst 0, 1) := oc_3 shX12_beyond_77
theorem dX12_beyond_78 : decode cX12_beyond 78 = .ok (.iadd, 1) := oc_96 shX12_beyond_78
theorem dX12_beyond_79 : decode cX12_beyond 79 = .ok (.istore 4, 2) := oc_54 shX12_beyond_79
theorem dX12_beyond_81 : decode cX12_beyond 81 = .ok (.iinc 5 1, 3) := oc_132 shX12_beyond_81 sgb_1
theorem dX12_beyond_84 : decode cX12_beyond 84 = .ok (.goto (-53), 3) := oc_167 shX12_beyond_84 sgw_255_203
theorem dX12_beyond_87 : decode cX12_beyond 87 = .ok (.aload_n 0, 1) := oc_42 shX12_beyond_87
theorem dX12_beyond_88 : decode cX12_beyond 88 = .ok (.aload_n 0, 1) := oc_42 shX12_beyond_88
theorem dX12_beyond_89 : decode cX12_beyond 89 = .ok (.invokevirtual 350, 3) := oc_182 shX12_beyond_89
theorem dX12_beyond_92 : decode cX12_beyond 92 = .ok (.iload_n 3, 1) := oc_29 shX12_beyond_92
theorem dX12_beyond_93 : decode cX12_beyond 93 = .ok (.iload 4, 2) := oc_21 shX12_beyond_93
theorem dX12_beyond_95 : decode cX12_beyond 95 = .ok (.iload_n 2, 1) := oc_28 shX12_beyond_95
theorem dX12_beyond_96 : decode cX12_beyond 96 = .ok (.invokevirtual 353, 3) := oc_182 shX12_beyond_96
theorem dX12_beyond_99 : decode cX12_beyond 99 = .ok (.lreturn, 1) := oc_173 shX12_beyond_99
noncomputable def sxX12_street_29 : List UInt8 := []
noncomputable def sxX12_street_28 : List UInt8 := 172 :: sxX12_street_29
noncomputable def sxX12_street_27 : List UInt8 := 4 :: sxX12_street_28
noncomputable def sxX12_street_26 : List UInt8 := 79 :: sxX12_street_27
noncomputable def sxX12_street_25 : List UInt8 := 28 :: sxX12_street_26
noncomputable def sxX12_street_24 : List UInt8 := 27 :: sxX12_street_25
noncomputable def sxX12_street_21 : List UInt8 := 180 :: 0 :: 95 :: sxX12_street_24
noncomputable def sxX12_street_20 : List UInt8 := 42 :: sxX12_street_21
noncomputable def sxX12_street_19 : List UInt8 := 172 :: sxX12_street_20
noncomputable def sxX12_street_18 : List UInt8 := 3 :: sxX12_street_19
noncomputable def sxX12_street_15 : List UInt8 := 154 :: 0 :: 5 :: sxX12_street_18
noncomputable def sxX12_street_12 : List UInt8 := 184 :: 0 :: 214 :: sxX12_street_15
noncomputable def sxX12_street_10 : List UInt8 := 16 :: 9 :: sxX12_street_12
noncomputable def sxX12_street_9 : List UInt8 := 3 :: sxX12_street_10
noncomputable def sxX12_street_8 : List UInt8 := 28 :: sxX12_street_9
noncomputable def sxX12_street_5 : List UInt8 := 153 :: 0 :: 13 :: sxX12_street_8
noncomputable def sxX12_street_2 : List UInt8 := 182 :: 0 :: 218 :: sxX12_street_5
noncomputable def sxX12_street_1 : List UInt8 := 27 :: sxX12_street_2
noncomputable def sxX12_street_0 : List UInt8 := 42 :: sxX12_street_1
theorem shX12_street_0 : cX12_street.data.toList.drop 0 = sxX12_street_0 := rfl
theorem shX12_street_1 : cX12_street.data.toList.drop 1 = sxX12_street_1 := dSn 1 shX12_street_0
theorem shX12_street_2 : cX12_street.data.toList.drop 2 = sxX12_street_2 := dSn 1 shX12_street_1
theorem shX12_street_5 : cX12_street.data.toList.drop 5 = sxX12_street_5 := dSn 3 shX12_street_2
theorem shX12_street_8 : cX12_street.data.toList.drop 8 = sxX12_street_8 := dSn 3 shX12_street_5
theorem shX12_street_9 : cX12_street.data.toList.drop 9 = sxX12_street_9 := dSn 1 shX12_street_8
theorem shX12_street_10 : cX12_street.data.toList.drop 10 = sxX12_street_10 := dSn 1 shX12_street_9
theorem shX12_street_12 : cX12_street.data.toList.drop 12 = sxX12_street_12 := dSn 2 shX12_street_10
theorem shX12_street_15 : cX12_street.data.toList.drop 15 = sxX12_street_15 := dSn 3 shX12_street_12
theorem shX12_street_18 : cX12_street.data.toList.drop 18 = sxX12_street_18 := dSn 3 shX12_street_15
theorem shX12_street_19 : cX12_street.data.toList.drop 19 = sxX12_street_19 := dSn 1 shX12_street_18
theorem shX12_street_20 : cX12_street.data.toList.drop 20 = sxX12_street_20 := dSn 1 shX12_street_19
theorem shX12_street_21 : cX12_street.data.toList.drop 21 = sxX12_street_21 := dSn 1 shX12_street_20
theorem shX12_street_24 : cX12_street.data.toList.drop 24 = sxX12_street_24 := dSn 3 shX12_street_21
theorem shX12_street_25 : cX12_street.data.toList.drop 25 = sxX12_street_25 := dSn 1 shX12_street_24
theorem shX12_street_26 : cX12_street.data.toList.drop 26 = sxX12_street_26 := dSn 1 shX12_street_25
theorem shX12_street_27 : cX12_street.data.toList.drop 27 = sxX12_street_27 := dSn 1 shX12_street_26
theorem shX12_street_28 : cX12_street.data.toList.drop 28 = sxX12_street_28 := dSn 1 shX12_street_27
theorem dX12_street_0 : decode cX12_street 0 = .ok (.aload_n 0, 1) := oc_42 shX12_street_0
theorem dX12_street_1 : decode cX12_street 1 = .ok (.iload_n 1, 1) := oc_27 shX12_street_1
theorem dX12_street_2 : decode cX12_street 2 = .ok (.invokevirtual 218, 3) := oc_182 shX12_street_2
theorem dX12_street_5 : decode cX12_street 5 = .ok (.ifCond .eq 13, 3) := oc_153 shX12_street_5 sgw_0_13
theorem dX12_street_8 : decode cX12_street 8 = .ok (.iload_n 2, 1) := oc_28 shX12_street_8
theorem dX12_street_9 : decode cX12_street 9 = .ok (.iconst 0, 1) := oc_3 shX12_street_9
theorem dX12_street_10 : decode cX12_street 10 = .ok (.bipush 9, 2) := oc_16 shX12_street_10 sgb_9
theorem dX12_street_12 : decode cX12_street 12 = .ok (.invokestatic 214, 3) := oc_184 shX12_street_12
theorem dX12_street_15 : decode cX12_street 15 = .ok (.ifCond .ne 5, 3) := oc_154 shX12_street_15 sgw_0_5
theorem dX12_street_18 : decode cX12_street 18 = .ok (.iconst 0, 1) := oc_3 shX12_street_18
theorem dX12_street_19 : decode cX12_street 19 = .ok (.ireturn, 1) := oc_172 shX12_street_19
theorem dX12_street_20 : decode cX12_street 20 = .ok (.aload_n 0, 1) := oc_42 shX12_street_20
theorem dX12_street_21 : decode cX12_street 21 = .ok (.getfield 95, 3) := oc_180 shX12_street_21
theorem dX12_street_24 : decode cX12_street 24 = .ok (.iload_n 1, 1) := oc_27 shX12_street_24
theorem dX12_street_25 : decode cX12_street 25 = .ok (.iload_n 2, 1) := oc_28 shX12_street_25
theorem dX12_street_26 : decode cX12_street 26 = .ok (.iastore, 1) := oc_79 shX12_street_26
theorem dX12_street_27 : decode cX12_street 27 = .ok (.iconst 1, 1) := oc_4 shX12_street_27
theorem dX12_street_28 : decode cX12_street 28 = .ok (.ireturn, 1) := oc_172 shX12_street_28
noncomputable def sxX12_streets_102 : List UInt8 := []
noncomputable def sxX12_streets_101 : List UInt8 := 173 :: sxX12_streets_102
noncomputable def sxX12_streets_98 : List UInt8 := 182 :: 1 :: 97 :: sxX12_streets_101
noncomputable def sxX12_streets_97 : List UInt8 := 28 :: sxX12_streets_98
noncomputable def sxX12_streets_95 : List UInt8 := 21 :: 4 :: sxX12_streets_97
noncomputable def sxX12_streets_94 : List UInt8 := 29 :: sxX12_streets_95
noncomputable def sxX12_streets_91 : List UInt8 := 182 :: 1 :: 94 :: sxX12_streets_94
noncomputable def sxX12_streets_90 : List UInt8 := 42 :: sxX12_streets_91
noncomputable def sxX12_streets_89 : List UInt8 := 42 :: sxX12_streets_90
noncomputable def sxX12_streets_86 : List UInt8 := 167 :: 255 :: 201 :: sxX12_streets_89
noncomputable def sxX12_streets_83 : List UInt8 := 132 :: 5 :: 1 :: sxX12_streets_86
noncomputable def sxX12_streets_81 : List UInt8 := 54 :: 4 :: sxX12_streets_83
noncomputable def sxX12_streets_80 : List UInt8 := 96 :: sxX12_streets_81
noncomputable def sxX12_streets_79 : List UInt8 := 3 :: sxX12_streets_80
noncomputable def sxX12_streets_76 : List UInt8 := 167 :: 0 :: 4 :: sxX12_streets_79
noncomputable def sxX12_streets_75 : List UInt8 := 4 :: sxX12_streets_76
noncomputable def sxX12_streets_72 : List UInt8 := 158 :: 0 :: 7 :: sxX12_streets_75
noncomputable def sxX12_streets_71 : List UInt8 := 46 :: sxX12_streets_72
noncomputable def sxX12_streets_69 : List UInt8 := 21 :: 5 :: sxX12_streets_71
noncomputable def sxX12_streets_66 : List UInt8 := 180 :: 0 :: 43 :: sxX12_streets_69
noncomputable def sxX12_streets_65 : List UInt8 := 42 :: sxX12_streets_66
noncomputable def sxX12_streets_63 : List UInt8 := 21 :: 4 :: sxX12_streets_65
noncomputable def sxX12_streets_62 : List UInt8 := 62 :: sxX12_streets_63
noncomputable def sxX12_streets_61 : List UInt8 := 96 :: sxX12_streets_62
noncomputable def sxX12_streets_60 : List UInt8 := 4 :: sxX12_streets_61
noncomputable def sxX12_streets_59 : List UInt8 := 29 :: sxX12_streets_60
noncomputable def sxX12_streets_56 : List UInt8 := 167 :: 0 :: 27 :: sxX12_streets_59
noncomputable def sxX12_streets_53 : List UInt8 := 159 :: 0 :: 6 :: sxX12_streets_56
noncomputable def sxX12_streets_52 : List UInt8 := 27 :: sxX12_streets_53
noncomputable def sxX12_streets_51 : List UInt8 := 46 :: sxX12_streets_52
noncomputable def sxX12_streets_50 : List UInt8 := 46 :: sxX12_streets_51
noncomputable def sxX12_streets_48 : List UInt8 := 21 :: 5 :: sxX12_streets_50
noncomputable def sxX12_streets_45 : List UInt8 := 180 :: 0 :: 25 :: sxX12_streets_48
noncomputable def sxX12_streets_44 : List UInt8 := 42 :: sxX12_streets_45
noncomputable def sxX12_streets_41 : List UInt8 := 180 :: 0 :: 95 :: sxX12_streets_44
noncomputable def sxX12_streets_40 : List UInt8 := 42 :: sxX12_streets_41
noncomputable def sxX12_streets_37 : List UInt8 := 162 :: 0 :: 52 :: sxX12_streets_40
noncomputable def sxX12_streets_34 : List UInt8 := 180 :: 0 :: 208 :: sxX12_streets_37
noncomputable def sxX12_streets_33 : List UInt8 := 42 :: sxX12_streets_34
noncomputable def sxX12_streets_31 : List UInt8 := 21 :: 5 :: sxX12_streets_33
noncomputable def sxX12_streets_29 : List UInt8 := 54 :: 5 :: sxX12_streets_31
noncomputable def sxX12_streets_28 : List UInt8 := 3 :: sxX12_streets_29
noncomputable def sxX12_streets_26 : List UInt8 := 54 :: 4 :: sxX12_streets_28
noncomputable def sxX12_streets_25 : List UInt8 := 3 :: sxX12_streets_26
noncomputable def sxX12_streets_24 : List UInt8 := 62 :: sxX12_streets_25
noncomputable def sxX12_streets_23 : List UInt8 := 3 :: sxX12_streets_24
noncomputable def sxX12_streets_22 : List UInt8 := 173 :: sxX12_streets_23
noncomputable def sxX12_streets_19 : List UInt8 := 20 :: 1 :: 92 :: sxX12_streets_22
noncomputable def sxX12_streets_16 : List UInt8 := 154 :: 0 :: 7 :: sxX12_streets_19
noncomputable def sxX12_streets_13 : List UInt8 := 184 :: 0 :: 214 :: sxX12_streets_16
noncomputable def sxX12_streets_12 : List UInt8 := 5 :: sxX12_streets_13
noncomputable def sxX12_streets_11 : List UInt8 := 3 :: sxX12_streets_12
noncomputable def sxX12_streets_10 : List UInt8 := 28 :: sxX12_streets_11
noncomputable def sxX12_streets_7 : List UInt8 := 153 :: 0 :: 12 :: sxX12_streets_10
noncomputable def sxX12_streets_4 : List UInt8 := 184 :: 0 :: 214 :: sxX12_streets_7
noncomputable def sxX12_streets_2 : List UInt8 := 16 :: 9 :: sxX12_streets_4
noncomputable def sxX12_streets_1 : List UInt8 := 3 :: sxX12_streets_2
noncomputable def sxX12_streets_0 : List UInt8 := 27 :: sxX12_streets_1
theorem shX12_streets_0 : cX12_streets.data.toList.drop 0 = sxX12_streets_0 := rfl
theorem shX12_streets_1 : cX12_streets.data.toList.drop 1 = sxX12_streets_1 := dSn 1 shX12_streets_0
theorem shX12_streets_2 : cX12_streets.data.toList.drop 2 = sxX12_streets_2 := dSn 1 shX12_streets_1
theorem shX12_streets_4 : cX12_streets.data.toList.drop 4 = sxX12_streets_4 := dSn 2 shX12_streets_2
theorem shX12_streets_7 : cX12_streets.data.toList.drop 7 = sxX12_streets_7 := dSn 3 shX12_streets_4
theorem shX12_streets_10 : cX12_streets.data.toList.drop 10 = sxX12_streets_10 := dSn 3 shX12_streets_7
theorem shX12_streets_11 : cX12_streets.data.toList.drop 11 = sxX12_streets_11 := dSn 1 shX12_streets_10
theorem shX12_streets_12 : cX12_streets.data.toList.drop 12 = sxX12_streets_12 := dSn 1 shX12_streets_11
theorem shX12_streets_13 : cX12_streets.data.toList.drop 13 = sxX12_streets_13 := dSn 1 shX12_streets_12
theorem shX12_streets_16 : cX12_streets.data.toList.drop 16 = sxX12_streets_16 := dSn 3 shX12_streets_13
theorem shX12_streets_19 : cX12_streets.data.toList.drop 19 = sxX12_streets_19 := dSn 3 shX12_streets_16
theorem shX12_streets_22 : cX12_streets.data.toList.drop 22 = sxX12_streets_22 := dSn 3 shX12_streets_19
theorem shX12_streets_23 : cX12_streets.data.toList.drop 23 = sxX12_streets_23 := dSn 1 shX12_streets_22
theorem shX12_streets_24 : cX12_streets.data.toList.drop 24 = sxX12_streets_24 := dSn 1 shX12_streets_23
theorem shX12_streets_25 : cX12_streets.data.toList.drop 25 = sxX12_streets_25 := dSn 1 shX12_streets_24
theorem shX12_streets_26 : cX12_streets.data.toList.drop 26 = sxX12_streets_26 := dSn 1 shX12_streets_25
theorem shX12_streets_28 : cX12_streets.data.toList.drop 28 = sxX12_streets_28 := dSn 2 shX12_streets_26
theorem shX12_streets_29 : cX12_streets.data.toList.drop 29 = sxX12_streets_29 := dSn 1 shX12_streets_28
theorem shX12_streets_31 : cX12_streets.data.toList.drop 31 = sxX12_streets_31 := dSn 2 shX12_streets_29
theorem shX12_streets_33 : cX12_streets.data.toList.drop 33 = sxX12_streets_33 := dSn 2 shX12_streets_31
theorem shX12_streets_34 : cX12_streets.data.toList.drop 34 = sxX12_streets_34 := dSn 1 shX12_streets_33
theorem shX12_streets_37 : cX12_streets.data.toList.drop 37 = sxX12_streets_37 := dSn 3 shX12_streets_34
theorem shX12_streets_40 : cX12_streets.data.toList.drop 40 = sxX12_streets_40 := dSn 3 shX12_streets_37
theorem shX12_streets_41 : cX12_streets.data.toList.drop 41 = sxX12_streets_41 := dSn 1 shX12_streets_40
theorem shX12_streets_44 : cX12_streets.data.toList.drop 44 = sxX12_streets_44 := dSn 3 shX12_streets_41
theorem shX12_streets_45 : cX12_streets.data.toList.drop 45 = sxX12_streets_45 := dSn 1 shX12_streets_44
theorem shX12_streets_48 : cX12_streets.data.toList.drop 48 = sxX12_streets_48 := dSn 3 shX12_streets_45
theorem shX12_streets_50 : cX12_streets.data.toList.drop 50 = sxX12_streets_50 := dSn 2 shX12_streets_48
theorem shX12_streets_51 : cX12_streets.data.toList.drop 51 = sxX12_streets_51 := dSn 1 shX12_streets_50
theorem shX12_streets_52 : cX12_streets.data.toList.drop 52 = sxX12_streets_52 := dSn 1 shX12_streets_51
theorem shX12_streets_53 : cX12_streets.data.toList.drop 53 = sxX12_streets_53 := dSn 1 shX12_streets_52
theorem shX12_streets_56 : cX12_streets.data.toList.drop 56 = sxX12_streets_56 := dSn 3 shX12_streets_53
theorem shX12_streets_59 : cX12_streets.data.toList.drop 59 = sxX12_streets_59 := dSn 3 shX12_streets_56
theorem shX12_streets_60 : cX12_streets.data.toList.drop 60 = sxX12_streets_60 := dSn 1 shX12_streets_59
theorem shX12_streets_61 : cX12_streets.data.toList.drop 61 = sxX12_streets_61 := dSn 1 shX12_streets_60
theorem shX12_streets_62 : cX12_streets.data.toList.drop 62 = sxX12_streets_62 := dSn 1 shX12_streets_61
theorem shX12_streets_63 : cX12_streets.data.toList.drop 63 = sxX12_streets_63 := dSn 1 shX12_streets_62
theorem shX12_streets_65 : cX12_streets.data.toList.drop 65 = sxX12_streets_65 := dSn 2 shX12_streets_63
theorem shX12_streets_66 : cX12_streets.data.toList.drop 66 = sxX12_streets_66 := dSn 1 shX12_streets_65
theorem shX12_streets_69 : cX12_streets.data.toList.drop 69 = sxX12_streets_69 := dSn 3 shX12_streets_66
theorem shX12_streets_71 : cX12_streets.data.toList.drop 71 = sxX12_streets_71 := dSn 2 shX12_streets_69
theorem shX12_streets_72 : cX12_streets.data.toList.drop 72 = sxX12_streets_72 := dSn 1 shX12_streets_71
theorem shX12_streets_75 : cX12_streets.data.toList.drop 75 = sxX12_streets_75 := dSn 3 shX12_streets_72
theorem shX12_streets_76 : cX12_streets.data.toList.drop 76 = sxX12_streets_76 := dSn 1 shX12_streets_75
theorem shX12_streets_79 : cX12_streets.data.toList.drop 79 = sxX12_streets_79 := dSn 3 shX12_streets_76
theorem shX12_streets_80 : cX12_streets.data.toList.drop 80 = sxX12_streets_80 := dSn 1 shX12_streets_79
theorem shX12_streets_81 : cX12_streets.data.toList.drop 81 = sxX12_streets_81 := dSn 1 shX12_streets_80
theorem shX12_streets_83 : cX12_streets.data.toList.drop 83 = sxX12_streets_83 := dSn 2 shX12_streets_81
theorem shX12_streets_86 : cX12_streets.data.toList.drop 86 = sxX12_streets_86 := dSn 3 shX12_streets_83
theorem shX12_streets_89 : cX12_streets.data.toList.drop 89 = sxX12_streets_89 := dSn 3 shX12_streets_86
theorem shX12_streets_90 : cX12_streets.data.toList.drop 90 = sxX12_streets_90 := dSn 1 shX12_streets_89
theorem shX12_streets_91 : cX12_streets.data.toList.drop 91 = sxX12_streets_91 := dSn 1 shX12_streets_90
theorem shX12_streets_94 : cX12_streets.data.toList.drop 94 = sxX12_streets_94 := dSn 3 shX12_streets_91
theorem shX12_streets_95 : cX12_streets.data.toList.drop 95 = sxX12_streets_95 := dSn 1 shX12_streets_94
theorem shX12_streets_97 : cX12_streets.data.toList.drop 97 = sxX12_streets_97 := dSn 2 shX12_streets_95
theorem shX12_streets_98 : cX12_streets.data.toList.drop 98 = sxX12_streets_98 := dSn 1 shX12_streets_97
theorem shX12_streets_101 : cX12_streets.data.toList.drop 101 = sxX12_streets_101 := dSn 3 shX12_streets_98
theorem dX12_streets_0 : decode cX12_streets 0 = .ok (.iload_n 1, 1) := oc_27 shX12_streets_0
theorem dX12_streets_1 : decode cX12_streets 1 = .ok (.iconst 0, 1) := oc_3 shX12_streets_1
theorem dX12_streets_2 : decode cX12_streets 2 = .ok (.bipush 9, 2) := oc_16 shX12_streets_2 sgb_9
theorem dX12_streets_4 : decode cX12_streets 4 = .ok (.invokestatic 214, 3) := oc_184 shX12_streets_4
theorem dX12_streets_7 : decode cX12_streets 7 = .ok (.ifCond .eq 12, 3) := oc_153 shX12_streets_7 sgw_0_12
theorem dX12_streets_10 : decode cX12_streets 10 = .ok (.iload_n 2, 1) := oc_28 shX12_streets_10
theorem dX12_streets_11 : decode cX12_streets 11 = .ok (.iconst 0, 1) := oc_3 shX12_streets_11
theorem dX12_streets_12 : decode cX12_streets 12 = .ok (.iconst 2, 1) := oc_5 shX12_streets_12
theorem dX12_streets_13 : decode cX12_streets 13 = .ok (.invokestatic 214, 3) := oc_184 shX12_streets_13
theorem dX12_streets_16 : decode cX12_streets 16 = .ok (.ifCond .ne 7, 3) := oc_154 shX12_streets_16 sgw_0_7
theorem dX12_streets_19 : decode cX12_streets 19 = .ok (.ldc2_w 348, 3) := oc_20 shX12_streets_19
theorem dX12_streets_22 : decode cX12_streets 22 = .ok (.lreturn, 1) := oc_173 shX12_streets_22
theorem dX12_streets_23 : decode cX12_streets 23 = .ok (.iconst 0, 1) := oc_3 shX12_streets_23
theorem dX12_streets_24 : decode cX12_streets 24 = .ok (.istore_n 3, 1) := oc_62 shX12_streets_24
theorem dX12_streets_25 : decode cX12_streets 25 = .ok (.iconst 0, 1) := oc_3 shX12_streets_25
theorem dX12_streets_26 : decode cX12_streets 26 = .ok (.istore 4, 2) := oc_54 shX12_streets_26
theorem dX12_streets_28 : decode cX12_streets 28 = .ok (.iconst 0, 1) := oc_3 shX12_streets_28
theorem dX12_streets_29 : decode cX12_streets 29 = .ok (.istore 5, 2) := oc_54 shX12_streets_29
theorem dX12_streets_31 : decode cX12_streets 31 = .ok (.iload 5, 2) := oc_21 shX12_streets_31
theorem dX12_streets_33 : decode cX12_streets 33 = .ok (.aload_n 0, 1) := oc_42 shX12_streets_33
theorem dX12_streets_34 : decode cX12_streets 34 = .ok (.getfield 208, 3) := oc_180 shX12_streets_34
theorem dX12_streets_37 : decode cX12_streets 37 = .ok (.if_icmp .ge 52, 3) := oc_162 shX12_streets_37 sgw_0_52
theorem dX12_streets_40 : decode cX12_streets 40 = .ok (.aload_n 0, 1) := oc_42 shX12_streets_40
theorem dX12_streets_41 : decode cX12_streets 41 = .ok (.getfield 95, 3) := oc_180 shX12_streets_41
theorem dX12_streets_44 : decode cX12_streets 44 = .ok (.aload_n 0, 1) := oc_42 shX12_streets_44
theorem dX12_streets_45 : decode cX12_streets 45 = .ok (.getfield 25, 3) := oc_180 shX12_streets_45
theorem dX12_streets_48 : decode cX12_streets 48 = .ok (.iload 5, 2) := oc_21 shX12_streets_48
theorem dX12_streets_50 : decode cX12_streets 50 = .ok (.iaload, 1) := oc_46 shX12_streets_50
theorem dX12_streets_51 : decode cX12_streets 51 = .ok (.iaload, 1) := oc_46 shX12_streets_51
theorem dX12_streets_52 : decode cX12_streets 52 = .ok (.iload_n 1, 1) := oc_27 shX12_streets_52
theorem dX12_streets_53 : decode cX12_streets 53 = .ok (.if_icmp .eq 6, 3) := oc_159 shX12_streets_53 sgw_0_6
theorem dX12_streets_56 : decode cX12_streets 56 = .ok (.goto 27, 3) := oc_167 shX12_streets_56 sgw_0_27
theorem dX12_streets_59 : decode cX12_streets 59 = .ok (.iload_n 3, 1) := oc_29 shX12_streets_59
theorem dX12_streets_60 : decode cX12_streets 60 = .ok (.iconst 1, 1) := oc_4 shX12_streets_60
theorem dX12_streets_61 : decode cX12_streets 61 = .ok (.iadd, 1) := oc_96 shX12_streets_61
theorem dX12_streets_62 : decode cX12_streets 62 = .ok (.istore_n 3, 1) := oc_62 shX12_streets_62
theorem dX12_streets_63 : decode cX12_streets 63 = .ok (.iload 4, 2) := oc_21 shX12_streets_63
theorem dX12_streets_65 : decode cX12_streets 65 = .ok (.aload_n 0, 1) := oc_42 shX12_streets_65
theorem dX12_streets_66 : decode cX12_streets 66 = .ok (.getfield 43, 3) := oc_180 shX12_streets_66
theorem dX12_streets_69 : decode cX12_streets 69 = .ok (.iload 5, 2) := oc_21 shX12_streets_69
theorem dX12_streets_71 : decode cX12_streets 71 = .ok (.iaload, 1) := oc_46 shX12_streets_71
theorem dX12_streets_72 : decode cX12_streets 72 = .ok (.ifCond .le 7, 3) := oc_158 shX12_streets_72 sgw_0_7
theorem dX12_streets_75 : decode cX12_streets 75 = .ok (.iconst 1, 1) := oc_4 shX12_streets_75
theorem dX12_streets_76 : decode cX12_streets 76 = .ok (.goto 4, 3) := oc_167 shX12_streets_76 sgw_0_4
theorem dX12_streets_79 : decode cX12_streets 79 = .ok (.iconst 0, 1) := oc_3 shX12_streets_79
theorem dX12_streets_80 : decode cX12_streets 80 = .ok (.iadd, 1) := oc_96 shX12_streets_80
theorem dX12_streets_81 : decode cX12_streets 81 = .ok (.istore 4, 2) := oc_54 shX12_streets_81
theorem dX12_streets_83 : decode cX12_streets 83 = .ok (.iinc 5 1, 3) := oc_132 shX12_streets_83 sgb_1
theorem dX12_streets_86 : decode cX12_streets 86 = .ok (.goto (-55), 3) := oc_167 shX12_streets_86 sgw_255_201
theorem dX12_streets_89 : decode cX12_streets 89 = .ok (.aload_n 0, 1) := oc_42 shX12_streets_89
theorem dX12_streets_90 : decode cX12_streets 90 = .ok (.aload_n 0, 1) := oc_42 shX12_streets_90
theorem dX12_streets_91 : decode cX12_streets 91 = .ok (.invokevirtual 350, 3) := oc_182 shX12_streets_91
theorem dX12_streets_94 : decode cX12_streets 94 = .ok (.iload_n 3, 1) := oc_29 shX12_streets_94
theorem dX12_streets_95 : decode cX12_streets 95 = .ok (.iload 4, 2) := oc_21 shX12_streets_95
theorem dX12_streets_97 : decode cX12_streets 97 = .ok (.iload_n 2, 1) := oc_28 shX12_streets_97
theorem dX12_streets_98 : decode cX12_streets 98 = .ok (.invokevirtual 353, 3) := oc_182 shX12_streets_98
theorem dX12_streets_101 : decode cX12_streets 101 = .ok (.lreturn, 1) := oc_173 shX12_streets_101
noncomputable def sxX12_cheat_151 : List UInt8 := []
noncomputable def sxX12_cheat_150 : List UInt8 := 173 :: sxX12_cheat_151
noncomputable def sxX12_cheat_147 : List UInt8 := 182 :: 1 :: 97 :: sxX12_cheat_150
noncomputable def sxX12_cheat_146 : List UInt8 := 29 :: sxX12_cheat_147
noncomputable def sxX12_cheat_144 : List UInt8 := 21 :: 6 :: sxX12_cheat_146
noncomputable def sxX12_cheat_142 : List UInt8 := 21 :: 5 :: sxX12_cheat_144
noncomputable def sxX12_cheat_140 : List UInt8 := 21 :: 4 :: sxX12_cheat_142
noncomputable def sxX12_cheat_139 : List UInt8 := 42 :: sxX12_cheat_140
noncomputable def sxX12_cheat_136 : List UInt8 := 167 :: 255 :: 164 :: sxX12_cheat_139
noncomputable def sxX12_cheat_133 : List UInt8 := 132 :: 7 :: 1 :: sxX12_cheat_136
noncomputable def sxX12_cheat_131 : List UInt8 := 54 :: 6 :: sxX12_cheat_133
noncomputable def sxX12_cheat_130 : List UInt8 := 96 :: sxX12_cheat_131
noncomputable def sxX12_cheat_129 : List UInt8 := 3 :: sxX12_cheat_130
noncomputable def sxX12_cheat_126 : List UInt8 := 167 :: 0 :: 4 :: sxX12_cheat_129
noncomputable def sxX12_cheat_125 : List UInt8 := 4 :: sxX12_cheat_126
noncomputable def sxX12_cheat_122 : List UInt8 := 160 :: 0 :: 7 :: sxX12_cheat_125
noncomputable def sxX12_cheat_121 : List UInt8 := 27 :: sxX12_cheat_122
noncomputable def sxX12_cheat_120 : List UInt8 := 46 :: sxX12_cheat_121
noncomputable def sxX12_cheat_118 : List UInt8 := 21 :: 7 :: sxX12_cheat_120
noncomputable def sxX12_cheat_115 : List UInt8 := 180 :: 0 :: 25 :: sxX12_cheat_118
noncomputable def sxX12_cheat_114 : List UInt8 := 42 :: sxX12_cheat_115
noncomputable def sxX12_cheat_111 : List UInt8 := 153 :: 0 :: 18 :: sxX12_cheat_114
noncomputable def sxX12_cheat_109 : List UInt8 := 21 :: 8 :: sxX12_cheat_111
noncomputable def sxX12_cheat_107 : List UInt8 := 21 :: 6 :: sxX12_cheat_109
noncomputable def sxX12_cheat_105 : List UInt8 := 54 :: 5 :: sxX12_cheat_107
noncomputable def sxX12_cheat_104 : List UInt8 := 96 :: sxX12_cheat_105
noncomputable def sxX12_cheat_103 : List UInt8 := 3 :: sxX12_cheat_104
noncomputable def sxX12_cheat_100 : List UInt8 := 167 :: 0 :: 4 :: sxX12_cheat_103
noncomputable def sxX12_cheat_99 : List UInt8 := 4 :: sxX12_cheat_100
noncomputable def sxX12_cheat_96 : List UInt8 := 160 :: 0 :: 7 :: sxX12_cheat_99
noncomputable def sxX12_cheat_95 : List UInt8 := 27 :: sxX12_cheat_96
noncomputable def sxX12_cheat_94 : List UInt8 := 46 :: sxX12_cheat_95
noncomputable def sxX12_cheat_92 : List UInt8 := 21 :: 7 :: sxX12_cheat_94
noncomputable def sxX12_cheat_89 : List UInt8 := 180 :: 0 :: 25 :: sxX12_cheat_92
noncomputable def sxX12_cheat_88 : List UInt8 := 42 :: sxX12_cheat_89
noncomputable def sxX12_cheat_86 : List UInt8 := 21 :: 5 :: sxX12_cheat_88
noncomputable def sxX12_cheat_84 : List UInt8 := 54 :: 4 :: sxX12_cheat_86
noncomputable def sxX12_cheat_83 : List UInt8 := 96 :: sxX12_cheat_84
noncomputable def sxX12_cheat_82 : List UInt8 := 3 :: sxX12_cheat_83
noncomputable def sxX12_cheat_79 : List UInt8 := 167 :: 0 :: 4 :: sxX12_cheat_82
noncomputable def sxX12_cheat_78 : List UInt8 := 4 :: sxX12_cheat_79
noncomputable def sxX12_cheat_75 : List UInt8 := 153 :: 0 :: 7 :: sxX12_cheat_78
noncomputable def sxX12_cheat_73 : List UInt8 := 21 :: 8 :: sxX12_cheat_75
noncomputable def sxX12_cheat_71 : List UInt8 := 21 :: 4 :: sxX12_cheat_73
noncomputable def sxX12_cheat_69 : List UInt8 := 54 :: 8 :: sxX12_cheat_71
noncomputable def sxX12_cheat_68 : List UInt8 := 3 :: sxX12_cheat_69
noncomputable def sxX12_cheat_65 : List UInt8 := 167 :: 0 :: 4 :: sxX12_cheat_68
noncomputable def sxX12_cheat_64 : List UInt8 := 4 :: sxX12_cheat_65
noncomputable def sxX12_cheat_61 : List UInt8 := 161 :: 0 :: 7 :: sxX12_cheat_64
noncomputable def sxX12_cheat_60 : List UInt8 := 28 :: sxX12_cheat_61
noncomputable def sxX12_cheat_59 : List UInt8 := 46 :: sxX12_cheat_60
noncomputable def sxX12_cheat_57 : List UInt8 := 21 :: 7 :: sxX12_cheat_59
noncomputable def sxX12_cheat_54 : List UInt8 := 180 :: 0 :: 34 :: sxX12_cheat_57
noncomputable def sxX12_cheat_53 : List UInt8 := 42 :: sxX12_cheat_54
noncomputable def sxX12_cheat_50 : List UInt8 := 162 :: 0 :: 89 :: sxX12_cheat_53
noncomputable def sxX12_cheat_47 : List UInt8 := 180 :: 0 :: 208 :: sxX12_cheat_50
noncomputable def sxX12_cheat_46 : List UInt8 := 42 :: sxX12_cheat_47
noncomputable def sxX12_cheat_44 : List UInt8 := 21 :: 7 :: sxX12_cheat_46
noncomputable def sxX12_cheat_42 : List UInt8 := 54 :: 7 :: sxX12_cheat_44
noncomputable def sxX12_cheat_41 : List UInt8 := 3 :: sxX12_cheat_42
noncomputable def sxX12_cheat_39 : List UInt8 := 54 :: 6 :: sxX12_cheat_41
noncomputable def sxX12_cheat_38 : List UInt8 := 3 :: sxX12_cheat_39
noncomputable def sxX12_cheat_36 : List UInt8 := 54 :: 5 :: sxX12_cheat_38
noncomputable def sxX12_cheat_35 : List UInt8 := 3 :: sxX12_cheat_36
noncomputable def sxX12_cheat_33 : List UInt8 := 54 :: 4 :: sxX12_cheat_35
noncomputable def sxX12_cheat_32 : List UInt8 := 3 :: sxX12_cheat_33
noncomputable def sxX12_cheat_31 : List UInt8 := 173 :: sxX12_cheat_32
noncomputable def sxX12_cheat_28 : List UInt8 := 20 :: 1 :: 92 :: sxX12_cheat_31
noncomputable def sxX12_cheat_25 : List UInt8 := 154 :: 0 :: 7 :: sxX12_cheat_28
noncomputable def sxX12_cheat_22 : List UInt8 := 184 :: 0 :: 214 :: sxX12_cheat_25
noncomputable def sxX12_cheat_21 : List UInt8 := 5 :: sxX12_cheat_22
noncomputable def sxX12_cheat_20 : List UInt8 := 3 :: sxX12_cheat_21
noncomputable def sxX12_cheat_19 : List UInt8 := 29 :: sxX12_cheat_20
noncomputable def sxX12_cheat_16 : List UInt8 := 153 :: 0 :: 12 :: sxX12_cheat_19
noncomputable def sxX12_cheat_13 : List UInt8 := 184 :: 0 :: 214 :: sxX12_cheat_16
noncomputable def sxX12_cheat_10 : List UInt8 := 17 :: 3 :: 232 :: sxX12_cheat_13
noncomputable def sxX12_cheat_9 : List UInt8 := 3 :: sxX12_cheat_10
noncomputable def sxX12_cheat_8 : List UInt8 := 28 :: sxX12_cheat_9
noncomputable def sxX12_cheat_5 : List UInt8 := 153 :: 0 :: 23 :: sxX12_cheat_8
noncomputable def sxX12_cheat_2 : List UInt8 := 182 :: 0 :: 218 :: sxX12_cheat_5
noncomputable def sxX12_cheat_1 : List UInt8 := 27 :: sxX12_cheat_2
noncomputable def sxX12_cheat_0 : List UInt8 := 42 :: sxX12_cheat_1
theorem shX12_cheat_0 : cX12_cheat.data.toList.drop 0 = sxX12_cheat_0 := rfl
theorem shX12_cheat_1 : cX12_cheat.data.toList.drop 1 = sxX12_cheat_1 := dSn 1 shX12_cheat_0
theorem shX12_cheat_2 : cX12_cheat.data.toList.drop 2 = sxX12_cheat_2 := dSn 1 shX12_cheat_1
theorem shX12_cheat_5 : cX12_cheat.data.toList.drop 5 = sxX12_cheat_5 := dSn 3 shX12_cheat_2
theorem shX12_cheat_8 : cX12_cheat.data.toList.drop 8 = sxX12_cheat_8 := dSn 3 shX12_cheat_5
theorem shX12_cheat_9 : cX12_cheat.data.toList.drop 9 = sxX12_cheat_9 := dSn 1 shX12_cheat_8
theorem shX12_cheat_10 : cX12_cheat.data.toList.drop 10 = sxX12_cheat_10 := dSn 1 shX12_cheat_9
theorem shX12_cheat_13 : cX12_cheat.data.toList.drop 13 = sxX12_cheat_13 := dSn 3 shX12_cheat_10
theorem shX12_cheat_16 : cX12_cheat.data.toList.drop 16 = sxX12_cheat_16 := dSn 3 shX12_cheat_13
theorem shX12_cheat_19 : cX12_cheat.data.toList.drop 19 = sxX12_cheat_19 := dSn 3 shX12_cheat_16
theorem shX12_cheat_20 : cX12_cheat.data.toList.drop 20 = sxX12_cheat_20 := dSn 1 shX12_cheat_19
theorem shX12_cheat_21 : cX12_cheat.data.toList.drop 21 = sxX12_cheat_21 := dSn 1 shX12_cheat_20
theorem shX12_cheat_22 : cX12_cheat.data.toList.drop 22 = sxX12_cheat_22 := dSn 1 shX12_cheat_21
theorem shX12_cheat_25 : cX12_cheat.data.toList.drop 25 = sxX12_cheat_25 := dSn 3 shX12_cheat_22
theorem shX12_cheat_28 : cX12_cheat.data.toList.drop 28 = sxX12_cheat_28 := dSn 3 shX12_cheat_25
theorem shX12_cheat_31 : cX12_cheat.data.toList.drop 31 = sxX12_cheat_31 := dSn 3 shX12_cheat_28
theorem shX12_cheat_32 : cX12_cheat.data.toList.drop 32 = sxX12_cheat_32 := dSn 1 shX12_cheat_31
theorem shX12_cheat_33 : cX12_cheat.data.toList.drop 33 = sxX12_cheat_33 := dSn 1 shX12_cheat_32
theorem shX12_cheat_35 : cX12_cheat.data.toList.drop 35 = sxX12_cheat_35 := dSn 2 shX12_cheat_33
theorem shX12_cheat_36 : cX12_cheat.data.toList.drop 36 = sxX12_cheat_36 := dSn 1 shX12_cheat_35
theorem shX12_cheat_38 : cX12_cheat.data.toList.drop 38 = sxX12_cheat_38 := dSn 2 shX12_cheat_36
theorem shX12_cheat_39 : cX12_cheat.data.toList.drop 39 = sxX12_cheat_39 := dSn 1 shX12_cheat_38
theorem shX12_cheat_41 : cX12_cheat.data.toList.drop 41 = sxX12_cheat_41 := dSn 2 shX12_cheat_39
theorem shX12_cheat_42 : cX12_cheat.data.toList.drop 42 = sxX12_cheat_42 := dSn 1 shX12_cheat_41
theorem shX12_cheat_44 : cX12_cheat.data.toList.drop 44 = sxX12_cheat_44 := dSn 2 shX12_cheat_42
theorem shX12_cheat_46 : cX12_cheat.data.toList.drop 46 = sxX12_cheat_46 := dSn 2 shX12_cheat_44
theorem shX12_cheat_47 : cX12_cheat.data.toList.drop 47 = sxX12_cheat_47 := dSn 1 shX12_cheat_46
theorem shX12_cheat_50 : cX12_cheat.data.toList.drop 50 = sxX12_cheat_50 := dSn 3 shX12_cheat_47
theorem shX12_cheat_53 : cX12_cheat.data.toList.drop 53 = sxX12_cheat_53 := dSn 3 shX12_cheat_50
theorem shX12_cheat_54 : cX12_cheat.data.toList.drop 54 = sxX12_cheat_54 := dSn 1 shX12_cheat_53
theorem shX12_cheat_57 : cX12_cheat.data.toList.drop 57 = sxX12_cheat_57 := dSn 3 shX12_cheat_54
theorem shX12_cheat_59 : cX12_cheat.data.toList.drop 59 = sxX12_cheat_59 := dSn 2 shX12_cheat_57
theorem shX12_cheat_60 : cX12_cheat.data.toList.drop 60 = sxX12_cheat_60 := dSn 1 shX12_cheat_59
theorem shX12_cheat_61 : cX12_cheat.data.toList.drop 61 = sxX12_cheat_61 := dSn 1 shX12_cheat_60
theorem shX12_cheat_64 : cX12_cheat.data.toList.drop 64 = sxX12_cheat_64 := dSn 3 shX12_cheat_61
theorem shX12_cheat_65 : cX12_cheat.data.toList.drop 65 = sxX12_cheat_65 := dSn 1 shX12_cheat_64
theorem shX12_cheat_68 : cX12_cheat.data.toList.drop 68 = sxX12_cheat_68 := dSn 3 shX12_cheat_65
theorem shX12_cheat_69 : cX12_cheat.data.toList.drop 69 = sxX12_cheat_69 := dSn 1 shX12_cheat_68
theorem shX12_cheat_71 : cX12_cheat.data.toList.drop 71 = sxX12_cheat_71 := dSn 2 shX12_cheat_69
theorem shX12_cheat_73 : cX12_cheat.data.toList.drop 73 = sxX12_cheat_73 := dSn 2 shX12_cheat_71
theorem shX12_cheat_75 : cX12_cheat.data.toList.drop 75 = sxX12_cheat_75 := dSn 2 shX12_cheat_73
theorem shX12_cheat_78 : cX12_cheat.data.toList.drop 78 = sxX12_cheat_78 := dSn 3 shX12_cheat_75
theorem shX12_cheat_79 : cX12_cheat.data.toList.drop 79 = sxX12_cheat_79 := dSn 1 shX12_cheat_78
theorem shX12_cheat_82 : cX12_cheat.data.toList.drop 82 = sxX12_cheat_82 := dSn 3 shX12_cheat_79
theorem shX12_cheat_83 : cX12_cheat.data.toList.drop 83 = sxX12_cheat_83 := dSn 1 shX12_cheat_82
theorem shX12_cheat_84 : cX12_cheat.data.toList.drop 84 = sxX12_cheat_84 := dSn 1 shX12_cheat_83
theorem shX12_cheat_86 : cX12_cheat.data.toList.drop 86 = sxX12_cheat_86 := dSn 2 shX12_cheat_84
theorem shX12_cheat_88 : cX12_cheat.data.toList.drop 88 = sxX12_cheat_88 := dSn 2 shX12_cheat_86
theorem shX12_cheat_89 : cX12_cheat.data.toList.drop 89 = sxX12_cheat_89 := dSn 1 shX12_cheat_88
theorem shX12_cheat_92 : cX12_cheat.data.toList.drop 92 = sxX12_cheat_92 := dSn 3 shX12_cheat_89
theorem shX12_cheat_94 : cX12_cheat.data.toList.drop 94 = sxX12_cheat_94 := dSn 2 shX12_cheat_92
theorem shX12_cheat_95 : cX12_cheat.data.toList.drop 95 = sxX12_cheat_95 := dSn 1 shX12_cheat_94
theorem shX12_cheat_96 : cX12_cheat.data.toList.drop 96 = sxX12_cheat_96 := dSn 1 shX12_cheat_95
theorem shX12_cheat_99 : cX12_cheat.data.toList.drop 99 = sxX12_cheat_99 := dSn 3 shX12_cheat_96
theorem shX12_cheat_100 : cX12_cheat.data.toList.drop 100 = sxX12_cheat_100 := dSn 1 shX12_cheat_99
theorem shX12_cheat_103 : cX12_cheat.data.toList.drop 103 = sxX12_cheat_103 := dSn 3 shX12_cheat_100
theorem shX12_cheat_104 : cX12_cheat.data.toList.drop 104 = sxX12_cheat_104 := dSn 1 shX12_cheat_103
theorem shX12_cheat_105 : cX12_cheat.data.toList.drop 105 = sxX12_cheat_105 := dSn 1 shX12_cheat_104
theorem shX12_cheat_107 : cX12_cheat.data.toList.drop 107 = sxX12_cheat_107 := dSn 2 shX12_cheat_105
theorem shX12_cheat_109 : cX12_cheat.data.toList.drop 109 = sxX12_cheat_109 := dSn 2 shX12_cheat_107
theorem shX12_cheat_111 : cX12_cheat.data.toList.drop 111 = sxX12_cheat_111 := dSn 2 shX12_cheat_109
theorem shX12_cheat_114 : cX12_cheat.data.toList.drop 114 = sxX12_cheat_114 := dSn 3 shX12_cheat_111
theorem shX12_cheat_115 : cX12_cheat.data.toList.drop 115 = sxX12_cheat_115 := dSn 1 shX12_cheat_114
theorem shX12_cheat_118 : cX12_cheat.data.toList.drop 118 = sxX12_cheat_118 := dSn 3 shX12_cheat_115
theorem shX12_cheat_120 : cX12_cheat.data.toList.drop 120 = sxX12_cheat_120 := dSn 2 shX12_cheat_118
theorem shX12_cheat_121 : cX12_cheat.data.toList.drop 121 = sxX12_cheat_121 := dSn 1 shX12_cheat_120
theorem shX12_cheat_122 : cX12_cheat.data.toList.drop 122 = sxX12_cheat_122 := dSn 1 shX12_cheat_121
theorem shX12_cheat_125 : cX12_cheat.data.toList.drop 125 = sxX12_cheat_125 := dSn 3 shX12_cheat_122
theorem shX12_cheat_126 : cX12_cheat.data.toList.drop 126 = sxX12_cheat_126 := dSn 1 shX12_cheat_125
theorem shX12_cheat_129 : cX12_cheat.data.toList.drop 129 = sxX12_cheat_129 := dSn 3 shX12_cheat_126
theorem shX12_cheat_130 : cX12_cheat.data.toList.drop 130 = sxX12_cheat_130 := dSn 1 shX12_cheat_129
theorem shX12_cheat_131 : cX12_cheat.data.toList.drop 131 = sxX12_cheat_131 := dSn 1 shX12_cheat_130
theorem shX12_cheat_133 : cX12_cheat.data.toList.drop 133 = sxX12_cheat_133 := dSn 2 shX12_cheat_131
theorem shX12_cheat_136 : cX12_cheat.data.toList.drop 136 = sxX12_cheat_136 := dSn 3 shX12_cheat_133
theorem shX12_cheat_139 : cX12_cheat.data.toList.drop 139 = sxX12_cheat_139 := dSn 3 shX12_cheat_136
theorem shX12_cheat_140 : cX12_cheat.data.toList.drop 140 = sxX12_cheat_140 := dSn 1 shX12_cheat_139
theorem shX12_cheat_142 : cX12_cheat.data.toList.drop 142 = sxX12_cheat_142 := dSn 2 shX12_cheat_140
theorem shX12_cheat_144 : cX12_cheat.data.toList.drop 144 = sxX12_cheat_144 := dSn 2 shX12_cheat_142
theorem shX12_cheat_146 : cX12_cheat.data.toList.drop 146 = sxX12_cheat_146 := dSn 2 shX12_cheat_144
theorem shX12_cheat_147 : cX12_cheat.data.toList.drop 147 = sxX12_cheat_147 := dSn 1 shX12_cheat_146
theorem shX12_cheat_150 : cX12_cheat.data.toList.drop 150 = sxX12_cheat_150 := dSn 3 shX12_cheat_147
theorem dX12_cheat_0 : decode cX12_cheat 0 = .ok (.aload_n 0, 1) := oc_42 shX12_cheat_0
theorem dX12_cheat_1 : decode cX12_cheat 1 = .ok (.iload_n 1, 1) := oc_27 shX12_cheat_1
theorem dX12_cheat_2 : decode cX12_cheat 2 = .ok (.invokevirtual 218, 3) := oc_182 shX12_cheat_2
theorem dX12_cheat_5 : decode cX12_cheat 5 = .ok (.ifCond .eq 23, 3) := oc_153 shX12_cheat_5 sgw_0_23
theorem dX12_cheat_8 : decode cX12_cheat 8 = .ok (.iload_n 2, 1) := oc_28 shX12_cheat_8
theorem dX12_cheat_9 : decode cX12_cheat 9 = .ok (.iconst 0, 1) := oc_3 shX12_cheat_9
theorem dX12_cheat_10 : decode cX12_cheat 10 = .ok (.sipush 1000, 3) := oc_17 shX12_cheat_10 sgw_3_232
theorem dX12_cheat_13 : decode cX12_cheat 13 = .ok (.invokestatic 214, 3) := oc_184 shX12_cheat_13
theorem dX12_cheat_16 : decode cX12_cheat 16 = .ok (.ifCond .eq 12, 3) := oc_153 shX12_cheat_16 sgw_0_12
theorem dX12_cheat_19 : decode cX12_cheat 19 = .ok (.iload_n 3, 1) := oc_29 shX12_cheat_19
theorem dX12_cheat_20 : decode cX12_cheat 20 = .ok (.iconst 0, 1) := oc_3 shX12_cheat_20
theorem dX12_cheat_21 : decode cX12_cheat 21 = .ok (.iconst 2, 1) := oc_5 shX12_cheat_21
theorem dX12_cheat_22 : decode cX12_cheat 22 = .ok (.invokestatic 214, 3) := oc_184 shX12_cheat_22
theorem dX12_cheat_25 : decode cX12_cheat 25 = .ok (.ifCond .ne 7, 3) := oc_154 shX12_cheat_25 sgw_0_7
theorem dX12_cheat_28 : decode cX12_cheat 28 = .ok (.ldc2_w 348, 3) := oc_20 shX12_cheat_28
theorem dX12_cheat_31 : decode cX12_cheat 31 = .ok (.lreturn, 1) := oc_173 shX12_cheat_31
theorem dX12_cheat_32 : decode cX12_cheat 32 = .ok (.iconst 0, 1) := oc_3 shX12_cheat_32
theorem dX12_cheat_33 : decode cX12_cheat 33 = .ok (.istore 4, 2) := oc_54 shX12_cheat_33
theorem dX12_cheat_35 : decode cX12_cheat 35 = .ok (.iconst 0, 1) := oc_3 shX12_cheat_35
theorem dX12_cheat_36 : decode cX12_cheat 36 = .ok (.istore 5, 2) := oc_54 shX12_cheat_36
theorem dX12_cheat_38 : decode cX12_cheat 38 = .ok (.iconst 0, 1) := oc_3 shX12_cheat_38
theorem dX12_cheat_39 : decode cX12_cheat 39 = .ok (.istore 6, 2) := oc_54 shX12_cheat_39
theorem dX12_cheat_41 : decode cX12_cheat 41 = .ok (.iconst 0, 1) := oc_3 shX12_cheat_41
theorem dX12_cheat_42 : decode cX12_cheat 42 = .ok (.istore 7, 2) := oc_54 shX12_cheat_42
theorem dX12_cheat_44 : decode cX12_cheat 44 = .ok (.iload 7, 2) := oc_21 shX12_cheat_44
theorem dX12_cheat_46 : decode cX12_cheat 46 = .ok (.aload_n 0, 1) := oc_42 shX12_cheat_46
theorem dX12_cheat_47 : decode cX12_cheat 47 = .ok (.getfield 208, 3) := oc_180 shX12_cheat_47
theorem dX12_cheat_50 : decode cX12_cheat 50 = .ok (.if_icmp .ge 89, 3) := oc_162 shX12_cheat_50 sgw_0_89
theorem dX12_cheat_53 : decode cX12_cheat 53 = .ok (.aload_n 0, 1) := oc_42 shX12_cheat_53
theorem dX12_cheat_54 : decode cX12_cheat 54 = .ok (.getfield 34, 3) := oc_180 shX12_cheat_54
theorem dX12_cheat_57 : decode cX12_cheat 57 = .ok (.iload 7, 2) := oc_21 shX12_cheat_57
theorem dX12_cheat_59 : decode cX12_cheat 59 = .ok (.iaload, 1) := oc_46 shX12_cheat_59
theorem dX12_cheat_60 : decode cX12_cheat 60 = .ok (.iload_n 2, 1) := oc_28 shX12_cheat_60
theorem dX12_cheat_61 : decode cX12_cheat 61 = .ok (.if_icmp .lt 7, 3) := oc_161 shX12_cheat_61 sgw_0_7
theorem dX12_cheat_64 : decode cX12_cheat 64 = .ok (.iconst 1, 1) := oc_4 shX12_cheat_64
theorem dX12_cheat_65 : decode cX12_cheat 65 = .ok (.goto 4, 3) := oc_167 shX12_cheat_65 sgw_0_4
theorem dX12_cheat_68 : decode cX12_cheat 68 = .ok (.iconst 0, 1) := oc_3 shX12_cheat_68
theorem dX12_cheat_69 : decode cX12_cheat 69 = .ok (.istore 8, 2) := oc_54 shX12_cheat_69
theorem dX12_cheat_71 : decode cX12_cheat 71 = .ok (.iload 4, 2) := oc_21 shX12_cheat_71
theorem dX12_cheat_73 : decode cX12_cheat 73 = .ok (.iload 8, 2) := oc_21 shX12_cheat_73
theorem dX12_cheat_75 : decode cX12_cheat 75 = .ok (.ifCond .eq 7, 3) := oc_153 shX12_cheat_75 sgw_0_7
theorem dX12_cheat_78 : decode cX12_cheat 78 = .ok (.iconst 1, 1) := oc_4 shX12_cheat_78
theorem dX12_cheat_79 : decode cX12_cheat 79 = .ok (.goto 4, 3) := oc_167 shX12_cheat_79 sgw_0_4
theorem dX12_cheat_82 : decode cX12_cheat 82 = .ok (.iconst 0, 1) := oc_3 shX12_cheat_82
theorem dX12_cheat_83 : decode cX12_cheat 83 = .ok (.iadd, 1) := oc_96 shX12_cheat_83
theorem dX12_cheat_84 : decode cX12_cheat 84 = .ok (.istore 4, 2) := oc_54 shX12_cheat_84
theorem dX12_cheat_86 : decode cX12_cheat 86 = .ok (.iload 5, 2) := oc_21 shX12_cheat_86
theorem dX12_cheat_88 : decode cX12_cheat 88 = .ok (.aload_n 0, 1) := oc_42 shX12_cheat_88
theorem dX12_cheat_89 : decode cX12_cheat 89 = .ok (.getfield 25, 3) := oc_180 shX12_cheat_89
theorem dX12_cheat_92 : decode cX12_cheat 92 = .ok (.iload 7, 2) := oc_21 shX12_cheat_92
theorem dX12_cheat_94 : decode cX12_cheat 94 = .ok (.iaload, 1) := oc_46 shX12_cheat_94
theorem dX12_cheat_95 : decode cX12_cheat 95 = .ok (.iload_n 1, 1) := oc_27 shX12_cheat_95
theorem dX12_cheat_96 : decode cX12_cheat 96 = .ok (.if_icmp .ne 7, 3) := oc_160 shX12_cheat_96 sgw_0_7
theorem dX12_cheat_99 : decode cX12_cheat 99 = .ok (.iconst 1, 1) := oc_4 shX12_cheat_99
theorem dX12_cheat_100 : decode cX12_cheat 100 = .ok (.goto 4, 3) := oc_167 shX12_cheat_100 sgw_0_4
theorem dX12_cheat_103 : decode cX12_cheat 103 = .ok (.iconst 0, 1) := oc_3 shX12_cheat_103
theorem dX12_cheat_104 : decode cX12_cheat 104 = .ok (.iadd, 1) := oc_96 shX12_cheat_104
theorem dX12_cheat_105 : decode cX12_cheat 105 = .ok (.istore 5, 2) := oc_54 shX12_cheat_105
theorem dX12_cheat_107 : decode cX12_cheat 107 = .ok (.iload 6, 2) := oc_21 shX12_cheat_107
theorem dX12_cheat_109 : decode cX12_cheat 109 = .ok (.iload 8, 2) := oc_21 shX12_cheat_109
theorem dX12_cheat_111 : decode cX12_cheat 111 = .ok (.ifCond .eq 18, 3) := oc_153 shX12_cheat_111 sgw_0_18
theorem dX12_cheat_114 : decode cX12_cheat 114 = .ok (.aload_n 0, 1) := oc_42 shX12_cheat_114
theorem dX12_cheat_115 : decode cX12_cheat 115 = .ok (.getfield 25, 3) := oc_180 shX12_cheat_115
theorem dX12_cheat_118 : decode cX12_cheat 118 = .ok (.iload 7, 2) := oc_21 shX12_cheat_118
theorem dX12_cheat_120 : decode cX12_cheat 120 = .ok (.iaload, 1) := oc_46 shX12_cheat_120
theorem dX12_cheat_121 : decode cX12_cheat 121 = .ok (.iload_n 1, 1) := oc_27 shX12_cheat_121
theorem dX12_cheat_122 : decode cX12_cheat 122 = .ok (.if_icmp .ne 7, 3) := oc_160 shX12_cheat_122 sgw_0_7
theorem dX12_cheat_125 : decode cX12_cheat 125 = .ok (.iconst 1, 1) := oc_4 shX12_cheat_125
theorem dX12_cheat_126 : decode cX12_cheat 126 = .ok (.goto 4, 3) := oc_167 shX12_cheat_126 sgw_0_4
theorem dX12_cheat_129 : decode cX12_cheat 129 = .ok (.iconst 0, 1) := oc_3 shX12_cheat_129
theorem dX12_cheat_130 : decode cX12_cheat 130 = .ok (.iadd, 1) := oc_96 shX12_cheat_130
theorem dX12_cheat_131 : decode cX12_cheat 131 = .ok (.istore 6, 2) := oc_54 shX12_cheat_131
theorem dX12_cheat_133 : decode cX12_cheat 133 = .ok (.iinc 7 1, 3) := oc_132 shX12_cheat_133 sgb_1
theorem dX12_cheat_136 : decode cX12_cheat 136 = .ok (.goto (-92), 3) := oc_167 shX12_cheat_136 sgw_255_164
theorem dX12_cheat_139 : decode cX12_cheat 139 = .ok (.aload_n 0, 1) := oc_42 shX12_cheat_139
theorem dX12_cheat_140 : decode cX12_cheat 140 = .ok (.iload 4, 2) := oc_21 shX12_cheat_140
theorem dX12_cheat_142 : decode cX12_cheat 142 = .ok (.iload 5, 2) := oc_21 shX12_cheat_142
theorem dX12_cheat_144 : decode cX12_cheat 144 = .ok (.iload 6, 2) := oc_21 shX12_cheat_144
theorem dX12_cheat_146 : decode cX12_cheat 146 = .ok (.iload_n 3, 1) := oc_29 shX12_cheat_146
theorem dX12_cheat_147 : decode cX12_cheat 147 = .ok (.invokevirtual 353, 3) := oc_182 shX12_cheat_147
theorem dX12_cheat_150 : decode cX12_cheat 150 = .ok (.lreturn, 1) := oc_173 shX12_cheat_150
noncomputable def sxX12_feast_29 : List UInt8 := []
noncomputable def sxX12_feast_28 : List UInt8 := 172 :: sxX12_feast_29
noncomputable def sxX12_feast_27 : List UInt8 := 4 :: sxX12_feast_28
noncomputable def sxX12_feast_26 : List UInt8 := 79 :: sxX12_feast_27
noncomputable def sxX12_feast_25 : List UInt8 := 28 :: sxX12_feast_26
noncomputable def sxX12_feast_24 : List UInt8 := 27 :: sxX12_feast_25
noncomputable def sxX12_feast_21 : List UInt8 := 180 :: 0 :: 98 :: sxX12_feast_24
noncomputable def sxX12_feast_20 : List UInt8 := 42 :: sxX12_feast_21
noncomputable def sxX12_feast_19 : List UInt8 := 172 :: sxX12_feast_20
noncomputable def sxX12_feast_18 : List UInt8 := 3 :: sxX12_feast_19
noncomputable def sxX12_feast_15 : List UInt8 := 154 :: 0 :: 5 :: sxX12_feast_18
noncomputable def sxX12_feast_12 : List UInt8 := 184 :: 0 :: 214 :: sxX12_feast_15
noncomputable def sxX12_feast_9 : List UInt8 := 17 :: 1 :: 44 :: sxX12_feast_12
noncomputable def sxX12_feast_8 : List UInt8 := 3 :: sxX12_feast_9
noncomputable def sxX12_feast_7 : List UInt8 := 28 :: sxX12_feast_8
noncomputable def sxX12_feast_4 : List UInt8 := 153 :: 0 :: 14 :: sxX12_feast_7
noncomputable def sxX12_feast_1 : List UInt8 := 184 :: 1 :: 85 :: sxX12_feast_4
noncomputable def sxX12_feast_0 : List UInt8 := 27 :: sxX12_feast_1
theorem shX12_feast_0 : cX12_feast.data.toList.drop 0 = sxX12_feast_0 := rfl
theorem shX12_feast_1 : cX12_feast.data.toList.drop 1 = sxX12_feast_1 := dSn 1 shX12_feast_0
theorem shX12_feast_4 : cX12_feast.data.toList.drop 4 = sxX12_feast_4 := dSn 3 shX12_feast_1
theorem shX12_feast_7 : cX12_feast.data.toList.drop 7 = sxX12_feast_7 := dSn 3 shX12_feast_4
theorem shX12_feast_8 : cX12_feast.data.toList.drop 8 = sxX12_feast_8 := dSn 1 shX12_feast_7
theorem shX12_feast_9 : cX12_feast.data.toList.drop 9 = sxX12_feast_9 := dSn 1 shX12_feast_8
theorem shX12_feast_12 : cX12_feast.data.toList.drop 12 = sxX12_feast_12 := dSn 3 shX12_feast_9
theorem shX12_feast_15 : cX12_feast.data.toList.drop 15 = sxX12_feast_15 := dSn 3 shX12_feast_12
theorem shX12_feast_18 : cX12_feast.data.toList.drop 18 = sxX12_feast_18 := dSn 3 shX12_feast_15
theorem shX12_feast_19 : cX12_feast.data.toList.drop 19 = sxX12_feast_19 := dSn 1 shX12_feast_18
theorem shX12_feast_20 : cX12_feast.data.toList.drop 20 = sxX12_feast_20 := dSn 1 shX12_feast_19
theorem shX12_feast_21 : cX12_feast.data.toList.drop 21 = sxX12_feast_21 := dSn 1 shX12_feast_20
theorem shX12_feast_24 : cX12_feast.data.toList.drop 24 = sxX12_feast_24 := dSn 3 shX12_feast_21
theorem shX12_feast_25 : cX12_feast.data.toList.drop 25 = sxX12_feast_25 := dSn 1 shX12_feast_24
theorem shX12_feast_26 : cX12_feast.data.toList.drop 26 = sxX12_feast_26 := dSn 1 shX12_feast_25
theorem shX12_feast_27 : cX12_feast.data.toList.drop 27 = sxX12_feast_27 := dSn 1 shX12_feast_26
theorem shX12_feast_28 : cX12_feast.data.toList.drop 28 = sxX12_feast_28 := dSn 1 shX12_feast_27
theorem dX12_feast_0 : decode cX12_feast 0 = .ok (.iload_n 1, 1) := oc_27 shX12_feast_0
theorem dX12_feast_1 : decode cX12_feast 1 = .ok (.invokestatic 341, 3) := oc_184 shX12_feast_1
theorem dX12_feast_4 : decode cX12_feast 4 = .ok (.ifCond .eq 14, 3) := oc_153 shX12_feast_4 sgw_0_14
theorem dX12_feast_7 : decode cX12_feast 7 = .ok (.iload_n 2, 1) := oc_28 shX12_feast_7
theorem dX12_feast_8 : decode cX12_feast 8 = .ok (.iconst 0, 1) := oc_3 shX12_feast_8
theorem dX12_feast_9 : decode cX12_feast 9 = .ok (.sipush 300, 3) := oc_17 shX12_feast_9 sgw_1_44
theorem dX12_feast_12 : decode cX12_feast 12 = .ok (.invokestatic 214, 3) := oc_184 shX12_feast_12
theorem dX12_feast_15 : decode cX12_feast 15 = .ok (.ifCond .ne 5, 3) := oc_154 shX12_feast_15 sgw_0_5
theorem dX12_feast_18 : decode cX12_feast 18 = .ok (.iconst 0, 1) := oc_3 shX12_feast_18
theorem dX12_feast_19 : decode cX12_feast 19 = .ok (.ireturn, 1) := oc_172 shX12_feast_19
theorem dX12_feast_20 : decode cX12_feast 20 = .ok (.aload_n 0, 1) := oc_42 shX12_feast_20
theorem dX12_feast_21 : decode cX12_feast 21 = .ok (.getfield 98, 3) := oc_180 shX12_feast_21
theorem dX12_feast_24 : decode cX12_feast 24 = .ok (.iload_n 1, 1) := oc_27 shX12_feast_24
theorem dX12_feast_25 : decode cX12_feast 25 = .ok (.iload_n 2, 1) := oc_28 shX12_feast_25
theorem dX12_feast_26 : decode cX12_feast 26 = .ok (.iastore, 1) := oc_79 shX12_feast_26
theorem dX12_feast_27 : decode cX12_feast 27 = .ok (.iconst 1, 1) := oc_4 shX12_feast_27
theorem dX12_feast_28 : decode cX12_feast 28 = .ok (.ireturn, 1) := oc_172 shX12_feast_28
noncomputable def sxX12_feastedOf_80 : List UInt8 := []
noncomputable def sxX12_feastedOf_79 : List UInt8 := 172 :: sxX12_feastedOf_80
noncomputable def sxX12_feastedOf_78 : List UInt8 := 46 :: sxX12_feastedOf_79
noncomputable def sxX12_feastedOf_77 : List UInt8 := 28 :: sxX12_feastedOf_78
noncomputable def sxX12_feastedOf_74 : List UInt8 := 180 :: 0 :: 19 :: sxX12_feastedOf_77
noncomputable def sxX12_feastedOf_73 : List UInt8 := 42 :: sxX12_feastedOf_74
noncomputable def sxX12_feastedOf_70 : List UInt8 := 167 :: 0 :: 9 :: sxX12_feastedOf_73
noncomputable def sxX12_feastedOf_69 : List UInt8 := 29 :: sxX12_feastedOf_70
noncomputable def sxX12_feastedOf_66 : List UInt8 := 162 :: 0 :: 7 :: sxX12_feastedOf_69
noncomputable def sxX12_feastedOf_65 : List UInt8 := 46 :: sxX12_feastedOf_66
noncomputable def sxX12_feastedOf_64 : List UInt8 := 28 :: sxX12_feastedOf_65
noncomputable def sxX12_feastedOf_61 : List UInt8 := 180 :: 0 :: 19 :: sxX12_feastedOf_64
noncomputable def sxX12_feastedOf_60 : List UInt8 := 42 :: sxX12_feastedOf_61
noncomputable def sxX12_feastedOf_59 : List UInt8 := 29 :: sxX12_feastedOf_60
noncomputable def sxX12_feastedOf_56 : List UInt8 := 167 :: 255 :: 219 :: sxX12_feastedOf_59
noncomputable def sxX12_feastedOf_53 : List UInt8 := 132 :: 4 :: 1 :: sxX12_feastedOf_56
noncomputable def sxX12_feastedOf_52 : List UInt8 := 62 :: sxX12_feastedOf_53
noncomputable def sxX12_feastedOf_51 : List UInt8 := 96 :: sxX12_feastedOf_52
noncomputable def sxX12_feastedOf_50 : List UInt8 := 108 :: sxX12_feastedOf_51
noncomputable def sxX12_feastedOf_48 : List UInt8 := 16 :: 100 :: sxX12_feastedOf_50
noncomputable def sxX12_feastedOf_47 : List UInt8 := 104 :: sxX12_feastedOf_48
noncomputable def sxX12_feastedOf_46 : List UInt8 := 96 :: sxX12_feastedOf_47
noncomputable def sxX12_feastedOf_45 : List UInt8 := 46 :: sxX12_feastedOf_46
noncomputable def sxX12_feastedOf_43 : List UInt8 := 21 :: 4 :: sxX12_feastedOf_45
noncomputable def sxX12_feastedOf_40 : List UInt8 := 180 :: 0 :: 98 :: sxX12_feastedOf_43
noncomputable def sxX12_feastedOf_39 : List UInt8 := 42 :: sxX12_feastedOf_40
noncomputable def sxX12_feastedOf_37 : List UInt8 := 16 :: 100 :: sxX12_feastedOf_39
noncomputable def sxX12_feastedOf_36 : List UInt8 := 46 :: sxX12_feastedOf_37
noncomputable def sxX12_feastedOf_35 : List UInt8 := 28 :: sxX12_feastedOf_36
noncomputable def sxX12_feastedOf_32 : List UInt8 := 180 :: 0 :: 16 :: sxX12_feastedOf_35
noncomputable def sxX12_feastedOf_31 : List UInt8 := 42 :: sxX12_feastedOf_32
noncomputable def sxX12_feastedOf_30 : List UInt8 := 29 :: sxX12_feastedOf_31
noncomputable def sxX12_feastedOf_27 : List UInt8 := 163 :: 0 :: 32 :: sxX12_feastedOf_30
noncomputable def sxX12_feastedOf_26 : List UInt8 := 46 :: sxX12_feastedOf_27
noncomputable def sxX12_feastedOf_25 : List UInt8 := 27 :: sxX12_feastedOf_26
noncomputable def sxX12_feastedOf_22 : List UInt8 := 180 :: 0 :: 28 :: sxX12_feastedOf_25
noncomputable def sxX12_feastedOf_21 : List UInt8 := 42 :: sxX12_feastedOf_22
noncomputable def sxX12_feastedOf_19 : List UInt8 := 21 :: 4 :: sxX12_feastedOf_21
noncomputable def sxX12_feastedOf_17 : List UInt8 := 54 :: 4 :: sxX12_feastedOf_19
noncomputable def sxX12_feastedOf_16 : List UInt8 := 96 :: sxX12_feastedOf_17
noncomputable def sxX12_feastedOf_15 : List UInt8 := 4 :: sxX12_feastedOf_16
noncomputable def sxX12_feastedOf_14 : List UInt8 := 46 :: sxX12_feastedOf_15
noncomputable def sxX12_feastedOf_13 : List UInt8 := 27 :: sxX12_feastedOf_14
noncomputable def sxX12_feastedOf_10 : List UInt8 := 180 :: 0 :: 49 :: sxX12_feastedOf_13
noncomputable def sxX12_feastedOf_9 : List UInt8 := 42 :: sxX12_feastedOf_10
noncomputable def sxX12_feastedOf_8 : List UInt8 := 62 :: sxX12_feastedOf_9
noncomputable def sxX12_feastedOf_7 : List UInt8 := 3 :: sxX12_feastedOf_8
noncomputable def sxX12_feastedOf_6 : List UInt8 := 61 :: sxX12_feastedOf_7
noncomputable def sxX12_feastedOf_5 : List UInt8 := 46 :: sxX12_feastedOf_6
noncomputable def sxX12_feastedOf_4 : List UInt8 := 27 :: sxX12_feastedOf_5
noncomputable def sxX12_feastedOf_1 : List UInt8 := 180 :: 0 :: 25 :: sxX12_feastedOf_4
noncomputable def sxX12_feastedOf_0 : List UInt8 := 42 :: sxX12_feastedOf_1
theorem shX12_feastedOf_0 : cX12_feastedOf.data.toList.drop 0 = sxX12_feastedOf_0 := rfl
theorem shX12_feastedOf_1 : cX12_feastedOf.data.toList.drop 1 = sxX12_feastedOf_1 := dSn 1 shX12_feastedOf_0
theorem shX12_feastedOf_4 : cX12_feastedOf.data.toList.drop 4 = sxX12_feastedOf_4 := dSn 3 shX12_feastedOf_1
theorem shX12_feastedOf_5 : cX12_feastedOf.data.toList.drop 5 = sxX12_feastedOf_5 := dSn 1 shX12_feastedOf_4
theorem shX12_feastedOf_6 : cX12_feastedOf.data.toList.drop 6 = sxX12_feastedOf_6 := dSn 1 shX12_feastedOf_5
theorem shX12_feastedOf_7 : cX12_feastedOf.data.toList.drop 7 = sxX12_feastedOf_7 := dSn 1 shX12_feastedOf_6
theorem shX12_feastedOf_8 : cX12_feastedOf.data.toList.drop 8 = sxX12_feastedOf_8 := dSn 1 shX12_feastedOf_7
theorem shX12_feastedOf_9 : cX12_feastedOf.data.toList.drop 9 = sxX12_feastedOf_9 := dSn 1 shX12_feastedOf_8
theorem shX12_feastedOf_10 : cX12_feastedOf.data.toList.drop 10 = sxX12_feastedOf_10 := dSn 1 shX12_feastedOf_9
theorem shX12_feastedOf_13 : cX12_feastedOf.data.toList.drop 13 = sxX12_feastedOf_13 := dSn 3 shX12_feastedOf_10
theorem shX12_feastedOf_14 : cX12_feastedOf.data.toList.drop 14 = sxX12_feastedOf_14 := dSn 1 shX12_feastedOf_13
theorem shX12_feastedOf_15 : cX12_feastedOf.data.toList.drop 15 = sxX12_feastedOf_15 := dSn 1 shX12_feastedOf_14
theorem shX12_feastedOf_16 : cX12_feastedOf.data.toList.drop 16 = sxX12_feastedOf_16 := dSn 1 shX12_feastedOf_15
theorem shX12_feastedOf_17 : cX12_feastedOf.data.toList.drop 17 = sxX12_feastedOf_17 := dSn 1 shX12_feastedOf_16
theorem shX12_feastedOf_19 : cX12_feastedOf.data.toList.drop 19 = sxX12_feastedOf_19 := dSn 2 shX12_feastedOf_17
theorem shX12_feastedOf_21 : cX12_feastedOf.data.toList.drop 21 = sxX12_feastedOf_21 := dSn 2 shX12_feastedOf_19
theorem shX12_feastedOf_22 : cX12_feastedOf.data.toList.drop 22 = sxX12_feastedOf_22 := dSn 1 shX12_feastedOf_21
theorem shX12_feastedOf_25 : cX12_feastedOf.data.toList.drop 25 = sxX12_feastedOf_25 := dSn 3 shX12_feastedOf_22
theorem shX12_feastedOf_26 : cX12_feastedOf.data.toList.drop 26 = sxX12_feastedOf_26 := dSn 1 shX12_feastedOf_25
theorem shX12_feastedOf_27 : cX12_feastedOf.data.toList.drop 27 = sxX12_feastedOf_27 := dSn 1 shX12_feastedOf_26
theorem shX12_feastedOf_30 : cX12_feastedOf.data.toList.drop 30 = sxX12_feastedOf_30 := dSn 3 shX12_feastedOf_27
theorem shX12_feastedOf_31 : cX12_feastedOf.data.toList.drop 31 = sxX12_feastedOf_31 := dSn 1 shX12_feastedOf_30
theorem shX12_feastedOf_32 : cX12_feastedOf.data.toList.drop 32 = sxX12_feastedOf_32 := dSn 1 shX12_feastedOf_31
theorem shX12_feastedOf_35 : cX12_feastedOf.data.toList.drop 35 = sxX12_feastedOf_35 := dSn 3 shX12_feastedOf_32
theorem shX12_feastedOf_36 : cX12_feastedOf.data.toList.drop 36 = sxX12_feastedOf_36 := dSn 1 shX12_feastedOf_35
theorem shX12_feastedOf_37 : cX12_feastedOf.data.toList.drop 37 = sxX12_feastedOf_37 := dSn 1 shX12_feastedOf_36
theorem shX12_feastedOf_39 : cX12_feastedOf.data.toList.drop 39 = sxX12_feastedOf_39 := dSn 2 shX12_feastedOf_37
theorem shX12_feastedOf_40 : cX12_feastedOf.data.toList.drop 40 = sxX12_feastedOf_40 := dSn 1 shX12_feastedOf_39
theorem shX12_feastedOf_43 : cX12_feastedOf.data.toList.drop 43 = sxX12_feastedOf_43 := dSn 3 shX12_feastedOf_40
theorem shX12_feastedOf_45 : cX12_feastedOf.data.toList.drop 45 = sxX12_feastedOf_45 := dSn 2 shX12_feastedOf_43
theorem shX12_feastedOf_46 : cX12_feastedOf.data.toList.drop 46 = sxX12_feastedOf_46 := dSn 1 shX12_feastedOf_45
theorem shX12_feastedOf_47 : cX12_feastedOf.data.toList.drop 47 = sxX12_feastedOf_47 := dSn 1 shX12_feastedOf_46
theorem shX12_feastedOf_48 : cX12_feastedOf.data.toList.drop 48 = sxX12_feastedOf_48 := dSn 1 shX12_feastedOf_47
theorem shX12_feastedOf_50 : cX12_feastedOf.data.toList.drop 50 = sxX12_feastedOf_50 := dSn 2 shX12_feastedOf_48
theorem shX12_feastedOf_51 : cX12_feastedOf.data.toList.drop 51 = sxX12_feastedOf_51 := dSn 1 shX12_feastedOf_50
theorem shX12_feastedOf_52 : cX12_feastedOf.data.toList.drop 52 = sxX12_feastedOf_52 := dSn 1 shX12_feastedOf_51
theorem shX12_feastedOf_53 : cX12_feastedOf.data.toList.drop 53 = sxX12_feastedOf_53 := dSn 1 shX12_feastedOf_52
theorem shX12_feastedOf_56 : cX12_feastedOf.data.toList.drop 56 = sxX12_feastedOf_56 := dSn 3 shX12_feastedOf_53
theorem shX12_feastedOf_59 : cX12_feastedOf.data.toList.drop 59 = sxX12_feastedOf_59 := dSn 3 shX12_feastedOf_56
theorem shX12_feastedOf_60 : cX12_feastedOf.data.toList.drop 60 = sxX12_feastedOf_60 := dSn 1 shX12_feastedOf_59
theorem shX12_feastedOf_61 : cX12_feastedOf.data.toList.drop 61 = sxX12_feastedOf_61 := dSn 1 shX12_feastedOf_60
theorem shX12_feastedOf_64 : cX12_feastedOf.data.toList.drop 64 = sxX12_feastedOf_64 := dSn 3 shX12_feastedOf_61
theorem shX12_feastedOf_65 : cX12_feastedOf.data.toList.drop 65 = sxX12_feastedOf_65 := dSn 1 shX12_feastedOf_64
theorem shX12_feastedOf_66 : cX12_feastedOf.data.toList.drop 66 = sxX12_feastedOf_66 := dSn 1 shX12_feastedOf_65
theorem shX12_feastedOf_69 : cX12_feastedOf.data.toList.drop 69 = sxX12_feastedOf_69 := dSn 3 shX12_feastedOf_66
theorem shX12_feastedOf_70 : cX12_feastedOf.data.toList.drop 70 = sxX12_feastedOf_70 := dSn 1 shX12_feastedOf_69
theorem shX12_feastedOf_73 : cX12_feastedOf.data.toList.drop 73 = sxX12_feastedOf_73 := dSn 3 shX12_feastedOf_70
theorem shX12_feastedOf_74 : cX12_feastedOf.data.toList.drop 74 = sxX12_feastedOf_74 := dSn 1 shX12_feastedOf_73
theorem shX12_feastedOf_77 : cX12_feastedOf.data.toList.drop 77 = sxX12_feastedOf_77 := dSn 3 shX12_feastedOf_74
theorem shX12_feastedOf_78 : cX12_feastedOf.data.toList.drop 78 = sxX12_feastedOf_78 := dSn 1 shX12_feastedOf_77
theorem shX12_feastedOf_79 : cX12_feastedOf.data.toList.drop 79 = sxX12_feastedOf_79 := dSn 1 shX12_feastedOf_78
theorem dX12_feastedOf_0 : decode cX12_feastedOf 0 = .ok (.aload_n 0, 1) := oc_42 shX12_feastedOf_0
theorem dX12_feastedOf_1 : decode cX12_feastedOf 1 = .ok (.getfield 25, 3) := oc_180 shX12_feastedOf_1
theorem dX12_feastedOf_4 : decode cX12_feastedOf 4 = .ok (.iload_n 1, 1) := oc_27 shX12_feastedOf_4
theorem dX12_feastedOf_5 : decode cX12_feastedOf 5 = .ok (.iaload, 1) := oc_46 shX12_feastedOf_5
theorem dX12_feastedOf_6 : decode cX12_feastedOf 6 = .ok (.istore_n 2, 1) := oc_61 shX12_feastedOf_6
theorem dX12_feastedOf_7 : decode cX12_feastedOf 7 = .ok (.iconst 0, 1) := oc_3 shX12_feastedOf_7
theorem dX12_feastedOf_8 : decode cX12_feastedOf 8 = .ok (.istore_n 3, 1) := oc_62 shX12_feastedOf_8
theorem dX12_feastedOf_9 : decode cX12_feastedOf 9 = .ok (.aload_n 0, 1) := oc_42 shX12_feastedOf_9
theorem dX12_feastedOf_10 : decode cX12_feastedOf 10 = .ok (.getfield 49, 3) := oc_180 shX12_feastedOf_10
theorem dX12_feastedOf_13 : decode cX12_feastedOf 13 = .ok (.iload_n 1, 1) := oc_27 shX12_feastedOf_13
theorem dX12_feastedOf_14 : decode cX12_feastedOf 14 = .ok (.iaload, 1) := oc_46 shX12_feastedOf_14
theorem dX12_feastedOf_15 : decode cX12_feastedOf 15 = .ok (.iconst 1, 1) := oc_4 shX12_feastedOf_15
theorem dX12_feastedOf_16 : decode cX12_feastedOf 16 = .ok (.iadd, 1) := oc_96 shX12_feastedOf_16
theorem dX12_feastedOf_17 : decode cX12_feastedOf 17 = .ok (.istore 4, 2) := oc_54 shX12_feastedOf_17
theorem dX12_feastedOf_19 : decode cX12_feastedOf 19 = .ok (.iload 4, 2) := oc_21 shX12_feastedOf_19
theorem dX12_feastedOf_21 : decode cX12_feastedOf 21 = .ok (.aload_n 0, 1) := oc_42 shX12_feastedOf_21
theorem dX12_feastedOf_22 : decode cX12_feastedOf 22 = .ok (.getfield 28, 3) := oc_180 shX12_feastedOf_22
theorem dX12_feastedOf_25 : decode cX12_feastedOf 25 = .ok (.iload_n 1, 1) := oc_27 shX12_feastedOf_25
theorem dX12_feastedOf_26 : decode cX12_feastedOf 26 = .ok (.iaload, 1) := oc_46 shX12_feastedOf_26
theorem dX12_feastedOf_27 : decode cX12_feastedOf 27 = .ok (.if_icmp .gt 32, 3) := oc_163 shX12_feastedOf_27 sgw_0_32
theorem dX12_feastedOf_30 : decode cX12_feastedOf 30 = .ok (.iload_n 3, 1) := oc_29 shX12_feastedOf_30
theorem dX12_feastedOf_31 : decode cX12_feastedOf 31 = .ok (.aload_n 0, 1) := oc_42 shX12_feastedOf_31
theorem dX12_feastedOf_32 : decode cX12_feastedOf 32 = .ok (.getfield 16, 3) := oc_180 shX12_feastedOf_32
theorem dX12_feastedOf_35 : decode cX12_feastedOf 35 = .ok (.iload_n 2, 1) := oc_28 shX12_feastedOf_35
theorem dX12_feastedOf_36 : decode cX12_feastedOf 36 = .ok (.iaload, 1) := oc_46 shX12_feastedOf_36
theorem dX12_feastedOf_37 : decode cX12_feastedOf 37 = .ok (.bipush 100, 2) := oc_16 shX12_feastedOf_37 sgb_100
theorem dX12_feastedOf_39 : decode cX12_feastedOf 39 = .ok (.aload_n 0, 1) := oc_42 shX12_feastedOf_39
theorem dX12_feastedOf_40 : decode cX12_feastedOf 40 = .ok (.getfield 98, 3) := oc_180 shX12_feastedOf_40
theorem dX12_feastedOf_43 : decode cX12_feastedOf 43 = .ok (.iload 4, 2) := oc_21 shX12_feastedOf_43
theorem dX12_feastedOf_45 : decode cX12_feastedOf 45 = .ok (.iaload, 1) := oc_46 shX12_feastedOf_45
theorem dX12_feastedOf_46 : decode cX12_feastedOf 46 = .ok (.iadd, 1) := oc_96 shX12_feastedOf_46
theorem dX12_feastedOf_47 : decode cX12_feastedOf 47 = .ok (.imul, 1) := oc_104 shX12_feastedOf_47
theorem dX12_feastedOf_48 : decode cX12_feastedOf 48 = .ok (.bipush 100, 2) := oc_16 shX12_feastedOf_48 sgb_100
theorem dX12_feastedOf_50 : decode cX12_feastedOf 50 = .ok (.idiv, 1) := oc_108 shX12_feastedOf_50
theorem dX12_feastedOf_51 : decode cX12_feastedOf 51 = .ok (.iadd, 1) := oc_96 shX12_feastedOf_51
theorem dX12_feastedOf_52 : decode cX12_feastedOf 52 = .ok (.istore_n 3, 1) := oc_62 shX12_feastedOf_52
theorem dX12_feastedOf_53 : decode cX12_feastedOf 53 = .ok (.iinc 4 1, 3) := oc_132 shX12_feastedOf_53 sgb_1
theorem dX12_feastedOf_56 : decode cX12_feastedOf 56 = .ok (.goto (-37), 3) := oc_167 shX12_feastedOf_56 sgw_255_219
theorem dX12_feastedOf_59 : decode cX12_feastedOf 59 = .ok (.iload_n 3, 1) := oc_29 shX12_feastedOf_59
theorem dX12_feastedOf_60 : decode cX12_feastedOf 60 = .ok (.aload_n 0, 1) := oc_42 shX12_feastedOf_60
theorem dX12_feastedOf_61 : decode cX12_feastedOf 61 = .ok (.getfield 19, 3) := oc_180 shX12_feastedOf_61
theorem dX12_feastedOf_64 : decode cX12_feastedOf 64 = .ok (.iload_n 2, 1) := oc_28 shX12_feastedOf_64
theorem dX12_feastedOf_65 : decode cX12_feastedOf 65 = .ok (.iaload, 1) := oc_46 shX12_feastedOf_65
theorem dX12_feastedOf_66 : decode cX12_feastedOf 66 = .ok (.if_icmp .ge 7, 3) := oc_162 shX12_feastedOf_66 sgw_0_7
theorem dX12_feastedOf_69 : decode cX12_feastedOf 69 = .ok (.iload_n 3, 1) := oc_29 shX12_feastedOf_69
theorem dX12_feastedOf_70 : decode cX12_feastedOf 70 = .ok (.goto 9, 3) := oc_167 shX12_feastedOf_70 sgw_0_9
theorem dX12_feastedOf_73 : decode cX12_feastedOf 73 = .ok (.aload_n 0, 1) := oc_42 shX12_feastedOf_73
theorem dX12_feastedOf_74 : decode cX12_feastedOf 74 = .ok (.getfield 19, 3) := oc_180 shX12_feastedOf_74
theorem dX12_feastedOf_77 : decode cX12_feastedOf 77 = .ok (.iload_n 2, 1) := oc_28 shX12_feastedOf_77
theorem dX12_feastedOf_78 : decode cX12_feastedOf 78 = .ok (.iaload, 1) := oc_46 shX12_feastedOf_78
theorem dX12_feastedOf_79 : decode cX12_feastedOf 79 = .ok (.ireturn, 1) := oc_172 shX12_feastedOf_79
noncomputable def sxX12_feasted_60 : List UInt8 := []
noncomputable def sxX12_feasted_59 : List UInt8 := 172 :: sxX12_feasted_60
noncomputable def sxX12_feasted_58 : List UInt8 := 3 :: sxX12_feasted_59
noncomputable def sxX12_feasted_55 : List UInt8 := 167 :: 0 :: 4 :: sxX12_feasted_58
noncomputable def sxX12_feasted_53 : List UInt8 := 21 :: 4 :: sxX12_feasted_55
noncomputable def sxX12_feasted_50 : List UInt8 := 158 :: 0 :: 8 :: sxX12_feasted_53
noncomputable def sxX12_feasted_48 : List UInt8 := 21 :: 4 :: sxX12_feasted_50
noncomputable def sxX12_feasted_45 : List UInt8 := 167 :: 0 :: 14 :: sxX12_feasted_48
noncomputable def sxX12_feasted_44 : List UInt8 := 29 :: sxX12_feasted_45
noncomputable def sxX12_feasted_41 : List UInt8 := 154 :: 0 :: 7 :: sxX12_feasted_44
noncomputable def sxX12_feasted_40 : List UInt8 := 28 :: sxX12_feasted_41
noncomputable def sxX12_feasted_38 : List UInt8 := 54 :: 4 :: sxX12_feasted_40
noncomputable def sxX12_feasted_37 : List UInt8 := 100 :: sxX12_feasted_38
noncomputable def sxX12_feasted_36 : List UInt8 := 108 :: sxX12_feasted_37
noncomputable def sxX12_feasted_34 : List UInt8 := 16 :: 10 :: sxX12_feasted_36
noncomputable def sxX12_feasted_33 : List UInt8 := 29 :: sxX12_feasted_34
noncomputable def sxX12_feasted_32 : List UInt8 := 100 :: sxX12_feasted_33
noncomputable def sxX12_feasted_31 : List UInt8 := 46 :: sxX12_feasted_32
noncomputable def sxX12_feasted_30 : List UInt8 := 27 :: sxX12_feasted_31
noncomputable def sxX12_feasted_27 : List UInt8 := 180 :: 0 :: 31 :: sxX12_feasted_30
noncomputable def sxX12_feasted_26 : List UInt8 := 42 :: sxX12_feasted_27
noncomputable def sxX12_feasted_25 : List UInt8 := 29 :: sxX12_feasted_26
noncomputable def sxX12_feasted_24 : List UInt8 := 62 :: sxX12_feasted_25
noncomputable def sxX12_feasted_21 : List UInt8 := 182 :: 1 :: 101 :: sxX12_feasted_24
noncomputable def sxX12_feasted_20 : List UInt8 := 27 :: sxX12_feasted_21
noncomputable def sxX12_feasted_19 : List UInt8 := 42 :: sxX12_feasted_20
noncomputable def sxX12_feasted_18 : List UInt8 := 172 :: sxX12_feasted_19
noncomputable def sxX12_feasted_17 : List UInt8 := 2 :: sxX12_feasted_18
noncomputable def sxX12_feasted_14 : List UInt8 := 154 :: 0 :: 5 :: sxX12_feasted_17
noncomputable def sxX12_feasted_11 : List UInt8 := 184 :: 0 :: 214 :: sxX12_feasted_14
noncomputable def sxX12_feasted_10 : List UInt8 := 4 :: sxX12_feasted_11
noncomputable def sxX12_feasted_9 : List UInt8 := 3 :: sxX12_feasted_10
noncomputable def sxX12_feasted_8 : List UInt8 := 28 :: sxX12_feasted_9
noncomputable def sxX12_feasted_5 : List UInt8 := 153 :: 0 :: 12 :: sxX12_feasted_8
noncomputable def sxX12_feasted_2 : List UInt8 := 182 :: 1 :: 79 :: sxX12_feasted_5
noncomputable def sxX12_feasted_1 : List UInt8 := 27 :: sxX12_feasted_2
noncomputable def sxX12_feasted_0 : List UInt8 := 42 :: sxX12_feasted_1
theorem shX12_feasted_0 : cX12_feasted.data.toList.drop 0 = sxX12_feasted_0 := rfl
theorem shX12_feasted_1 : cX12_feasted.data.toList.drop 1 = sxX12_feasted_1 := dSn 1 shX12_feasted_0
theorem shX12_feasted_2 : cX12_feasted.data.toList.drop 2 = sxX12_feasted_2 := dSn 1 shX12_feasted_1
theorem shX12_feasted_5 : cX12_feasted.data.toList.drop 5 = sxX12_feasted_5 := dSn 3 shX12_feasted_2
theorem shX12_feasted_8 : cX12_feasted.data.toList.drop 8 = sxX12_feasted_8 := dSn 3 shX12_feasted_5
theorem shX12_feasted_9 : cX12_feasted.data.toList.drop 9 = sxX12_feasted_9 := dSn 1 shX12_feasted_8
theorem shX12_feasted_10 : cX12_feasted.data.toList.drop 10 = sxX12_feasted_10 := dSn 1 shX12_feasted_9
theorem shX12_feasted_11 : cX12_feasted.data.toList.drop 11 = sxX12_feasted_11 := dSn 1 shX12_feasted_10
theorem shX12_feasted_14 : cX12_feasted.data.toList.drop 14 = sxX12_feasted_14 := dSn 3 shX12_feasted_11
theorem shX12_feasted_17 : cX12_feasted.data.toList.drop 17 = sxX12_feasted_17 := dSn 3 shX12_feasted_14
theorem shX12_feasted_18 : cX12_feasted.data.toList.drop 18 = sxX12_feasted_18 := dSn 1 shX12_feasted_17
theorem shX12_feasted_19 : cX12_feasted.data.toList.drop 19 = sxX12_feasted_19 := dSn 1 shX12_feasted_18
theorem shX12_feasted_20 : cX12_feasted.data.toList.drop 20 = sxX12_feasted_20 := dSn 1 shX12_feasted_19
theorem shX12_feasted_21 : cX12_feasted.data.toList.drop 21 = sxX12_feasted_21 := dSn 1 shX12_feasted_20
theorem shX12_feasted_24 : cX12_feasted.data.toList.drop 24 = sxX12_feasted_24 := dSn 3 shX12_feasted_21
theorem shX12_feasted_25 : cX12_feasted.data.toList.drop 25 = sxX12_feasted_25 := dSn 1 shX12_feasted_24
theorem shX12_feasted_26 : cX12_feasted.data.toList.drop 26 = sxX12_feasted_26 := dSn 1 shX12_feasted_25
theorem shX12_feasted_27 : cX12_feasted.data.toList.drop 27 = sxX12_feasted_27 := dSn 1 shX12_feasted_26
theorem shX12_feasted_30 : cX12_feasted.data.toList.drop 30 = sxX12_feasted_30 := dSn 3 shX12_feasted_27
theorem shX12_feasted_31 : cX12_feasted.data.toList.drop 31 = sxX12_feasted_31 := dSn 1 shX12_feasted_30
theorem shX12_feasted_32 : cX12_feasted.data.toList.drop 32 = sxX12_feasted_32 := dSn 1 shX12_feasted_31
theorem shX12_feasted_33 : cX12_feasted.data.toList.drop 33 = sxX12_feasted_33 := dSn 1 shX12_feasted_32
theorem shX12_feasted_34 : cX12_feasted.data.toList.drop 34 = sxX12_feasted_34 := dSn 1 shX12_feasted_33
theorem shX12_feasted_36 : cX12_feasted.data.toList.drop 36 = sxX12_feasted_36 := dSn 2 shX12_feasted_34
theorem shX12_feasted_37 : cX12_feasted.data.toList.drop 37 = sxX12_feasted_37 := dSn 1 shX12_feasted_36
theorem shX12_feasted_38 : cX12_feasted.data.toList.drop 38 = sxX12_feasted_38 := dSn 1 shX12_feasted_37
theorem shX12_feasted_40 : cX12_feasted.data.toList.drop 40 = sxX12_feasted_40 := dSn 2 shX12_feasted_38
theorem shX12_feasted_41 : cX12_feasted.data.toList.drop 41 = sxX12_feasted_41 := dSn 1 shX12_feasted_40
theorem shX12_feasted_44 : cX12_feasted.data.toList.drop 44 = sxX12_feasted_44 := dSn 3 shX12_feasted_41
theorem shX12_feasted_45 : cX12_feasted.data.toList.drop 45 = sxX12_feasted_45 := dSn 1 shX12_feasted_44
theorem shX12_feasted_48 : cX12_feasted.data.toList.drop 48 = sxX12_feasted_48 := dSn 3 shX12_feasted_45
theorem shX12_feasted_50 : cX12_feasted.data.toList.drop 50 = sxX12_feasted_50 := dSn 2 shX12_feasted_48
theorem shX12_feasted_53 : cX12_feasted.data.toList.drop 53 = sxX12_feasted_53 := dSn 3 shX12_feasted_50
theorem shX12_feasted_55 : cX12_feasted.data.toList.drop 55 = sxX12_feasted_55 := dSn 2 shX12_feasted_53
theorem shX12_feasted_58 : cX12_feasted.data.toList.drop 58 = sxX12_feasted_58 := dSn 3 shX12_feasted_55
theorem shX12_feasted_59 : cX12_feasted.data.toList.drop 59 = sxX12_feasted_59 := dSn 1 shX12_feasted_58
theorem dX12_feasted_0 : decode cX12_feasted 0 = .ok (.aload_n 0, 1) := oc_42 shX12_feasted_0
theorem dX12_feasted_1 : decode cX12_feasted 1 = .ok (.iload_n 1, 1) := oc_27 shX12_feasted_1
theorem dX12_feasted_2 : decode cX12_feasted 2 = .ok (.invokevirtual 335, 3) := oc_182 shX12_feasted_2
theorem dX12_feasted_5 : decode cX12_feasted 5 = .ok (.ifCond .eq 12, 3) := oc_153 shX12_feasted_5 sgw_0_12
theorem dX12_feasted_8 : decode cX12_feasted 8 = .ok (.iload_n 2, 1) := oc_28 shX12_feasted_8
theorem dX12_feasted_9 : decode cX12_feasted 9 = .ok (.iconst 0, 1) := oc_3 shX12_feasted_9
theorem dX12_feasted_10 : decode cX12_feasted 10 = .ok (.iconst 1, 1) := oc_4 shX12_feasted_10
theorem dX12_feasted_11 : decode cX12_feasted 11 = .ok (.invokestatic 214, 3) := oc_184 shX12_feasted_11
theorem dX12_feasted_14 : decode cX12_feasted 14 = .ok (.ifCond .ne 5, 3) := oc_154 shX12_feasted_14 sgw_0_5
theorem dX12_feasted_17 : decode cX12_feasted 17 = .ok (.iconst (-1), 1) := oc_2 shX12_feasted_17
theorem dX12_feasted_18 : decode cX12_feasted 18 = .ok (.ireturn, 1) := oc_172 shX12_feasted_18
theorem dX12_feasted_19 : decode cX12_feasted 19 = .ok (.aload_n 0, 1) := oc_42 shX12_feasted_19
theorem dX12_feasted_20 : decode cX12_feasted 20 = .ok (.iload_n 1, 1) := oc_27 shX12_feasted_20
theorem dX12_feasted_21 : decode cX12_feasted 21 = .ok (.invokevirtual 357, 3) := oc_182 shX12_feasted_21
theorem dX12_feasted_24 : decode cX12_feasted 24 = .ok (.istore_n 3, 1) := oc_62 shX12_feasted_24
theorem dX12_feasted_25 : decode cX12_feasted 25 = .ok (.iload_n 3, 1) := oc_29 shX12_feasted_25
theorem dX12_feasted_26 : decode cX12_feasted 26 = .ok (.aload_n 0, 1) := oc_42 shX12_feasted_26
theorem dX12_feasted_27 : decode cX12_feasted 27 = .ok (.getfield 31, 3) := oc_180 shX12_feasted_27
theorem dX12_feasted_30 : decode cX12_feasted 30 = .ok (.iload_n 1, 1) := oc_27 shX12_feasted_30
theorem dX12_feasted_31 : decode cX12_feasted 31 = .ok (.iaload, 1) := oc_46 shX12_feasted_31
theorem dX12_feasted_32 : decode cX12_feasted 32 = .ok (.isub, 1) := oc_100 shX12_feasted_32
theorem dX12_feasted_33 : decode cX12_feasted 33 = .ok (.iload_n 3, 1) := oc_29 shX12_feasted_33
theorem dX12_feasted_34 : decode cX12_feasted 34 = .ok (.bipush 10, 2) := oc_16 shX12_feasted_34 sgb_10
theorem dX12_feasted_36 : decode cX12_feasted 36 = .ok (.idiv, 1) := oc_108 shX12_feasted_36
theorem dX12_feasted_37 : decode cX12_feasted 37 = .ok (.isub, 1) := oc_100 shX12_feasted_37
theorem dX12_feasted_38 : decode cX12_feasted 38 = .ok (.istore 4, 2) := oc_54 shX12_feasted_38
theorem dX12_feasted_40 : decode cX12_feasted 40 = .ok (.iload_n 2, 1) := oc_28 shX12_feasted_40
theorem dX12_feasted_41 : decode cX12_feasted 41 = .ok (.ifCond .ne 7, 3) := oc_154 shX12_feasted_41 sgw_0_7
theorem dX12_feasted_44 : decode cX12_feasted 44 = .ok (.iload_n 3, 1) := oc_29 shX12_feasted_44
theorem dX12_feasted_45 : decode cX12_feasted 45 = .ok (.goto 14, 3) := oc_167 shX12_feasted_45 sgw_0_14
theorem dX12_feasted_48 : decode cX12_feasted 48 = .ok (.iload 4, 2) := oc_21 shX12_feasted_48
theorem dX12_feasted_50 : decode cX12_feasted 50 = .ok (.ifCond .le 8, 3) := oc_158 shX12_feasted_50 sgw_0_8
theorem dX12_feasted_53 : decode cX12_feasted 53 = .ok (.iload 4, 2) := oc_21 shX12_feasted_53
theorem dX12_feasted_55 : decode cX12_feasted 55 = .ok (.goto 4, 3) := oc_167 shX12_feasted_55 sgw_0_4
theorem dX12_feasted_58 : decode cX12_feasted 58 = .ok (.iconst 0, 1) := oc_3 shX12_feasted_58
theorem dX12_feasted_59 : decode cX12_feasted 59 = .ok (.ireturn, 1) := oc_172 shX12_feasted_59
noncomputable def sxX12_apart_30 : List UInt8 := []
noncomputable def sxX12_apart_29 : List UInt8 := 172 :: sxX12_apart_30
noncomputable def sxX12_apart_28 : List UInt8 := 96 :: sxX12_apart_29
noncomputable def sxX12_apart_27 : List UInt8 := 100 :: sxX12_apart_28
noncomputable def sxX12_apart_26 : List UInt8 := 29 :: sxX12_apart_27
noncomputable def sxX12_apart_25 : List UInt8 := 27 :: sxX12_apart_26
noncomputable def sxX12_apart_22 : List UInt8 := 167 :: 0 :: 6 :: sxX12_apart_25
noncomputable def sxX12_apart_21 : List UInt8 := 100 :: sxX12_apart_22
noncomputable def sxX12_apart_20 : List UInt8 := 27 :: sxX12_apart_21
noncomputable def sxX12_apart_19 : List UInt8 := 29 :: sxX12_apart_20
noncomputable def sxX12_apart_16 : List UInt8 := 162 :: 0 :: 9 :: sxX12_apart_19
noncomputable def sxX12_apart_15 : List UInt8 := 29 :: sxX12_apart_16
noncomputable def sxX12_apart_14 : List UInt8 := 27 :: sxX12_apart_15
noncomputable def sxX12_apart_13 : List UInt8 := 100 :: sxX12_apart_14
noncomputable def sxX12_apart_12 : List UInt8 := 28 :: sxX12_apart_13
noncomputable def sxX12_apart_11 : List UInt8 := 26 :: sxX12_apart_12
noncomputable def sxX12_apart_8 : List UInt8 := 167 :: 0 :: 6 :: sxX12_apart_11
noncomputable def sxX12_apart_7 : List UInt8 := 100 :: sxX12_apart_8
noncomputable def sxX12_apart_6 : List UInt8 := 26 :: sxX12_apart_7
noncomputable def sxX12_apart_5 : List UInt8 := 28 :: sxX12_apart_6
noncomputable def sxX12_apart_2 : List UInt8 := 162 :: 0 :: 9 :: sxX12_apart_5
noncomputable def sxX12_apart_1 : List UInt8 := 28 :: sxX12_apart_2
noncomputable def sxX12_apart_0 : List UInt8 := 26 :: sxX12_apart_1
theorem shX12_apart_0 : cX12_apart.data.toList.drop 0 = sxX12_apart_0 := rfl
theorem shX12_apart_1 : cX12_apart.data.toList.drop 1 = sxX12_apart_1 := dSn 1 shX12_apart_0
theorem shX12_apart_2 : cX12_apart.data.toList.drop 2 = sxX12_apart_2 := dSn 1 shX12_apart_1
theorem shX12_apart_5 : cX12_apart.data.toList.drop 5 = sxX12_apart_5 := dSn 3 shX12_apart_2
theorem shX12_apart_6 : cX12_apart.data.toList.drop 6 = sxX12_apart_6 := dSn 1 shX12_apart_5
theorem shX12_apart_7 : cX12_apart.data.toList.drop 7 = sxX12_apart_7 := dSn 1 shX12_apart_6
theorem shX12_apart_8 : cX12_apart.data.toList.drop 8 = sxX12_apart_8 := dSn 1 shX12_apart_7
theorem shX12_apart_11 : cX12_apart.data.toList.drop 11 = sxX12_apart_11 := dSn 3 shX12_apart_8
theorem shX12_apart_12 : cX12_apart.data.toList.drop 12 = sxX12_apart_12 := dSn 1 shX12_apart_11
theorem shX12_apart_13 : cX12_apart.data.toList.drop 13 = sxX12_apart_13 := dSn 1 shX12_apart_12
theorem shX12_apart_14 : cX12_apart.data.toList.drop 14 = sxX12_apart_14 := dSn 1 shX12_apart_13
theorem shX12_apart_15 : cX12_apart.data.toList.drop 15 = sxX12_apart_15 := dSn 1 shX12_apart_14
theorem shX12_apart_16 : cX12_apart.data.toList.drop 16 = sxX12_apart_16 := dSn 1 shX12_apart_15
theorem shX12_apart_19 : cX12_apart.data.toList.drop 19 = sxX12_apart_19 := dSn 3 shX12_apart_16
theorem shX12_apart_20 : cX12_apart.data.toList.drop 20 = sxX12_apart_20 := dSn 1 shX12_apart_19
theorem shX12_apart_21 : cX12_apart.data.toList.drop 21 = sxX12_apart_21 := dSn 1 shX12_apart_20
theorem shX12_apart_22 : cX12_apart.data.toList.drop 22 = sxX12_apart_22 := dSn 1 shX12_apart_21
theorem shX12_apart_25 : cX12_apart.data.toList.drop 25 = sxX12_apart_25 := dSn 3 shX12_apart_22
theorem shX12_apart_26 : cX12_apart.data.toList.drop 26 = sxX12_apart_26 := dSn 1 shX12_apart_25
theorem shX12_apart_27 : cX12_apart.data.toList.drop 27 = sxX12_apart_27 := dSn 1 shX12_apart_26
theorem shX12_apart_28 : cX12_apart.data.toList.drop 28 = sxX12_apart_28 := dSn 1 shX12_apart_27
theorem shX12_apart_29 : cX12_apart.data.toList.drop 29 = sxX12_apart_29 := dSn 1 shX12_apart_28
theorem dX12_apart_0 : decode cX12_apart 0 = .ok (.iload_n 0, 1) := oc_26 shX12_apart_0
theorem dX12_apart_1 : decode cX12_apart 1 = .ok (.iload_n 2, 1) := oc_28 shX12_apart_1
theorem dX12_apart_2 : decode cX12_apart 2 = .ok (.if_icmp .ge 9, 3) := oc_162 shX12_apart_2 sgw_0_9
theorem dX12_apart_5 : decode cX12_apart 5 = .ok (.iload_n 2, 1) := oc_28 shX12_apart_5
theorem dX12_apart_6 : decode cX12_apart 6 = .ok (.iload_n 0, 1) := oc_26 shX12_apart_6
theorem dX12_apart_7 : decode cX12_apart 7 = .ok (.isub, 1) := oc_100 shX12_apart_7
theorem dX12_apart_8 : decode cX12_apart 8 = .ok (.goto 6, 3) := oc_167 shX12_apart_8 sgw_0_6
theorem dX12_apart_11 : decode cX12_apart 11 = .ok (.iload_n 0, 1) := oc_26 shX12_apart_11
theorem dX12_apart_12 : decode cX12_apart 12 = .ok (.iload_n 2, 1) := oc_28 shX12_apart_12
theorem dX12_apart_13 : decode cX12_apart 13 = .ok (.isub, 1) := oc_100 shX12_apart_13
theorem dX12_apart_14 : decode cX12_apart 14 = .ok (.iload_n 1, 1) := oc_27 shX12_apart_14
theorem dX12_apart_15 : decode cX12_apart 15 = .ok (.iload_n 3, 1) := oc_29 shX12_apart_15
theorem dX12_apart_16 : decode cX12_apart 16 = .ok (.if_icmp .ge 9, 3) := oc_162 shX12_apart_16 sgw_0_9
theorem dX12_apart_19 : decode cX12_apart 19 = .ok (.iload_n 3, 1) := oc_29 shX12_apart_19
theorem dX12_apart_20 : decode cX12_apart 20 = .ok (.iload_n 1, 1) := oc_27 shX12_apart_20
theorem dX12_apart_21 : decode cX12_apart 21 = .ok (.isub, 1) := oc_100 shX12_apart_21
theorem dX12_apart_22 : decode cX12_apart 22 = .ok (.goto 6, 3) := oc_167 shX12_apart_22 sgw_0_6
theorem dX12_apart_25 : decode cX12_apart 25 = .ok (.iload_n 1, 1) := oc_27 shX12_apart_25
theorem dX12_apart_26 : decode cX12_apart 26 = .ok (.iload_n 3, 1) := oc_29 shX12_apart_26
theorem dX12_apart_27 : decode cX12_apart 27 = .ok (.isub, 1) := oc_100 shX12_apart_27
theorem dX12_apart_28 : decode cX12_apart 28 = .ok (.iadd, 1) := oc_96 shX12_apart_28
theorem dX12_apart_29 : decode cX12_apart 29 = .ok (.ireturn, 1) := oc_172 shX12_apart_29
noncomputable def sxX12_toDepot_14 : List UInt8 := []
noncomputable def sxX12_toDepot_13 : List UInt8 := 172 :: sxX12_toDepot_14
noncomputable def sxX12_toDepot_12 : List UInt8 := 96 :: sxX12_toDepot_13
noncomputable def sxX12_toDepot_11 : List UInt8 := 46 :: sxX12_toDepot_12
noncomputable def sxX12_toDepot_10 : List UInt8 := 27 :: sxX12_toDepot_11
noncomputable def sxX12_toDepot_7 : List UInt8 := 180 :: 0 :: 13 :: sxX12_toDepot_10
noncomputable def sxX12_toDepot_6 : List UInt8 := 42 :: sxX12_toDepot_7
noncomputable def sxX12_toDepot_5 : List UInt8 := 46 :: sxX12_toDepot_6
noncomputable def sxX12_toDepot_4 : List UInt8 := 27 :: sxX12_toDepot_5
noncomputable def sxX12_toDepot_1 : List UInt8 := 180 :: 0 :: 7 :: sxX12_toDepot_4
noncomputable def sxX12_toDepot_0 : List UInt8 := 42 :: sxX12_toDepot_1
theorem shX12_toDepot_0 : cX12_toDepot.data.toList.drop 0 = sxX12_toDepot_0 := rfl
theorem shX12_toDepot_1 : cX12_toDepot.data.toList.drop 1 = sxX12_toDepot_1 := dSn 1 shX12_toDepot_0
theorem shX12_toDepot_4 : cX12_toDepot.data.toList.drop 4 = sxX12_toDepot_4 := dSn 3 shX12_toDepot_1
theorem shX12_toDepot_5 : cX12_toDepot.data.toList.drop 5 = sxX12_toDepot_5 := dSn 1 shX12_toDepot_4
theorem shX12_toDepot_6 : cX12_toDepot.data.toList.drop 6 = sxX12_toDepot_6 := dSn 1 shX12_toDepot_5
theorem shX12_toDepot_7 : cX12_toDepot.data.toList.drop 7 = sxX12_toDepot_7 := dSn 1 shX12_toDepot_6
theorem shX12_toDepot_10 : cX12_toDepot.data.toList.drop 10 = sxX12_toDepot_10 := dSn 3 shX12_toDepot_7
theorem shX12_toDepot_11 : cX12_toDepot.data.toList.drop 11 = sxX12_toDepot_11 := dSn 1 shX12_toDepot_10
theorem shX12_toDepot_12 : cX12_toDepot.data.toList.drop 12 = sxX12_toDepot_12 := dSn 1 shX12_toDepot_11
theorem shX12_toDepot_13 : cX12_toDepot.data.toList.drop 13 = sxX12_toDepot_13 := dSn 1 shX12_toDepot_12
theorem dX12_toDepot_0 : decode cX12_toDepot 0 = .ok (.aload_n 0, 1) := oc_42 shX12_toDepot_0
theorem dX12_toDepot_1 : decode cX12_toDepot 1 = .ok (.getfield 7, 3) := oc_180 shX12_toDepot_1
theorem dX12_toDepot_4 : decode cX12_toDepot 4 = .ok (.iload_n 1, 1) := oc_27 shX12_toDepot_4
theorem dX12_toDepot_5 : decode cX12_toDepot 5 = .ok (.iaload, 1) := oc_46 shX12_toDepot_5
theorem dX12_toDepot_6 : decode cX12_toDepot 6 = .ok (.aload_n 0, 1) := oc_42 shX12_toDepot_6
theorem dX12_toDepot_7 : decode cX12_toDepot 7 = .ok (.getfield 13, 3) := oc_180 shX12_toDepot_7
theorem dX12_toDepot_10 : decode cX12_toDepot 10 = .ok (.iload_n 1, 1) := oc_27 shX12_toDepot_10
theorem dX12_toDepot_11 : decode cX12_toDepot 11 = .ok (.iaload, 1) := oc_46 shX12_toDepot_11
theorem dX12_toDepot_12 : decode cX12_toDepot 12 = .ok (.iadd, 1) := oc_96 shX12_toDepot_12
theorem dX12_toDepot_13 : decode cX12_toDepot 13 = .ok (.ireturn, 1) := oc_172 shX12_toDepot_13
noncomputable def sxX12_way_28 : List UInt8 := []
noncomputable def sxX12_way_27 : List UInt8 := 172 :: sxX12_way_28
noncomputable def sxX12_way_24 : List UInt8 := 184 :: 1 :: 104 :: sxX12_way_27
noncomputable def sxX12_way_23 : List UInt8 := 46 :: sxX12_way_24
noncomputable def sxX12_way_22 : List UInt8 := 28 :: sxX12_way_23
noncomputable def sxX12_way_19 : List UInt8 := 180 :: 0 :: 13 :: sxX12_way_22
noncomputable def sxX12_way_18 : List UInt8 := 42 :: sxX12_way_19
noncomputable def sxX12_way_17 : List UInt8 := 46 :: sxX12_way_18
noncomputable def sxX12_way_16 : List UInt8 := 28 :: sxX12_way_17
noncomputable def sxX12_way_13 : List UInt8 := 180 :: 0 :: 7 :: sxX12_way_16
noncomputable def sxX12_way_12 : List UInt8 := 42 :: sxX12_way_13
noncomputable def sxX12_way_11 : List UInt8 := 46 :: sxX12_way_12
noncomputable def sxX12_way_10 : List UInt8 := 27 :: sxX12_way_11
noncomputable def sxX12_way_7 : List UInt8 := 180 :: 0 :: 13 :: sxX12_way_10
noncomputable def sxX12_way_6 : List UInt8 := 42 :: sxX12_way_7
noncomputable def sxX12_way_5 : List UInt8 := 46 :: sxX12_way_6
noncomputable def sxX12_way_4 : List UInt8 := 27 :: sxX12_way_5
noncomputable def sxX12_way_1 : List UInt8 := 180 :: 0 :: 7 :: sxX12_way_4
noncomputable def sxX12_way_0 : List UInt8 := 42 :: sxX12_way_1
theorem shX12_way_0 : cX12_way.data.toList.drop 0 = sxX12_way_0 := rfl
theorem shX12_way_1 : cX12_way.data.toList.drop 1 = sxX12_way_1 := dSn 1 shX12_way_0
theorem shX12_way_4 : cX12_way.data.toList.drop 4 = sxX12_way_4 := dSn 3 shX12_way_1
theorem shX12_way_5 : cX12_way.data.toList.drop 5 = sxX12_way_5 := dSn 1 shX12_way_4
theorem shX12_way_6 : cX12_way.data.toList.drop 6 = sxX12_way_6 := dSn 1 shX12_way_5
theorem shX12_way_7 : cX12_way.data.toList.drop 7 = sxX12_way_7 := dSn 1 shX12_way_6
theorem shX12_way_10 : cX12_way.data.toList.drop 10 = sxX12_way_10 := dSn 3 shX12_way_7
theorem shX12_way_11 : cX12_way.data.toList.drop 11 = sxX12_way_11 := dSn 1 shX12_way_10
theorem shX12_way_12 : cX12_way.data.toList.drop 12 = sxX12_way_12 := dSn 1 shX12_way_11
theorem shX12_way_13 : cX12_way.data.toList.drop 13 = sxX12_way_13 := dSn 1 shX12_way_12
theorem shX12_way_16 : cX12_way.data.toList.drop 16 = sxX12_way_16 := dSn 3 shX12_way_13
theorem shX12_way_17 : cX12_way.data.toList.drop 17 = sxX12_way_17 := dSn 1 shX12_way_16
theorem shX12_way_18 : cX12_way.data.toList.drop 18 = sxX12_way_18 := dSn 1 shX12_way_17
theorem shX12_way_19 : cX12_way.data.toList.drop 19 = sxX12_way_19 := dSn 1 shX12_way_18
theorem shX12_way_22 : cX12_way.data.toList.drop 22 = sxX12_way_22 := dSn 3 shX12_way_19
theorem shX12_way_23 : cX12_way.data.toList.drop 23 = sxX12_way_23 := dSn 1 shX12_way_22
theorem shX12_way_24 : cX12_way.data.toList.drop 24 = sxX12_way_24 := dSn 1 shX12_way_23
theorem shX12_way_27 : cX12_way.data.toList.drop 27 = sxX12_way_27 := dSn 3 shX12_way_24
theorem dX12_way_0 : decode cX12_way 0 = .ok (.aload_n 0, 1) := oc_42 shX12_way_0
theorem dX12_way_1 : decode cX12_way 1 = .ok (.getfield 7, 3) := oc_180 shX12_way_1
theorem dX12_way_4 : decode cX12_way 4 = .ok (.iload_n 1, 1) := oc_27 shX12_way_4
theorem dX12_way_5 : decode cX12_way 5 = .ok (.iaload, 1) := oc_46 shX12_way_5
theorem dX12_way_6 : decode cX12_way 6 = .ok (.aload_n 0, 1) := oc_42 shX12_way_6
theorem dX12_way_7 : decode cX12_way 7 = .ok (.getfield 13, 3) := oc_180 shX12_way_7
theorem dX12_way_10 : decode cX12_way 10 = .ok (.iload_n 1, 1) := oc_27 shX12_way_10
theorem dX12_way_11 : decode cX12_way 11 = .ok (.iaload, 1) := oc_46 shX12_way_11
theorem dX12_way_12 : decode cX12_way 12 = .ok (.aload_n 0, 1) := oc_42 shX12_way_12
theorem dX12_way_13 : decode cX12_way 13 = .ok (.getfield 7, 3) := oc_180 shX12_way_13
theorem dX12_way_16 : decode cX12_way 16 = .ok (.iload_n 2, 1) := oc_28 shX12_way_16
theorem dX12_way_17 : decode cX12_way 17 = .ok (.iaload, 1) := oc_46 shX12_way_17
theorem dX12_way_18 : decode cX12_way 18 = .ok (.aload_n 0, 1) := oc_42 shX12_way_18
theorem dX12_way_19 : decode cX12_way 19 = .ok (.getfield 13, 3) := oc_180 shX12_way_19
theorem dX12_way_22 : decode cX12_way 22 = .ok (.iload_n 2, 1) := oc_28 shX12_way_22
theorem dX12_way_23 : decode cX12_way 23 = .ok (.iaload, 1) := oc_46 shX12_way_23
theorem dX12_way_24 : decode cX12_way 24 = .ok (.invokestatic 360, 3) := oc_184 shX12_way_24
theorem dX12_way_27 : decode cX12_way 27 = .ok (.ireturn, 1) := oc_172 shX12_way_27
noncomputable def sxX12_goes_159 : List UInt8 := []
noncomputable def sxX12_goes_158 : List UInt8 := 177 :: sxX12_goes_159
noncomputable def sxX12_goes_155 : List UInt8 := 167 :: 255 :: 112 :: sxX12_goes_158
noncomputable def sxX12_goes_152 : List UInt8 := 132 :: 2 :: 1 :: sxX12_goes_155
noncomputable def sxX12_goes_149 : List UInt8 := 167 :: 255 :: 125 :: sxX12_goes_152
noncomputable def sxX12_goes_146 : List UInt8 := 132 :: 3 :: 1 :: sxX12_goes_149
noncomputable def sxX12_goes_145 : List UInt8 := 79 :: sxX12_goes_146
noncomputable def sxX12_goes_143 : List UInt8 := 21 :: 4 :: sxX12_goes_145
noncomputable def sxX12_goes_142 : List UInt8 := 96 :: sxX12_goes_143
noncomputable def sxX12_goes_141 : List UInt8 := 29 :: sxX12_goes_142
noncomputable def sxX12_goes_140 : List UInt8 := 104 :: sxX12_goes_141
noncomputable def sxX12_goes_139 : List UInt8 := 28 :: sxX12_goes_140
noncomputable def sxX12_goes_137 : List UInt8 := 16 :: 8 :: sxX12_goes_139
noncomputable def sxX12_goes_134 : List UInt8 := 180 :: 0 :: 104 :: sxX12_goes_137
noncomputable def sxX12_goes_133 : List UInt8 := 42 :: sxX12_goes_134
noncomputable def sxX12_goes_130 : List UInt8 := 167 :: 255 :: 177 :: sxX12_goes_133
noncomputable def sxX12_goes_127 : List UInt8 := 132 :: 5 :: 1 :: sxX12_goes_130
noncomputable def sxX12_goes_125 : List UInt8 := 54 :: 4 :: sxX12_goes_127
noncomputable def sxX12_goes_123 : List UInt8 := 21 :: 4 :: sxX12_goes_125
noncomputable def sxX12_goes_120 : List UInt8 := 167 :: 0 :: 5 :: sxX12_goes_123
noncomputable def sxX12_goes_118 : List UInt8 := 21 :: 6 :: sxX12_goes_120
noncomputable def sxX12_goes_115 : List UInt8 := 162 :: 0 :: 8 :: sxX12_goes_118
noncomputable def sxX12_goes_113 : List UInt8 := 21 :: 4 :: sxX12_goes_115
noncomputable def sxX12_goes_111 : List UInt8 := 21 :: 6 :: sxX12_goes_113
noncomputable def sxX12_goes_109 : List UInt8 := 54 :: 6 :: sxX12_goes_111
noncomputable def sxX12_goes_108 : List UInt8 := 96 :: sxX12_goes_109
noncomputable def sxX12_goes_107 : List UInt8 := 46 :: sxX12_goes_108
noncomputable def sxX12_goes_106 : List UInt8 := 96 :: sxX12_goes_107
noncomputable def sxX12_goes_104 : List UInt8 := 21 :: 5 :: sxX12_goes_106
noncomputable def sxX12_goes_103 : List UInt8 := 104 :: sxX12_goes_104
noncomputable def sxX12_goes_102 : List UInt8 := 126 :: sxX12_goes_103
noncomputable def sxX12_goes_101 : List UInt8 := 130 :: sxX12_goes_102
noncomputable def sxX12_goes_100 : List UInt8 := 2 :: sxX12_goes_101
noncomputable def sxX12_goes_99 : List UInt8 := 120 :: sxX12_goes_100
noncomputable def sxX12_goes_97 : List UInt8 := 21 :: 5 :: sxX12_goes_99
noncomputable def sxX12_goes_96 : List UInt8 := 4 :: sxX12_goes_97
noncomputable def sxX12_goes_95 : List UInt8 := 28 :: sxX12_goes_96
noncomputable def sxX12_goes_93 : List UInt8 := 16 :: 8 :: sxX12_goes_95
noncomputable def sxX12_goes_90 : List UInt8 := 180 :: 0 :: 104 :: sxX12_goes_93
noncomputable def sxX12_goes_89 : List UInt8 := 42 :: sxX12_goes_90
noncomputable def sxX12_goes_86 : List UInt8 := 182 :: 1 :: 115 :: sxX12_goes_89
noncomputable def sxX12_goes_85 : List UInt8 := 46 :: sxX12_goes_86
noncomputable def sxX12_goes_83 : List UInt8 := 21 :: 5 :: sxX12_goes_85
noncomputable def sxX12_goes_80 : List UInt8 := 180 :: 0 :: 101 :: sxX12_goes_83
noncomputable def sxX12_goes_79 : List UInt8 := 42 :: sxX12_goes_80
noncomputable def sxX12_goes_78 : List UInt8 := 46 :: sxX12_goes_79
noncomputable def sxX12_goes_77 : List UInt8 := 29 :: sxX12_goes_78
noncomputable def sxX12_goes_74 : List UInt8 := 180 :: 0 :: 101 :: sxX12_goes_77
noncomputable def sxX12_goes_73 : List UInt8 := 42 :: sxX12_goes_74
noncomputable def sxX12_goes_72 : List UInt8 := 42 :: sxX12_goes_73
noncomputable def sxX12_goes_69 : List UInt8 := 167 :: 0 :: 58 :: sxX12_goes_72
noncomputable def sxX12_goes_66 : List UInt8 := 154 :: 0 :: 6 :: sxX12_goes_69
noncomputable def sxX12_goes_65 : List UInt8 := 126 :: sxX12_goes_66
noncomputable def sxX12_goes_64 : List UInt8 := 4 :: sxX12_goes_65
noncomputable def sxX12_goes_63 : List UInt8 := 122 :: sxX12_goes_64
noncomputable def sxX12_goes_61 : List UInt8 := 21 :: 5 :: sxX12_goes_63
noncomputable def sxX12_goes_60 : List UInt8 := 28 :: sxX12_goes_61
noncomputable def sxX12_goes_57 : List UInt8 := 162 :: 0 :: 76 :: sxX12_goes_60
noncomputable def sxX12_goes_54 : List UInt8 := 180 :: 1 :: 108 :: sxX12_goes_57
noncomputable def sxX12_goes_53 : List UInt8 := 42 :: sxX12_goes_54
noncomputable def sxX12_goes_51 : List UInt8 := 21 :: 5 :: sxX12_goes_53
noncomputable def sxX12_goes_49 : List UInt8 := 54 :: 5 :: sxX12_goes_51
noncomputable def sxX12_goes_48 : List UInt8 := 3 :: sxX12_goes_49
noncomputable def sxX12_goes_46 : List UInt8 := 54 :: 4 :: sxX12_goes_48
noncomputable def sxX12_goes_43 : List UInt8 := 19 :: 1 :: 114 :: sxX12_goes_46
noncomputable def sxX12_goes_40 : List UInt8 := 167 :: 0 :: 6 :: sxX12_goes_43
noncomputable def sxX12_goes_37 : List UInt8 := 182 :: 1 :: 111 :: sxX12_goes_40
noncomputable def sxX12_goes_36 : List UInt8 := 46 :: sxX12_goes_37
noncomputable def sxX12_goes_35 : List UInt8 := 29 :: sxX12_goes_36
noncomputable def sxX12_goes_32 : List UInt8 := 180 :: 0 :: 101 :: sxX12_goes_35
noncomputable def sxX12_goes_31 : List UInt8 := 42 :: sxX12_goes_32
noncomputable def sxX12_goes_30 : List UInt8 := 42 :: sxX12_goes_31
noncomputable def sxX12_goes_27 : List UInt8 := 154 :: 0 :: 16 :: sxX12_goes_30
noncomputable def sxX12_goes_26 : List UInt8 := 28 :: sxX12_goes_27
noncomputable def sxX12_goes_23 : List UInt8 := 162 :: 0 :: 129 :: sxX12_goes_26
noncomputable def sxX12_goes_20 : List UInt8 := 180 :: 1 :: 108 :: sxX12_goes_23
noncomputable def sxX12_goes_19 : List UInt8 := 42 :: sxX12_goes_20
noncomputable def sxX12_goes_18 : List UInt8 := 29 :: sxX12_goes_19
noncomputable def sxX12_goes_17 : List UInt8 := 62 :: sxX12_goes_18
noncomputable def sxX12_goes_16 : List UInt8 := 3 :: sxX12_goes_17
noncomputable def sxX12_goes_13 : List UInt8 := 163 :: 0 :: 145 :: sxX12_goes_16
noncomputable def sxX12_goes_12 : List UInt8 := 27 :: sxX12_goes_13
noncomputable def sxX12_goes_11 : List UInt8 := 28 :: sxX12_goes_12
noncomputable def sxX12_goes_10 : List UInt8 := 61 :: sxX12_goes_11
noncomputable def sxX12_goes_9 : List UInt8 := 3 :: sxX12_goes_10
noncomputable def sxX12_goes_8 : List UInt8 := 60 :: sxX12_goes_9
noncomputable def sxX12_goes_7 : List UInt8 := 100 :: sxX12_goes_8
noncomputable def sxX12_goes_6 : List UInt8 := 4 :: sxX12_goes_7
noncomputable def sxX12_goes_5 : List UInt8 := 120 :: sxX12_goes_6
noncomputable def sxX12_goes_2 : List UInt8 := 180 :: 1 :: 108 :: sxX12_goes_5
noncomputable def sxX12_goes_1 : List UInt8 := 42 :: sxX12_goes_2
noncomputable def sxX12_goes_0 : List UInt8 := 4 :: sxX12_goes_1
theorem shX12_goes_0 : cX12_goes.data.toList.drop 0 = sxX12_goes_0 := rfl
theorem shX12_goes_1 : cX12_goes.data.toList.drop 1 = sxX12_goes_1 := dSn 1 shX12_goes_0
theorem shX12_goes_2 : cX12_goes.data.toList.drop 2 = sxX12_goes_2 := dSn 1 shX12_goes_1
theorem shX12_goes_5 : cX12_goes.data.toList.drop 5 = sxX12_goes_5 := dSn 3 shX12_goes_2
theorem shX12_goes_6 : cX12_goes.data.toList.drop 6 = sxX12_goes_6 := dSn 1 shX12_goes_5
theorem shX12_goes_7 : cX12_goes.data.toList.drop 7 = sxX12_goes_7 := dSn 1 shX12_goes_6
theorem shX12_goes_8 : cX12_goes.data.toList.drop 8 = sxX12_goes_8 := dSn 1 shX12_goes_7
theorem shX12_goes_9 : cX12_goes.data.toList.drop 9 = sxX12_goes_9 := dSn 1 shX12_goes_8
theorem shX12_goes_10 : cX12_goes.data.toList.drop 10 = sxX12_goes_10 := dSn 1 shX12_goes_9
theorem shX12_goes_11 : cX12_goes.data.toList.drop 11 = sxX12_goes_11 := dSn 1 shX12_goes_10
theorem shX12_goes_12 : cX12_goes.data.toList.drop 12 = sxX12_goes_12 := dSn 1 shX12_goes_11
theorem shX12_goes_13 : cX12_goes.data.toList.drop 13 = sxX12_goes_13 := dSn 1 shX12_goes_12
theorem shX12_goes_16 : cX12_goes.data.toList.drop 16 = sxX12_goes_16 := dSn 3 shX12_goes_13
theorem shX12_goes_17 : cX12_goes.data.toList.drop 17 = sxX12_goes_17 := dSn 1 shX12_goes_16
theorem shX12_goes_18 : cX12_goes.data.toList.drop 18 = sxX12_goes_18 := dSn 1 shX12_goes_17
theorem shX12_goes_19 : cX12_goes.data.toList.drop 19 = sxX12_goes_19 := dSn 1 shX12_goes_18
theorem shX12_goes_20 : cX12_goes.data.toList.drop 20 = sxX12_goes_20 := dSn 1 shX12_goes_19
theorem shX12_goes_23 : cX12_goes.data.toList.drop 23 = sxX12_goes_23 := dSn 3 shX12_goes_20
theorem shX12_goes_26 : cX12_goes.data.toList.drop 26 = sxX12_goes_26 := dSn 3 shX12_goes_23
theorem shX12_goes_27 : cX12_goes.data.toList.drop 27 = sxX12_goes_27 := dSn 1 shX12_goes_26
theorem shX12_goes_30 : cX12_goes.data.toList.drop 30 = sxX12_goes_30 := dSn 3 shX12_goes_27
theorem shX12_goes_31 : cX12_goes.data.toList.drop 31 = sxX12_goes_31 := dSn 1 shX12_goes_30
theorem shX12_goes_32 : cX12_goes.data.toList.drop 32 = sxX12_goes_32 := dSn 1 shX12_goes_31
theorem shX12_goes_35 : cX12_goes.data.toList.drop 35 = sxX12_goes_35 := dSn 3 shX12_goes_32
theorem shX12_goes_36 : cX12_goes.data.toList.drop 36 = sxX12_goes_36 := dSn 1 shX12_goes_35
theorem shX12_goes_37 : cX12_goes.data.toList.drop 37 = sxX12_goes_37 := dSn 1 shX12_goes_36
theorem shX12_goes_40 : cX12_goes.data.toList.drop 40 = sxX12_goes_40 := dSn 3 shX12_goes_37
theorem shX12_goes_43 : cX12_goes.data.toList.drop 43 = sxX12_goes_43 := dSn 3 shX12_goes_40
theorem shX12_goes_46 : cX12_goes.data.toList.drop 46 = sxX12_goes_46 := dSn 3 shX12_goes_43
theorem shX12_goes_48 : cX12_goes.data.toList.drop 48 = sxX12_goes_48 := dSn 2 shX12_goes_46
theorem shX12_goes_49 : cX12_goes.data.toList.drop 49 = sxX12_goes_49 := dSn 1 shX12_goes_48
theorem shX12_goes_51 : cX12_goes.data.toList.drop 51 = sxX12_goes_51 := dSn 2 shX12_goes_49
theorem shX12_goes_53 : cX12_goes.data.toList.drop 53 = sxX12_goes_53 := dSn 2 shX12_goes_51
theorem shX12_goes_54 : cX12_goes.data.toList.drop 54 = sxX12_goes_54 := dSn 1 shX12_goes_53
theorem shX12_goes_57 : cX12_goes.data.toList.drop 57 = sxX12_goes_57 := dSn 3 shX12_goes_54
theorem shX12_goes_60 : cX12_goes.data.toList.drop 60 = sxX12_goes_60 := dSn 3 shX12_goes_57
theorem shX12_goes_61 : cX12_goes.data.toList.drop 61 = sxX12_goes_61 := dSn 1 shX12_goes_60
theorem shX12_goes_63 : cX12_goes.data.toList.drop 63 = sxX12_goes_63 := dSn 2 shX12_goes_61
theorem shX12_goes_64 : cX12_goes.data.toList.drop 64 = sxX12_goes_64 := dSn 1 shX12_goes_63
theorem shX12_goes_65 : cX12_goes.data.toList.drop 65 = sxX12_goes_65 := dSn 1 shX12_goes_64
theorem shX12_goes_66 : cX12_goes.data.toList.drop 66 = sxX12_goes_66 := dSn 1 shX12_goes_65
theorem shX12_goes_69 : cX12_goes.data.toList.drop 69 = sxX12_goes_69 := dSn 3 shX12_goes_66
theorem shX12_goes_72 : cX12_goes.data.toList.drop 72 = sxX12_goes_72 := dSn 3 shX12_goes_69
theorem shX12_goes_73 : cX12_goes.data.toList.drop 73 = sxX12_goes_73 := dSn 1 shX12_goes_72
theorem shX12_goes_74 : cX12_goes.data.toList.drop 74 = sxX12_goes_74 := dSn 1 shX12_goes_73
theorem shX12_goes_77 : cX12_goes.data.toList.drop 77 = sxX12_goes_77 := dSn 3 shX12_goes_74
theorem shX12_goes_78 : cX12_goes.data.toList.drop 78 = sxX12_goes_78 := dSn 1 shX12_goes_77
theorem shX12_goes_79 : cX12_goes.data.toList.drop 79 = sxX12_goes_79 := dSn 1 shX12_goes_78
theorem shX12_goes_80 : cX12_goes.data.toList.drop 80 = sxX12_goes_80 := dSn 1 shX12_goes_79
theorem shX12_goes_83 : cX12_goes.data.toList.drop 83 = sxX12_goes_83 := dSn 3 shX12_goes_80
theorem shX12_goes_85 : cX12_goes.data.toList.drop 85 = sxX12_goes_85 := dSn 2 shX12_goes_83
theorem shX12_goes_86 : cX12_goes.data.toList.drop 86 = sxX12_goes_86 := dSn 1 shX12_goes_85
theorem shX12_goes_89 : cX12_goes.data.toList.drop 89 = sxX12_goes_89 := dSn 3 shX12_goes_86
theorem shX12_goes_90 : cX12_goes.data.toList.drop 90 = sxX12_goes_90 := dSn 1 shX12_goes_89
theorem shX12_goes_93 : cX12_goes.data.toList.drop 93 = sxX12_goes_93 := dSn 3 shX12_goes_90
theorem shX12_goes_95 : cX12_goes.data.toList.drop 95 = sxX12_goes_95 := dSn 2 shX12_goes_93
theorem shX12_goes_96 : cX12_goes.data.toList.drop 96 = sxX12_goes_96 := dSn 1 shX12_goes_95
theorem shX12_goes_97 : cX12_goes.data.toList.drop 97 = sxX12_goes_97 := dSn 1 shX12_goes_96
theorem shX12_goes_99 : cX12_goes.data.toList.drop 99 = sxX12_goes_99 := dSn 2 shX12_goes_97
theorem shX12_goes_100 : cX12_goes.data.toList.drop 100 = sxX12_goes_100 := dSn 1 shX12_goes_99
theorem shX12_goes_101 : cX12_goes.data.toList.drop 101 = sxX12_goes_101 := dSn 1 shX12_goes_100
theorem shX12_goes_102 : cX12_goes.data.toList.drop 102 = sxX12_goes_102 := dSn 1 shX12_goes_101
theorem shX12_goes_103 : cX12_goes.data.toList.drop 103 = sxX12_goes_103 := dSn 1 shX12_goes_102
theorem shX12_goes_104 : cX12_goes.data.toList.drop 104 = sxX12_goes_104 := dSn 1 shX12_goes_103
theorem shX12_goes_106 : cX12_goes.data.toList.drop 106 = sxX12_goes_106 := dSn 2 shX12_goes_104
theorem shX12_goes_107 : cX12_goes.data.toList.drop 107 = sxX12_goes_107 := dSn 1 shX12_goes_106
theorem shX12_goes_108 : cX12_goes.data.toList.drop 108 = sxX12_goes_108 := dSn 1 shX12_goes_107
theorem shX12_goes_109 : cX12_goes.data.toList.drop 109 = sxX12_goes_109 := dSn 1 shX12_goes_108
theorem shX12_goes_111 : cX12_goes.data.toList.drop 111 = sxX12_goes_111 := dSn 2 shX12_goes_109
theorem shX12_goes_113 : cX12_goes.data.toList.drop 113 = sxX12_goes_113 := dSn 2 shX12_goes_111
theorem shX12_goes_115 : cX12_goes.data.toList.drop 115 = sxX12_goes_115 := dSn 2 shX12_goes_113
theorem shX12_goes_118 : cX12_goes.data.toList.drop 118 = sxX12_goes_118 := dSn 3 shX12_goes_115
theorem shX12_goes_120 : cX12_goes.data.toList.drop 120 = sxX12_goes_120 := dSn 2 shX12_goes_118
theorem shX12_goes_123 : cX12_goes.data.toList.drop 123 = sxX12_goes_123 := dSn 3 shX12_goes_120
theorem shX12_goes_125 : cX12_goes.data.toList.drop 125 = sxX12_goes_125 := dSn 2 shX12_goes_123
theorem shX12_goes_127 : cX12_goes.data.toList.drop 127 = sxX12_goes_127 := dSn 2 shX12_goes_125
theorem shX12_goes_130 : cX12_goes.data.toList.drop 130 = sxX12_goes_130 := dSn 3 shX12_goes_127
theorem shX12_goes_133 : cX12_goes.data.toList.drop 133 = sxX12_goes_133 := dSn 3 shX12_goes_130
theorem shX12_goes_134 : cX12_goes.data.toList.drop 134 = sxX12_goes_134 := dSn 1 shX12_goes_133
theorem shX12_goes_137 : cX12_goes.data.toList.drop 137 = sxX12_goes_137 := dSn 3 shX12_goes_134
theorem shX12_goes_139 : cX12_goes.data.toList.drop 139 = sxX12_goes_139 := dSn 2 shX12_goes_137
theorem shX12_goes_140 : cX12_goes.data.toList.drop 140 = sxX12_goes_140 := dSn 1 shX12_goes_139
theorem shX12_goes_141 : cX12_goes.data.toList.drop 141 = sxX12_goes_141 := dSn 1 shX12_goes_140
theorem shX12_goes_142 : cX12_goes.data.toList.drop 142 = sxX12_goes_142 := dSn 1 shX12_goes_141
theorem shX12_goes_143 : cX12_goes.data.toList.drop 143 = sxX12_goes_143 := dSn 1 shX12_goes_142
theorem shX12_goes_145 : cX12_goes.data.toList.drop 145 = sxX12_goes_145 := dSn 2 shX12_goes_143
theorem shX12_goes_146 : cX12_goes.data.toList.drop 146 = sxX12_goes_146 := dSn 1 shX12_goes_145
theorem shX12_goes_149 : cX12_goes.data.toList.drop 149 = sxX12_goes_149 := dSn 3 shX12_goes_146
theorem shX12_goes_152 : cX12_goes.data.toList.drop 152 = sxX12_goes_152 := dSn 3 shX12_goes_149
theorem shX12_goes_155 : cX12_goes.data.toList.drop 155 = sxX12_goes_155 := dSn 3 shX12_goes_152
theorem shX12_goes_158 : cX12_goes.data.toList.drop 158 = sxX12_goes_158 := dSn 3 shX12_goes_155
theorem dX12_goes_0 : decode cX12_goes 0 = .ok (.iconst 1, 1) := oc_4 shX12_goes_0
theorem dX12_goes_1 : decode cX12_goes 1 = .ok (.aload_n 0, 1) := oc_42 shX12_goes_1
theorem dX12_goes_2 : decode cX12_goes 2 = .ok (.getfield 364, 3) := oc_180 shX12_goes_2
theorem dX12_goes_5 : decode cX12_goes 5 = .ok (.ishl, 1) := oc_120 shX12_goes_5
theorem dX12_goes_6 : decode cX12_goes 6 = .ok (.iconst 1, 1) := oc_4 shX12_goes_6
theorem dX12_goes_7 : decode cX12_goes 7 = .ok (.isub, 1) := oc_100 shX12_goes_7
theorem dX12_goes_8 : decode cX12_goes 8 = .ok (.istore_n 1, 1) := oc_60 shX12_goes_8
theorem dX12_goes_9 : decode cX12_goes 9 = .ok (.iconst 0, 1) := oc_3 shX12_goes_9
theorem dX12_goes_10 : decode cX12_goes 10 = .ok (.istore_n 2, 1) := oc_61 shX12_goes_10
theorem dX12_goes_11 : decode cX12_goes 11 = .ok (.iload_n 2, 1) := oc_28 shX12_goes_11
theorem dX12_goes_12 : decode cX12_goes 12 = .ok (.iload_n 1, 1) := oc_27 shX12_goes_12
theorem dX12_goes_13 : decode cX12_goes 13 = .ok (.if_icmp .gt 145, 3) := oc_163 shX12_goes_13 sgw_0_145
theorem dX12_goes_16 : decode cX12_goes 16 = .ok (.iconst 0, 1) := oc_3 shX12_goes_16
theorem dX12_goes_17 : decode cX12_goes 17 = .ok (.istore_n 3, 1) := oc_62 shX12_goes_17
theorem dX12_goes_18 : decode cX12_goes 18 = .ok (.iload_n 3, 1) := oc_29 shX12_goes_18
theorem dX12_goes_19 : decode cX12_goes 19 = .ok (.aload_n 0, 1) := oc_42 shX12_goes_19
theorem dX12_goes_20 : decode cX12_goes 20 = .ok (.getfield 364, 3) := oc_180 shX12_goes_20
theorem dX12_goes_23 : decode cX12_goes 23 = .ok (.if_icmp .ge 129, 3) := oc_162 shX12_goes_23 sgw_0_129
theorem dX12_goes_26 : decode cX12_goes 26 = .ok (.iload_n 2, 1) := oc_28 shX12_goes_26
theorem dX12_goes_27 : decode cX12_goes 27 = .ok (.ifCond .ne 16, 3) := oc_154 shX12_goes_27 sgw_0_16
theorem dX12_goes_30 : decode cX12_goes 30 = .ok (.aload_n 0, 1) := oc_42 shX12_goes_30
theorem dX12_goes_31 : decode cX12_goes 31 = .ok (.aload_n 0, 1) := oc_42 shX12_goes_31
theorem dX12_goes_32 : decode cX12_goes 32 = .ok (.getfield 101, 3) := oc_180 shX12_goes_32
theorem dX12_goes_35 : decode cX12_goes 35 = .ok (.iload_n 3, 1) := oc_29 shX12_goes_35
theorem dX12_goes_36 : decode cX12_goes 36 = .ok (.iaload, 1) := oc_46 shX12_goes_36
theorem dX12_goes_37 : decode cX12_goes 37 = .ok (.invokevirtual 367, 3) := oc_182 shX12_goes_37
theorem dX12_goes_40 : decode cX12_goes 40 = .ok (.goto 6, 3) := oc_167 shX12_goes_40 sgw_0_6
theorem dX12_goes_43 : decode cX12_goes 43 = .ok (.ldc_w 370, 3) := oc_19 shX12_goes_43
theorem dX12_goes_46 : decode cX12_goes 46 = .ok (.istore 4, 2) := oc_54 shX12_goes_46
theorem dX12_goes_48 : decode cX12_goes 48 = .ok (.iconst 0, 1) := oc_3 shX12_goes_48
theorem dX12_goes_49 : decode cX12_goes 49 = .ok (.istore 5, 2) := oc_54 shX12_goes_49
theorem dX12_goes_51 : decode cX12_goes 51 = .ok (.iload 5, 2) := oc_21 shX12_goes_51
theorem dX12_goes_53 : decode cX12_goes 53 = .ok (.aload_n 0, 1) := oc_42 shX12_goes_53
theorem dX12_goes_54 : decode cX12_goes 54 = .ok (.getfield 364, 3) := oc_180 shX12_goes_54
theorem dX12_goes_57 : decode cX12_goes 57 = .ok (.if_icmp .ge 76, 3) := oc_162 shX12_goes_57 sgw_0_76
theorem dX12_goes_60 : decode cX12_goes 60 = .ok (.iload_n 2, 1) := oc_28 shX12_goes_60
theorem dX12_goes_61 : decode cX12_goes 61 = .ok (.iload 5, 2) := oc_21 shX12_goes_61
theorem dX12_goes_63 : decode cX12_goes 63 = .ok (.ishr, 1) := oc_122 shX12_goes_63
theorem dX12_goes_64 : decode cX12_goes 64 = .ok (.iconst 1, 1) := oc_4 shX12_goes_64
theorem dX12_goes_65 : decode cX12_goes 65 = .ok (.iand, 1) := oc_126 shX12_goes_65
theorem dX12_goes_66 : decode cX12_goes 66 = .ok (.ifCond .ne 6, 3) := oc_154 shX12_goes_66 sgw_0_6
theorem dX12_goes_69 : decode cX12_goes 69 = .ok (.goto 58, 3) := oc_167 shX12_goes_69 sgw_0_58
theorem dX12_goes_72 : decode cX12_goes 72 = .ok (.aload_n 0, 1) := oc_42 shX12_goes_72
theorem dX12_goes_73 : decode cX12_goes 73 = .ok (.aload_n 0, 1) := oc_42 shX12_goes_73
theorem dX12_goes_74 : decode cX12_goes 74 = .ok (.getfield 101, 3) := oc_180 shX12_goes_74
theorem dX12_goes_77 : decode cX12_goes 77 = .ok (.iload_n 3, 1) := oc_29 shX12_goes_77
theorem dX12_goes_78 : decode cX12_goes 78 = .ok (.iaload, 1) := oc_46 shX12_goes_78
theorem dX12_goes_79 : decode cX12_goes 79 = .ok (.aload_n 0, 1) := oc_42 shX12_goes_79
theorem dX12_goes_80 : decode cX12_goes 80 = .ok (.getfield 101, 3) := oc_180 shX12_goes_80
theorem dX12_goes_83 : decode cX12_goes 83 = .ok (.iload 5, 2) := oc_21 shX12_goes_83
theorem dX12_goes_85 : decode cX12_goes 85 = .ok (.iaload, 1) := oc_46 shX12_goes_85
theorem dX12_goes_86 : decode cX12_goes 86 = .ok (.invokevirtual 371, 3) := oc_182 shX12_goes_86
theorem dX12_goes_89 : decode cX12_goes 89 = .ok (.aload_n 0, 1) := oc_42 shX12_goes_89
theorem dX12_goes_90 : decode cX12_goes 90 = .ok (.getfield 104, 3) := oc_180 shX12_goes_90
theorem dX12_goes_93 : decode cX12_goes 93 = .ok (.bipush 8, 2) := oc_16 shX12_goes_93 sgb_8
theorem dX12_goes_95 : decode cX12_goes 95 = .ok (.iload_n 2, 1) := oc_28 shX12_goes_95
theorem dX12_goes_96 : decode cX12_goes 96 = .ok (.iconst 1, 1) := oc_4 shX12_goes_96
theorem dX12_goes_97 : decode cX12_goes 97 = .ok (.iload 5, 2) := oc_21 shX12_goes_97
theorem dX12_goes_99 : decode cX12_goes 99 = .ok (.ishl, 1) := oc_120 shX12_goes_99
theorem dX12_goes_100 : decode cX12_goes 100 = .ok (.iconst (-1), 1) := oc_2 shX12_goes_100
theorem dX12_goes_101 : decode cX12_goes 101 = .ok (.ixor, 1) := oc_130 shX12_goes_101
theorem dX12_goes_102 : decode cX12_goes 102 = .ok (.iand, 1) := oc_126 shX12_goes_102
theorem dX12_goes_103 : decode cX12_goes 103 = .ok (.imul, 1) := oc_104 shX12_goes_103
theorem dX12_goes_104 : decode cX12_goes 104 = .ok (.iload 5, 2) := oc_21 shX12_goes_104
theorem dX12_goes_106 : decode cX12_goes 106 = .ok (.iadd, 1) := oc_96 shX12_goes_106
theorem dX12_goes_107 : decode cX12_goes 107 = .ok (.iaload, 1) := oc_46 shX12_goes_107
theorem dX12_goes_108 : decode cX12_goes 108 = .ok (.iadd, 1) := oc_96 shX12_goes_108
theorem dX12_goes_109 : decode cX12_goes 109 = .ok (.istore 6, 2) := oc_54 shX12_goes_109
theorem dX12_goes_111 : decode cX12_goes 111 = .ok (.iload 6, 2) := oc_21 shX12_goes_111
theorem dX12_goes_113 : decode cX12_goes 113 = .ok (.iload 4, 2) := oc_21 shX12_goes_113
theorem dX12_goes_115 : decode cX12_goes 115 = .ok (.if_icmp .ge 8, 3) := oc_162 shX12_goes_115 sgw_0_8
theorem dX12_goes_118 : decode cX12_goes 118 = .ok (.iload 6, 2) := oc_21 shX12_goes_118
theorem dX12_goes_120 : decode cX12_goes 120 = .ok (.goto 5, 3) := oc_167 shX12_goes_120 sgw_0_5
theorem dX12_goes_123 : decode cX12_goes 123 = .ok (.iload 4, 2) := oc_21 shX12_goes_123
theorem dX12_goes_125 : decode cX12_goes 125 = .ok (.istore 4, 2) := oc_54 shX12_goes_125
theorem dX12_goes_127 : decode cX12_goes 127 = .ok (.iinc 5 1, 3) := oc_132 shX12_goes_127 sgb_1
theorem dX12_goes_130 : decode cX12_goes 130 = .ok (.goto (-79), 3) := oc_167 shX12_goes_130 sgw_255_177
theorem dX12_goes_133 : decode cX12_goes 133 = .ok (.aload_n 0, 1) := oc_42 shX12_goes_133
theorem dX12_goes_134 : decode cX12_goes 134 = .ok (.getfield 104, 3) := oc_180 shX12_goes_134
theorem dX12_goes_137 : decode cX12_goes 137 = .ok (.bipush 8, 2) := oc_16 shX12_goes_137 sgb_8
theorem dX12_goes_139 : decode cX12_goes 139 = .ok (.iload_n 2, 1) := oc_28 shX12_goes_139
theorem dX12_goes_140 : decode cX12_goes 140 = .ok (.imul, 1) := oc_104 shX12_goes_140
theorem dX12_goes_141 : decode cX12_goes 141 = .ok (.iload_n 3, 1) := oc_29 shX12_goes_141
theorem dX12_goes_142 : decode cX12_goes 142 = .ok (.iadd, 1) := oc_96 shX12_goes_142
theorem dX12_goes_143 : decode cX12_goes 143 = .ok (.iload 4, 2) := oc_21 shX12_goes_143
theorem dX12_goes_145 : decode cX12_goes 145 = .ok (.iastore, 1) := oc_79 shX12_goes_145
theorem dX12_goes_146 : decode cX12_goes 146 = .ok (.iinc 3 1, 3) := oc_132 shX12_goes_146 sgb_1
theorem dX12_goes_149 : decode cX12_goes 149 = .ok (.goto (-131), 3) := oc_167 shX12_goes_149 sgw_255_125
theorem dX12_goes_152 : decode cX12_goes 152 = .ok (.iinc 2 1, 3) := oc_132 shX12_goes_152 sgb_1
theorem dX12_goes_155 : decode cX12_goes 155 = .ok (.goto (-144), 3) := oc_167 shX12_goes_155 sgw_255_112
theorem dX12_goes_158 : decode cX12_goes 158 = .ok (.return_, 1) := oc_177 shX12_goes_158
noncomputable def sxX12_nextOf_132 : List UInt8 := []
noncomputable def sxX12_nextOf_131 : List UInt8 := 172 :: sxX12_nextOf_132
noncomputable def sxX12_nextOf_130 : List UInt8 := 29 :: sxX12_nextOf_131
noncomputable def sxX12_nextOf_127 : List UInt8 := 181 :: 1 :: 118 :: sxX12_nextOf_130
noncomputable def sxX12_nextOf_125 : List UInt8 := 21 :: 4 :: sxX12_nextOf_127
noncomputable def sxX12_nextOf_122 : List UInt8 := 167 :: 0 :: 5 :: sxX12_nextOf_125
noncomputable def sxX12_nextOf_121 : List UInt8 := 3 :: sxX12_nextOf_122
noncomputable def sxX12_nextOf_118 : List UInt8 := 160 :: 0 :: 7 :: sxX12_nextOf_121
noncomputable def sxX12_nextOf_117 : List UInt8 := 2 :: sxX12_nextOf_118
noncomputable def sxX12_nextOf_116 : List UInt8 := 29 :: sxX12_nextOf_117
noncomputable def sxX12_nextOf_115 : List UInt8 := 42 :: sxX12_nextOf_116
noncomputable def sxX12_nextOf_112 : List UInt8 := 167 :: 255 :: 152 :: sxX12_nextOf_115
noncomputable def sxX12_nextOf_109 : List UInt8 := 132 :: 5 :: 1 :: sxX12_nextOf_112
noncomputable def sxX12_nextOf_107 : List UInt8 := 54 :: 4 :: sxX12_nextOf_109
noncomputable def sxX12_nextOf_105 : List UInt8 := 21 :: 6 :: sxX12_nextOf_107
noncomputable def sxX12_nextOf_104 : List UInt8 := 62 :: sxX12_nextOf_105
noncomputable def sxX12_nextOf_102 : List UInt8 := 21 :: 5 :: sxX12_nextOf_104
noncomputable def sxX12_nextOf_99 : List UInt8 := 167 :: 0 :: 10 :: sxX12_nextOf_102
noncomputable def sxX12_nextOf_96 : List UInt8 := 161 :: 0 :: 6 :: sxX12_nextOf_99
noncomputable def sxX12_nextOf_94 : List UInt8 := 21 :: 4 :: sxX12_nextOf_96
noncomputable def sxX12_nextOf_92 : List UInt8 := 21 :: 6 :: sxX12_nextOf_94
noncomputable def sxX12_nextOf_89 : List UInt8 := 159 :: 0 :: 13 :: sxX12_nextOf_92
noncomputable def sxX12_nextOf_88 : List UInt8 := 2 :: sxX12_nextOf_89
noncomputable def sxX12_nextOf_87 : List UInt8 := 29 :: sxX12_nextOf_88
noncomputable def sxX12_nextOf_85 : List UInt8 := 54 :: 6 :: sxX12_nextOf_87
noncomputable def sxX12_nextOf_84 : List UInt8 := 96 :: sxX12_nextOf_85
noncomputable def sxX12_nextOf_83 : List UInt8 := 46 :: sxX12_nextOf_84
noncomputable def sxX12_nextOf_82 : List UInt8 := 96 :: sxX12_nextOf_83
noncomputable def sxX12_nextOf_80 : List UInt8 := 21 :: 5 :: sxX12_nextOf_82
noncomputable def sxX12_nextOf_79 : List UInt8 := 104 :: sxX12_nextOf_80
noncomputable def sxX12_nextOf_78 : List UInt8 := 126 :: sxX12_nextOf_79
noncomputable def sxX12_nextOf_77 : List UInt8 := 130 :: sxX12_nextOf_78
noncomputable def sxX12_nextOf_76 : List UInt8 := 2 :: sxX12_nextOf_77
noncomputable def sxX12_nextOf_75 : List UInt8 := 120 :: sxX12_nextOf_76
noncomputable def sxX12_nextOf_73 : List UInt8 := 21 :: 5 :: sxX12_nextOf_75
noncomputable def sxX12_nextOf_72 : List UInt8 := 4 :: sxX12_nextOf_73
noncomputable def sxX12_nextOf_71 : List UInt8 := 28 :: sxX12_nextOf_72
noncomputable def sxX12_nextOf_69 : List UInt8 := 16 :: 8 :: sxX12_nextOf_71
noncomputable def sxX12_nextOf_66 : List UInt8 := 180 :: 0 :: 104 :: sxX12_nextOf_69
noncomputable def sxX12_nextOf_65 : List UInt8 := 42 :: sxX12_nextOf_66
noncomputable def sxX12_nextOf_62 : List UInt8 := 182 :: 1 :: 115 :: sxX12_nextOf_65
noncomputable def sxX12_nextOf_61 : List UInt8 := 46 :: sxX12_nextOf_62
noncomputable def sxX12_nextOf_59 : List UInt8 := 21 :: 5 :: sxX12_nextOf_61
noncomputable def sxX12_nextOf_56 : List UInt8 := 180 :: 0 :: 101 :: sxX12_nextOf_59
noncomputable def sxX12_nextOf_55 : List UInt8 := 42 :: sxX12_nextOf_56
noncomputable def sxX12_nextOf_54 : List UInt8 := 46 :: sxX12_nextOf_55
noncomputable def sxX12_nextOf_53 : List UInt8 := 27 :: sxX12_nextOf_54
noncomputable def sxX12_nextOf_50 : List UInt8 := 180 :: 0 :: 101 :: sxX12_nextOf_53
noncomputable def sxX12_nextOf_49 : List UInt8 := 42 :: sxX12_nextOf_50
noncomputable def sxX12_nextOf_48 : List UInt8 := 42 :: sxX12_nextOf_49
noncomputable def sxX12_nextOf_45 : List UInt8 := 167 :: 0 :: 20 :: sxX12_nextOf_48
noncomputable def sxX12_nextOf_42 : List UInt8 := 182 :: 1 :: 111 :: sxX12_nextOf_45
noncomputable def sxX12_nextOf_41 : List UInt8 := 46 :: sxX12_nextOf_42
noncomputable def sxX12_nextOf_39 : List UInt8 := 21 :: 5 :: sxX12_nextOf_41
noncomputable def sxX12_nextOf_36 : List UInt8 := 180 :: 0 :: 101 :: sxX12_nextOf_39
noncomputable def sxX12_nextOf_35 : List UInt8 := 42 :: sxX12_nextOf_36
noncomputable def sxX12_nextOf_34 : List UInt8 := 42 :: sxX12_nextOf_35
noncomputable def sxX12_nextOf_31 : List UInt8 := 160 :: 0 :: 17 :: sxX12_nextOf_34
noncomputable def sxX12_nextOf_30 : List UInt8 := 2 :: sxX12_nextOf_31
noncomputable def sxX12_nextOf_29 : List UInt8 := 27 :: sxX12_nextOf_30
noncomputable def sxX12_nextOf_26 : List UInt8 := 167 :: 0 :: 83 :: sxX12_nextOf_29
noncomputable def sxX12_nextOf_23 : List UInt8 := 154 :: 0 :: 6 :: sxX12_nextOf_26
noncomputable def sxX12_nextOf_22 : List UInt8 := 126 :: sxX12_nextOf_23
noncomputable def sxX12_nextOf_21 : List UInt8 := 4 :: sxX12_nextOf_22
noncomputable def sxX12_nextOf_20 : List UInt8 := 122 :: sxX12_nextOf_21
noncomputable def sxX12_nextOf_18 : List UInt8 := 21 :: 5 :: sxX12_nextOf_20
noncomputable def sxX12_nextOf_17 : List UInt8 := 28 :: sxX12_nextOf_18
noncomputable def sxX12_nextOf_14 : List UInt8 := 162 :: 0 :: 101 :: sxX12_nextOf_17
noncomputable def sxX12_nextOf_11 : List UInt8 := 180 :: 1 :: 108 :: sxX12_nextOf_14
noncomputable def sxX12_nextOf_10 : List UInt8 := 42 :: sxX12_nextOf_11
noncomputable def sxX12_nextOf_8 : List UInt8 := 21 :: 5 :: sxX12_nextOf_10
noncomputable def sxX12_nextOf_6 : List UInt8 := 54 :: 5 :: sxX12_nextOf_8
noncomputable def sxX12_nextOf_5 : List UInt8 := 3 :: sxX12_nextOf_6
noncomputable def sxX12_nextOf_3 : List UInt8 := 54 :: 4 :: sxX12_nextOf_5
noncomputable def sxX12_nextOf_2 : List UInt8 := 3 :: sxX12_nextOf_3
noncomputable def sxX12_nextOf_1 : List UInt8 := 62 :: sxX12_nextOf_2
noncomputable def sxX12_nextOf_0 : List UInt8 := 2 :: sxX12_nextOf_1
theorem shX12_nextOf_0 : cX12_nextOf.data.toList.drop 0 = sxX12_nextOf_0 := rfl
theorem shX12_nextOf_1 : cX12_nextOf.data.toList.drop 1 = sxX12_nextOf_1 := dSn 1 shX12_nextOf_0
theorem shX12_nextOf_2 : cX12_nextOf.data.toList.drop 2 = sxX12_nextOf_2 := dSn 1 shX12_nextOf_1
theorem shX12_nextOf_3 : cX12_nextOf.data.toList.drop 3 = sxX12_nextOf_3 := dSn 1 shX12_nextOf_2
theorem shX12_nextOf_5 : cX12_nextOf.data.toList.drop 5 = sxX12_nextOf_5 := dSn 2 shX12_nextOf_3
theorem shX12_nextOf_6 : cX12_nextOf.data.toList.drop 6 = sxX12_nextOf_6 := dSn 1 shX12_nextOf_5
theorem shX12_nextOf_8 : cX12_nextOf.data.toList.drop 8 = sxX12_nextOf_8 := dSn 2 shX12_nextOf_6
theorem shX12_nextOf_10 : cX12_nextOf.data.toList.drop 10 = sxX12_nextOf_10 := dSn 2 shX12_nextOf_8
theorem shX12_nextOf_11 : cX12_nextOf.data.toList.drop 11 = sxX12_nextOf_11 := dSn 1 shX12_nextOf_10
theorem shX12_nextOf_14 : cX12_nextOf.data.toList.drop 14 = sxX12_nextOf_14 := dSn 3 shX12_nextOf_11
theorem shX12_nextOf_17 : cX12_nextOf.data.toList.drop 17 = sxX12_nextOf_17 := dSn 3 shX12_nextOf_14
theorem shX12_nextOf_18 : cX12_nextOf.data.toList.drop 18 = sxX12_nextOf_18 := dSn 1 shX12_nextOf_17
theorem shX12_nextOf_20 : cX12_nextOf.data.toList.drop 20 = sxX12_nextOf_20 := dSn 2 shX12_nextOf_18
theorem shX12_nextOf_21 : cX12_nextOf.data.toList.drop 21 = sxX12_nextOf_21 := dSn 1 shX12_nextOf_20
theorem shX12_nextOf_22 : cX12_nextOf.data.toList.drop 22 = sxX12_nextOf_22 := dSn 1 shX12_nextOf_21
theorem shX12_nextOf_23 : cX12_nextOf.data.toList.drop 23 = sxX12_nextOf_23 := dSn 1 shX12_nextOf_22
theorem shX12_nextOf_26 : cX12_nextOf.data.toList.drop 26 = sxX12_nextOf_26 := dSn 3 shX12_nextOf_23
theorem shX12_nextOf_29 : cX12_nextOf.data.toList.drop 29 = sxX12_nextOf_29 := dSn 3 shX12_nextOf_26
theorem shX12_nextOf_30 : cX12_nextOf.data.toList.drop 30 = sxX12_nextOf_30 := dSn 1 shX12_nextOf_29
theorem shX12_nextOf_31 : cX12_nextOf.data.toList.drop 31 = sxX12_nextOf_31 := dSn 1 shX12_nextOf_30
theorem shX12_nextOf_34 : cX12_nextOf.data.toList.drop 34 = sxX12_nextOf_34 := dSn 3 shX12_nextOf_31
theorem shX12_nextOf_35 : cX12_nextOf.data.toList.drop 35 = sxX12_nextOf_35 := dSn 1 shX12_nextOf_34
theorem shX12_nextOf_36 : cX12_nextOf.data.toList.drop 36 = sxX12_nextOf_36 := dSn 1 shX12_nextOf_35
theorem shX12_nextOf_39 : cX12_nextOf.data.toList.drop 39 = sxX12_nextOf_39 := dSn 3 shX12_nextOf_36
theorem shX12_nextOf_41 : cX12_nextOf.data.toList.drop 41 = sxX12_nextOf_41 := dSn 2 shX12_nextOf_39
theorem shX12_nextOf_42 : cX12_nextOf.data.toList.drop 42 = sxX12_nextOf_42 := dSn 1 shX12_nextOf_41
theorem shX12_nextOf_45 : cX12_nextOf.data.toList.drop 45 = sxX12_nextOf_45 := dSn 3 shX12_nextOf_42
theorem shX12_nextOf_48 : cX12_nextOf.data.toList.drop 48 = sxX12_nextOf_48 := dSn 3 shX12_nextOf_45
theorem shX12_nextOf_49 : cX12_nextOf.data.toList.drop 49 = sxX12_nextOf_49 := dSn 1 shX12_nextOf_48
theorem shX12_nextOf_50 : cX12_nextOf.data.toList.drop 50 = sxX12_nextOf_50 := dSn 1 shX12_nextOf_49
theorem shX12_nextOf_53 : cX12_nextOf.data.toList.drop 53 = sxX12_nextOf_53 := dSn 3 shX12_nextOf_50
theorem shX12_nextOf_54 : cX12_nextOf.data.toList.drop 54 = sxX12_nextOf_54 := dSn 1 shX12_nextOf_53
theorem shX12_nextOf_55 : cX12_nextOf.data.toList.drop 55 = sxX12_nextOf_55 := dSn 1 shX12_nextOf_54
theorem shX12_nextOf_56 : cX12_nextOf.data.toList.drop 56 = sxX12_nextOf_56 := dSn 1 shX12_nextOf_55
theorem shX12_nextOf_59 : cX12_nextOf.data.toList.drop 59 = sxX12_nextOf_59 := dSn 3 shX12_nextOf_56
theorem shX12_nextOf_61 : cX12_nextOf.data.toList.drop 61 = sxX12_nextOf_61 := dSn 2 shX12_nextOf_59
theorem shX12_nextOf_62 : cX12_nextOf.data.toList.drop 62 = sxX12_nextOf_62 := dSn 1 shX12_nextOf_61
theorem shX12_nextOf_65 : cX12_nextOf.data.toList.drop 65 = sxX12_nextOf_65 := dSn 3 shX12_nextOf_62
theorem shX12_nextOf_66 : cX12_nextOf.data.toList.drop 66 = sxX12_nextOf_66 := dSn 1 shX12_nextOf_65
theorem shX12_nextOf_69 : cX12_nextOf.data.toList.drop 69 = sxX12_nextOf_69 := dSn 3 shX12_nextOf_66
theorem shX12_nextOf_71 : cX12_nextOf.data.toList.drop 71 = sxX12_nextOf_71 := dSn 2 shX12_nextOf_69
theorem shX12_nextOf_72 : cX12_nextOf.data.toList.drop 72 = sxX12_nextOf_72 := dSn 1 shX12_nextOf_71
theorem shX12_nextOf_73 : cX12_nextOf.data.toList.drop 73 = sxX12_nextOf_73 := dSn 1 shX12_nextOf_72
theorem shX12_nextOf_75 : cX12_nextOf.data.toList.drop 75 = sxX12_nextOf_75 := dSn 2 shX12_nextOf_73
theorem shX12_nextOf_76 : cX12_nextOf.data.toList.drop 76 = sxX12_nextOf_76 := dSn 1 shX12_nextOf_75
theorem shX12_nextOf_77 : cX12_nextOf.data.toList.drop 77 = sxX12_nextOf_77 := dSn 1 shX12_nextOf_76
theorem shX12_nextOf_78 : cX12_nextOf.data.toList.drop 78 = sxX12_nextOf_78 := dSn 1 shX12_nextOf_77
theorem shX12_nextOf_79 : cX12_nextOf.data.toList.drop 79 = sxX12_nextOf_79 := dSn 1 shX12_nextOf_78
theorem shX12_nextOf_80 : cX12_nextOf.data.toList.drop 80 = sxX12_nextOf_80 := dSn 1 shX12_nextOf_79
theorem shX12_nextOf_82 : cX12_nextOf.data.toList.drop 82 = sxX12_nextOf_82 := dSn 2 shX12_nextOf_80
theorem shX12_nextOf_83 : cX12_nextOf.data.toList.drop 83 = sxX12_nextOf_83 := dSn 1 shX12_nextOf_82
theorem shX12_nextOf_84 : cX12_nextOf.data.toList.drop 84 = sxX12_nextOf_84 := dSn 1 shX12_nextOf_83
theorem shX12_nextOf_85 : cX12_nextOf.data.toList.drop 85 = sxX12_nextOf_85 := dSn 1 shX12_nextOf_84
theorem shX12_nextOf_87 : cX12_nextOf.data.toList.drop 87 = sxX12_nextOf_87 := dSn 2 shX12_nextOf_85
theorem shX12_nextOf_88 : cX12_nextOf.data.toList.drop 88 = sxX12_nextOf_88 := dSn 1 shX12_nextOf_87
theorem shX12_nextOf_89 : cX12_nextOf.data.toList.drop 89 = sxX12_nextOf_89 := dSn 1 shX12_nextOf_88
theorem shX12_nextOf_92 : cX12_nextOf.data.toList.drop 92 = sxX12_nextOf_92 := dSn 3 shX12_nextOf_89
theorem shX12_nextOf_94 : cX12_nextOf.data.toList.drop 94 = sxX12_nextOf_94 := dSn 2 shX12_nextOf_92
theorem shX12_nextOf_96 : cX12_nextOf.data.toList.drop 96 = sxX12_nextOf_96 := dSn 2 shX12_nextOf_94
theorem shX12_nextOf_99 : cX12_nextOf.data.toList.drop 99 = sxX12_nextOf_99 := dSn 3 shX12_nextOf_96
theorem shX12_nextOf_102 : cX12_nextOf.data.toList.drop 102 = sxX12_nextOf_102 := dSn 3 shX12_nextOf_99
theorem shX12_nextOf_104 : cX12_nextOf.data.toList.drop 104 = sxX12_nextOf_104 := dSn 2 shX12_nextOf_102
theorem shX12_nextOf_105 : cX12_nextOf.data.toList.drop 105 = sxX12_nextOf_105 := dSn 1 shX12_nextOf_104
theorem shX12_nextOf_107 : cX12_nextOf.data.toList.drop 107 = sxX12_nextOf_107 := dSn 2 shX12_nextOf_105
theorem shX12_nextOf_109 : cX12_nextOf.data.toList.drop 109 = sxX12_nextOf_109 := dSn 2 shX12_nextOf_107
theorem shX12_nextOf_112 : cX12_nextOf.data.toList.drop 112 = sxX12_nextOf_112 := dSn 3 shX12_nextOf_109
theorem shX12_nextOf_115 : cX12_nextOf.data.toList.drop 115 = sxX12_nextOf_115 := dSn 3 shX12_nextOf_112
theorem shX12_nextOf_116 : cX12_nextOf.data.toList.drop 116 = sxX12_nextOf_116 := dSn 1 shX12_nextOf_115
theorem shX12_nextOf_117 : cX12_nextOf.data.toList.drop 117 = sxX12_nextOf_117 := dSn 1 shX12_nextOf_116
theorem shX12_nextOf_118 : cX12_nextOf.data.toList.drop 118 = sxX12_nextOf_118 := dSn 1 shX12_nextOf_117
theorem shX12_nextOf_121 : cX12_nextOf.data.toList.drop 121 = sxX12_nextOf_121 := dSn 3 shX12_nextOf_118
theorem shX12_nextOf_122 : cX12_nextOf.data.toList.drop 122 = sxX12_nextOf_122 := dSn 1 shX12_nextOf_121
theorem shX12_nextOf_125 : cX12_nextOf.data.toList.drop 125 = sxX12_nextOf_125 := dSn 3 shX12_nextOf_122
theorem shX12_nextOf_127 : cX12_nextOf.data.toList.drop 127 = sxX12_nextOf_127 := dSn 2 shX12_nextOf_125
theorem shX12_nextOf_130 : cX12_nextOf.data.toList.drop 130 = sxX12_nextOf_130 := dSn 3 shX12_nextOf_127
theorem shX12_nextOf_131 : cX12_nextOf.data.toList.drop 131 = sxX12_nextOf_131 := dSn 1 shX12_nextOf_130
theorem dX12_nextOf_0 : decode cX12_nextOf 0 = .ok (.iconst (-1), 1) := oc_2 shX12_nextOf_0
theorem dX12_nextOf_1 : decode cX12_nextOf 1 = .ok (.istore_n 3, 1) := oc_62 shX12_nextOf_1
theorem dX12_nextOf_2 : decode cX12_nextOf 2 = .ok (.iconst 0, 1) := oc_3 shX12_nextOf_2
theorem dX12_nextOf_3 : decode cX12_nextOf 3 = .ok (.istore 4, 2) := oc_54 shX12_nextOf_3
theorem dX12_nextOf_5 : decode cX12_nextOf 5 = .ok (.iconst 0, 1) := oc_3 shX12_nextOf_5
theorem dX12_nextOf_6 : decode cX12_nextOf 6 = .ok (.istore 5, 2) := oc_54 shX12_nextOf_6
theorem dX12_nextOf_8 : decode cX12_nextOf 8 = .ok (.iload 5, 2) := oc_21 shX12_nextOf_8
theorem dX12_nextOf_10 : decode cX12_nextOf 10 = .ok (.aload_n 0, 1) := oc_42 shX12_nextOf_10
theorem dX12_nextOf_11 : decode cX12_nextOf 11 = .ok (.getfield 364, 3) := oc_180 shX12_nextOf_11
theorem dX12_nextOf_14 : decode cX12_nextOf 14 = .ok (.if_icmp .ge 101, 3) := oc_162 shX12_nextOf_14 sgw_0_101
theorem dX12_nextOf_17 : decode cX12_nextOf 17 = .ok (.iload_n 2, 1) := oc_28 shX12_nextOf_17
theorem dX12_nextOf_18 : decode cX12_nextOf 18 = .ok (.iload 5, 2) := oc_21 shX12_nextOf_18
theorem dX12_nextOf_20 : decode cX12_nextOf 20 = .ok (.ishr, 1) := oc_122 shX12_nextOf_20
theorem dX12_nextOf_21 : decode cX12_nextOf 21 = .ok (.iconst 1, 1) := oc_4 shX12_nextOf_21
theorem dX12_nextOf_22 : decode cX12_nextOf 22 = .ok (.iand, 1) := oc_126 shX12_nextOf_22
theorem dX12_nextOf_23 : decode cX12_nextOf 23 = .ok (.ifCond .ne 6, 3) := oc_154 shX12_nextOf_23 sgw_0_6
theorem dX12_nextOf_26 : decode cX12_nextOf 26 = .ok (.goto 83, 3) := oc_167 shX12_nextOf_26 sgw_0_83
theorem dX12_nextOf_29 : decode cX12_nextOf 29 = .ok (.iload_n 1, 1) := oc_27 shX12_nextOf_29
theorem dX12_nextOf_30 : decode cX12_nextOf 30 = .ok (.iconst (-1), 1) := oc_2 shX12_nextOf_30
theorem dX12_nextOf_31 : decode cX12_nextOf 31 = .ok (.if_icmp .ne 17, 3) := oc_160 shX12_nextOf_31 sgw_0_17
theorem dX12_nextOf_34 : decode cX12_nextOf 34 = .ok (.aload_n 0, 1) := oc_42 shX12_nextOf_34
theorem dX12_nextOf_35 : decode cX12_nextOf 35 = .ok (.aload_n 0, 1) := oc_42 shX12_nextOf_35
theorem dX12_nextOf_36 : decode cX12_nextOf 36 = .ok (.getfield 101, 3) := oc_180 shX12_nextOf_36
theorem dX12_nextOf_39 : decode cX12_nextOf 39 = .ok (.iload 5, 2) := oc_21 shX12_nextOf_39
theorem dX12_nextOf_41 : decode cX12_nextOf 41 = .ok (.iaload, 1) := oc_46 shX12_nextOf_41
theorem dX12_nextOf_42 : decode cX12_nextOf 42 = .ok (.invokevirtual 367, 3) := oc_182 shX12_nextOf_42
theorem dX12_nextOf_45 : decode cX12_nextOf 45 = .ok (.goto 20, 3) := oc_167 shX12_nextOf_45 sgw_0_20
theorem dX12_nextOf_48 : decode cX12_nextOf 48 = .ok (.aload_n 0, 1) := oc_42 shX12_nextOf_48
theorem dX12_nextOf_49 : decode cX12_nextOf 49 = .ok (.aload_n 0, 1) := oc_42 shX12_nextOf_49
theorem dX12_nextOf_50 : decode cX12_nextOf 50 = .ok (.getfield 101, 3) := oc_180 shX12_nextOf_50
theorem dX12_nextOf_53 : decode cX12_nextOf 53 = .ok (.iload_n 1, 1) := oc_27 shX12_nextOf_53
theorem dX12_nextOf_54 : decode cX12_nextOf 54 = .ok (.iaload, 1) := oc_46 shX12_nextOf_54
theorem dX12_nextOf_55 : decode cX12_nextOf 55 = .ok (.aload_n 0, 1) := oc_42 shX12_nextOf_55
theorem dX12_nextOf_56 : decode cX12_nextOf 56 = .ok (.getfield 101, 3) := oc_180 shX12_nextOf_56
theorem dX12_nextOf_59 : decode cX12_nextOf 59 = .ok (.iload 5, 2) := oc_21 shX12_nextOf_59
theorem dX12_nextOf_61 : decode cX12_nextOf 61 = .ok (.iaload, 1) := oc_46 shX12_nextOf_61
theorem dX12_nextOf_62 : decode cX12_nextOf 62 = .ok (.invokevirtual 371, 3) := oc_182 shX12_nextOf_62
theorem dX12_nextOf_65 : decode cX12_nextOf 65 = .ok (.aload_n 0, 1) := oc_42 shX12_nextOf_65
theorem dX12_nextOf_66 : decode cX12_nextOf 66 = .ok (.getfield 104, 3) := oc_180 shX12_nextOf_66
theorem dX12_nextOf_69 : decode cX12_nextOf 69 = .ok (.bipush 8, 2) := oc_16 shX12_nextOf_69 sgb_8
theorem dX12_nextOf_71 : decode cX12_nextOf 71 = .ok (.iload_n 2, 1) := oc_28 shX12_nextOf_71
theorem dX12_nextOf_72 : decode cX12_nextOf 72 = .ok (.iconst 1, 1) := oc_4 shX12_nextOf_72
theorem dX12_nextOf_73 : decode cX12_nextOf 73 = .ok (.iload 5, 2) := oc_21 shX12_nextOf_73
theorem dX12_nextOf_75 : decode cX12_nextOf 75 = .ok (.ishl, 1) := oc_120 shX12_nextOf_75
theorem dX12_nextOf_76 : decode cX12_nextOf 76 = .ok (.iconst (-1), 1) := oc_2 shX12_nextOf_76
theorem dX12_nextOf_77 : decode cX12_nextOf 77 = .ok (.ixor, 1) := oc_130 shX12_nextOf_77
theorem dX12_nextOf_78 : decode cX12_nextOf 78 = .ok (.iand, 1) := oc_126 shX12_nextOf_78
theorem dX12_nextOf_79 : decode cX12_nextOf 79 = .ok (.imul, 1) := oc_104 shX12_nextOf_79
theorem dX12_nextOf_80 : decode cX12_nextOf 80 = .ok (.iload 5, 2) := oc_21 shX12_nextOf_80
theorem dX12_nextOf_82 : decode cX12_nextOf 82 = .ok (.iadd, 1) := oc_96 shX12_nextOf_82
theorem dX12_nextOf_83 : decode cX12_nextOf 83 = .ok (.iaload, 1) := oc_46 shX12_nextOf_83
theorem dX12_nextOf_84 : decode cX12_nextOf 84 = .ok (.iadd, 1) := oc_96 shX12_nextOf_84
theorem dX12_nextOf_85 : decode cX12_nextOf 85 = .ok (.istore 6, 2) := oc_54 shX12_nextOf_85
theorem dX12_nextOf_87 : decode cX12_nextOf 87 = .ok (.iload_n 3, 1) := oc_29 shX12_nextOf_87
theorem dX12_nextOf_88 : decode cX12_nextOf 88 = .ok (.iconst (-1), 1) := oc_2 shX12_nextOf_88
theorem dX12_nextOf_89 : decode cX12_nextOf 89 = .ok (.if_icmp .eq 13, 3) := oc_159 shX12_nextOf_89 sgw_0_13
theorem dX12_nextOf_92 : decode cX12_nextOf 92 = .ok (.iload 6, 2) := oc_21 shX12_nextOf_92
theorem dX12_nextOf_94 : decode cX12_nextOf 94 = .ok (.iload 4, 2) := oc_21 shX12_nextOf_94
theorem dX12_nextOf_96 : decode cX12_nextOf 96 = .ok (.if_icmp .lt 6, 3) := oc_161 shX12_nextOf_96 sgw_0_6
theorem dX12_nextOf_99 : decode cX12_nextOf 99 = .ok (.goto 10, 3) := oc_167 shX12_nextOf_99 sgw_0_10
theorem dX12_nextOf_102 : decode cX12_nextOf 102 = .ok (.iload 5, 2) := oc_21 shX12_nextOf_102
theorem dX12_nextOf_104 : decode cX12_nextOf 104 = .ok (.istore_n 3, 1) := oc_62 shX12_nextOf_104
theorem dX12_nextOf_105 : decode cX12_nextOf 105 = .ok (.iload 6, 2) := oc_21 shX12_nextOf_105
theorem dX12_nextOf_107 : decode cX12_nextOf 107 = .ok (.istore 4, 2) := oc_54 shX12_nextOf_107
theorem dX12_nextOf_109 : decode cX12_nextOf 109 = .ok (.iinc 5 1, 3) := oc_132 shX12_nextOf_109 sgb_1
theorem dX12_nextOf_112 : decode cX12_nextOf 112 = .ok (.goto (-104), 3) := oc_167 shX12_nextOf_112 sgw_255_152
theorem dX12_nextOf_115 : decode cX12_nextOf 115 = .ok (.aload_n 0, 1) := oc_42 shX12_nextOf_115
theorem dX12_nextOf_116 : decode cX12_nextOf 116 = .ok (.iload_n 3, 1) := oc_29 shX12_nextOf_116
theorem dX12_nextOf_117 : decode cX12_nextOf 117 = .ok (.iconst (-1), 1) := oc_2 shX12_nextOf_117
theorem dX12_nextOf_118 : decode cX12_nextOf 118 = .ok (.if_icmp .ne 7, 3) := oc_160 shX12_nextOf_118 sgw_0_7
theorem dX12_nextOf_121 : decode cX12_nextOf 121 = .ok (.iconst 0, 1) := oc_3 shX12_nextOf_121
theorem dX12_nextOf_122 : decode cX12_nextOf 122 = .ok (.goto 5, 3) := oc_167 shX12_nextOf_122 sgw_0_5
theorem dX12_nextOf_125 : decode cX12_nextOf 125 = .ok (.iload 4, 2) := oc_21 shX12_nextOf_125
theorem dX12_nextOf_127 : decode cX12_nextOf 127 = .ok (.putfield 374, 3) := oc_181 shX12_nextOf_127
theorem dX12_nextOf_130 : decode cX12_nextOf 130 = .ok (.iload_n 3, 1) := oc_29 shX12_nextOf_130
theorem dX12_nextOf_131 : decode cX12_nextOf 131 = .ok (.ireturn, 1) := oc_172 shX12_nextOf_131
noncomputable def sxX12_lays_87 : List UInt8 := []
noncomputable def sxX12_lays_86 : List UInt8 := 172 :: sxX12_lays_87
noncomputable def sxX12_lays_85 : List UInt8 := 4 :: sxX12_lays_86
noncomputable def sxX12_lays_82 : List UInt8 := 182 :: 1 :: 121 :: sxX12_lays_85
noncomputable def sxX12_lays_81 : List UInt8 := 42 :: sxX12_lays_82
noncomputable def sxX12_lays_80 : List UInt8 := 172 :: sxX12_lays_81
noncomputable def sxX12_lays_79 : List UInt8 := 3 :: sxX12_lays_80
noncomputable def sxX12_lays_76 : List UInt8 := 164 :: 0 :: 5 :: sxX12_lays_79
noncomputable def sxX12_lays_75 : List UInt8 := 29 :: sxX12_lays_76
noncomputable def sxX12_lays_72 : List UInt8 := 180 :: 1 :: 108 :: sxX12_lays_75
noncomputable def sxX12_lays_71 : List UInt8 := 42 :: sxX12_lays_72
noncomputable def sxX12_lays_68 : List UInt8 := 167 :: 255 :: 196 :: sxX12_lays_71
noncomputable def sxX12_lays_65 : List UInt8 := 132 :: 4 :: 1 :: sxX12_lays_68
noncomputable def sxX12_lays_62 : List UInt8 := 181 :: 1 :: 108 :: sxX12_lays_65
noncomputable def sxX12_lays_61 : List UInt8 := 96 :: sxX12_lays_62
noncomputable def sxX12_lays_60 : List UInt8 := 4 :: sxX12_lays_61
noncomputable def sxX12_lays_57 : List UInt8 := 180 :: 1 :: 108 :: sxX12_lays_60
noncomputable def sxX12_lays_56 : List UInt8 := 42 :: sxX12_lays_57
noncomputable def sxX12_lays_55 : List UInt8 := 42 :: sxX12_lays_56
noncomputable def sxX12_lays_54 : List UInt8 := 79 :: sxX12_lays_55
noncomputable def sxX12_lays_52 : List UInt8 := 21 :: 4 :: sxX12_lays_54
noncomputable def sxX12_lays_49 : List UInt8 := 180 :: 1 :: 108 :: sxX12_lays_52
noncomputable def sxX12_lays_48 : List UInt8 := 42 :: sxX12_lays_49
noncomputable def sxX12_lays_45 : List UInt8 := 180 :: 0 :: 101 :: sxX12_lays_48
noncomputable def sxX12_lays_44 : List UInt8 := 42 :: sxX12_lays_45
noncomputable def sxX12_lays_41 : List UInt8 := 167 :: 0 :: 24 :: sxX12_lays_44
noncomputable def sxX12_lays_38 : List UInt8 := 162 :: 0 :: 6 :: sxX12_lays_41
noncomputable def sxX12_lays_37 : List UInt8 := 28 :: sxX12_lays_38
noncomputable def sxX12_lays_34 : List UInt8 := 182 :: 0 :: 222 :: sxX12_lays_37
noncomputable def sxX12_lays_33 : List UInt8 := 27 :: sxX12_lays_34
noncomputable def sxX12_lays_31 : List UInt8 := 21 :: 4 :: sxX12_lays_33
noncomputable def sxX12_lays_30 : List UInt8 := 42 :: sxX12_lays_31
noncomputable def sxX12_lays_29 : List UInt8 := 172 :: sxX12_lays_30
noncomputable def sxX12_lays_28 : List UInt8 := 3 :: sxX12_lays_29
noncomputable def sxX12_lays_25 : List UInt8 := 164 :: 0 :: 5 :: sxX12_lays_28
noncomputable def sxX12_lays_24 : List UInt8 := 27 :: sxX12_lays_25
noncomputable def sxX12_lays_23 : List UInt8 := 46 :: sxX12_lays_24
noncomputable def sxX12_lays_21 : List UInt8 := 21 :: 4 :: sxX12_lays_23
noncomputable def sxX12_lays_18 : List UInt8 := 180 :: 0 :: 22 :: sxX12_lays_21
noncomputable def sxX12_lays_17 : List UInt8 := 42 :: sxX12_lays_18
noncomputable def sxX12_lays_14 : List UInt8 := 162 :: 0 :: 57 :: sxX12_lays_17
noncomputable def sxX12_lays_11 : List UInt8 := 180 :: 0 :: 204 :: sxX12_lays_14
noncomputable def sxX12_lays_10 : List UInt8 := 42 :: sxX12_lays_11
noncomputable def sxX12_lays_8 : List UInt8 := 21 :: 4 :: sxX12_lays_10
noncomputable def sxX12_lays_6 : List UInt8 := 54 :: 4 :: sxX12_lays_8
noncomputable def sxX12_lays_5 : List UInt8 := 3 :: sxX12_lays_6
noncomputable def sxX12_lays_2 : List UInt8 := 181 :: 1 :: 108 :: sxX12_lays_5
noncomputable def sxX12_lays_1 : List UInt8 := 3 :: sxX12_lays_2
noncomputable def sxX12_lays_0 : List UInt8 := 42 :: sxX12_lays_1
theorem shX12_lays_0 : cX12_lays.data.toList.drop 0 = sxX12_lays_0 := rfl
theorem shX12_lays_1 : cX12_lays.data.toList.drop 1 = sxX12_lays_1 := dSn 1 shX12_lays_0
theorem shX12_lays_2 : cX12_lays.data.toList.drop 2 = sxX12_lays_2 := dSn 1 shX12_lays_1
theorem shX12_lays_5 : cX12_lays.data.toList.drop 5 = sxX12_lays_5 := dSn 3 shX12_lays_2
theorem shX12_lays_6 : cX12_lays.data.toList.drop 6 = sxX12_lays_6 := dSn 1 shX12_lays_5
theorem shX12_lays_8 : cX12_lays.data.toList.drop 8 = sxX12_lays_8 := dSn 2 shX12_lays_6
theorem shX12_lays_10 : cX12_lays.data.toList.drop 10 = sxX12_lays_10 := dSn 2 shX12_lays_8
theorem shX12_lays_11 : cX12_lays.data.toList.drop 11 = sxX12_lays_11 := dSn 1 shX12_lays_10
theorem shX12_lays_14 : cX12_lays.data.toList.drop 14 = sxX12_lays_14 := dSn 3 shX12_lays_11
theorem shX12_lays_17 : cX12_lays.data.toList.drop 17 = sxX12_lays_17 := dSn 3 shX12_lays_14
theorem shX12_lays_18 : cX12_lays.data.toList.drop 18 = sxX12_lays_18 := dSn 1 shX12_lays_17
theorem shX12_lays_21 : cX12_lays.data.toList.drop 21 = sxX12_lays_21 := dSn 3 shX12_lays_18
theorem shX12_lays_23 : cX12_lays.data.toList.drop 23 = sxX12_lays_23 := dSn 2 shX12_lays_21
theorem shX12_lays_24 : cX12_lays.data.toList.drop 24 = sxX12_lays_24 := dSn 1 shX12_lays_23
theorem shX12_lays_25 : cX12_lays.data.toList.drop 25 = sxX12_lays_25 := dSn 1 shX12_lays_24
theorem shX12_lays_28 : cX12_lays.data.toList.drop 28 = sxX12_lays_28 := dSn 3 shX12_lays_25
theorem shX12_lays_29 : cX12_lays.data.toList.drop 29 = sxX12_lays_29 := dSn 1 shX12_lays_28
theorem shX12_lays_30 : cX12_lays.data.toList.drop 30 = sxX12_lays_30 := dSn 1 shX12_lays_29
theorem shX12_lays_31 : cX12_lays.data.toList.drop 31 = sxX12_lays_31 := dSn 1 shX12_lays_30
theorem shX12_lays_33 : cX12_lays.data.toList.drop 33 = sxX12_lays_33 := dSn 2 shX12_lays_31
theorem shX12_lays_34 : cX12_lays.data.toList.drop 34 = sxX12_lays_34 := dSn 1 shX12_lays_33
theorem shX12_lays_37 : cX12_lays.data.toList.drop 37 = sxX12_lays_37 := dSn 3 shX12_lays_34
theorem shX12_lays_38 : cX12_lays.data.toList.drop 38 = sxX12_lays_38 := dSn 1 shX12_lays_37
theorem shX12_lays_41 : cX12_lays.data.toList.drop 41 = sxX12_lays_41 := dSn 3 shX12_lays_38
theorem shX12_lays_44 : cX12_lays.data.toList.drop 44 = sxX12_lays_44 := dSn 3 shX12_lays_41
theorem shX12_lays_45 : cX12_lays.data.toList.drop 45 = sxX12_lays_45 := dSn 1 shX12_lays_44
theorem shX12_lays_48 : cX12_lays.data.toList.drop 48 = sxX12_lays_48 := dSn 3 shX12_lays_45
theorem shX12_lays_49 : cX12_lays.data.toList.drop 49 = sxX12_lays_49 := dSn 1 shX12_lays_48
theorem shX12_lays_52 : cX12_lays.data.toList.drop 52 = sxX12_lays_52 := dSn 3 shX12_lays_49
theorem shX12_lays_54 : cX12_lays.data.toList.drop 54 = sxX12_lays_54 := dSn 2 shX12_lays_52
theorem shX12_lays_55 : cX12_lays.data.toList.drop 55 = sxX12_lays_55 := dSn 1 shX12_lays_54
theorem shX12_lays_56 : cX12_lays.data.toList.drop 56 = sxX12_lays_56 := dSn 1 shX12_lays_55
theorem shX12_lays_57 : cX12_lays.data.toList.drop 57 = sxX12_lays_57 := dSn 1 shX12_lays_56
theorem shX12_lays_60 : cX12_lays.data.toList.drop 60 = sxX12_lays_60 := dSn 3 shX12_lays_57
theorem shX12_lays_61 : cX12_lays.data.toList.drop 61 = sxX12_lays_61 := dSn 1 shX12_lays_60
theorem shX12_lays_62 : cX12_lays.data.toList.drop 62 = sxX12_lays_62 := dSn 1 shX12_lays_61
theorem shX12_lays_65 : cX12_lays.data.toList.drop 65 = sxX12_lays_65 := dSn 3 shX12_lays_62
theorem shX12_lays_68 : cX12_lays.data.toList.drop 68 = sxX12_lays_68 := dSn 3 shX12_lays_65
theorem shX12_lays_71 : cX12_lays.data.toList.drop 71 = sxX12_lays_71 := dSn 3 shX12_lays_68
theorem shX12_lays_72 : cX12_lays.data.toList.drop 72 = sxX12_lays_72 := dSn 1 shX12_lays_71
theorem shX12_lays_75 : cX12_lays.data.toList.drop 75 = sxX12_lays_75 := dSn 3 shX12_lays_72
theorem shX12_lays_76 : cX12_lays.data.toList.drop 76 = sxX12_lays_76 := dSn 1 shX12_lays_75
theorem shX12_lays_79 : cX12_lays.data.toList.drop 79 = sxX12_lays_79 := dSn 3 shX12_lays_76
theorem shX12_lays_80 : cX12_lays.data.toList.drop 80 = sxX12_lays_80 := dSn 1 shX12_lays_79
theorem shX12_lays_81 : cX12_lays.data.toList.drop 81 = sxX12_lays_81 := dSn 1 shX12_lays_80
theorem shX12_lays_82 : cX12_lays.data.toList.drop 82 = sxX12_lays_82 := dSn 1 shX12_lays_81
theorem shX12_lays_85 : cX12_lays.data.toList.drop 85 = sxX12_lays_85 := dSn 3 shX12_lays_82
theorem shX12_lays_86 : cX12_lays.data.toList.drop 86 = sxX12_lays_86 := dSn 1 shX12_lays_85
theorem dX12_lays_0 : decode cX12_lays 0 = .ok (.aload_n 0, 1) := oc_42 shX12_lays_0
theorem dX12_lays_1 : decode cX12_lays 1 = .ok (.iconst 0, 1) := oc_3 shX12_lays_1
theorem dX12_lays_2 : decode cX12_lays 2 = .ok (.putfield 364, 3) := oc_181 shX12_lays_2
theorem dX12_lays_5 : decode cX12_lays 5 = .ok (.iconst 0, 1) := oc_3 shX12_lays_5
theorem dX12_lays_6 : decode cX12_lays 6 = .ok (.istore 4, 2) := oc_54 shX12_lays_6
theorem dX12_lays_8 : decode cX12_lays 8 = .ok (.iload 4, 2) := oc_21 shX12_lays_8
theorem dX12_lays_10 : decode cX12_lays 10 = .ok (.aload_n 0, 1) := oc_42 shX12_lays_10
theorem dX12_lays_11 : decode cX12_lays 11 = .ok (.getfield 204, 3) := oc_180 shX12_lays_11
theorem dX12_lays_14 : decode cX12_lays 14 = .ok (.if_icmp .ge 57, 3) := oc_162 shX12_lays_14 sgw_0_57
theorem dX12_lays_17 : decode cX12_lays 17 = .ok (.aload_n 0, 1) := oc_42 shX12_lays_17
theorem dX12_lays_18 : decode cX12_lays 18 = .ok (.getfield 22, 3) := oc_180 shX12_lays_18
theorem dX12_lays_21 : decode cX12_lays 21 = .ok (.iload 4, 2) := oc_21 shX12_lays_21
theorem dX12_lays_23 : decode cX12_lays 23 = .ok (.iaload, 1) := oc_46 shX12_lays_23
theorem dX12_lays_24 : decode cX12_lays 24 = .ok (.iload_n 1, 1) := oc_27 shX12_lays_24
theorem dX12_lays_25 : decode cX12_lays 25 = .ok (.if_icmp .le 5, 3) := oc_164 shX12_lays_25 sgw_0_5
theorem dX12_lays_28 : decode cX12_lays 28 = .ok (.iconst 0, 1) := oc_3 shX12_lays_28
theorem dX12_lays_29 : decode cX12_lays 29 = .ok (.ireturn, 1) := oc_172 shX12_lays_29
theorem dX12_lays_30 : decode cX12_lays 30 = .ok (.aload_n 0, 1) := oc_42 shX12_lays_30
theorem dX12_lays_31 : decode cX12_lays 31 = .ok (.iload 4, 2) := oc_21 shX12_lays_31
theorem dX12_lays_33 : decode cX12_lays 33 = .ok (.iload_n 1, 1) := oc_27 shX12_lays_33
theorem dX12_lays_34 : decode cX12_lays 34 = .ok (.invokevirtual 222, 3) := oc_182 shX12_lays_34
theorem dX12_lays_37 : decode cX12_lays 37 = .ok (.iload_n 2, 1) := oc_28 shX12_lays_37
theorem dX12_lays_38 : decode cX12_lays 38 = .ok (.if_icmp .ge 6, 3) := oc_162 shX12_lays_38 sgw_0_6
theorem dX12_lays_41 : decode cX12_lays 41 = .ok (.goto 24, 3) := oc_167 shX12_lays_41 sgw_0_24
theorem dX12_lays_44 : decode cX12_lays 44 = .ok (.aload_n 0, 1) := oc_42 shX12_lays_44
theorem dX12_lays_45 : decode cX12_lays 45 = .ok (.getfield 101, 3) := oc_180 shX12_lays_45
theorem dX12_lays_48 : decode cX12_lays 48 = .ok (.aload_n 0, 1) := oc_42 shX12_lays_48
theorem dX12_lays_49 : decode cX12_lays 49 = .ok (.getfield 364, 3) := oc_180 shX12_lays_49
theorem dX12_lays_52 : decode cX12_lays 52 = .ok (.iload 4, 2) := oc_21 shX12_lays_52
theorem dX12_lays_54 : decode cX12_lays 54 = .ok (.iastore, 1) := oc_79 shX12_lays_54
theorem dX12_lays_55 : decode cX12_lays 55 = .ok (.aload_n 0, 1) := oc_42 shX12_lays_55
theorem dX12_lays_56 : decode cX12_lays 56 = .ok (.aload_n 0, 1) := oc_42 shX12_lays_56
theorem dX12_lays_57 : decode cX12_lays 57 = .ok (.getfield 364, 3) := oc_180 shX12_lays_57
theorem dX12_lays_60 : decode cX12_lays 60 = .ok (.iconst 1, 1) := oc_4 shX12_lays_60
theorem dX12_lays_61 : decode cX12_lays 61 = .ok (.iadd, 1) := oc_96 shX12_lays_61
theorem dX12_lays_62 : decode cX12_lays 62 = .ok (.putfield 364, 3) := oc_181 shX12_lays_62
theorem dX12_lays_65 : decode cX12_lays 65 = .ok (.iinc 4 1, 3) := oc_132 shX12_lays_65 sgb_1
theorem dX12_lays_68 : decode cX12_lays 68 = .ok (.goto (-60), 3) := oc_167 shX12_lays_68 sgw_255_196
theorem dX12_lays_71 : decode cX12_lays 71 = .ok (.aload_n 0, 1) := oc_42 shX12_lays_71
theorem dX12_lays_72 : decode cX12_lays 72 = .ok (.getfield 364, 3) := oc_180 shX12_lays_72
theorem dX12_lays_75 : decode cX12_lays 75 = .ok (.iload_n 3, 1) := oc_29 shX12_lays_75
theorem dX12_lays_76 : decode cX12_lays 76 = .ok (.if_icmp .le 5, 3) := oc_164 shX12_lays_76 sgw_0_5
theorem dX12_lays_79 : decode cX12_lays 79 = .ok (.iconst 0, 1) := oc_3 shX12_lays_79
theorem dX12_lays_80 : decode cX12_lays 80 = .ok (.ireturn, 1) := oc_172 shX12_lays_80
theorem dX12_lays_81 : decode cX12_lays 81 = .ok (.aload_n 0, 1) := oc_42 shX12_lays_81
theorem dX12_lays_82 : decode cX12_lays 82 = .ok (.invokevirtual 377, 3) := oc_182 shX12_lays_82
theorem dX12_lays_85 : decode cX12_lays 85 = .ok (.iconst 1, 1) := oc_4 shX12_lays_85
theorem dX12_lays_86 : decode cX12_lays 86 = .ok (.ireturn, 1) := oc_172 shX12_lays_86
noncomputable def sxX12_round_124 : List UInt8 := []
noncomputable def sxX12_round_123 : List UInt8 := 172 :: sxX12_round_124
noncomputable def sxX12_round_122 : List UInt8 := 46 :: sxX12_round_123
noncomputable def sxX12_round_120 : List UInt8 := 21 :: 6 :: sxX12_round_122
noncomputable def sxX12_round_117 : List UInt8 := 180 :: 0 :: 101 :: sxX12_round_120
noncomputable def sxX12_round_116 : List UInt8 := 42 :: sxX12_round_117
noncomputable def sxX12_round_113 : List UInt8 := 167 :: 255 :: 226 :: sxX12_round_116
noncomputable def sxX12_round_110 : List UInt8 := 132 :: 7 :: 1 :: sxX12_round_113
noncomputable def sxX12_round_108 : List UInt8 := 54 :: 6 :: sxX12_round_110
noncomputable def sxX12_round_105 : List UInt8 := 182 :: 1 :: 127 :: sxX12_round_108
noncomputable def sxX12_round_103 : List UInt8 := 21 :: 5 :: sxX12_round_105
noncomputable def sxX12_round_101 : List UInt8 := 21 :: 6 :: sxX12_round_103
noncomputable def sxX12_round_100 : List UInt8 := 42 :: sxX12_round_101
noncomputable def sxX12_round_98 : List UInt8 := 54 :: 5 :: sxX12_round_100
noncomputable def sxX12_round_97 : List UInt8 := 126 :: sxX12_round_98
noncomputable def sxX12_round_96 : List UInt8 := 130 :: sxX12_round_97
noncomputable def sxX12_round_95 : List UInt8 := 2 :: sxX12_round_96
noncomputable def sxX12_round_94 : List UInt8 := 120 :: sxX12_round_95
noncomputable def sxX12_round_92 : List UInt8 := 21 :: 6 :: sxX12_round_94
noncomputable def sxX12_round_91 : List UInt8 := 4 :: sxX12_round_92
noncomputable def sxX12_round_89 : List UInt8 := 21 :: 5 :: sxX12_round_91
noncomputable def sxX12_round_86 : List UInt8 := 162 :: 0 :: 30 :: sxX12_round_89
noncomputable def sxX12_round_85 : List UInt8 := 29 :: sxX12_round_86
noncomputable def sxX12_round_83 : List UInt8 := 21 :: 7 :: sxX12_round_85
noncomputable def sxX12_round_81 : List UInt8 := 54 :: 7 :: sxX12_round_83
noncomputable def sxX12_round_80 : List UInt8 := 3 :: sxX12_round_81
noncomputable def sxX12_round_79 : List UInt8 := 172 :: sxX12_round_80
noncomputable def sxX12_round_78 : List UInt8 := 2 :: sxX12_round_79
noncomputable def sxX12_round_75 : List UInt8 := 161 :: 0 :: 5 :: sxX12_round_78
noncomputable def sxX12_round_73 : List UInt8 := 21 :: 4 :: sxX12_round_75
noncomputable def sxX12_round_72 : List UInt8 := 29 :: sxX12_round_73
noncomputable def sxX12_round_71 : List UInt8 := 172 :: sxX12_round_72
noncomputable def sxX12_round_68 : List UInt8 := 180 :: 1 :: 118 :: sxX12_round_71
noncomputable def sxX12_round_67 : List UInt8 := 42 :: sxX12_round_68
noncomputable def sxX12_round_64 : List UInt8 := 160 :: 0 :: 8 :: sxX12_round_67
noncomputable def sxX12_round_63 : List UInt8 := 2 :: sxX12_round_64
noncomputable def sxX12_round_62 : List UInt8 := 29 :: sxX12_round_63
noncomputable def sxX12_round_60 : List UInt8 := 54 :: 6 :: sxX12_round_62
noncomputable def sxX12_round_57 : List UInt8 := 182 :: 1 :: 127 :: sxX12_round_60
noncomputable def sxX12_round_55 : List UInt8 := 21 :: 5 :: sxX12_round_57
noncomputable def sxX12_round_54 : List UInt8 := 2 :: sxX12_round_55
noncomputable def sxX12_round_53 : List UInt8 := 42 :: sxX12_round_54
noncomputable def sxX12_round_51 : List UInt8 := 54 :: 5 :: sxX12_round_53
noncomputable def sxX12_round_50 : List UInt8 := 100 :: sxX12_round_51
noncomputable def sxX12_round_49 : List UInt8 := 4 :: sxX12_round_50
noncomputable def sxX12_round_48 : List UInt8 := 120 :: sxX12_round_49
noncomputable def sxX12_round_46 : List UInt8 := 21 :: 4 :: sxX12_round_48
noncomputable def sxX12_round_45 : List UInt8 := 4 :: sxX12_round_46
noncomputable def sxX12_round_43 : List UInt8 := 54 :: 4 :: sxX12_round_45
noncomputable def sxX12_round_40 : List UInt8 := 180 :: 1 :: 108 :: sxX12_round_43
noncomputable def sxX12_round_39 : List UInt8 := 42 :: sxX12_round_40
noncomputable def sxX12_round_38 : List UInt8 := 172 :: sxX12_round_39
noncomputable def sxX12_round_36 : List UInt8 := 16 :: 254 :: sxX12_round_38
noncomputable def sxX12_round_33 : List UInt8 := 154 :: 0 :: 6 :: sxX12_round_36
noncomputable def sxX12_round_30 : List UInt8 := 182 :: 1 :: 124 :: sxX12_round_33
noncomputable def sxX12_round_28 : List UInt8 := 16 :: 8 :: sxX12_round_30
noncomputable def sxX12_round_27 : List UInt8 := 28 :: sxX12_round_28
noncomputable def sxX12_round_26 : List UInt8 := 27 :: sxX12_round_27
noncomputable def sxX12_round_25 : List UInt8 := 42 :: sxX12_round_26
noncomputable def sxX12_round_24 : List UInt8 := 172 :: sxX12_round_25
noncomputable def sxX12_round_23 : List UInt8 := 2 :: sxX12_round_24
noncomputable def sxX12_round_20 : List UInt8 := 162 :: 0 :: 5 :: sxX12_round_23
noncomputable def sxX12_round_19 : List UInt8 := 2 :: sxX12_round_20
noncomputable def sxX12_round_18 : List UInt8 := 29 :: sxX12_round_19
noncomputable def sxX12_round_15 : List UInt8 := 153 :: 0 :: 8 :: sxX12_round_18
noncomputable def sxX12_round_12 : List UInt8 := 184 :: 0 :: 214 :: sxX12_round_15
noncomputable def sxX12_round_9 : List UInt8 := 17 :: 1 :: 144 :: sxX12_round_12
noncomputable def sxX12_round_8 : List UInt8 := 4 :: sxX12_round_9
noncomputable def sxX12_round_7 : List UInt8 := 28 :: sxX12_round_8
noncomputable def sxX12_round_4 : List UInt8 := 153 :: 0 :: 19 :: sxX12_round_7
noncomputable def sxX12_round_1 : List UInt8 := 184 :: 1 :: 85 :: sxX12_round_4
noncomputable def sxX12_round_0 : List UInt8 := 27 :: sxX12_round_1
theorem shX12_round_0 : cX12_round.data.toList.drop 0 = sxX12_round_0 := rfl
theorem shX12_round_1 : cX12_round.data.toList.drop 1 = sxX12_round_1 := dSn 1 shX12_round_0
theorem shX12_round_4 : cX12_round.data.toList.drop 4 = sxX12_round_4 := dSn 3 shX12_round_1
theorem shX12_round_7 : cX12_round.data.toList.drop 7 = sxX12_round_7 := dSn 3 shX12_round_4
theorem shX12_round_8 : cX12_round.data.toList.drop 8 = sxX12_round_8 := dSn 1 shX12_round_7
theorem shX12_round_9 : cX12_round.data.toList.drop 9 = sxX12_round_9 := dSn 1 shX12_round_8
theorem shX12_round_12 : cX12_round.data.toList.drop 12 = sxX12_round_12 := dSn 3 shX12_round_9
theorem shX12_round_15 : cX12_round.data.toList.drop 15 = sxX12_round_15 := dSn 3 shX12_round_12
theorem shX12_round_18 : cX12_round.data.toList.drop 18 = sxX12_round_18 := dSn 3 shX12_round_15
theorem shX12_round_19 : cX12_round.data.toList.drop 19 = sxX12_round_19 := dSn 1 shX12_round_18
theorem shX12_round_20 : cX12_round.data.toList.drop 20 = sxX12_round_20 := dSn 1 shX12_round_19
theorem shX12_round_23 : cX12_round.data.toList.drop 23 = sxX12_round_23 := dSn 3 shX12_round_20
theorem shX12_round_24 : cX12_round.data.toList.drop 24 = sxX12_round_24 := dSn 1 shX12_round_23
theorem shX12_round_25 : cX12_round.data.toList.drop 25 = sxX12_round_25 := dSn 1 shX12_round_24
theorem shX12_round_26 : cX12_round.data.toList.drop 26 = sxX12_round_26 := dSn 1 shX12_round_25
theorem shX12_round_27 : cX12_round.data.toList.drop 27 = sxX12_round_27 := dSn 1 shX12_round_26
theorem shX12_round_28 : cX12_round.data.toList.drop 28 = sxX12_round_28 := dSn 1 shX12_round_27
theorem shX12_round_30 : cX12_round.data.toList.drop 30 = sxX12_round_30 := dSn 2 shX12_round_28
theorem shX12_round_33 : cX12_round.data.toList.drop 33 = sxX12_round_33 := dSn 3 shX12_round_30
theorem shX12_round_36 : cX12_round.data.toList.drop 36 = sxX12_round_36 := dSn 3 shX12_round_33
theorem shX12_round_38 : cX12_round.data.toList.drop 38 = sxX12_round_38 := dSn 2 shX12_round_36
theorem shX12_round_39 : cX12_round.data.toList.drop 39 = sxX12_round_39 := dSn 1 shX12_round_38
theorem shX12_round_40 : cX12_round.data.toList.drop 40 = sxX12_round_40 := dSn 1 shX12_round_39
theorem shX12_round_43 : cX12_round.data.toList.drop 43 = sxX12_round_43 := dSn 3 shX12_round_40
theorem shX12_round_45 : cX12_round.data.toList.drop 45 = sxX12_round_45 := dSn 2 shX12_round_43
theorem shX12_round_46 : cX12_round.data.toList.drop 46 = sxX12_round_46 := dSn 1 shX12_round_45
theorem shX12_round_48 : cX12_round.data.toList.drop 48 = sxX12_round_48 := dSn 2 shX12_round_46
theorem shX12_round_49 : cX12_round.data.toList.drop 49 = sxX12_round_49 := dSn 1 shX12_round_48
theorem shX12_round_50 : cX12_round.data.toList.drop 50 = sxX12_round_50 := dSn 1 shX12_round_49
theorem shX12_round_51 : cX12_round.data.toList.drop 51 = sxX12_round_51 := dSn 1 shX12_round_50
theorem shX12_round_53 : cX12_round.data.toList.drop 53 = sxX12_round_53 := dSn 2 shX12_round_51
theorem shX12_round_54 : cX12_round.data.toList.drop 54 = sxX12_round_54 := dSn 1 shX12_round_53
theorem shX12_round_55 : cX12_round.data.toList.drop 55 = sxX12_round_55 := dSn 1 shX12_round_54
theorem shX12_round_57 : cX12_round.data.toList.drop 57 = sxX12_round_57 := dSn 2 shX12_round_55
theorem shX12_round_60 : cX12_round.data.toList.drop 60 = sxX12_round_60 := dSn 3 shX12_round_57
theorem shX12_round_62 : cX12_round.data.toList.drop 62 = sxX12_round_62 := dSn 2 shX12_round_60
theorem shX12_round_63 : cX12_round.data.toList.drop 63 = sxX12_round_63 := dSn 1 shX12_round_62
theorem shX12_round_64 : cX12_round.data.toList.drop 64 = sxX12_round_64 := dSn 1 shX12_round_63
theorem shX12_round_67 : cX12_round.data.toList.drop 67 = sxX12_round_67 := dSn 3 shX12_round_64
theorem shX12_round_68 : cX12_round.data.toList.drop 68 = sxX12_round_68 := dSn 1 shX12_round_67
theorem shX12_round_71 : cX12_round.data.toList.drop 71 = sxX12_round_71 := dSn 3 shX12_round_68
theorem shX12_round_72 : cX12_round.data.toList.drop 72 = sxX12_round_72 := dSn 1 shX12_round_71
theorem shX12_round_73 : cX12_round.data.toList.drop 73 = sxX12_round_73 := dSn 1 shX12_round_72
theorem shX12_round_75 : cX12_round.data.toList.drop 75 = sxX12_round_75 := dSn 2 shX12_round_73
theorem shX12_round_78 : cX12_round.data.toList.drop 78 = sxX12_round_78 := dSn 3 shX12_round_75
theorem shX12_round_79 : cX12_round.data.toList.drop 79 = sxX12_round_79 := dSn 1 shX12_round_78
theorem shX12_round_80 : cX12_round.data.toList.drop 80 = sxX12_round_80 := dSn 1 shX12_round_79
theorem shX12_round_81 : cX12_round.data.toList.drop 81 = sxX12_round_81 := dSn 1 shX12_round_80
theorem shX12_round_83 : cX12_round.data.toList.drop 83 = sxX12_round_83 := dSn 2 shX12_round_81
theorem shX12_round_85 : cX12_round.data.toList.drop 85 = sxX12_round_85 := dSn 2 shX12_round_83
theorem shX12_round_86 : cX12_round.data.toList.drop 86 = sxX12_round_86 := dSn 1 shX12_round_85
theorem shX12_round_89 : cX12_round.data.toList.drop 89 = sxX12_round_89 := dSn 3 shX12_round_86
theorem shX12_round_91 : cX12_round.data.toList.drop 91 = sxX12_round_91 := dSn 2 shX12_round_89
theorem shX12_round_92 : cX12_round.data.toList.drop 92 = sxX12_round_92 := dSn 1 shX12_round_91
theorem shX12_round_94 : cX12_round.data.toList.drop 94 = sxX12_round_94 := dSn 2 shX12_round_92
theorem shX12_round_95 : cX12_round.data.toList.drop 95 = sxX12_round_95 := dSn 1 shX12_round_94
theorem shX12_round_96 : cX12_round.data.toList.drop 96 = sxX12_round_96 := dSn 1 shX12_round_95
theorem shX12_round_97 : cX12_round.data.toList.drop 97 = sxX12_round_97 := dSn 1 shX12_round_96
theorem shX12_round_98 : cX12_round.data.toList.drop 98 = sxX12_round_98 := dSn 1 shX12_round_97
theorem shX12_round_100 : cX12_round.data.toList.drop 100 = sxX12_round_100 := dSn 2 shX12_round_98
theorem shX12_round_101 : cX12_round.data.toList.drop 101 = sxX12_round_101 := dSn 1 shX12_round_100
theorem shX12_round_103 : cX12_round.data.toList.drop 103 = sxX12_round_103 := dSn 2 shX12_round_101
theorem shX12_round_105 : cX12_round.data.toList.drop 105 = sxX12_round_105 := dSn 2 shX12_round_103
theorem shX12_round_108 : cX12_round.data.toList.drop 108 = sxX12_round_108 := dSn 3 shX12_round_105
theorem shX12_round_110 : cX12_round.data.toList.drop 110 = sxX12_round_110 := dSn 2 shX12_round_108
theorem shX12_round_113 : cX12_round.data.toList.drop 113 = sxX12_round_113 := dSn 3 shX12_round_110
theorem shX12_round_116 : cX12_round.data.toList.drop 116 = sxX12_round_116 := dSn 3 shX12_round_113
theorem shX12_round_117 : cX12_round.data.toList.drop 117 = sxX12_round_117 := dSn 1 shX12_round_116
theorem shX12_round_120 : cX12_round.data.toList.drop 120 = sxX12_round_120 := dSn 3 shX12_round_117
theorem shX12_round_122 : cX12_round.data.toList.drop 122 = sxX12_round_122 := dSn 2 shX12_round_120
theorem shX12_round_123 : cX12_round.data.toList.drop 123 = sxX12_round_123 := dSn 1 shX12_round_122
theorem dX12_round_0 : decode cX12_round 0 = .ok (.iload_n 1, 1) := oc_27 shX12_round_0
theorem dX12_round_1 : decode cX12_round 1 = .ok (.invokestatic 341, 3) := oc_184 shX12_round_1
theorem dX12_round_4 : decode cX12_round 4 = .ok (.ifCond .eq 19, 3) := oc_153 shX12_round_4 sgw_0_19
theorem dX12_round_7 : decode cX12_round 7 = .ok (.iload_n 2, 1) := oc_28 shX12_round_7
theorem dX12_round_8 : decode cX12_round 8 = .ok (.iconst 1, 1) := oc_4 shX12_round_8
theorem dX12_round_9 : decode cX12_round 9 = .ok (.sipush 400, 3) := oc_17 shX12_round_9 sgw_1_144
theorem dX12_round_12 : decode cX12_round 12 = .ok (.invokestatic 214, 3) := oc_184 shX12_round_12
theorem dX12_round_15 : decode cX12_round 15 = .ok (.ifCond .eq 8, 3) := oc_153 shX12_round_15 sgw_0_8
theorem dX12_round_18 : decode cX12_round 18 = .ok (.iload_n 3, 1) := oc_29 shX12_round_18
theorem dX12_round_19 : decode cX12_round 19 = .ok (.iconst (-1), 1) := oc_2 shX12_round_19
theorem dX12_round_20 : decode cX12_round 20 = .ok (.if_icmp .ge 5, 3) := oc_162 shX12_round_20 sgw_0_5
theorem dX12_round_23 : decode cX12_round 23 = .ok (.iconst (-1), 1) := oc_2 shX12_round_23
theorem dX12_round_24 : decode cX12_round 24 = .ok (.ireturn, 1) := oc_172 shX12_round_24
theorem dX12_round_25 : decode cX12_round 25 = .ok (.aload_n 0, 1) := oc_42 shX12_round_25
theorem dX12_round_26 : decode cX12_round 26 = .ok (.iload_n 1, 1) := oc_27 shX12_round_26
theorem dX12_round_27 : decode cX12_round 27 = .ok (.iload_n 2, 1) := oc_28 shX12_round_27
theorem dX12_round_28 : decode cX12_round 28 = .ok (.bipush 8, 2) := oc_16 shX12_round_28 sgb_8
theorem dX12_round_30 : decode cX12_round 30 = .ok (.invokevirtual 380, 3) := oc_182 shX12_round_30
theorem dX12_round_33 : decode cX12_round 33 = .ok (.ifCond .ne 6, 3) := oc_154 shX12_round_33 sgw_0_6
theorem dX12_round_36 : decode cX12_round 36 = .ok (.bipush (-2), 2) := oc_16 shX12_round_36 sgb_254
theorem dX12_round_38 : decode cX12_round 38 = .ok (.ireturn, 1) := oc_172 shX12_round_38
theorem dX12_round_39 : decode cX12_round 39 = .ok (.aload_n 0, 1) := oc_42 shX12_round_39
theorem dX12_round_40 : decode cX12_round 40 = .ok (.getfield 364, 3) := oc_180 shX12_round_40
theorem dX12_round_43 : decode cX12_round 43 = .ok (.istore 4, 2) := oc_54 shX12_round_43
theorem dX12_round_45 : decode cX12_round 45 = .ok (.iconst 1, 1) := oc_4 shX12_round_45
theorem dX12_round_46 : decode cX12_round 46 = .ok (.iload 4, 2) := oc_21 shX12_round_46
theorem dX12_round_48 : decode cX12_round 48 = .ok (.ishl, 1) := oc_120 shX12_round_48
theorem dX12_round_49 : decode cX12_round 49 = .ok (.iconst 1, 1) := oc_4 shX12_round_49
theorem dX12_round_50 : decode cX12_round 50 = .ok (.isub, 1) := oc_100 shX12_round_50
theorem dX12_round_51 : decode cX12_round 51 = .ok (.istore 5, 2) := oc_54 shX12_round_51
theorem dX12_round_53 : decode cX12_round 53 = .ok (.aload_n 0, 1) := oc_42 shX12_round_53
theorem dX12_round_54 : decode cX12_round 54 = .ok (.iconst (-1), 1) := oc_2 shX12_round_54
theorem dX12_round_55 : decode cX12_round 55 = .ok (.iload 5, 2) := oc_21 shX12_round_55
theorem dX12_round_57 : decode cX12_round 57 = .ok (.invokevirtual 383, 3) := oc_182 shX12_round_57
theorem dX12_round_60 : decode cX12_round 60 = .ok (.istore 6, 2) := oc_54 shX12_round_60
theorem dX12_round_62 : decode cX12_round 62 = .ok (.iload_n 3, 1) := oc_29 shX12_round_62
theorem dX12_round_63 : decode cX12_round 63 = .ok (.iconst (-1), 1) := oc_2 shX12_round_63
theorem dX12_round_64 : decode cX12_round 64 = .ok (.if_icmp .ne 8, 3) := oc_160 shX12_round_64 sgw_0_8
theorem dX12_round_67 : decode cX12_round 67 = .ok (.aload_n 0, 1) := oc_42 shX12_round_67
theorem dX12_round_68 : decode cX12_round 68 = .ok (.getfield 374, 3) := oc_180 shX12_round_68
theorem dX12_round_71 : decode cX12_round 71 = .ok (.ireturn, 1) := oc_172 shX12_round_71
theorem dX12_round_72 : decode cX12_round 72 = .ok (.iload_n 3, 1) := oc_29 shX12_round_72
theorem dX12_round_73 : decode cX12_round 73 = .ok (.iload 4, 2) := oc_21 shX12_round_73
theorem dX12_round_75 : decode cX12_round 75 = .ok (.if_icmp .lt 5, 3) := oc_161 shX12_round_75 sgw_0_5
theorem dX12_round_78 : decode cX12_round 78 = .ok (.iconst (-1), 1) := oc_2 shX12_round_78
theorem dX12_round_79 : decode cX12_round 79 = .ok (.ireturn, 1) := oc_172 shX12_round_79
theorem dX12_round_80 : decode cX12_round 80 = .ok (.iconst 0, 1) := oc_3 shX12_round_80
theorem dX12_round_81 : decode cX12_round 81 = .ok (.istore 7, 2) := oc_54 shX12_round_81
theorem dX12_round_83 : decode cX12_round 83 = .ok (.iload 7, 2) := oc_21 shX12_round_83
theorem dX12_round_85 : decode cX12_round 85 = .ok (.iload_n 3, 1) := oc_29 shX12_round_85
theorem dX12_round_86 : decode cX12_round 86 = .ok (.if_icmp .ge 30, 3) := oc_162 shX12_round_86 sgw_0_30
theorem dX12_round_89 : decode cX12_round 89 = .ok (.iload 5, 2) := oc_21 shX12_round_89
theorem dX12_round_91 : decode cX12_round 91 = .ok (.iconst 1, 1) := oc_4 shX12_round_91
theorem dX12_round_92 : decode cX12_round 92 = .ok (.iload 6, 2) := oc_21 shX12_round_92
theorem dX12_round_94 : decode cX12_round 94 = .ok (.ishl, 1) := oc_120 shX12_round_94
theorem dX12_round_95 : decode cX12_round 95 = .ok (.iconst (-1), 1) := oc_2 shX12_round_95
theorem dX12_round_96 : decode cX12_round 96 = .ok (.ixor, 1) := oc_130 shX12_round_96
theorem dX12_round_97 : decode cX12_round 97 = .ok (.iand, 1) := oc_126 shX12_round_97
theorem dX12_round_98 : decode cX12_round 98 = .ok (.istore 5, 2) := oc_54 shX12_round_98
theorem dX12_round_100 : decode cX12_round 100 = .ok (.aload_n 0, 1) := oc_42 shX12_round_100
theorem dX12_round_101 : decode cX12_round 101 = .ok (.iload 6, 2) := oc_21 shX12_round_101
theorem dX12_round_103 : decode cX12_round 103 = .ok (.iload 5, 2) := oc_21 shX12_round_103
theorem dX12_round_105 : decode cX12_round 105 = .ok (.invokevirtual 383, 3) := oc_182 shX12_round_105
theorem dX12_round_108 : decode cX12_round 108 = .ok (.istore 6, 2) := oc_54 shX12_round_108
theorem dX12_round_110 : decode cX12_round 110 = .ok (.iinc 7 1, 3) := oc_132 shX12_round_110 sgb_1
theorem dX12_round_113 : decode cX12_round 113 = .ok (.goto (-30), 3) := oc_167 shX12_round_113 sgw_255_226
theorem dX12_round_116 : decode cX12_round 116 = .ok (.aload_n 0, 1) := oc_42 shX12_round_116
theorem dX12_round_117 : decode cX12_round 117 = .ok (.getfield 101, 3) := oc_180 shX12_round_117
theorem dX12_round_120 : decode cX12_round 120 = .ok (.iload 6, 2) := oc_21 shX12_round_120
theorem dX12_round_122 : decode cX12_round 122 = .ok (.iaload, 1) := oc_46 shX12_round_122
theorem dX12_round_123 : decode cX12_round 123 = .ok (.ireturn, 1) := oc_172 shX12_round_123
