noncomputable def sxX12_lorry_49 : List UInt8 := []
noncomputable def sxX12_lorry_26 : List UInt8 := 42 :: 180 :: 1 :: 130 :: 27 :: 79 :: 42 :: 42 :: 180 :: 1 :: 130 :: 4 :: 96 :: 181 :: 1 :: 130 :: 42 :: 180 :: 1 :: 130 :: 4 :: 100 :: 172 :: sxX12_lorry_49
theorem shX12_lorry_0 : cX12_lorry.data.toList.drop 0 = 27 :: 16 :: 20 :: 17 :: 7 :: 208 :: 184 :: 0 :: 214 :: 153 :: 0 :: 11 :: 42 :: 180 :: 1 :: 130 :: 6 :: 160 :: 0 :: 5 :: 2 :: 172 :: 42 :: 180 :: 0 :: 107 :: sxX12_lorry_26 := rfl
theorem shX12_lorry_26 : cX12_lorry.data.toList.drop 26 = 42 :: 180 :: 1 :: 130 :: 27 :: 79 :: 42 :: 42 :: 180 :: 1 :: 130 :: 4 :: 96 :: 181 :: 1 :: 130 :: 42 :: 180 :: 1 :: 130 :: 4 :: 100 :: 172 :: sxX12_lorry_49 := aq_26 shX12_lorry_0
noncomputable def sxX12_off_52 : List UInt8 := []
noncomputable def sxX12_off_50 : List UInt8 := 4 :: 172 :: sxX12_off_52
noncomputable def sxX12_off_26 : List UInt8 := 27 :: 104 :: 28 :: 96 :: 51 :: 29 :: 160 :: 0 :: 5 :: 3 :: 172 :: 42 :: 180 :: 0 :: 125 :: 17 :: 1 :: 144 :: 27 :: 104 :: 28 :: 96 :: 29 :: 84 :: sxX12_off_50
theorem shX12_off_0 : cX12_off.data.toList.drop 0 = 27 :: 155 :: 0 :: 34 :: 27 :: 42 :: 180 :: 1 :: 130 :: 162 :: 0 :: 26 :: 28 :: 184 :: 1 :: 85 :: 153 :: 0 :: 19 :: 42 :: 180 :: 0 :: 125 :: 17 :: 1 :: 144 :: sxX12_off_26 := rfl
theorem shX12_off_26 : cX12_off.data.toList.drop 26 = 27 :: 104 :: 28 :: 96 :: 51 :: 29 :: 160 :: 0 :: 5 :: 3 :: 172 :: 42 :: 180 :: 0 :: 125 :: 17 :: 1 :: 144 :: 27 :: 104 :: 28 :: 96 :: 29 :: 84 :: sxX12_off_50 := aq_26 shX12_off_0
theorem shX12_off_50 : cX12_off.data.toList.drop 50 = 4 :: 172 :: sxX12_off_52 := aq_24 shX12_off_26
theorem dX12_off_35 : decode cX12_off 35 = .ok (.iconst 0, 1) := oc_3 35 (aq_9 shX12_off_26)
theorem dX12_off_36 : decode cX12_off 36 = .ok (.ireturn, 1) := oc_172 36 (aq_10 shX12_off_26)
noncomputable def sxX12_roundTo_84 : List UInt8 := []
noncomputable def sxX12_roundTo_74 : List UInt8 := 28 :: 61 :: 132 :: 3 :: 1 :: 167 :: 255 :: 191 :: 28 :: 172 :: sxX12_roundTo_84
noncomputable def sxX12_roundTo_49 : List UInt8 := 27 :: 4 :: 29 :: 120 :: 2 :: 130 :: 126 :: 104 :: 29 :: 96 :: 46 :: 96 :: 54 :: 4 :: 21 :: 4 :: 28 :: 162 :: 0 :: 8 :: 21 :: 4 :: 167 :: 0 :: 4 :: sxX12_roundTo_74
noncomputable def sxX12_roundTo_24 : List UInt8 := 122 :: 4 :: 126 :: 154 :: 0 :: 6 :: 167 :: 0 :: 46 :: 42 :: 42 :: 180 :: 0 :: 101 :: 29 :: 46 :: 182 :: 1 :: 111 :: 42 :: 180 :: 0 :: 104 :: 16 :: 8 :: sxX12_roundTo_49
theorem shX12_roundTo_0 : cX12_roundTo.data.toList.drop 0 = 27 :: 154 :: 0 :: 7 :: 3 :: 167 :: 0 :: 6 :: 19 :: 1 :: 114 :: 61 :: 3 :: 62 :: 29 :: 42 :: 180 :: 1 :: 108 :: 162 :: 0 :: 63 :: 27 :: 29 :: sxX12_roundTo_24 := rfl
theorem shX12_roundTo_24 : cX12_roundTo.data.toList.drop 24 = 122 :: 4 :: 126 :: 154 :: 0 :: 6 :: 167 :: 0 :: 46 :: 42 :: 42 :: 180 :: 0 :: 101 :: 29 :: 46 :: 182 :: 1 :: 111 :: 42 :: 180 :: 0 :: 104 :: 16 :: 8 :: sxX12_roundTo_49 := aq_24 shX12_roundTo_0
theorem shX12_roundTo_49 : cX12_roundTo.data.toList.drop 49 = 27 :: 4 :: 29 :: 120 :: 2 :: 130 :: 126 :: 104 :: 29 :: 96 :: 46 :: 96 :: 54 :: 4 :: 21 :: 4 :: 28 :: 162 :: 0 :: 8 :: 21 :: 4 :: 167 :: 0 :: 4 :: sxX12_roundTo_74 := aq_25 shX12_roundTo_24
theorem shX12_roundTo_74 : cX12_roundTo.data.toList.drop 74 = 28 :: 61 :: 132 :: 3 :: 1 :: 167 :: 255 :: 191 :: 28 :: 172 :: sxX12_roundTo_84 := aq_25 shX12_roundTo_49
theorem dX12_roundTo_27 : decode cX12_roundTo 27 = .ok (.ifCond .ne 6, 3) := oc_154 27 (aq_3 shX12_roundTo_24) sgw_0_6
theorem dX12_roundTo_75 : decode cX12_roundTo 75 = .ok (.istore_n 2, 1) := oc_61 75 (aq_1 shX12_roundTo_74)
theorem dX12_roundTo_76 : decode cX12_roundTo 76 = .ok (.iinc 3 1, 3) := oc_132 76 (aq_2 shX12_roundTo_74) ub_3 sgb_1
theorem dX12_roundTo_79 : decode cX12_roundTo 79 = .ok (.goto (-65), 3) := oc_167 79 (aq_5 shX12_roundTo_74) sgw_255_191
noncomputable def sxX12_sharedBy_157 : List UInt8 := []
noncomputable def sxX12_sharedBy_144 : List UInt8 := 182 :: 1 :: 133 :: 96 :: 61 :: 132 :: 3 :: 1 :: 167 :: 255 :: 215 :: 28 :: 172 :: sxX12_sharedBy_157
noncomputable def sxX12_sharedBy_120 : List UInt8 := 180 :: 0 :: 110 :: 29 :: 46 :: 42 :: 180 :: 0 :: 107 :: 29 :: 46 :: 164 :: 0 :: 5 :: 2 :: 172 :: 28 :: 42 :: 42 :: 180 :: 0 :: 113 :: 29 :: 46 :: sxX12_sharedBy_144
noncomputable def sxX12_sharedBy_96 : List UInt8 := 4 :: 28 :: 120 :: 128 :: 79 :: 132 :: 2 :: 1 :: 167 :: 255 :: 181 :: 3 :: 61 :: 3 :: 62 :: 29 :: 42 :: 180 :: 1 :: 130 :: 162 :: 0 :: 39 :: 42 :: sxX12_sharedBy_120
noncomputable def sxX12_sharedBy_72 : List UInt8 := 42 :: 42 :: 180 :: 0 :: 101 :: 28 :: 46 :: 27 :: 182 :: 0 :: 222 :: 96 :: 79 :: 42 :: 180 :: 0 :: 113 :: 29 :: 42 :: 180 :: 0 :: 113 :: 29 :: 46 :: sxX12_sharedBy_96
noncomputable def sxX12_sharedBy_48 : List UInt8 := 17 :: 1 :: 144 :: 29 :: 104 :: 27 :: 96 :: 51 :: 153 :: 0 :: 5 :: 2 :: 172 :: 42 :: 180 :: 0 :: 110 :: 29 :: 42 :: 180 :: 0 :: 110 :: 29 :: 46 :: sxX12_sharedBy_72
noncomputable def sxX12_sharedBy_24 : List UInt8 := 167 :: 255 :: 234 :: 3 :: 61 :: 28 :: 42 :: 180 :: 1 :: 108 :: 162 :: 0 :: 73 :: 42 :: 180 :: 0 :: 116 :: 28 :: 46 :: 62 :: 42 :: 180 :: 0 :: 125 :: sxX12_sharedBy_48
theorem shX12_sharedBy_0 : cX12_sharedBy.data.toList.drop 0 = 3 :: 61 :: 28 :: 6 :: 162 :: 0 :: 23 :: 42 :: 180 :: 0 :: 110 :: 28 :: 3 :: 79 :: 42 :: 180 :: 0 :: 113 :: 28 :: 3 :: 79 :: 132 :: 2 :: 1 :: sxX12_sharedBy_24 := rfl
theorem shX12_sharedBy_24 : cX12_sharedBy.data.toList.drop 24 = 167 :: 255 :: 234 :: 3 :: 61 :: 28 :: 42 :: 180 :: 1 :: 108 :: 162 :: 0 :: 73 :: 42 :: 180 :: 0 :: 116 :: 28 :: 46 :: 62 :: 42 :: 180 :: 0 :: 125 :: sxX12_sharedBy_48 := aq_24 shX12_sharedBy_0
theorem shX12_sharedBy_48 : cX12_sharedBy.data.toList.drop 48 = 17 :: 1 :: 144 :: 29 :: 104 :: 27 :: 96 :: 51 :: 153 :: 0 :: 5 :: 2 :: 172 :: 42 :: 180 :: 0 :: 110 :: 29 :: 42 :: 180 :: 0 :: 110 :: 29 :: 46 :: sxX12_sharedBy_72 := aq_24 shX12_sharedBy_24
theorem shX12_sharedBy_72 : cX12_sharedBy.data.toList.drop 72 = 42 :: 42 :: 180 :: 0 :: 101 :: 28 :: 46 :: 27 :: 182 :: 0 :: 222 :: 96 :: 79 :: 42 :: 180 :: 0 :: 113 :: 29 :: 42 :: 180 :: 0 :: 113 :: 29 :: 46 :: sxX12_sharedBy_96 := aq_24 shX12_sharedBy_48
theorem shX12_sharedBy_96 : cX12_sharedBy.data.toList.drop 96 = 4 :: 28 :: 120 :: 128 :: 79 :: 132 :: 2 :: 1 :: 167 :: 255 :: 181 :: 3 :: 61 :: 3 :: 62 :: 29 :: 42 :: 180 :: 1 :: 130 :: 162 :: 0 :: 39 :: 42 :: sxX12_sharedBy_120 := aq_24 shX12_sharedBy_72
theorem shX12_sharedBy_120 : cX12_sharedBy.data.toList.drop 120 = 180 :: 0 :: 110 :: 29 :: 46 :: 42 :: 180 :: 0 :: 107 :: 29 :: 46 :: 164 :: 0 :: 5 :: 2 :: 172 :: 28 :: 42 :: 42 :: 180 :: 0 :: 113 :: 29 :: 46 :: sxX12_sharedBy_144 := aq_24 shX12_sharedBy_96
theorem shX12_sharedBy_144 : cX12_sharedBy.data.toList.drop 144 = 182 :: 1 :: 133 :: 96 :: 61 :: 132 :: 3 :: 1 :: 167 :: 255 :: 215 :: 28 :: 172 :: sxX12_sharedBy_157 := aq_24 shX12_sharedBy_120
theorem dX12_sharedBy_2 : decode cX12_sharedBy 2 = .ok (.iload_n 2, 1) := oc_28 2 (aq_2 shX12_sharedBy_0)
theorem dX12_sharedBy_3 : decode cX12_sharedBy 3 = .ok (.iconst 3, 1) := oc_6 3 (aq_3 shX12_sharedBy_0)
theorem dX12_sharedBy_4 : decode cX12_sharedBy 4 = .ok (.if_icmp .ge 23, 3) := oc_162 4 (aq_4 shX12_sharedBy_0) sgw_0_23
noncomputable def sxX12_shared_263 : List UInt8 := []
noncomputable def sxX12_shared_247 : List UInt8 := 42 :: 180 :: 0 :: 119 :: 21 :: 6 :: 46 :: 172 :: 132 :: 6 :: 1 :: 167 :: 255 :: 225 :: 2 :: 172 :: sxX12_shared_263
noncomputable def sxX12_shared_223 : List UInt8 := 172 :: 3 :: 54 :: 6 :: 21 :: 6 :: 42 :: 180 :: 1 :: 108 :: 162 :: 0 :: 28 :: 42 :: 180 :: 0 :: 101 :: 21 :: 6 :: 46 :: 29 :: 160 :: 0 :: 11 :: sxX12_shared_247
noncomputable def sxX12_shared_198 : List UInt8 := 167 :: 255 :: 230 :: 132 :: 6 :: 1 :: 167 :: 255 :: 135 :: 21 :: 5 :: 2 :: 160 :: 0 :: 6 :: 16 :: 254 :: 172 :: 29 :: 2 :: 160 :: 0 :: 6 :: 21 :: 5 :: sxX12_shared_223
noncomputable def sxX12_shared_174 : List UInt8 := 42 :: 180 :: 1 :: 108 :: 162 :: 0 :: 23 :: 42 :: 180 :: 0 :: 119 :: 21 :: 9 :: 42 :: 180 :: 0 :: 116 :: 21 :: 9 :: 46 :: 79 :: 132 :: 9 :: 1 :: sxX12_shared_198
noncomputable def sxX12_shared_149 : List UInt8 := 21 :: 5 :: 2 :: 159 :: 0 :: 13 :: 21 :: 8 :: 21 :: 5 :: 161 :: 0 :: 6 :: 167 :: 0 :: 39 :: 21 :: 8 :: 54 :: 5 :: 3 :: 54 :: 9 :: 21 :: 9 :: sxX12_shared_174
noncomputable def sxX12_shared_123 : List UInt8 := 42 :: 180 :: 1 :: 130 :: 108 :: 54 :: 7 :: 132 :: 8 :: 255 :: 167 :: 255 :: 225 :: 42 :: 27 :: 182 :: 1 :: 136 :: 54 :: 8 :: 21 :: 8 :: 2 :: 159 :: 0 :: 55 :: sxX12_shared_149
noncomputable def sxX12_shared_98 : List UInt8 := 4 :: 100 :: 54 :: 8 :: 21 :: 8 :: 155 :: 0 :: 32 :: 42 :: 180 :: 0 :: 116 :: 21 :: 8 :: 21 :: 7 :: 42 :: 180 :: 1 :: 130 :: 112 :: 79 :: 21 :: 7 :: sxX12_shared_123
noncomputable def sxX12_shared_74 : List UInt8 := 167 :: 255 :: 235 :: 2 :: 54 :: 5 :: 3 :: 54 :: 6 :: 21 :: 6 :: 21 :: 4 :: 162 :: 0 :: 120 :: 21 :: 6 :: 54 :: 7 :: 42 :: 180 :: 1 :: 108 :: sxX12_shared_98
noncomputable def sxX12_shared_48 : List UInt8 := 54 :: 4 :: 3 :: 54 :: 5 :: 21 :: 5 :: 42 :: 180 :: 1 :: 108 :: 162 :: 0 :: 18 :: 21 :: 4 :: 42 :: 180 :: 1 :: 130 :: 104 :: 54 :: 4 :: 132 :: 5 :: 1 :: sxX12_shared_74
noncomputable def sxX12_shared_24 : List UInt8 := 29 :: 182 :: 0 :: 218 :: 154 :: 0 :: 5 :: 2 :: 172 :: 42 :: 27 :: 28 :: 16 :: 6 :: 182 :: 1 :: 124 :: 154 :: 0 :: 6 :: 16 :: 254 :: 172 :: 4 :: sxX12_shared_48
theorem shX12_shared_0 : cX12_shared.data.toList.drop 0 = 27 :: 184 :: 1 :: 85 :: 153 :: 0 :: 27 :: 28 :: 4 :: 17 :: 1 :: 144 :: 184 :: 0 :: 214 :: 153 :: 0 :: 16 :: 29 :: 2 :: 159 :: 0 :: 13 :: 42 :: sxX12_shared_24 := rfl
theorem shX12_shared_24 : cX12_shared.data.toList.drop 24 = 29 :: 182 :: 0 :: 218 :: 154 :: 0 :: 5 :: 2 :: 172 :: 42 :: 27 :: 28 :: 16 :: 6 :: 182 :: 1 :: 124 :: 154 :: 0 :: 6 :: 16 :: 254 :: 172 :: 4 :: sxX12_shared_48 := aq_24 shX12_shared_0
theorem shX12_shared_48 : cX12_shared.data.toList.drop 48 = 54 :: 4 :: 3 :: 54 :: 5 :: 21 :: 5 :: 42 :: 180 :: 1 :: 108 :: 162 :: 0 :: 18 :: 21 :: 4 :: 42 :: 180 :: 1 :: 130 :: 104 :: 54 :: 4 :: 132 :: 5 :: 1 :: sxX12_shared_74 := aq_24 shX12_shared_24
theorem shX12_shared_74 : cX12_shared.data.toList.drop 74 = 167 :: 255 :: 235 :: 2 :: 54 :: 5 :: 3 :: 54 :: 6 :: 21 :: 6 :: 21 :: 4 :: 162 :: 0 :: 120 :: 21 :: 6 :: 54 :: 7 :: 42 :: 180 :: 1 :: 108 :: sxX12_shared_98 := aq_26 shX12_shared_48
theorem shX12_shared_98 : cX12_shared.data.toList.drop 98 = 4 :: 100 :: 54 :: 8 :: 21 :: 8 :: 155 :: 0 :: 32 :: 42 :: 180 :: 0 :: 116 :: 21 :: 8 :: 21 :: 7 :: 42 :: 180 :: 1 :: 130 :: 112 :: 79 :: 21 :: 7 :: sxX12_shared_123 := aq_24 shX12_shared_74
theorem shX12_shared_123 : cX12_shared.data.toList.drop 123 = 42 :: 180 :: 1 :: 130 :: 108 :: 54 :: 7 :: 132 :: 8 :: 255 :: 167 :: 255 :: 225 :: 42 :: 27 :: 182 :: 1 :: 136 :: 54 :: 8 :: 21 :: 8 :: 2 :: 159 :: 0 :: 55 :: sxX12_shared_149 := aq_25 shX12_shared_98
theorem shX12_shared_149 : cX12_shared.data.toList.drop 149 = 21 :: 5 :: 2 :: 159 :: 0 :: 13 :: 21 :: 8 :: 21 :: 5 :: 161 :: 0 :: 6 :: 167 :: 0 :: 39 :: 21 :: 8 :: 54 :: 5 :: 3 :: 54 :: 9 :: 21 :: 9 :: sxX12_shared_174 := aq_26 shX12_shared_123
theorem shX12_shared_174 : cX12_shared.data.toList.drop 174 = 42 :: 180 :: 1 :: 108 :: 162 :: 0 :: 23 :: 42 :: 180 :: 0 :: 119 :: 21 :: 9 :: 42 :: 180 :: 0 :: 116 :: 21 :: 9 :: 46 :: 79 :: 132 :: 9 :: 1 :: sxX12_shared_198 := aq_25 shX12_shared_149
theorem shX12_shared_198 : cX12_shared.data.toList.drop 198 = 167 :: 255 :: 230 :: 132 :: 6 :: 1 :: 167 :: 255 :: 135 :: 21 :: 5 :: 2 :: 160 :: 0 :: 6 :: 16 :: 254 :: 172 :: 29 :: 2 :: 160 :: 0 :: 6 :: 21 :: 5 :: sxX12_shared_223 := aq_24 shX12_shared_174
theorem shX12_shared_223 : cX12_shared.data.toList.drop 223 = 172 :: 3 :: 54 :: 6 :: 21 :: 6 :: 42 :: 180 :: 1 :: 108 :: 162 :: 0 :: 28 :: 42 :: 180 :: 0 :: 101 :: 21 :: 6 :: 46 :: 29 :: 160 :: 0 :: 11 :: sxX12_shared_247 := aq_25 shX12_shared_198
theorem shX12_shared_247 : cX12_shared.data.toList.drop 247 = 42 :: 180 :: 0 :: 119 :: 21 :: 6 :: 46 :: 172 :: 132 :: 6 :: 1 :: 167 :: 255 :: 225 :: 2 :: 172 :: sxX12_shared_263 := aq_24 shX12_shared_223
theorem dX12_shared_41 : decode cX12_shared 41 = .ok (.ifCond .ne 6, 3) := oc_154 41 (aq_17 shX12_shared_24) sgw_0_6
theorem dX12_shared_102 : decode cX12_shared 102 = .ok (.iload 8, 2) := oc_21 102 (aq_4 shX12_shared_98) ub_8
theorem dX12_shared_104 : decode cX12_shared 104 = .ok (.ifCond .lt 32, 3) := oc_155 104 (aq_6 shX12_shared_98) sgw_0_32
theorem dX12_shared_165 : decode cX12_shared 165 = .ok (.iload 8, 2) := oc_21 165 (aq_16 shX12_shared_149) ub_8
theorem dX12_shared_167 : decode cX12_shared 167 = .ok (.istore 5, 2) := oc_54 167 (aq_18 shX12_shared_149) ub_5
theorem dX12_shared_169 : decode cX12_shared 169 = .ok (.iconst 0, 1) := oc_3 169 (aq_20 shX12_shared_149)
theorem dX12_shared_170 : decode cX12_shared 170 = .ok (.istore 9, 2) := oc_54 170 (aq_21 shX12_shared_149) ub_9
theorem dX12_shared_172 : decode cX12_shared 172 = .ok (.iload 9, 2) := oc_21 172 (aq_23 shX12_shared_149) ub_9
theorem dX12_shared_174 : decode cX12_shared 174 = .ok (.aload_n 0, 1) := oc_42 174 shX12_shared_174
theorem dX12_shared_175 : decode cX12_shared 175 = .ok (.getfield 364, 3) := oc_180 175 (aq_1 shX12_shared_174) uw_1_108
theorem dX12_shared_178 : decode cX12_shared 178 = .ok (.if_icmp .ge 23, 3) := oc_162 178 (aq_4 shX12_shared_174) sgw_0_23
theorem dX12_shared_181 : decode cX12_shared 181 = .ok (.aload_n 0, 1) := oc_42 181 (aq_7 shX12_shared_174)
theorem dX12_shared_182 : decode cX12_shared 182 = .ok (.getfield 119, 3) := oc_180 182 (aq_8 shX12_shared_174) uw_0_119
theorem dX12_shared_185 : decode cX12_shared 185 = .ok (.iload 9, 2) := oc_21 185 (aq_11 shX12_shared_174) ub_9
theorem dX12_shared_187 : decode cX12_shared 187 = .ok (.aload_n 0, 1) := oc_42 187 (aq_13 shX12_shared_174)
theorem dX12_shared_188 : decode cX12_shared 188 = .ok (.getfield 116, 3) := oc_180 188 (aq_14 shX12_shared_174) uw_0_116
theorem dX12_shared_191 : decode cX12_shared 191 = .ok (.iload 9, 2) := oc_21 191 (aq_17 shX12_shared_174) ub_9
theorem dX12_shared_193 : decode cX12_shared 193 = .ok (.iaload, 1) := oc_46 193 (aq_19 shX12_shared_174)
theorem dX12_shared_194 : decode cX12_shared 194 = .ok (.iastore, 1) := oc_79 194 (aq_20 shX12_shared_174)
theorem dX12_shared_195 : decode cX12_shared 195 = .ok (.iinc 9 1, 3) := oc_132 195 (aq_21 shX12_shared_174) ub_9 sgb_1
theorem dX12_shared_198 : decode cX12_shared 198 = .ok (.goto (-26), 3) := oc_167 198 shX12_shared_198 sgw_255_230
theorem dX12_shared_201 : decode cX12_shared 201 = .ok (.iinc 6 1, 3) := oc_132 201 (aq_3 shX12_shared_198) ub_6 sgb_1
theorem dX12_shared_204 : decode cX12_shared 204 = .ok (.goto (-121), 3) := oc_167 204 (aq_6 shX12_shared_198) sgw_255_135
noncomputable def sxX12_goNights_133 : List UInt8 := []
noncomputable def sxX12_goNights_125 : List UInt8 := 132 :: 4 :: 1 :: 167 :: 255 :: 146 :: 4 :: 172 :: sxX12_goNights_133
noncomputable def sxX12_goNights_100 : List UInt8 := 4 :: 96 :: 181 :: 1 :: 145 :: 42 :: 180 :: 0 :: 22 :: 42 :: 180 :: 0 :: 101 :: 21 :: 5 :: 46 :: 21 :: 4 :: 79 :: 132 :: 5 :: 1 :: 167 :: 255 :: 198 :: sxX12_goNights_125
noncomputable def sxX12_goNights_75 : List UInt8 := 180 :: 1 :: 142 :: 42 :: 42 :: 180 :: 0 :: 101 :: 21 :: 5 :: 46 :: 21 :: 4 :: 182 :: 0 :: 222 :: 96 :: 181 :: 1 :: 142 :: 42 :: 42 :: 180 :: 1 :: 145 :: sxX12_goNights_100
noncomputable def sxX12_goNights_51 : List UInt8 := 120 :: 4 :: 100 :: 182 :: 1 :: 133 :: 96 :: 181 :: 1 :: 139 :: 3 :: 54 :: 5 :: 21 :: 5 :: 42 :: 180 :: 1 :: 108 :: 162 :: 0 :: 55 :: 42 :: 42 :: sxX12_goNights_75
noncomputable def sxX12_goNights_26 : List UInt8 := 42 :: 21 :: 4 :: 29 :: 16 :: 8 :: 182 :: 1 :: 124 :: 154 :: 0 :: 5 :: 3 :: 172 :: 42 :: 42 :: 180 :: 1 :: 139 :: 42 :: 4 :: 42 :: 180 :: 1 :: 108 :: sxX12_goNights_51
theorem shX12_goNights_0 : cX12_goNights.data.toList.drop 0 = 42 :: 3 :: 181 :: 1 :: 139 :: 42 :: 3 :: 181 :: 1 :: 142 :: 42 :: 3 :: 181 :: 1 :: 145 :: 27 :: 54 :: 4 :: 21 :: 4 :: 27 :: 28 :: 96 :: 162 :: 0 :: 108 :: sxX12_goNights_26 := rfl
theorem shX12_goNights_26 : cX12_goNights.data.toList.drop 26 = 42 :: 21 :: 4 :: 29 :: 16 :: 8 :: 182 :: 1 :: 124 :: 154 :: 0 :: 5 :: 3 :: 172 :: 42 :: 42 :: 180 :: 1 :: 139 :: 42 :: 4 :: 42 :: 180 :: 1 :: 108 :: sxX12_goNights_51 := aq_26 shX12_goNights_0
theorem shX12_goNights_51 : cX12_goNights.data.toList.drop 51 = 120 :: 4 :: 100 :: 182 :: 1 :: 133 :: 96 :: 181 :: 1 :: 139 :: 3 :: 54 :: 5 :: 21 :: 5 :: 42 :: 180 :: 1 :: 108 :: 162 :: 0 :: 55 :: 42 :: 42 :: sxX12_goNights_75 := aq_25 shX12_goNights_26
theorem shX12_goNights_75 : cX12_goNights.data.toList.drop 75 = 180 :: 1 :: 142 :: 42 :: 42 :: 180 :: 0 :: 101 :: 21 :: 5 :: 46 :: 21 :: 4 :: 182 :: 0 :: 222 :: 96 :: 181 :: 1 :: 142 :: 42 :: 42 :: 180 :: 1 :: 145 :: sxX12_goNights_100 := aq_24 shX12_goNights_51
theorem shX12_goNights_100 : cX12_goNights.data.toList.drop 100 = 4 :: 96 :: 181 :: 1 :: 145 :: 42 :: 180 :: 0 :: 22 :: 42 :: 180 :: 0 :: 101 :: 21 :: 5 :: 46 :: 21 :: 4 :: 79 :: 132 :: 5 :: 1 :: 167 :: 255 :: 198 :: sxX12_goNights_125 := aq_25 shX12_goNights_75
theorem shX12_goNights_125 : cX12_goNights.data.toList.drop 125 = 132 :: 4 :: 1 :: 167 :: 255 :: 146 :: 4 :: 172 :: sxX12_goNights_133 := aq_25 shX12_goNights_100
noncomputable def sxX12_nights_164 : List UInt8 := []
noncomputable def sxX12_nights_146 : List UInt8 := 21 :: 4 :: 4 :: 160 :: 0 :: 10 :: 42 :: 180 :: 1 :: 142 :: 167 :: 0 :: 7 :: 42 :: 180 :: 1 :: 145 :: 172 :: sxX12_nights_164
noncomputable def sxX12_nights_121 : List UInt8 := 167 :: 255 :: 230 :: 21 :: 5 :: 154 :: 0 :: 8 :: 16 :: 254 :: 167 :: 0 :: 32 :: 21 :: 4 :: 154 :: 0 :: 10 :: 42 :: 180 :: 1 :: 139 :: 167 :: 0 :: 20 :: sxX12_nights_146
noncomputable def sxX12_nights_97 : List UInt8 := 42 :: 180 :: 0 :: 204 :: 162 :: 0 :: 23 :: 42 :: 180 :: 0 :: 22 :: 21 :: 6 :: 42 :: 180 :: 0 :: 122 :: 21 :: 6 :: 46 :: 79 :: 132 :: 6 :: 1 :: sxX12_nights_121
noncomputable def sxX12_nights_73 : List UInt8 := 21 :: 5 :: 46 :: 79 :: 132 :: 5 :: 1 :: 167 :: 255 :: 230 :: 42 :: 27 :: 28 :: 29 :: 182 :: 1 :: 148 :: 54 :: 5 :: 3 :: 54 :: 6 :: 21 :: 6 :: sxX12_nights_97
noncomputable def sxX12_nights_49 : List UInt8 := 2 :: 172 :: 3 :: 54 :: 5 :: 21 :: 5 :: 42 :: 180 :: 0 :: 204 :: 162 :: 0 :: 23 :: 42 :: 180 :: 0 :: 122 :: 21 :: 5 :: 42 :: 180 :: 0 :: 22 :: sxX12_nights_73
noncomputable def sxX12_nights_25 : List UInt8 := 163 :: 0 :: 24 :: 29 :: 4 :: 17 :: 1 :: 144 :: 184 :: 0 :: 214 :: 153 :: 0 :: 13 :: 21 :: 4 :: 3 :: 5 :: 184 :: 0 :: 214 :: 154 :: 0 :: 5 :: sxX12_nights_49
theorem shX12_nights_0 : cX12_nights.data.toList.drop 0 = 27 :: 184 :: 1 :: 85 :: 153 :: 0 :: 45 :: 28 :: 4 :: 16 :: 7 :: 184 :: 0 :: 214 :: 153 :: 0 :: 35 :: 27 :: 28 :: 96 :: 4 :: 100 :: 17 :: 1 :: 143 :: sxX12_nights_25 := rfl
theorem shX12_nights_25 : cX12_nights.data.toList.drop 25 = 163 :: 0 :: 24 :: 29 :: 4 :: 17 :: 1 :: 144 :: 184 :: 0 :: 214 :: 153 :: 0 :: 13 :: 21 :: 4 :: 3 :: 5 :: 184 :: 0 :: 214 :: 154 :: 0 :: 5 :: sxX12_nights_49 := aq_25 shX12_nights_0
theorem shX12_nights_49 : cX12_nights.data.toList.drop 49 = 2 :: 172 :: 3 :: 54 :: 5 :: 21 :: 5 :: 42 :: 180 :: 0 :: 204 :: 162 :: 0 :: 23 :: 42 :: 180 :: 0 :: 122 :: 21 :: 5 :: 42 :: 180 :: 0 :: 22 :: sxX12_nights_73 := aq_24 shX12_nights_25
theorem shX12_nights_73 : cX12_nights.data.toList.drop 73 = 21 :: 5 :: 46 :: 79 :: 132 :: 5 :: 1 :: 167 :: 255 :: 230 :: 42 :: 27 :: 28 :: 29 :: 182 :: 1 :: 148 :: 54 :: 5 :: 3 :: 54 :: 6 :: 21 :: 6 :: sxX12_nights_97 := aq_24 shX12_nights_49
theorem shX12_nights_97 : cX12_nights.data.toList.drop 97 = 42 :: 180 :: 0 :: 204 :: 162 :: 0 :: 23 :: 42 :: 180 :: 0 :: 22 :: 21 :: 6 :: 42 :: 180 :: 0 :: 122 :: 21 :: 6 :: 46 :: 79 :: 132 :: 6 :: 1 :: sxX12_nights_121 := aq_24 shX12_nights_73
theorem shX12_nights_121 : cX12_nights.data.toList.drop 121 = 167 :: 255 :: 230 :: 21 :: 5 :: 154 :: 0 :: 8 :: 16 :: 254 :: 167 :: 0 :: 32 :: 21 :: 4 :: 154 :: 0 :: 10 :: 42 :: 180 :: 1 :: 139 :: 167 :: 0 :: 20 :: sxX12_nights_146 := aq_24 shX12_nights_97
theorem shX12_nights_146 : cX12_nights.data.toList.drop 146 = 21 :: 4 :: 4 :: 160 :: 0 :: 10 :: 42 :: 180 :: 1 :: 142 :: 167 :: 0 :: 7 :: 42 :: 180 :: 1 :: 145 :: 172 :: sxX12_nights_164 := aq_25 shX12_nights_121
theorem dX12_nights_49 : decode cX12_nights 49 = .ok (.iconst (-1), 1) := oc_2 49 shX12_nights_49
theorem dX12_nights_50 : decode cX12_nights 50 = .ok (.ireturn, 1) := oc_172 50 (aq_1 shX12_nights_49)
theorem dX12_nights_163 : decode cX12_nights 163 = .ok (.ireturn, 1) := oc_172 163 (aq_17 shX12_nights_146)
noncomputable def sxX12_drum_28 : List UInt8 := []
noncomputable def sxX12_drum_25 : List UInt8 := 4 :: 100 :: 172 :: sxX12_drum_28
theorem shX12_drum_0 : cX12_drum.data.toList.drop 0 = 42 :: 180 :: 1 :: 151 :: 16 :: 20 :: 160 :: 0 :: 5 :: 2 :: 172 :: 42 :: 42 :: 180 :: 1 :: 151 :: 4 :: 96 :: 181 :: 1 :: 151 :: 42 :: 180 :: 1 :: 151 :: sxX12_drum_25 := rfl
theorem shX12_drum_25 : cX12_drum.data.toList.drop 25 = 4 :: 100 :: 172 :: sxX12_drum_28 := aq_25 shX12_drum_0
noncomputable def sxX12_isDrum_18 : List UInt8 := []
theorem shX12_isDrum_0 : cX12_isDrum.data.toList.drop 0 = 27 :: 155 :: 0 :: 15 :: 27 :: 42 :: 180 :: 1 :: 151 :: 162 :: 0 :: 7 :: 4 :: 167 :: 0 :: 4 :: 3 :: 172 :: sxX12_isDrum_18 := rfl
noncomputable def sxX12_latest_47 : List UInt8 := []
noncomputable def sxX12_latest_25 : List UInt8 := 42 :: 180 :: 0 :: 135 :: 21 :: 4 :: 46 :: 28 :: 163 :: 0 :: 6 :: 21 :: 4 :: 62 :: 132 :: 4 :: 1 :: 167 :: 255 :: 219 :: 29 :: 172 :: sxX12_latest_47
theorem shX12_latest_0 : cX12_latest.data.toList.drop 0 = 2 :: 62 :: 3 :: 54 :: 4 :: 21 :: 4 :: 42 :: 180 :: 1 :: 154 :: 162 :: 0 :: 34 :: 42 :: 180 :: 0 :: 129 :: 21 :: 4 :: 46 :: 27 :: 160 :: 0 :: 17 :: sxX12_latest_25 := rfl
theorem shX12_latest_25 : cX12_latest.data.toList.drop 25 = 42 :: 180 :: 0 :: 135 :: 21 :: 4 :: 46 :: 28 :: 163 :: 0 :: 6 :: 21 :: 4 :: 62 :: 132 :: 4 :: 1 :: 167 :: 255 :: 219 :: 29 :: 172 :: sxX12_latest_47 := aq_25 shX12_latest_0
noncomputable def sxX12_moves_115 : List UInt8 := []
noncomputable def sxX12_moves_97 : List UInt8 := 42 :: 180 :: 1 :: 154 :: 29 :: 79 :: 42 :: 42 :: 180 :: 1 :: 154 :: 4 :: 96 :: 181 :: 1 :: 154 :: 4 :: 172 :: sxX12_moves_115
noncomputable def sxX12_moves_73 : List UInt8 := 42 :: 180 :: 0 :: 129 :: 42 :: 180 :: 1 :: 154 :: 27 :: 79 :: 42 :: 180 :: 0 :: 132 :: 42 :: 180 :: 1 :: 154 :: 28 :: 79 :: 42 :: 180 :: 0 :: 135 :: sxX12_moves_97
noncomputable def sxX12_moves_49 : List UInt8 := 182 :: 1 :: 160 :: 54 :: 4 :: 21 :: 4 :: 2 :: 159 :: 0 :: 16 :: 42 :: 180 :: 0 :: 135 :: 21 :: 4 :: 46 :: 29 :: 164 :: 0 :: 5 :: 3 :: 172 :: sxX12_moves_73
noncomputable def sxX12_moves_24 : List UInt8 := 180 :: 0 :: 211 :: 184 :: 0 :: 214 :: 153 :: 0 :: 12 :: 42 :: 180 :: 1 :: 154 :: 16 :: 60 :: 160 :: 0 :: 5 :: 3 :: 172 :: 42 :: 27 :: 17 :: 1 :: 143 :: sxX12_moves_49
theorem shX12_moves_0 : cX12_moves.data.toList.drop 0 = 42 :: 27 :: 182 :: 1 :: 157 :: 153 :: 0 :: 37 :: 28 :: 2 :: 159 :: 0 :: 11 :: 42 :: 28 :: 182 :: 0 :: 218 :: 153 :: 0 :: 24 :: 29 :: 3 :: 42 :: sxX12_moves_24 := rfl
theorem shX12_moves_24 : cX12_moves.data.toList.drop 24 = 180 :: 0 :: 211 :: 184 :: 0 :: 214 :: 153 :: 0 :: 12 :: 42 :: 180 :: 1 :: 154 :: 16 :: 60 :: 160 :: 0 :: 5 :: 3 :: 172 :: 42 :: 27 :: 17 :: 1 :: 143 :: sxX12_moves_49 := aq_24 shX12_moves_0
theorem shX12_moves_49 : cX12_moves.data.toList.drop 49 = 182 :: 1 :: 160 :: 54 :: 4 :: 21 :: 4 :: 2 :: 159 :: 0 :: 16 :: 42 :: 180 :: 0 :: 135 :: 21 :: 4 :: 46 :: 29 :: 164 :: 0 :: 5 :: 3 :: 172 :: sxX12_moves_73 := aq_25 shX12_moves_24
theorem shX12_moves_73 : cX12_moves.data.toList.drop 73 = 42 :: 180 :: 0 :: 129 :: 42 :: 180 :: 1 :: 154 :: 27 :: 79 :: 42 :: 180 :: 0 :: 132 :: 42 :: 180 :: 1 :: 154 :: 28 :: 79 :: 42 :: 180 :: 0 :: 135 :: sxX12_moves_97 := aq_24 shX12_moves_49
theorem shX12_moves_97 : cX12_moves.data.toList.drop 97 = 42 :: 180 :: 1 :: 154 :: 29 :: 79 :: 42 :: 42 :: 180 :: 1 :: 154 :: 4 :: 96 :: 181 :: 1 :: 154 :: 4 :: 172 :: sxX12_moves_115 := aq_24 shX12_moves_73
theorem dX12_moves_30 : decode cX12_moves 30 = .ok (.ifCond .eq 12, 3) := oc_153 30 (aq_6 shX12_moves_24) sgw_0_12
theorem dX12_moves_42 : decode cX12_moves 42 = .ok (.iconst 0, 1) := oc_3 42 (aq_18 shX12_moves_24)
theorem dX12_moves_43 : decode cX12_moves 43 = .ok (.ireturn, 1) := oc_172 43 (aq_19 shX12_moves_24)
theorem dX12_moves_52 : decode cX12_moves 52 = .ok (.istore 4, 2) := oc_54 52 (aq_3 shX12_moves_49) ub_4
theorem dX12_moves_54 : decode cX12_moves 54 = .ok (.iload 4, 2) := oc_21 54 (aq_5 shX12_moves_49) ub_4
theorem dX12_moves_56 : decode cX12_moves 56 = .ok (.iconst (-1), 1) := oc_2 56 (aq_7 shX12_moves_49)
theorem dX12_moves_57 : decode cX12_moves 57 = .ok (.if_icmp .eq 16, 3) := oc_159 57 (aq_8 shX12_moves_49) sgw_0_16
theorem dX12_moves_73 : decode cX12_moves 73 = .ok (.aload_n 0, 1) := oc_42 73 shX12_moves_73
theorem dX12_moves_74 : decode cX12_moves 74 = .ok (.getfield 129, 3) := oc_180 74 (aq_1 shX12_moves_73) uw_0_129
theorem dX12_moves_77 : decode cX12_moves 77 = .ok (.aload_n 0, 1) := oc_42 77 (aq_4 shX12_moves_73)
theorem dX12_moves_78 : decode cX12_moves 78 = .ok (.getfield 410, 3) := oc_180 78 (aq_5 shX12_moves_73) uw_1_154
theorem dX12_moves_81 : decode cX12_moves 81 = .ok (.iload_n 1, 1) := oc_27 81 (aq_8 shX12_moves_73)
theorem dX12_moves_82 : decode cX12_moves 82 = .ok (.iastore, 1) := oc_79 82 (aq_9 shX12_moves_73)
theorem dX12_moves_83 : decode cX12_moves 83 = .ok (.aload_n 0, 1) := oc_42 83 (aq_10 shX12_moves_73)
theorem dX12_moves_84 : decode cX12_moves 84 = .ok (.getfield 132, 3) := oc_180 84 (aq_11 shX12_moves_73) uw_0_132
theorem dX12_moves_87 : decode cX12_moves 87 = .ok (.aload_n 0, 1) := oc_42 87 (aq_14 shX12_moves_73)
theorem dX12_moves_88 : decode cX12_moves 88 = .ok (.getfield 410, 3) := oc_180 88 (aq_15 shX12_moves_73) uw_1_154
theorem dX12_moves_91 : decode cX12_moves 91 = .ok (.iload_n 2, 1) := oc_28 91 (aq_18 shX12_moves_73)
theorem dX12_moves_92 : decode cX12_moves 92 = .ok (.iastore, 1) := oc_79 92 (aq_19 shX12_moves_73)
theorem dX12_moves_93 : decode cX12_moves 93 = .ok (.aload_n 0, 1) := oc_42 93 (aq_20 shX12_moves_73)
theorem dX12_moves_94 : decode cX12_moves 94 = .ok (.getfield 135, 3) := oc_180 94 (aq_21 shX12_moves_73) uw_0_135
theorem dX12_moves_97 : decode cX12_moves 97 = .ok (.aload_n 0, 1) := oc_42 97 shX12_moves_97
theorem dX12_moves_98 : decode cX12_moves 98 = .ok (.getfield 410, 3) := oc_180 98 (aq_1 shX12_moves_97) uw_1_154
theorem dX12_moves_101 : decode cX12_moves 101 = .ok (.iload_n 3, 1) := oc_29 101 (aq_4 shX12_moves_97)
theorem dX12_moves_102 : decode cX12_moves 102 = .ok (.iastore, 1) := oc_79 102 (aq_5 shX12_moves_97)
theorem dX12_moves_103 : decode cX12_moves 103 = .ok (.aload_n 0, 1) := oc_42 103 (aq_6 shX12_moves_97)
theorem dX12_moves_104 : decode cX12_moves 104 = .ok (.aload_n 0, 1) := oc_42 104 (aq_7 shX12_moves_97)
theorem dX12_moves_105 : decode cX12_moves 105 = .ok (.getfield 410, 3) := oc_180 105 (aq_8 shX12_moves_97) uw_1_154
theorem dX12_moves_108 : decode cX12_moves 108 = .ok (.iconst 1, 1) := oc_4 108 (aq_11 shX12_moves_97)
theorem dX12_moves_109 : decode cX12_moves 109 = .ok (.iadd, 1) := oc_96 109 (aq_12 shX12_moves_97)
theorem dX12_moves_110 : decode cX12_moves 110 = .ok (.putfield 410, 3) := oc_181 110 (aq_13 shX12_moves_97) uw_1_154
theorem dX12_moves_113 : decode cX12_moves 113 = .ok (.iconst 1, 1) := oc_4 113 (aq_16 shX12_moves_97)
theorem dX12_moves_114 : decode cX12_moves 114 = .ok (.ireturn, 1) := oc_172 114 (aq_17 shX12_moves_97)
noncomputable def sxX12_stood_51 : List UInt8 := []
noncomputable def sxX12_stood_48 : List UInt8 := 29 :: 46 :: 172 :: sxX12_stood_51
noncomputable def sxX12_stood_24 : List UInt8 := 29 :: 2 :: 159 :: 0 :: 13 :: 42 :: 180 :: 0 :: 132 :: 29 :: 46 :: 2 :: 160 :: 0 :: 8 :: 16 :: 254 :: 167 :: 0 :: 9 :: 42 :: 180 :: 0 :: 132 :: sxX12_stood_48
theorem shX12_stood_0 : cX12_stood.data.toList.drop 0 = 42 :: 27 :: 182 :: 1 :: 157 :: 153 :: 0 :: 10 :: 28 :: 184 :: 1 :: 85 :: 154 :: 0 :: 5 :: 2 :: 172 :: 42 :: 27 :: 28 :: 182 :: 1 :: 160 :: 62 :: sxX12_stood_24 := rfl
theorem shX12_stood_24 : cX12_stood.data.toList.drop 24 = 29 :: 2 :: 159 :: 0 :: 13 :: 42 :: 180 :: 0 :: 132 :: 29 :: 46 :: 2 :: 160 :: 0 :: 8 :: 16 :: 254 :: 167 :: 0 :: 9 :: 42 :: 180 :: 0 :: 132 :: sxX12_stood_48 := aq_24 shX12_stood_0
theorem shX12_stood_48 : cX12_stood.data.toList.drop 48 = 29 :: 46 :: 172 :: sxX12_stood_51 := aq_24 shX12_stood_24
noncomputable def sxX12_stale_79 : List UInt8 := []
noncomputable def sxX12_stale_74 : List UInt8 := 167 :: 255 :: 195 :: 28 :: 172 :: sxX12_stale_79
noncomputable def sxX12_stale_49 : List UInt8 := 42 :: 180 :: 0 :: 211 :: 42 :: 180 :: 0 :: 135 :: 21 :: 4 :: 46 :: 100 :: 27 :: 161 :: 0 :: 9 :: 28 :: 4 :: 29 :: 120 :: 128 :: 61 :: 132 :: 3 :: 1 :: sxX12_stale_74
noncomputable def sxX12_stale_24 : List UInt8 := 180 :: 0 :: 211 :: 182 :: 1 :: 160 :: 54 :: 4 :: 21 :: 4 :: 2 :: 159 :: 0 :: 36 :: 42 :: 180 :: 0 :: 132 :: 21 :: 4 :: 46 :: 2 :: 159 :: 0 :: 25 :: sxX12_stale_49
theorem shX12_stale_0 : cX12_stale.data.toList.drop 0 = 27 :: 184 :: 1 :: 85 :: 154 :: 0 :: 5 :: 2 :: 172 :: 3 :: 61 :: 3 :: 62 :: 29 :: 42 :: 180 :: 1 :: 151 :: 162 :: 0 :: 59 :: 42 :: 29 :: 42 :: sxX12_stale_24 := rfl
theorem shX12_stale_24 : cX12_stale.data.toList.drop 24 = 180 :: 0 :: 211 :: 182 :: 1 :: 160 :: 54 :: 4 :: 21 :: 4 :: 2 :: 159 :: 0 :: 36 :: 42 :: 180 :: 0 :: 132 :: 21 :: 4 :: 46 :: 2 :: 159 :: 0 :: 25 :: sxX12_stale_49 := aq_24 shX12_stale_0
theorem shX12_stale_49 : cX12_stale.data.toList.drop 49 = 42 :: 180 :: 0 :: 211 :: 42 :: 180 :: 0 :: 135 :: 21 :: 4 :: 46 :: 100 :: 27 :: 161 :: 0 :: 9 :: 28 :: 4 :: 29 :: 120 :: 128 :: 61 :: 132 :: 3 :: 1 :: sxX12_stale_74 := aq_25 shX12_stale_24
theorem shX12_stale_74 : cX12_stale.data.toList.drop 74 = 167 :: 255 :: 195 :: 28 :: 172 :: sxX12_stale_79 := aq_25 shX12_stale_49
theorem dX12_stale_71 : decode cX12_stale 71 = .ok (.iinc 3 1, 3) := oc_132 71 (aq_22 shX12_stale_49) ub_3 sgb_1
theorem dX12_stale_74 : decode cX12_stale 74 = .ok (.goto (-61), 3) := oc_167 74 shX12_stale_74 sgw_255_195
noncomputable def sxX12_driven_118 : List UInt8 := []
noncomputable def sxX12_driven_100 : List UInt8 := 21 :: 6 :: 46 :: 54 :: 4 :: 132 :: 5 :: 1 :: 167 :: 255 :: 183 :: 28 :: 29 :: 96 :: 21 :: 4 :: 96 :: 172 :: sxX12_driven_118
noncomputable def sxX12_driven_75 : List UInt8 := 46 :: 42 :: 180 :: 0 :: 13 :: 21 :: 6 :: 46 :: 184 :: 1 :: 104 :: 96 :: 61 :: 42 :: 180 :: 0 :: 7 :: 21 :: 6 :: 46 :: 62 :: 42 :: 180 :: 0 :: 13 :: sxX12_driven_100
noncomputable def sxX12_driven_51 : List UInt8 := 126 :: 54 :: 6 :: 42 :: 21 :: 6 :: 182 :: 0 :: 218 :: 154 :: 0 :: 5 :: 2 :: 172 :: 28 :: 29 :: 21 :: 4 :: 42 :: 180 :: 0 :: 7 :: 21 :: 6 :: sxX12_driven_75
noncomputable def sxX12_driven_25 : List UInt8 := 3 :: 61 :: 3 :: 62 :: 3 :: 54 :: 4 :: 3 :: 54 :: 5 :: 21 :: 5 :: 27 :: 162 :: 0 :: 73 :: 42 :: 180 :: 0 :: 52 :: 21 :: 5 :: 51 :: 17 :: 0 :: 255 :: sxX12_driven_51
theorem shX12_driven_0 : cX12_driven.data.toList.drop 0 = 27 :: 3 :: 16 :: 20 :: 184 :: 0 :: 214 :: 153 :: 0 :: 11 :: 27 :: 42 :: 180 :: 0 :: 226 :: 164 :: 0 :: 5 :: 2 :: 172 :: 42 :: 3 :: 181 :: 0 :: 226 :: sxX12_driven_25 := rfl
theorem shX12_driven_25 : cX12_driven.data.toList.drop 25 = 3 :: 61 :: 3 :: 62 :: 3 :: 54 :: 4 :: 3 :: 54 :: 5 :: 21 :: 5 :: 27 :: 162 :: 0 :: 73 :: 42 :: 180 :: 0 :: 52 :: 21 :: 5 :: 51 :: 17 :: 0 :: 255 :: sxX12_driven_51 := aq_25 shX12_driven_0
theorem shX12_driven_51 : cX12_driven.data.toList.drop 51 = 126 :: 54 :: 6 :: 42 :: 21 :: 6 :: 182 :: 0 :: 218 :: 154 :: 0 :: 5 :: 2 :: 172 :: 28 :: 29 :: 21 :: 4 :: 42 :: 180 :: 0 :: 7 :: 21 :: 6 :: sxX12_driven_75 := aq_26 shX12_driven_25
theorem shX12_driven_75 : cX12_driven.data.toList.drop 75 = 46 :: 42 :: 180 :: 0 :: 13 :: 21 :: 6 :: 46 :: 184 :: 1 :: 104 :: 96 :: 61 :: 42 :: 180 :: 0 :: 7 :: 21 :: 6 :: 46 :: 62 :: 42 :: 180 :: 0 :: 13 :: sxX12_driven_100 := aq_24 shX12_driven_51
theorem shX12_driven_100 : cX12_driven.data.toList.drop 100 = 21 :: 6 :: 46 :: 54 :: 4 :: 132 :: 5 :: 1 :: 167 :: 255 :: 183 :: 28 :: 29 :: 96 :: 21 :: 4 :: 96 :: 172 :: sxX12_driven_118 := aq_25 shX12_driven_75
theorem dX12_driven_7 : decode cX12_driven 7 = .ok (.ifCond .eq 11, 3) := oc_153 7 (aq_7 shX12_driven_0) sgw_0_11
theorem dX12_driven_18 : decode cX12_driven 18 = .ok (.iconst (-1), 1) := oc_2 18 (aq_18 shX12_driven_0)
theorem dX12_driven_19 : decode cX12_driven 19 = .ok (.ireturn, 1) := oc_172 19 (aq_19 shX12_driven_0)
theorem dX12_driven_60 : decode cX12_driven 60 = .ok (.ifCond .ne 5, 3) := oc_154 60 (aq_9 shX12_driven_51) sgw_0_5
noncomputable def sxX12_mixes_132 : List UInt8 := []
noncomputable def sxX12_mixes_122 : List UInt8 := 29 :: 42 :: 180 :: 1 :: 163 :: 108 :: 181 :: 1 :: 169 :: 177 :: sxX12_mixes_132
noncomputable def sxX12_mixes_97 : List UInt8 := 3 :: 167 :: 0 :: 9 :: 28 :: 42 :: 180 :: 1 :: 163 :: 108 :: 181 :: 1 :: 166 :: 42 :: 42 :: 180 :: 1 :: 163 :: 154 :: 0 :: 7 :: 3 :: 167 :: 0 :: 9 :: sxX12_mixes_122
noncomputable def sxX12_mixes_72 : List UInt8 := 46 :: 42 :: 180 :: 0 :: 37 :: 21 :: 4 :: 46 :: 104 :: 96 :: 62 :: 132 :: 4 :: 1 :: 167 :: 255 :: 182 :: 42 :: 42 :: 180 :: 1 :: 163 :: 154 :: 0 :: 7 :: sxX12_mixes_97
noncomputable def sxX12_mixes_48 : List UInt8 := 42 :: 180 :: 0 :: 31 :: 21 :: 4 :: 46 :: 42 :: 180 :: 0 :: 34 :: 21 :: 4 :: 46 :: 104 :: 96 :: 61 :: 29 :: 42 :: 180 :: 0 :: 31 :: 21 :: 4 :: sxX12_mixes_72
noncomputable def sxX12_mixes_24 : List UInt8 := 126 :: 154 :: 0 :: 6 :: 167 :: 0 :: 55 :: 42 :: 42 :: 180 :: 1 :: 163 :: 42 :: 180 :: 0 :: 31 :: 21 :: 4 :: 46 :: 96 :: 181 :: 1 :: 163 :: 28 :: sxX12_mixes_48
theorem shX12_mixes_0 : cX12_mixes.data.toList.drop 0 = 3 :: 61 :: 3 :: 62 :: 42 :: 3 :: 181 :: 1 :: 163 :: 3 :: 54 :: 4 :: 21 :: 4 :: 16 :: 20 :: 162 :: 0 :: 73 :: 27 :: 21 :: 4 :: 122 :: 4 :: sxX12_mixes_24 := rfl
theorem shX12_mixes_24 : cX12_mixes.data.toList.drop 24 = 126 :: 154 :: 0 :: 6 :: 167 :: 0 :: 55 :: 42 :: 42 :: 180 :: 1 :: 163 :: 42 :: 180 :: 0 :: 31 :: 21 :: 4 :: 46 :: 96 :: 181 :: 1 :: 163 :: 28 :: sxX12_mixes_48 := aq_24 shX12_mixes_0
theorem shX12_mixes_48 : cX12_mixes.data.toList.drop 48 = 42 :: 180 :: 0 :: 31 :: 21 :: 4 :: 46 :: 42 :: 180 :: 0 :: 34 :: 21 :: 4 :: 46 :: 104 :: 96 :: 61 :: 29 :: 42 :: 180 :: 0 :: 31 :: 21 :: 4 :: sxX12_mixes_72 := aq_24 shX12_mixes_24
theorem shX12_mixes_72 : cX12_mixes.data.toList.drop 72 = 46 :: 42 :: 180 :: 0 :: 37 :: 21 :: 4 :: 46 :: 104 :: 96 :: 62 :: 132 :: 4 :: 1 :: 167 :: 255 :: 182 :: 42 :: 42 :: 180 :: 1 :: 163 :: 154 :: 0 :: 7 :: sxX12_mixes_97 := aq_24 shX12_mixes_48
theorem shX12_mixes_97 : cX12_mixes.data.toList.drop 97 = 3 :: 167 :: 0 :: 9 :: 28 :: 42 :: 180 :: 1 :: 163 :: 108 :: 181 :: 1 :: 166 :: 42 :: 42 :: 180 :: 1 :: 163 :: 154 :: 0 :: 7 :: 3 :: 167 :: 0 :: 9 :: sxX12_mixes_122 := aq_25 shX12_mixes_72
theorem shX12_mixes_122 : cX12_mixes.data.toList.drop 122 = 29 :: 42 :: 180 :: 1 :: 163 :: 108 :: 181 :: 1 :: 169 :: 177 :: sxX12_mixes_132 := aq_25 shX12_mixes_97
noncomputable def sxX12_bits_26 : List UInt8 := []
noncomputable def sxX12_bits_24 : List UInt8 := 27 :: 172 :: sxX12_bits_26
theorem shX12_bits_0 : cX12_bits.data.toList.drop 0 = 3 :: 60 :: 3 :: 61 :: 28 :: 16 :: 20 :: 162 :: 0 :: 17 :: 27 :: 26 :: 28 :: 122 :: 4 :: 126 :: 96 :: 60 :: 132 :: 2 :: 1 :: 167 :: 255 :: 239 :: sxX12_bits_24 := rfl
theorem shX12_bits_24 : cX12_bits.data.toList.drop 24 = 27 :: 172 :: sxX12_bits_26 := aq_24 shX12_bits_0
noncomputable def sxX12_whyNot_175 : List UInt8 := []
noncomputable def sxX12_whyNot_173 : List UInt8 := 2 :: 172 :: sxX12_whyNot_175
noncomputable def sxX12_whyNot_148 : List UInt8 := 46 :: 42 :: 180 :: 0 :: 83 :: 28 :: 46 :: 182 :: 1 :: 75 :: 4 :: 159 :: 0 :: 8 :: 28 :: 16 :: 120 :: 100 :: 172 :: 132 :: 2 :: 1 :: 167 :: 255 :: 214 :: sxX12_whyNot_173
noncomputable def sxX12_whyNot_124 : List UInt8 := 79 :: 16 :: 120 :: 61 :: 28 :: 16 :: 120 :: 42 :: 180 :: 0 :: 74 :: 16 :: 10 :: 46 :: 96 :: 162 :: 0 :: 34 :: 42 :: 42 :: 180 :: 0 :: 80 :: 28 :: sxX12_whyNot_148
noncomputable def sxX12_whyNot_99 : List UInt8 := 16 :: 9 :: 42 :: 180 :: 0 :: 92 :: 42 :: 180 :: 0 :: 211 :: 16 :: 7 :: 108 :: 46 :: 79 :: 42 :: 180 :: 0 :: 89 :: 16 :: 10 :: 27 :: 184 :: 1 :: 175 :: sxX12_whyNot_124
noncomputable def sxX12_whyNot_75 : List UInt8 := 16 :: 6 :: 3 :: 79 :: 42 :: 180 :: 0 :: 89 :: 16 :: 7 :: 3 :: 79 :: 42 :: 180 :: 0 :: 89 :: 16 :: 8 :: 3 :: 79 :: 42 :: 180 :: 0 :: 89 :: sxX12_whyNot_99
noncomputable def sxX12_whyNot_49 : List UInt8 := 7 :: 42 :: 180 :: 0 :: 211 :: 16 :: 7 :: 108 :: 79 :: 42 :: 180 :: 0 :: 89 :: 8 :: 42 :: 180 :: 0 :: 211 :: 16 :: 7 :: 112 :: 79 :: 42 :: 180 :: 0 :: 89 :: sxX12_whyNot_75
noncomputable def sxX12_whyNot_24 : List UInt8 := 79 :: 42 :: 180 :: 0 :: 89 :: 5 :: 42 :: 180 :: 1 :: 169 :: 79 :: 42 :: 180 :: 0 :: 89 :: 6 :: 42 :: 180 :: 0 :: 211 :: 79 :: 42 :: 180 :: 0 :: 89 :: sxX12_whyNot_49
theorem shX12_whyNot_0 : cX12_whyNot.data.toList.drop 0 = 42 :: 27 :: 182 :: 1 :: 172 :: 42 :: 180 :: 0 :: 89 :: 3 :: 42 :: 180 :: 1 :: 163 :: 79 :: 42 :: 180 :: 0 :: 89 :: 4 :: 42 :: 180 :: 1 :: 166 :: sxX12_whyNot_24 := rfl
theorem shX12_whyNot_24 : cX12_whyNot.data.toList.drop 24 = 79 :: 42 :: 180 :: 0 :: 89 :: 5 :: 42 :: 180 :: 1 :: 169 :: 79 :: 42 :: 180 :: 0 :: 89 :: 6 :: 42 :: 180 :: 0 :: 211 :: 79 :: 42 :: 180 :: 0 :: 89 :: sxX12_whyNot_49 := aq_24 shX12_whyNot_0
theorem shX12_whyNot_49 : cX12_whyNot.data.toList.drop 49 = 7 :: 42 :: 180 :: 0 :: 211 :: 16 :: 7 :: 108 :: 79 :: 42 :: 180 :: 0 :: 89 :: 8 :: 42 :: 180 :: 0 :: 211 :: 16 :: 7 :: 112 :: 79 :: 42 :: 180 :: 0 :: 89 :: sxX12_whyNot_75 := aq_25 shX12_whyNot_24
theorem shX12_whyNot_75 : cX12_whyNot.data.toList.drop 75 = 16 :: 6 :: 3 :: 79 :: 42 :: 180 :: 0 :: 89 :: 16 :: 7 :: 3 :: 79 :: 42 :: 180 :: 0 :: 89 :: 16 :: 8 :: 3 :: 79 :: 42 :: 180 :: 0 :: 89 :: sxX12_whyNot_99 := aq_26 shX12_whyNot_49
theorem shX12_whyNot_99 : cX12_whyNot.data.toList.drop 99 = 16 :: 9 :: 42 :: 180 :: 0 :: 92 :: 42 :: 180 :: 0 :: 211 :: 16 :: 7 :: 108 :: 46 :: 79 :: 42 :: 180 :: 0 :: 89 :: 16 :: 10 :: 27 :: 184 :: 1 :: 175 :: sxX12_whyNot_124 := aq_24 shX12_whyNot_75
theorem shX12_whyNot_124 : cX12_whyNot.data.toList.drop 124 = 79 :: 16 :: 120 :: 61 :: 28 :: 16 :: 120 :: 42 :: 180 :: 0 :: 74 :: 16 :: 10 :: 46 :: 96 :: 162 :: 0 :: 34 :: 42 :: 42 :: 180 :: 0 :: 80 :: 28 :: sxX12_whyNot_148 := aq_25 shX12_whyNot_99
theorem shX12_whyNot_148 : cX12_whyNot.data.toList.drop 148 = 46 :: 42 :: 180 :: 0 :: 83 :: 28 :: 46 :: 182 :: 1 :: 75 :: 4 :: 159 :: 0 :: 8 :: 28 :: 16 :: 120 :: 100 :: 172 :: 132 :: 2 :: 1 :: 167 :: 255 :: 214 :: sxX12_whyNot_173 := aq_24 shX12_whyNot_124
theorem shX12_whyNot_173 : cX12_whyNot.data.toList.drop 173 = 2 :: 172 :: sxX12_whyNot_175 := aq_25 shX12_whyNot_148
noncomputable def sxX12_isFree_37 : List UInt8 := []
noncomputable def sxX12_isFree_24 : List UInt8 := 42 :: 180 :: 0 :: 211 :: 163 :: 0 :: 7 :: 4 :: 167 :: 0 :: 4 :: 3 :: 172 :: sxX12_isFree_37
theorem shX12_isFree_0 : cX12_isFree.data.toList.drop 0 = 42 :: 27 :: 182 :: 1 :: 79 :: 153 :: 0 :: 30 :: 42 :: 180 :: 0 :: 46 :: 27 :: 46 :: 2 :: 160 :: 0 :: 20 :: 42 :: 180 :: 0 :: 40 :: 27 :: 46 :: sxX12_isFree_24 := rfl
theorem shX12_isFree_24 : cX12_isFree.data.toList.drop 24 = 42 :: 180 :: 0 :: 211 :: 163 :: 0 :: 7 :: 4 :: 167 :: 0 :: 4 :: 3 :: 172 :: sxX12_isFree_37 := aq_24 shX12_isFree_0
theorem dX12_isFree_36 : decode cX12_isFree 36 = .ok (.ireturn, 1) := oc_172 36 (aq_12 shX12_isFree_24)
noncomputable def sxX12_batch_144 : List UInt8 := []
noncomputable def sxX12_batch_122 : List UInt8 := 42 :: 180 :: 0 :: 211 :: 79 :: 42 :: 42 :: 180 :: 1 :: 179 :: 4 :: 96 :: 181 :: 1 :: 179 :: 42 :: 180 :: 1 :: 179 :: 4 :: 100 :: 172 :: sxX12_batch_144
noncomputable def sxX12_batch_97 : List UInt8 := 79 :: 132 :: 3 :: 1 :: 167 :: 255 :: 228 :: 42 :: 180 :: 0 :: 138 :: 42 :: 180 :: 1 :: 179 :: 27 :: 79 :: 42 :: 180 :: 0 :: 141 :: 42 :: 180 :: 1 :: 179 :: sxX12_batch_122
noncomputable def sxX12_batch_72 : List UInt8 := 62 :: 29 :: 16 :: 20 :: 162 :: 0 :: 28 :: 27 :: 29 :: 122 :: 4 :: 126 :: 4 :: 160 :: 0 :: 13 :: 42 :: 180 :: 0 :: 46 :: 29 :: 42 :: 180 :: 1 :: 179 :: sxX12_batch_97
noncomputable def sxX12_batch_48 : List UInt8 := 172 :: 132 :: 2 :: 1 :: 167 :: 255 :: 228 :: 42 :: 27 :: 182 :: 1 :: 185 :: 61 :: 28 :: 2 :: 159 :: 0 :: 8 :: 16 :: 246 :: 28 :: 100 :: 172 :: 3 :: sxX12_batch_72
noncomputable def sxX12_batch_24 : List UInt8 := 28 :: 16 :: 20 :: 162 :: 0 :: 28 :: 27 :: 28 :: 122 :: 4 :: 126 :: 4 :: 160 :: 0 :: 13 :: 42 :: 28 :: 182 :: 1 :: 182 :: 154 :: 0 :: 5 :: 2 :: sxX12_batch_48
theorem shX12_batch_0 : cX12_batch.data.toList.drop 0 = 27 :: 4 :: 19 :: 1 :: 178 :: 184 :: 0 :: 214 :: 153 :: 0 :: 12 :: 42 :: 180 :: 1 :: 179 :: 16 :: 10 :: 160 :: 0 :: 5 :: 2 :: 172 :: 3 :: 61 :: sxX12_batch_24 := rfl
theorem shX12_batch_24 : cX12_batch.data.toList.drop 24 = 28 :: 16 :: 20 :: 162 :: 0 :: 28 :: 27 :: 28 :: 122 :: 4 :: 126 :: 4 :: 160 :: 0 :: 13 :: 42 :: 28 :: 182 :: 1 :: 182 :: 154 :: 0 :: 5 :: 2 :: sxX12_batch_48 := aq_24 shX12_batch_0
theorem shX12_batch_48 : cX12_batch.data.toList.drop 48 = 172 :: 132 :: 2 :: 1 :: 167 :: 255 :: 228 :: 42 :: 27 :: 182 :: 1 :: 185 :: 61 :: 28 :: 2 :: 159 :: 0 :: 8 :: 16 :: 246 :: 28 :: 100 :: 172 :: 3 :: sxX12_batch_72 := aq_24 shX12_batch_24
theorem shX12_batch_72 : cX12_batch.data.toList.drop 72 = 62 :: 29 :: 16 :: 20 :: 162 :: 0 :: 28 :: 27 :: 29 :: 122 :: 4 :: 126 :: 4 :: 160 :: 0 :: 13 :: 42 :: 180 :: 0 :: 46 :: 29 :: 42 :: 180 :: 1 :: 179 :: sxX12_batch_97 := aq_24 shX12_batch_48
theorem shX12_batch_97 : cX12_batch.data.toList.drop 97 = 79 :: 132 :: 3 :: 1 :: 167 :: 255 :: 228 :: 42 :: 180 :: 0 :: 138 :: 42 :: 180 :: 1 :: 179 :: 27 :: 79 :: 42 :: 180 :: 0 :: 141 :: 42 :: 180 :: 1 :: 179 :: sxX12_batch_122 := aq_25 shX12_batch_72
theorem shX12_batch_122 : cX12_batch.data.toList.drop 122 = 42 :: 180 :: 0 :: 211 :: 79 :: 42 :: 42 :: 180 :: 1 :: 179 :: 4 :: 96 :: 181 :: 1 :: 179 :: 42 :: 180 :: 1 :: 179 :: 4 :: 100 :: 172 :: sxX12_batch_144 := aq_25 shX12_batch_97
noncomputable def sxX12_isBatch_18 : List UInt8 := []
theorem shX12_isBatch_0 : cX12_isBatch.data.toList.drop 0 = 27 :: 155 :: 0 :: 15 :: 27 :: 42 :: 180 :: 1 :: 179 :: 162 :: 0 :: 7 :: 4 :: 167 :: 0 :: 4 :: 3 :: 172 :: sxX12_isBatch_18 := rfl
noncomputable def sxX12_litresOf_15 : List UInt8 := []
theorem shX12_litresOf_0 : cX12_litresOf.data.toList.drop 0 = 42 :: 42 :: 180 :: 0 :: 138 :: 27 :: 46 :: 182 :: 1 :: 172 :: 42 :: 180 :: 1 :: 163 :: 172 :: sxX12_litresOf_15 := rfl
noncomputable def sxX12_proved_124 : List UInt8 := []
noncomputable def sxX12_proved_100 : List UInt8 := 167 :: 255 :: 181 :: 29 :: 21 :: 6 :: 153 :: 0 :: 7 :: 4 :: 167 :: 0 :: 4 :: 3 :: 96 :: 62 :: 132 :: 5 :: 1 :: 167 :: 255 :: 149 :: 29 :: 172 :: sxX12_proved_124
noncomputable def sxX12_proved_74 : List UInt8 := 28 :: 2 :: 159 :: 0 :: 14 :: 42 :: 180 :: 0 :: 156 :: 21 :: 7 :: 46 :: 28 :: 160 :: 0 :: 7 :: 4 :: 167 :: 0 :: 4 :: 3 :: 54 :: 6 :: 132 :: 7 :: 1 :: sxX12_proved_100
noncomputable def sxX12_proved_50 : List UInt8 := 21 :: 5 :: 42 :: 180 :: 0 :: 150 :: 21 :: 7 :: 46 :: 161 :: 0 :: 35 :: 21 :: 5 :: 42 :: 180 :: 0 :: 153 :: 21 :: 7 :: 46 :: 162 :: 0 :: 23 :: sxX12_proved_74
noncomputable def sxX12_proved_25 : List UInt8 := 21 :: 7 :: 42 :: 180 :: 1 :: 191 :: 162 :: 0 :: 72 :: 21 :: 6 :: 154 :: 0 :: 54 :: 42 :: 180 :: 0 :: 147 :: 21 :: 7 :: 46 :: 27 :: 160 :: 0 :: 47 :: sxX12_proved_50
theorem shX12_proved_0 : cX12_proved.data.toList.drop 0 = 3 :: 62 :: 42 :: 27 :: 182 :: 1 :: 188 :: 54 :: 4 :: 3 :: 54 :: 5 :: 21 :: 5 :: 21 :: 4 :: 162 :: 0 :: 106 :: 3 :: 54 :: 6 :: 3 :: 54 :: 7 :: sxX12_proved_25 := rfl
theorem shX12_proved_25 : cX12_proved.data.toList.drop 25 = 21 :: 7 :: 42 :: 180 :: 1 :: 191 :: 162 :: 0 :: 72 :: 21 :: 6 :: 154 :: 0 :: 54 :: 42 :: 180 :: 0 :: 147 :: 21 :: 7 :: 46 :: 27 :: 160 :: 0 :: 47 :: sxX12_proved_50 := aq_25 shX12_proved_0
theorem shX12_proved_50 : cX12_proved.data.toList.drop 50 = 21 :: 5 :: 42 :: 180 :: 0 :: 150 :: 21 :: 7 :: 46 :: 161 :: 0 :: 35 :: 21 :: 5 :: 42 :: 180 :: 0 :: 153 :: 21 :: 7 :: 46 :: 162 :: 0 :: 23 :: sxX12_proved_74 := aq_25 shX12_proved_25
theorem shX12_proved_74 : cX12_proved.data.toList.drop 74 = 28 :: 2 :: 159 :: 0 :: 14 :: 42 :: 180 :: 0 :: 156 :: 21 :: 7 :: 46 :: 28 :: 160 :: 0 :: 7 :: 4 :: 167 :: 0 :: 4 :: 3 :: 54 :: 6 :: 132 :: 7 :: 1 :: sxX12_proved_100 := aq_24 shX12_proved_50
theorem shX12_proved_100 : cX12_proved.data.toList.drop 100 = 167 :: 255 :: 181 :: 29 :: 21 :: 6 :: 153 :: 0 :: 7 :: 4 :: 167 :: 0 :: 4 :: 3 :: 96 :: 62 :: 132 :: 5 :: 1 :: 167 :: 255 :: 149 :: 29 :: 172 :: sxX12_proved_124 := aq_26 shX12_proved_74
theorem dX12_proved_94 : decode cX12_proved 94 = .ok (.iconst 0, 1) := oc_3 94 (aq_20 shX12_proved_74)
theorem dX12_proved_95 : decode cX12_proved 95 = .ok (.istore 6, 2) := oc_54 95 (aq_21 shX12_proved_74) ub_6
theorem dX12_proved_97 : decode cX12_proved 97 = .ok (.iinc 7 1, 3) := oc_132 97 (aq_23 shX12_proved_74) ub_7 sgb_1
theorem dX12_proved_100 : decode cX12_proved 100 = .ok (.goto (-75), 3) := oc_167 100 shX12_proved_100 sgw_255_181
noncomputable def sxX12_batchIs_95 : List UInt8 := []
noncomputable def sxX12_batchIs_86 : List UInt8 := 100 :: 172 :: 42 :: 180 :: 0 :: 138 :: 27 :: 46 :: 172 :: sxX12_batchIs_95
noncomputable def sxX12_batchIs_60 : List UInt8 := 42 :: 180 :: 1 :: 163 :: 172 :: 42 :: 180 :: 1 :: 166 :: 172 :: 42 :: 180 :: 1 :: 169 :: 172 :: 42 :: 27 :: 182 :: 1 :: 188 :: 42 :: 27 :: 2 :: 182 :: 1 :: 197 :: sxX12_batchIs_86
noncomputable def sxX12_batchIs_24 : List UInt8 := 27 :: 46 :: 182 :: 1 :: 172 :: 28 :: 170 :: 0 :: 0 :: 0 :: 0 :: 58 :: 0 :: 0 :: 0 :: 0 :: 0 :: 0 :: 0 :: 3 :: 0 :: 0 :: 0 :: 30 :: 0 :: 0 :: 0 :: 35 :: 0 :: 0 :: 0 :: 40 :: 0 :: 0 :: 0 :: 45 :: sxX12_batchIs_60
theorem shX12_batchIs_0 : cX12_batchIs.data.toList.drop 0 = 42 :: 27 :: 182 :: 1 :: 194 :: 153 :: 0 :: 12 :: 28 :: 3 :: 7 :: 184 :: 0 :: 214 :: 154 :: 0 :: 5 :: 2 :: 172 :: 42 :: 42 :: 180 :: 0 :: 138 :: sxX12_batchIs_24 := rfl
theorem shX12_batchIs_24 : cX12_batchIs.data.toList.drop 24 = 27 :: 46 :: 182 :: 1 :: 172 :: 28 :: 170 :: 0 :: 0 :: 0 :: 0 :: 58 :: 0 :: 0 :: 0 :: 0 :: 0 :: 0 :: 0 :: 3 :: 0 :: 0 :: 0 :: 30 :: 0 :: 0 :: 0 :: 35 :: 0 :: 0 :: 0 :: 40 :: 0 :: 0 :: 0 :: 45 :: sxX12_batchIs_60 := aq_24 shX12_batchIs_0
theorem shX12_batchIs_60 : cX12_batchIs.data.toList.drop 60 = 42 :: 180 :: 1 :: 163 :: 172 :: 42 :: 180 :: 1 :: 166 :: 172 :: 42 :: 180 :: 1 :: 169 :: 172 :: 42 :: 27 :: 182 :: 1 :: 188 :: 42 :: 27 :: 2 :: 182 :: 1 :: 197 :: sxX12_batchIs_86 := dSn 36 shX12_batchIs_24
theorem shX12_batchIs_86 : cX12_batchIs.data.toList.drop 86 = 100 :: 172 :: 42 :: 180 :: 0 :: 138 :: 27 :: 46 :: 172 :: sxX12_batchIs_95 := aq_26 shX12_batchIs_60
theorem dX12_batchIs_30 : decode cX12_batchIs 30 = .ok (.tableswitch 58 0 3 #[30, 35, 40, 45], 30) := by decide +kernel
noncomputable def sxX12_blend_168 : List UInt8 := []
noncomputable def sxX12_blend_146 : List UInt8 := 161 :: 0 :: 6 :: 167 :: 0 :: 11 :: 21 :: 5 :: 61 :: 42 :: 180 :: 1 :: 163 :: 62 :: 132 :: 4 :: 1 :: 167 :: 255 :: 144 :: 28 :: 172 :: sxX12_blend_168
noncomputable def sxX12_blend_121 : List UInt8 := 42 :: 180 :: 1 :: 163 :: 29 :: 161 :: 0 :: 34 :: 42 :: 180 :: 1 :: 163 :: 29 :: 160 :: 0 :: 18 :: 21 :: 5 :: 184 :: 1 :: 175 :: 28 :: 184 :: 1 :: 175 :: sxX12_blend_146
noncomputable def sxX12_blend_97 : List UInt8 := 21 :: 5 :: 54 :: 5 :: 132 :: 6 :: 1 :: 167 :: 255 :: 217 :: 42 :: 21 :: 5 :: 182 :: 1 :: 185 :: 2 :: 160 :: 0 :: 46 :: 28 :: 153 :: 0 :: 34 :: sxX12_blend_121
noncomputable def sxX12_blend_73 : List UInt8 := 21 :: 6 :: 122 :: 4 :: 126 :: 4 :: 160 :: 0 :: 18 :: 21 :: 5 :: 4 :: 42 :: 180 :: 0 :: 159 :: 21 :: 6 :: 46 :: 120 :: 128 :: 167 :: 0 :: 5 :: sxX12_blend_97
noncomputable def sxX12_blend_48 : List UInt8 := 4 :: 54 :: 4 :: 21 :: 4 :: 4 :: 27 :: 120 :: 162 :: 0 :: 110 :: 3 :: 54 :: 5 :: 3 :: 54 :: 6 :: 21 :: 6 :: 27 :: 162 :: 0 :: 39 :: 21 :: 4 :: sxX12_blend_73
noncomputable def sxX12_blend_24 : List UInt8 := 167 :: 0 :: 14 :: 42 :: 180 :: 0 :: 159 :: 27 :: 28 :: 79 :: 27 :: 4 :: 96 :: 60 :: 132 :: 2 :: 1 :: 167 :: 255 :: 219 :: 3 :: 61 :: 3 :: 62 :: sxX12_blend_48
theorem shX12_blend_0 : cX12_blend.data.toList.drop 0 = 3 :: 60 :: 3 :: 61 :: 28 :: 16 :: 20 :: 162 :: 0 :: 37 :: 27 :: 16 :: 12 :: 162 :: 0 :: 31 :: 42 :: 28 :: 182 :: 1 :: 182 :: 154 :: 0 :: 6 :: sxX12_blend_24 := rfl
theorem shX12_blend_24 : cX12_blend.data.toList.drop 24 = 167 :: 0 :: 14 :: 42 :: 180 :: 0 :: 159 :: 27 :: 28 :: 79 :: 27 :: 4 :: 96 :: 60 :: 132 :: 2 :: 1 :: 167 :: 255 :: 219 :: 3 :: 61 :: 3 :: 62 :: sxX12_blend_48 := aq_24 shX12_blend_0
theorem shX12_blend_48 : cX12_blend.data.toList.drop 48 = 4 :: 54 :: 4 :: 21 :: 4 :: 4 :: 27 :: 120 :: 162 :: 0 :: 110 :: 3 :: 54 :: 5 :: 3 :: 54 :: 6 :: 21 :: 6 :: 27 :: 162 :: 0 :: 39 :: 21 :: 4 :: sxX12_blend_73 := aq_24 shX12_blend_24
theorem shX12_blend_73 : cX12_blend.data.toList.drop 73 = 21 :: 6 :: 122 :: 4 :: 126 :: 4 :: 160 :: 0 :: 18 :: 21 :: 5 :: 4 :: 42 :: 180 :: 0 :: 159 :: 21 :: 6 :: 46 :: 120 :: 128 :: 167 :: 0 :: 5 :: sxX12_blend_97 := aq_25 shX12_blend_48
theorem shX12_blend_97 : cX12_blend.data.toList.drop 97 = 21 :: 5 :: 54 :: 5 :: 132 :: 6 :: 1 :: 167 :: 255 :: 217 :: 42 :: 21 :: 5 :: 182 :: 1 :: 185 :: 2 :: 160 :: 0 :: 46 :: 28 :: 153 :: 0 :: 34 :: sxX12_blend_121 := aq_24 shX12_blend_73
theorem shX12_blend_121 : cX12_blend.data.toList.drop 121 = 42 :: 180 :: 1 :: 163 :: 29 :: 161 :: 0 :: 34 :: 42 :: 180 :: 1 :: 163 :: 29 :: 160 :: 0 :: 18 :: 21 :: 5 :: 184 :: 1 :: 175 :: 28 :: 184 :: 1 :: 175 :: sxX12_blend_146 := aq_24 shX12_blend_97
theorem shX12_blend_146 : cX12_blend.data.toList.drop 146 = 161 :: 0 :: 6 :: 167 :: 0 :: 11 :: 21 :: 5 :: 61 :: 42 :: 180 :: 1 :: 163 :: 62 :: 132 :: 4 :: 1 :: 167 :: 255 :: 144 :: 28 :: 172 :: sxX12_blend_168 := aq_25 shX12_blend_121
theorem dX12_blend_99 : decode cX12_blend 99 = .ok (.istore 5, 2) := oc_54 99 (aq_2 shX12_blend_97) ub_5
theorem dX12_blend_101 : decode cX12_blend 101 = .ok (.iinc 6 1, 3) := oc_132 101 (aq_4 shX12_blend_97) ub_6 sgb_1
theorem dX12_blend_104 : decode cX12_blend 104 = .ok (.goto (-39), 3) := oc_167 104 (aq_7 shX12_blend_97) sgw_255_217
theorem dX12_blend_152 : decode cX12_blend 152 = .ok (.iload 5, 2) := oc_21 152 (aq_6 shX12_blend_146) ub_5
theorem dX12_blend_154 : decode cX12_blend 154 = .ok (.istore_n 2, 1) := oc_61 154 (aq_8 shX12_blend_146)
theorem dX12_blend_155 : decode cX12_blend 155 = .ok (.aload_n 0, 1) := oc_42 155 (aq_9 shX12_blend_146)
theorem dX12_blend_156 : decode cX12_blend 156 = .ok (.getfield 419, 3) := oc_180 156 (aq_10 shX12_blend_146) uw_1_163
theorem dX12_blend_159 : decode cX12_blend 159 = .ok (.istore_n 3, 1) := oc_62 159 (aq_13 shX12_blend_146)
theorem dX12_blend_160 : decode cX12_blend 160 = .ok (.iinc 4 1, 3) := oc_132 160 (aq_14 shX12_blend_146) ub_4 sgb_1
theorem dX12_blend_163 : decode cX12_blend 163 = .ok (.goto (-112), 3) := oc_167 163 (aq_17 shX12_blend_146) sgw_255_144
noncomputable def sxX12_proof_119 : List UInt8 := []
noncomputable def sxX12_proof_101 : List UInt8 := 79 :: 42 :: 42 :: 180 :: 1 :: 191 :: 4 :: 96 :: 181 :: 1 :: 191 :: 42 :: 180 :: 1 :: 191 :: 4 :: 100 :: 172 :: sxX12_proof_119
noncomputable def sxX12_proof_76 : List UInt8 := 29 :: 79 :: 42 :: 180 :: 0 :: 156 :: 42 :: 180 :: 1 :: 191 :: 21 :: 4 :: 79 :: 42 :: 180 :: 0 :: 144 :: 42 :: 180 :: 1 :: 191 :: 42 :: 180 :: 0 :: 211 :: sxX12_proof_101
noncomputable def sxX12_proof_52 : List UInt8 := 42 :: 180 :: 1 :: 191 :: 27 :: 79 :: 42 :: 180 :: 0 :: 150 :: 42 :: 180 :: 1 :: 191 :: 28 :: 79 :: 42 :: 180 :: 0 :: 153 :: 42 :: 180 :: 1 :: 191 :: sxX12_proof_76
noncomputable def sxX12_proof_26 : List UInt8 := 21 :: 4 :: 3 :: 16 :: 9 :: 184 :: 0 :: 214 :: 153 :: 0 :: 12 :: 42 :: 180 :: 1 :: 191 :: 16 :: 40 :: 160 :: 0 :: 5 :: 2 :: 172 :: 42 :: 180 :: 0 :: 147 :: sxX12_proof_52
theorem shX12_proof_0 : cX12_proof.data.toList.drop 0 = 42 :: 27 :: 182 :: 1 :: 194 :: 153 :: 0 :: 41 :: 28 :: 155 :: 0 :: 37 :: 29 :: 28 :: 164 :: 0 :: 32 :: 29 :: 42 :: 27 :: 182 :: 1 :: 188 :: 163 :: 0 :: 23 :: sxX12_proof_26 := rfl
theorem shX12_proof_26 : cX12_proof.data.toList.drop 26 = 21 :: 4 :: 3 :: 16 :: 9 :: 184 :: 0 :: 214 :: 153 :: 0 :: 12 :: 42 :: 180 :: 1 :: 191 :: 16 :: 40 :: 160 :: 0 :: 5 :: 2 :: 172 :: 42 :: 180 :: 0 :: 147 :: sxX12_proof_52 := aq_26 shX12_proof_0
theorem shX12_proof_52 : cX12_proof.data.toList.drop 52 = 42 :: 180 :: 1 :: 191 :: 27 :: 79 :: 42 :: 180 :: 0 :: 150 :: 42 :: 180 :: 1 :: 191 :: 28 :: 79 :: 42 :: 180 :: 0 :: 153 :: 42 :: 180 :: 1 :: 191 :: sxX12_proof_76 := aq_26 shX12_proof_26
theorem shX12_proof_76 : cX12_proof.data.toList.drop 76 = 29 :: 79 :: 42 :: 180 :: 0 :: 156 :: 42 :: 180 :: 1 :: 191 :: 21 :: 4 :: 79 :: 42 :: 180 :: 0 :: 144 :: 42 :: 180 :: 1 :: 191 :: 42 :: 180 :: 0 :: 211 :: sxX12_proof_101 := aq_24 shX12_proof_52
theorem shX12_proof_101 : cX12_proof.data.toList.drop 101 = 79 :: 42 :: 42 :: 180 :: 1 :: 191 :: 4 :: 96 :: 181 :: 1 :: 191 :: 42 :: 180 :: 1 :: 191 :: 4 :: 100 :: 172 :: sxX12_proof_119 := aq_25 shX12_proof_76
theorem dX12_proof_46 : decode cX12_proof 46 = .ok (.iconst (-1), 1) := oc_2 46 (aq_20 shX12_proof_26)
theorem dX12_proof_47 : decode cX12_proof 47 = .ok (.ireturn, 1) := oc_172 47 (aq_21 shX12_proof_26)
noncomputable def sxX12_twice_93 : List UInt8 := []
noncomputable def sxX12_twice_72 : List UInt8 := 28 :: 46 :: 162 :: 0 :: 5 :: 28 :: 172 :: 132 :: 3 :: 1 :: 167 :: 255 :: 196 :: 132 :: 2 :: 1 :: 167 :: 255 :: 180 :: 2 :: 172 :: sxX12_twice_93
noncomputable def sxX12_twice_48 : List UInt8 := 180 :: 0 :: 150 :: 28 :: 46 :: 42 :: 180 :: 0 :: 153 :: 29 :: 46 :: 162 :: 0 :: 20 :: 42 :: 180 :: 0 :: 150 :: 29 :: 46 :: 42 :: 180 :: 0 :: 153 :: sxX12_twice_72
noncomputable def sxX12_twice_24 : List UInt8 := 162 :: 0 :: 61 :: 42 :: 180 :: 0 :: 147 :: 28 :: 46 :: 27 :: 160 :: 0 :: 45 :: 42 :: 180 :: 0 :: 147 :: 29 :: 46 :: 27 :: 160 :: 0 :: 35 :: 42 :: sxX12_twice_48
theorem shX12_twice_0 : cX12_twice.data.toList.drop 0 = 42 :: 27 :: 182 :: 1 :: 194 :: 154 :: 0 :: 5 :: 2 :: 172 :: 3 :: 61 :: 28 :: 42 :: 180 :: 1 :: 191 :: 162 :: 0 :: 74 :: 3 :: 62 :: 29 :: 28 :: sxX12_twice_24 := rfl
theorem shX12_twice_24 : cX12_twice.data.toList.drop 24 = 162 :: 0 :: 61 :: 42 :: 180 :: 0 :: 147 :: 28 :: 46 :: 27 :: 160 :: 0 :: 45 :: 42 :: 180 :: 0 :: 147 :: 29 :: 46 :: 27 :: 160 :: 0 :: 35 :: 42 :: sxX12_twice_48 := aq_24 shX12_twice_0
theorem shX12_twice_48 : cX12_twice.data.toList.drop 48 = 180 :: 0 :: 150 :: 28 :: 46 :: 42 :: 180 :: 0 :: 153 :: 29 :: 46 :: 162 :: 0 :: 20 :: 42 :: 180 :: 0 :: 150 :: 29 :: 46 :: 42 :: 180 :: 0 :: 153 :: sxX12_twice_72 := aq_24 shX12_twice_24
theorem shX12_twice_72 : cX12_twice.data.toList.drop 72 = 28 :: 46 :: 162 :: 0 :: 5 :: 28 :: 172 :: 132 :: 3 :: 1 :: 167 :: 255 :: 196 :: 132 :: 2 :: 1 :: 167 :: 255 :: 180 :: 2 :: 172 :: sxX12_twice_93 := aq_24 shX12_twice_48
theorem dX12_twice_79 : decode cX12_twice 79 = .ok (.iinc 3 1, 3) := oc_132 79 (aq_7 shX12_twice_72) ub_3 sgb_1
theorem dX12_twice_82 : decode cX12_twice 82 = .ok (.goto (-60), 3) := oc_167 82 (aq_10 shX12_twice_72) sgw_255_196
noncomputable def sxX12_bought_29 : List UInt8 := []
noncomputable def sxX12_bought_24 : List UInt8 := 167 :: 0 :: 4 :: 2 :: 172 :: sxX12_bought_29
theorem shX12_bought_0 : cX12_bought.data.toList.drop 0 = 42 :: 27 :: 182 :: 1 :: 194 :: 153 :: 0 :: 22 :: 28 :: 3 :: 16 :: 9 :: 184 :: 0 :: 214 :: 153 :: 0 :: 12 :: 42 :: 27 :: 28 :: 182 :: 1 :: 197 :: sxX12_bought_24 := rfl
theorem shX12_bought_24 : cX12_bought.data.toList.drop 24 = 167 :: 0 :: 4 :: 2 :: 172 :: sxX12_bought_29 := aq_24 shX12_bought_0
noncomputable def sxX12_loadAt_61 : List UInt8 := []
noncomputable def sxX12_loadAt_50 : List UInt8 := 46 :: 100 :: 62 :: 132 :: 4 :: 1 :: 167 :: 255 :: 205 :: 2 :: 172 :: sxX12_loadAt_61
noncomputable def sxX12_loadAt_26 : List UInt8 := 167 :: 0 :: 27 :: 29 :: 42 :: 180 :: 0 :: 31 :: 21 :: 4 :: 46 :: 162 :: 0 :: 6 :: 21 :: 4 :: 172 :: 29 :: 42 :: 180 :: 0 :: 31 :: 21 :: 4 :: sxX12_loadAt_50
theorem shX12_loadAt_0 : cX12_loadAt.data.toList.drop 0 = 28 :: 62 :: 3 :: 54 :: 4 :: 21 :: 4 :: 16 :: 20 :: 162 :: 0 :: 50 :: 42 :: 180 :: 0 :: 138 :: 27 :: 46 :: 21 :: 4 :: 122 :: 4 :: 126 :: 154 :: 0 :: 6 :: sxX12_loadAt_26 := rfl
theorem shX12_loadAt_26 : cX12_loadAt.data.toList.drop 26 = 167 :: 0 :: 27 :: 29 :: 42 :: 180 :: 0 :: 31 :: 21 :: 4 :: 46 :: 162 :: 0 :: 6 :: 21 :: 4 :: 172 :: 29 :: 42 :: 180 :: 0 :: 31 :: 21 :: 4 :: sxX12_loadAt_50 := aq_26 shX12_loadAt_0
theorem shX12_loadAt_50 : cX12_loadAt.data.toList.drop 50 = 46 :: 100 :: 62 :: 132 :: 4 :: 1 :: 167 :: 255 :: 205 :: 2 :: 172 :: sxX12_loadAt_61 := aq_24 shX12_loadAt_26
noncomputable def sxX12_whence_34 : List UInt8 := []
noncomputable def sxX12_whence_24 : List UInt8 := 27 :: 28 :: 182 :: 1 :: 200 :: 167 :: 0 :: 4 :: 2 :: 172 :: sxX12_whence_34
theorem shX12_whence_0 : cX12_whence.data.toList.drop 0 = 42 :: 27 :: 182 :: 1 :: 194 :: 153 :: 0 :: 27 :: 28 :: 3 :: 42 :: 27 :: 182 :: 1 :: 188 :: 4 :: 100 :: 184 :: 0 :: 214 :: 153 :: 0 :: 12 :: 42 :: sxX12_whence_24 := rfl
theorem shX12_whence_24 : cX12_whence.data.toList.drop 24 = 27 :: 28 :: 182 :: 1 :: 200 :: 167 :: 0 :: 4 :: 2 :: 172 :: sxX12_whence_34 := aq_24 shX12_whence_0
theorem dX12_whence_33 : decode cX12_whence 33 = .ok (.ireturn, 1) := oc_172 33 (aq_9 shX12_whence_24)
noncomputable def sxX12_isProof_18 : List UInt8 := []
theorem shX12_isProof_0 : cX12_isProof.data.toList.drop 0 = 27 :: 155 :: 0 :: 15 :: 27 :: 42 :: 180 :: 1 :: 191 :: 162 :: 0 :: 7 :: 4 :: 167 :: 0 :: 4 :: 3 :: 172 :: sxX12_isProof_18 := rfl
noncomputable def sxX12_audit_76 : List UInt8 := []
noncomputable def sxX12_audit_74 : List UInt8 := 29 :: 172 :: sxX12_audit_76
noncomputable def sxX12_audit_49 : List UInt8 := 27 :: 46 :: 21 :: 4 :: 182 :: 1 :: 200 :: 46 :: 28 :: 160 :: 0 :: 7 :: 4 :: 167 :: 0 :: 4 :: 3 :: 96 :: 62 :: 132 :: 4 :: 1 :: 167 :: 255 :: 213 :: sxX12_audit_74
noncomputable def sxX12_audit_24 : List UInt8 := 27 :: 46 :: 54 :: 4 :: 21 :: 4 :: 42 :: 180 :: 0 :: 153 :: 27 :: 46 :: 162 :: 0 :: 38 :: 29 :: 42 :: 180 :: 0 :: 25 :: 42 :: 42 :: 180 :: 0 :: 147 :: sxX12_audit_49
theorem shX12_audit_0 : cX12_audit.data.toList.drop 0 = 42 :: 27 :: 182 :: 1 :: 203 :: 153 :: 0 :: 11 :: 42 :: 28 :: 182 :: 0 :: 218 :: 154 :: 0 :: 5 :: 2 :: 172 :: 3 :: 62 :: 42 :: 180 :: 0 :: 150 :: sxX12_audit_24 := rfl
theorem shX12_audit_24 : cX12_audit.data.toList.drop 24 = 27 :: 46 :: 54 :: 4 :: 21 :: 4 :: 42 :: 180 :: 0 :: 153 :: 27 :: 46 :: 162 :: 0 :: 38 :: 29 :: 42 :: 180 :: 0 :: 25 :: 42 :: 42 :: 180 :: 0 :: 147 :: sxX12_audit_49 := aq_24 shX12_audit_0
theorem shX12_audit_49 : cX12_audit.data.toList.drop 49 = 27 :: 46 :: 21 :: 4 :: 182 :: 1 :: 200 :: 46 :: 28 :: 160 :: 0 :: 7 :: 4 :: 167 :: 0 :: 4 :: 3 :: 96 :: 62 :: 132 :: 4 :: 1 :: 167 :: 255 :: 213 :: sxX12_audit_74 := aq_25 shX12_audit_24
theorem shX12_audit_74 : cX12_audit.data.toList.drop 74 = 29 :: 172 :: sxX12_audit_76 := aq_25 shX12_audit_49
noncomputable def sxX12_use_30 : List UInt8 := []
noncomputable def sxX12_use_25 : List UInt8 := 27 :: 28 :: 79 :: 4 :: 172 :: sxX12_use_30
theorem shX12_use_0 : cX12_use.data.toList.drop 0 = 27 :: 3 :: 16 :: 9 :: 184 :: 0 :: 214 :: 153 :: 0 :: 12 :: 28 :: 3 :: 6 :: 184 :: 0 :: 214 :: 154 :: 0 :: 5 :: 3 :: 172 :: 42 :: 180 :: 0 :: 162 :: sxX12_use_25 := rfl
theorem shX12_use_25 : cX12_use.data.toList.drop 25 = 27 :: 28 :: 79 :: 4 :: 172 :: sxX12_use_30 := aq_25 shX12_use_0
noncomputable def sxX12_rate_46 : List UInt8 := []
noncomputable def sxX12_rate_24 : List UInt8 := 184 :: 0 :: 214 :: 154 :: 0 :: 5 :: 3 :: 172 :: 42 :: 180 :: 0 :: 165 :: 16 :: 58 :: 27 :: 104 :: 28 :: 96 :: 29 :: 79 :: 4 :: 172 :: sxX12_rate_46
theorem shX12_rate_0 : cX12_rate.data.toList.drop 0 = 27 :: 3 :: 6 :: 184 :: 0 :: 214 :: 153 :: 0 :: 24 :: 28 :: 3 :: 16 :: 57 :: 184 :: 0 :: 214 :: 153 :: 0 :: 14 :: 29 :: 3 :: 17 :: 3 :: 232 :: sxX12_rate_24 := rfl
theorem shX12_rate_24 : cX12_rate.data.toList.drop 24 = 184 :: 0 :: 214 :: 154 :: 0 :: 5 :: 3 :: 172 :: 42 :: 180 :: 0 :: 165 :: 16 :: 58 :: 27 :: 104 :: 28 :: 96 :: 29 :: 79 :: 4 :: 172 :: sxX12_rate_46 := aq_24 shX12_rate_0
noncomputable def sxX12_tax_59 : List UInt8 := []
noncomputable def sxX12_tax_49 : List UInt8 := 46 :: 104 :: 16 :: 100 :: 108 :: 167 :: 0 :: 4 :: 2 :: 172 :: sxX12_tax_59
noncomputable def sxX12_tax_25 : List UInt8 := 16 :: 58 :: 42 :: 180 :: 0 :: 162 :: 42 :: 180 :: 0 :: 156 :: 27 :: 46 :: 46 :: 104 :: 42 :: 180 :: 0 :: 144 :: 27 :: 46 :: 16 :: 7 :: 108 :: 96 :: sxX12_tax_49
theorem shX12_tax_0 : cX12_tax.data.toList.drop 0 = 42 :: 27 :: 182 :: 1 :: 203 :: 153 :: 0 :: 52 :: 42 :: 180 :: 0 :: 153 :: 27 :: 46 :: 42 :: 180 :: 0 :: 150 :: 27 :: 46 :: 100 :: 42 :: 180 :: 0 :: 165 :: sxX12_tax_25 := rfl
theorem shX12_tax_25 : cX12_tax.data.toList.drop 25 = 16 :: 58 :: 42 :: 180 :: 0 :: 162 :: 42 :: 180 :: 0 :: 156 :: 27 :: 46 :: 46 :: 104 :: 42 :: 180 :: 0 :: 144 :: 27 :: 46 :: 16 :: 7 :: 108 :: 96 :: sxX12_tax_49 := aq_25 shX12_tax_0
theorem shX12_tax_49 : cX12_tax.data.toList.drop 49 = 46 :: 104 :: 16 :: 100 :: 108 :: 167 :: 0 :: 4 :: 2 :: 172 :: sxX12_tax_59 := aq_24 shX12_tax_25
noncomputable def sxX12_most_32 : List UInt8 := []
noncomputable def sxX12_most_24 : List UInt8 := 180 :: 0 :: 168 :: 27 :: 28 :: 79 :: 4 :: 172 :: sxX12_most_32
theorem shX12_most_0 : cX12_most.data.toList.drop 0 = 27 :: 3 :: 16 :: 9 :: 184 :: 0 :: 214 :: 153 :: 0 :: 14 :: 28 :: 3 :: 19 :: 1 :: 78 :: 184 :: 0 :: 214 :: 154 :: 0 :: 5 :: 3 :: 172 :: 42 :: sxX12_most_24 := rfl
theorem shX12_most_24 : cX12_most.data.toList.drop 24 = 180 :: 0 :: 168 :: 27 :: 28 :: 79 :: 4 :: 172 :: sxX12_most_32 := aq_24 shX12_most_0
noncomputable def sxX12_overdrawn_121 : List UInt8 := []
noncomputable def sxX12_overdrawn_99 : List UInt8 := 46 :: 164 :: 0 :: 11 :: 28 :: 4 :: 29 :: 120 :: 128 :: 167 :: 0 :: 4 :: 28 :: 61 :: 132 :: 3 :: 1 :: 167 :: 255 :: 156 :: 28 :: 172 :: sxX12_overdrawn_121
noncomputable def sxX12_overdrawn_75 : List UInt8 := 21 :: 5 :: 46 :: 100 :: 167 :: 0 :: 4 :: 3 :: 96 :: 54 :: 4 :: 132 :: 5 :: 1 :: 167 :: 255 :: 195 :: 21 :: 4 :: 42 :: 180 :: 0 :: 168 :: 29 :: sxX12_overdrawn_99
noncomputable def sxX12_overdrawn_50 : List UInt8 := 42 :: 180 :: 0 :: 144 :: 21 :: 5 :: 46 :: 16 :: 7 :: 108 :: 27 :: 160 :: 0 :: 21 :: 42 :: 180 :: 0 :: 153 :: 21 :: 5 :: 46 :: 42 :: 180 :: 0 :: 150 :: sxX12_overdrawn_75
noncomputable def sxX12_overdrawn_25 : List UInt8 := 3 :: 54 :: 5 :: 21 :: 5 :: 42 :: 180 :: 1 :: 191 :: 162 :: 0 :: 58 :: 21 :: 4 :: 42 :: 180 :: 0 :: 156 :: 21 :: 5 :: 46 :: 29 :: 160 :: 0 :: 35 :: sxX12_overdrawn_50
theorem shX12_overdrawn_0 : cX12_overdrawn.data.toList.drop 0 = 27 :: 3 :: 16 :: 57 :: 184 :: 0 :: 214 :: 154 :: 0 :: 5 :: 2 :: 172 :: 3 :: 61 :: 3 :: 62 :: 29 :: 16 :: 10 :: 162 :: 0 :: 100 :: 3 :: 54 :: 4 :: sxX12_overdrawn_25 := rfl
theorem shX12_overdrawn_25 : cX12_overdrawn.data.toList.drop 25 = 3 :: 54 :: 5 :: 21 :: 5 :: 42 :: 180 :: 1 :: 191 :: 162 :: 0 :: 58 :: 21 :: 4 :: 42 :: 180 :: 0 :: 156 :: 21 :: 5 :: 46 :: 29 :: 160 :: 0 :: 35 :: sxX12_overdrawn_50 := aq_25 shX12_overdrawn_0
theorem shX12_overdrawn_50 : cX12_overdrawn.data.toList.drop 50 = 42 :: 180 :: 0 :: 144 :: 21 :: 5 :: 46 :: 16 :: 7 :: 108 :: 27 :: 160 :: 0 :: 21 :: 42 :: 180 :: 0 :: 153 :: 21 :: 5 :: 46 :: 42 :: 180 :: 0 :: 150 :: sxX12_overdrawn_75 := aq_25 shX12_overdrawn_25
theorem shX12_overdrawn_75 : cX12_overdrawn.data.toList.drop 75 = 21 :: 5 :: 46 :: 100 :: 167 :: 0 :: 4 :: 3 :: 96 :: 54 :: 4 :: 132 :: 5 :: 1 :: 167 :: 255 :: 195 :: 21 :: 4 :: 42 :: 180 :: 0 :: 168 :: 29 :: sxX12_overdrawn_99 := aq_25 shX12_overdrawn_50
theorem shX12_overdrawn_99 : cX12_overdrawn.data.toList.drop 99 = 46 :: 164 :: 0 :: 11 :: 28 :: 4 :: 29 :: 120 :: 128 :: 167 :: 0 :: 4 :: 28 :: 61 :: 132 :: 3 :: 1 :: 167 :: 255 :: 156 :: 28 :: 172 :: sxX12_overdrawn_121 := aq_24 shX12_overdrawn_75
noncomputable def sxX12_sample_70 : List UInt8 := []
noncomputable def sxX12_sample_48 : List UInt8 := 79 :: 42 :: 180 :: 0 :: 171 :: 27 :: 42 :: 180 :: 0 :: 171 :: 27 :: 46 :: 4 :: 96 :: 79 :: 42 :: 180 :: 0 :: 171 :: 27 :: 46 :: 172 :: sxX12_sample_70
noncomputable def sxX12_sample_24 : List UInt8 := 46 :: 16 :: 12 :: 160 :: 0 :: 5 :: 2 :: 172 :: 42 :: 180 :: 0 :: 174 :: 16 :: 12 :: 27 :: 104 :: 42 :: 180 :: 0 :: 171 :: 27 :: 46 :: 96 :: 28 :: sxX12_sample_48
theorem shX12_sample_0 : cX12_sample.data.toList.drop 0 = 42 :: 27 :: 182 :: 1 :: 194 :: 153 :: 0 :: 25 :: 28 :: 3 :: 17 :: 3 :: 232 :: 184 :: 0 :: 214 :: 153 :: 0 :: 14 :: 42 :: 180 :: 0 :: 171 :: 27 :: sxX12_sample_24 := rfl
theorem shX12_sample_24 : cX12_sample.data.toList.drop 24 = 46 :: 16 :: 12 :: 160 :: 0 :: 5 :: 2 :: 172 :: 42 :: 180 :: 0 :: 174 :: 16 :: 12 :: 27 :: 104 :: 42 :: 180 :: 0 :: 171 :: 27 :: 46 :: 96 :: 28 :: sxX12_sample_48 := aq_24 shX12_sample_0
theorem shX12_sample_48 : cX12_sample.data.toList.drop 48 = 79 :: 42 :: 180 :: 0 :: 171 :: 27 :: 42 :: 180 :: 0 :: 171 :: 27 :: 46 :: 4 :: 96 :: 79 :: 42 :: 180 :: 0 :: 171 :: 27 :: 46 :: 172 :: sxX12_sample_70 := aq_24 shX12_sample_24
noncomputable def sxX12_claim_118 : List UInt8 := []
noncomputable def sxX12_claim_98 : List UInt8 := 164 :: 0 :: 7 :: 4 :: 167 :: 0 :: 15 :: 21 :: 5 :: 21 :: 4 :: 164 :: 0 :: 7 :: 3 :: 167 :: 0 :: 4 :: 5 :: 172 :: sxX12_claim_118
noncomputable def sxX12_claim_73 : List UInt8 := 3 :: 96 :: 54 :: 4 :: 132 :: 5 :: 1 :: 167 :: 255 :: 214 :: 42 :: 180 :: 0 :: 171 :: 27 :: 46 :: 21 :: 4 :: 100 :: 54 :: 5 :: 21 :: 4 :: 21 :: 5 :: sxX12_claim_98
noncomputable def sxX12_claim_49 : List UInt8 := 21 :: 4 :: 42 :: 180 :: 0 :: 174 :: 16 :: 12 :: 27 :: 104 :: 21 :: 5 :: 96 :: 46 :: 28 :: 29 :: 100 :: 161 :: 0 :: 7 :: 4 :: 167 :: 0 :: 4 :: sxX12_claim_73
noncomputable def sxX12_claim_24 : List UInt8 := 184 :: 0 :: 214 :: 154 :: 0 :: 5 :: 2 :: 172 :: 3 :: 54 :: 4 :: 3 :: 54 :: 5 :: 21 :: 5 :: 42 :: 180 :: 0 :: 171 :: 27 :: 46 :: 162 :: 0 :: 37 :: sxX12_claim_49
theorem shX12_claim_0 : cX12_claim.data.toList.drop 0 = 42 :: 27 :: 182 :: 1 :: 194 :: 153 :: 0 :: 25 :: 28 :: 3 :: 17 :: 3 :: 232 :: 184 :: 0 :: 214 :: 153 :: 0 :: 14 :: 29 :: 3 :: 17 :: 3 :: 232 :: sxX12_claim_24 := rfl
theorem shX12_claim_24 : cX12_claim.data.toList.drop 24 = 184 :: 0 :: 214 :: 154 :: 0 :: 5 :: 2 :: 172 :: 3 :: 54 :: 4 :: 3 :: 54 :: 5 :: 21 :: 5 :: 42 :: 180 :: 0 :: 171 :: 27 :: 46 :: 162 :: 0 :: 37 :: sxX12_claim_49 := aq_24 shX12_claim_0
theorem shX12_claim_49 : cX12_claim.data.toList.drop 49 = 21 :: 4 :: 42 :: 180 :: 0 :: 174 :: 16 :: 12 :: 27 :: 104 :: 21 :: 5 :: 96 :: 46 :: 28 :: 29 :: 100 :: 161 :: 0 :: 7 :: 4 :: 167 :: 0 :: 4 :: sxX12_claim_73 := aq_25 shX12_claim_24
theorem shX12_claim_73 : cX12_claim.data.toList.drop 73 = 3 :: 96 :: 54 :: 4 :: 132 :: 5 :: 1 :: 167 :: 255 :: 214 :: 42 :: 180 :: 0 :: 171 :: 27 :: 46 :: 21 :: 4 :: 100 :: 54 :: 5 :: 21 :: 4 :: 21 :: 5 :: sxX12_claim_98 := aq_24 shX12_claim_49
theorem shX12_claim_98 : cX12_claim.data.toList.drop 98 = 164 :: 0 :: 7 :: 4 :: 167 :: 0 :: 15 :: 21 :: 5 :: 21 :: 4 :: 164 :: 0 :: 7 :: 3 :: 167 :: 0 :: 4 :: 5 :: 172 :: sxX12_claim_118 := aq_25 shX12_claim_73
noncomputable def sxX12_spill_69 : List UInt8 := []
noncomputable def sxX12_spill_48 : List UInt8 := 42 :: 180 :: 1 :: 206 :: 28 :: 79 :: 42 :: 42 :: 180 :: 1 :: 206 :: 4 :: 96 :: 181 :: 1 :: 206 :: 42 :: 180 :: 1 :: 206 :: 172 :: sxX12_spill_69
noncomputable def sxX12_spill_24 : List UInt8 := 180 :: 1 :: 206 :: 16 :: 40 :: 160 :: 0 :: 5 :: 2 :: 172 :: 42 :: 180 :: 0 :: 177 :: 42 :: 180 :: 1 :: 206 :: 27 :: 79 :: 42 :: 180 :: 0 :: 180 :: sxX12_spill_48
theorem shX12_spill_0 : cX12_spill.data.toList.drop 0 = 27 :: 3 :: 42 :: 180 :: 0 :: 211 :: 184 :: 0 :: 214 :: 153 :: 0 :: 23 :: 28 :: 4 :: 17 :: 1 :: 144 :: 184 :: 0 :: 214 :: 153 :: 0 :: 12 :: 42 :: sxX12_spill_24 := rfl
theorem shX12_spill_24 : cX12_spill.data.toList.drop 24 = 180 :: 1 :: 206 :: 16 :: 40 :: 160 :: 0 :: 5 :: 2 :: 172 :: 42 :: 180 :: 0 :: 177 :: 42 :: 180 :: 1 :: 206 :: 27 :: 79 :: 42 :: 180 :: 0 :: 180 :: sxX12_spill_48 := aq_24 shX12_spill_0
theorem shX12_spill_48 : cX12_spill.data.toList.drop 48 = 42 :: 180 :: 1 :: 206 :: 28 :: 79 :: 42 :: 42 :: 180 :: 1 :: 206 :: 4 :: 96 :: 181 :: 1 :: 206 :: 42 :: 180 :: 1 :: 206 :: 172 :: sxX12_spill_69 := aq_24 shX12_spill_24
noncomputable def sxX12_stockOn_120 : List UInt8 := []
noncomputable def sxX12_stockOn_96 : List UInt8 := 46 :: 27 :: 163 :: 0 :: 11 :: 42 :: 29 :: 182 :: 1 :: 188 :: 167 :: 0 :: 4 :: 3 :: 100 :: 61 :: 132 :: 3 :: 1 :: 167 :: 255 :: 223 :: 28 :: 172 :: sxX12_stockOn_120
noncomputable def sxX12_stockOn_72 : List UInt8 := 100 :: 61 :: 132 :: 3 :: 1 :: 167 :: 255 :: 222 :: 3 :: 62 :: 29 :: 42 :: 180 :: 1 :: 179 :: 162 :: 0 :: 31 :: 28 :: 42 :: 180 :: 0 :: 141 :: 29 :: sxX12_stockOn_96
noncomputable def sxX12_stockOn_48 : List UInt8 := 162 :: 0 :: 32 :: 28 :: 42 :: 180 :: 0 :: 177 :: 29 :: 46 :: 27 :: 163 :: 0 :: 12 :: 42 :: 180 :: 0 :: 180 :: 29 :: 46 :: 167 :: 0 :: 4 :: 3 :: sxX12_stockOn_72
noncomputable def sxX12_stockOn_24 : List UInt8 := 180 :: 0 :: 31 :: 29 :: 46 :: 167 :: 0 :: 4 :: 3 :: 96 :: 61 :: 132 :: 3 :: 1 :: 167 :: 255 :: 222 :: 3 :: 62 :: 29 :: 42 :: 180 :: 1 :: 206 :: sxX12_stockOn_48
theorem shX12_stockOn_0 : cX12_stockOn.data.toList.drop 0 = 3 :: 61 :: 3 :: 62 :: 29 :: 42 :: 180 :: 0 :: 208 :: 162 :: 0 :: 32 :: 28 :: 42 :: 180 :: 0 :: 28 :: 29 :: 46 :: 27 :: 163 :: 0 :: 12 :: 42 :: sxX12_stockOn_24 := rfl
theorem shX12_stockOn_24 : cX12_stockOn.data.toList.drop 24 = 180 :: 0 :: 31 :: 29 :: 46 :: 167 :: 0 :: 4 :: 3 :: 96 :: 61 :: 132 :: 3 :: 1 :: 167 :: 255 :: 222 :: 3 :: 62 :: 29 :: 42 :: 180 :: 1 :: 206 :: sxX12_stockOn_48 := aq_24 shX12_stockOn_0
theorem shX12_stockOn_48 : cX12_stockOn.data.toList.drop 48 = 162 :: 0 :: 32 :: 28 :: 42 :: 180 :: 0 :: 177 :: 29 :: 46 :: 27 :: 163 :: 0 :: 12 :: 42 :: 180 :: 0 :: 180 :: 29 :: 46 :: 167 :: 0 :: 4 :: 3 :: sxX12_stockOn_72 := aq_24 shX12_stockOn_24
theorem shX12_stockOn_72 : cX12_stockOn.data.toList.drop 72 = 100 :: 61 :: 132 :: 3 :: 1 :: 167 :: 255 :: 222 :: 3 :: 62 :: 29 :: 42 :: 180 :: 1 :: 179 :: 162 :: 0 :: 31 :: 28 :: 42 :: 180 :: 0 :: 141 :: 29 :: sxX12_stockOn_96 := aq_24 shX12_stockOn_48
theorem shX12_stockOn_96 : cX12_stockOn.data.toList.drop 96 = 46 :: 27 :: 163 :: 0 :: 11 :: 42 :: 29 :: 182 :: 1 :: 188 :: 167 :: 0 :: 4 :: 3 :: 100 :: 61 :: 132 :: 3 :: 1 :: 167 :: 255 :: 223 :: 28 :: 172 :: sxX12_stockOn_120 := aq_24 shX12_stockOn_72
noncomputable def sxX12_stock_19 : List UInt8 := []
theorem shX12_stock_0 : cX12_stock.data.toList.drop 0 = 27 :: 184 :: 1 :: 85 :: 153 :: 0 :: 11 :: 42 :: 27 :: 182 :: 1 :: 209 :: 167 :: 0 :: 6 :: 19 :: 1 :: 212 :: 172 :: sxX12_stock_19 := rfl
noncomputable def sxX12_below_45 : List UInt8 := []
noncomputable def sxX12_below_25 : List UInt8 := 42 :: 28 :: 182 :: 1 :: 209 :: 27 :: 162 :: 0 :: 5 :: 28 :: 172 :: 132 :: 2 :: 1 :: 167 :: 255 :: 234 :: 16 :: 254 :: 172 :: sxX12_below_45
theorem shX12_below_0 : cX12_below.data.toList.drop 0 = 27 :: 17 :: 216 :: 240 :: 17 :: 39 :: 16 :: 184 :: 0 :: 214 :: 154 :: 0 :: 5 :: 2 :: 172 :: 3 :: 61 :: 28 :: 42 :: 180 :: 0 :: 211 :: 163 :: 0 :: 20 :: sxX12_below_25 := rfl
theorem shX12_below_25 : cX12_below.data.toList.drop 25 = 42 :: 28 :: 182 :: 1 :: 209 :: 27 :: 162 :: 0 :: 5 :: 28 :: 172 :: 132 :: 2 :: 1 :: 167 :: 255 :: 234 :: 16 :: 254 :: 172 :: sxX12_below_45 := aq_25 shX12_below_0
noncomputable def sxX12_offers_48 : List UInt8 := []
noncomputable def sxX12_offers_24 : List UInt8 := 184 :: 0 :: 214 :: 154 :: 0 :: 5 :: 3 :: 172 :: 42 :: 180 :: 0 :: 183 :: 27 :: 28 :: 79 :: 42 :: 180 :: 0 :: 186 :: 27 :: 29 :: 79 :: 4 :: 172 :: sxX12_offers_48
theorem shX12_offers_0 : cX12_offers.data.toList.drop 0 = 42 :: 27 :: 182 :: 0 :: 218 :: 153 :: 0 :: 25 :: 28 :: 3 :: 17 :: 0 :: 200 :: 184 :: 0 :: 214 :: 153 :: 0 :: 14 :: 29 :: 3 :: 17 :: 0 :: 200 :: sxX12_offers_24 := rfl
theorem shX12_offers_24 : cX12_offers.data.toList.drop 24 = 184 :: 0 :: 214 :: 154 :: 0 :: 5 :: 3 :: 172 :: 42 :: 180 :: 0 :: 183 :: 27 :: 28 :: 79 :: 42 :: 180 :: 0 :: 186 :: 27 :: 29 :: 79 :: 4 :: 172 :: sxX12_offers_48 := aq_24 shX12_offers_0
noncomputable def sxX12_comers_50 : List UInt8 := []
noncomputable def sxX12_comers_26 : List UInt8 := 29 :: 46 :: 27 :: 163 :: 0 :: 11 :: 28 :: 4 :: 29 :: 120 :: 128 :: 167 :: 0 :: 4 :: 28 :: 61 :: 132 :: 3 :: 1 :: 167 :: 255 :: 215 :: 28 :: 172 :: sxX12_comers_50
theorem shX12_comers_0 : cX12_comers.data.toList.drop 0 = 3 :: 61 :: 3 :: 62 :: 29 :: 42 :: 180 :: 0 :: 204 :: 162 :: 0 :: 39 :: 42 :: 180 :: 0 :: 183 :: 29 :: 46 :: 27 :: 163 :: 0 :: 21 :: 42 :: 180 :: 0 :: 186 :: sxX12_comers_26 := rfl
theorem shX12_comers_26 : cX12_comers.data.toList.drop 26 = 29 :: 46 :: 27 :: 163 :: 0 :: 11 :: 28 :: 4 :: 29 :: 120 :: 128 :: 167 :: 0 :: 4 :: 28 :: 61 :: 132 :: 3 :: 1 :: 167 :: 255 :: 215 :: 28 :: 172 :: sxX12_comers_50 := aq_26 shX12_comers_0
noncomputable def sxX12_worthOf_53 : List UInt8 := []
noncomputable def sxX12_worthOf_50 : List UInt8 := 21 :: 4 :: 172 :: sxX12_worthOf_53
noncomputable def sxX12_worthOf_24 : List UInt8 := 21 :: 5 :: 122 :: 4 :: 126 :: 42 :: 180 :: 0 :: 16 :: 21 :: 5 :: 46 :: 104 :: 28 :: 27 :: 100 :: 104 :: 96 :: 54 :: 4 :: 132 :: 5 :: 1 :: 167 :: 255 :: 221 :: sxX12_worthOf_50
theorem shX12_worthOf_0 : cX12_worthOf.data.toList.drop 0 = 42 :: 27 :: 182 :: 1 :: 213 :: 62 :: 3 :: 54 :: 4 :: 3 :: 54 :: 5 :: 21 :: 5 :: 42 :: 180 :: 0 :: 204 :: 162 :: 0 :: 32 :: 21 :: 4 :: 29 :: sxX12_worthOf_24 := rfl
theorem shX12_worthOf_24 : cX12_worthOf.data.toList.drop 24 = 21 :: 5 :: 122 :: 4 :: 126 :: 42 :: 180 :: 0 :: 16 :: 21 :: 5 :: 46 :: 104 :: 28 :: 27 :: 100 :: 104 :: 96 :: 54 :: 4 :: 132 :: 5 :: 1 :: 167 :: 255 :: 221 :: sxX12_worthOf_50 := aq_24 shX12_worthOf_0
theorem shX12_worthOf_50 : cX12_worthOf.data.toList.drop 50 = 21 :: 4 :: 172 :: sxX12_worthOf_53 := aq_26 shX12_worthOf_24
noncomputable def sxX12_worth_35 : List UInt8 := []
noncomputable def sxX12_worth_24 : List UInt8 := 28 :: 182 :: 1 :: 216 :: 167 :: 0 :: 6 :: 19 :: 1 :: 212 :: 172 :: sxX12_worth_35
theorem shX12_worth_0 : cX12_worth.data.toList.drop 0 = 27 :: 3 :: 17 :: 0 :: 200 :: 184 :: 0 :: 214 :: 153 :: 0 :: 23 :: 28 :: 3 :: 17 :: 3 :: 232 :: 184 :: 0 :: 214 :: 153 :: 0 :: 12 :: 42 :: 27 :: sxX12_worth_24 := rfl
theorem shX12_worth_24 : cX12_worth.data.toList.drop 24 = 28 :: 182 :: 1 :: 216 :: 167 :: 0 :: 6 :: 19 :: 1 :: 212 :: 172 :: sxX12_worth_35 := aq_24 shX12_worth_0
noncomputable def sxX12_offer_92 : List UInt8 := []
noncomputable def sxX12_offer_72 : List UInt8 := 28 :: 4 :: 160 :: 0 :: 12 :: 42 :: 29 :: 27 :: 182 :: 1 :: 216 :: 167 :: 0 :: 8 :: 42 :: 29 :: 182 :: 1 :: 213 :: 172 :: sxX12_offer_92
noncomputable def sxX12_offer_48 : List UInt8 := 164 :: 0 :: 8 :: 21 :: 4 :: 167 :: 0 :: 4 :: 29 :: 62 :: 132 :: 4 :: 1 :: 167 :: 255 :: 222 :: 28 :: 154 :: 0 :: 7 :: 29 :: 167 :: 0 :: 22 :: sxX12_offer_72
noncomputable def sxX12_offer_24 : List UInt8 := 4 :: 54 :: 4 :: 21 :: 4 :: 17 :: 0 :: 200 :: 163 :: 0 :: 32 :: 42 :: 21 :: 4 :: 27 :: 182 :: 1 :: 216 :: 42 :: 29 :: 27 :: 182 :: 1 :: 216 :: sxX12_offer_48
theorem shX12_offer_0 : cX12_offer.data.toList.drop 0 = 27 :: 3 :: 17 :: 3 :: 232 :: 184 :: 0 :: 214 :: 153 :: 0 :: 12 :: 28 :: 3 :: 5 :: 184 :: 0 :: 214 :: 154 :: 0 :: 5 :: 2 :: 172 :: 3 :: 62 :: sxX12_offer_24 := rfl
theorem shX12_offer_24 : cX12_offer.data.toList.drop 24 = 4 :: 54 :: 4 :: 21 :: 4 :: 17 :: 0 :: 200 :: 163 :: 0 :: 32 :: 42 :: 21 :: 4 :: 27 :: 182 :: 1 :: 216 :: 42 :: 29 :: 27 :: 182 :: 1 :: 216 :: sxX12_offer_48 := aq_24 shX12_offer_0
theorem shX12_offer_48 : cX12_offer.data.toList.drop 48 = 164 :: 0 :: 8 :: 21 :: 4 :: 167 :: 0 :: 4 :: 29 :: 62 :: 132 :: 4 :: 1 :: 167 :: 255 :: 222 :: 28 :: 154 :: 0 :: 7 :: 29 :: 167 :: 0 :: 22 :: sxX12_offer_72 := aq_24 shX12_offer_24
theorem shX12_offer_72 : cX12_offer.data.toList.drop 72 = 28 :: 4 :: 160 :: 0 :: 12 :: 42 :: 29 :: 27 :: 182 :: 1 :: 216 :: 167 :: 0 :: 8 :: 42 :: 29 :: 182 :: 1 :: 213 :: 172 :: sxX12_offer_92 := aq_24 shX12_offer_48
noncomputable def sxX12_thefts_32 : List UInt8 := []
noncomputable def sxX12_thefts_24 : List UInt8 := 180 :: 0 :: 189 :: 27 :: 28 :: 79 :: 4 :: 172 :: sxX12_thefts_32
theorem shX12_thefts_0 : cX12_thefts.data.toList.drop 0 = 27 :: 3 :: 16 :: 23 :: 184 :: 0 :: 214 :: 153 :: 0 :: 14 :: 28 :: 3 :: 17 :: 3 :: 232 :: 184 :: 0 :: 214 :: 154 :: 0 :: 5 :: 3 :: 172 :: 42 :: sxX12_thefts_24 := rfl
theorem shX12_thefts_24 : cX12_thefts.data.toList.drop 24 = 180 :: 0 :: 189 :: 27 :: 28 :: 79 :: 4 :: 172 :: sxX12_thefts_32 := aq_24 shX12_thefts_0
noncomputable def sxX12_saves_34 : List UInt8 := []
noncomputable def sxX12_saves_24 : List UInt8 := 96 :: 62 :: 132 :: 4 :: 1 :: 167 :: 255 :: 232 :: 29 :: 172 :: sxX12_saves_34
theorem shX12_saves_0 : cX12_saves.data.toList.drop 0 = 3 :: 62 :: 3 :: 54 :: 4 :: 21 :: 4 :: 28 :: 162 :: 0 :: 24 :: 29 :: 42 :: 180 :: 0 :: 189 :: 27 :: 21 :: 4 :: 96 :: 16 :: 24 :: 112 :: 46 :: sxX12_saves_24 := rfl
theorem shX12_saves_24 : cX12_saves.data.toList.drop 24 = 96 :: 62 :: 132 :: 4 :: 1 :: 167 :: 255 :: 232 :: 29 :: 172 :: sxX12_saves_34 := aq_24 shX12_saves_0
noncomputable def sxX12_lock_77 : List UInt8 := []
noncomputable def sxX12_lock_73 : List UInt8 := 182 :: 1 :: 219 :: 172 :: sxX12_lock_77
noncomputable def sxX12_lock_49 : List UInt8 := 21 :: 4 :: 167 :: 0 :: 4 :: 29 :: 62 :: 132 :: 4 :: 1 :: 167 :: 255 :: 223 :: 28 :: 154 :: 0 :: 7 :: 29 :: 167 :: 0 :: 9 :: 42 :: 29 :: 27 :: sxX12_lock_73
noncomputable def sxX12_lock_24 : List UInt8 := 54 :: 4 :: 21 :: 4 :: 16 :: 24 :: 162 :: 0 :: 32 :: 42 :: 21 :: 4 :: 27 :: 182 :: 1 :: 219 :: 42 :: 29 :: 27 :: 182 :: 1 :: 219 :: 164 :: 0 :: 8 :: sxX12_lock_49
theorem shX12_lock_0 : cX12_lock.data.toList.drop 0 = 27 :: 4 :: 16 :: 12 :: 184 :: 0 :: 214 :: 153 :: 0 :: 12 :: 28 :: 3 :: 4 :: 184 :: 0 :: 214 :: 154 :: 0 :: 5 :: 2 :: 172 :: 3 :: 62 :: 4 :: sxX12_lock_24 := rfl
theorem shX12_lock_24 : cX12_lock.data.toList.drop 24 = 54 :: 4 :: 21 :: 4 :: 16 :: 24 :: 162 :: 0 :: 32 :: 42 :: 21 :: 4 :: 27 :: 182 :: 1 :: 219 :: 42 :: 29 :: 27 :: 182 :: 1 :: 219 :: 164 :: 0 :: 8 :: sxX12_lock_49 := aq_24 shX12_lock_0
theorem shX12_lock_49 : cX12_lock.data.toList.drop 49 = 21 :: 4 :: 167 :: 0 :: 4 :: 29 :: 62 :: 132 :: 4 :: 1 :: 167 :: 255 :: 223 :: 28 :: 154 :: 0 :: 7 :: 29 :: 167 :: 0 :: 9 :: 42 :: 29 :: 27 :: sxX12_lock_73 := aq_25 shX12_lock_24
theorem shX12_lock_73 : cX12_lock.data.toList.drop 73 = 182 :: 1 :: 219 :: 172 :: sxX12_lock_77 := aq_24 shX12_lock_49
noncomputable def sxX12_sewer_68 : List UInt8 := []
noncomputable def sxX12_sewer_49 : List UInt8 := 28 :: 79 :: 42 :: 42 :: 180 :: 1 :: 222 :: 4 :: 96 :: 181 :: 1 :: 222 :: 42 :: 180 :: 1 :: 222 :: 4 :: 100 :: 172 :: sxX12_sewer_68
noncomputable def sxX12_sewer_24 : List UInt8 := 16 :: 10 :: 160 :: 0 :: 5 :: 2 :: 172 :: 42 :: 180 :: 0 :: 192 :: 42 :: 180 :: 1 :: 222 :: 27 :: 79 :: 42 :: 180 :: 0 :: 195 :: 42 :: 180 :: 1 :: 222 :: sxX12_sewer_49
theorem shX12_sewer_0 : cX12_sewer.data.toList.drop 0 = 27 :: 3 :: 16 :: 99 :: 184 :: 0 :: 214 :: 153 :: 0 :: 22 :: 28 :: 3 :: 16 :: 99 :: 184 :: 0 :: 214 :: 153 :: 0 :: 12 :: 42 :: 180 :: 1 :: 222 :: sxX12_sewer_24 := rfl
theorem shX12_sewer_24 : cX12_sewer.data.toList.drop 24 = 16 :: 10 :: 160 :: 0 :: 5 :: 2 :: 172 :: 42 :: 180 :: 0 :: 192 :: 42 :: 180 :: 1 :: 222 :: 27 :: 79 :: 42 :: 180 :: 0 :: 195 :: 42 :: 180 :: 1 :: 222 :: sxX12_sewer_49 := aq_24 shX12_sewer_0
theorem shX12_sewer_49 : cX12_sewer.data.toList.drop 49 = 28 :: 79 :: 42 :: 42 :: 180 :: 1 :: 222 :: 4 :: 96 :: 181 :: 1 :: 222 :: 42 :: 180 :: 1 :: 222 :: 4 :: 100 :: 172 :: sxX12_sewer_68 := aq_25 shX12_sewer_24
noncomputable def sxX12_blocked_35 : List UInt8 := []
noncomputable def sxX12_blocked_24 : List UInt8 := 46 :: 4 :: 96 :: 79 :: 42 :: 180 :: 0 :: 198 :: 27 :: 46 :: 172 :: sxX12_blocked_35
theorem shX12_blocked_0 : cX12_blocked.data.toList.drop 0 = 27 :: 155 :: 0 :: 11 :: 27 :: 42 :: 180 :: 1 :: 222 :: 161 :: 0 :: 5 :: 2 :: 172 :: 42 :: 180 :: 0 :: 198 :: 27 :: 42 :: 180 :: 0 :: 198 :: 27 :: sxX12_blocked_24 := rfl
theorem shX12_blocked_24 : cX12_blocked.data.toList.drop 24 = 46 :: 4 :: 96 :: 79 :: 42 :: 180 :: 0 :: 198 :: 27 :: 46 :: 172 :: sxX12_blocked_35 := aq_24 shX12_blocked_0
noncomputable def sxX12_beside_127 : List UInt8 := []
noncomputable def sxX12_beside_125 : List UInt8 := 29 :: 172 :: sxX12_beside_127
noncomputable def sxX12_beside_99 : List UInt8 := 184 :: 1 :: 104 :: 27 :: 163 :: 0 :: 10 :: 29 :: 4 :: 21 :: 4 :: 120 :: 128 :: 62 :: 132 :: 5 :: 1 :: 167 :: 255 :: 181 :: 132 :: 4 :: 1 :: 167 :: 255 :: 163 :: sxX12_beside_125
noncomputable def sxX12_beside_75 : List UInt8 := 21 :: 4 :: 46 :: 42 :: 180 :: 0 :: 13 :: 21 :: 4 :: 46 :: 42 :: 180 :: 0 :: 192 :: 21 :: 5 :: 46 :: 42 :: 180 :: 0 :: 195 :: 21 :: 5 :: 46 :: sxX12_beside_99
noncomputable def sxX12_beside_50 : List UInt8 := 42 :: 180 :: 0 :: 16 :: 21 :: 4 :: 46 :: 154 :: 0 :: 56 :: 42 :: 180 :: 0 :: 198 :: 21 :: 5 :: 46 :: 28 :: 161 :: 0 :: 45 :: 42 :: 180 :: 0 :: 7 :: sxX12_beside_75
noncomputable def sxX12_beside_24 : List UInt8 := 3 :: 62 :: 3 :: 54 :: 4 :: 21 :: 4 :: 42 :: 180 :: 0 :: 204 :: 162 :: 0 :: 90 :: 3 :: 54 :: 5 :: 21 :: 5 :: 42 :: 180 :: 1 :: 222 :: 162 :: 0 :: 72 :: sxX12_beside_50
theorem shX12_beside_0 : cX12_beside.data.toList.drop 0 = 27 :: 3 :: 17 :: 0 :: 198 :: 184 :: 0 :: 214 :: 153 :: 0 :: 14 :: 28 :: 4 :: 17 :: 3 :: 232 :: 184 :: 0 :: 214 :: 154 :: 0 :: 5 :: 2 :: 172 :: sxX12_beside_24 := rfl
theorem shX12_beside_24 : cX12_beside.data.toList.drop 24 = 3 :: 62 :: 3 :: 54 :: 4 :: 21 :: 4 :: 42 :: 180 :: 0 :: 204 :: 162 :: 0 :: 90 :: 3 :: 54 :: 5 :: 21 :: 5 :: 42 :: 180 :: 1 :: 222 :: 162 :: 0 :: 72 :: sxX12_beside_50 := aq_24 shX12_beside_0
theorem shX12_beside_50 : cX12_beside.data.toList.drop 50 = 42 :: 180 :: 0 :: 16 :: 21 :: 4 :: 46 :: 154 :: 0 :: 56 :: 42 :: 180 :: 0 :: 198 :: 21 :: 5 :: 46 :: 28 :: 161 :: 0 :: 45 :: 42 :: 180 :: 0 :: 7 :: sxX12_beside_75 := aq_26 shX12_beside_24
theorem shX12_beside_75 : cX12_beside.data.toList.drop 75 = 21 :: 4 :: 46 :: 42 :: 180 :: 0 :: 13 :: 21 :: 4 :: 46 :: 42 :: 180 :: 0 :: 192 :: 21 :: 5 :: 46 :: 42 :: 180 :: 0 :: 195 :: 21 :: 5 :: 46 :: sxX12_beside_99 := aq_25 shX12_beside_50
theorem shX12_beside_99 : cX12_beside.data.toList.drop 99 = 184 :: 1 :: 104 :: 27 :: 163 :: 0 :: 10 :: 29 :: 4 :: 21 :: 4 :: 120 :: 128 :: 62 :: 132 :: 5 :: 1 :: 167 :: 255 :: 181 :: 132 :: 4 :: 1 :: 167 :: 255 :: 163 :: sxX12_beside_125 := aq_24 shX12_beside_75
theorem shX12_beside_125 : cX12_beside.data.toList.drop 125 = 29 :: 172 :: sxX12_beside_127 := aq_26 shX12_beside_99
theorem dX12_beside_113 : decode cX12_beside 113 = .ok (.iinc 5 1, 3) := oc_132 113 (aq_14 shX12_beside_99) ub_5 sgb_1
theorem dX12_beside_116 : decode cX12_beside 116 = .ok (.goto (-75), 3) := oc_167 116 (aq_17 shX12_beside_99) sgw_255_181
noncomputable def sxX12_degrees_29 : List UInt8 := []
noncomputable def sxX12_degrees_24 : List UInt8 := 27 :: 28 :: 79 :: 4 :: 172 :: sxX12_degrees_29
theorem shX12_degrees_0 : cX12_degrees.data.toList.drop 0 = 27 :: 184 :: 1 :: 85 :: 153 :: 0 :: 14 :: 28 :: 16 :: 216 :: 16 :: 40 :: 184 :: 0 :: 214 :: 154 :: 0 :: 5 :: 3 :: 172 :: 42 :: 180 :: 0 :: 201 :: sxX12_degrees_24 := rfl
theorem shX12_degrees_24 : cX12_degrees.data.toList.drop 24 = 27 :: 28 :: 79 :: 4 :: 172 :: sxX12_degrees_29 := aq_24 shX12_degrees_0
noncomputable def sxX12_late_78 : List UInt8 := []
noncomputable def sxX12_late_73 : List UInt8 := 167 :: 255 :: 209 :: 29 :: 172 :: sxX12_late_78
noncomputable def sxX12_late_48 : List UInt8 := 180 :: 0 :: 201 :: 42 :: 180 :: 0 :: 28 :: 21 :: 4 :: 46 :: 46 :: 28 :: 162 :: 0 :: 7 :: 4 :: 167 :: 0 :: 4 :: 3 :: 96 :: 62 :: 132 :: 4 :: 1 :: sxX12_late_73
noncomputable def sxX12_late_24 : List UInt8 := 54 :: 4 :: 21 :: 4 :: 42 :: 180 :: 0 :: 208 :: 162 :: 0 :: 44 :: 29 :: 42 :: 180 :: 0 :: 25 :: 21 :: 4 :: 46 :: 27 :: 160 :: 0 :: 23 :: 42 :: sxX12_late_48
theorem shX12_late_0 : cX12_late.data.toList.drop 0 = 42 :: 27 :: 182 :: 0 :: 218 :: 153 :: 0 :: 14 :: 28 :: 16 :: 216 :: 16 :: 41 :: 184 :: 0 :: 214 :: 154 :: 0 :: 5 :: 2 :: 172 :: 3 :: 62 :: 3 :: sxX12_late_24 := rfl
theorem shX12_late_24 : cX12_late.data.toList.drop 24 = 54 :: 4 :: 21 :: 4 :: 42 :: 180 :: 0 :: 208 :: 162 :: 0 :: 44 :: 29 :: 42 :: 180 :: 0 :: 25 :: 21 :: 4 :: 46 :: 27 :: 160 :: 0 :: 23 :: 42 :: sxX12_late_48 := aq_24 shX12_late_0
theorem shX12_late_48 : cX12_late.data.toList.drop 48 = 180 :: 0 :: 201 :: 42 :: 180 :: 0 :: 28 :: 21 :: 4 :: 46 :: 46 :: 28 :: 162 :: 0 :: 7 :: 4 :: 167 :: 0 :: 4 :: 3 :: 96 :: 62 :: 132 :: 4 :: 1 :: sxX12_late_73 := aq_24 shX12_late_24
theorem shX12_late_73 : cX12_late.data.toList.drop 73 = 167 :: 255 :: 209 :: 29 :: 172 :: sxX12_late_78 := aq_25 shX12_late_48
noncomputable def sxX12_first_50 : List UInt8 := []
noncomputable def sxX12_first_26 : List UInt8 := 163 :: 0 :: 21 :: 42 :: 180 :: 0 :: 201 :: 29 :: 46 :: 28 :: 161 :: 0 :: 5 :: 29 :: 172 :: 132 :: 3 :: 1 :: 167 :: 255 :: 234 :: 16 :: 254 :: 172 :: sxX12_first_50
theorem shX12_first_0 : cX12_first.data.toList.drop 0 = 27 :: 184 :: 1 :: 85 :: 153 :: 0 :: 14 :: 28 :: 16 :: 216 :: 16 :: 41 :: 184 :: 0 :: 214 :: 154 :: 0 :: 5 :: 2 :: 172 :: 27 :: 62 :: 29 :: 17 :: 1 :: 143 :: sxX12_first_26 := rfl
theorem shX12_first_26 : cX12_first.data.toList.drop 26 = 163 :: 0 :: 21 :: 42 :: 180 :: 0 :: 201 :: 29 :: 46 :: 28 :: 161 :: 0 :: 5 :: 29 :: 172 :: 132 :: 3 :: 1 :: 167 :: 255 :: 234 :: 16 :: 254 :: 172 :: sxX12_first_50 := aq_26 shX12_first_0
noncomputable def sxX12_tapeNumber_39 : List UInt8 := []
noncomputable def sxX12_tapeNumber_24 : List UInt8 := 51 :: 17 :: 0 :: 255 :: 126 :: 128 :: 61 :: 132 :: 3 :: 1 :: 167 :: 255 :: 228 :: 28 :: 172 :: sxX12_tapeNumber_39
theorem shX12_tapeNumber_0 : cX12_tapeNumber.data.toList.drop 0 = 3 :: 61 :: 7 :: 27 :: 104 :: 62 :: 29 :: 7 :: 27 :: 104 :: 7 :: 96 :: 162 :: 0 :: 25 :: 28 :: 16 :: 8 :: 120 :: 42 :: 180 :: 0 :: 52 :: 29 :: sxX12_tapeNumber_24 := rfl
theorem shX12_tapeNumber_24 : cX12_tapeNumber.data.toList.drop 24 = 51 :: 17 :: 0 :: 255 :: 126 :: 128 :: 61 :: 132 :: 3 :: 1 :: 167 :: 255 :: 228 :: 28 :: 172 :: sxX12_tapeNumber_39 := aq_24 shX12_tapeNumber_0
noncomputable def sxX12_check_164 : List UInt8 := []
noncomputable def sxX12_check_145 : List UInt8 := 132 :: 4 :: 1 :: 167 :: 255 :: 144 :: 29 :: 7 :: 28 :: 104 :: 162 :: 0 :: 7 :: 29 :: 167 :: 0 :: 4 :: 2 :: 172 :: sxX12_check_164
noncomputable def sxX12_check_121 : List UInt8 := 29 :: 6 :: 96 :: 182 :: 1 :: 225 :: 42 :: 180 :: 0 :: 43 :: 21 :: 4 :: 46 :: 159 :: 0 :: 7 :: 29 :: 6 :: 96 :: 172 :: 29 :: 7 :: 96 :: 62 :: sxX12_check_145
noncomputable def sxX12_check_97 : List UInt8 := 96 :: 172 :: 42 :: 29 :: 5 :: 96 :: 182 :: 1 :: 225 :: 42 :: 180 :: 0 :: 31 :: 21 :: 4 :: 46 :: 159 :: 0 :: 7 :: 29 :: 5 :: 96 :: 172 :: 42 :: sxX12_check_121
noncomputable def sxX12_check_73 : List UInt8 := 159 :: 0 :: 5 :: 29 :: 172 :: 42 :: 29 :: 4 :: 96 :: 182 :: 1 :: 225 :: 42 :: 180 :: 0 :: 28 :: 21 :: 4 :: 46 :: 159 :: 0 :: 7 :: 29 :: 4 :: sxX12_check_97
noncomputable def sxX12_check_49 : List UInt8 := 21 :: 4 :: 46 :: 27 :: 159 :: 0 :: 6 :: 167 :: 0 :: 89 :: 29 :: 7 :: 28 :: 104 :: 159 :: 0 :: 13 :: 42 :: 29 :: 182 :: 1 :: 225 :: 21 :: 4 :: sxX12_check_73
noncomputable def sxX12_check_25 : List UInt8 := 172 :: 42 :: 3 :: 181 :: 0 :: 226 :: 3 :: 62 :: 3 :: 54 :: 4 :: 21 :: 4 :: 42 :: 180 :: 0 :: 208 :: 162 :: 0 :: 109 :: 42 :: 180 :: 0 :: 25 :: sxX12_check_49
theorem shX12_check_0 : cX12_check.data.toList.drop 0 = 42 :: 27 :: 182 :: 0 :: 218 :: 153 :: 0 :: 18 :: 28 :: 155 :: 0 :: 14 :: 28 :: 42 :: 180 :: 0 :: 226 :: 16 :: 16 :: 108 :: 164 :: 0 :: 6 :: 16 :: 254 :: sxX12_check_25 := rfl
theorem shX12_check_25 : cX12_check.data.toList.drop 25 = 172 :: 42 :: 3 :: 181 :: 0 :: 226 :: 3 :: 62 :: 3 :: 54 :: 4 :: 21 :: 4 :: 42 :: 180 :: 0 :: 208 :: 162 :: 0 :: 109 :: 42 :: 180 :: 0 :: 25 :: sxX12_check_49 := aq_25 shX12_check_0
theorem shX12_check_49 : cX12_check.data.toList.drop 49 = 21 :: 4 :: 46 :: 27 :: 159 :: 0 :: 6 :: 167 :: 0 :: 89 :: 29 :: 7 :: 28 :: 104 :: 159 :: 0 :: 13 :: 42 :: 29 :: 182 :: 1 :: 225 :: 21 :: 4 :: sxX12_check_73 := aq_24 shX12_check_25
theorem shX12_check_73 : cX12_check.data.toList.drop 73 = 159 :: 0 :: 5 :: 29 :: 172 :: 42 :: 29 :: 4 :: 96 :: 182 :: 1 :: 225 :: 42 :: 180 :: 0 :: 28 :: 21 :: 4 :: 46 :: 159 :: 0 :: 7 :: 29 :: 4 :: sxX12_check_97 := aq_24 shX12_check_49
theorem shX12_check_97 : cX12_check.data.toList.drop 97 = 96 :: 172 :: 42 :: 29 :: 5 :: 96 :: 182 :: 1 :: 225 :: 42 :: 180 :: 0 :: 31 :: 21 :: 4 :: 46 :: 159 :: 0 :: 7 :: 29 :: 5 :: 96 :: 172 :: 42 :: sxX12_check_121 := aq_24 shX12_check_73
theorem shX12_check_121 : cX12_check.data.toList.drop 121 = 29 :: 6 :: 96 :: 182 :: 1 :: 225 :: 42 :: 180 :: 0 :: 43 :: 21 :: 4 :: 46 :: 159 :: 0 :: 7 :: 29 :: 6 :: 96 :: 172 :: 29 :: 7 :: 96 :: 62 :: sxX12_check_145 := aq_24 shX12_check_97
theorem shX12_check_145 : cX12_check.data.toList.drop 145 = 132 :: 4 :: 1 :: 167 :: 255 :: 144 :: 29 :: 7 :: 28 :: 104 :: 162 :: 0 :: 7 :: 29 :: 167 :: 0 :: 4 :: 2 :: 172 :: sxX12_check_164 := aq_24 shX12_check_121
theorem dX12_check_5 : decode cX12_check 5 = .ok (.ifCond .eq 18, 3) := oc_153 5 (aq_5 shX12_check_0) sgw_0_18
theorem dX12_check_23 : decode cX12_check 23 = .ok (.bipush (-2), 2) := oc_16 23 (aq_23 shX12_check_0) sgb_254
theorem dX12_check_25 : decode cX12_check 25 = .ok (.ireturn, 1) := oc_172 25 shX12_check_25
theorem dX12_check_76 : decode cX12_check 76 = .ok (.iload_n 3, 1) := oc_29 76 (aq_3 shX12_check_73)
theorem dX12_check_77 : decode cX12_check 77 = .ok (.ireturn, 1) := oc_172 77 (aq_4 shX12_check_73)
theorem dX12_check_145 : decode cX12_check 145 = .ok (.iinc 4 1, 3) := oc_132 145 shX12_check_145 ub_4 sgb_1
theorem dX12_check_148 : decode cX12_check 148 = .ok (.goto (-112), 3) := oc_167 148 (aq_3 shX12_check_145) sgw_255_144
theorem dX12_check_163 : decode cX12_check 163 = .ok (.ireturn, 1) := oc_172 163 (aq_18 shX12_check_145)
noncomputable def sxX12_count_243 : List UInt8 := []
noncomputable def sxX12_count_233 : List UInt8 := 27 :: 16 :: 50 :: 100 :: 46 :: 167 :: 0 :: 4 :: 2 :: 172 :: sxX12_count_243
noncomputable def sxX12_count_207 : List UInt8 := 27 :: 16 :: 40 :: 100 :: 46 :: 172 :: 27 :: 16 :: 50 :: 16 :: 49 :: 42 :: 180 :: 1 :: 191 :: 96 :: 184 :: 0 :: 214 :: 153 :: 0 :: 15 :: 42 :: 180 :: 0 :: 144 :: sxX12_count_233
noncomputable def sxX12_count_181 : List UInt8 := 27 :: 16 :: 30 :: 100 :: 46 :: 172 :: 27 :: 16 :: 40 :: 16 :: 39 :: 42 :: 180 :: 1 :: 179 :: 96 :: 184 :: 0 :: 214 :: 153 :: 0 :: 13 :: 42 :: 180 :: 0 :: 141 :: sxX12_count_207
noncomputable def sxX12_count_155 : List UInt8 := 27 :: 16 :: 20 :: 100 :: 46 :: 172 :: 27 :: 16 :: 30 :: 16 :: 29 :: 42 :: 180 :: 0 :: 204 :: 96 :: 184 :: 0 :: 214 :: 153 :: 0 :: 13 :: 42 :: 180 :: 0 :: 95 :: sxX12_count_181
noncomputable def sxX12_count_129 : List UInt8 := 27 :: 16 :: 10 :: 100 :: 46 :: 172 :: 27 :: 16 :: 20 :: 16 :: 19 :: 42 :: 180 :: 0 :: 204 :: 96 :: 184 :: 0 :: 214 :: 153 :: 0 :: 13 :: 42 :: 180 :: 0 :: 22 :: sxX12_count_155
noncomputable def sxX12_count_104 : List UInt8 := 42 :: 180 :: 1 :: 151 :: 172 :: 27 :: 16 :: 10 :: 16 :: 9 :: 42 :: 180 :: 0 :: 204 :: 96 :: 184 :: 0 :: 214 :: 153 :: 0 :: 13 :: 42 :: 180 :: 0 :: 74 :: sxX12_count_129
noncomputable def sxX12_count_80 : List UInt8 := 16 :: 10 :: 46 :: 172 :: 42 :: 180 :: 1 :: 179 :: 172 :: 42 :: 180 :: 1 :: 191 :: 172 :: 42 :: 180 :: 1 :: 222 :: 172 :: 42 :: 180 :: 1 :: 130 :: 172 :: sxX12_count_104
noncomputable def sxX12_count_56 : List UInt8 := 42 :: 180 :: 0 :: 211 :: 172 :: 42 :: 180 :: 0 :: 204 :: 172 :: 42 :: 180 :: 0 :: 208 :: 172 :: 42 :: 180 :: 0 :: 226 :: 172 :: 42 :: 180 :: 0 :: 74 :: sxX12_count_80
theorem shX12_count_0 : cX12_count.data.toList.drop 0 = 27 :: 170 :: 0 :: 0 :: 0 :: 0 :: 0 :: 108 :: 0 :: 0 :: 0 :: 0 :: 0 :: 0 :: 0 :: 9 :: 0 :: 0 :: 0 :: 55 :: 0 :: 0 :: 0 :: 60 :: 0 :: 0 :: 0 :: 65 :: 0 :: 0 :: 0 :: 70 :: 0 :: 0 :: 0 :: 75 :: 0 :: 0 :: 0 :: 83 :: 0 :: 0 :: 0 :: 88 :: 0 :: 0 :: 0 :: 93 :: 0 :: 0 :: 0 :: 98 :: 0 :: 0 :: 0 :: 103 :: sxX12_count_56 := rfl
theorem shX12_count_56 : cX12_count.data.toList.drop 56 = 42 :: 180 :: 0 :: 211 :: 172 :: 42 :: 180 :: 0 :: 204 :: 172 :: 42 :: 180 :: 0 :: 208 :: 172 :: 42 :: 180 :: 0 :: 226 :: 172 :: 42 :: 180 :: 0 :: 74 :: sxX12_count_80 := dSn 56 shX12_count_0
theorem shX12_count_80 : cX12_count.data.toList.drop 80 = 16 :: 10 :: 46 :: 172 :: 42 :: 180 :: 1 :: 179 :: 172 :: 42 :: 180 :: 1 :: 191 :: 172 :: 42 :: 180 :: 1 :: 222 :: 172 :: 42 :: 180 :: 1 :: 130 :: 172 :: sxX12_count_104 := aq_24 shX12_count_56
theorem shX12_count_104 : cX12_count.data.toList.drop 104 = 42 :: 180 :: 1 :: 151 :: 172 :: 27 :: 16 :: 10 :: 16 :: 9 :: 42 :: 180 :: 0 :: 204 :: 96 :: 184 :: 0 :: 214 :: 153 :: 0 :: 13 :: 42 :: 180 :: 0 :: 74 :: sxX12_count_129 := aq_24 shX12_count_80
theorem shX12_count_129 : cX12_count.data.toList.drop 129 = 27 :: 16 :: 10 :: 100 :: 46 :: 172 :: 27 :: 16 :: 20 :: 16 :: 19 :: 42 :: 180 :: 0 :: 204 :: 96 :: 184 :: 0 :: 214 :: 153 :: 0 :: 13 :: 42 :: 180 :: 0 :: 22 :: sxX12_count_155 := aq_25 shX12_count_104
theorem shX12_count_155 : cX12_count.data.toList.drop 155 = 27 :: 16 :: 20 :: 100 :: 46 :: 172 :: 27 :: 16 :: 30 :: 16 :: 29 :: 42 :: 180 :: 0 :: 204 :: 96 :: 184 :: 0 :: 214 :: 153 :: 0 :: 13 :: 42 :: 180 :: 0 :: 95 :: sxX12_count_181 := aq_26 shX12_count_129
theorem shX12_count_181 : cX12_count.data.toList.drop 181 = 27 :: 16 :: 30 :: 100 :: 46 :: 172 :: 27 :: 16 :: 40 :: 16 :: 39 :: 42 :: 180 :: 1 :: 179 :: 96 :: 184 :: 0 :: 214 :: 153 :: 0 :: 13 :: 42 :: 180 :: 0 :: 141 :: sxX12_count_207 := aq_26 shX12_count_155
theorem shX12_count_207 : cX12_count.data.toList.drop 207 = 27 :: 16 :: 40 :: 100 :: 46 :: 172 :: 27 :: 16 :: 50 :: 16 :: 49 :: 42 :: 180 :: 1 :: 191 :: 96 :: 184 :: 0 :: 214 :: 153 :: 0 :: 15 :: 42 :: 180 :: 0 :: 144 :: sxX12_count_233 := aq_26 shX12_count_181
theorem shX12_count_233 : cX12_count.data.toList.drop 233 = 27 :: 16 :: 50 :: 100 :: 46 :: 167 :: 0 :: 4 :: 2 :: 172 :: sxX12_count_243 := aq_26 shX12_count_207
theorem dX12_count_1 : decode cX12_count 1 = .ok (.tableswitch 108 0 9 #[55, 60, 65, 70, 75, 83, 88, 93, 98, 103], 55) := by decide +kernel
theorem dX12_count_122 : decode cX12_count 122 = .ok (.ifCond .eq 13, 3) := oc_153 122 (aq_18 shX12_count_104) sgw_0_13
theorem dX12_count_148 : decode cX12_count 148 = .ok (.ifCond .eq 13, 3) := oc_153 148 (aq_19 shX12_count_129) sgw_0_13
theorem dX12_count_174 : decode cX12_count 174 = .ok (.ifCond .eq 13, 3) := oc_153 174 (aq_19 shX12_count_155) sgw_0_13
theorem dX12_count_200 : decode cX12_count 200 = .ok (.ifCond .eq 13, 3) := oc_153 200 (aq_19 shX12_count_181) sgw_0_13
theorem dX12_count_226 : decode cX12_count 226 = .ok (.ifCond .eq 15, 3) := oc_153 226 (aq_19 shX12_count_207) sgw_0_15
theorem dX12_count_242 : decode cX12_count 242 = .ok (.ireturn, 1) := oc_172 242 (aq_9 shX12_count_233)
