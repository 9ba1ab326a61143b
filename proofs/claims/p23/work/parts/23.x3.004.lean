theorem shX11_streets_0 : cX11_streets.data.toList.drop 0 = sxX11_streets_0 := rfl
theorem shX11_streets_1 : cX11_streets.data.toList.drop 1 = sxX11_streets_1 := dSn 1 shX11_streets_0
theorem shX11_streets_2 : cX11_streets.data.toList.drop 2 = sxX11_streets_2 := dSn 1 shX11_streets_1
theorem shX11_streets_4 : cX11_streets.data.toList.drop 4 = sxX11_streets_4 := dSn 2 shX11_streets_2
theorem shX11_streets_7 : cX11_streets.data.toList.drop 7 = sxX11_streets_7 := dSn 3 shX11_streets_4
theorem shX11_streets_10 : cX11_streets.data.toList.drop 10 = sxX11_streets_10 := dSn 3 shX11_streets_7
theorem shX11_streets_11 : cX11_streets.data.toList.drop 11 = sxX11_streets_11 := dSn 1 shX11_streets_10
theorem shX11_streets_12 : cX11_streets.data.toList.drop 12 = sxX11_streets_12 := dSn 1 shX11_streets_11
theorem shX11_streets_13 : cX11_streets.data.toList.drop 13 = sxX11_streets_13 := dSn 1 shX11_streets_12
theorem shX11_streets_16 : cX11_streets.data.toList.drop 16 = sxX11_streets_16 := dSn 3 shX11_streets_13
theorem shX11_streets_19 : cX11_streets.data.toList.drop 19 = sxX11_streets_19 := dSn 3 shX11_streets_16
theorem shX11_streets_22 : cX11_streets.data.toList.drop 22 = sxX11_streets_22 := dSn 3 shX11_streets_19
theorem shX11_streets_23 : cX11_streets.data.toList.drop 23 = sxX11_streets_23 := dSn 1 shX11_streets_22
theorem shX11_streets_24 : cX11_streets.data.toList.drop 24 = sxX11_streets_24 := dSn 1 shX11_streets_23
theorem shX11_streets_25 : cX11_streets.data.toList.drop 25 = sxX11_streets_25 := dSn 1 shX11_streets_24
theorem shX11_streets_26 : cX11_streets.data.toList.drop 26 = sxX11_streets_26 := dSn 1 shX11_streets_25
theorem shX11_streets_28 : cX11_streets.data.toList.drop 28 = sxX11_streets_28 := dSn 2 shX11_streets_26
theorem shX11_streets_29 : cX11_streets.data.toList.drop 29 = sxX11_streets_29 := dSn 1 shX11_streets_28
theorem shX11_streets_31 : cX11_streets.data.toList.drop 31 = sxX11_streets_31 := dSn 2 shX11_streets_29
theorem shX11_streets_32 : cX11_streets.data.toList.drop 32 = sxX11_streets_32 := dSn 1 shX11_streets_31
theorem shX11_streets_34 : cX11_streets.data.toList.drop 34 = sxX11_streets_34 := dSn 2 shX11_streets_32
theorem shX11_streets_36 : cX11_streets.data.toList.drop 36 = sxX11_streets_36 := dSn 2 shX11_streets_34
theorem shX11_streets_37 : cX11_streets.data.toList.drop 37 = sxX11_streets_37 := dSn 1 shX11_streets_36
theorem shX11_streets_40 : cX11_streets.data.toList.drop 40 = sxX11_streets_40 := dSn 3 shX11_streets_37
theorem shX11_streets_43 : cX11_streets.data.toList.drop 43 = sxX11_streets_43 := dSn 3 shX11_streets_40
theorem shX11_streets_46 : cX11_streets.data.toList.drop 46 = sxX11_streets_46 := dSn 3 shX11_streets_43
theorem shX11_streets_47 : cX11_streets.data.toList.drop 47 = sxX11_streets_47 := dSn 1 shX11_streets_46
theorem shX11_streets_50 : cX11_streets.data.toList.drop 50 = sxX11_streets_50 := dSn 3 shX11_streets_47
theorem shX11_streets_52 : cX11_streets.data.toList.drop 52 = sxX11_streets_52 := dSn 2 shX11_streets_50
theorem shX11_streets_55 : cX11_streets.data.toList.drop 55 = sxX11_streets_55 := dSn 3 shX11_streets_52
theorem shX11_streets_58 : cX11_streets.data.toList.drop 58 = sxX11_streets_58 := dSn 3 shX11_streets_55
theorem shX11_streets_60 : cX11_streets.data.toList.drop 60 = sxX11_streets_60 := dSn 2 shX11_streets_58
theorem shX11_streets_61 : cX11_streets.data.toList.drop 61 = sxX11_streets_61 := dSn 1 shX11_streets_60
theorem shX11_streets_63 : cX11_streets.data.toList.drop 63 = sxX11_streets_63 := dSn 2 shX11_streets_61
theorem shX11_streets_66 : cX11_streets.data.toList.drop 66 = sxX11_streets_66 := dSn 3 shX11_streets_63
theorem shX11_streets_69 : cX11_streets.data.toList.drop 69 = sxX11_streets_69 := dSn 3 shX11_streets_66
theorem shX11_streets_71 : cX11_streets.data.toList.drop 71 = sxX11_streets_71 := dSn 2 shX11_streets_69
theorem shX11_streets_73 : cX11_streets.data.toList.drop 73 = sxX11_streets_73 := dSn 2 shX11_streets_71
theorem shX11_streets_76 : cX11_streets.data.toList.drop 76 = sxX11_streets_76 := dSn 3 shX11_streets_73
theorem shX11_streets_78 : cX11_streets.data.toList.drop 78 = sxX11_streets_78 := dSn 2 shX11_streets_76
theorem shX11_streets_81 : cX11_streets.data.toList.drop 81 = sxX11_streets_81 := dSn 3 shX11_streets_78
theorem shX11_streets_82 : cX11_streets.data.toList.drop 82 = sxX11_streets_82 := dSn 1 shX11_streets_81
theorem shX11_streets_85 : cX11_streets.data.toList.drop 85 = sxX11_streets_85 := dSn 3 shX11_streets_82
theorem shX11_streets_86 : cX11_streets.data.toList.drop 86 = sxX11_streets_86 := dSn 1 shX11_streets_85
theorem shX11_streets_89 : cX11_streets.data.toList.drop 89 = sxX11_streets_89 := dSn 3 shX11_streets_86
theorem shX11_streets_90 : cX11_streets.data.toList.drop 90 = sxX11_streets_90 := dSn 1 shX11_streets_89
theorem shX11_streets_92 : cX11_streets.data.toList.drop 92 = sxX11_streets_92 := dSn 2 shX11_streets_90
theorem shX11_streets_93 : cX11_streets.data.toList.drop 93 = sxX11_streets_93 := dSn 1 shX11_streets_92
theorem shX11_streets_95 : cX11_streets.data.toList.drop 95 = sxX11_streets_95 := dSn 2 shX11_streets_93
theorem shX11_streets_98 : cX11_streets.data.toList.drop 98 = sxX11_streets_98 := dSn 3 shX11_streets_95
theorem shX11_streets_101 : cX11_streets.data.toList.drop 101 = sxX11_streets_101 := dSn 3 shX11_streets_98
theorem shX11_streets_102 : cX11_streets.data.toList.drop 102 = sxX11_streets_102 := dSn 1 shX11_streets_101
theorem shX11_streets_105 : cX11_streets.data.toList.drop 105 = sxX11_streets_105 := dSn 3 shX11_streets_102
theorem shX11_streets_106 : cX11_streets.data.toList.drop 106 = sxX11_streets_106 := dSn 1 shX11_streets_105
theorem shX11_streets_107 : cX11_streets.data.toList.drop 107 = sxX11_streets_107 := dSn 1 shX11_streets_106
theorem shX11_streets_108 : cX11_streets.data.toList.drop 108 = sxX11_streets_108 := dSn 1 shX11_streets_107
theorem shX11_streets_110 : cX11_streets.data.toList.drop 110 = sxX11_streets_110 := dSn 2 shX11_streets_108
theorem shX11_streets_112 : cX11_streets.data.toList.drop 112 = sxX11_streets_112 := dSn 2 shX11_streets_110
theorem shX11_streets_115 : cX11_streets.data.toList.drop 115 = sxX11_streets_115 := dSn 3 shX11_streets_112
theorem shX11_streets_116 : cX11_streets.data.toList.drop 116 = sxX11_streets_116 := dSn 1 shX11_streets_115
theorem shX11_streets_119 : cX11_streets.data.toList.drop 119 = sxX11_streets_119 := dSn 3 shX11_streets_116
theorem shX11_streets_120 : cX11_streets.data.toList.drop 120 = sxX11_streets_120 := dSn 1 shX11_streets_119
theorem shX11_streets_121 : cX11_streets.data.toList.drop 121 = sxX11_streets_121 := dSn 1 shX11_streets_120
theorem shX11_streets_123 : cX11_streets.data.toList.drop 123 = sxX11_streets_123 := dSn 2 shX11_streets_121
theorem shX11_streets_125 : cX11_streets.data.toList.drop 125 = sxX11_streets_125 := dSn 2 shX11_streets_123
theorem shX11_streets_127 : cX11_streets.data.toList.drop 127 = sxX11_streets_127 := dSn 2 shX11_streets_125
theorem shX11_streets_130 : cX11_streets.data.toList.drop 130 = sxX11_streets_130 := dSn 3 shX11_streets_127
theorem shX11_streets_132 : cX11_streets.data.toList.drop 132 = sxX11_streets_132 := dSn 2 shX11_streets_130
theorem shX11_streets_135 : cX11_streets.data.toList.drop 135 = sxX11_streets_135 := dSn 3 shX11_streets_132
theorem shX11_streets_138 : cX11_streets.data.toList.drop 138 = sxX11_streets_138 := dSn 3 shX11_streets_135
theorem shX11_streets_139 : cX11_streets.data.toList.drop 139 = sxX11_streets_139 := dSn 1 shX11_streets_138
theorem shX11_streets_142 : cX11_streets.data.toList.drop 142 = sxX11_streets_142 := dSn 3 shX11_streets_139
theorem shX11_streets_143 : cX11_streets.data.toList.drop 143 = sxX11_streets_143 := dSn 1 shX11_streets_142
theorem shX11_streets_144 : cX11_streets.data.toList.drop 144 = sxX11_streets_144 := dSn 1 shX11_streets_143
theorem shX11_streets_146 : cX11_streets.data.toList.drop 146 = sxX11_streets_146 := dSn 2 shX11_streets_144
theorem shX11_streets_149 : cX11_streets.data.toList.drop 149 = sxX11_streets_149 := dSn 3 shX11_streets_146
theorem shX11_streets_152 : cX11_streets.data.toList.drop 152 = sxX11_streets_152 := dSn 3 shX11_streets_149
theorem shX11_streets_153 : cX11_streets.data.toList.drop 153 = sxX11_streets_153 := dSn 1 shX11_streets_152
theorem shX11_streets_155 : cX11_streets.data.toList.drop 155 = sxX11_streets_155 := dSn 2 shX11_streets_153
theorem shX11_streets_157 : cX11_streets.data.toList.drop 157 = sxX11_streets_157 := dSn 2 shX11_streets_155
theorem shX11_streets_158 : cX11_streets.data.toList.drop 158 = sxX11_streets_158 := dSn 1 shX11_streets_157
theorem shX11_streets_161 : cX11_streets.data.toList.drop 161 = sxX11_streets_161 := dSn 3 shX11_streets_158
theorem shX11_streets_164 : cX11_streets.data.toList.drop 164 = sxX11_streets_164 := dSn 3 shX11_streets_161
theorem shX11_streets_165 : cX11_streets.data.toList.drop 165 = sxX11_streets_165 := dSn 1 shX11_streets_164
theorem shX11_streets_168 : cX11_streets.data.toList.drop 168 = sxX11_streets_168 := dSn 3 shX11_streets_165
theorem dX11_streets_0 : decode cX11_streets 0 = .ok (.iload_n 1, 1) := oc_27 shX11_streets_0
theorem dX11_streets_1 : decode cX11_streets 1 = .ok (.iconst 0, 1) := oc_3 shX11_streets_1
theorem dX11_streets_2 : decode cX11_streets 2 = .ok (.bipush 9, 2) := oc_16 shX11_streets_2 sgb_9
theorem dX11_streets_4 : decode cX11_streets 4 = .ok (.invokestatic 80, 3) := oc_184 shX11_streets_4
theorem dX11_streets_7 : decode cX11_streets 7 = .ok (.ifCond .eq 12, 3) := oc_153 shX11_streets_7 sgw_0_12
theorem dX11_streets_10 : decode cX11_streets 10 = .ok (.iload_n 2, 1) := oc_28 shX11_streets_10
theorem dX11_streets_11 : decode cX11_streets 11 = .ok (.iconst 0, 1) := oc_3 shX11_streets_11
theorem dX11_streets_12 : decode cX11_streets 12 = .ok (.iconst 2, 1) := oc_5 shX11_streets_12
theorem dX11_streets_13 : decode cX11_streets 13 = .ok (.invokestatic 80, 3) := oc_184 shX11_streets_13
theorem dX11_streets_16 : decode cX11_streets 16 = .ok (.ifCond .ne 7, 3) := oc_154 shX11_streets_16 sgw_0_7
theorem dX11_streets_23 : decode cX11_streets 23 = .ok (.iconst 0, 1) := oc_3 shX11_streets_23
theorem dX11_streets_24 : decode cX11_streets 24 = .ok (.istore_n 3, 1) := oc_62 shX11_streets_24
theorem dX11_streets_25 : decode cX11_streets 25 = .ok (.iconst 0, 1) := oc_3 shX11_streets_25
theorem dX11_streets_26 : decode cX11_streets 26 = .ok (.istore 4, 2) := oc_54 shX11_streets_26
theorem dX11_streets_28 : decode cX11_streets 28 = .ok (.iconst 0, 1) := oc_3 shX11_streets_28
theorem dX11_streets_29 : decode cX11_streets 29 = .ok (.istore 5, 2) := oc_54 shX11_streets_29
theorem dX11_streets_31 : decode cX11_streets 31 = .ok (.iconst 0, 1) := oc_3 shX11_streets_31
theorem dX11_streets_32 : decode cX11_streets 32 = .ok (.istore 6, 2) := oc_54 shX11_streets_32
theorem dX11_streets_34 : decode cX11_streets 34 = .ok (.iload 6, 2) := oc_21 shX11_streets_34
theorem dX11_streets_36 : decode cX11_streets 36 = .ok (.aload_n 0, 1) := oc_42 shX11_streets_36
theorem dX11_streets_37 : decode cX11_streets 37 = .ok (.getfield 65, 3) := oc_180 shX11_streets_37
theorem dX11_streets_40 : decode cX11_streets 40 = .ok (.invokevirtual 84, 3) := oc_182 shX11_streets_40
theorem dX11_streets_43 : decode cX11_streets 43 = .ok (.if_icmp .ge 109, 3) := oc_162 shX11_streets_43 sgw_0_109
theorem dX11_streets_152 : decode cX11_streets 152 = .ok (.iload_n 3, 1) := oc_29 shX11_streets_152
theorem dX11_streets_153 : decode cX11_streets 153 = .ok (.iload 4, 2) := oc_21 shX11_streets_153
theorem dX11_streets_155 : decode cX11_streets 155 = .ok (.iload 5, 2) := oc_21 shX11_streets_155
theorem dX11_streets_157 : decode cX11_streets 157 = .ok (.aload_n 0, 1) := oc_42 shX11_streets_157
theorem dX11_streets_158 : decode cX11_streets 158 = .ok (.getfield 65, 3) := oc_180 shX11_streets_158
theorem dX11_streets_161 : decode cX11_streets 161 = .ok (.invokevirtual 84, 3) := oc_182 shX11_streets_161
theorem dX11_streets_164 : decode cX11_streets 164 = .ok (.iload_n 2, 1) := oc_28 shX11_streets_164
theorem dX11_streets_165 : decode cX11_streets 165 = .ok (.invokestatic 256, 3) := oc_184 shX11_streets_165
theorem dX11_streets_168 : decode cX11_streets 168 = .ok (.lreturn, 1) := oc_173 shX11_streets_168
theorem dX11_streets_46 : decode cX11_streets 46 = .ok (.aload_n 0, 1) := oc_42 shX11_streets_46
theorem dX11_streets_47 : decode cX11_streets 47 = .ok (.getfield 65, 3) := oc_180 shX11_streets_47
theorem dX11_streets_50 : decode cX11_streets 50 = .ok (.iload 6, 2) := oc_21 shX11_streets_50
theorem dX11_streets_52 : decode cX11_streets 52 = .ok (.invokevirtual 87, 3) := oc_182 shX11_streets_52
theorem dX11_streets_55 : decode cX11_streets 55 = .ok (.checkcast 93, 3) := oc_192 shX11_streets_55
theorem dX11_streets_58 : decode cX11_streets 58 = .ok (.astore 7, 2) := oc_58 shX11_streets_58
theorem dX11_streets_60 : decode cX11_streets 60 = .ok (.aload_n 0, 1) := oc_42 shX11_streets_60
theorem dX11_streets_61 : decode cX11_streets 61 = .ok (.aload 7, 2) := oc_25 shX11_streets_61
theorem dX11_streets_63 : decode cX11_streets 63 = .ok (.getfield 211, 3) := oc_180 shX11_streets_63
theorem dX11_streets_66 : decode cX11_streets 66 = .ok (.invokevirtual 114, 3) := oc_182 shX11_streets_66
theorem dX11_streets_69 : decode cX11_streets 69 = .ok (.astore 8, 2) := oc_58 shX11_streets_69
theorem dX11_streets_71 : decode cX11_streets 71 = .ok (.aload 8, 2) := oc_25 shX11_streets_71
theorem dX11_streets_73 : decode cX11_streets 73 = .ok (.ifnull 16, 3) := oc_198 shX11_streets_73 sgw_0_16
theorem dX11_streets_76 : decode cX11_streets 76 = .ok (.aload 8, 2) := oc_25 shX11_streets_76
theorem dX11_streets_78 : decode cX11_streets 78 = .ok (.getfield 260, 3) := oc_180 shX11_streets_78
theorem dX11_streets_81 : decode cX11_streets 81 = .ok (.iload_n 1, 1) := oc_27 shX11_streets_81
theorem dX11_streets_82 : decode cX11_streets 82 = .ok (.if_icmp .ne 7, 3) := oc_160 shX11_streets_82 sgw_0_7
theorem dX11_streets_89 : decode cX11_streets 89 = .ok (.iconst 0, 1) := oc_3 shX11_streets_89
theorem dX11_streets_90 : decode cX11_streets 90 = .ok (.istore 9, 2) := oc_54 shX11_streets_90
theorem dX11_streets_92 : decode cX11_streets 92 = .ok (.iload_n 3, 1) := oc_29 shX11_streets_92
theorem dX11_streets_93 : decode cX11_streets 93 = .ok (.aload 7, 2) := oc_25 shX11_streets_93
theorem dX11_streets_95 : decode cX11_streets 95 = .ok (.getfield 141, 3) := oc_180 shX11_streets_95
theorem dX11_streets_98 : decode cX11_streets 98 = .ok (.ifCond .le 7, 3) := oc_158 shX11_streets_98 sgw_0_7
theorem dX11_streets_105 : decode cX11_streets 105 = .ok (.iconst 0, 1) := oc_3 shX11_streets_105
theorem dX11_streets_106 : decode cX11_streets 106 = .ok (.iadd, 1) := oc_96 shX11_streets_106
theorem dX11_streets_107 : decode cX11_streets 107 = .ok (.istore_n 3, 1) := oc_62 shX11_streets_107
theorem dX11_streets_108 : decode cX11_streets 108 = .ok (.iload 4, 2) := oc_21 shX11_streets_108
theorem dX11_streets_110 : decode cX11_streets 110 = .ok (.iload 9, 2) := oc_21 shX11_streets_110
theorem dX11_streets_112 : decode cX11_streets 112 = .ok (.ifCond .eq 7, 3) := oc_153 shX11_streets_112 sgw_0_7
theorem dX11_streets_119 : decode cX11_streets 119 = .ok (.iconst 0, 1) := oc_3 shX11_streets_119
theorem dX11_streets_120 : decode cX11_streets 120 = .ok (.iadd, 1) := oc_96 shX11_streets_120
theorem dX11_streets_121 : decode cX11_streets 121 = .ok (.istore 4, 2) := oc_54 shX11_streets_121
theorem dX11_streets_123 : decode cX11_streets 123 = .ok (.iload 5, 2) := oc_21 shX11_streets_123
theorem dX11_streets_125 : decode cX11_streets 125 = .ok (.iload 9, 2) := oc_21 shX11_streets_125
theorem dX11_streets_127 : decode cX11_streets 127 = .ok (.ifCond .eq 15, 3) := oc_153 shX11_streets_127 sgw_0_15
theorem dX11_streets_142 : decode cX11_streets 142 = .ok (.iconst 0, 1) := oc_3 shX11_streets_142
theorem dX11_streets_143 : decode cX11_streets 143 = .ok (.iadd, 1) := oc_96 shX11_streets_143
theorem dX11_streets_144 : decode cX11_streets 144 = .ok (.istore 5, 2) := oc_54 shX11_streets_144
theorem dX11_streets_146 : decode cX11_streets 146 = .ok (.iinc 6 1, 3) := oc_132 shX11_streets_146 sgb_1
theorem dX11_streets_149 : decode cX11_streets 149 = .ok (.goto (-115), 3) := oc_167 shX11_streets_149 sgw_255_141
theorem dX11_streets_101 : decode cX11_streets 101 = .ok (.iconst 1, 1) := oc_4 shX11_streets_101
theorem dX11_streets_102 : decode cX11_streets 102 = .ok (.goto 4, 3) := oc_167 shX11_streets_102 sgw_0_4
theorem dX11_streets_85 : decode cX11_streets 85 = .ok (.iconst 1, 1) := oc_4 shX11_streets_85
theorem dX11_streets_86 : decode cX11_streets 86 = .ok (.goto 4, 3) := oc_167 shX11_streets_86 sgw_0_4
theorem dX11_streets_115 : decode cX11_streets 115 = .ok (.iconst 1, 1) := oc_4 shX11_streets_115
theorem dX11_streets_116 : decode cX11_streets 116 = .ok (.goto 4, 3) := oc_167 shX11_streets_116 sgw_0_4
theorem dX11_streets_130 : decode cX11_streets 130 = .ok (.aload 7, 2) := oc_25 shX11_streets_130
theorem dX11_streets_132 : decode cX11_streets 132 = .ok (.getfield 141, 3) := oc_180 shX11_streets_132
theorem dX11_streets_135 : decode cX11_streets 135 = .ok (.ifCond .le 7, 3) := oc_158 shX11_streets_135 sgw_0_7
theorem dX11_streets_138 : decode cX11_streets 138 = .ok (.iconst 1, 1) := oc_4 shX11_streets_138
theorem dX11_streets_139 : decode cX11_streets 139 = .ok (.goto 4, 3) := oc_167 shX11_streets_139 sgw_0_4
theorem dX11_streets_19 : decode cX11_streets 19 = .ok (.ldc2_w 254, 3) := oc_20 shX11_streets_19
