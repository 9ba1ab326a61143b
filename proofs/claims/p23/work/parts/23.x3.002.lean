theorem shX11_beyond_0 : cX11_beyond.data.toList.drop 0 = sxX11_beyond_0 := rfl
theorem shX11_beyond_1 : cX11_beyond.data.toList.drop 1 = sxX11_beyond_1 := dSn 1 shX11_beyond_0
theorem shX11_beyond_2 : cX11_beyond.data.toList.drop 2 = sxX11_beyond_2 := dSn 1 shX11_beyond_1
theorem shX11_beyond_4 : cX11_beyond.data.toList.drop 4 = sxX11_beyond_4 := dSn 2 shX11_beyond_2
theorem shX11_beyond_7 : cX11_beyond.data.toList.drop 7 = sxX11_beyond_7 := dSn 3 shX11_beyond_4
theorem shX11_beyond_10 : cX11_beyond.data.toList.drop 10 = sxX11_beyond_10 := dSn 3 shX11_beyond_7
theorem shX11_beyond_11 : cX11_beyond.data.toList.drop 11 = sxX11_beyond_11 := dSn 1 shX11_beyond_10
theorem shX11_beyond_12 : cX11_beyond.data.toList.drop 12 = sxX11_beyond_12 := dSn 1 shX11_beyond_11
theorem shX11_beyond_13 : cX11_beyond.data.toList.drop 13 = sxX11_beyond_13 := dSn 1 shX11_beyond_12
theorem shX11_beyond_16 : cX11_beyond.data.toList.drop 16 = sxX11_beyond_16 := dSn 3 shX11_beyond_13
theorem shX11_beyond_19 : cX11_beyond.data.toList.drop 19 = sxX11_beyond_19 := dSn 3 shX11_beyond_16
theorem shX11_beyond_22 : cX11_beyond.data.toList.drop 22 = sxX11_beyond_22 := dSn 3 shX11_beyond_19
theorem shX11_beyond_23 : cX11_beyond.data.toList.drop 23 = sxX11_beyond_23 := dSn 1 shX11_beyond_22
theorem shX11_beyond_24 : cX11_beyond.data.toList.drop 24 = sxX11_beyond_24 := dSn 1 shX11_beyond_23
theorem shX11_beyond_25 : cX11_beyond.data.toList.drop 25 = sxX11_beyond_25 := dSn 1 shX11_beyond_24
theorem shX11_beyond_26 : cX11_beyond.data.toList.drop 26 = sxX11_beyond_26 := dSn 1 shX11_beyond_25
theorem shX11_beyond_28 : cX11_beyond.data.toList.drop 28 = sxX11_beyond_28 := dSn 2 shX11_beyond_26
theorem shX11_beyond_29 : cX11_beyond.data.toList.drop 29 = sxX11_beyond_29 := dSn 1 shX11_beyond_28
theorem shX11_beyond_31 : cX11_beyond.data.toList.drop 31 = sxX11_beyond_31 := dSn 2 shX11_beyond_29
theorem shX11_beyond_32 : cX11_beyond.data.toList.drop 32 = sxX11_beyond_32 := dSn 1 shX11_beyond_31
theorem shX11_beyond_34 : cX11_beyond.data.toList.drop 34 = sxX11_beyond_34 := dSn 2 shX11_beyond_32
theorem shX11_beyond_36 : cX11_beyond.data.toList.drop 36 = sxX11_beyond_36 := dSn 2 shX11_beyond_34
theorem shX11_beyond_37 : cX11_beyond.data.toList.drop 37 = sxX11_beyond_37 := dSn 1 shX11_beyond_36
theorem shX11_beyond_40 : cX11_beyond.data.toList.drop 40 = sxX11_beyond_40 := dSn 3 shX11_beyond_37
theorem shX11_beyond_43 : cX11_beyond.data.toList.drop 43 = sxX11_beyond_43 := dSn 3 shX11_beyond_40
theorem shX11_beyond_46 : cX11_beyond.data.toList.drop 46 = sxX11_beyond_46 := dSn 3 shX11_beyond_43
theorem shX11_beyond_47 : cX11_beyond.data.toList.drop 47 = sxX11_beyond_47 := dSn 1 shX11_beyond_46
theorem shX11_beyond_50 : cX11_beyond.data.toList.drop 50 = sxX11_beyond_50 := dSn 3 shX11_beyond_47
theorem shX11_beyond_52 : cX11_beyond.data.toList.drop 52 = sxX11_beyond_52 := dSn 2 shX11_beyond_50
theorem shX11_beyond_55 : cX11_beyond.data.toList.drop 55 = sxX11_beyond_55 := dSn 3 shX11_beyond_52
theorem shX11_beyond_58 : cX11_beyond.data.toList.drop 58 = sxX11_beyond_58 := dSn 3 shX11_beyond_55
theorem shX11_beyond_60 : cX11_beyond.data.toList.drop 60 = sxX11_beyond_60 := dSn 2 shX11_beyond_58
theorem shX11_beyond_62 : cX11_beyond.data.toList.drop 62 = sxX11_beyond_62 := dSn 2 shX11_beyond_60
theorem shX11_beyond_65 : cX11_beyond.data.toList.drop 65 = sxX11_beyond_65 := dSn 3 shX11_beyond_62
theorem shX11_beyond_67 : cX11_beyond.data.toList.drop 67 = sxX11_beyond_67 := dSn 2 shX11_beyond_65
theorem shX11_beyond_68 : cX11_beyond.data.toList.drop 68 = sxX11_beyond_68 := dSn 1 shX11_beyond_67
theorem shX11_beyond_69 : cX11_beyond.data.toList.drop 69 = sxX11_beyond_69 := dSn 1 shX11_beyond_68
theorem shX11_beyond_72 : cX11_beyond.data.toList.drop 72 = sxX11_beyond_72 := dSn 3 shX11_beyond_69
theorem shX11_beyond_73 : cX11_beyond.data.toList.drop 73 = sxX11_beyond_73 := dSn 1 shX11_beyond_72
theorem shX11_beyond_76 : cX11_beyond.data.toList.drop 76 = sxX11_beyond_76 := dSn 3 shX11_beyond_73
theorem shX11_beyond_77 : cX11_beyond.data.toList.drop 77 = sxX11_beyond_77 := dSn 1 shX11_beyond_76
theorem shX11_beyond_79 : cX11_beyond.data.toList.drop 79 = sxX11_beyond_79 := dSn 2 shX11_beyond_77
theorem shX11_beyond_80 : cX11_beyond.data.toList.drop 80 = sxX11_beyond_80 := dSn 1 shX11_beyond_79
theorem shX11_beyond_82 : cX11_beyond.data.toList.drop 82 = sxX11_beyond_82 := dSn 2 shX11_beyond_80
theorem shX11_beyond_85 : cX11_beyond.data.toList.drop 85 = sxX11_beyond_85 := dSn 3 shX11_beyond_82
theorem shX11_beyond_88 : cX11_beyond.data.toList.drop 88 = sxX11_beyond_88 := dSn 3 shX11_beyond_85
theorem shX11_beyond_89 : cX11_beyond.data.toList.drop 89 = sxX11_beyond_89 := dSn 1 shX11_beyond_88
theorem shX11_beyond_92 : cX11_beyond.data.toList.drop 92 = sxX11_beyond_92 := dSn 3 shX11_beyond_89
theorem shX11_beyond_93 : cX11_beyond.data.toList.drop 93 = sxX11_beyond_93 := dSn 1 shX11_beyond_92
theorem shX11_beyond_94 : cX11_beyond.data.toList.drop 94 = sxX11_beyond_94 := dSn 1 shX11_beyond_93
theorem shX11_beyond_95 : cX11_beyond.data.toList.drop 95 = sxX11_beyond_95 := dSn 1 shX11_beyond_94
theorem shX11_beyond_97 : cX11_beyond.data.toList.drop 97 = sxX11_beyond_97 := dSn 2 shX11_beyond_95
theorem shX11_beyond_99 : cX11_beyond.data.toList.drop 99 = sxX11_beyond_99 := dSn 2 shX11_beyond_97
theorem shX11_beyond_102 : cX11_beyond.data.toList.drop 102 = sxX11_beyond_102 := dSn 3 shX11_beyond_99
theorem shX11_beyond_103 : cX11_beyond.data.toList.drop 103 = sxX11_beyond_103 := dSn 1 shX11_beyond_102
theorem shX11_beyond_106 : cX11_beyond.data.toList.drop 106 = sxX11_beyond_106 := dSn 3 shX11_beyond_103
theorem shX11_beyond_107 : cX11_beyond.data.toList.drop 107 = sxX11_beyond_107 := dSn 1 shX11_beyond_106
theorem shX11_beyond_108 : cX11_beyond.data.toList.drop 108 = sxX11_beyond_108 := dSn 1 shX11_beyond_107
theorem shX11_beyond_110 : cX11_beyond.data.toList.drop 110 = sxX11_beyond_110 := dSn 2 shX11_beyond_108
theorem shX11_beyond_112 : cX11_beyond.data.toList.drop 112 = sxX11_beyond_112 := dSn 2 shX11_beyond_110
theorem shX11_beyond_114 : cX11_beyond.data.toList.drop 114 = sxX11_beyond_114 := dSn 2 shX11_beyond_112
theorem shX11_beyond_117 : cX11_beyond.data.toList.drop 117 = sxX11_beyond_117 := dSn 3 shX11_beyond_114
theorem shX11_beyond_119 : cX11_beyond.data.toList.drop 119 = sxX11_beyond_119 := dSn 2 shX11_beyond_117
theorem shX11_beyond_122 : cX11_beyond.data.toList.drop 122 = sxX11_beyond_122 := dSn 3 shX11_beyond_119
theorem shX11_beyond_125 : cX11_beyond.data.toList.drop 125 = sxX11_beyond_125 := dSn 3 shX11_beyond_122
theorem shX11_beyond_126 : cX11_beyond.data.toList.drop 126 = sxX11_beyond_126 := dSn 1 shX11_beyond_125
theorem shX11_beyond_129 : cX11_beyond.data.toList.drop 129 = sxX11_beyond_129 := dSn 3 shX11_beyond_126
theorem shX11_beyond_130 : cX11_beyond.data.toList.drop 130 = sxX11_beyond_130 := dSn 1 shX11_beyond_129
theorem shX11_beyond_131 : cX11_beyond.data.toList.drop 131 = sxX11_beyond_131 := dSn 1 shX11_beyond_130
theorem shX11_beyond_133 : cX11_beyond.data.toList.drop 133 = sxX11_beyond_133 := dSn 2 shX11_beyond_131
theorem shX11_beyond_136 : cX11_beyond.data.toList.drop 136 = sxX11_beyond_136 := dSn 3 shX11_beyond_133
theorem shX11_beyond_139 : cX11_beyond.data.toList.drop 139 = sxX11_beyond_139 := dSn 3 shX11_beyond_136
theorem shX11_beyond_140 : cX11_beyond.data.toList.drop 140 = sxX11_beyond_140 := dSn 1 shX11_beyond_139
theorem shX11_beyond_142 : cX11_beyond.data.toList.drop 142 = sxX11_beyond_142 := dSn 2 shX11_beyond_140
theorem shX11_beyond_144 : cX11_beyond.data.toList.drop 144 = sxX11_beyond_144 := dSn 2 shX11_beyond_142
theorem shX11_beyond_145 : cX11_beyond.data.toList.drop 145 = sxX11_beyond_145 := dSn 1 shX11_beyond_144
theorem shX11_beyond_148 : cX11_beyond.data.toList.drop 148 = sxX11_beyond_148 := dSn 3 shX11_beyond_145
theorem shX11_beyond_151 : cX11_beyond.data.toList.drop 151 = sxX11_beyond_151 := dSn 3 shX11_beyond_148
theorem shX11_beyond_152 : cX11_beyond.data.toList.drop 152 = sxX11_beyond_152 := dSn 1 shX11_beyond_151
theorem shX11_beyond_155 : cX11_beyond.data.toList.drop 155 = sxX11_beyond_155 := dSn 3 shX11_beyond_152
theorem dX11_beyond_0 : decode cX11_beyond 0 = .ok (.iload_n 1, 1) := oc_27 shX11_beyond_0
theorem dX11_beyond_1 : decode cX11_beyond 1 = .ok (.iconst 0, 1) := oc_3 shX11_beyond_1
theorem dX11_beyond_2 : decode cX11_beyond 2 = .ok (.bipush 6, 2) := oc_16 shX11_beyond_2 sgb_6
theorem dX11_beyond_4 : decode cX11_beyond 4 = .ok (.invokestatic 80, 3) := oc_184 shX11_beyond_4
theorem dX11_beyond_7 : decode cX11_beyond 7 = .ok (.ifCond .eq 12, 3) := oc_153 shX11_beyond_7 sgw_0_12
theorem dX11_beyond_10 : decode cX11_beyond 10 = .ok (.iload_n 2, 1) := oc_28 shX11_beyond_10
theorem dX11_beyond_11 : decode cX11_beyond 11 = .ok (.iconst 0, 1) := oc_3 shX11_beyond_11
theorem dX11_beyond_12 : decode cX11_beyond 12 = .ok (.iconst 2, 1) := oc_5 shX11_beyond_12
theorem dX11_beyond_13 : decode cX11_beyond 13 = .ok (.invokestatic 80, 3) := oc_184 shX11_beyond_13
theorem dX11_beyond_16 : decode cX11_beyond 16 = .ok (.ifCond .ne 7, 3) := oc_154 shX11_beyond_16 sgw_0_7
theorem dX11_beyond_23 : decode cX11_beyond 23 = .ok (.iconst 0, 1) := oc_3 shX11_beyond_23
theorem dX11_beyond_24 : decode cX11_beyond 24 = .ok (.istore_n 3, 1) := oc_62 shX11_beyond_24
theorem dX11_beyond_25 : decode cX11_beyond 25 = .ok (.iconst 0, 1) := oc_3 shX11_beyond_25
theorem dX11_beyond_26 : decode cX11_beyond 26 = .ok (.istore 4, 2) := oc_54 shX11_beyond_26
theorem dX11_beyond_28 : decode cX11_beyond 28 = .ok (.iconst 0, 1) := oc_3 shX11_beyond_28
theorem dX11_beyond_29 : decode cX11_beyond 29 = .ok (.istore 5, 2) := oc_54 shX11_beyond_29
theorem dX11_beyond_31 : decode cX11_beyond 31 = .ok (.iconst 0, 1) := oc_3 shX11_beyond_31
theorem dX11_beyond_32 : decode cX11_beyond 32 = .ok (.istore 6, 2) := oc_54 shX11_beyond_32
theorem dX11_beyond_34 : decode cX11_beyond 34 = .ok (.iload 6, 2) := oc_21 shX11_beyond_34
theorem dX11_beyond_36 : decode cX11_beyond 36 = .ok (.aload_n 0, 1) := oc_42 shX11_beyond_36
theorem dX11_beyond_37 : decode cX11_beyond 37 = .ok (.getfield 65, 3) := oc_180 shX11_beyond_37
theorem dX11_beyond_40 : decode cX11_beyond 40 = .ok (.invokevirtual 84, 3) := oc_182 shX11_beyond_40
theorem dX11_beyond_43 : decode cX11_beyond 43 = .ok (.if_icmp .ge 96, 3) := oc_162 shX11_beyond_43 sgw_0_96
theorem dX11_beyond_139 : decode cX11_beyond 139 = .ok (.iload_n 3, 1) := oc_29 shX11_beyond_139
theorem dX11_beyond_140 : decode cX11_beyond 140 = .ok (.iload 4, 2) := oc_21 shX11_beyond_140
theorem dX11_beyond_142 : decode cX11_beyond 142 = .ok (.iload 5, 2) := oc_21 shX11_beyond_142
theorem dX11_beyond_144 : decode cX11_beyond 144 = .ok (.aload_n 0, 1) := oc_42 shX11_beyond_144
theorem dX11_beyond_145 : decode cX11_beyond 145 = .ok (.getfield 65, 3) := oc_180 shX11_beyond_145
theorem dX11_beyond_148 : decode cX11_beyond 148 = .ok (.invokevirtual 84, 3) := oc_182 shX11_beyond_148
theorem dX11_beyond_151 : decode cX11_beyond 151 = .ok (.iload_n 2, 1) := oc_28 shX11_beyond_151
theorem dX11_beyond_152 : decode cX11_beyond 152 = .ok (.invokestatic 256, 3) := oc_184 shX11_beyond_152
theorem dX11_beyond_155 : decode cX11_beyond 155 = .ok (.lreturn, 1) := oc_173 shX11_beyond_155
theorem dX11_beyond_46 : decode cX11_beyond 46 = .ok (.aload_n 0, 1) := oc_42 shX11_beyond_46
theorem dX11_beyond_47 : decode cX11_beyond 47 = .ok (.getfield 65, 3) := oc_180 shX11_beyond_47
theorem dX11_beyond_50 : decode cX11_beyond 50 = .ok (.iload 6, 2) := oc_21 shX11_beyond_50
theorem dX11_beyond_52 : decode cX11_beyond 52 = .ok (.invokevirtual 87, 3) := oc_182 shX11_beyond_52
theorem dX11_beyond_55 : decode cX11_beyond 55 = .ok (.checkcast 93, 3) := oc_192 shX11_beyond_55
theorem dX11_beyond_58 : decode cX11_beyond 58 = .ok (.astore 7, 2) := oc_58 shX11_beyond_58
theorem dX11_beyond_60 : decode cX11_beyond 60 = .ok (.aload 7, 2) := oc_25 shX11_beyond_60
theorem dX11_beyond_62 : decode cX11_beyond 62 = .ok (.getfield 196, 3) := oc_180 shX11_beyond_62
theorem dX11_beyond_65 : decode cX11_beyond 65 = .ok (.bipush 7, 2) := oc_16 shX11_beyond_65 sgb_7
theorem dX11_beyond_67 : decode cX11_beyond 67 = .ok (.irem, 1) := oc_112 shX11_beyond_67
theorem dX11_beyond_68 : decode cX11_beyond 68 = .ok (.iload_n 1, 1) := oc_27 shX11_beyond_68
theorem dX11_beyond_69 : decode cX11_beyond 69 = .ok (.if_icmp .ne 7, 3) := oc_160 shX11_beyond_69 sgw_0_7
theorem dX11_beyond_76 : decode cX11_beyond 76 = .ok (.iconst 0, 1) := oc_3 shX11_beyond_76
theorem dX11_beyond_77 : decode cX11_beyond 77 = .ok (.istore 8, 2) := oc_54 shX11_beyond_77
theorem dX11_beyond_79 : decode cX11_beyond 79 = .ok (.iload_n 3, 1) := oc_29 shX11_beyond_79
theorem dX11_beyond_80 : decode cX11_beyond 80 = .ok (.aload 7, 2) := oc_25 shX11_beyond_80
theorem dX11_beyond_82 : decode cX11_beyond 82 = .ok (.getfield 141, 3) := oc_180 shX11_beyond_82
theorem dX11_beyond_85 : decode cX11_beyond 85 = .ok (.ifCond .le 7, 3) := oc_158 shX11_beyond_85 sgw_0_7
theorem dX11_beyond_92 : decode cX11_beyond 92 = .ok (.iconst 0, 1) := oc_3 shX11_beyond_92
theorem dX11_beyond_93 : decode cX11_beyond 93 = .ok (.iadd, 1) := oc_96 shX11_beyond_93
theorem dX11_beyond_94 : decode cX11_beyond 94 = .ok (.istore_n 3, 1) := oc_62 shX11_beyond_94
theorem dX11_beyond_95 : decode cX11_beyond 95 = .ok (.iload 4, 2) := oc_21 shX11_beyond_95
theorem dX11_beyond_97 : decode cX11_beyond 97 = .ok (.iload 8, 2) := oc_21 shX11_beyond_97
theorem dX11_beyond_99 : decode cX11_beyond 99 = .ok (.ifCond .eq 7, 3) := oc_153 shX11_beyond_99 sgw_0_7
theorem dX11_beyond_106 : decode cX11_beyond 106 = .ok (.iconst 0, 1) := oc_3 shX11_beyond_106
theorem dX11_beyond_107 : decode cX11_beyond 107 = .ok (.iadd, 1) := oc_96 shX11_beyond_107
theorem dX11_beyond_108 : decode cX11_beyond 108 = .ok (.istore 4, 2) := oc_54 shX11_beyond_108
theorem dX11_beyond_110 : decode cX11_beyond 110 = .ok (.iload 5, 2) := oc_21 shX11_beyond_110
theorem dX11_beyond_112 : decode cX11_beyond 112 = .ok (.iload 8, 2) := oc_21 shX11_beyond_112
theorem dX11_beyond_114 : decode cX11_beyond 114 = .ok (.ifCond .eq 15, 3) := oc_153 shX11_beyond_114 sgw_0_15
theorem dX11_beyond_129 : decode cX11_beyond 129 = .ok (.iconst 0, 1) := oc_3 shX11_beyond_129
theorem dX11_beyond_130 : decode cX11_beyond 130 = .ok (.iadd, 1) := oc_96 shX11_beyond_130
theorem dX11_beyond_131 : decode cX11_beyond 131 = .ok (.istore 5, 2) := oc_54 shX11_beyond_131
theorem dX11_beyond_133 : decode cX11_beyond 133 = .ok (.iinc 6 1, 3) := oc_132 shX11_beyond_133 sgb_1
theorem dX11_beyond_136 : decode cX11_beyond 136 = .ok (.goto (-102), 3) := oc_167 shX11_beyond_136 sgw_255_154
theorem dX11_beyond_88 : decode cX11_beyond 88 = .ok (.iconst 1, 1) := oc_4 shX11_beyond_88
theorem dX11_beyond_89 : decode cX11_beyond 89 = .ok (.goto 4, 3) := oc_167 shX11_beyond_89 sgw_0_4
theorem dX11_beyond_72 : decode cX11_beyond 72 = .ok (.iconst 1, 1) := oc_4 shX11_beyond_72
theorem dX11_beyond_73 : decode cX11_beyond 73 = .ok (.goto 4, 3) := oc_167 shX11_beyond_73 sgw_0_4
theorem dX11_beyond_102 : decode cX11_beyond 102 = .ok (.iconst 1, 1) := oc_4 shX11_beyond_102
theorem dX11_beyond_103 : decode cX11_beyond 103 = .ok (.goto 4, 3) := oc_167 shX11_beyond_103 sgw_0_4
theorem dX11_beyond_117 : decode cX11_beyond 117 = .ok (.aload 7, 2) := oc_25 shX11_beyond_117
theorem dX11_beyond_119 : decode cX11_beyond 119 = .ok (.getfield 141, 3) := oc_180 shX11_beyond_119
theorem dX11_beyond_122 : decode cX11_beyond 122 = .ok (.ifCond .le 7, 3) := oc_158 shX11_beyond_122 sgw_0_7
theorem dX11_beyond_125 : decode cX11_beyond 125 = .ok (.iconst 1, 1) := oc_4 shX11_beyond_125
theorem dX11_beyond_126 : decode cX11_beyond 126 = .ok (.goto 4, 3) := oc_167 shX11_beyond_126 sgw_0_4
theorem dX11_beyond_19 : decode cX11_beyond 19 = .ok (.ldc2_w 254, 3) := oc_20 shX11_beyond_19
