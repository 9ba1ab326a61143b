theorem shX11_cheat_0 : cX11_cheat.data.toList.drop 0 = sxX11_cheat_0 := rfl
theorem shX11_cheat_1 : cX11_cheat.data.toList.drop 1 = sxX11_cheat_1 := dSn 1 shX11_cheat_0
theorem shX11_cheat_2 : cX11_cheat.data.toList.drop 2 = sxX11_cheat_2 := dSn 1 shX11_cheat_1
theorem shX11_cheat_5 : cX11_cheat.data.toList.drop 5 = sxX11_cheat_5 := dSn 3 shX11_cheat_2
theorem shX11_cheat_8 : cX11_cheat.data.toList.drop 8 = sxX11_cheat_8 := dSn 3 shX11_cheat_5
theorem shX11_cheat_9 : cX11_cheat.data.toList.drop 9 = sxX11_cheat_9 := dSn 1 shX11_cheat_8
theorem shX11_cheat_10 : cX11_cheat.data.toList.drop 10 = sxX11_cheat_10 := dSn 1 shX11_cheat_9
theorem shX11_cheat_13 : cX11_cheat.data.toList.drop 13 = sxX11_cheat_13 := dSn 3 shX11_cheat_10
theorem shX11_cheat_16 : cX11_cheat.data.toList.drop 16 = sxX11_cheat_16 := dSn 3 shX11_cheat_13
theorem shX11_cheat_19 : cX11_cheat.data.toList.drop 19 = sxX11_cheat_19 := dSn 3 shX11_cheat_16
theorem shX11_cheat_20 : cX11_cheat.data.toList.drop 20 = sxX11_cheat_20 := dSn 1 shX11_cheat_19
theorem shX11_cheat_21 : cX11_cheat.data.toList.drop 21 = sxX11_cheat_21 := dSn 1 shX11_cheat_20
theorem shX11_cheat_22 : cX11_cheat.data.toList.drop 22 = sxX11_cheat_22 := dSn 1 shX11_cheat_21
theorem shX11_cheat_25 : cX11_cheat.data.toList.drop 25 = sxX11_cheat_25 := dSn 3 shX11_cheat_22
theorem shX11_cheat_28 : cX11_cheat.data.toList.drop 28 = sxX11_cheat_28 := dSn 3 shX11_cheat_25
theorem shX11_cheat_31 : cX11_cheat.data.toList.drop 31 = sxX11_cheat_31 := dSn 3 shX11_cheat_28
theorem shX11_cheat_32 : cX11_cheat.data.toList.drop 32 = sxX11_cheat_32 := dSn 1 shX11_cheat_31
theorem shX11_cheat_33 : cX11_cheat.data.toList.drop 33 = sxX11_cheat_33 := dSn 1 shX11_cheat_32
theorem shX11_cheat_35 : cX11_cheat.data.toList.drop 35 = sxX11_cheat_35 := dSn 2 shX11_cheat_33
theorem shX11_cheat_36 : cX11_cheat.data.toList.drop 36 = sxX11_cheat_36 := dSn 1 shX11_cheat_35
theorem shX11_cheat_38 : cX11_cheat.data.toList.drop 38 = sxX11_cheat_38 := dSn 2 shX11_cheat_36
theorem shX11_cheat_39 : cX11_cheat.data.toList.drop 39 = sxX11_cheat_39 := dSn 1 shX11_cheat_38
theorem shX11_cheat_41 : cX11_cheat.data.toList.drop 41 = sxX11_cheat_41 := dSn 2 shX11_cheat_39
theorem shX11_cheat_42 : cX11_cheat.data.toList.drop 42 = sxX11_cheat_42 := dSn 1 shX11_cheat_41
theorem shX11_cheat_44 : cX11_cheat.data.toList.drop 44 = sxX11_cheat_44 := dSn 2 shX11_cheat_42
theorem shX11_cheat_46 : cX11_cheat.data.toList.drop 46 = sxX11_cheat_46 := dSn 2 shX11_cheat_44
theorem shX11_cheat_47 : cX11_cheat.data.toList.drop 47 = sxX11_cheat_47 := dSn 1 shX11_cheat_46
theorem shX11_cheat_50 : cX11_cheat.data.toList.drop 50 = sxX11_cheat_50 := dSn 3 shX11_cheat_47
theorem shX11_cheat_53 : cX11_cheat.data.toList.drop 53 = sxX11_cheat_53 := dSn 3 shX11_cheat_50
theorem shX11_cheat_56 : cX11_cheat.data.toList.drop 56 = sxX11_cheat_56 := dSn 3 shX11_cheat_53
theorem shX11_cheat_57 : cX11_cheat.data.toList.drop 57 = sxX11_cheat_57 := dSn 1 shX11_cheat_56
theorem shX11_cheat_60 : cX11_cheat.data.toList.drop 60 = sxX11_cheat_60 := dSn 3 shX11_cheat_57
theorem shX11_cheat_62 : cX11_cheat.data.toList.drop 62 = sxX11_cheat_62 := dSn 2 shX11_cheat_60
theorem shX11_cheat_65 : cX11_cheat.data.toList.drop 65 = sxX11_cheat_65 := dSn 3 shX11_cheat_62
theorem shX11_cheat_68 : cX11_cheat.data.toList.drop 68 = sxX11_cheat_68 := dSn 3 shX11_cheat_65
theorem shX11_cheat_70 : cX11_cheat.data.toList.drop 70 = sxX11_cheat_70 := dSn 2 shX11_cheat_68
theorem shX11_cheat_72 : cX11_cheat.data.toList.drop 72 = sxX11_cheat_72 := dSn 2 shX11_cheat_70
theorem shX11_cheat_75 : cX11_cheat.data.toList.drop 75 = sxX11_cheat_75 := dSn 3 shX11_cheat_72
theorem shX11_cheat_76 : cX11_cheat.data.toList.drop 76 = sxX11_cheat_76 := dSn 1 shX11_cheat_75
theorem shX11_cheat_79 : cX11_cheat.data.toList.drop 79 = sxX11_cheat_79 := dSn 3 shX11_cheat_76
theorem shX11_cheat_80 : cX11_cheat.data.toList.drop 80 = sxX11_cheat_80 := dSn 1 shX11_cheat_79
theorem shX11_cheat_83 : cX11_cheat.data.toList.drop 83 = sxX11_cheat_83 := dSn 3 shX11_cheat_80
theorem shX11_cheat_84 : cX11_cheat.data.toList.drop 84 = sxX11_cheat_84 := dSn 1 shX11_cheat_83
theorem shX11_cheat_86 : cX11_cheat.data.toList.drop 86 = sxX11_cheat_86 := dSn 2 shX11_cheat_84
theorem shX11_cheat_88 : cX11_cheat.data.toList.drop 88 = sxX11_cheat_88 := dSn 2 shX11_cheat_86
theorem shX11_cheat_90 : cX11_cheat.data.toList.drop 90 = sxX11_cheat_90 := dSn 2 shX11_cheat_88
theorem shX11_cheat_93 : cX11_cheat.data.toList.drop 93 = sxX11_cheat_93 := dSn 3 shX11_cheat_90
theorem shX11_cheat_94 : cX11_cheat.data.toList.drop 94 = sxX11_cheat_94 := dSn 1 shX11_cheat_93
theorem shX11_cheat_97 : cX11_cheat.data.toList.drop 97 = sxX11_cheat_97 := dSn 3 shX11_cheat_94
theorem shX11_cheat_98 : cX11_cheat.data.toList.drop 98 = sxX11_cheat_98 := dSn 1 shX11_cheat_97
theorem shX11_cheat_99 : cX11_cheat.data.toList.drop 99 = sxX11_cheat_99 := dSn 1 shX11_cheat_98
theorem shX11_cheat_101 : cX11_cheat.data.toList.drop 101 = sxX11_cheat_101 := dSn 2 shX11_cheat_99
theorem shX11_cheat_103 : cX11_cheat.data.toList.drop 103 = sxX11_cheat_103 := dSn 2 shX11_cheat_101
theorem shX11_cheat_105 : cX11_cheat.data.toList.drop 105 = sxX11_cheat_105 := dSn 2 shX11_cheat_103
theorem shX11_cheat_108 : cX11_cheat.data.toList.drop 108 = sxX11_cheat_108 := dSn 3 shX11_cheat_105
theorem shX11_cheat_109 : cX11_cheat.data.toList.drop 109 = sxX11_cheat_109 := dSn 1 shX11_cheat_108
theorem shX11_cheat_112 : cX11_cheat.data.toList.drop 112 = sxX11_cheat_112 := dSn 3 shX11_cheat_109
theorem shX11_cheat_113 : cX11_cheat.data.toList.drop 113 = sxX11_cheat_113 := dSn 1 shX11_cheat_112
theorem shX11_cheat_116 : cX11_cheat.data.toList.drop 116 = sxX11_cheat_116 := dSn 3 shX11_cheat_113
theorem shX11_cheat_117 : cX11_cheat.data.toList.drop 117 = sxX11_cheat_117 := dSn 1 shX11_cheat_116
theorem shX11_cheat_118 : cX11_cheat.data.toList.drop 118 = sxX11_cheat_118 := dSn 1 shX11_cheat_117
theorem shX11_cheat_120 : cX11_cheat.data.toList.drop 120 = sxX11_cheat_120 := dSn 2 shX11_cheat_118
theorem shX11_cheat_122 : cX11_cheat.data.toList.drop 122 = sxX11_cheat_122 := dSn 2 shX11_cheat_120
theorem shX11_cheat_124 : cX11_cheat.data.toList.drop 124 = sxX11_cheat_124 := dSn 2 shX11_cheat_122
theorem shX11_cheat_127 : cX11_cheat.data.toList.drop 127 = sxX11_cheat_127 := dSn 3 shX11_cheat_124
theorem shX11_cheat_128 : cX11_cheat.data.toList.drop 128 = sxX11_cheat_128 := dSn 1 shX11_cheat_127
theorem shX11_cheat_131 : cX11_cheat.data.toList.drop 131 = sxX11_cheat_131 := dSn 3 shX11_cheat_128
theorem shX11_cheat_133 : cX11_cheat.data.toList.drop 133 = sxX11_cheat_133 := dSn 2 shX11_cheat_131
theorem shX11_cheat_136 : cX11_cheat.data.toList.drop 136 = sxX11_cheat_136 := dSn 3 shX11_cheat_133
theorem shX11_cheat_137 : cX11_cheat.data.toList.drop 137 = sxX11_cheat_137 := dSn 1 shX11_cheat_136
theorem shX11_cheat_140 : cX11_cheat.data.toList.drop 140 = sxX11_cheat_140 := dSn 3 shX11_cheat_137
theorem shX11_cheat_141 : cX11_cheat.data.toList.drop 141 = sxX11_cheat_141 := dSn 1 shX11_cheat_140
theorem shX11_cheat_142 : cX11_cheat.data.toList.drop 142 = sxX11_cheat_142 := dSn 1 shX11_cheat_141
theorem shX11_cheat_144 : cX11_cheat.data.toList.drop 144 = sxX11_cheat_144 := dSn 2 shX11_cheat_142
theorem shX11_cheat_147 : cX11_cheat.data.toList.drop 147 = sxX11_cheat_147 := dSn 3 shX11_cheat_144
theorem shX11_cheat_150 : cX11_cheat.data.toList.drop 150 = sxX11_cheat_150 := dSn 3 shX11_cheat_147
theorem shX11_cheat_152 : cX11_cheat.data.toList.drop 152 = sxX11_cheat_152 := dSn 2 shX11_cheat_150
theorem shX11_cheat_154 : cX11_cheat.data.toList.drop 154 = sxX11_cheat_154 := dSn 2 shX11_cheat_152
theorem shX11_cheat_156 : cX11_cheat.data.toList.drop 156 = sxX11_cheat_156 := dSn 2 shX11_cheat_154
theorem shX11_cheat_157 : cX11_cheat.data.toList.drop 157 = sxX11_cheat_157 := dSn 1 shX11_cheat_156
theorem shX11_cheat_160 : cX11_cheat.data.toList.drop 160 = sxX11_cheat_160 := dSn 3 shX11_cheat_157
theorem shX11_cheat_163 : cX11_cheat.data.toList.drop 163 = sxX11_cheat_163 := dSn 3 shX11_cheat_160
theorem shX11_cheat_164 : cX11_cheat.data.toList.drop 164 = sxX11_cheat_164 := dSn 1 shX11_cheat_163
theorem shX11_cheat_167 : cX11_cheat.data.toList.drop 167 = sxX11_cheat_167 := dSn 3 shX11_cheat_164
theorem dX11_cheat_0 : decode cX11_cheat 0 = .ok (.aload_n 0, 1) := oc_42 shX11_cheat_0
theorem dX11_cheat_1 : decode cX11_cheat 1 = .ok (.iload_n 1, 1) := oc_27 shX11_cheat_1
theorem dX11_cheat_2 : decode cX11_cheat 2 = .ok (.invokevirtual 114, 3) := oc_182 shX11_cheat_2
theorem dX11_cheat_5 : decode cX11_cheat 5 = .ok (.ifnull 23, 3) := oc_198 shX11_cheat_5 sgw_0_23
theorem dX11_cheat_8 : decode cX11_cheat 8 = .ok (.iload_n 2, 1) := oc_28 shX11_cheat_8
theorem dX11_cheat_9 : decode cX11_cheat 9 = .ok (.iconst 0, 1) := oc_3 shX11_cheat_9
theorem dX11_cheat_10 : decode cX11_cheat 10 = .ok (.sipush 1000, 3) := oc_17 shX11_cheat_10 sgw_3_232
theorem dX11_cheat_13 : decode cX11_cheat 13 = .ok (.invokestatic 80, 3) := oc_184 shX11_cheat_13
theorem dX11_cheat_16 : decode cX11_cheat 16 = .ok (.ifCond .eq 12, 3) := oc_153 shX11_cheat_16 sgw_0_12
theorem dX11_cheat_19 : decode cX11_cheat 19 = .ok (.iload_n 3, 1) := oc_29 shX11_cheat_19
theorem dX11_cheat_20 : decode cX11_cheat 20 = .ok (.iconst 0, 1) := oc_3 shX11_cheat_20
theorem dX11_cheat_21 : decode cX11_cheat 21 = .ok (.iconst 2, 1) := oc_5 shX11_cheat_21
theorem dX11_cheat_22 : decode cX11_cheat 22 = .ok (.invokestatic 80, 3) := oc_184 shX11_cheat_22
theorem dX11_cheat_25 : decode cX11_cheat 25 = .ok (.ifCond .ne 7, 3) := oc_154 shX11_cheat_25 sgw_0_7
theorem dX11_cheat_32 : decode cX11_cheat 32 = .ok (.iconst 0, 1) := oc_3 shX11_cheat_32
theorem dX11_cheat_33 : decode cX11_cheat 33 = .ok (.istore 4, 2) := oc_54 shX11_cheat_33
theorem dX11_cheat_35 : decode cX11_cheat 35 = .ok (.iconst 0, 1) := oc_3 shX11_cheat_35
theorem dX11_cheat_36 : decode cX11_cheat 36 = .ok (.istore 5, 2) := oc_54 shX11_cheat_36
theorem dX11_cheat_38 : decode cX11_cheat 38 = .ok (.iconst 0, 1) := oc_3 shX11_cheat_38
theorem dX11_cheat_39 : decode cX11_cheat 39 = .ok (.istore 6, 2) := oc_54 shX11_cheat_39
theorem dX11_cheat_41 : decode cX11_cheat 41 = .ok (.iconst 0, 1) := oc_3 shX11_cheat_41
theorem dX11_cheat_42 : decode cX11_cheat 42 = .ok (.istore 7, 2) := oc_54 shX11_cheat_42
theorem dX11_cheat_44 : decode cX11_cheat 44 = .ok (.iload 7, 2) := oc_21 shX11_cheat_44
theorem dX11_cheat_46 : decode cX11_cheat 46 = .ok (.aload_n 0, 1) := oc_42 shX11_cheat_46
theorem dX11_cheat_47 : decode cX11_cheat 47 = .ok (.getfield 65, 3) := oc_180 shX11_cheat_47
theorem dX11_cheat_50 : decode cX11_cheat 50 = .ok (.invokevirtual 84, 3) := oc_182 shX11_cheat_50
theorem dX11_cheat_53 : decode cX11_cheat 53 = .ok (.if_icmp .ge 97, 3) := oc_162 shX11_cheat_53 sgw_0_97
theorem dX11_cheat_150 : decode cX11_cheat 150 = .ok (.iload 4, 2) := oc_21 shX11_cheat_150
theorem dX11_cheat_152 : decode cX11_cheat 152 = .ok (.iload 5, 2) := oc_21 shX11_cheat_152
theorem dX11_cheat_154 : decode cX11_cheat 154 = .ok (.iload 6, 2) := oc_21 shX11_cheat_154
theorem dX11_cheat_156 : decode cX11_cheat 156 = .ok (.aload_n 0, 1) := oc_42 shX11_cheat_156
theorem dX11_cheat_157 : decode cX11_cheat 157 = .ok (.getfield 65, 3) := oc_180 shX11_cheat_157
theorem dX11_cheat_160 : decode cX11_cheat 160 = .ok (.invokevirtual 84, 3) := oc_182 shX11_cheat_160
theorem dX11_cheat_163 : decode cX11_cheat 163 = .ok (.iload_n 3, 1) := oc_29 shX11_cheat_163
theorem dX11_cheat_164 : decode cX11_cheat 164 = .ok (.invokestatic 256, 3) := oc_184 shX11_cheat_164
theorem dX11_cheat_167 : decode cX11_cheat 167 = .ok (.lreturn, 1) := oc_173 shX11_cheat_167
theorem dX11_cheat_56 : decode cX11_cheat 56 = .ok (.aload_n 0, 1) := oc_42 shX11_cheat_56
theorem dX11_cheat_57 : decode cX11_cheat 57 = .ok (.getfield 65, 3) := oc_180 shX11_cheat_57
theorem dX11_cheat_60 : decode cX11_cheat 60 = .ok (.iload 7, 2) := oc_21 shX11_cheat_60
theorem dX11_cheat_62 : decode cX11_cheat 62 = .ok (.invokevirtual 87, 3) := oc_182 shX11_cheat_62
theorem dX11_cheat_65 : decode cX11_cheat 65 = .ok (.checkcast 93, 3) := oc_192 shX11_cheat_65
theorem dX11_cheat_68 : decode cX11_cheat 68 = .ok (.astore 8, 2) := oc_58 shX11_cheat_68
theorem dX11_cheat_70 : decode cX11_cheat 70 = .ok (.aload 8, 2) := oc_25 shX11_cheat_70
theorem dX11_cheat_72 : decode cX11_cheat 72 = .ok (.getfield 205, 3) := oc_180 shX11_cheat_72
theorem dX11_cheat_75 : decode cX11_cheat 75 = .ok (.iload_n 2, 1) := oc_28 shX11_cheat_75
theorem dX11_cheat_76 : decode cX11_cheat 76 = .ok (.if_icmp .lt 7, 3) := oc_161 shX11_cheat_76 sgw_0_7
theorem dX11_cheat_83 : decode cX11_cheat 83 = .ok (.iconst 0, 1) := oc_3 shX11_cheat_83
theorem dX11_cheat_84 : decode cX11_cheat 84 = .ok (.istore 9, 2) := oc_54 shX11_cheat_84
theorem dX11_cheat_86 : decode cX11_cheat 86 = .ok (.iload 4, 2) := oc_21 shX11_cheat_86
theorem dX11_cheat_88 : decode cX11_cheat 88 = .ok (.iload 9, 2) := oc_21 shX11_cheat_88
theorem dX11_cheat_90 : decode cX11_cheat 90 = .ok (.ifCond .eq 7, 3) := oc_153 shX11_cheat_90 sgw_0_7
theorem dX11_cheat_97 : decode cX11_cheat 97 = .ok (.iconst 0, 1) := oc_3 shX11_cheat_97
theorem dX11_cheat_98 : decode cX11_cheat 98 = .ok (.iadd, 1) := oc_96 shX11_cheat_98
theorem dX11_cheat_99 : decode cX11_cheat 99 = .ok (.istore 4, 2) := oc_54 shX11_cheat_99
theorem dX11_cheat_101 : decode cX11_cheat 101 = .ok (.iload 5, 2) := oc_21 shX11_cheat_101
theorem dX11_cheat_103 : decode cX11_cheat 103 = .ok (.aload 8, 2) := oc_25 shX11_cheat_103
theorem dX11_cheat_105 : decode cX11_cheat 105 = .ok (.getfield 211, 3) := oc_180 shX11_cheat_105
theorem dX11_cheat_108 : decode cX11_cheat 108 = .ok (.iload_n 1, 1) := oc_27 shX11_cheat_108
theorem dX11_cheat_109 : decode cX11_cheat 109 = .ok (.if_icmp .ne 7, 3) := oc_160 shX11_cheat_109 sgw_0_7
theorem dX11_cheat_116 : decode cX11_cheat 116 = .ok (.iconst 0, 1) := oc_3 shX11_cheat_116
theorem dX11_cheat_117 : decode cX11_cheat 117 = .ok (.iadd, 1) := oc_96 shX11_cheat_117
theorem dX11_cheat_118 : decode cX11_cheat 118 = .ok (.istore 5, 2) := oc_54 shX11_cheat_118
theorem dX11_cheat_120 : decode cX11_cheat 120 = .ok (.iload 6, 2) := oc_21 shX11_cheat_120
theorem dX11_cheat_122 : decode cX11_cheat 122 = .ok (.aload 8, 2) := oc_25 shX11_cheat_122
theorem dX11_cheat_124 : decode cX11_cheat 124 = .ok (.getfield 211, 3) := oc_180 shX11_cheat_124
theorem dX11_cheat_127 : decode cX11_cheat 127 = .ok (.iload_n 1, 1) := oc_27 shX11_cheat_127
theorem dX11_cheat_128 : decode cX11_cheat 128 = .ok (.if_icmp .ne 12, 3) := oc_160 shX11_cheat_128 sgw_0_12
theorem dX11_cheat_140 : decode cX11_cheat 140 = .ok (.iconst 0, 1) := oc_3 shX11_cheat_140
theorem dX11_cheat_141 : decode cX11_cheat 141 = .ok (.iadd, 1) := oc_96 shX11_cheat_141
theorem dX11_cheat_142 : decode cX11_cheat 142 = .ok (.istore 6, 2) := oc_54 shX11_cheat_142
theorem dX11_cheat_144 : decode cX11_cheat 144 = .ok (.iinc 7 1, 3) := oc_132 shX11_cheat_144 sgb_1
theorem dX11_cheat_147 : decode cX11_cheat 147 = .ok (.goto (-103), 3) := oc_167 shX11_cheat_147 sgw_255_153
theorem dX11_cheat_131 : decode cX11_cheat 131 = .ok (.iload 9, 2) := oc_21 shX11_cheat_131
theorem dX11_cheat_133 : decode cX11_cheat 133 = .ok (.ifCond .eq 7, 3) := oc_153 shX11_cheat_133 sgw_0_7
theorem dX11_cheat_112 : decode cX11_cheat 112 = .ok (.iconst 1, 1) := oc_4 shX11_cheat_112
theorem dX11_cheat_113 : decode cX11_cheat 113 = .ok (.goto 4, 3) := oc_167 shX11_cheat_113 sgw_0_4
theorem dX11_cheat_79 : decode cX11_cheat 79 = .ok (.iconst 1, 1) := oc_4 shX11_cheat_79
theorem dX11_cheat_80 : decode cX11_cheat 80 = .ok (.goto 4, 3) := oc_167 shX11_cheat_80 sgw_0_4
theorem dX11_cheat_93 : decode cX11_cheat 93 = .ok (.iconst 1, 1) := oc_4 shX11_cheat_93
theorem dX11_cheat_94 : decode cX11_cheat 94 = .ok (.goto 4, 3) := oc_167 shX11_cheat_94 sgw_0_4
theorem dX11_cheat_136 : decode cX11_cheat 136 = .ok (.iconst 1, 1) := oc_4 shX11_cheat_136
theorem dX11_cheat_137 : decode cX11_cheat 137 = .ok (.goto 4, 3) := oc_167 shX11_cheat_137 sgw_0_4
theorem dX11_cheat_28 : decode cX11_cheat 28 = .ok (.ldc2_w 254, 3) := oc_20 shX11_cheat_28
theorem dX11_cheat_31 : decode cX11_cheat 31 = .ok (.lreturn, 1) := oc_173 shX11_cheat_31
def sxX11_worthOf_64 : List UInt8 := []
def sxX11_worthOf_63 : List UInt8 := 172 :: sxX11_worthOf_64
def sxX11_worthOf_62 : List UInt8 := 29 :: sxX11_worthOf_63
def sxX11_worthOf_59 : List UInt8 := 167 :: 255 :: 202 :: sxX11_worthOf_62
def sxX11_worthOf_56 : List UInt8 := 132 :: 4 :: 1 :: sxX11_worthOf_59
def sxX11_worthOf_55 : List UInt8 := 62 :: sxX11_worthOf_56
def sxX11_worthOf_54 : List UInt8 := 96 :: sxX11_worthOf_55
def sxX11_worthOf_53 : List UInt8 := 3 :: sxX11_worthOf_54
def sxX11_worthOf_50 : List UInt8 := 167 :: 0 :: 4 :: sxX11_worthOf_53
def sxX11_worthOf_49 : List UInt8 := 104 :: sxX11_worthOf_50
def sxX11_worthOf_48 : List UInt8 := 100 :: sxX11_worthOf_49
def sxX11_worthOf_47 : List UInt8 := 27 :: sxX11_worthOf_48
def sxX11_worthOf_46 : List UInt8 := 28 :: sxX11_worthOf_47
def sxX11_worthOf_43 : List UInt8 := 180 :: 1 :: 203 :: sxX11_worthOf_46
def sxX11_worthOf_41 : List UInt8 := 25 :: 5 :: sxX11_worthOf_43
def sxX11_worthOf_38 : List UInt8 := 153 :: 0 :: 15 :: sxX11_worthOf_41
def sxX11_worthOf_35 : List UInt8 := 182 :: 1 :: 200 :: sxX11_worthOf_38
def sxX11_worthOf_34 : List UInt8 := 27 :: sxX11_worthOf_35
def sxX11_worthOf_32 : List UInt8 := 25 :: 5 :: sxX11_worthOf_34
def sxX11_worthOf_31 : List UInt8 := 29 :: sxX11_worthOf_32
def sxX11_worthOf_29 : List UInt8 := 58 :: 5 :: sxX11_worthOf_31
def sxX11_worthOf_26 : List UInt8 := 192 :: 0 :: 91 :: sxX11_worthOf_29
def sxX11_worthOf_23 : List UInt8 := 182 :: 0 :: 87 :: sxX11_worthOf_26
def sxX11_worthOf_21 : List UInt8 := 21 :: 4 :: sxX11_worthOf_23
def sxX11_worthOf_18 : List UInt8 := 180 :: 0 :: 61 :: sxX11_worthOf_21
def sxX11_worthOf_17 : List UInt8 := 42 :: sxX11_worthOf_18
def sxX11_worthOf_14 : List UInt8 := 162 :: 0 :: 48 :: sxX11_worthOf_17
def sxX11_worthOf_11 : List UInt8 := 182 :: 0 :: 84 :: sxX11_worthOf_14
def sxX11_worthOf_8 : List UInt8 := 180 :: 0 :: 61 :: sxX11_worthOf_11
def sxX11_worthOf_7 : List UInt8 := 42 :: sxX11_worthOf_8
def sxX11_worthOf_5 : List UInt8 := 21 :: 4 :: sxX11_worthOf_7
def sxX11_worthOf_3 : List UInt8 := 54 :: 4 :: sxX11_worthOf_5
def sxX11_worthOf_2 : List UInt8 := 3 :: sxX11_worthOf_3
def sxX11_worthOf_1 : List UInt8 := 62 :: sxX11_worthOf_2
def sxX11_worthOf_0 : List UInt8 := 3 :: sxX11_worthOf_1
theorem shX11_worthOf_0 : cX11_worthOf.data.toList.drop 0 = sxX11_worthOf_0 := rfl
theorem shX11_worthOf_1 : cX11_worthOf.data.toList.drop 1 = sxX11_worthOf_1 := dSn 1 shX11_worthOf_0
theorem shX11_worthOf_2 : cX11_worthOf.data.toList.drop 2 = sxX11_worthOf_2 := dSn 1 shX11_worthOf_1
theorem shX11_worthOf_3 : cX11_worthOf.data.toList.drop 3 = sxX11_worthOf_3 := dSn 1 shX11_worthOf_2
theorem shX11_worthOf_5 : cX11_worthOf.data.toList.drop 5 = sxX11_worthOf_5 := dSn 2 shX11_worthOf_3
theorem shX11_worthOf_7 : cX11_worthOf.data.toList.drop 7 = sxX11_worthOf_7 := dSn 2 shX11_worthOf_5
theorem shX11_worthOf_8 : cX11_worthOf.data.toList.drop 8 = sxX11_worthOf_8 := dSn 1 shX11_worthOf_7
theorem shX11_worthOf_11 : cX11_worthOf.data.toList.drop 11 = sxX11_worthOf_11 := dSn 3 shX11_worthOf_8
theorem shX11_worthOf_14 : cX11_worthOf.data.toList.drop 14 = sxX11_worthOf_14 := dSn 3 shX11_worthOf_11
theorem shX11_worthOf_17 : cX11_worthOf.data.toList.drop 17 = sxX11_worthOf_17 := dSn 3 shX11_worthOf_14
theorem shX11_worthOf_18 : cX11_worthOf.data.toList.drop 18 = sxX11_worthOf_18 := dSn 1 shX11_worthOf_17
theorem shX11_worthOf_21 : cX11_worthOf.data.toList.drop 21 = sxX11_worthOf_21 := dSn 3 shX11_worthOf_18
theorem shX11_worthOf_23 : cX11_worthOf.data.toList.drop 23 = sxX11_worthOf_23 := dSn 2 shX11_worthOf_21
theorem shX11_worthOf_26 : cX11_worthOf.data.toList.drop 26 = sxX11_worthOf_26 := dSn 3 shX11_worthOf_23
theorem shX11_worthOf_29 : cX11_worthOf.data.toList.drop 29 = sxX11_worthOf_29 := dSn 3 shX11_worthOf_26
theorem shX11_worthOf_31 : cX11_worthOf.data.toList.drop 31 = sxX11_worthOf_31 := dSn 2 shX11_worthOf_29
theorem shX11_worthOf_32 : cX11_worthOf.data.toList.drop 32 = sxX11_worthOf_32 := dSn 1 shX11_worthOf_31
theorem shX11_worthOf_34 : cX11_worthOf.data.toList.drop 34 = sxX11_worthOf_34 := dSn 2 shX11_worthOf_32
theorem shX11_worthOf_35 : cX11_worthOf.data.toList.drop 35 = sxX11_worthOf_35 := dSn 1 shX11_worthOf_34
theorem shX11_worthOf_38 : cX11_worthOf.data.toList.drop 38 = sxX11_worthOf_38 := dSn 3 shX11_worthOf_35
theorem shX11_worthOf_41 : cX11_worthOf.data.toList.drop 41 = sxX11_worthOf_41 := dSn 3 shX11_worthOf_38
theorem shX11_worthOf_43 : cX11_worthOf.data.toList.drop 43 = sxX11_worthOf_43 := dSn 2 shX11_worthOf_41
theorem shX11_worthOf_46 : cX11_worthOf.data.toList.drop 46 = sxX11_worthOf_46 := dSn 3 shX11_worthOf_43
theorem shX11_worthOf_47 : cX11_worthOf.data.toList.drop 47 = sxX11_worthOf_47 := dSn 1 shX11_worthOf_46
theorem shX11_worthOf_48 : cX11_worthOf.data.toList.drop 48 = sxX11_worthOf_48 := dSn 1 shX11_worthOf_47
theorem shX11_worthOf_49 : cX11_worthOf.data.toList.drop 49 = sxX11_worthOf_49 := dSn 1 shX11_worthOf_48
theorem shX11_worthOf_50 : cX11_worthOf.data.toList.drop 50 = sxX11_worthOf_50 := dSn 1 shX11_worthOf_49
theorem shX11_worthOf_53 : cX11_worthOf.data.toList.drop 53 = sxX11_worthOf_53 := dSn 3 shX11_worthOf_50
theorem shX11_worthOf_54 : cX11_worthOf.data.toList.drop 54 = sxX11_worthOf_54 := dSn 1 shX11_worthOf_53
theorem shX11_worthOf_55 : cX11_worthOf.data.toList.drop 55 = sxX11_worthOf_55 := dSn 1 shX11_worthOf_54
theorem shX11_worthOf_56 : cX11_worthOf.data.toList.drop 56 = sxX11_worthOf_56 := dSn 1 shX11_worthOf_55
theorem shX11_worthOf_59 : cX11_worthOf.data.toList.drop 59 = sxX11_worthOf_59 := dSn 3 shX11_worthOf_56
theorem shX11_worthOf_62 : cX11_worthOf.data.toList.drop 62 = sxX11_worthOf_62 := dSn 3 shX11_worthOf_59
theorem shX11_worthOf_63 : cX11_worthOf.data.toList.drop 63 = sxX11_worthOf_63 := dSn 1 shX11_worthOf_62
theorem dX11_worthOf_0 : decode cX11_worthOf 0 = .ok (.iconst 0, 1) := oc_3 shX11_worthOf_0
theorem dX11_worthOf_1 : decode cX11_worthOf 1 = .ok (.istore_n 3, 1) := oc_62 shX11_worthOf_1
theorem dX11_worthOf_2 : decode cX11_worthOf 2 = .ok (.iconst 0, 1) := oc_3 shX11_worthOf_2
theorem dX11_worthOf_3 : decode cX11_worthOf 3 = .ok (.istore 4, 2) := oc_54 shX11_worthOf_3
theorem dX11_worthOf_5 : decode cX11_worthOf 5 = .ok (.iload 4, 2) := oc_21 shX11_worthOf_5
theorem dX11_worthOf_7 : decode cX11_worthOf 7 = .ok (.aload_n 0, 1) := oc_42 shX11_worthOf_7
theorem dX11_worthOf_8 : decode cX11_worthOf 8 = .ok (.getfield 61, 3) := oc_180 shX11_worthOf_8
theorem dX11_worthOf_11 : decode cX11_worthOf 11 = .ok (.invokevirtual 84, 3) := oc_182 shX11_worthOf_11
theorem dX11_worthOf_14 : decode cX11_worthOf 14 = .ok (.if_icmp .ge 48, 3) := oc_162 shX11_worthOf_14 sgw_0_48
theorem dX11_worthOf_62 : decode cX11_worthOf 62 = .ok (.iload_n 3, 1) := oc_29 shX11_worthOf_62
theorem dX11_worthOf_63 : decode cX11_worthOf 63 = .ok (.ireturn, 1) := oc_172 shX11_worthOf_63
theorem dX11_worthOf_17 : decode cX11_worthOf 17 = .ok (.aload_n 0, 1) := oc_42 shX11_worthOf_17
theorem dX11_worthOf_18 : decode cX11_worthOf 18 = .ok (.getfield 61, 3) := oc_180 shX11_worthOf_18
theorem dX11_worthOf_21 : decode cX11_worthOf 21 = .ok (.iload 4, 2) := oc_21 shX11_worthOf_21
theorem dX11_worthOf_23 : decode cX11_worthOf 23 = .ok (.invokevirtual 87, 3) := oc_182 shX11_worthOf_23
theorem dX11_worthOf_26 : decode cX11_worthOf 26 = .ok (.checkcast 91, 3) := oc_192 shX11_worthOf_26
theorem dX11_worthOf_29 : decode cX11_worthOf 29 = .ok (.astore 5, 2) := oc_58 shX11_worthOf_29
theorem dX11_worthOf_31 : decode cX11_worthOf 31 = .ok (.iload_n 3, 1) := oc_29 shX11_worthOf_31
theorem dX11_worthOf_32 : decode cX11_worthOf 32 = .ok (.aload 5, 2) := oc_25 shX11_worthOf_32
theorem dX11_worthOf_34 : decode cX11_worthOf 34 = .ok (.iload_n 1, 1) := oc_27 shX11_worthOf_34
theorem dX11_worthOf_35 : decode cX11_worthOf 35 = .ok (.invokevirtual 456, 3) := oc_182 shX11_worthOf_35
theorem dX11_worthOf_38 : decode cX11_worthOf 38 = .ok (.ifCond .eq 15, 3) := oc_153 shX11_worthOf_38 sgw_0_15
theorem dX11_worthOf_53 : decode cX11_worthOf 53 = .ok (.iconst 0, 1) := oc_3 shX11_worthOf_53
theorem dX11_worthOf_54 : decode cX11_worthOf 54 = .ok (.iadd, 1) := oc_96 shX11_worthOf_54
theorem dX11_worthOf_55 : decode cX11_worthOf 55 = .ok (.istore_n 3, 1) := oc_62 shX11_worthOf_55
theorem dX11_worthOf_56 : decode cX11_worthOf 56 = .ok (.iinc 4 1, 3) := oc_132 shX11_worthOf_56 sgb_1
theorem dX11_worthOf_59 : decode cX11_worthOf 59 = .ok (.goto (-54), 3) := oc_167 shX11_worthOf_59 sgw_255_202
theorem dX11_worthOf_41 : decode cX11_worthOf 41 = .ok (.aload 5, 2) := oc_25 shX11_worthOf_41
theorem dX11_worthOf_43 : decode cX11_worthOf 43 = .ok (.getfield 459, 3) := oc_180 shX11_worthOf_43
theorem dX11_worthOf_46 : decode cX11_worthOf 46 = .ok (.iload_n 2, 1) := oc_28 shX11_worthOf_46
theorem dX11_worthOf_47 : decode cX11_worthOf 47 = .ok (.iload_n 1, 1) := oc_27 shX11_worthOf_47
theorem dX11_worthOf_48 : decode cX11_worthOf 48 = .ok (.isub, 1) := oc_100 shX11_worthOf_48
theorem dX11_worthOf_49 : decode cX11_worthOf 49 = .ok (.imul, 1) := oc_104 shX11_worthOf_49
theorem dX11_worthOf_50 : decode cX11_worthOf 50 = .ok (.goto 4, 3) := oc_167 shX11_worthOf_50 sgw_0_4
def sxX11_comers_51 : List UInt8 := []
def sxX11_comers_50 : List UInt8 := 172 :: sxX11_comers_51
def sxX11_comers_49 : List UInt8 := 28 :: sxX11_comers_50
def sxX11_comers_46 : List UInt8 := 167 :: 255 :: 214 :: sxX11_comers_49
def sxX11_comers_43 : List UInt8 := 132 :: 3 :: 1 :: sxX11_comers_46
def sxX11_comers_42 : List UInt8 := 61 :: sxX11_comers_43
def sxX11_comers_41 : List UInt8 := 128 :: sxX11_comers_42
def sxX11_comers_40 : List UInt8 := 3 :: sxX11_comers_41
def sxX11_comers_37 : List UInt8 := 167 :: 0 :: 4 :: sxX11_comers_40
def sxX11_comers_36 : List UInt8 := 120 :: sxX11_comers_37
def sxX11_comers_35 : List UInt8 := 29 :: sxX11_comers_36
def sxX11_comers_34 : List UInt8 := 4 :: sxX11_comers_35
def sxX11_comers_31 : List UInt8 := 153 :: 0 :: 9 :: sxX11_comers_34
def sxX11_comers_28 : List UInt8 := 182 :: 1 :: 200 :: sxX11_comers_31
def sxX11_comers_27 : List UInt8 := 27 :: sxX11_comers_28
def sxX11_comers_24 : List UInt8 := 192 :: 0 :: 91 :: sxX11_comers_27
def sxX11_comers_21 : List UInt8 := 182 :: 0 :: 87 :: sxX11_comers_24
def sxX11_comers_20 : List UInt8 := 29 :: sxX11_comers_21
def sxX11_comers_17 : List UInt8 := 180 :: 0 :: 61 :: sxX11_comers_20
def sxX11_comers_16 : List UInt8 := 42 :: sxX11_comers_17
def sxX11_comers_15 : List UInt8 := 28 :: sxX11_comers_16
def sxX11_comers_12 : List UInt8 := 162 :: 0 :: 37 :: sxX11_comers_15
def sxX11_comers_9 : List UInt8 := 182 :: 0 :: 84 :: sxX11_comers_12
def sxX11_comers_6 : List UInt8 := 180 :: 0 :: 61 :: sxX11_comers_9
def sxX11_comers_5 : List UInt8 := 42 :: sxX11_comers_6
def sxX11_comers_4 : List UInt8 := 29 :: sxX11_comers_5
def sxX11_comers_3 : List UInt8 := 62 :: sxX11_comers_4
def sxX11_comers_2 : List UInt8 := 3 :: sxX11_comers_3
def sxX11_comers_1 : List UInt8 := 61 :: sxX11_comers_2
def sxX11_comers_0 : List UInt8 := 3 :: sxX11_comers_1
theorem shX11_comers_0 : cX11_comers.data.toList.drop 0 = sxX11_comers_0 := rfl
theorem shX11_comers_1 : cX11_comers.data.toList.drop 1 = sxX11_comers_1 := dSn 1 shX11_comers_0
theorem shX11_comers_2 : cX11_comers.data.toList.drop 2 = sxX11_comers_2 := dSn 1 shX11_comers_1
theorem shX11_comers_3 : cX11_comers.data.toList.drop 3 = sxX11_comers_3 := dSn 1 shX11_comers_2
theorem shX11_comers_4 : cX11_comers.data.toList.drop 4 = sxX11_comers_4 := dSn 1 shX11_comers_3
theorem shX11_comers_5 : cX11_comers.data.toList.drop 5 = sxX11_comers_5 := dSn 1 shX11_comers_4
theorem shX11_comers_6 : cX11_comers.data.toList.drop 6 = sxX11_comers_6 := dSn 1 shX11_comers_5
theorem shX11_comers_9 : cX11_comers.data.toList.drop 9 = sxX11_comers_9 := dSn 3 shX11_comers_6
theorem shX11_comers_12 : cX11_comers.data.toList.drop 12 = sxX11_comers_12 := dSn 3 shX11_comers_9
theorem shX11_comers_15 : cX11_comers.data.toList.drop 15 = sxX11_comers_15 := dSn 3 shX11_comers_12
theorem shX11_comers_16 : cX11_comers.data.toList.drop 16 = sxX11_comers_16 := dSn 1 shX11_comers_15
theorem shX11_comers_17 : cX11_comers.data.toList.drop 17 = sxX11_comers_17 := dSn 1 shX11_comers_16
theorem shX11_comers_20 : cX11_comers.data.toList.drop 20 = sxX11_comers_20 := dSn 3 shX11_comers_17
theorem shX11_comers_21 : cX11_comers.data.toList.drop 21 = sxX11_comers_21 := dSn 1 shX11_comers_20
theorem shX11_comers_24 : cX11_comers.data.toList.drop 24 = sxX11_comers_24 := dSn 3 shX11_comers_21
theorem shX11_comers_27 : cX11_comers.data.toList.drop 27 = sxX11_comers_27 := dSn 3 shX11_comers_24
theorem shX11_comers_28 : cX11_comers.data.toList.drop 28 = sxX11_comers_28 := dSn 1 shX11_comers_27
theorem shX11_comers_31 : cX11_comers.data.toList.drop 31 = sxX11_comers_31 := dSn 3 shX11_comers_28
theorem shX11_comers_34 : cX11_comers.data.toList.drop 34 = sxX11_comers_34 := dSn 3 shX11_comers_31
theorem shX11_comers_35 : cX11_comers.data.toList.drop 35 = sxX11_comers_35 := dSn 1 shX11_comers_34
theorem shX11_comers_36 : cX11_comers.data.toList.drop 36 = sxX11_comers_36 := dSn 1 shX11_comers_35
theorem shX11_comers_37 : cX11_comers.data.toList.drop 37 = sxX11_comers_37 := dSn 1 shX11_comers_36
theorem shX11_comers_40 : cX11_comers.data.toList.drop 40 = sxX11_comers_40 := dSn 3 shX11_comers_37
theorem shX11_comers_41 : cX11_comers.data.toList.drop 41 = sxX11_comers_41 := dSn 1 shX11_comers_40
theorem shX11_comers_42 : cX11_comers.data.toList.drop 42 = sxX11_comers_42 := dSn 1 shX11_comers_41
theorem shX11_comers_43 : cX11_comers.data.toList.drop 43 = sxX11_comers_43 := dSn 1 shX11_comers_42
theorem shX11_comers_46 : cX11_comers.data.toList.drop 46 = sxX11_comers_46 := dSn 3 shX11_comers_43
theorem shX11_comers_49 : cX11_comers.data.toList.drop 49 = sxX11_comers_49 := dSn 3 shX11_comers_46
theorem shX11_comers_50 : cX11_comers.data.toList.drop 50 = sxX11_comers_50 := dSn 1 shX11_comers_49
theorem dX11_comers_0 : decode cX11_comers 0 = .ok (.iconst 0, 1) := oc_3 shX11_comers_0
theorem dX11_comers_1 : decode cX11_comers 1 = .ok (.istore_n 2, 1) := oc_61 shX11_comers_1
theorem dX11_comers_2 : decode cX11_comers 2 = .ok (.iconst 0, 1) := oc_3 shX11_comers_2
theorem dX11_comers_3 : decode cX11_comers 3 = .ok (.istore_n 3, 1) := oc_62 shX11_comers_3
theorem dX11_comers_4 : decode cX11_comers 4 = .ok (.iload_n 3, 1) := oc_29 shX11_comers_4
theorem dX11_comers_5 : decode cX11_comers 5 = .ok (.aload_n 0, 1) := oc_42 shX11_comers_5
theorem dX11_comers_6 : decode cX11_comers 6 = .ok (.getfield 61, 3) := oc_180 shX11_comers_6
theorem dX11_comers_9 : decode cX11_comers 9 = .ok (.invokevirtual 84, 3) := oc_182 shX11_comers_9
theorem dX11_comers_12 : decode cX11_comers 12 = .ok (.if_icmp .ge 37, 3) := oc_162 shX11_comers_12 sgw_0_37
theorem dX11_comers_49 : decode cX11_comers 49 = .ok (.iload_n 2, 1) := oc_28 shX11_comers_49
theorem dX11_comers_50 : decode cX11_comers 50 = .ok (.ireturn, 1) := oc_172 shX11_comers_50
theorem dX11_comers_15 : decode cX11_comers 15 = .ok (.iload_n 2, 1) := oc_28 shX11_comers_15
theorem dX11_comers_16 : decode cX11_comers 16 = .ok (.aload_n 0, 1) := oc_42 shX11_comers_16
theorem dX11_comers_17 : decode cX11_comers 17 = .ok (.getfield 61, 3) := oc_180 shX11_comers_17
theorem dX11_comers_20 : decode cX11_comers 20 = .ok (.iload_n 3, 1) := oc_29 shX11_comers_20
theorem dX11_comers_21 : decode cX11_comers 21 = .ok (.invokevirtual 87, 3) := oc_182 shX11_comers_21
theorem dX11_comers_24 : decode cX11_comers 24 = .ok (.checkcast 91, 3) := oc_192 shX11_comers_24
theorem dX11_comers_27 : decode cX11_comers 27 = .ok (.iload_n 1, 1) := oc_27 shX11_comers_27
theorem dX11_comers_28 : decode cX11_comers 28 = .ok (.invokevirtual 456, 3) := oc_182 shX11_comers_28
theorem dX11_comers_31 : decode cX11_comers 31 = .ok (.ifCond .eq 9, 3) := oc_153 shX11_comers_31 sgw_0_9
theorem dX11_comers_40 : decode cX11_comers 40 = .ok (.iconst 0, 1) := oc_3 shX11_comers_40
theorem dX11_comers_41 : decode cX11_comers 41 = .ok (.ior, 1) := oc_128 shX11_comers_41
theorem dX11_comers_42 : decode cX11_comers 42 = .ok (.istore_n 2, 1) := oc_61 shX11_comers_42
theorem dX11_comers_43 : decode cX11_comers 43 = .ok (.iinc 3 1, 3) := oc_132 shX11_comers_43 sgb_1
theorem dX11_comers_46 : decode cX11_comers 46 = .ok (.goto (-42), 3) := oc_167 shX11_comers_46 sgw_255_214
theorem dX11_comers_34 : decode cX11_comers 34 = .ok (.iconst 1, 1) := oc_4 shX11_comers_34
theorem dX11_comers_35 : decode cX11_comers 35 = .ok (.iload_n 3, 1) := oc_29 shX11_comers_35
theorem dX11_comers_36 : decode cX11_comers 36 = .ok (.ishl, 1) := oc_120 shX11_comers_36
theorem dX11_comers_37 : decode cX11_comers 37 = .ok (.goto 4, 3) := oc_167 shX11_comers_37 sgw_0_4
def sxX11_worth_35 : List UInt8 := []
def sxX11_worth_34 : List UInt8 := 172 :: sxX11_worth_35
def sxX11_worth_31 : List UInt8 := 19 :: 1 :: 207 :: sxX11_worth_34
def sxX11_worth_28 : List UInt8 := 167 :: 0 :: 6 :: sxX11_worth_31
def sxX11_worth_25 : List UInt8 := 182 :: 1 :: 204 :: sxX11_worth_28
def sxX11_worth_24 : List UInt8 := 28 :: sxX11_worth_25
def sxX11_worth_23 : List UInt8 := 27 :: sxX11_worth_24
def sxX11_worth_22 : List UInt8 := 42 :: sxX11_worth_23
def sxX11_worth_19 : List UInt8 := 153 :: 0 :: 12 :: sxX11_worth_22
def sxX11_worth_16 : List UInt8 := 184 :: 0 :: 80 :: sxX11_worth_19
def sxX11_worth_13 : List UInt8 := 17 :: 3 :: 232 :: sxX11_worth_16
def sxX11_worth_12 : List UInt8 := 3 :: sxX11_worth_13
def sxX11_worth_11 : List UInt8 := 28 :: sxX11_worth_12
def sxX11_worth_8 : List UInt8 := 153 :: 0 :: 23 :: sxX11_worth_11
def sxX11_worth_5 : List UInt8 := 184 :: 0 :: 80 :: sxX11_worth_8
def sxX11_worth_2 : List UInt8 := 17 :: 0 :: 200 :: sxX11_worth_5
def sxX11_worth_1 : List UInt8 := 3 :: sxX11_worth_2
def sxX11_worth_0 : List UInt8 := 27 :: sxX11_worth_1
theorem shX11_worth_0 : cX11_worth.data.toList.drop 0 = sxX11_worth_0 := rfl
theorem shX11_worth_1 : cX11_worth.data.toList.drop 1 = sxX11_worth_1 := dSn 1 shX11_worth_0
theorem shX11_worth_2 : cX11_worth.data.toList.drop 2 = sxX11_worth_2 := dSn 1 shX11_worth_1
theorem shX11_worth_5 : cX11_worth.data.toList.drop 5 = sxX11_worth_5 := dSn 3 shX11_worth_2
theorem shX11_worth_8 : cX11_worth.data.toList.drop 8 = sxX11_worth_8 := dSn 3 shX11_worth_5
theorem shX11_worth_11 : cX11_worth.data.toList.drop 11 = sxX11_worth_11 := dSn 3 shX11_worth_8
theorem shX11_worth_12 : cX11_worth.data.toList.drop 12 = sxX11_worth_12 := dSn 1 shX11_worth_11
theorem shX11_worth_13 : cX11_worth.data.toList.drop 13 = sxX11_worth_13 := dSn 1 shX11_worth_12
theorem shX11_worth_16 : cX11_worth.data.toList.drop 16 = sxX11_worth_16 := dSn 3 shX11_worth_13
theorem shX11_worth_19 : cX11_worth.data.toList.drop 19 = sxX11_worth_19 := dSn 3 shX11_worth_16
theorem shX11_worth_22 : cX11_worth.data.toList.drop 22 = sxX11_worth_22 := dSn 3 shX11_worth_19
theorem shX11_worth_23 : cX11_worth.data.toList.drop 23 = sxX11_worth_23 := dSn 1 shX11_worth_22
theorem shX11_worth_24 : cX11_worth.data.toList.drop 24 = sxX11_worth_24 := dSn 1 shX11_worth_23
theorem shX11_worth_25 : cX11_worth.data.toList.drop 25 = sxX11_worth_25 := dSn 1 shX11_worth_24
theorem shX11_worth_28 : cX11_worth.data.toList.drop 28 = sxX11_worth_28 := dSn 3 shX11_worth_25
theorem shX11_worth_31 : cX11_worth.data.toList.drop 31 = sxX11_worth_31 := dSn 3 shX11_worth_28
theorem shX11_worth_34 : cX11_worth.data.toList.drop 34 = sxX11_worth_34 := dSn 3 shX11_worth_31
theorem dX11_worth_0 : decode cX11_worth 0 = .ok (.iload_n 1, 1) := oc_27 shX11_worth_0
theorem dX11_worth_1 : decode cX11_worth 1 = .ok (.iconst 0, 1) := oc_3 shX11_worth_1
theorem dX11_worth_2 : decode cX11_worth 2 = .ok (.sipush 200, 3) := oc_17 shX11_worth_2 sgw_0_200
theorem dX11_worth_5 : decode cX11_worth 5 = .ok (.invokestatic 80, 3) := oc_184 shX11_worth_5
theorem dX11_worth_8 : decode cX11_worth 8 = .ok (.ifCond .eq 23, 3) := oc_153 shX11_worth_8 sgw_0_23
theorem dX11_worth_11 : decode cX11_worth 11 = .ok (.iload_n 2, 1) := oc_28 shX11_worth_11
theorem dX11_worth_12 : decode cX11_worth 12 = .ok (.iconst 0, 1) := oc_3 shX11_worth_12
theorem dX11_worth_13 : decode cX11_worth 13 = .ok (.sipush 1000, 3) := oc_17 shX11_worth_13 sgw_3_232
theorem dX11_worth_16 : decode cX11_worth 16 = .ok (.invokestatic 80, 3) := oc_184 shX11_worth_16
theorem dX11_worth_19 : decode cX11_worth 19 = .ok (.ifCond .eq 12, 3) := oc_153 shX11_worth_19 sgw_0_12
theorem dX11_worth_22 : decode cX11_worth 22 = .ok (.aload_n 0, 1) := oc_42 shX11_worth_22
theorem dX11_worth_23 : decode cX11_worth 23 = .ok (.iload_n 1, 1) := oc_27 shX11_worth_23
theorem dX11_worth_24 : decode cX11_worth 24 = .ok (.iload_n 2, 1) := oc_28 shX11_worth_24
theorem dX11_worth_25 : decode cX11_worth 25 = .ok (.invokevirtual 460, 3) := oc_182 shX11_worth_25
theorem dX11_worth_28 : decode cX11_worth 28 = .ok (.goto 6, 3) := oc_167 shX11_worth_28 sgw_0_6
theorem dX11_worth_34 : decode cX11_worth 34 = .ok (.ireturn, 1) := oc_172 shX11_worth_34
theorem dX11_worth_31 : decode cX11_worth 31 = .ok (.ldc_w 463, 3) := oc_19 shX11_worth_31
def sxX11_offer_96 : List UInt8 := []
def sxX11_offer_95 : List UInt8 := 172 :: sxX11_offer_96
def sxX11_offer_92 : List UInt8 := 182 :: 1 :: 208 :: sxX11_offer_95
def sxX11_offer_91 : List UInt8 := 29 :: sxX11_offer_92
def sxX11_offer_90 : List UInt8 := 42 :: sxX11_offer_91
def sxX11_offer_87 : List UInt8 := 167 :: 0 :: 8 :: sxX11_offer_90
def sxX11_offer_85 : List UInt8 := 21 :: 4 :: sxX11_offer_87
def sxX11_offer_82 : List UInt8 := 160 :: 0 :: 8 :: sxX11_offer_85
def sxX11_offer_81 : List UInt8 := 4 :: sxX11_offer_82
def sxX11_offer_80 : List UInt8 := 28 :: sxX11_offer_81
def sxX11_offer_77 : List UInt8 := 167 :: 0 :: 18 :: sxX11_offer_80
def sxX11_offer_76 : List UInt8 := 29 :: sxX11_offer_77
def sxX11_offer_73 : List UInt8 := 154 :: 0 :: 7 :: sxX11_offer_76
def sxX11_offer_72 : List UInt8 := 28 :: sxX11_offer_73
def sxX11_offer_69 : List UInt8 := 167 :: 255 :: 222 :: sxX11_offer_72
def sxX11_offer_66 : List UInt8 := 132 :: 5 :: 1 :: sxX11_offer_69
def sxX11_offer_64 : List UInt8 := 54 :: 4 :: sxX11_offer_66
def sxX11_offer_62 : List UInt8 := 21 :: 6 :: sxX11_offer_64
def sxX11_offer_61 : List UInt8 := 62 :: sxX11_offer_62
def sxX11_offer_59 : List UInt8 := 21 :: 5 :: sxX11_offer_61
def sxX11_offer_56 : List UInt8 := 164 :: 0 :: 10 :: sxX11_offer_59
def sxX11_offer_54 : List UInt8 := 21 :: 4 :: sxX11_offer_56
def sxX11_offer_52 : List UInt8 := 21 :: 6 :: sxX11_offer_54
def sxX11_offer_50 : List UInt8 := 54 :: 6 :: sxX11_offer_52
def sxX11_offer_47 : List UInt8 := 182 :: 1 :: 204 :: sxX11_offer_50
def sxX11_offer_46 : List UInt8 := 27 :: sxX11_offer_47
def sxX11_offer_44 : List UInt8 := 21 :: 5 :: sxX11_offer_46
def sxX11_offer_43 : List UInt8 := 42 :: sxX11_offer_44
def sxX11_offer_40 : List UInt8 := 163 :: 0 :: 32 :: sxX11_offer_43
def sxX11_offer_37 : List UInt8 := 17 :: 0 :: 200 :: sxX11_offer_40
def sxX11_offer_35 : List UInt8 := 21 :: 5 :: sxX11_offer_37
def sxX11_offer_33 : List UInt8 := 54 :: 5 :: sxX11_offer_35
def sxX11_offer_32 : List UInt8 := 4 :: sxX11_offer_33
def sxX11_offer_30 : List UInt8 := 54 :: 4 :: sxX11_offer_32
def sxX11_offer_27 : List UInt8 := 182 :: 1 :: 204 :: sxX11_offer_30
def sxX11_offer_26 : List UInt8 := 27 :: sxX11_offer_27
def sxX11_offer_25 : List UInt8 := 3 :: sxX11_offer_26
def sxX11_offer_24 : List UInt8 := 42 :: sxX11_offer_25
def sxX11_offer_23 : List UInt8 := 62 :: sxX11_offer_24
def sxX11_offer_22 : List UInt8 := 3 :: sxX11_offer_23
def sxX11_offer_21 : List UInt8 := 172 :: sxX11_offer_22
def sxX11_offer_20 : List UInt8 := 2 :: sxX11_offer_21
def sxX11_offer_17 : List UInt8 := 154 :: 0 :: 5 :: sxX11_offer_20
def sxX11_offer_14 : List UInt8 := 184 :: 0 :: 80 :: sxX11_offer_17
def sxX11_offer_13 : List UInt8 := 5 :: sxX11_offer_14
def sxX11_offer_12 : List UInt8 := 3 :: sxX11_offer_13
def sxX11_offer_11 : List UInt8 := 28 :: sxX11_offer_12
def sxX11_offer_8 : List UInt8 := 153 :: 0 :: 12 :: sxX11_offer_11
def sxX11_offer_5 : List UInt8 := 184 :: 0 :: 80 :: sxX11_offer_8
def sxX11_offer_2 : List UInt8 := 17 :: 3 :: 232 :: sxX11_offer_5
def sxX11_offer_1 : List UInt8 := 3 :: sxX11_offer_2
def sxX11_offer_0 : List UInt8 := 27 :: sxX11_offer_1
theorem shX11_offer_0 : cX11_offer.data.toList.drop 0 = sxX11_offer_0 := rfl
theorem shX11_offer_1 : cX11_offer.data.toList.drop 1 = sxX11_offer_1 := dSn 1 shX11_offer_0
theorem shX11_offer_2 : cX11_offer.data.toList.drop 2 = sxX11_offer_2 := dSn 1 shX11_offer_1
theorem shX11_offer_5 : cX11_offer.data.toList.drop 5 = sxX11_offer_5 := dSn 3 shX11_offer_2
theorem shX11_offer_8 : cX11_offer.data.toList.drop 8 = sxX11_offer_8 := dSn 3 shX11_offer_5
theorem shX11_offer_11 : cX11_offer.data.toList.drop 11 = sxX11_offer_11 := dSn 3 shX11_offer_8
theorem shX11_offer_12 : cX11_offer.data.toList.drop 12 = sxX11_offer_12 := dSn 1 shX11_offer_11
theorem shX11_offer_13 : cX11_offer.data.toList.drop 13 = sxX11_offer_13 := dSn 1 shX11_offer_12
theorem shX11_offer_14 : cX11_offer.data.toList.drop 14 = sxX11_offer_14 := dSn 1 shX11_offer_13
theorem shX11_offer_17 : cX11_offer.data.toList.drop 17 = sxX11_offer_17 := dSn 3 shX11_offer_14
theorem shX11_offer_20 : cX11_offer.data.toList.drop 20 = sxX11_offer_20 := dSn 3 shX11_offer_17
theorem shX11_offer_21 : cX11_offer.data.toList.drop 21 = sxX11_offer_21 := dSn 1 shX11_offer_20
theorem shX11_offer_22 : cX11_offer.data.toList.drop 22 = sxX11_offer_22 := dSn 1 shX11_offer_21
theorem shX11_offer_23 : cX11_offer.data.toList.drop 23 = sxX11_offer_23 := dSn 1 shX11_offer_22
theorem shX11_offer_24 : cX11_offer.data.toList.drop 24 = sxX11_offer_24 := dSn 1 shX11_offer_23
theorem shX11_offer_25 : cX11_offer.data.toList.drop 25 = sxX11_offer_25 := dSn 1 shX11_offer_24
theorem shX11_offer_26 : cX11_offer.data.toList.drop 26 = sxX11_offer_26 := dSn 1 shX11_offer_25
theorem shX11_offer_27 : cX11_offer.data.toList.drop 27 = sxX11_offer_27 := dSn 1 shX11_offer_26
theorem shX11_offer_30 : cX11_offer.data.toList.drop 30 = sxX11_offer_30 := dSn 3 shX11_offer_27
theorem shX11_offer_32 : cX11_offer.data.toList.drop 32 = sxX11_offer_32 := dSn 2 shX11_offer_30
theorem shX11_offer_33 : cX11_offer.data.toList.drop 33 = sxX11_offer_33 := dSn 1 shX11_offer_32
theorem shX11_offer_35 : cX11_offer.data.toList.drop 35 = sxX11_offer_35 := dSn 2 shX11_offer_33
theorem shX11_offer_37 : cX11_offer.data.toList.drop 37 = sxX11_offer_37 := dSn 2 shX11_offer_35
theorem shX11_offer_40 : cX11_offer.data.toList.drop 40 = sxX11_offer_40 := dSn 3 shX11_offer_37
theorem shX11_offer_43 : cX11_offer.data.toList.drop 43 = sxX11_offer_43 := dSn 3 shX11_offer_40
theorem shX11_offer_44 : cX11_offer.data.toList.drop 44 = sxX11_offer_44 := dSn 1 shX11_offer_43
theorem shX11_offer_46 : cX11_offer.data.toList.drop 46 = sxX11_offer_46 := dSn 2 shX11_offer_44
theorem shX11_offer_47 : cX11_offer.data.toList.drop 47 = sxX11_offer_47 := dSn 1 shX11_offer_46
theorem shX11_offer_50 : cX11_offer.data.toList.drop 50 = sxX11_offer_50 := dSn 3 shX11_offer_47
theorem shX11_offer_52 : cX11_offer.data.toList.drop 52 = sxX11_offer_52 := dSn 2 shX11_offer_50
theorem shX11_offer_54 : cX11_offer.data.toList.drop 54 = sxX11_offer_54 := dSn 2 shX11_offer_52
theorem shX11_offer_56 : cX11_offer.data.toList.drop 56 = sxX11_offer_56 := dSn 2 shX11_offer_54
theorem shX11_offer_59 : cX11_offer.data.toList.drop 59 = sxX11_offer_59 := dSn 3 shX11_offer_56
theorem shX11_offer_61 : cX11_offer.data.toList.drop 61 = sxX11_offer_61 := dSn 2 shX11_offer_59
theorem shX11_offer_62 : cX11_offer.data.toList.drop 62 = sxX11_offer_62 := dSn 1 shX11_offer_61
theorem shX11_offer_64 : cX11_offer.data.toList.drop 64 = sxX11_offer_64 := dSn 2 shX11_offer_62
theorem shX11_offer_66 : cX11_offer.data.toList.drop 66 = sxX11_offer_66 := dSn 2 shX11_offer_64
theorem shX11_offer_69 : cX11_offer.data.toList.drop 69 = sxX11_offer_69 := dSn 3 shX11_offer_66
theorem shX11_offer_72 : cX11_offer.data.toList.drop 72 = sxX11_offer_72 := dSn 3 shX11_offer_69
theorem shX11_offer_73 : cX11_offer.data.toList.drop 73 = sxX11_offer_73 := dSn 1 shX11_offer_72
theorem shX11_offer_76 : cX11_offer.data.toList.drop 76 = sxX11_offer_76 := dSn 3 shX11_offer_73
theorem shX11_offer_77 : cX11_offer.data.toList.drop 77 = sxX11_offer_77 := dSn 1 shX11_offer_76
theorem shX11_offer_80 : cX11_offer.data.toList.drop 80 = sxX11_offer_80 := dSn 3 shX11_offer_77
theorem shX11_offer_81 : cX11_offer.data.toList.drop 81 = sxX11_offer_81 := dSn 1 shX11_offer_80
theorem shX11_offer_82 : cX11_offer.data.toList.drop 82 = sxX11_offer_82 := dSn 1 shX11_offer_81
theorem shX11_offer_85 : cX11_offer.data.toList.drop 85 = sxX11_offer_85 := dSn 3 shX11_offer_82
theorem shX11_offer_87 : cX11_offer.data.toList.drop 87 = sxX11_offer_87 := dSn 2 shX11_offer_85
theorem shX11_offer_90 : cX11_offer.data.toList.drop 90 = sxX11_offer_90 := dSn 3 shX11_offer_87
theorem shX11_offer_91 : cX11_offer.data.toList.drop 91 = sxX11_offer_91 := dSn 1 shX11_offer_90
theorem shX11_offer_92 : cX11_offer.data.toList.drop 92 = sxX11_offer_92 := dSn 1 shX11_offer_91
theorem shX11_offer_95 : cX11_offer.data.toList.drop 95 = sxX11_offer_95 := dSn 3 shX11_offer_92
theorem dX11_offer_0 : decode cX11_offer 0 = .ok (.iload_n 1, 1) := oc_27 shX11_offer_0
theorem dX11_offer_1 : decode cX11_offer 1 = .ok (.iconst 0, 1) := oc_3 shX11_offer_1
theorem dX11_offer_2 : decode cX11_offer 2 = .ok (.sipush 1000, 3) := oc_17 shX11_offer_2 sgw_3_232
theorem dX11_offer_5 : decode cX11_offer 5 = .ok (.invokestatic 80, 3) := oc_184 shX11_offer_5
theorem dX11_offer_8 : decode cX11_offer 8 = .ok (.ifCond .eq 12, 3) := oc_153 shX11_offer_8 sgw_0_12
theorem dX11_offer_11 : decode cX11_offer 11 = .ok (.iload_n 2, 1) := oc_28 shX11_offer_11
theorem dX11_offer_12 : decode cX11_offer 12 = .ok (.iconst 0, 1) := oc_3 shX11_offer_12
theorem dX11_offer_13 : decode cX11_offer 13 = .ok (.iconst 2, 1) := oc_5 shX11_offer_13
theorem dX11_offer_14 : decode cX11_offer 14 = .ok (.invokestatic 80, 3) := oc_184 shX11_offer_14
theorem dX11_offer_17 : decode cX11_offer 17 = .ok (.ifCond .ne 5, 3) := oc_154 shX11_offer_17 sgw_0_5
theorem dX11_offer_22 : decode cX11_offer 22 = .ok (.iconst 0, 1) := oc_3 shX11_offer_22
theorem dX11_offer_23 : decode cX11_offer 23 = .ok (.istore_n 3, 1) := oc_62 shX11_offer_23
theorem dX11_offer_24 : decode cX11_offer 24 = .ok (.aload_n 0, 1) := oc_42 shX11_offer_24
theorem dX11_offer_25 : decode cX11_offer 25 = .ok (.iconst 0, 1) := oc_3 shX11_offer_25
theorem dX11_offer_26 : decode cX11_offer 26 = .ok (.iload_n 1, 1) := oc_27 shX11_offer_26
theorem dX11_offer_27 : decode cX11_offer 27 = .ok (.invokevirtual 460, 3) := oc_182 shX11_offer_27
theorem dX11_offer_30 : decode cX11_offer 30 = .ok (.istore 4, 2) := oc_54 shX11_offer_30
theorem dX11_offer_32 : decode cX11_offer 32 = .ok (.iconst 1, 1) := oc_4 shX11_offer_32
theorem dX11_offer_33 : decode cX11_offer 33 = .ok (.istore 5, 2) := oc_54 shX11_offer_33
theorem dX11_offer_35 : decode cX11_offer 35 = .ok (.iload 5, 2) := oc_21 shX11_offer_35
theorem dX11_offer_37 : decode cX11_offer 37 = .ok (.sipush 200, 3) := oc_17 shX11_offer_37 sgw_0_200
theorem dX11_offer_40 : decode cX11_offer 40 = .ok (.if_icmp .gt 32, 3) := oc_163 shX11_offer_40 sgw_0_32
theorem dX11_offer_72 : decode cX11_offer 72 = .ok (.iload_n 2, 1) := oc_28 shX11_offer_72
theorem dX11_offer_73 : decode cX11_offer 73 = .ok (.ifCond .ne 7, 3) := oc_154 shX11_offer_73 sgw_0_7
theorem dX11_offer_80 : decode cX11_offer 80 = .ok (.iload_n 2, 1) := oc_28 shX11_offer_80
theorem dX11_offer_81 : decode cX11_offer 81 = .ok (.iconst 1, 1) := oc_4 shX11_offer_81
theorem dX11_offer_82 : decode cX11_offer 82 = .ok (.if_icmp .ne 8, 3) := oc_160 shX11_offer_82 sgw_0_8
theorem dX11_offer_90 : decode cX11_offer 90 = .ok (.aload_n 0, 1) := oc_42 shX11_offer_90
theorem dX11_offer_91 : decode cX11_offer 91 = .ok (.iload_n 3, 1) := oc_29 shX11_offer_91
theorem dX11_offer_92 : decode cX11_offer 92 = .ok (.invokevirtual 464, 3) := oc_182 shX11_offer_92
theorem dX11_offer_95 : decode cX11_offer 95 = .ok (.ireturn, 1) := oc_172 shX11_offer_95
theorem dX11_offer_85 : decode cX11_offer 85 = .ok (.iload 4, 2) := oc_21 shX11_offer_85
theorem dX11_offer_87 : decode cX11_offer 87 = .ok (.goto 8, 3) := oc_167 shX11_offer_87 sgw_0_8
theorem dX11_offer_76 : decode cX11_offer 76 = .ok (.iload_n 3, 1) := oc_29 shX11_offer_76
theorem dX11_offer_77 : decode cX11_offer 77 = .ok (.goto 18, 3) := oc_167 shX11_offer_77 sgw_0_18
theorem dX11_offer_43 : decode cX11_offer 43 = .ok (.aload_n 0, 1) := oc_42 shX11_offer_43
theorem dX11_offer_44 : decode cX11_offer 44 = .ok (.iload 5, 2) := oc_21 shX11_offer_44
theorem dX11_offer_46 : decode cX11_offer 46 = .ok (.iload_n 1, 1) := oc_27 shX11_offer_46
theorem dX11_offer_47 : decode cX11_offer 47 = .ok (.invokevirtual 460, 3) := oc_182 shX11_offer_47
theorem dX11_offer_50 : decode cX11_offer 50 = .ok (.istore 6, 2) := oc_54 shX11_offer_50
theorem dX11_offer_52 : decode cX11_offer 52 = .ok (.iload 6, 2) := oc_21 shX11_offer_52
theorem dX11_offer_54 : decode cX11_offer 54 = .ok (.iload 4, 2) := oc_21 shX11_offer_54
theorem dX11_offer_56 : decode cX11_offer 56 = .ok (.if_icmp .le 10, 3) := oc_164 shX11_offer_56 sgw_0_10
theorem dX11_offer_66 : decode cX11_offer 66 = .ok (.iinc 5 1, 3) := oc_132 shX11_offer_66 sgb_1
theorem dX11_offer_69 : decode cX11_offer 69 = .ok (.goto (-34), 3) := oc_167 shX11_offer_69 sgw_255_222
theorem dX11_offer_59 : decode cX11_offer 59 = .ok (.iload 5, 2) := oc_21 shX11_offer_59
theorem dX11_offer_61 : decode cX11_offer 61 = .ok (.istore_n 3, 1) := oc_62 shX11_offer_61
theorem dX11_offer_62 : decode cX11_offer 62 = .ok (.iload 6, 2) := oc_21 shX11_offer_62
theorem dX11_offer_64 : decode cX11_offer 64 = .ok (.istore 4, 2) := oc_54 shX11_offer_64
theorem dX11_offer_20 : decode cX11_offer 20 = .ok (.iconst (-1), 1) := oc_2 shX11_offer_20
theorem dX11_offer_21 : decode cX11_offer 21 = .ok (.ireturn, 1) := oc_172 shX11_offer_21
def sxX11_isBeside_73 : List UInt8 := []
def sxX11_isBeside_72 : List UInt8 := 172 :: sxX11_isBeside_73
def sxX11_isBeside_71 : List UInt8 := 3 :: sxX11_isBeside_72
def sxX11_isBeside_68 : List UInt8 := 167 :: 255 :: 191 :: sxX11_isBeside_71
def sxX11_isBeside_65 : List UInt8 := 132 :: 4 :: 1 :: sxX11_isBeside_68
def sxX11_isBeside_64 : List UInt8 := 172 :: sxX11_isBeside_65
def sxX11_isBeside_63 : List UInt8 := 4 :: sxX11_isBeside_64
def sxX11_isBeside_60 : List UInt8 := 163 :: 0 :: 5 :: sxX11_isBeside_63
def sxX11_isBeside_59 : List UInt8 := 28 :: sxX11_isBeside_60
def sxX11_isBeside_56 : List UInt8 := 184 :: 1 :: 43 :: sxX11_isBeside_59
def sxX11_isBeside_53 : List UInt8 := 180 :: 1 :: 225 :: sxX11_isBeside_56
def sxX11_isBeside_51 : List UInt8 := 25 :: 5 :: sxX11_isBeside_53
def sxX11_isBeside_48 : List UInt8 := 180 :: 1 :: 224 :: sxX11_isBeside_51
def sxX11_isBeside_46 : List UInt8 := 25 :: 5 :: sxX11_isBeside_48
def sxX11_isBeside_43 : List UInt8 := 180 :: 1 :: 40 :: sxX11_isBeside_46
def sxX11_isBeside_42 : List UInt8 := 43 :: sxX11_isBeside_43
def sxX11_isBeside_39 : List UInt8 := 180 :: 1 :: 37 :: sxX11_isBeside_42
def sxX11_isBeside_38 : List UInt8 := 43 :: sxX11_isBeside_39
def sxX11_isBeside_35 : List UInt8 := 161 :: 0 :: 30 :: sxX11_isBeside_38
def sxX11_isBeside_34 : List UInt8 := 29 :: sxX11_isBeside_35
def sxX11_isBeside_31 : List UInt8 := 180 :: 1 :: 221 :: sxX11_isBeside_34
def sxX11_isBeside_29 : List UInt8 := 25 :: 5 :: sxX11_isBeside_31
def sxX11_isBeside_27 : List UInt8 := 58 :: 5 :: sxX11_isBeside_29
def sxX11_isBeside_24 : List UInt8 := 192 :: 1 :: 217 :: sxX11_isBeside_27
def sxX11_isBeside_21 : List UInt8 := 182 :: 0 :: 87 :: sxX11_isBeside_24
def sxX11_isBeside_19 : List UInt8 := 21 :: 4 :: sxX11_isBeside_21
def sxX11_isBeside_16 : List UInt8 := 180 :: 0 :: 74 :: sxX11_isBeside_19
def sxX11_isBeside_15 : List UInt8 := 42 :: sxX11_isBeside_16
def sxX11_isBeside_12 : List UInt8 := 162 :: 0 :: 59 :: sxX11_isBeside_15
def sxX11_isBeside_9 : List UInt8 := 182 :: 0 :: 84 :: sxX11_isBeside_12
def sxX11_isBeside_6 : List UInt8 := 180 :: 0 :: 74 :: sxX11_isBeside_9
def sxX11_isBeside_5 : List UInt8 := 42 :: sxX11_isBeside_6
def sxX11_isBeside_3 : List UInt8 := 21 :: 4 :: sxX11_isBeside_5
def sxX11_isBeside_1 : List UInt8 := 54 :: 4 :: sxX11_isBeside_3
def sxX11_isBeside_0 : List UInt8 := 3 :: sxX11_isBeside_1
theorem shX11_isBeside_0 : cX11_isBeside.data.toList.drop 0 = sxX11_isBeside_0 := rfl
theorem shX11_isBeside_1 : cX11_isBeside.data.toList.drop 1 = sxX11_isBeside_1 := dSn 1 shX11_isBeside_0
theorem shX11_isBeside_3 : cX11_isBeside.data.toList.drop 3 = sxX11_isBeside_3 := dSn 2 shX11_isBeside_1
theorem shX11_isBeside_5 : cX11_isBeside.data.toList.drop 5 = sxX11_isBeside_5 := dSn 2 shX11_isBeside_3
theorem shX11_isBeside_6 : cX11_isBeside.data.toList.drop 6 = sxX11_isBeside_6 := dSn 1 shX11_isBeside_5
theorem shX11_isBeside_9 : cX11_isBeside.data.toList.drop 9 = sxX11_isBeside_9 := dSn 3 shX11_isBeside_6
theorem shX11_isBeside_12 : cX11_isBeside.data.toList.drop 12 = sxX11_isBeside_12 := dSn 3 shX11_isBeside_9
theorem shX11_isBeside_15 : cX11_isBeside.data.toList.drop 15 = sxX11_isBeside_15 := dSn 3 shX11_isBeside_12
theorem shX11_isBeside_16 : cX11_isBeside.data.toList.drop 16 = sxX11_isBeside_16 := dSn 1 shX11_isBeside_15
theorem shX11_isBeside_19 : cX11_isBeside.data.toList.drop 19 = sxX11_isBeside_19 := dSn 3 shX11_isBeside_16
theorem shX11_isBeside_21 : cX11_isBeside.data.toList.drop 21 = sxX11_isBeside_21 := dSn 2 shX11_isBeside_19
theorem shX11_isBeside_24 : cX11_isBeside.data.toList.drop 24 = sxX11_isBeside_24 := dSn 3 shX11_isBeside_21
theorem shX11_isBeside_27 : cX11_isBeside.data.toList.drop 27 = sxX11_isBeside_27 := dSn 3 shX11_isBeside_24
theorem shX11_isBeside_29 : cX11_isBeside.data.toList.drop 29 = sxX11_isBeside_29 := dSn 2 shX11_isBeside_27
theorem shX11_isBeside_31 : cX11_isBeside.data.toList.drop 31 = sxX11_isBeside_31 := dSn 2 shX11_isBeside_29
theorem shX11_isBeside_34 : cX11_isBeside.data.toList.drop 34 = sxX11_isBeside_34 := dSn 3 shX11_isBeside_31
theorem shX11_isBeside_35 : cX11_isBeside.data.toList.drop 35 = sxX11_isBeside_35 := dSn 1 shX11_isBeside_34
theorem shX11_isBeside_38 : cX11_isBeside.data.toList.drop 38 = sxX11_isBeside_38 := dSn 3 shX11_isBeside_35
theorem shX11_isBeside_39 : cX11_isBeside.data.toList.drop 39 = sxX11_isBeside_39 := dSn 1 shX11_isBeside_38
theorem shX11_isBeside_42 : cX11_isBeside.data.toList.drop 42 = sxX11_isBeside_42 := dSn 3 shX11_isBeside_39
theorem shX11_isBeside_43 : cX11_isBeside.data.toList.drop 43 = sxX11_isBeside_43 := dSn 1 shX11_isBeside_42
theorem shX11_isBeside_46 : cX11_isBeside.data.toList.drop 46 = sxX11_isBeside_46 := dSn 3 shX11_isBeside_43
theorem shX11_isBeside_48 : cX11_isBeside.data.toList.drop 48 = sxX11_isBeside_48 := dSn 2 shX11_isBeside_46
theorem shX11_isBeside_51 : cX11_isBeside.data.toList.drop 51 = sxX11_isBeside_51 := dSn 3 shX11_isBeside_48
theorem shX11_isBeside_53 : cX11_isBeside.data.toList.drop 53 = sxX11_isBeside_53 := dSn 2 shX11_isBeside_51
theorem shX11_isBeside_56 : cX11_isBeside.data.toList.drop 56 = sxX11_isBeside_56 := dSn 3 shX11_isBeside_53
theorem shX11_isBeside_59 : cX11_isBeside.data.toList.drop 59 = sxX11_isBeside_59 := dSn 3 shX11_isBeside_56
theorem shX11_isBeside_60 : cX11_isBeside.data.toList.drop 60 = sxX11_isBeside_60 := dSn 1 shX11_isBeside_59
theorem shX11_isBeside_63 : cX11_isBeside.data.toList.drop 63 = sxX11_isBeside_63 := dSn 3 shX11_isBeside_60
theorem shX11_isBeside_64 : cX11_isBeside.data.toList.drop 64 = sxX11_isBeside_64 := dSn 1 shX11_isBeside_63
theorem shX11_isBeside_65 : cX11_isBeside.data.toList.drop 65 = sxX11_isBeside_65 := dSn 1 shX11_isBeside_64
theorem shX11_isBeside_68 : cX11_isBeside.data.toList.drop 68 = sxX11_isBeside_68 := dSn 3 shX11_isBeside_65
theorem shX11_isBeside_71 : cX11_isBeside.data.toList.drop 71 = sxX11_isBeside_71 := dSn 3 shX11_isBeside_68
theorem shX11_isBeside_72 : cX11_isBeside.data.toList.drop 72 = sxX11_isBeside_72 := dSn 1 shX11_isBeside_71
theorem dX11_isBeside_0 : decode cX11_isBeside 0 = .ok (.iconst 0, 1) := oc_3 shX11_isBeside_0
theorem dX11_isBeside_1 : decode cX11_isBeside 1 = .ok (.istore 4, 2) := oc_54 shX11_isBeside_1
theorem dX11_isBeside_3 : decode cX11_isBeside 3 = .ok (.iload 4, 2) := oc_21 shX11_isBeside_3
theorem dX11_isBeside_5 : decode cX11_isBeside 5 = .ok (.aload_n 0, 1) := oc_42 shX11_isBeside_5
theorem dX11_isBeside_6 : decode cX11_isBeside 6 = .ok (.getfield 74, 3) := oc_180 shX11_isBeside_6
theorem dX11_isBeside_9 : decode cX11_isBeside 9 = .ok (.invokevirtual 84, 3) := oc_182 shX11_isBeside_9
theorem dX11_isBeside_12 : decode cX11_isBeside 12 = .ok (.if_icmp .ge 59, 3) := oc_162 shX11_isBeside_12 sgw_0_59
theorem dX11_isBeside_71 : decode cX11_isBeside 71 = .ok (.iconst 0, 1) := oc_3 shX11_isBeside_71
theorem dX11_isBeside_72 : decode cX11_isBeside 72 = .ok (.ireturn, 1) := oc_172 shX11_isBeside_72
theorem dX11_isBeside_15 : decode cX11_isBeside 15 = .ok (.aload_n 0, 1) := oc_42 shX11_isBeside_15
theorem dX11_isBeside_16 : decode cX11_isBeside 16 = .ok (.getfield 74, 3) := oc_180 shX11_isBeside_16
theorem dX11_isBeside_19 : decode cX11_isBeside 19 = .ok (.iload 4, 2) := oc_21 shX11_isBeside_19
theorem dX11_isBeside_21 : decode cX11_isBeside 21 = .ok (.invokevirtual 87, 3) := oc_182 shX11_isBeside_21
theorem dX11_isBeside_24 : decode cX11_isBeside 24 = .ok (.checkcast 473, 3) := oc_192 shX11_isBeside_24
theorem dX11_isBeside_27 : decode cX11_isBeside 27 = .ok (.astore 5, 2) := oc_58 shX11_isBeside_27
theorem dX11_isBeside_29 : decode cX11_isBeside 29 = .ok (.aload 5, 2) := oc_25 shX11_isBeside_29
theorem dX11_isBeside_31 : decode cX11_isBeside 31 = .ok (.getfield 477, 3) := oc_180 shX11_isBeside_31
theorem dX11_isBeside_34 : decode cX11_isBeside 34 = .ok (.iload_n 3, 1) := oc_29 shX11_isBeside_34
theorem dX11_isBeside_35 : decode cX11_isBeside 35 = .ok (.if_icmp .lt 30, 3) := oc_161 shX11_isBeside_35 sgw_0_30
theorem dX11_isBeside_65 : decode cX11_isBeside 65 = .ok (.iinc 4 1, 3) := oc_132 shX11_isBeside_65 sgb_1
theorem dX11_isBeside_68 : decode cX11_isBeside 68 = .ok (.goto (-65), 3) := oc_167 shX11_isBeside_68 sgw_255_191
theorem dX11_isBeside_38 : decode cX11_isBeside 38 = .ok (.aload_n 1, 1) := oc_43 shX11_isBeside_38
theorem dX11_isBeside_39 : decode cX11_isBeside 39 = .ok (.getfield 293, 3) := oc_180 shX11_isBeside_39
theorem dX11_isBeside_42 : decode cX11_isBeside 42 = .ok (.aload_n 1, 1) := oc_43 shX11_isBeside_42
theorem dX11_isBeside_43 : decode cX11_isBeside 43 = .ok (.getfield 296, 3) := oc_180 shX11_isBeside_43
theorem dX11_isBeside_46 : decode cX11_isBeside 46 = .ok (.aload 5, 2) := oc_25 shX11_isBeside_46
theorem dX11_isBeside_48 : decode cX11_isBeside 48 = .ok (.getfield 480, 3) := oc_180 shX11_isBeside_48
theorem dX11_isBeside_51 : decode cX11_isBeside 51 = .ok (.aload 5, 2) := oc_25 shX11_isBeside_51
theorem dX11_isBeside_53 : decode cX11_isBeside 53 = .ok (.getfield 481, 3) := oc_180 shX11_isBeside_53
theorem dX11_isBeside_56 : decode cX11_isBeside 56 = .ok (.invokestatic 299, 3) := oc_184 shX11_isBeside_56
theorem dX11_isBeside_59 : decode cX11_isBeside 59 = .ok (.iload_n 2, 1) := oc_28 shX11_isBeside_59
theorem dX11_isBeside_60 : decode cX11_isBeside 60 = .ok (.if_icmp .gt 5, 3) := oc_163 shX11_isBeside_60 sgw_0_5
theorem dX11_isBeside_63 : decode cX11_isBeside 63 = .ok (.iconst 1, 1) := oc_4 shX11_isBeside_63
theorem dX11_isBeside_64 : decode cX11_isBeside 64 = .ok (.ireturn, 1) := oc_172 shX11_isBeside_64
def sxX11_beside_93 : List UInt8 := []
def sxX11_beside_92 : List UInt8 := 172 :: sxX11_beside_93
def sxX11_beside_91 : List UInt8 := 29 :: sxX11_beside_92
def sxX11_beside_88 : List UInt8 := 167 :: 255 :: 197 :: sxX11_beside_91
def sxX11_beside_85 : List UInt8 := 132 :: 4 :: 1 :: sxX11_beside_88
def sxX11_beside_84 : List UInt8 := 62 :: sxX11_beside_85
def sxX11_beside_83 : List UInt8 := 128 :: sxX11_beside_84
def sxX11_beside_82 : List UInt8 := 3 :: sxX11_beside_83
def sxX11_beside_79 : List UInt8 := 167 :: 0 :: 4 :: sxX11_beside_82
def sxX11_beside_78 : List UInt8 := 120 :: sxX11_beside_79
def sxX11_beside_76 : List UInt8 := 21 :: 4 :: sxX11_beside_78
def sxX11_beside_75 : List UInt8 := 4 :: sxX11_beside_76
def sxX11_beside_72 : List UInt8 := 153 :: 0 :: 10 :: sxX11_beside_75
def sxX11_beside_69 : List UInt8 := 182 :: 1 :: 226 :: sxX11_beside_72
def sxX11_beside_68 : List UInt8 := 28 :: sxX11_beside_69
def sxX11_beside_67 : List UInt8 := 27 :: sxX11_beside_68
def sxX11_beside_65 : List UInt8 := 25 :: 5 :: sxX11_beside_67
def sxX11_beside_64 : List UInt8 := 42 :: sxX11_beside_65
def sxX11_beside_61 : List UInt8 := 154 :: 0 :: 21 :: sxX11_beside_64
def sxX11_beside_58 : List UInt8 := 180 :: 1 :: 203 :: sxX11_beside_61
def sxX11_beside_56 : List UInt8 := 25 :: 5 :: sxX11_beside_58
def sxX11_beside_55 : List UInt8 := 29 :: sxX11_beside_56
def sxX11_beside_53 : List UInt8 := 58 :: 5 :: sxX11_beside_55
def sxX11_beside_50 : List UInt8 := 192 :: 0 :: 91 :: sxX11_beside_53
def sxX11_beside_47 : List UInt8 := 182 :: 0 :: 87 :: sxX11_beside_50
def sxX11_beside_45 : List UInt8 := 21 :: 4 :: sxX11_beside_47
def sxX11_beside_42 : List UInt8 := 180 :: 0 :: 61 :: sxX11_beside_45
def sxX11_beside_41 : List UInt8 := 42 :: sxX11_beside_42
def sxX11_beside_38 : List UInt8 := 162 :: 0 :: 53 :: sxX11_beside_41
def sxX11_beside_35 : List UInt8 := 182 :: 0 :: 84 :: sxX11_beside_38
def sxX11_beside_32 : List UInt8 := 180 :: 0 :: 61 :: sxX11_beside_35
def sxX11_beside_31 : List UInt8 := 42 :: sxX11_beside_32
def sxX11_beside_29 : List UInt8 := 21 :: 4 :: sxX11_beside_31
def sxX11_beside_27 : List UInt8 := 54 :: 4 :: sxX11_beside_29
def sxX11_beside_26 : List UInt8 := 3 :: sxX11_beside_27
def sxX11_beside_25 : List UInt8 := 62 :: sxX11_beside_26
def sxX11_beside_24 : List UInt8 := 3 :: sxX11_beside_25
def sxX11_beside_23 : List UInt8 := 172 :: sxX11_beside_24
def sxX11_beside_22 : List UInt8 := 2 :: sxX11_beside_23
def sxX11_beside_19 : List UInt8 := 154 :: 0 :: 5 :: sxX11_beside_22
def sxX11_beside_16 : List UInt8 := 184 :: 0 :: 80 :: sxX11_beside_19
def sxX11_beside_13 : List UInt8 := 17 :: 3 :: 232 :: sxX11_beside_16
def sxX11_beside_12 : List UInt8 := 4 :: sxX11_beside_13
def sxX11_beside_11 : List UInt8 := 28 :: sxX11_beside_12
def sxX11_beside_8 : List UInt8 := 153 :: 0 :: 14 :: sxX11_beside_11
def sxX11_beside_5 : List UInt8 := 184 :: 0 :: 80 :: sxX11_beside_8
def sxX11_beside_2 : List UInt8 := 17 :: 0 :: 198 :: sxX11_beside_5
def sxX11_beside_1 : List UInt8 := 3 :: sxX11_beside_2
def sxX11_beside_0 : List UInt8 := 27 :: sxX11_beside_1
