theorem shX11_init_0 : cX11_init.data.toList.drop 0 = sxX11_init_0 := rfl
theorem shX11_init_1 : cX11_init.data.toList.drop 1 = sxX11_init_1 := dSn 1 shX11_init_0
theorem shX11_init_4 : cX11_init.data.toList.drop 4 = sxX11_init_4 := dSn 3 shX11_init_1
theorem shX11_init_5 : cX11_init.data.toList.drop 5 = sxX11_init_5 := dSn 1 shX11_init_4
theorem shX11_init_8 : cX11_init.data.toList.drop 8 = sxX11_init_8 := dSn 3 shX11_init_5
theorem shX11_init_9 : cX11_init.data.toList.drop 9 = sxX11_init_9 := dSn 1 shX11_init_8
theorem shX11_init_10 : cX11_init.data.toList.drop 10 = sxX11_init_10 := dSn 1 shX11_init_9
theorem shX11_init_13 : cX11_init.data.toList.drop 13 = sxX11_init_13 := dSn 3 shX11_init_10
theorem shX11_init_16 : cX11_init.data.toList.drop 16 = sxX11_init_16 := dSn 3 shX11_init_13
theorem shX11_init_17 : cX11_init.data.toList.drop 17 = sxX11_init_17 := dSn 1 shX11_init_16
theorem shX11_init_20 : cX11_init.data.toList.drop 20 = sxX11_init_20 := dSn 3 shX11_init_17
theorem shX11_init_21 : cX11_init.data.toList.drop 21 = sxX11_init_21 := dSn 1 shX11_init_20
theorem shX11_init_24 : cX11_init.data.toList.drop 24 = sxX11_init_24 := dSn 3 shX11_init_21
theorem shX11_init_27 : cX11_init.data.toList.drop 27 = sxX11_init_27 := dSn 3 shX11_init_24
theorem shX11_init_28 : cX11_init.data.toList.drop 28 = sxX11_init_28 := dSn 1 shX11_init_27
theorem shX11_init_31 : cX11_init.data.toList.drop 31 = sxX11_init_31 := dSn 3 shX11_init_28
theorem shX11_init_32 : cX11_init.data.toList.drop 32 = sxX11_init_32 := dSn 1 shX11_init_31
theorem shX11_init_35 : cX11_init.data.toList.drop 35 = sxX11_init_35 := dSn 3 shX11_init_32
theorem shX11_init_38 : cX11_init.data.toList.drop 38 = sxX11_init_38 := dSn 3 shX11_init_35
theorem shX11_init_39 : cX11_init.data.toList.drop 39 = sxX11_init_39 := dSn 1 shX11_init_38
theorem shX11_init_41 : cX11_init.data.toList.drop 41 = sxX11_init_41 := dSn 2 shX11_init_39
theorem shX11_init_44 : cX11_init.data.toList.drop 44 = sxX11_init_44 := dSn 3 shX11_init_41
theorem shX11_init_46 : cX11_init.data.toList.drop 46 = sxX11_init_46 := dSn 2 shX11_init_44
theorem shX11_init_49 : cX11_init.data.toList.drop 49 = sxX11_init_49 := dSn 3 shX11_init_46
theorem shX11_init_50 : cX11_init.data.toList.drop 50 = sxX11_init_50 := dSn 1 shX11_init_49
theorem shX11_init_53 : cX11_init.data.toList.drop 53 = sxX11_init_53 := dSn 3 shX11_init_50
theorem shX11_init_54 : cX11_init.data.toList.drop 54 = sxX11_init_54 := dSn 1 shX11_init_53
theorem shX11_init_57 : cX11_init.data.toList.drop 57 = sxX11_init_57 := dSn 3 shX11_init_54
theorem shX11_init_60 : cX11_init.data.toList.drop 60 = sxX11_init_60 := dSn 3 shX11_init_57
theorem shX11_init_61 : cX11_init.data.toList.drop 61 = sxX11_init_61 := dSn 1 shX11_init_60
theorem shX11_init_64 : cX11_init.data.toList.drop 64 = sxX11_init_64 := dSn 3 shX11_init_61
theorem shX11_init_65 : cX11_init.data.toList.drop 65 = sxX11_init_65 := dSn 1 shX11_init_64
theorem shX11_init_68 : cX11_init.data.toList.drop 68 = sxX11_init_68 := dSn 3 shX11_init_65
theorem shX11_init_71 : cX11_init.data.toList.drop 71 = sxX11_init_71 := dSn 3 shX11_init_68
theorem shX11_init_72 : cX11_init.data.toList.drop 72 = sxX11_init_72 := dSn 1 shX11_init_71
theorem shX11_init_75 : cX11_init.data.toList.drop 75 = sxX11_init_75 := dSn 3 shX11_init_72
theorem shX11_init_76 : cX11_init.data.toList.drop 76 = sxX11_init_76 := dSn 1 shX11_init_75
theorem shX11_init_79 : cX11_init.data.toList.drop 79 = sxX11_init_79 := dSn 3 shX11_init_76
theorem shX11_init_82 : cX11_init.data.toList.drop 82 = sxX11_init_82 := dSn 3 shX11_init_79
theorem shX11_init_83 : cX11_init.data.toList.drop 83 = sxX11_init_83 := dSn 1 shX11_init_82
theorem shX11_init_86 : cX11_init.data.toList.drop 86 = sxX11_init_86 := dSn 3 shX11_init_83
theorem shX11_init_87 : cX11_init.data.toList.drop 87 = sxX11_init_87 := dSn 1 shX11_init_86
theorem shX11_init_90 : cX11_init.data.toList.drop 90 = sxX11_init_90 := dSn 3 shX11_init_87
theorem shX11_init_93 : cX11_init.data.toList.drop 93 = sxX11_init_93 := dSn 3 shX11_init_90
theorem shX11_init_94 : cX11_init.data.toList.drop 94 = sxX11_init_94 := dSn 1 shX11_init_93
theorem shX11_init_97 : cX11_init.data.toList.drop 97 = sxX11_init_97 := dSn 3 shX11_init_94
theorem shX11_init_98 : cX11_init.data.toList.drop 98 = sxX11_init_98 := dSn 1 shX11_init_97
theorem shX11_init_101 : cX11_init.data.toList.drop 101 = sxX11_init_101 := dSn 3 shX11_init_98
theorem shX11_init_104 : cX11_init.data.toList.drop 104 = sxX11_init_104 := dSn 3 shX11_init_101
theorem shX11_init_105 : cX11_init.data.toList.drop 105 = sxX11_init_105 := dSn 1 shX11_init_104
theorem shX11_init_108 : cX11_init.data.toList.drop 108 = sxX11_init_108 := dSn 3 shX11_init_105
theorem shX11_init_109 : cX11_init.data.toList.drop 109 = sxX11_init_109 := dSn 1 shX11_init_108
theorem shX11_init_112 : cX11_init.data.toList.drop 112 = sxX11_init_112 := dSn 3 shX11_init_109
theorem shX11_init_115 : cX11_init.data.toList.drop 115 = sxX11_init_115 := dSn 3 shX11_init_112
theorem shX11_init_116 : cX11_init.data.toList.drop 116 = sxX11_init_116 := dSn 1 shX11_init_115
theorem shX11_init_119 : cX11_init.data.toList.drop 119 = sxX11_init_119 := dSn 3 shX11_init_116
theorem shX11_init_120 : cX11_init.data.toList.drop 120 = sxX11_init_120 := dSn 1 shX11_init_119
theorem shX11_init_123 : cX11_init.data.toList.drop 123 = sxX11_init_123 := dSn 3 shX11_init_120
theorem shX11_init_126 : cX11_init.data.toList.drop 126 = sxX11_init_126 := dSn 3 shX11_init_123
theorem shX11_init_127 : cX11_init.data.toList.drop 127 = sxX11_init_127 := dSn 1 shX11_init_126
theorem shX11_init_130 : cX11_init.data.toList.drop 130 = sxX11_init_130 := dSn 3 shX11_init_127
theorem shX11_init_131 : cX11_init.data.toList.drop 131 = sxX11_init_131 := dSn 1 shX11_init_130
theorem shX11_init_134 : cX11_init.data.toList.drop 134 = sxX11_init_134 := dSn 3 shX11_init_131
theorem shX11_init_137 : cX11_init.data.toList.drop 137 = sxX11_init_137 := dSn 3 shX11_init_134
theorem dX11_init_0 : decode cX11_init 0 = .ok (.aload_n 0, 1) := oc_42 shX11_init_0
theorem dX11_init_1 : decode cX11_init 1 = .ok (.invokespecial 1, 3) := oc_183 shX11_init_1
theorem dX11_init_4 : decode cX11_init 4 = .ok (.aload_n 0, 1) := oc_42 shX11_init_4
theorem dX11_init_5 : decode cX11_init 5 = .ok (.new 7, 3) := oc_187 shX11_init_5
theorem dX11_init_8 : decode cX11_init 8 = .ok (.dup, 1) := oc_89 shX11_init_8
theorem dX11_init_9 : decode cX11_init 9 = .ok (.iconst 0, 1) := oc_3 shX11_init_9
theorem dX11_init_10 : decode cX11_init 10 = .ok (.invokespecial 9, 3) := oc_183 shX11_init_10
theorem dX11_init_13 : decode cX11_init 13 = .ok (.putfield 12, 3) := oc_181 shX11_init_13
theorem dX11_init_16 : decode cX11_init 16 = .ok (.aload_n 0, 1) := oc_42 shX11_init_16
theorem dX11_init_17 : decode cX11_init 17 = .ok (.new 18, 3) := oc_187 shX11_init_17
theorem dX11_init_20 : decode cX11_init 20 = .ok (.dup, 1) := oc_89 shX11_init_20
theorem dX11_init_21 : decode cX11_init 21 = .ok (.invokespecial 20, 3) := oc_183 shX11_init_21
theorem dX11_init_24 : decode cX11_init 24 = .ok (.putfield 21, 3) := oc_181 shX11_init_24
theorem dX11_init_27 : decode cX11_init 27 = .ok (.aload_n 0, 1) := oc_42 shX11_init_27
theorem dX11_init_28 : decode cX11_init 28 = .ok (.new 25, 3) := oc_187 shX11_init_28
theorem dX11_init_31 : decode cX11_init 31 = .ok (.dup, 1) := oc_89 shX11_init_31
theorem dX11_init_32 : decode cX11_init 32 = .ok (.invokespecial 27, 3) := oc_183 shX11_init_32
theorem dX11_init_35 : decode cX11_init 35 = .ok (.putfield 28, 3) := oc_181 shX11_init_35
theorem dX11_init_38 : decode cX11_init 38 = .ok (.aload_n 0, 1) := oc_42 shX11_init_38
theorem dX11_init_39 : decode cX11_init 39 = .ok (.ldc 32, 2) := oc_18 shX11_init_39
theorem dX11_init_41 : decode cX11_init 41 = .ok (.invokevirtual 34, 3) := oc_182 shX11_init_41
theorem dX11_init_44 : decode cX11_init 44 = .ok (.newarray .int, 2) := oc_188_10 shX11_init_44
theorem dX11_init_46 : decode cX11_init 46 = .ok (.putfield 40, 3) := oc_181 shX11_init_46
theorem dX11_init_49 : decode cX11_init 49 = .ok (.aload_n 0, 1) := oc_42 shX11_init_49
theorem dX11_init_50 : decode cX11_init 50 = .ok (.new 44, 3) := oc_187 shX11_init_50
theorem dX11_init_53 : decode cX11_init 53 = .ok (.dup, 1) := oc_89 shX11_init_53
theorem dX11_init_54 : decode cX11_init 54 = .ok (.invokespecial 46, 3) := oc_183 shX11_init_54
theorem dX11_init_57 : decode cX11_init 57 = .ok (.putfield 47, 3) := oc_181 shX11_init_57
theorem dX11_init_60 : decode cX11_init 60 = .ok (.aload_n 0, 1) := oc_42 shX11_init_60
theorem dX11_init_61 : decode cX11_init 61 = .ok (.new 51, 3) := oc_187 shX11_init_61
theorem dX11_init_64 : decode cX11_init 64 = .ok (.dup, 1) := oc_89 shX11_init_64
theorem dX11_init_65 : decode cX11_init 65 = .ok (.invokespecial 53, 3) := oc_183 shX11_init_65
theorem dX11_init_68 : decode cX11_init 68 = .ok (.putfield 54, 3) := oc_181 shX11_init_68
theorem dX11_init_71 : decode cX11_init 71 = .ok (.aload_n 0, 1) := oc_42 shX11_init_71
theorem dX11_init_72 : decode cX11_init 72 = .ok (.new 58, 3) := oc_187 shX11_init_72
theorem dX11_init_75 : decode cX11_init 75 = .ok (.dup, 1) := oc_89 shX11_init_75
theorem dX11_init_76 : decode cX11_init 76 = .ok (.invokespecial 60, 3) := oc_183 shX11_init_76
theorem dX11_init_79 : decode cX11_init 79 = .ok (.putfield 61, 3) := oc_181 shX11_init_79
theorem dX11_init_82 : decode cX11_init 82 = .ok (.aload_n 0, 1) := oc_42 shX11_init_82
theorem dX11_init_83 : decode cX11_init 83 = .ok (.new 58, 3) := oc_187 shX11_init_83
theorem dX11_init_86 : decode cX11_init 86 = .ok (.dup, 1) := oc_89 shX11_init_86
theorem dX11_init_87 : decode cX11_init 87 = .ok (.invokespecial 60, 3) := oc_183 shX11_init_87
theorem dX11_init_90 : decode cX11_init 90 = .ok (.putfield 65, 3) := oc_181 shX11_init_90
theorem dX11_init_93 : decode cX11_init 93 = .ok (.aload_n 0, 1) := oc_42 shX11_init_93
theorem dX11_init_94 : decode cX11_init 94 = .ok (.new 58, 3) := oc_187 shX11_init_94
theorem dX11_init_97 : decode cX11_init 97 = .ok (.dup, 1) := oc_89 shX11_init_97
theorem dX11_init_98 : decode cX11_init 98 = .ok (.invokespecial 60, 3) := oc_183 shX11_init_98
theorem dX11_init_101 : decode cX11_init 101 = .ok (.putfield 68, 3) := oc_181 shX11_init_101
theorem dX11_init_104 : decode cX11_init 104 = .ok (.aload_n 0, 1) := oc_42 shX11_init_104
theorem dX11_init_105 : decode cX11_init 105 = .ok (.new 58, 3) := oc_187 shX11_init_105
theorem dX11_init_108 : decode cX11_init 108 = .ok (.dup, 1) := oc_89 shX11_init_108
theorem dX11_init_109 : decode cX11_init 109 = .ok (.invokespecial 60, 3) := oc_183 shX11_init_109
theorem dX11_init_112 : decode cX11_init 112 = .ok (.putfield 71, 3) := oc_181 shX11_init_112
theorem dX11_init_115 : decode cX11_init 115 = .ok (.aload_n 0, 1) := oc_42 shX11_init_115
theorem dX11_init_116 : decode cX11_init 116 = .ok (.new 58, 3) := oc_187 shX11_init_116
theorem dX11_init_119 : decode cX11_init 119 = .ok (.dup, 1) := oc_89 shX11_init_119
theorem dX11_init_120 : decode cX11_init 120 = .ok (.invokespecial 60, 3) := oc_183 shX11_init_120
theorem dX11_init_123 : decode cX11_init 123 = .ok (.putfield 74, 3) := oc_181 shX11_init_123
theorem dX11_init_126 : decode cX11_init 126 = .ok (.aload_n 0, 1) := oc_42 shX11_init_126
theorem dX11_init_127 : decode cX11_init 127 = .ok (.new 58, 3) := oc_187 shX11_init_127
theorem dX11_init_130 : decode cX11_init 130 = .ok (.dup, 1) := oc_89 shX11_init_130
theorem dX11_init_131 : decode cX11_init 131 = .ok (.invokespecial 60, 3) := oc_183 shX11_init_131
theorem dX11_init_134 : decode cX11_init 134 = .ok (.putfield 77, 3) := oc_181 shX11_init_134
