theorem shX11_beside_0 : cX11_beside.data.toList.drop 0 = sxX11_beside_0 := rfl
theorem shX11_beside_1 : cX11_beside.data.toList.drop 1 = sxX11_beside_1 := dSn 1 shX11_beside_0
theorem shX11_beside_2 : cX11_beside.data.toList.drop 2 = sxX11_beside_2 := dSn 1 shX11_beside_1
theorem shX11_beside_5 : cX11_beside.data.toList.drop 5 = sxX11_beside_5 := dSn 3 shX11_beside_2
theorem shX11_beside_8 : cX11_beside.data.toList.drop 8 = sxX11_beside_8 := dSn 3 shX11_beside_5
theorem shX11_beside_11 : cX11_beside.data.toList.drop 11 = sxX11_beside_11 := dSn 3 shX11_beside_8
theorem shX11_beside_12 : cX11_beside.data.toList.drop 12 = sxX11_beside_12 := dSn 1 shX11_beside_11
theorem shX11_beside_13 : cX11_beside.data.toList.drop 13 = sxX11_beside_13 := dSn 1 shX11_beside_12
theorem shX11_beside_16 : cX11_beside.data.toList.drop 16 = sxX11_beside_16 := dSn 3 shX11_beside_13
theorem shX11_beside_19 : cX11_beside.data.toList.drop 19 = sxX11_beside_19 := dSn 3 shX11_beside_16
theorem shX11_beside_22 : cX11_beside.data.toList.drop 22 = sxX11_beside_22 := dSn 3 shX11_beside_19
theorem shX11_beside_23 : cX11_beside.data.toList.drop 23 = sxX11_beside_23 := dSn 1 shX11_beside_22
theorem shX11_beside_24 : cX11_beside.data.toList.drop 24 = sxX11_beside_24 := dSn 1 shX11_beside_23
theorem shX11_beside_25 : cX11_beside.data.toList.drop 25 = sxX11_beside_25 := dSn 1 shX11_beside_24
theorem shX11_beside_26 : cX11_beside.data.toList.drop 26 = sxX11_beside_26 := dSn 1 shX11_beside_25
theorem shX11_beside_27 : cX11_beside.data.toList.drop 27 = sxX11_beside_27 := dSn 1 shX11_beside_26
theorem shX11_beside_29 : cX11_beside.data.toList.drop 29 = sxX11_beside_29 := dSn 2 shX11_beside_27
theorem shX11_beside_31 : cX11_beside.data.toList.drop 31 = sxX11_beside_31 := dSn 2 shX11_beside_29
theorem shX11_beside_32 : cX11_beside.data.toList.drop 32 = sxX11_beside_32 := dSn 1 shX11_beside_31
theorem shX11_beside_35 : cX11_beside.data.toList.drop 35 = sxX11_beside_35 := dSn 3 shX11_beside_32
theorem shX11_beside_38 : cX11_beside.data.toList.drop 38 = sxX11_beside_38 := dSn 3 shX11_beside_35
theorem shX11_beside_41 : cX11_beside.data.toList.drop 41 = sxX11_beside_41 := dSn 3 shX11_beside_38
theorem shX11_beside_42 : cX11_beside.data.toList.drop 42 = sxX11_beside_42 := dSn 1 shX11_beside_41
theorem shX11_beside_45 : cX11_beside.data.toList.drop 45 = sxX11_beside_45 := dSn 3 shX11_beside_42
theorem shX11_beside_47 : cX11_beside.data.toList.drop 47 = sxX11_beside_47 := dSn 2 shX11_beside_45
theorem shX11_beside_50 : cX11_beside.data.toList.drop 50 = sxX11_beside_50 := dSn 3 shX11_beside_47
theorem shX11_beside_53 : cX11_beside.data.toList.drop 53 = sxX11_beside_53 := dSn 3 shX11_beside_50
theorem shX11_beside_55 : cX11_beside.data.toList.drop 55 = sxX11_beside_55 := dSn 2 shX11_beside_53
theorem shX11_beside_56 : cX11_beside.data.toList.drop 56 = sxX11_beside_56 := dSn 1 shX11_beside_55
theorem shX11_beside_58 : cX11_beside.data.toList.drop 58 = sxX11_beside_58 := dSn 2 shX11_beside_56
theorem shX11_beside_61 : cX11_beside.data.toList.drop 61 = sxX11_beside_61 := dSn 3 shX11_beside_58
theorem shX11_beside_64 : cX11_beside.data.toList.drop 64 = sxX11_beside_64 := dSn 3 shX11_beside_61
theorem shX11_beside_65 : cX11_beside.data.toList.drop 65 = sxX11_beside_65 := dSn 1 shX11_beside_64
theorem shX11_beside_67 : cX11_beside.data.toList.drop 67 = sxX11_beside_67 := dSn 2 shX11_beside_65
theorem shX11_beside_68 : cX11_beside.data.toList.drop 68 = sxX11_beside_68 := dSn 1 shX11_beside_67
theorem shX11_beside_69 : cX11_beside.data.toList.drop 69 = sxX11_beside_69 := dSn 1 shX11_beside_68
theorem shX11_beside_72 : cX11_beside.data.toList.drop 72 = sxX11_beside_72 := dSn 3 shX11_beside_69
theorem shX11_beside_75 : cX11_beside.data.toList.drop 75 = sxX11_beside_75 := dSn 3 shX11_beside_72
theorem shX11_beside_76 : cX11_beside.data.toList.drop 76 = sxX11_beside_76 := dSn 1 shX11_beside_75
theorem shX11_beside_78 : cX11_beside.data.toList.drop 78 = sxX11_beside_78 := dSn 2 shX11_beside_76
theorem shX11_beside_79 : cX11_beside.data.toList.drop 79 = sxX11_beside_79 := dSn 1 shX11_beside_78
theorem shX11_beside_82 : cX11_beside.data.toList.drop 82 = sxX11_beside_82 := dSn 3 shX11_beside_79
theorem shX11_beside_83 : cX11_beside.data.toList.drop 83 = sxX11_beside_83 := dSn 1 shX11_beside_82
theorem shX11_beside_84 : cX11_beside.data.toList.drop 84 = sxX11_beside_84 := dSn 1 shX11_beside_83
theorem shX11_beside_85 : cX11_beside.data.toList.drop 85 = sxX11_beside_85 := dSn 1 shX11_beside_84
theorem shX11_beside_88 : cX11_beside.data.toList.drop 88 = sxX11_beside_88 := dSn 3 shX11_beside_85
theorem shX11_beside_91 : cX11_beside.data.toList.drop 91 = sxX11_beside_91 := dSn 3 shX11_beside_88
theorem shX11_beside_92 : cX11_beside.data.toList.drop 92 = sxX11_beside_92 := dSn 1 shX11_beside_91
theorem dX11_beside_0 : decode cX11_beside 0 = .ok (.iload_n 1, 1) := oc_27 shX11_beside_0
theorem dX11_beside_1 : decode cX11_beside 1 = .ok (.iconst 0, 1) := oc_3 shX11_beside_1
theorem dX11_beside_2 : decode cX11_beside 2 = .ok (.sipush 198, 3) := oc_17 shX11_beside_2 sgw_0_198
theorem dX11_beside_5 : decode cX11_beside 5 = .ok (.invokestatic 80, 3) := oc_184 shX11_beside_5
theorem dX11_beside_8 : decode cX11_beside 8 = .ok (.ifCond .eq 14, 3) := oc_153 shX11_beside_8 sgw_0_14
theorem dX11_beside_11 : decode cX11_beside 11 = .ok (.iload_n 2, 1) := oc_28 shX11_beside_11
theorem dX11_beside_12 : decode cX11_beside 12 = .ok (.iconst 1, 1) := oc_4 shX11_beside_12
theorem dX11_beside_13 : decode cX11_beside 13 = .ok (.sipush 1000, 3) := oc_17 shX11_beside_13 sgw_3_232
theorem dX11_beside_16 : decode cX11_beside 16 = .ok (.invokestatic 80, 3) := oc_184 shX11_beside_16
theorem dX11_beside_19 : decode cX11_beside 19 = .ok (.ifCond .ne 5, 3) := oc_154 shX11_beside_19 sgw_0_5
theorem dX11_beside_24 : decode cX11_beside 24 = .ok (.iconst 0, 1) := oc_3 shX11_beside_24
theorem dX11_beside_25 : decode cX11_beside 25 = .ok (.istore_n 3, 1) := oc_62 shX11_beside_25
theorem dX11_beside_26 : decode cX11_beside 26 = .ok (.iconst 0, 1) := oc_3 shX11_beside_26
theorem dX11_beside_27 : decode cX11_beside 27 = .ok (.istore 4, 2) := oc_54 shX11_beside_27
theorem dX11_beside_29 : decode cX11_beside 29 = .ok (.iload 4, 2) := oc_21 shX11_beside_29
theorem dX11_beside_31 : decode cX11_beside 31 = .ok (.aload_n 0, 1) := oc_42 shX11_beside_31
theorem dX11_beside_32 : decode cX11_beside 32 = .ok (.getfield 61, 3) := oc_180 shX11_beside_32
theorem dX11_beside_35 : decode cX11_beside 35 = .ok (.invokevirtual 84, 3) := oc_182 shX11_beside_35
theorem dX11_beside_38 : decode cX11_beside 38 = .ok (.if_icmp .ge 53, 3) := oc_162 shX11_beside_38 sgw_0_53
theorem dX11_beside_91 : decode cX11_beside 91 = .ok (.iload_n 3, 1) := oc_29 shX11_beside_91
theorem dX11_beside_92 : decode cX11_beside 92 = .ok (.ireturn, 1) := oc_172 shX11_beside_92
theorem dX11_beside_41 : decode cX11_beside 41 = .ok (.aload_n 0, 1) := oc_42 shX11_beside_41
theorem dX11_beside_42 : decode cX11_beside 42 = .ok (.getfield 61, 3) := oc_180 shX11_beside_42
theorem dX11_beside_45 : decode cX11_beside 45 = .ok (.iload 4, 2) := oc_21 shX11_beside_45
theorem dX11_beside_47 : decode cX11_beside 47 = .ok (.invokevirtual 87, 3) := oc_182 shX11_beside_47
theorem dX11_beside_50 : decode cX11_beside 50 = .ok (.checkcast 91, 3) := oc_192 shX11_beside_50
theorem dX11_beside_53 : decode cX11_beside 53 = .ok (.astore 5, 2) := oc_58 shX11_beside_53
theorem dX11_beside_55 : decode cX11_beside 55 = .ok (.iload_n 3, 1) := oc_29 shX11_beside_55
theorem dX11_beside_56 : decode cX11_beside 56 = .ok (.aload 5, 2) := oc_25 shX11_beside_56
theorem dX11_beside_58 : decode cX11_beside 58 = .ok (.getfield 459, 3) := oc_180 shX11_beside_58
theorem dX11_beside_61 : decode cX11_beside 61 = .ok (.ifCond .ne 21, 3) := oc_154 shX11_beside_61 sgw_0_21
theorem dX11_beside_82 : decode cX11_beside 82 = .ok (.iconst 0, 1) := oc_3 shX11_beside_82
theorem dX11_beside_83 : decode cX11_beside 83 = .ok (.ior, 1) := oc_128 shX11_beside_83
theorem dX11_beside_84 : decode cX11_beside 84 = .ok (.istore_n 3, 1) := oc_62 shX11_beside_84
theorem dX11_beside_85 : decode cX11_beside 85 = .ok (.iinc 4 1, 3) := oc_132 shX11_beside_85 sgb_1
theorem dX11_beside_88 : decode cX11_beside 88 = .ok (.goto (-59), 3) := oc_167 shX11_beside_88 sgw_255_197
theorem dX11_beside_64 : decode cX11_beside 64 = .ok (.aload_n 0, 1) := oc_42 shX11_beside_64
theorem dX11_beside_65 : decode cX11_beside 65 = .ok (.aload 5, 2) := oc_25 shX11_beside_65
theorem dX11_beside_67 : decode cX11_beside 67 = .ok (.iload_n 1, 1) := oc_27 shX11_beside_67
theorem dX11_beside_68 : decode cX11_beside 68 = .ok (.iload_n 2, 1) := oc_28 shX11_beside_68
theorem dX11_beside_69 : decode cX11_beside 69 = .ok (.invokevirtual 482, 3) := oc_182 shX11_beside_69
theorem dX11_beside_72 : decode cX11_beside 72 = .ok (.ifCond .eq 10, 3) := oc_153 shX11_beside_72 sgw_0_10
theorem dX11_beside_75 : decode cX11_beside 75 = .ok (.iconst 1, 1) := oc_4 shX11_beside_75
theorem dX11_beside_76 : decode cX11_beside 76 = .ok (.iload 4, 2) := oc_21 shX11_beside_76
theorem dX11_beside_78 : decode cX11_beside 78 = .ok (.ishl, 1) := oc_120 shX11_beside_78
theorem dX11_beside_79 : decode cX11_beside 79 = .ok (.goto 4, 3) := oc_167 shX11_beside_79 sgw_0_4
theorem dX11_beside_22 : decode cX11_beside 22 = .ok (.iconst (-1), 1) := oc_2 shX11_beside_22
theorem dX11_beside_23 : decode cX11_beside 23 = .ok (.ireturn, 1) := oc_172 shX11_beside_23
def sxX11_late_90 : List UInt8 := []
def sxX11_late_89 : List UInt8 := 172 :: sxX11_late_90
def sxX11_late_88 : List UInt8 := 29 :: sxX11_late_89
def sxX11_late_85 : List UInt8 := 167 :: 255 :: 197 :: sxX11_late_88
def sxX11_late_82 : List UInt8 := 132 :: 4 :: 1 :: sxX11_late_85
def sxX11_late_81 : List UInt8 := 62 :: sxX11_late_82
def sxX11_late_80 : List UInt8 := 96 :: sxX11_late_81
def sxX11_late_79 : List UInt8 := 3 :: sxX11_late_80
def sxX11_late_76 : List UInt8 := 167 :: 0 :: 4 :: sxX11_late_79
def sxX11_late_75 : List UInt8 := 4 :: sxX11_late_76
def sxX11_late_72 : List UInt8 := 153 :: 0 :: 7 :: sxX11_late_75
def sxX11_late_69 : List UInt8 := 182 :: 1 :: 233 :: sxX11_late_72
def sxX11_late_68 : List UInt8 := 28 :: sxX11_late_69
def sxX11_late_65 : List UInt8 := 180 :: 0 :: 196 :: sxX11_late_68
def sxX11_late_63 : List UInt8 := 25 :: 5 :: sxX11_late_65
def sxX11_late_62 : List UInt8 := 42 :: sxX11_late_63
def sxX11_late_59 : List UInt8 := 160 :: 0 :: 20 :: sxX11_late_62
def sxX11_late_58 : List UInt8 := 27 :: sxX11_late_59
def sxX11_late_55 : List UInt8 := 180 :: 0 :: 211 :: sxX11_late_58
def sxX11_late_53 : List UInt8 := 25 :: 5 :: sxX11_late_55
def sxX11_late_52 : List UInt8 := 29 :: sxX11_late_53
def sxX11_late_50 : List UInt8 := 58 :: 5 :: sxX11_late_52
def sxX11_late_47 : List UInt8 := 192 :: 0 :: 93 :: sxX11_late_50
def sxX11_late_44 : List UInt8 := 182 :: 0 :: 87 :: sxX11_late_47
def sxX11_late_42 : List UInt8 := 21 :: 4 :: sxX11_late_44
def sxX11_late_39 : List UInt8 := 180 :: 0 :: 65 :: sxX11_late_42
def sxX11_late_38 : List UInt8 := 42 :: sxX11_late_39
def sxX11_late_35 : List UInt8 := 162 :: 0 :: 53 :: sxX11_late_38
def sxX11_late_32 : List UInt8 := 182 :: 0 :: 84 :: sxX11_late_35
def sxX11_late_29 : List UInt8 := 180 :: 0 :: 65 :: sxX11_late_32
def sxX11_late_28 : List UInt8 := 42 :: sxX11_late_29
def sxX11_late_26 : List UInt8 := 21 :: 4 :: sxX11_late_28
def sxX11_late_24 : List UInt8 := 54 :: 4 :: sxX11_late_26
def sxX11_late_23 : List UInt8 := 3 :: sxX11_late_24
def sxX11_late_22 : List UInt8 := 62 :: sxX11_late_23
def sxX11_late_21 : List UInt8 := 3 :: sxX11_late_22
def sxX11_late_20 : List UInt8 := 172 :: sxX11_late_21
def sxX11_late_19 : List UInt8 := 2 :: sxX11_late_20
def sxX11_late_16 : List UInt8 := 154 :: 0 :: 5 :: sxX11_late_19
def sxX11_late_13 : List UInt8 := 184 :: 0 :: 80 :: sxX11_late_16
def sxX11_late_11 : List UInt8 := 16 :: 41 :: sxX11_late_13
def sxX11_late_9 : List UInt8 := 16 :: 216 :: sxX11_late_11
def sxX11_late_8 : List UInt8 := 28 :: sxX11_late_9
def sxX11_late_5 : List UInt8 := 198 :: 0 :: 14 :: sxX11_late_8
def sxX11_late_2 : List UInt8 := 182 :: 0 :: 114 :: sxX11_late_5
def sxX11_late_1 : List UInt8 := 27 :: sxX11_late_2
def sxX11_late_0 : List UInt8 := 42 :: sxX11_late_1
theorem shX11_late_0 : cX11_late.data.toList.drop 0 = sxX11_late_0 := rfl
theorem shX11_late_1 : cX11_late.data.toList.drop 1 = sxX11_late_1 := dSn 1 shX11_late_0
theorem shX11_late_2 : cX11_late.data.toList.drop 2 = sxX11_late_2 := dSn 1 shX11_late_1
theorem shX11_late_5 : cX11_late.data.toList.drop 5 = sxX11_late_5 := dSn 3 shX11_late_2
theorem shX11_late_8 : cX11_late.data.toList.drop 8 = sxX11_late_8 := dSn 3 shX11_late_5
theorem shX11_late_9 : cX11_late.data.toList.drop 9 = sxX11_late_9 := dSn 1 shX11_late_8
theorem shX11_late_11 : cX11_late.data.toList.drop 11 = sxX11_late_11 := dSn 2 shX11_late_9
theorem shX11_late_13 : cX11_late.data.toList.drop 13 = sxX11_late_13 := dSn 2 shX11_late_11
theorem shX11_late_16 : cX11_late.data.toList.drop 16 = sxX11_late_16 := dSn 3 shX11_late_13
theorem shX11_late_19 : cX11_late.data.toList.drop 19 = sxX11_late_19 := dSn 3 shX11_late_16
theorem shX11_late_20 : cX11_late.data.toList.drop 20 = sxX11_late_20 := dSn 1 shX11_late_19
theorem shX11_late_21 : cX11_late.data.toList.drop 21 = sxX11_late_21 := dSn 1 shX11_late_20
theorem shX11_late_22 : cX11_late.data.toList.drop 22 = sxX11_late_22 := dSn 1 shX11_late_21
theorem shX11_late_23 : cX11_late.data.toList.drop 23 = sxX11_late_23 := dSn 1 shX11_late_22
theorem shX11_late_24 : cX11_late.data.toList.drop 24 = sxX11_late_24 := dSn 1 shX11_late_23
theorem shX11_late_26 : cX11_late.data.toList.drop 26 = sxX11_late_26 := dSn 2 shX11_late_24
theorem shX11_late_28 : cX11_late.data.toList.drop 28 = sxX11_late_28 := dSn 2 shX11_late_26
theorem shX11_late_29 : cX11_late.data.toList.drop 29 = sxX11_late_29 := dSn 1 shX11_late_28
theorem shX11_late_32 : cX11_late.data.toList.drop 32 = sxX11_late_32 := dSn 3 shX11_late_29
theorem shX11_late_35 : cX11_late.data.toList.drop 35 = sxX11_late_35 := dSn 3 shX11_late_32
theorem shX11_late_38 : cX11_late.data.toList.drop 38 = sxX11_late_38 := dSn 3 shX11_late_35
theorem shX11_late_39 : cX11_late.data.toList.drop 39 = sxX11_late_39 := dSn 1 shX11_late_38
theorem shX11_late_42 : cX11_late.data.toList.drop 42 = sxX11_late_42 := dSn 3 shX11_late_39
theorem shX11_late_44 : cX11_late.data.toList.drop 44 = sxX11_late_44 := dSn 2 shX11_late_42
theorem shX11_late_47 : cX11_late.data.toList.drop 47 = sxX11_late_47 := dSn 3 shX11_late_44
theorem shX11_late_50 : cX11_late.data.toList.drop 50 = sxX11_late_50 := dSn 3 shX11_late_47
theorem shX11_late_52 : cX11_late.data.toList.drop 52 = sxX11_late_52 := dSn 2 shX11_late_50
theorem shX11_late_53 : cX11_late.data.toList.drop 53 = sxX11_late_53 := dSn 1 shX11_late_52
theorem shX11_late_55 : cX11_late.data.toList.drop 55 = sxX11_late_55 := dSn 2 shX11_late_53
theorem shX11_late_58 : cX11_late.data.toList.drop 58 = sxX11_late_58 := dSn 3 shX11_late_55
theorem shX11_late_59 : cX11_late.data.toList.drop 59 = sxX11_late_59 := dSn 1 shX11_late_58
theorem shX11_late_62 : cX11_late.data.toList.drop 62 = sxX11_late_62 := dSn 3 shX11_late_59
theorem shX11_late_63 : cX11_late.data.toList.drop 63 = sxX11_late_63 := dSn 1 shX11_late_62
theorem shX11_late_65 : cX11_late.data.toList.drop 65 = sxX11_late_65 := dSn 2 shX11_late_63
theorem shX11_late_68 : cX11_late.data.toList.drop 68 = sxX11_late_68 := dSn 3 shX11_late_65
theorem shX11_late_69 : cX11_late.data.toList.drop 69 = sxX11_late_69 := dSn 1 shX11_late_68
theorem shX11_late_72 : cX11_late.data.toList.drop 72 = sxX11_late_72 := dSn 3 shX11_late_69
theorem shX11_late_75 : cX11_late.data.toList.drop 75 = sxX11_late_75 := dSn 3 shX11_late_72
theorem shX11_late_76 : cX11_late.data.toList.drop 76 = sxX11_late_76 := dSn 1 shX11_late_75
theorem shX11_late_79 : cX11_late.data.toList.drop 79 = sxX11_late_79 := dSn 3 shX11_late_76
theorem shX11_late_80 : cX11_late.data.toList.drop 80 = sxX11_late_80 := dSn 1 shX11_late_79
theorem shX11_late_81 : cX11_late.data.toList.drop 81 = sxX11_late_81 := dSn 1 shX11_late_80
theorem shX11_late_82 : cX11_late.data.toList.drop 82 = sxX11_late_82 := dSn 1 shX11_late_81
theorem shX11_late_85 : cX11_late.data.toList.drop 85 = sxX11_late_85 := dSn 3 shX11_late_82
theorem shX11_late_88 : cX11_late.data.toList.drop 88 = sxX11_late_88 := dSn 3 shX11_late_85
theorem shX11_late_89 : cX11_late.data.toList.drop 89 = sxX11_late_89 := dSn 1 shX11_late_88
theorem dX11_late_0 : decode cX11_late 0 = .ok (.aload_n 0, 1) := oc_42 shX11_late_0
theorem dX11_late_1 : decode cX11_late 1 = .ok (.iload_n 1, 1) := oc_27 shX11_late_1
theorem dX11_late_2 : decode cX11_late 2 = .ok (.invokevirtual 114, 3) := oc_182 shX11_late_2
theorem dX11_late_5 : decode cX11_late 5 = .ok (.ifnull 14, 3) := oc_198 shX11_late_5 sgw_0_14
theorem dX11_late_8 : decode cX11_late 8 = .ok (.iload_n 2, 1) := oc_28 shX11_late_8
theorem dX11_late_9 : decode cX11_late 9 = .ok (.bipush (-40), 2) := oc_16 shX11_late_9 sgb_216
theorem dX11_late_11 : decode cX11_late 11 = .ok (.bipush 41, 2) := oc_16 shX11_late_11 sgb_41
theorem dX11_late_13 : decode cX11_late 13 = .ok (.invokestatic 80, 3) := oc_184 shX11_late_13
theorem dX11_late_16 : decode cX11_late 16 = .ok (.ifCond .ne 5, 3) := oc_154 shX11_late_16 sgw_0_5
theorem dX11_late_21 : decode cX11_late 21 = .ok (.iconst 0, 1) := oc_3 shX11_late_21
theorem dX11_late_22 : decode cX11_late 22 = .ok (.istore_n 3, 1) := oc_62 shX11_late_22
theorem dX11_late_23 : decode cX11_late 23 = .ok (.iconst 0, 1) := oc_3 shX11_late_23
theorem dX11_late_24 : decode cX11_late 24 = .ok (.istore 4, 2) := oc_54 shX11_late_24
theorem dX11_late_26 : decode cX11_late 26 = .ok (.iload 4, 2) := oc_21 shX11_late_26
theorem dX11_late_28 : decode cX11_late 28 = .ok (.aload_n 0, 1) := oc_42 shX11_late_28
theorem dX11_late_29 : decode cX11_late 29 = .ok (.getfield 65, 3) := oc_180 shX11_late_29
theorem dX11_late_32 : decode cX11_late 32 = .ok (.invokevirtual 84, 3) := oc_182 shX11_late_32
theorem dX11_late_35 : decode cX11_late 35 = .ok (.if_icmp .ge 53, 3) := oc_162 shX11_late_35 sgw_0_53
theorem dX11_late_88 : decode cX11_late 88 = .ok (.iload_n 3, 1) := oc_29 shX11_late_88
theorem dX11_late_89 : decode cX11_late 89 = .ok (.ireturn, 1) := oc_172 shX11_late_89
theorem dX11_late_38 : decode cX11_late 38 = .ok (.aload_n 0, 1) := oc_42 shX11_late_38
theorem dX11_late_39 : decode cX11_late 39 = .ok (.getfield 65, 3) := oc_180 shX11_late_39
theorem dX11_late_42 : decode cX11_late 42 = .ok (.iload 4, 2) := oc_21 shX11_late_42
theorem dX11_late_44 : decode cX11_late 44 = .ok (.invokevirtual 87, 3) := oc_182 shX11_late_44
theorem dX11_late_47 : decode cX11_late 47 = .ok (.checkcast 93, 3) := oc_192 shX11_late_47
theorem dX11_late_50 : decode cX11_late 50 = .ok (.astore 5, 2) := oc_58 shX11_late_50
theorem dX11_late_52 : decode cX11_late 52 = .ok (.iload_n 3, 1) := oc_29 shX11_late_52
theorem dX11_late_53 : decode cX11_late 53 = .ok (.aload 5, 2) := oc_25 shX11_late_53
theorem dX11_late_55 : decode cX11_late 55 = .ok (.getfield 211, 3) := oc_180 shX11_late_55
theorem dX11_late_58 : decode cX11_late 58 = .ok (.iload_n 1, 1) := oc_27 shX11_late_58
theorem dX11_late_59 : decode cX11_late 59 = .ok (.if_icmp .ne 20, 3) := oc_160 shX11_late_59 sgw_0_20
theorem dX11_late_79 : decode cX11_late 79 = .ok (.iconst 0, 1) := oc_3 shX11_late_79
theorem dX11_late_80 : decode cX11_late 80 = .ok (.iadd, 1) := oc_96 shX11_late_80
theorem dX11_late_81 : decode cX11_late 81 = .ok (.istore_n 3, 1) := oc_62 shX11_late_81
theorem dX11_late_82 : decode cX11_late 82 = .ok (.iinc 4 1, 3) := oc_132 shX11_late_82 sgb_1
theorem dX11_late_85 : decode cX11_late 85 = .ok (.goto (-59), 3) := oc_167 shX11_late_85 sgw_255_197
theorem dX11_late_62 : decode cX11_late 62 = .ok (.aload_n 0, 1) := oc_42 shX11_late_62
theorem dX11_late_63 : decode cX11_late 63 = .ok (.aload 5, 2) := oc_25 shX11_late_63
theorem dX11_late_65 : decode cX11_late 65 = .ok (.getfield 196, 3) := oc_180 shX11_late_65
theorem dX11_late_68 : decode cX11_late 68 = .ok (.iload_n 2, 1) := oc_28 shX11_late_68
theorem dX11_late_69 : decode cX11_late 69 = .ok (.invokevirtual 489, 3) := oc_182 shX11_late_69
theorem dX11_late_72 : decode cX11_late 72 = .ok (.ifCond .eq 7, 3) := oc_153 shX11_late_72 sgw_0_7
theorem dX11_late_75 : decode cX11_late 75 = .ok (.iconst 1, 1) := oc_4 shX11_late_75
theorem dX11_late_76 : decode cX11_late 76 = .ok (.goto 4, 3) := oc_167 shX11_late_76 sgw_0_4
theorem dX11_late_19 : decode cX11_late 19 = .ok (.iconst (-1), 1) := oc_2 shX11_late_19
theorem dX11_late_20 : decode cX11_late 20 = .ok (.ireturn, 1) := oc_172 shX11_late_20
def sxX2_shortOf_16 : List UInt8 := []
def sxX2_shortOf_15 : List UInt8 := 172 :: sxX2_shortOf_16
def sxX2_shortOf_12 : List UInt8 := 184 :: 0 :: 28 :: sxX2_shortOf_15
def sxX2_shortOf_11 : List UInt8 := 100 :: sxX2_shortOf_12
def sxX2_shortOf_10 : List UInt8 := 108 :: sxX2_shortOf_11
def sxX2_shortOf_8 : List UInt8 := 16 :: 10 :: sxX2_shortOf_10
def sxX2_shortOf_7 : List UInt8 := 27 :: sxX2_shortOf_8
def sxX2_shortOf_6 : List UInt8 := 100 :: sxX2_shortOf_7
def sxX2_shortOf_3 : List UInt8 := 180 :: 0 :: 16 :: sxX2_shortOf_6
def sxX2_shortOf_2 : List UInt8 := 42 :: sxX2_shortOf_3
def sxX2_shortOf_1 : List UInt8 := 27 :: sxX2_shortOf_2
def sxX2_shortOf_0 : List UInt8 := 3 :: sxX2_shortOf_1
theorem shX2_shortOf_0 : cX2_shortOf.data.toList.drop 0 = sxX2_shortOf_0 := rfl
theorem shX2_shortOf_1 : cX2_shortOf.data.toList.drop 1 = sxX2_shortOf_1 := dSn 1 shX2_shortOf_0
theorem shX2_shortOf_2 : cX2_shortOf.data.toList.drop 2 = sxX2_shortOf_2 := dSn 1 shX2_shortOf_1
theorem shX2_shortOf_3 : cX2_shortOf.data.toList.drop 3 = sxX2_shortOf_3 := dSn 1 shX2_shortOf_2
theorem shX2_shortOf_6 : cX2_shortOf.data.toList.drop 6 = sxX2_shortOf_6 := dSn 3 shX2_shortOf_3
theorem shX2_shortOf_7 : cX2_shortOf.data.toList.drop 7 = sxX2_shortOf_7 := dSn 1 shX2_shortOf_6
theorem shX2_shortOf_8 : cX2_shortOf.data.toList.drop 8 = sxX2_shortOf_8 := dSn 1 shX2_shortOf_7
theorem shX2_shortOf_10 : cX2_shortOf.data.toList.drop 10 = sxX2_shortOf_10 := dSn 2 shX2_shortOf_8
theorem shX2_shortOf_11 : cX2_shortOf.data.toList.drop 11 = sxX2_shortOf_11 := dSn 1 shX2_shortOf_10
theorem shX2_shortOf_12 : cX2_shortOf.data.toList.drop 12 = sxX2_shortOf_12 := dSn 1 shX2_shortOf_11
theorem shX2_shortOf_15 : cX2_shortOf.data.toList.drop 15 = sxX2_shortOf_15 := dSn 3 shX2_shortOf_12
theorem dX2_shortOf_0 : decode cX2_shortOf 0 = .ok (.iconst 0, 1) := oc_3 shX2_shortOf_0
theorem dX2_shortOf_1 : decode cX2_shortOf 1 = .ok (.iload_n 1, 1) := oc_27 shX2_shortOf_1
theorem dX2_shortOf_2 : decode cX2_shortOf 2 = .ok (.aload_n 0, 1) := oc_42 shX2_shortOf_2
theorem dX2_shortOf_3 : decode cX2_shortOf 3 = .ok (.getfield 16, 3) := oc_180 shX2_shortOf_3
theorem dX2_shortOf_6 : decode cX2_shortOf 6 = .ok (.isub, 1) := oc_100 shX2_shortOf_6
theorem dX2_shortOf_7 : decode cX2_shortOf 7 = .ok (.iload_n 1, 1) := oc_27 shX2_shortOf_7
theorem dX2_shortOf_8 : decode cX2_shortOf 8 = .ok (.bipush 10, 2) := oc_16 shX2_shortOf_8 sgb_10
theorem dX2_shortOf_10 : decode cX2_shortOf 10 = .ok (.idiv, 1) := oc_108 shX2_shortOf_10
theorem dX2_shortOf_11 : decode cX2_shortOf 11 = .ok (.isub, 1) := oc_100 shX2_shortOf_11
theorem dX2_shortOf_12 : decode cX2_shortOf 12 = .ok (.invokestatic 28, 3) := oc_184 shX2_shortOf_12
theorem dX2_shortOf_15 : decode cX2_shortOf 15 = .ok (.ireturn, 1) := oc_172 shX2_shortOf_15
def sxX11_feastedFill_60 : List UInt8 := []
def sxX11_feastedFill_59 : List UInt8 := 172 :: sxX11_feastedFill_60
def sxX11_feastedFill_56 : List UInt8 := 184 :: 0 :: 227 :: sxX11_feastedFill_59
def sxX11_feastedFill_53 : List UInt8 := 180 :: 1 :: 239 :: sxX11_feastedFill_56
def sxX11_feastedFill_52 : List UInt8 := 44 :: sxX11_feastedFill_53
def sxX11_feastedFill_51 : List UInt8 := 29 :: sxX11_feastedFill_52
def sxX11_feastedFill_48 : List UInt8 := 167 :: 255 :: 218 :: sxX11_feastedFill_51
def sxX11_feastedFill_45 : List UInt8 := 132 :: 4 :: 1 :: sxX11_feastedFill_48
def sxX11_feastedFill_44 : List UInt8 := 62 :: sxX11_feastedFill_45
def sxX11_feastedFill_43 : List UInt8 := 96 :: sxX11_feastedFill_44
def sxX11_feastedFill_42 : List UInt8 := 108 :: sxX11_feastedFill_43
def sxX11_feastedFill_40 : List UInt8 := 16 :: 100 :: sxX11_feastedFill_42
def sxX11_feastedFill_39 : List UInt8 := 104 :: sxX11_feastedFill_40
def sxX11_feastedFill_38 : List UInt8 := 96 :: sxX11_feastedFill_39
def sxX11_feastedFill_35 : List UInt8 := 184 :: 0 :: 192 :: sxX11_feastedFill_38
def sxX11_feastedFill_33 : List UInt8 := 21 :: 4 :: sxX11_feastedFill_35
def sxX11_feastedFill_30 : List UInt8 := 180 :: 1 :: 236 :: sxX11_feastedFill_33
def sxX11_feastedFill_27 : List UInt8 := 180 :: 0 :: 47 :: sxX11_feastedFill_30
def sxX11_feastedFill_26 : List UInt8 := 42 :: sxX11_feastedFill_27
def sxX11_feastedFill_24 : List UInt8 := 16 :: 100 :: sxX11_feastedFill_26
def sxX11_feastedFill_21 : List UInt8 := 180 :: 1 :: 203 :: sxX11_feastedFill_24
def sxX11_feastedFill_20 : List UInt8 := 44 :: sxX11_feastedFill_21
def sxX11_feastedFill_19 : List UInt8 := 29 :: sxX11_feastedFill_20
def sxX11_feastedFill_16 : List UInt8 := 163 :: 0 :: 35 :: sxX11_feastedFill_19
def sxX11_feastedFill_13 : List UInt8 := 180 :: 0 :: 196 :: sxX11_feastedFill_16
def sxX11_feastedFill_12 : List UInt8 := 43 :: sxX11_feastedFill_13
def sxX11_feastedFill_10 : List UInt8 := 21 :: 4 :: sxX11_feastedFill_12
def sxX11_feastedFill_8 : List UInt8 := 54 :: 4 :: sxX11_feastedFill_10
def sxX11_feastedFill_7 : List UInt8 := 96 :: sxX11_feastedFill_8
def sxX11_feastedFill_6 : List UInt8 := 4 :: sxX11_feastedFill_7
def sxX11_feastedFill_3 : List UInt8 := 180 :: 0 :: 128 :: sxX11_feastedFill_6
def sxX11_feastedFill_2 : List UInt8 := 43 :: sxX11_feastedFill_3
def sxX11_feastedFill_1 : List UInt8 := 62 :: sxX11_feastedFill_2
def sxX11_feastedFill_0 : List UInt8 := 3 :: sxX11_feastedFill_1
theorem shX11_feastedFill_0 : cX11_feastedFill.data.toList.drop 0 = sxX11_feastedFill_0 := rfl
theorem shX11_feastedFill_1 : cX11_feastedFill.data.toList.drop 1 = sxX11_feastedFill_1 := dSn 1 shX11_feastedFill_0
theorem shX11_feastedFill_2 : cX11_feastedFill.data.toList.drop 2 = sxX11_feastedFill_2 := dSn 1 shX11_feastedFill_1
theorem shX11_feastedFill_3 : cX11_feastedFill.data.toList.drop 3 = sxX11_feastedFill_3 := dSn 1 shX11_feastedFill_2
theorem shX11_feastedFill_6 : cX11_feastedFill.data.toList.drop 6 = sxX11_feastedFill_6 := dSn 3 shX11_feastedFill_3
theorem shX11_feastedFill_7 : cX11_feastedFill.data.toList.drop 7 = sxX11_feastedFill_7 := dSn 1 shX11_feastedFill_6
theorem shX11_feastedFill_8 : cX11_feastedFill.data.toList.drop 8 = sxX11_feastedFill_8 := dSn 1 shX11_feastedFill_7
theorem shX11_feastedFill_10 : cX11_feastedFill.data.toList.drop 10 = sxX11_feastedFill_10 := dSn 2 shX11_feastedFill_8
theorem shX11_feastedFill_12 : cX11_feastedFill.data.toList.drop 12 = sxX11_feastedFill_12 := dSn 2 shX11_feastedFill_10
theorem shX11_feastedFill_13 : cX11_feastedFill.data.toList.drop 13 = sxX11_feastedFill_13 := dSn 1 shX11_feastedFill_12
theorem shX11_feastedFill_16 : cX11_feastedFill.data.toList.drop 16 = sxX11_feastedFill_16 := dSn 3 shX11_feastedFill_13
theorem shX11_feastedFill_19 : cX11_feastedFill.data.toList.drop 19 = sxX11_feastedFill_19 := dSn 3 shX11_feastedFill_16
theorem shX11_feastedFill_20 : cX11_feastedFill.data.toList.drop 20 = sxX11_feastedFill_20 := dSn 1 shX11_feastedFill_19
theorem shX11_feastedFill_21 : cX11_feastedFill.data.toList.drop 21 = sxX11_feastedFill_21 := dSn 1 shX11_feastedFill_20
theorem shX11_feastedFill_24 : cX11_feastedFill.data.toList.drop 24 = sxX11_feastedFill_24 := dSn 3 shX11_feastedFill_21
theorem shX11_feastedFill_26 : cX11_feastedFill.data.toList.drop 26 = sxX11_feastedFill_26 := dSn 2 shX11_feastedFill_24
theorem shX11_feastedFill_27 : cX11_feastedFill.data.toList.drop 27 = sxX11_feastedFill_27 := dSn 1 shX11_feastedFill_26
theorem shX11_feastedFill_30 : cX11_feastedFill.data.toList.drop 30 = sxX11_feastedFill_30 := dSn 3 shX11_feastedFill_27
theorem shX11_feastedFill_33 : cX11_feastedFill.data.toList.drop 33 = sxX11_feastedFill_33 := dSn 3 shX11_feastedFill_30
theorem shX11_feastedFill_35 : cX11_feastedFill.data.toList.drop 35 = sxX11_feastedFill_35 := dSn 2 shX11_feastedFill_33
theorem shX11_feastedFill_38 : cX11_feastedFill.data.toList.drop 38 = sxX11_feastedFill_38 := dSn 3 shX11_feastedFill_35
theorem shX11_feastedFill_39 : cX11_feastedFill.data.toList.drop 39 = sxX11_feastedFill_39 := dSn 1 shX11_feastedFill_38
theorem shX11_feastedFill_40 : cX11_feastedFill.data.toList.drop 40 = sxX11_feastedFill_40 := dSn 1 shX11_feastedFill_39
theorem shX11_feastedFill_42 : cX11_feastedFill.data.toList.drop 42 = sxX11_feastedFill_42 := dSn 2 shX11_feastedFill_40
theorem shX11_feastedFill_43 : cX11_feastedFill.data.toList.drop 43 = sxX11_feastedFill_43 := dSn 1 shX11_feastedFill_42
theorem shX11_feastedFill_44 : cX11_feastedFill.data.toList.drop 44 = sxX11_feastedFill_44 := dSn 1 shX11_feastedFill_43
theorem shX11_feastedFill_45 : cX11_feastedFill.data.toList.drop 45 = sxX11_feastedFill_45 := dSn 1 shX11_feastedFill_44
theorem shX11_feastedFill_48 : cX11_feastedFill.data.toList.drop 48 = sxX11_feastedFill_48 := dSn 3 shX11_feastedFill_45
theorem shX11_feastedFill_51 : cX11_feastedFill.data.toList.drop 51 = sxX11_feastedFill_51 := dSn 3 shX11_feastedFill_48
theorem shX11_feastedFill_52 : cX11_feastedFill.data.toList.drop 52 = sxX11_feastedFill_52 := dSn 1 shX11_feastedFill_51
theorem shX11_feastedFill_53 : cX11_feastedFill.data.toList.drop 53 = sxX11_feastedFill_53 := dSn 1 shX11_feastedFill_52
theorem shX11_feastedFill_56 : cX11_feastedFill.data.toList.drop 56 = sxX11_feastedFill_56 := dSn 3 shX11_feastedFill_53
theorem shX11_feastedFill_59 : cX11_feastedFill.data.toList.drop 59 = sxX11_feastedFill_59 := dSn 3 shX11_feastedFill_56
theorem dX11_feastedFill_0 : decode cX11_feastedFill 0 = .ok (.iconst 0, 1) := oc_3 shX11_feastedFill_0
theorem dX11_feastedFill_1 : decode cX11_feastedFill 1 = .ok (.istore_n 3, 1) := oc_62 shX11_feastedFill_1
theorem dX11_feastedFill_2 : decode cX11_feastedFill 2 = .ok (.aload_n 1, 1) := oc_43 shX11_feastedFill_2
theorem dX11_feastedFill_3 : decode cX11_feastedFill 3 = .ok (.getfield 128, 3) := oc_180 shX11_feastedFill_3
theorem dX11_feastedFill_6 : decode cX11_feastedFill 6 = .ok (.iconst 1, 1) := oc_4 shX11_feastedFill_6
theorem dX11_feastedFill_7 : decode cX11_feastedFill 7 = .ok (.iadd, 1) := oc_96 shX11_feastedFill_7
theorem dX11_feastedFill_8 : decode cX11_feastedFill 8 = .ok (.istore 4, 2) := oc_54 shX11_feastedFill_8
theorem dX11_feastedFill_10 : decode cX11_feastedFill 10 = .ok (.iload 4, 2) := oc_21 shX11_feastedFill_10
theorem dX11_feastedFill_12 : decode cX11_feastedFill 12 = .ok (.aload_n 1, 1) := oc_43 shX11_feastedFill_12
theorem dX11_feastedFill_13 : decode cX11_feastedFill 13 = .ok (.getfield 196, 3) := oc_180 shX11_feastedFill_13
theorem dX11_feastedFill_16 : decode cX11_feastedFill 16 = .ok (.if_icmp .gt 35, 3) := oc_163 shX11_feastedFill_16 sgw_0_35
theorem dX11_feastedFill_51 : decode cX11_feastedFill 51 = .ok (.iload_n 3, 1) := oc_29 shX11_feastedFill_51
theorem dX11_feastedFill_52 : decode cX11_feastedFill 52 = .ok (.aload_n 2, 1) := oc_44 shX11_feastedFill_52
theorem dX11_feastedFill_53 : decode cX11_feastedFill 53 = .ok (.getfield 495, 3) := oc_180 shX11_feastedFill_53
theorem dX11_feastedFill_56 : decode cX11_feastedFill 56 = .ok (.invokestatic 227, 3) := oc_184 shX11_feastedFill_56
theorem dX11_feastedFill_59 : decode cX11_feastedFill 59 = .ok (.ireturn, 1) := oc_172 shX11_feastedFill_59
theorem dX11_feastedFill_19 : decode cX11_feastedFill 19 = .ok (.iload_n 3, 1) := oc_29 shX11_feastedFill_19
theorem dX11_feastedFill_20 : decode cX11_feastedFill 20 = .ok (.aload_n 2, 1) := oc_44 shX11_feastedFill_20
theorem dX11_feastedFill_21 : decode cX11_feastedFill 21 = .ok (.getfield 459, 3) := oc_180 shX11_feastedFill_21
theorem dX11_feastedFill_24 : decode cX11_feastedFill 24 = .ok (.bipush 100, 2) := oc_16 shX11_feastedFill_24 sgb_100
theorem dX11_feastedFill_26 : decode cX11_feastedFill 26 = .ok (.aload_n 0, 1) := oc_42 shX11_feastedFill_26
theorem dX11_feastedFill_27 : decode cX11_feastedFill 27 = .ok (.getfield 47, 3) := oc_180 shX11_feastedFill_27
theorem dX11_feastedFill_30 : decode cX11_feastedFill 30 = .ok (.getfield 492, 3) := oc_180 shX11_feastedFill_30
theorem dX11_feastedFill_33 : decode cX11_feastedFill 33 = .ok (.iload 4, 2) := oc_21 shX11_feastedFill_33
theorem dX11_feastedFill_35 : decode cX11_feastedFill 35 = .ok (.invokestatic 192, 3) := oc_184 shX11_feastedFill_35
theorem dX11_feastedFill_38 : decode cX11_feastedFill 38 = .ok (.iadd, 1) := oc_96 shX11_feastedFill_38
theorem dX11_feastedFill_39 : decode cX11_feastedFill 39 = .ok (.imul, 1) := oc_104 shX11_feastedFill_39
theorem dX11_feastedFill_40 : decode cX11_feastedFill 40 = .ok (.bipush 100, 2) := oc_16 shX11_feastedFill_40 sgb_100
theorem dX11_feastedFill_42 : decode cX11_feastedFill 42 = .ok (.idiv, 1) := oc_108 shX11_feastedFill_42
theorem dX11_feastedFill_43 : decode cX11_feastedFill 43 = .ok (.iadd, 1) := oc_96 shX11_feastedFill_43
theorem dX11_feastedFill_44 : decode cX11_feastedFill 44 = .ok (.istore_n 3, 1) := oc_62 shX11_feastedFill_44
theorem dX11_feastedFill_45 : decode cX11_feastedFill 45 = .ok (.iinc 4 1, 3) := oc_132 shX11_feastedFill_45 sgb_1
theorem dX11_feastedFill_48 : decode cX11_feastedFill 48 = .ok (.goto (-38), 3) := oc_167 shX11_feastedFill_48 sgw_255_218
def sxX11_feasted_69 : List UInt8 := []
def sxX11_feasted_68 : List UInt8 := 172 :: sxX11_feasted_69
def sxX11_feasted_65 : List UInt8 := 182 :: 0 :: 137 :: sxX11_feasted_68
def sxX11_feasted_63 : List UInt8 := 21 :: 5 :: sxX11_feasted_65
def sxX11_feasted_62 : List UInt8 := 45 :: sxX11_feasted_63
def sxX11_feasted_59 : List UInt8 := 167 :: 0 :: 9 :: sxX11_feasted_62
def sxX11_feasted_57 : List UInt8 := 21 :: 5 :: sxX11_feasted_59
def sxX11_feasted_54 : List UInt8 := 154 :: 0 :: 8 :: sxX11_feasted_57
def sxX11_feasted_53 : List UInt8 := 28 :: sxX11_feasted_54
def sxX11_feasted_51 : List UInt8 := 54 :: 5 :: sxX11_feasted_53
def sxX11_feasted_48 : List UInt8 := 182 :: 1 :: 242 :: sxX11_feasted_51
def sxX11_feasted_46 : List UInt8 := 25 :: 4 :: sxX11_feasted_48
def sxX11_feasted_45 : List UInt8 := 45 :: sxX11_feasted_46
def sxX11_feasted_44 : List UInt8 := 42 :: sxX11_feasted_45
def sxX11_feasted_43 : List UInt8 := 172 :: sxX11_feasted_44
def sxX11_feasted_42 : List UInt8 := 2 :: sxX11_feasted_43
def sxX11_feasted_39 : List UInt8 := 154 :: 0 :: 5 :: sxX11_feasted_42
def sxX11_feasted_36 : List UInt8 := 184 :: 0 :: 80 :: sxX11_feasted_39
def sxX11_feasted_35 : List UInt8 := 4 :: sxX11_feasted_36
def sxX11_feasted_34 : List UInt8 := 3 :: sxX11_feasted_35
def sxX11_feasted_33 : List UInt8 := 28 :: sxX11_feasted_34
def sxX11_feasted_30 : List UInt8 := 198 :: 0 :: 12 :: sxX11_feasted_33
def sxX11_feasted_28 : List UInt8 := 25 :: 4 :: sxX11_feasted_30
def sxX11_feasted_25 : List UInt8 := 198 :: 0 :: 17 :: sxX11_feasted_28
def sxX11_feasted_24 : List UInt8 := 45 :: sxX11_feasted_25
def sxX11_feasted_22 : List UInt8 := 58 :: 4 :: sxX11_feasted_24
def sxX11_feasted_19 : List UInt8 := 182 :: 0 :: 114 :: sxX11_feasted_22
def sxX11_feasted_16 : List UInt8 := 180 :: 0 :: 211 :: sxX11_feasted_19
def sxX11_feasted_15 : List UInt8 := 45 :: sxX11_feasted_16
def sxX11_feasted_14 : List UInt8 := 42 :: sxX11_feasted_15
def sxX11_feasted_11 : List UInt8 := 167 :: 0 :: 11 :: sxX11_feasted_14
def sxX11_feasted_10 : List UInt8 := 1 :: sxX11_feasted_11
def sxX11_feasted_7 : List UInt8 := 199 :: 0 :: 7 :: sxX11_feasted_10
def sxX11_feasted_6 : List UInt8 := 45 :: sxX11_feasted_7
def sxX11_feasted_5 : List UInt8 := 78 :: sxX11_feasted_6
def sxX11_feasted_2 : List UInt8 := 182 :: 0 :: 148 :: sxX11_feasted_5
def sxX11_feasted_1 : List UInt8 := 27 :: sxX11_feasted_2
def sxX11_feasted_0 : List UInt8 := 42 :: sxX11_feasted_1
theorem shX11_feasted_0 : cX11_feasted.data.toList.drop 0 = sxX11_feasted_0 := rfl
theorem shX11_feasted_1 : cX11_feasted.data.toList.drop 1 = sxX11_feasted_1 := dSn 1 shX11_feasted_0
theorem shX11_feasted_2 : cX11_feasted.data.toList.drop 2 = sxX11_feasted_2 := dSn 1 shX11_feasted_1
theorem shX11_feasted_5 : cX11_feasted.data.toList.drop 5 = sxX11_feasted_5 := dSn 3 shX11_feasted_2
theorem shX11_feasted_6 : cX11_feasted.data.toList.drop 6 = sxX11_feasted_6 := dSn 1 shX11_feasted_5
theorem shX11_feasted_7 : cX11_feasted.data.toList.drop 7 = sxX11_feasted_7 := dSn 1 shX11_feasted_6
theorem shX11_feasted_10 : cX11_feasted.data.toList.drop 10 = sxX11_feasted_10 := dSn 3 shX11_feasted_7
theorem shX11_feasted_11 : cX11_feasted.data.toList.drop 11 = sxX11_feasted_11 := dSn 1 shX11_feasted_10
theorem shX11_feasted_14 : cX11_feasted.data.toList.drop 14 = sxX11_feasted_14 := dSn 3 shX11_feasted_11
theorem shX11_feasted_15 : cX11_feasted.data.toList.drop 15 = sxX11_feasted_15 := dSn 1 shX11_feasted_14
theorem shX11_feasted_16 : cX11_feasted.data.toList.drop 16 = sxX11_feasted_16 := dSn 1 shX11_feasted_15
theorem shX11_feasted_19 : cX11_feasted.data.toList.drop 19 = sxX11_feasted_19 := dSn 3 shX11_feasted_16
theorem shX11_feasted_22 : cX11_feasted.data.toList.drop 22 = sxX11_feasted_22 := dSn 3 shX11_feasted_19
theorem shX11_feasted_24 : cX11_feasted.data.toList.drop 24 = sxX11_feasted_24 := dSn 2 shX11_feasted_22
theorem shX11_feasted_25 : cX11_feasted.data.toList.drop 25 = sxX11_feasted_25 := dSn 1 shX11_feasted_24
theorem shX11_feasted_28 : cX11_feasted.data.toList.drop 28 = sxX11_feasted_28 := dSn 3 shX11_feasted_25
theorem shX11_feasted_30 : cX11_feasted.data.toList.drop 30 = sxX11_feasted_30 := dSn 2 shX11_feasted_28
theorem shX11_feasted_33 : cX11_feasted.data.toList.drop 33 = sxX11_feasted_33 := dSn 3 shX11_feasted_30
theorem shX11_feasted_34 : cX11_feasted.data.toList.drop 34 = sxX11_feasted_34 := dSn 1 shX11_feasted_33
theorem shX11_feasted_35 : cX11_feasted.data.toList.drop 35 = sxX11_feasted_35 := dSn 1 shX11_feasted_34
theorem shX11_feasted_36 : cX11_feasted.data.toList.drop 36 = sxX11_feasted_36 := dSn 1 shX11_feasted_35
theorem shX11_feasted_39 : cX11_feasted.data.toList.drop 39 = sxX11_feasted_39 := dSn 3 shX11_feasted_36
theorem shX11_feasted_42 : cX11_feasted.data.toList.drop 42 = sxX11_feasted_42 := dSn 3 shX11_feasted_39
theorem shX11_feasted_43 : cX11_feasted.data.toList.drop 43 = sxX11_feasted_43 := dSn 1 shX11_feasted_42
theorem shX11_feasted_44 : cX11_feasted.data.toList.drop 44 = sxX11_feasted_44 := dSn 1 shX11_feasted_43
theorem shX11_feasted_45 : cX11_feasted.data.toList.drop 45 = sxX11_feasted_45 := dSn 1 shX11_feasted_44
theorem shX11_feasted_46 : cX11_feasted.data.toList.drop 46 = sxX11_feasted_46 := dSn 1 shX11_feasted_45
theorem shX11_feasted_48 : cX11_feasted.data.toList.drop 48 = sxX11_feasted_48 := dSn 2 shX11_feasted_46
theorem shX11_feasted_51 : cX11_feasted.data.toList.drop 51 = sxX11_feasted_51 := dSn 3 shX11_feasted_48
theorem shX11_feasted_53 : cX11_feasted.data.toList.drop 53 = sxX11_feasted_53 := dSn 2 shX11_feasted_51
theorem shX11_feasted_54 : cX11_feasted.data.toList.drop 54 = sxX11_feasted_54 := dSn 1 shX11_feasted_53
theorem shX11_feasted_57 : cX11_feasted.data.toList.drop 57 = sxX11_feasted_57 := dSn 3 shX11_feasted_54
theorem shX11_feasted_59 : cX11_feasted.data.toList.drop 59 = sxX11_feasted_59 := dSn 2 shX11_feasted_57
theorem shX11_feasted_62 : cX11_feasted.data.toList.drop 62 = sxX11_feasted_62 := dSn 3 shX11_feasted_59
theorem shX11_feasted_63 : cX11_feasted.data.toList.drop 63 = sxX11_feasted_63 := dSn 1 shX11_feasted_62
theorem shX11_feasted_65 : cX11_feasted.data.toList.drop 65 = sxX11_feasted_65 := dSn 2 shX11_feasted_63
theorem shX11_feasted_68 : cX11_feasted.data.toList.drop 68 = sxX11_feasted_68 := dSn 3 shX11_feasted_65
theorem dX11_feasted_0 : decode cX11_feasted 0 = .ok (.aload_n 0, 1) := oc_42 shX11_feasted_0
theorem dX11_feasted_1 : decode cX11_feasted 1 = .ok (.iload_n 1, 1) := oc_27 shX11_feasted_1
theorem dX11_feasted_2 : decode cX11_feasted 2 = .ok (.invokevirtual 148, 3) := oc_182 shX11_feasted_2
theorem dX11_feasted_5 : decode cX11_feasted 5 = .ok (.astore_n 3, 1) := oc_78 shX11_feasted_5
theorem dX11_feasted_6 : decode cX11_feasted 6 = .ok (.aload_n 3, 1) := oc_45 shX11_feasted_6
theorem dX11_feasted_7 : decode cX11_feasted 7 = .ok (.ifnonnull 7, 3) := oc_199 shX11_feasted_7 sgw_0_7
theorem dX11_feasted_14 : decode cX11_feasted 14 = .ok (.aload_n 0, 1) := oc_42 shX11_feasted_14
theorem dX11_feasted_15 : decode cX11_feasted 15 = .ok (.aload_n 3, 1) := oc_45 shX11_feasted_15
theorem dX11_feasted_16 : decode cX11_feasted 16 = .ok (.getfield 211, 3) := oc_180 shX11_feasted_16
theorem dX11_feasted_19 : decode cX11_feasted 19 = .ok (.invokevirtual 114, 3) := oc_182 shX11_feasted_19
theorem dX11_feasted_22 : decode cX11_feasted 22 = .ok (.astore 4, 2) := oc_58 shX11_feasted_22
theorem dX11_feasted_24 : decode cX11_feasted 24 = .ok (.aload_n 3, 1) := oc_45 shX11_feasted_24
theorem dX11_feasted_25 : decode cX11_feasted 25 = .ok (.ifnull 17, 3) := oc_198 shX11_feasted_25 sgw_0_17
theorem dX11_feasted_28 : decode cX11_feasted 28 = .ok (.aload 4, 2) := oc_25 shX11_feasted_28
theorem dX11_feasted_30 : decode cX11_feasted 30 = .ok (.ifnull 12, 3) := oc_198 shX11_feasted_30 sgw_0_12
theorem dX11_feasted_33 : decode cX11_feasted 33 = .ok (.iload_n 2, 1) := oc_28 shX11_feasted_33
theorem dX11_feasted_34 : decode cX11_feasted 34 = .ok (.iconst 0, 1) := oc_3 shX11_feasted_34
theorem dX11_feasted_35 : decode cX11_feasted 35 = .ok (.iconst 1, 1) := oc_4 shX11_feasted_35
theorem dX11_feasted_36 : decode cX11_feasted 36 = .ok (.invokestatic 80, 3) := oc_184 shX11_feasted_36
theorem dX11_feasted_39 : decode cX11_feasted 39 = .ok (.ifCond .ne 5, 3) := oc_154 shX11_feasted_39 sgw_0_5
theorem dX11_feasted_44 : decode cX11_feasted 44 = .ok (.aload_n 0, 1) := oc_42 shX11_feasted_44
theorem dX11_feasted_45 : decode cX11_feasted 45 = .ok (.aload_n 3, 1) := oc_45 shX11_feasted_45
theorem dX11_feasted_46 : decode cX11_feasted 46 = .ok (.aload 4, 2) := oc_25 shX11_feasted_46
theorem dX11_feasted_48 : decode cX11_feasted 48 = .ok (.invokevirtual 498, 3) := oc_182 shX11_feasted_48
theorem dX11_feasted_51 : decode cX11_feasted 51 = .ok (.istore 5, 2) := oc_54 shX11_feasted_51
theorem dX11_feasted_53 : decode cX11_feasted 53 = .ok (.iload_n 2, 1) := oc_28 shX11_feasted_53
theorem dX11_feasted_54 : decode cX11_feasted 54 = .ok (.ifCond .ne 8, 3) := oc_154 shX11_feasted_54 sgw_0_8
theorem dX11_feasted_62 : decode cX11_feasted 62 = .ok (.aload_n 3, 1) := oc_45 shX11_feasted_62
theorem dX11_feasted_63 : decode cX11_feasted 63 = .ok (.iload 5, 2) := oc_21 shX11_feasted_63
theorem dX11_feasted_65 : decode cX11_feasted 65 = .ok (.invokevirtual 137, 3) := oc_182 shX11_feasted_65
theorem dX11_feasted_68 : decode cX11_feasted 68 = .ok (.ireturn, 1) := oc_172 shX11_feasted_68
theorem dX11_feasted_57 : decode cX11_feasted 57 = .ok (.iload 5, 2) := oc_21 shX11_feasted_57
theorem dX11_feasted_59 : decode cX11_feasted 59 = .ok (.goto 9, 3) := oc_167 shX11_feasted_59 sgw_0_9
theorem dX11_feasted_42 : decode cX11_feasted 42 = .ok (.iconst (-1), 1) := oc_2 shX11_feasted_42
theorem dX11_feasted_43 : decode cX11_feasted 43 = .ok (.ireturn, 1) := oc_172 shX11_feasted_43
theorem dX11_feasted_10 : decode cX11_feasted 10 = .ok (.aconst_null, 1) := oc_1 shX11_feasted_10
theorem dX11_feasted_11 : decode cX11_feasted 11 = .ok (.goto 11, 3) := oc_167 shX11_feasted_11 sgw_0_11
def sxX11_moveBy_60 : List UInt8 := []
def sxX11_moveBy_59 : List UInt8 := 176 :: sxX11_moveBy_60
def sxX11_moveBy_58 : List UInt8 := 45 :: sxX11_moveBy_59
def sxX11_moveBy_55 : List UInt8 := 167 :: 255 :: 206 :: sxX11_moveBy_58
def sxX11_moveBy_52 : List UInt8 := 132 :: 4 :: 1 :: sxX11_moveBy_55
def sxX11_moveBy_51 : List UInt8 := 78 :: sxX11_moveBy_52
def sxX11_moveBy_49 : List UInt8 := 25 :: 5 :: sxX11_moveBy_51
def sxX11_moveBy_46 : List UInt8 := 163 :: 0 :: 6 :: sxX11_moveBy_49
def sxX11_moveBy_45 : List UInt8 := 28 :: sxX11_moveBy_46
def sxX11_moveBy_42 : List UInt8 := 180 :: 1 :: 252 :: sxX11_moveBy_45
def sxX11_moveBy_40 : List UInt8 := 25 :: 5 :: sxX11_moveBy_42
def sxX11_moveBy_37 : List UInt8 := 160 :: 0 :: 15 :: sxX11_moveBy_40
def sxX11_moveBy_36 : List UInt8 := 27 :: sxX11_moveBy_37
def sxX11_moveBy_33 : List UInt8 := 180 :: 1 :: 251 :: sxX11_moveBy_36
def sxX11_moveBy_31 : List UInt8 := 25 :: 5 :: sxX11_moveBy_33
def sxX11_moveBy_29 : List UInt8 := 58 :: 5 :: sxX11_moveBy_31
def sxX11_moveBy_26 : List UInt8 := 192 :: 1 :: 249 :: sxX11_moveBy_29
def sxX11_moveBy_23 : List UInt8 := 182 :: 0 :: 87 :: sxX11_moveBy_26
def sxX11_moveBy_21 : List UInt8 := 21 :: 4 :: sxX11_moveBy_23
def sxX11_moveBy_18 : List UInt8 := 180 :: 0 :: 77 :: sxX11_moveBy_21
def sxX11_moveBy_17 : List UInt8 := 42 :: sxX11_moveBy_18
def sxX11_moveBy_14 : List UInt8 := 162 :: 0 :: 44 :: sxX11_moveBy_17
def sxX11_moveBy_11 : List UInt8 := 182 :: 0 :: 84 :: sxX11_moveBy_14
def sxX11_moveBy_8 : List UInt8 := 180 :: 0 :: 77 :: sxX11_moveBy_11
def sxX11_moveBy_7 : List UInt8 := 42 :: sxX11_moveBy_8
def sxX11_moveBy_5 : List UInt8 := 21 :: 4 :: sxX11_moveBy_7
def sxX11_moveBy_3 : List UInt8 := 54 :: 4 :: sxX11_moveBy_5
def sxX11_moveBy_2 : List UInt8 := 3 :: sxX11_moveBy_3
def sxX11_moveBy_1 : List UInt8 := 78 :: sxX11_moveBy_2
def sxX11_moveBy_0 : List UInt8 := 1 :: sxX11_moveBy_1
theorem shX11_moveBy_0 : cX11_moveBy.data.toList.drop 0 = sxX11_moveBy_0 := rfl
theorem shX11_moveBy_1 : cX11_moveBy.data.toList.drop 1 = sxX11_moveBy_1 := dSn 1 shX11_moveBy_0
theorem shX11_moveBy_2 : cX11_moveBy.data.toList.drop 2 = sxX11_moveBy_2 := dSn 1 shX11_moveBy_1
theorem shX11_moveBy_3 : cX11_moveBy.data.toList.drop 3 = sxX11_moveBy_3 := dSn 1 shX11_moveBy_2
theorem shX11_moveBy_5 : cX11_moveBy.data.toList.drop 5 = sxX11_moveBy_5 := dSn 2 shX11_moveBy_3
theorem shX11_moveBy_7 : cX11_moveBy.data.toList.drop 7 = sxX11_moveBy_7 := dSn 2 shX11_moveBy_5
theorem shX11_moveBy_8 : cX11_moveBy.data.toList.drop 8 = sxX11_moveBy_8 := dSn 1 shX11_moveBy_7
theorem shX11_moveBy_11 : cX11_moveBy.data.toList.drop 11 = sxX11_moveBy_11 := dSn 3 shX11_moveBy_8
theorem shX11_moveBy_14 : cX11_moveBy.data.toList.drop 14 = sxX11_moveBy_14 := dSn 3 shX11_moveBy_11
theorem shX11_moveBy_17 : cX11_moveBy.data.toList.drop 17 = sxX11_moveBy_17 := dSn 3 shX11_moveBy_14
theorem shX11_moveBy_18 : cX11_moveBy.data.toList.drop 18 = sxX11_moveBy_18 := dSn 1 shX11_moveBy_17
theorem shX11_moveBy_21 : cX11_moveBy.data.toList.drop 21 = sxX11_moveBy_21 := dSn 3 shX11_moveBy_18
theorem shX11_moveBy_23 : cX11_moveBy.data.toList.drop 23 = sxX11_moveBy_23 := dSn 2 shX11_moveBy_21
theorem shX11_moveBy_26 : cX11_moveBy.data.toList.drop 26 = sxX11_moveBy_26 := dSn 3 shX11_moveBy_23
theorem shX11_moveBy_29 : cX11_moveBy.data.toList.drop 29 = sxX11_moveBy_29 := dSn 3 shX11_moveBy_26
theorem shX11_moveBy_31 : cX11_moveBy.data.toList.drop 31 = sxX11_moveBy_31 := dSn 2 shX11_moveBy_29
theorem shX11_moveBy_33 : cX11_moveBy.data.toList.drop 33 = sxX11_moveBy_33 := dSn 2 shX11_moveBy_31
theorem shX11_moveBy_36 : cX11_moveBy.data.toList.drop 36 = sxX11_moveBy_36 := dSn 3 shX11_moveBy_33
theorem shX11_moveBy_37 : cX11_moveBy.data.toList.drop 37 = sxX11_moveBy_37 := dSn 1 shX11_moveBy_36
theorem shX11_moveBy_40 : cX11_moveBy.data.toList.drop 40 = sxX11_moveBy_40 := dSn 3 shX11_moveBy_37
theorem shX11_moveBy_42 : cX11_moveBy.data.toList.drop 42 = sxX11_moveBy_42 := dSn 2 shX11_moveBy_40
theorem shX11_moveBy_45 : cX11_moveBy.data.toList.drop 45 = sxX11_moveBy_45 := dSn 3 shX11_moveBy_42
theorem shX11_moveBy_46 : cX11_moveBy.data.toList.drop 46 = sxX11_moveBy_46 := dSn 1 shX11_moveBy_45
theorem shX11_moveBy_49 : cX11_moveBy.data.toList.drop 49 = sxX11_moveBy_49 := dSn 3 shX11_moveBy_46
theorem shX11_moveBy_51 : cX11_moveBy.data.toList.drop 51 = sxX11_moveBy_51 := dSn 2 shX11_moveBy_49
theorem shX11_moveBy_52 : cX11_moveBy.data.toList.drop 52 = sxX11_moveBy_52 := dSn 1 shX11_moveBy_51
theorem shX11_moveBy_55 : cX11_moveBy.data.toList.drop 55 = sxX11_moveBy_55 := dSn 3 shX11_moveBy_52
theorem shX11_moveBy_58 : cX11_moveBy.data.toList.drop 58 = sxX11_moveBy_58 := dSn 3 shX11_moveBy_55
theorem shX11_moveBy_59 : cX11_moveBy.data.toList.drop 59 = sxX11_moveBy_59 := dSn 1 shX11_moveBy_58
theorem dX11_moveBy_0 : decode cX11_moveBy 0 = .ok (.aconst_null, 1) := oc_1 shX11_moveBy_0
theorem dX11_moveBy_1 : decode cX11_moveBy 1 = .ok (.astore_n 3, 1) := oc_78 shX11_moveBy_1
theorem dX11_moveBy_2 : decode cX11_moveBy 2 = .ok (.iconst 0, 1) := oc_3 shX11_moveBy_2
theorem dX11_moveBy_3 : decode cX11_moveBy 3 = .ok (.istore 4, 2) := oc_54 shX11_moveBy_3
theorem dX11_moveBy_5 : decode cX11_moveBy 5 = .ok (.iload 4, 2) := oc_21 shX11_moveBy_5
theorem dX11_moveBy_7 : decode cX11_moveBy 7 = .ok (.aload_n 0, 1) := oc_42 shX11_moveBy_7
theorem dX11_moveBy_8 : decode cX11_moveBy 8 = .ok (.getfield 77, 3) := oc_180 shX11_moveBy_8
theorem dX11_moveBy_11 : decode cX11_moveBy 11 = .ok (.invokevirtual 84, 3) := oc_182 shX11_moveBy_11
theorem dX11_moveBy_14 : decode cX11_moveBy 14 = .ok (.if_icmp .ge 44, 3) := oc_162 shX11_moveBy_14 sgw_0_44
theorem dX11_moveBy_58 : decode cX11_moveBy 58 = .ok (.aload_n 3, 1) := oc_45 shX11_moveBy_58
theorem dX11_moveBy_59 : decode cX11_moveBy 59 = .ok (.areturn, 1) := oc_176 shX11_moveBy_59
theorem dX11_moveBy_17 : decode cX11_moveBy 17 = .ok (.aload_n 0, 1) := oc_42 shX11_moveBy_17
theorem dX11_moveBy_18 : decode cX11_moveBy 18 = .ok (.getfield 77, 3) := oc_180 shX11_moveBy_18
theorem dX11_moveBy_21 : decode cX11_moveBy 21 = .ok (.iload 4, 2) := oc_21 shX11_moveBy_21
theorem dX11_moveBy_23 : decode cX11_moveBy 23 = .ok (.invokevirtual 87, 3) := oc_182 shX11_moveBy_23
theorem dX11_moveBy_26 : decode cX11_moveBy 26 = .ok (.checkcast 505, 3) := oc_192 shX11_moveBy_26
theorem dX11_moveBy_29 : decode cX11_moveBy 29 = .ok (.astore 5, 2) := oc_58 shX11_moveBy_29
theorem dX11_moveBy_31 : decode cX11_moveBy 31 = .ok (.aload 5, 2) := oc_25 shX11_moveBy_31
theorem dX11_moveBy_33 : decode cX11_moveBy 33 = .ok (.getfield 507, 3) := oc_180 shX11_moveBy_33
theorem dX11_moveBy_36 : decode cX11_moveBy 36 = .ok (.iload_n 1, 1) := oc_27 shX11_moveBy_36
theorem dX11_moveBy_37 : decode cX11_moveBy 37 = .ok (.if_icmp .ne 15, 3) := oc_160 shX11_moveBy_37 sgw_0_15
theorem dX11_moveBy_52 : decode cX11_moveBy 52 = .ok (.iinc 4 1, 3) := oc_132 shX11_moveBy_52 sgb_1
theorem dX11_moveBy_55 : decode cX11_moveBy 55 = .ok (.goto (-50), 3) := oc_167 shX11_moveBy_55 sgw_255_206
theorem dX11_moveBy_40 : decode cX11_moveBy 40 = .ok (.aload 5, 2) := oc_25 shX11_moveBy_40
theorem dX11_moveBy_42 : decode cX11_moveBy 42 = .ok (.getfield 508, 3) := oc_180 shX11_moveBy_42
theorem dX11_moveBy_45 : decode cX11_moveBy 45 = .ok (.iload_n 2, 1) := oc_28 shX11_moveBy_45
theorem dX11_moveBy_46 : decode cX11_moveBy 46 = .ok (.if_icmp .gt 6, 3) := oc_163 shX11_moveBy_46 sgw_0_6
theorem dX11_moveBy_49 : decode cX11_moveBy 49 = .ok (.aload 5, 2) := oc_25 shX11_moveBy_49
theorem dX11_moveBy_51 : decode cX11_moveBy 51 = .ok (.astore_n 3, 1) := oc_78 shX11_moveBy_51
def sxX11_stood_52 : List UInt8 := []
def sxX11_stood_51 : List UInt8 := 172 :: sxX11_stood_52
def sxX11_stood_48 : List UInt8 := 180 :: 2 :: 4 :: sxX11_stood_51
def sxX11_stood_47 : List UInt8 := 45 :: sxX11_stood_48
def sxX11_stood_44 : List UInt8 := 167 :: 0 :: 7 :: sxX11_stood_47
def sxX11_stood_42 : List UInt8 := 16 :: 254 :: sxX11_stood_44
def sxX11_stood_39 : List UInt8 := 160 :: 0 :: 8 :: sxX11_stood_42
def sxX11_stood_38 : List UInt8 := 2 :: sxX11_stood_39
def sxX11_stood_35 : List UInt8 := 180 :: 2 :: 4 :: sxX11_stood_38
def sxX11_stood_34 : List UInt8 := 45 :: sxX11_stood_35
def sxX11_stood_31 : List UInt8 := 198 :: 0 :: 11 :: sxX11_stood_34
def sxX11_stood_30 : List UInt8 := 45 :: sxX11_stood_31
def sxX11_stood_29 : List UInt8 := 78 :: sxX11_stood_30
def sxX11_stood_26 : List UInt8 := 182 :: 1 :: 253 :: sxX11_stood_29
def sxX11_stood_25 : List UInt8 := 28 :: sxX11_stood_26
def sxX11_stood_24 : List UInt8 := 27 :: sxX11_stood_25
def sxX11_stood_23 : List UInt8 := 42 :: sxX11_stood_24
def sxX11_stood_22 : List UInt8 := 172 :: sxX11_stood_23
def sxX11_stood_21 : List UInt8 := 2 :: sxX11_stood_22
def sxX11_stood_18 : List UInt8 := 154 :: 0 :: 5 :: sxX11_stood_21
def sxX11_stood_15 : List UInt8 := 184 :: 0 :: 99 :: sxX11_stood_18
def sxX11_stood_14 : List UInt8 := 28 :: sxX11_stood_15
def sxX11_stood_11 : List UInt8 := 153 :: 0 :: 10 :: sxX11_stood_14
def sxX11_stood_8 : List UInt8 := 184 :: 0 :: 80 :: sxX11_stood_11
def sxX11_stood_7 : List UInt8 := 100 :: sxX11_stood_8
def sxX11_stood_6 : List UInt8 := 4 :: sxX11_stood_7
def sxX11_stood_3 : List UInt8 := 180 :: 1 :: 246 :: sxX11_stood_6
def sxX11_stood_2 : List UInt8 := 42 :: sxX11_stood_3
def sxX11_stood_1 : List UInt8 := 3 :: sxX11_stood_2
def sxX11_stood_0 : List UInt8 := 27 :: sxX11_stood_1
theorem shX11_stood_0 : cX11_stood.data.toList.drop 0 = sxX11_stood_0 := rfl
theorem shX11_stood_1 : cX11_stood.data.toList.drop 1 = sxX11_stood_1 := dSn 1 shX11_stood_0
theorem shX11_stood_2 : cX11_stood.data.toList.drop 2 = sxX11_stood_2 := dSn 1 shX11_stood_1
theorem shX11_stood_3 : cX11_stood.data.toList.drop 3 = sxX11_stood_3 := dSn 1 shX11_stood_2
theorem shX11_stood_6 : cX11_stood.data.toList.drop 6 = sxX11_stood_6 := dSn 3 shX11_stood_3
theorem shX11_stood_7 : cX11_stood.data.toList.drop 7 = sxX11_stood_7 := dSn 1 shX11_stood_6
theorem shX11_stood_8 : cX11_stood.data.toList.drop 8 = sxX11_stood_8 := dSn 1 shX11_stood_7
theorem shX11_stood_11 : cX11_stood.data.toList.drop 11 = sxX11_stood_11 := dSn 3 shX11_stood_8
theorem shX11_stood_14 : cX11_stood.data.toList.drop 14 = sxX11_stood_14 := dSn 3 shX11_stood_11
theorem shX11_stood_15 : cX11_stood.data.toList.drop 15 = sxX11_stood_15 := dSn 1 shX11_stood_14
theorem shX11_stood_18 : cX11_stood.data.toList.drop 18 = sxX11_stood_18 := dSn 3 shX11_stood_15
theorem shX11_stood_21 : cX11_stood.data.toList.drop 21 = sxX11_stood_21 := dSn 3 shX11_stood_18
theorem shX11_stood_22 : cX11_stood.data.toList.drop 22 = sxX11_stood_22 := dSn 1 shX11_stood_21
theorem shX11_stood_23 : cX11_stood.data.toList.drop 23 = sxX11_stood_23 := dSn 1 shX11_stood_22
theorem shX11_stood_24 : cX11_stood.data.toList.drop 24 = sxX11_stood_24 := dSn 1 shX11_stood_23
theorem shX11_stood_25 : cX11_stood.data.toList.drop 25 = sxX11_stood_25 := dSn 1 shX11_stood_24
theorem shX11_stood_26 : cX11_stood.data.toList.drop 26 = sxX11_stood_26 := dSn 1 shX11_stood_25
theorem shX11_stood_29 : cX11_stood.data.toList.drop 29 = sxX11_stood_29 := dSn 3 shX11_stood_26
theorem shX11_stood_30 : cX11_stood.data.toList.drop 30 = sxX11_stood_30 := dSn 1 shX11_stood_29
theorem shX11_stood_31 : cX11_stood.data.toList.drop 31 = sxX11_stood_31 := dSn 1 shX11_stood_30
theorem shX11_stood_34 : cX11_stood.data.toList.drop 34 = sxX11_stood_34 := dSn 3 shX11_stood_31
theorem shX11_stood_35 : cX11_stood.data.toList.drop 35 = sxX11_stood_35 := dSn 1 shX11_stood_34
theorem shX11_stood_38 : cX11_stood.data.toList.drop 38 = sxX11_stood_38 := dSn 3 shX11_stood_35
theorem shX11_stood_39 : cX11_stood.data.toList.drop 39 = sxX11_stood_39 := dSn 1 shX11_stood_38
theorem shX11_stood_42 : cX11_stood.data.toList.drop 42 = sxX11_stood_42 := dSn 3 shX11_stood_39
theorem shX11_stood_44 : cX11_stood.data.toList.drop 44 = sxX11_stood_44 := dSn 2 shX11_stood_42
theorem shX11_stood_47 : cX11_stood.data.toList.drop 47 = sxX11_stood_47 := dSn 3 shX11_stood_44
theorem shX11_stood_48 : cX11_stood.data.toList.drop 48 = sxX11_stood_48 := dSn 1 shX11_stood_47
theorem shX11_stood_51 : cX11_stood.data.toList.drop 51 = sxX11_stood_51 := dSn 3 shX11_stood_48
theorem dX11_stood_0 : decode cX11_stood 0 = .ok (.iload_n 1, 1) := oc_27 shX11_stood_0
theorem dX11_stood_1 : decode cX11_stood 1 = .ok (.iconst 0, 1) := oc_3 shX11_stood_1
theorem dX11_stood_2 : decode cX11_stood 2 = .ok (.aload_n 0, 1) := oc_42 shX11_stood_2
theorem dX11_stood_3 : decode cX11_stood 3 = .ok (.getfield 502, 3) := oc_180 shX11_stood_3
theorem dX11_stood_6 : decode cX11_stood 6 = .ok (.iconst 1, 1) := oc_4 shX11_stood_6
theorem dX11_stood_7 : decode cX11_stood 7 = .ok (.isub, 1) := oc_100 shX11_stood_7
theorem dX11_stood_8 : decode cX11_stood 8 = .ok (.invokestatic 80, 3) := oc_184 shX11_stood_8
theorem dX11_stood_11 : decode cX11_stood 11 = .ok (.ifCond .eq 10, 3) := oc_153 shX11_stood_11 sgw_0_10
theorem dX11_stood_14 : decode cX11_stood 14 = .ok (.iload_n 2, 1) := oc_28 shX11_stood_14
theorem dX11_stood_15 : decode cX11_stood 15 = .ok (.invokestatic 99, 3) := oc_184 shX11_stood_15
theorem dX11_stood_18 : decode cX11_stood 18 = .ok (.ifCond .ne 5, 3) := oc_154 shX11_stood_18 sgw_0_5
theorem dX11_stood_23 : decode cX11_stood 23 = .ok (.aload_n 0, 1) := oc_42 shX11_stood_23
theorem dX11_stood_24 : decode cX11_stood 24 = .ok (.iload_n 1, 1) := oc_27 shX11_stood_24
theorem dX11_stood_25 : decode cX11_stood 25 = .ok (.iload_n 2, 1) := oc_28 shX11_stood_25
theorem dX11_stood_26 : decode cX11_stood 26 = .ok (.invokevirtual 509, 3) := oc_182 shX11_stood_26
theorem dX11_stood_29 : decode cX11_stood 29 = .ok (.astore_n 3, 1) := oc_78 shX11_stood_29
theorem dX11_stood_30 : decode cX11_stood 30 = .ok (.aload_n 3, 1) := oc_45 shX11_stood_30
theorem dX11_stood_31 : decode cX11_stood 31 = .ok (.ifnull 11, 3) := oc_198 shX11_stood_31 sgw_0_11
theorem dX11_stood_34 : decode cX11_stood 34 = .ok (.aload_n 3, 1) := oc_45 shX11_stood_34
theorem dX11_stood_35 : decode cX11_stood 35 = .ok (.getfield 516, 3) := oc_180 shX11_stood_35
theorem dX11_stood_38 : decode cX11_stood 38 = .ok (.iconst (-1), 1) := oc_2 shX11_stood_38
theorem dX11_stood_39 : decode cX11_stood 39 = .ok (.if_icmp .ne 8, 3) := oc_160 shX11_stood_39 sgw_0_8
theorem dX11_stood_47 : decode cX11_stood 47 = .ok (.aload_n 3, 1) := oc_45 shX11_stood_47
theorem dX11_stood_48 : decode cX11_stood 48 = .ok (.getfield 516, 3) := oc_180 shX11_stood_48
theorem dX11_stood_51 : decode cX11_stood 51 = .ok (.ireturn, 1) := oc_172 shX11_stood_51
theorem dX11_stood_42 : decode cX11_stood 42 = .ok (.bipush (-2), 2) := oc_16 shX11_stood_42 sgb_254
theorem dX11_stood_44 : decode cX11_stood 44 = .ok (.goto 7, 3) := oc_167 shX11_stood_44 sgw_0_7
theorem dX11_stood_21 : decode cX11_stood 21 = .ok (.iconst (-1), 1) := oc_2 shX11_stood_21
theorem dX11_stood_22 : decode cX11_stood 22 = .ok (.ireturn, 1) := oc_172 shX11_stood_22
def sxX11_stale_94 : List UInt8 := []
def sxX11_stale_93 : List UInt8 := 172 :: sxX11_stale_94
def sxX11_stale_92 : List UInt8 := 28 :: sxX11_stale_93
def sxX11_stale_89 : List UInt8 := 167 :: 255 :: 184 :: sxX11_stale_92
def sxX11_stale_86 : List UInt8 := 132 :: 3 :: 1 :: sxX11_stale_89
def sxX11_stale_85 : List UInt8 := 61 :: sxX11_stale_86
def sxX11_stale_84 : List UInt8 := 128 :: sxX11_stale_85
def sxX11_stale_83 : List UInt8 := 3 :: sxX11_stale_84
def sxX11_stale_80 : List UInt8 := 167 :: 0 :: 4 :: sxX11_stale_83
def sxX11_stale_79 : List UInt8 := 120 :: sxX11_stale_80
def sxX11_stale_78 : List UInt8 := 29 :: sxX11_stale_79
def sxX11_stale_77 : List UInt8 := 4 :: sxX11_stale_78
def sxX11_stale_74 : List UInt8 := 161 :: 0 :: 9 :: sxX11_stale_77
def sxX11_stale_73 : List UInt8 := 27 :: sxX11_stale_74
def sxX11_stale_72 : List UInt8 := 100 :: sxX11_stale_73
def sxX11_stale_69 : List UInt8 := 180 :: 1 :: 252 :: sxX11_stale_72
def sxX11_stale_67 : List UInt8 := 25 :: 4 :: sxX11_stale_69
def sxX11_stale_64 : List UInt8 := 180 :: 0 :: 103 :: sxX11_stale_67
def sxX11_stale_63 : List UInt8 := 42 :: sxX11_stale_64
def sxX11_stale_60 : List UInt8 := 153 :: 0 :: 23 :: sxX11_stale_63
def sxX11_stale_58 : List UInt8 := 21 :: 5 :: sxX11_stale_60
def sxX11_stale_57 : List UInt8 := 28 :: sxX11_stale_58
def sxX11_stale_55 : List UInt8 := 54 :: 5 :: sxX11_stale_57
def sxX11_stale_54 : List UInt8 := 3 :: sxX11_stale_55
def sxX11_stale_51 : List UInt8 := 167 :: 0 :: 4 :: sxX11_stale_54
def sxX11_stale_50 : List UInt8 := 4 :: sxX11_stale_51
def sxX11_stale_47 : List UInt8 := 159 :: 0 :: 7 :: sxX11_stale_50
def sxX11_stale_46 : List UInt8 := 2 :: sxX11_stale_47
def sxX11_stale_43 : List UInt8 := 180 :: 2 :: 4 :: sxX11_stale_46
def sxX11_stale_41 : List UInt8 := 25 :: 4 :: sxX11_stale_43
def sxX11_stale_38 : List UInt8 := 198 :: 0 :: 16 :: sxX11_stale_41
def sxX11_stale_36 : List UInt8 := 25 :: 4 :: sxX11_stale_38
def sxX11_stale_34 : List UInt8 := 58 :: 4 :: sxX11_stale_36
def sxX11_stale_31 : List UInt8 := 182 :: 1 :: 253 :: sxX11_stale_34
def sxX11_stale_28 : List UInt8 := 180 :: 0 :: 103 :: sxX11_stale_31
def sxX11_stale_27 : List UInt8 := 42 :: sxX11_stale_28
def sxX11_stale_26 : List UInt8 := 29 :: sxX11_stale_27
def sxX11_stale_25 : List UInt8 := 42 :: sxX11_stale_26
def sxX11_stale_22 : List UInt8 := 162 :: 0 :: 70 :: sxX11_stale_25
def sxX11_stale_19 : List UInt8 := 180 :: 1 :: 246 :: sxX11_stale_22
def sxX11_stale_18 : List UInt8 := 42 :: sxX11_stale_19
def sxX11_stale_17 : List UInt8 := 29 :: sxX11_stale_18
def sxX11_stale_16 : List UInt8 := 62 :: sxX11_stale_17
def sxX11_stale_15 : List UInt8 := 3 :: sxX11_stale_16
def sxX11_stale_14 : List UInt8 := 61 :: sxX11_stale_15
def sxX11_stale_13 : List UInt8 := 3 :: sxX11_stale_14
def sxX11_stale_12 : List UInt8 := 172 :: sxX11_stale_13
def sxX11_stale_11 : List UInt8 := 2 :: sxX11_stale_12
def sxX11_stale_8 : List UInt8 := 154 :: 0 :: 5 :: sxX11_stale_11
def sxX11_stale_5 : List UInt8 := 184 :: 0 :: 80 :: sxX11_stale_8
def sxX11_stale_2 : List UInt8 := 17 :: 1 :: 143 :: sxX11_stale_5
def sxX11_stale_1 : List UInt8 := 3 :: sxX11_stale_2
def sxX11_stale_0 : List UInt8 := 27 :: sxX11_stale_1
