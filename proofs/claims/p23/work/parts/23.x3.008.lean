theorem shX11_stale_0 : cX11_stale.data.toList.drop 0 = sxX11_stale_0 := rfl
theorem shX11_stale_1 : cX11_stale.data.toList.drop 1 = sxX11_stale_1 := dSn 1 shX11_stale_0
theorem shX11_stale_2 : cX11_stale.data.toList.drop 2 = sxX11_stale_2 := dSn 1 shX11_stale_1
theorem shX11_stale_5 : cX11_stale.data.toList.drop 5 = sxX11_stale_5 := dSn 3 shX11_stale_2
theorem shX11_stale_8 : cX11_stale.data.toList.drop 8 = sxX11_stale_8 := dSn 3 shX11_stale_5
theorem shX11_stale_11 : cX11_stale.data.toList.drop 11 = sxX11_stale_11 := dSn 3 shX11_stale_8
theorem shX11_stale_12 : cX11_stale.data.toList.drop 12 = sxX11_stale_12 := dSn 1 shX11_stale_11
theorem shX11_stale_13 : cX11_stale.data.toList.drop 13 = sxX11_stale_13 := dSn 1 shX11_stale_12
theorem shX11_stale_14 : cX11_stale.data.toList.drop 14 = sxX11_stale_14 := dSn 1 shX11_stale_13
theorem shX11_stale_15 : cX11_stale.data.toList.drop 15 = sxX11_stale_15 := dSn 1 shX11_stale_14
theorem shX11_stale_16 : cX11_stale.data.toList.drop 16 = sxX11_stale_16 := dSn 1 shX11_stale_15
theorem shX11_stale_17 : cX11_stale.data.toList.drop 17 = sxX11_stale_17 := dSn 1 shX11_stale_16
theorem shX11_stale_18 : cX11_stale.data.toList.drop 18 = sxX11_stale_18 := dSn 1 shX11_stale_17
theorem shX11_stale_19 : cX11_stale.data.toList.drop 19 = sxX11_stale_19 := dSn 1 shX11_stale_18
theorem shX11_stale_22 : cX11_stale.data.toList.drop 22 = sxX11_stale_22 := dSn 3 shX11_stale_19
theorem shX11_stale_25 : cX11_stale.data.toList.drop 25 = sxX11_stale_25 := dSn 3 shX11_stale_22
theorem shX11_stale_26 : cX11_stale.data.toList.drop 26 = sxX11_stale_26 := dSn 1 shX11_stale_25
theorem shX11_stale_27 : cX11_stale.data.toList.drop 27 = sxX11_stale_27 := dSn 1 shX11_stale_26
theorem shX11_stale_28 : cX11_stale.data.toList.drop 28 = sxX11_stale_28 := dSn 1 shX11_stale_27
theorem shX11_stale_31 : cX11_stale.data.toList.drop 31 = sxX11_stale_31 := dSn 3 shX11_stale_28
theorem shX11_stale_34 : cX11_stale.data.toList.drop 34 = sxX11_stale_34 := dSn 3 shX11_stale_31
theorem shX11_stale_36 : cX11_stale.data.toList.drop 36 = sxX11_stale_36 := dSn 2 shX11_stale_34
theorem shX11_stale_38 : cX11_stale.data.toList.drop 38 = sxX11_stale_38 := dSn 2 shX11_stale_36
theorem shX11_stale_41 : cX11_stale.data.toList.drop 41 = sxX11_stale_41 := dSn 3 shX11_stale_38
theorem shX11_stale_43 : cX11_stale.data.toList.drop 43 = sxX11_stale_43 := dSn 2 shX11_stale_41
theorem shX11_stale_46 : cX11_stale.data.toList.drop 46 = sxX11_stale_46 := dSn 3 shX11_stale_43
theorem shX11_stale_47 : cX11_stale.data.toList.drop 47 = sxX11_stale_47 := dSn 1 shX11_stale_46
theorem shX11_stale_50 : cX11_stale.data.toList.drop 50 = sxX11_stale_50 := dSn 3 shX11_stale_47
theorem shX11_stale_51 : cX11_stale.data.toList.drop 51 = sxX11_stale_51 := dSn 1 shX11_stale_50
theorem shX11_stale_54 : cX11_stale.data.toList.drop 54 = sxX11_stale_54 := dSn 3 shX11_stale_51
theorem shX11_stale_55 : cX11_stale.data.toList.drop 55 = sxX11_stale_55 := dSn 1 shX11_stale_54
theorem shX11_stale_57 : cX11_stale.data.toList.drop 57 = sxX11_stale_57 := dSn 2 shX11_stale_55
theorem shX11_stale_58 : cX11_stale.data.toList.drop 58 = sxX11_stale_58 := dSn 1 shX11_stale_57
theorem shX11_stale_60 : cX11_stale.data.toList.drop 60 = sxX11_stale_60 := dSn 2 shX11_stale_58
theorem shX11_stale_63 : cX11_stale.data.toList.drop 63 = sxX11_stale_63 := dSn 3 shX11_stale_60
theorem shX11_stale_64 : cX11_stale.data.toList.drop 64 = sxX11_stale_64 := dSn 1 shX11_stale_63
theorem shX11_stale_67 : cX11_stale.data.toList.drop 67 = sxX11_stale_67 := dSn 3 shX11_stale_64
theorem shX11_stale_69 : cX11_stale.data.toList.drop 69 = sxX11_stale_69 := dSn 2 shX11_stale_67
theorem shX11_stale_72 : cX11_stale.data.toList.drop 72 = sxX11_stale_72 := dSn 3 shX11_stale_69
theorem shX11_stale_73 : cX11_stale.data.toList.drop 73 = sxX11_stale_73 := dSn 1 shX11_stale_72
theorem shX11_stale_74 : cX11_stale.data.toList.drop 74 = sxX11_stale_74 := dSn 1 shX11_stale_73
theorem shX11_stale_77 : cX11_stale.data.toList.drop 77 = sxX11_stale_77 := dSn 3 shX11_stale_74
theorem shX11_stale_78 : cX11_stale.data.toList.drop 78 = sxX11_stale_78 := dSn 1 shX11_stale_77
theorem shX11_stale_79 : cX11_stale.data.toList.drop 79 = sxX11_stale_79 := dSn 1 shX11_stale_78
theorem shX11_stale_80 : cX11_stale.data.toList.drop 80 = sxX11_stale_80 := dSn 1 shX11_stale_79
theorem shX11_stale_83 : cX11_stale.data.toList.drop 83 = sxX11_stale_83 := dSn 3 shX11_stale_80
theorem shX11_stale_84 : cX11_stale.data.toList.drop 84 = sxX11_stale_84 := dSn 1 shX11_stale_83
theorem shX11_stale_85 : cX11_stale.data.toList.drop 85 = sxX11_stale_85 := dSn 1 shX11_stale_84
theorem shX11_stale_86 : cX11_stale.data.toList.drop 86 = sxX11_stale_86 := dSn 1 shX11_stale_85
theorem shX11_stale_89 : cX11_stale.data.toList.drop 89 = sxX11_stale_89 := dSn 3 shX11_stale_86
theorem shX11_stale_92 : cX11_stale.data.toList.drop 92 = sxX11_stale_92 := dSn 3 shX11_stale_89
theorem shX11_stale_93 : cX11_stale.data.toList.drop 93 = sxX11_stale_93 := dSn 1 shX11_stale_92
theorem dX11_stale_0 : decode cX11_stale 0 = .ok (.iload_n 1, 1) := oc_27 shX11_stale_0
theorem dX11_stale_1 : decode cX11_stale 1 = .ok (.iconst 0, 1) := oc_3 shX11_stale_1
theorem dX11_stale_2 : decode cX11_stale 2 = .ok (.sipush 399, 3) := oc_17 shX11_stale_2 sgw_1_143
theorem dX11_stale_5 : decode cX11_stale 5 = .ok (.invokestatic 80, 3) := oc_184 shX11_stale_5
theorem dX11_stale_8 : decode cX11_stale 8 = .ok (.ifCond .ne 5, 3) := oc_154 shX11_stale_8 sgw_0_5
theorem dX11_stale_13 : decode cX11_stale 13 = .ok (.iconst 0, 1) := oc_3 shX11_stale_13
theorem dX11_stale_14 : decode cX11_stale 14 = .ok (.istore_n 2, 1) := oc_61 shX11_stale_14
theorem dX11_stale_15 : decode cX11_stale 15 = .ok (.iconst 0, 1) := oc_3 shX11_stale_15
theorem dX11_stale_16 : decode cX11_stale 16 = .ok (.istore_n 3, 1) := oc_62 shX11_stale_16
theorem dX11_stale_17 : decode cX11_stale 17 = .ok (.iload_n 3, 1) := oc_29 shX11_stale_17
theorem dX11_stale_18 : decode cX11_stale 18 = .ok (.aload_n 0, 1) := oc_42 shX11_stale_18
theorem dX11_stale_19 : decode cX11_stale 19 = .ok (.getfield 502, 3) := oc_180 shX11_stale_19
theorem dX11_stale_22 : decode cX11_stale 22 = .ok (.if_icmp .ge 70, 3) := oc_162 shX11_stale_22 sgw_0_70
theorem dX11_stale_92 : decode cX11_stale 92 = .ok (.iload_n 2, 1) := oc_28 shX11_stale_92
theorem dX11_stale_93 : decode cX11_stale 93 = .ok (.ireturn, 1) := oc_172 shX11_stale_93
theorem dX11_stale_25 : decode cX11_stale 25 = .ok (.aload_n 0, 1) := oc_42 shX11_stale_25
theorem dX11_stale_26 : decode cX11_stale 26 = .ok (.iload_n 3, 1) := oc_29 shX11_stale_26
theorem dX11_stale_27 : decode cX11_stale 27 = .ok (.aload_n 0, 1) := oc_42 shX11_stale_27
theorem dX11_stale_28 : decode cX11_stale 28 = .ok (.getfield 103, 3) := oc_180 shX11_stale_28
theorem dX11_stale_31 : decode cX11_stale 31 = .ok (.invokevirtual 509, 3) := oc_182 shX11_stale_31
theorem dX11_stale_34 : decode cX11_stale 34 = .ok (.astore 4, 2) := oc_58 shX11_stale_34
theorem dX11_stale_36 : decode cX11_stale 36 = .ok (.aload 4, 2) := oc_25 shX11_stale_36
theorem dX11_stale_38 : decode cX11_stale 38 = .ok (.ifnull 16, 3) := oc_198 shX11_stale_38 sgw_0_16
theorem dX11_stale_41 : decode cX11_stale 41 = .ok (.aload 4, 2) := oc_25 shX11_stale_41
theorem dX11_stale_43 : decode cX11_stale 43 = .ok (.getfield 516, 3) := oc_180 shX11_stale_43
theorem dX11_stale_46 : decode cX11_stale 46 = .ok (.iconst (-1), 1) := oc_2 shX11_stale_46
theorem dX11_stale_47 : decode cX11_stale 47 = .ok (.if_icmp .eq 7, 3) := oc_159 shX11_stale_47 sgw_0_7
theorem dX11_stale_54 : decode cX11_stale 54 = .ok (.iconst 0, 1) := oc_3 shX11_stale_54
theorem dX11_stale_55 : decode cX11_stale 55 = .ok (.istore 5, 2) := oc_54 shX11_stale_55
theorem dX11_stale_57 : decode cX11_stale 57 = .ok (.iload_n 2, 1) := oc_28 shX11_stale_57
theorem dX11_stale_58 : decode cX11_stale 58 = .ok (.iload 5, 2) := oc_21 shX11_stale_58
theorem dX11_stale_60 : decode cX11_stale 60 = .ok (.ifCond .eq 23, 3) := oc_153 shX11_stale_60 sgw_0_23
theorem dX11_stale_83 : decode cX11_stale 83 = .ok (.iconst 0, 1) := oc_3 shX11_stale_83
theorem dX11_stale_84 : decode cX11_stale 84 = .ok (.ior, 1) := oc_128 shX11_stale_84
theorem dX11_stale_85 : decode cX11_stale 85 = .ok (.istore_n 2, 1) := oc_61 shX11_stale_85
theorem dX11_stale_86 : decode cX11_stale 86 = .ok (.iinc 3 1, 3) := oc_132 shX11_stale_86 sgb_1
theorem dX11_stale_89 : decode cX11_stale 89 = .ok (.goto (-72), 3) := oc_167 shX11_stale_89 sgw_255_184
theorem dX11_stale_50 : decode cX11_stale 50 = .ok (.iconst 1, 1) := oc_4 shX11_stale_50
theorem dX11_stale_51 : decode cX11_stale 51 = .ok (.goto 4, 3) := oc_167 shX11_stale_51 sgw_0_4
theorem dX11_stale_63 : decode cX11_stale 63 = .ok (.aload_n 0, 1) := oc_42 shX11_stale_63
theorem dX11_stale_64 : decode cX11_stale 64 = .ok (.getfield 103, 3) := oc_180 shX11_stale_64
theorem dX11_stale_67 : decode cX11_stale 67 = .ok (.aload 4, 2) := oc_25 shX11_stale_67
theorem dX11_stale_69 : decode cX11_stale 69 = .ok (.getfield 508, 3) := oc_180 shX11_stale_69
theorem dX11_stale_72 : decode cX11_stale 72 = .ok (.isub, 1) := oc_100 shX11_stale_72
theorem dX11_stale_73 : decode cX11_stale 73 = .ok (.iload_n 1, 1) := oc_27 shX11_stale_73
theorem dX11_stale_74 : decode cX11_stale 74 = .ok (.if_icmp .lt 9, 3) := oc_161 shX11_stale_74 sgw_0_9
theorem dX11_stale_77 : decode cX11_stale 77 = .ok (.iconst 1, 1) := oc_4 shX11_stale_77
theorem dX11_stale_78 : decode cX11_stale 78 = .ok (.iload_n 3, 1) := oc_29 shX11_stale_78
theorem dX11_stale_79 : decode cX11_stale 79 = .ok (.ishl, 1) := oc_120 shX11_stale_79
theorem dX11_stale_80 : decode cX11_stale 80 = .ok (.goto 4, 3) := oc_167 shX11_stale_80 sgw_0_4
theorem dX11_stale_11 : decode cX11_stale 11 = .ok (.iconst (-1), 1) := oc_2 shX11_stale_11
theorem dX11_stale_12 : decode cX11_stale 12 = .ok (.ireturn, 1) := oc_172 shX11_stale_12
def sxX11_stopsOf_67 : List UInt8 := []
def sxX11_stopsOf_66 : List UInt8 := 172 :: sxX11_stopsOf_67
def sxX11_stopsOf_65 : List UInt8 := 29 :: sxX11_stopsOf_66
def sxX11_stopsOf_62 : List UInt8 := 167 :: 255 :: 210 :: sxX11_stopsOf_65
def sxX11_stopsOf_59 : List UInt8 := 132 :: 5 :: 255 :: sxX11_stopsOf_62
def sxX11_stopsOf_57 : List UInt8 := 54 :: 4 :: sxX11_stopsOf_59
def sxX11_stopsOf_56 : List UInt8 := 108 :: sxX11_stopsOf_57
def sxX11_stopsOf_53 : List UInt8 := 180 :: 1 :: 55 :: sxX11_stopsOf_56
def sxX11_stopsOf_52 : List UInt8 := 42 :: sxX11_stopsOf_53
def sxX11_stopsOf_50 : List UInt8 := 21 :: 4 :: sxX11_stopsOf_52
def sxX11_stopsOf_49 : List UInt8 := 62 :: sxX11_stopsOf_50
def sxX11_stopsOf_48 : List UInt8 := 128 :: sxX11_stopsOf_49
def sxX11_stopsOf_47 : List UInt8 := 3 :: sxX11_stopsOf_48
def sxX11_stopsOf_44 : List UInt8 := 167 :: 0 :: 4 :: sxX11_stopsOf_47
def sxX11_stopsOf_43 : List UInt8 := 120 :: sxX11_stopsOf_44
def sxX11_stopsOf_41 : List UInt8 := 21 :: 5 :: sxX11_stopsOf_43
def sxX11_stopsOf_40 : List UInt8 := 4 :: sxX11_stopsOf_41
def sxX11_stopsOf_37 : List UInt8 := 160 :: 0 :: 10 :: sxX11_stopsOf_40
def sxX11_stopsOf_36 : List UInt8 := 28 :: sxX11_stopsOf_37
def sxX11_stopsOf_35 : List UInt8 := 112 :: sxX11_stopsOf_36
def sxX11_stopsOf_32 : List UInt8 := 180 :: 1 :: 55 :: sxX11_stopsOf_35
def sxX11_stopsOf_31 : List UInt8 := 42 :: sxX11_stopsOf_32
def sxX11_stopsOf_29 : List UInt8 := 21 :: 4 :: sxX11_stopsOf_31
def sxX11_stopsOf_28 : List UInt8 := 29 :: sxX11_stopsOf_29
def sxX11_stopsOf_25 : List UInt8 := 158 :: 0 :: 40 :: sxX11_stopsOf_28
def sxX11_stopsOf_22 : List UInt8 := 180 :: 1 :: 55 :: sxX11_stopsOf_25
def sxX11_stopsOf_21 : List UInt8 := 42 :: sxX11_stopsOf_22
def sxX11_stopsOf_18 : List UInt8 := 155 :: 0 :: 47 :: sxX11_stopsOf_21
def sxX11_stopsOf_16 : List UInt8 := 21 :: 5 :: sxX11_stopsOf_18
def sxX11_stopsOf_14 : List UInt8 := 54 :: 5 :: sxX11_stopsOf_16
def sxX11_stopsOf_13 : List UInt8 := 100 :: sxX11_stopsOf_14
def sxX11_stopsOf_12 : List UInt8 := 4 :: sxX11_stopsOf_13
def sxX11_stopsOf_9 : List UInt8 := 180 :: 1 :: 11 :: sxX11_stopsOf_12
def sxX11_stopsOf_6 : List UInt8 := 180 :: 0 :: 54 :: sxX11_stopsOf_9
def sxX11_stopsOf_5 : List UInt8 := 42 :: sxX11_stopsOf_6
def sxX11_stopsOf_3 : List UInt8 := 54 :: 4 :: sxX11_stopsOf_5
def sxX11_stopsOf_2 : List UInt8 := 27 :: sxX11_stopsOf_3
def sxX11_stopsOf_1 : List UInt8 := 62 :: sxX11_stopsOf_2
def sxX11_stopsOf_0 : List UInt8 := 3 :: sxX11_stopsOf_1
theorem shX11_stopsOf_0 : cX11_stopsOf.data.toList.drop 0 = sxX11_stopsOf_0 := rfl
theorem shX11_stopsOf_1 : cX11_stopsOf.data.toList.drop 1 = sxX11_stopsOf_1 := dSn 1 shX11_stopsOf_0
theorem shX11_stopsOf_2 : cX11_stopsOf.data.toList.drop 2 = sxX11_stopsOf_2 := dSn 1 shX11_stopsOf_1
theorem shX11_stopsOf_3 : cX11_stopsOf.data.toList.drop 3 = sxX11_stopsOf_3 := dSn 1 shX11_stopsOf_2
theorem shX11_stopsOf_5 : cX11_stopsOf.data.toList.drop 5 = sxX11_stopsOf_5 := dSn 2 shX11_stopsOf_3
theorem shX11_stopsOf_6 : cX11_stopsOf.data.toList.drop 6 = sxX11_stopsOf_6 := dSn 1 shX11_stopsOf_5
theorem shX11_stopsOf_9 : cX11_stopsOf.data.toList.drop 9 = sxX11_stopsOf_9 := dSn 3 shX11_stopsOf_6
theorem shX11_stopsOf_12 : cX11_stopsOf.data.toList.drop 12 = sxX11_stopsOf_12 := dSn 3 shX11_stopsOf_9
theorem shX11_stopsOf_13 : cX11_stopsOf.data.toList.drop 13 = sxX11_stopsOf_13 := dSn 1 shX11_stopsOf_12
theorem shX11_stopsOf_14 : cX11_stopsOf.data.toList.drop 14 = sxX11_stopsOf_14 := dSn 1 shX11_stopsOf_13
theorem shX11_stopsOf_16 : cX11_stopsOf.data.toList.drop 16 = sxX11_stopsOf_16 := dSn 2 shX11_stopsOf_14
theorem shX11_stopsOf_18 : cX11_stopsOf.data.toList.drop 18 = sxX11_stopsOf_18 := dSn 2 shX11_stopsOf_16
theorem shX11_stopsOf_21 : cX11_stopsOf.data.toList.drop 21 = sxX11_stopsOf_21 := dSn 3 shX11_stopsOf_18
theorem shX11_stopsOf_22 : cX11_stopsOf.data.toList.drop 22 = sxX11_stopsOf_22 := dSn 1 shX11_stopsOf_21
theorem shX11_stopsOf_25 : cX11_stopsOf.data.toList.drop 25 = sxX11_stopsOf_25 := dSn 3 shX11_stopsOf_22
theorem shX11_stopsOf_28 : cX11_stopsOf.data.toList.drop 28 = sxX11_stopsOf_28 := dSn 3 shX11_stopsOf_25
theorem shX11_stopsOf_29 : cX11_stopsOf.data.toList.drop 29 = sxX11_stopsOf_29 := dSn 1 shX11_stopsOf_28
theorem shX11_stopsOf_31 : cX11_stopsOf.data.toList.drop 31 = sxX11_stopsOf_31 := dSn 2 shX11_stopsOf_29
theorem shX11_stopsOf_32 : cX11_stopsOf.data.toList.drop 32 = sxX11_stopsOf_32 := dSn 1 shX11_stopsOf_31
theorem shX11_stopsOf_35 : cX11_stopsOf.data.toList.drop 35 = sxX11_stopsOf_35 := dSn 3 shX11_stopsOf_32
theorem shX11_stopsOf_36 : cX11_stopsOf.data.toList.drop 36 = sxX11_stopsOf_36 := dSn 1 shX11_stopsOf_35
theorem shX11_stopsOf_37 : cX11_stopsOf.data.toList.drop 37 = sxX11_stopsOf_37 := dSn 1 shX11_stopsOf_36
theorem shX11_stopsOf_40 : cX11_stopsOf.data.toList.drop 40 = sxX11_stopsOf_40 := dSn 3 shX11_stopsOf_37
theorem shX11_stopsOf_41 : cX11_stopsOf.data.toList.drop 41 = sxX11_stopsOf_41 := dSn 1 shX11_stopsOf_40
theorem shX11_stopsOf_43 : cX11_stopsOf.data.toList.drop 43 = sxX11_stopsOf_43 := dSn 2 shX11_stopsOf_41
theorem shX11_stopsOf_44 : cX11_stopsOf.data.toList.drop 44 = sxX11_stopsOf_44 := dSn 1 shX11_stopsOf_43
theorem shX11_stopsOf_47 : cX11_stopsOf.data.toList.drop 47 = sxX11_stopsOf_47 := dSn 3 shX11_stopsOf_44
theorem shX11_stopsOf_48 : cX11_stopsOf.data.toList.drop 48 = sxX11_stopsOf_48 := dSn 1 shX11_stopsOf_47
theorem shX11_stopsOf_49 : cX11_stopsOf.data.toList.drop 49 = sxX11_stopsOf_49 := dSn 1 shX11_stopsOf_48
theorem shX11_stopsOf_50 : cX11_stopsOf.data.toList.drop 50 = sxX11_stopsOf_50 := dSn 1 shX11_stopsOf_49
theorem shX11_stopsOf_52 : cX11_stopsOf.data.toList.drop 52 = sxX11_stopsOf_52 := dSn 2 shX11_stopsOf_50
theorem shX11_stopsOf_53 : cX11_stopsOf.data.toList.drop 53 = sxX11_stopsOf_53 := dSn 1 shX11_stopsOf_52
theorem shX11_stopsOf_56 : cX11_stopsOf.data.toList.drop 56 = sxX11_stopsOf_56 := dSn 3 shX11_stopsOf_53
theorem shX11_stopsOf_57 : cX11_stopsOf.data.toList.drop 57 = sxX11_stopsOf_57 := dSn 1 shX11_stopsOf_56
theorem shX11_stopsOf_59 : cX11_stopsOf.data.toList.drop 59 = sxX11_stopsOf_59 := dSn 2 shX11_stopsOf_57
theorem shX11_stopsOf_62 : cX11_stopsOf.data.toList.drop 62 = sxX11_stopsOf_62 := dSn 3 shX11_stopsOf_59
theorem shX11_stopsOf_65 : cX11_stopsOf.data.toList.drop 65 = sxX11_stopsOf_65 := dSn 3 shX11_stopsOf_62
theorem shX11_stopsOf_66 : cX11_stopsOf.data.toList.drop 66 = sxX11_stopsOf_66 := dSn 1 shX11_stopsOf_65
theorem dX11_stopsOf_0 : decode cX11_stopsOf 0 = .ok (.iconst 0, 1) := oc_3 shX11_stopsOf_0
theorem dX11_stopsOf_1 : decode cX11_stopsOf 1 = .ok (.istore_n 3, 1) := oc_62 shX11_stopsOf_1
theorem dX11_stopsOf_2 : decode cX11_stopsOf 2 = .ok (.iload_n 1, 1) := oc_27 shX11_stopsOf_2
theorem dX11_stopsOf_3 : decode cX11_stopsOf 3 = .ok (.istore 4, 2) := oc_54 shX11_stopsOf_3
theorem dX11_stopsOf_5 : decode cX11_stopsOf 5 = .ok (.aload_n 0, 1) := oc_42 shX11_stopsOf_5
theorem dX11_stopsOf_6 : decode cX11_stopsOf 6 = .ok (.getfield 54, 3) := oc_180 shX11_stopsOf_6
theorem dX11_stopsOf_9 : decode cX11_stopsOf 9 = .ok (.getfield 267, 3) := oc_180 shX11_stopsOf_9
theorem dX11_stopsOf_12 : decode cX11_stopsOf 12 = .ok (.iconst 1, 1) := oc_4 shX11_stopsOf_12
theorem dX11_stopsOf_13 : decode cX11_stopsOf 13 = .ok (.isub, 1) := oc_100 shX11_stopsOf_13
theorem dX11_stopsOf_14 : decode cX11_stopsOf 14 = .ok (.istore 5, 2) := oc_54 shX11_stopsOf_14
theorem dX11_stopsOf_16 : decode cX11_stopsOf 16 = .ok (.iload 5, 2) := oc_21 shX11_stopsOf_16
theorem dX11_stopsOf_18 : decode cX11_stopsOf 18 = .ok (.ifCond .lt 47, 3) := oc_155 shX11_stopsOf_18 sgw_0_47
theorem dX11_stopsOf_65 : decode cX11_stopsOf 65 = .ok (.iload_n 3, 1) := oc_29 shX11_stopsOf_65
theorem dX11_stopsOf_66 : decode cX11_stopsOf 66 = .ok (.ireturn, 1) := oc_172 shX11_stopsOf_66
theorem dX11_stopsOf_21 : decode cX11_stopsOf 21 = .ok (.aload_n 0, 1) := oc_42 shX11_stopsOf_21
theorem dX11_stopsOf_22 : decode cX11_stopsOf 22 = .ok (.getfield 311, 3) := oc_180 shX11_stopsOf_22
theorem dX11_stopsOf_25 : decode cX11_stopsOf 25 = .ok (.ifCond .le 40, 3) := oc_158 shX11_stopsOf_25 sgw_0_40
theorem dX11_stopsOf_28 : decode cX11_stopsOf 28 = .ok (.iload_n 3, 1) := oc_29 shX11_stopsOf_28
theorem dX11_stopsOf_29 : decode cX11_stopsOf 29 = .ok (.iload 4, 2) := oc_21 shX11_stopsOf_29
theorem dX11_stopsOf_31 : decode cX11_stopsOf 31 = .ok (.aload_n 0, 1) := oc_42 shX11_stopsOf_31
theorem dX11_stopsOf_32 : decode cX11_stopsOf 32 = .ok (.getfield 311, 3) := oc_180 shX11_stopsOf_32
theorem dX11_stopsOf_35 : decode cX11_stopsOf 35 = .ok (.irem, 1) := oc_112 shX11_stopsOf_35
theorem dX11_stopsOf_36 : decode cX11_stopsOf 36 = .ok (.iload_n 2, 1) := oc_28 shX11_stopsOf_36
theorem dX11_stopsOf_37 : decode cX11_stopsOf 37 = .ok (.if_icmp .ne 10, 3) := oc_160 shX11_stopsOf_37 sgw_0_10
theorem dX11_stopsOf_47 : decode cX11_stopsOf 47 = .ok (.iconst 0, 1) := oc_3 shX11_stopsOf_47
theorem dX11_stopsOf_48 : decode cX11_stopsOf 48 = .ok (.ior, 1) := oc_128 shX11_stopsOf_48
theorem dX11_stopsOf_49 : decode cX11_stopsOf 49 = .ok (.istore_n 3, 1) := oc_62 shX11_stopsOf_49
theorem dX11_stopsOf_50 : decode cX11_stopsOf 50 = .ok (.iload 4, 2) := oc_21 shX11_stopsOf_50
theorem dX11_stopsOf_52 : decode cX11_stopsOf 52 = .ok (.aload_n 0, 1) := oc_42 shX11_stopsOf_52
theorem dX11_stopsOf_53 : decode cX11_stopsOf 53 = .ok (.getfield 311, 3) := oc_180 shX11_stopsOf_53
theorem dX11_stopsOf_56 : decode cX11_stopsOf 56 = .ok (.idiv, 1) := oc_108 shX11_stopsOf_56
theorem dX11_stopsOf_57 : decode cX11_stopsOf 57 = .ok (.istore 4, 2) := oc_54 shX11_stopsOf_57
theorem dX11_stopsOf_59 : decode cX11_stopsOf 59 = .ok (.iinc 5 (-1), 3) := oc_132 shX11_stopsOf_59 sgb_255
theorem dX11_stopsOf_62 : decode cX11_stopsOf 62 = .ok (.goto (-46), 3) := oc_167 shX11_stopsOf_62 sgw_255_210
theorem dX11_stopsOf_40 : decode cX11_stopsOf 40 = .ok (.iconst 1, 1) := oc_4 shX11_stopsOf_40
theorem dX11_stopsOf_41 : decode cX11_stopsOf 41 = .ok (.iload 5, 2) := oc_21 shX11_stopsOf_41
theorem dX11_stopsOf_43 : decode cX11_stopsOf 43 = .ok (.ishl, 1) := oc_120 shX11_stopsOf_43
theorem dX11_stopsOf_44 : decode cX11_stopsOf 44 = .ok (.goto 4, 3) := oc_167 shX11_stopsOf_44 sgw_0_4
def sxX11_lorryOf_63 : List UInt8 := []
def sxX11_lorryOf_62 : List UInt8 := 172 :: sxX11_lorryOf_63
def sxX11_lorryOf_61 : List UInt8 := 2 :: sxX11_lorryOf_62
def sxX11_lorryOf_58 : List UInt8 := 167 :: 255 :: 211 :: sxX11_lorryOf_61
def sxX11_lorryOf_55 : List UInt8 := 132 :: 4 :: 255 :: sxX11_lorryOf_58
def sxX11_lorryOf_54 : List UInt8 := 62 :: sxX11_lorryOf_55
def sxX11_lorryOf_53 : List UInt8 := 108 :: sxX11_lorryOf_54
def sxX11_lorryOf_50 : List UInt8 := 180 :: 1 :: 55 :: sxX11_lorryOf_53
def sxX11_lorryOf_49 : List UInt8 := 42 :: sxX11_lorryOf_50
def sxX11_lorryOf_48 : List UInt8 := 29 :: sxX11_lorryOf_49
def sxX11_lorryOf_47 : List UInt8 := 172 :: sxX11_lorryOf_48
def sxX11_lorryOf_46 : List UInt8 := 112 :: sxX11_lorryOf_47
def sxX11_lorryOf_43 : List UInt8 := 180 :: 1 :: 55 :: sxX11_lorryOf_46
def sxX11_lorryOf_42 : List UInt8 := 42 :: sxX11_lorryOf_43
def sxX11_lorryOf_41 : List UInt8 := 29 :: sxX11_lorryOf_42
def sxX11_lorryOf_38 : List UInt8 := 160 :: 0 :: 10 :: sxX11_lorryOf_41
def sxX11_lorryOf_37 : List UInt8 := 28 :: sxX11_lorryOf_38
def sxX11_lorryOf_34 : List UInt8 := 184 :: 0 :: 192 :: sxX11_lorryOf_37
def sxX11_lorryOf_32 : List UInt8 := 21 :: 4 :: sxX11_lorryOf_34
def sxX11_lorryOf_29 : List UInt8 := 180 :: 1 :: 50 :: sxX11_lorryOf_32
def sxX11_lorryOf_26 : List UInt8 := 180 :: 0 :: 54 :: sxX11_lorryOf_29
def sxX11_lorryOf_25 : List UInt8 := 42 :: sxX11_lorryOf_26
def sxX11_lorryOf_22 : List UInt8 := 158 :: 0 :: 39 :: sxX11_lorryOf_25
def sxX11_lorryOf_19 : List UInt8 := 180 :: 1 :: 55 :: sxX11_lorryOf_22
def sxX11_lorryOf_18 : List UInt8 := 42 :: sxX11_lorryOf_19
def sxX11_lorryOf_15 : List UInt8 := 155 :: 0 :: 46 :: sxX11_lorryOf_18
def sxX11_lorryOf_13 : List UInt8 := 21 :: 4 :: sxX11_lorryOf_15
def sxX11_lorryOf_11 : List UInt8 := 54 :: 4 :: sxX11_lorryOf_13
def sxX11_lorryOf_10 : List UInt8 := 100 :: sxX11_lorryOf_11
def sxX11_lorryOf_9 : List UInt8 := 4 :: sxX11_lorryOf_10
def sxX11_lorryOf_6 : List UInt8 := 180 :: 1 :: 11 :: sxX11_lorryOf_9
def sxX11_lorryOf_3 : List UInt8 := 180 :: 0 :: 54 :: sxX11_lorryOf_6
def sxX11_lorryOf_2 : List UInt8 := 42 :: sxX11_lorryOf_3
def sxX11_lorryOf_1 : List UInt8 := 62 :: sxX11_lorryOf_2
def sxX11_lorryOf_0 : List UInt8 := 27 :: sxX11_lorryOf_1
theorem shX11_lorryOf_0 : cX11_lorryOf.data.toList.drop 0 = sxX11_lorryOf_0 := rfl
theorem shX11_lorryOf_1 : cX11_lorryOf.data.toList.drop 1 = sxX11_lorryOf_1 := dSn 1 shX11_lorryOf_0
theorem shX11_lorryOf_2 : cX11_lorryOf.data.toList.drop 2 = sxX11_lorryOf_2 := dSn 1 shX11_lorryOf_1
theorem shX11_lorryOf_3 : cX11_lorryOf.data.toList.drop 3 = sxX11_lorryOf_3 := dSn 1 shX11_lorryOf_2
theorem shX11_lorryOf_6 : cX11_lorryOf.data.toList.drop 6 = sxX11_lorryOf_6 := dSn 3 shX11_lorryOf_3
theorem shX11_lorryOf_9 : cX11_lorryOf.data.toList.drop 9 = sxX11_lorryOf_9 := dSn 3 shX11_lorryOf_6
theorem shX11_lorryOf_10 : cX11_lorryOf.data.toList.drop 10 = sxX11_lorryOf_10 := dSn 1 shX11_lorryOf_9
theorem shX11_lorryOf_11 : cX11_lorryOf.data.toList.drop 11 = sxX11_lorryOf_11 := dSn 1 shX11_lorryOf_10
theorem shX11_lorryOf_13 : cX11_lorryOf.data.toList.drop 13 = sxX11_lorryOf_13 := dSn 2 shX11_lorryOf_11
theorem shX11_lorryOf_15 : cX11_lorryOf.data.toList.drop 15 = sxX11_lorryOf_15 := dSn 2 shX11_lorryOf_13
theorem shX11_lorryOf_18 : cX11_lorryOf.data.toList.drop 18 = sxX11_lorryOf_18 := dSn 3 shX11_lorryOf_15
theorem shX11_lorryOf_19 : cX11_lorryOf.data.toList.drop 19 = sxX11_lorryOf_19 := dSn 1 shX11_lorryOf_18
theorem shX11_lorryOf_22 : cX11_lorryOf.data.toList.drop 22 = sxX11_lorryOf_22 := dSn 3 shX11_lorryOf_19
theorem shX11_lorryOf_25 : cX11_lorryOf.data.toList.drop 25 = sxX11_lorryOf_25 := dSn 3 shX11_lorryOf_22
theorem shX11_lorryOf_26 : cX11_lorryOf.data.toList.drop 26 = sxX11_lorryOf_26 := dSn 1 shX11_lorryOf_25
theorem shX11_lorryOf_29 : cX11_lorryOf.data.toList.drop 29 = sxX11_lorryOf_29 := dSn 3 shX11_lorryOf_26
theorem shX11_lorryOf_32 : cX11_lorryOf.data.toList.drop 32 = sxX11_lorryOf_32 := dSn 3 shX11_lorryOf_29
theorem shX11_lorryOf_34 : cX11_lorryOf.data.toList.drop 34 = sxX11_lorryOf_34 := dSn 2 shX11_lorryOf_32
theorem shX11_lorryOf_37 : cX11_lorryOf.data.toList.drop 37 = sxX11_lorryOf_37 := dSn 3 shX11_lorryOf_34
theorem shX11_lorryOf_38 : cX11_lorryOf.data.toList.drop 38 = sxX11_lorryOf_38 := dSn 1 shX11_lorryOf_37
theorem shX11_lorryOf_41 : cX11_lorryOf.data.toList.drop 41 = sxX11_lorryOf_41 := dSn 3 shX11_lorryOf_38
theorem shX11_lorryOf_42 : cX11_lorryOf.data.toList.drop 42 = sxX11_lorryOf_42 := dSn 1 shX11_lorryOf_41
theorem shX11_lorryOf_43 : cX11_lorryOf.data.toList.drop 43 = sxX11_lorryOf_43 := dSn 1 shX11_lorryOf_42
theorem shX11_lorryOf_46 : cX11_lorryOf.data.toList.drop 46 = sxX11_lorryOf_46 := dSn 3 shX11_lorryOf_43
theorem shX11_lorryOf_47 : cX11_lorryOf.data.toList.drop 47 = sxX11_lorryOf_47 := dSn 1 shX11_lorryOf_46
theorem shX11_lorryOf_48 : cX11_lorryOf.data.toList.drop 48 = sxX11_lorryOf_48 := dSn 1 shX11_lorryOf_47
theorem shX11_lorryOf_49 : cX11_lorryOf.data.toList.drop 49 = sxX11_lorryOf_49 := dSn 1 shX11_lorryOf_48
theorem shX11_lorryOf_50 : cX11_lorryOf.data.toList.drop 50 = sxX11_lorryOf_50 := dSn 1 shX11_lorryOf_49
theorem shX11_lorryOf_53 : cX11_lorryOf.data.toList.drop 53 = sxX11_lorryOf_53 := dSn 3 shX11_lorryOf_50
theorem shX11_lorryOf_54 : cX11_lorryOf.data.toList.drop 54 = sxX11_lorryOf_54 := dSn 1 shX11_lorryOf_53
theorem shX11_lorryOf_55 : cX11_lorryOf.data.toList.drop 55 = sxX11_lorryOf_55 := dSn 1 shX11_lorryOf_54
theorem shX11_lorryOf_58 : cX11_lorryOf.data.toList.drop 58 = sxX11_lorryOf_58 := dSn 3 shX11_lorryOf_55
theorem shX11_lorryOf_61 : cX11_lorryOf.data.toList.drop 61 = sxX11_lorryOf_61 := dSn 3 shX11_lorryOf_58
theorem shX11_lorryOf_62 : cX11_lorryOf.data.toList.drop 62 = sxX11_lorryOf_62 := dSn 1 shX11_lorryOf_61
theorem dX11_lorryOf_0 : decode cX11_lorryOf 0 = .ok (.iload_n 1, 1) := oc_27 shX11_lorryOf_0
theorem dX11_lorryOf_1 : decode cX11_lorryOf 1 = .ok (.istore_n 3, 1) := oc_62 shX11_lorryOf_1
theorem dX11_lorryOf_2 : decode cX11_lorryOf 2 = .ok (.aload_n 0, 1) := oc_42 shX11_lorryOf_2
theorem dX11_lorryOf_3 : decode cX11_lorryOf 3 = .ok (.getfield 54, 3) := oc_180 shX11_lorryOf_3
theorem dX11_lorryOf_6 : decode cX11_lorryOf 6 = .ok (.getfield 267, 3) := oc_180 shX11_lorryOf_6
theorem dX11_lorryOf_9 : decode cX11_lorryOf 9 = .ok (.iconst 1, 1) := oc_4 shX11_lorryOf_9
theorem dX11_lorryOf_10 : decode cX11_lorryOf 10 = .ok (.isub, 1) := oc_100 shX11_lorryOf_10
theorem dX11_lorryOf_11 : decode cX11_lorryOf 11 = .ok (.istore 4, 2) := oc_54 shX11_lorryOf_11
theorem dX11_lorryOf_13 : decode cX11_lorryOf 13 = .ok (.iload 4, 2) := oc_21 shX11_lorryOf_13
theorem dX11_lorryOf_15 : decode cX11_lorryOf 15 = .ok (.ifCond .lt 46, 3) := oc_155 shX11_lorryOf_15 sgw_0_46
theorem dX11_lorryOf_61 : decode cX11_lorryOf 61 = .ok (.iconst (-1), 1) := oc_2 shX11_lorryOf_61
theorem dX11_lorryOf_62 : decode cX11_lorryOf 62 = .ok (.ireturn, 1) := oc_172 shX11_lorryOf_62
theorem dX11_lorryOf_18 : decode cX11_lorryOf 18 = .ok (.aload_n 0, 1) := oc_42 shX11_lorryOf_18
theorem dX11_lorryOf_19 : decode cX11_lorryOf 19 = .ok (.getfield 311, 3) := oc_180 shX11_lorryOf_19
theorem dX11_lorryOf_22 : decode cX11_lorryOf 22 = .ok (.ifCond .le 39, 3) := oc_158 shX11_lorryOf_22 sgw_0_39
theorem dX11_lorryOf_25 : decode cX11_lorryOf 25 = .ok (.aload_n 0, 1) := oc_42 shX11_lorryOf_25
theorem dX11_lorryOf_26 : decode cX11_lorryOf 26 = .ok (.getfield 54, 3) := oc_180 shX11_lorryOf_26
theorem dX11_lorryOf_29 : decode cX11_lorryOf 29 = .ok (.getfield 306, 3) := oc_180 shX11_lorryOf_29
theorem dX11_lorryOf_32 : decode cX11_lorryOf 32 = .ok (.iload 4, 2) := oc_21 shX11_lorryOf_32
theorem dX11_lorryOf_34 : decode cX11_lorryOf 34 = .ok (.invokestatic 192, 3) := oc_184 shX11_lorryOf_34
theorem dX11_lorryOf_37 : decode cX11_lorryOf 37 = .ok (.iload_n 2, 1) := oc_28 shX11_lorryOf_37
theorem dX11_lorryOf_38 : decode cX11_lorryOf 38 = .ok (.if_icmp .ne 10, 3) := oc_160 shX11_lorryOf_38 sgw_0_10
theorem dX11_lorryOf_48 : decode cX11_lorryOf 48 = .ok (.iload_n 3, 1) := oc_29 shX11_lorryOf_48
theorem dX11_lorryOf_49 : decode cX11_lorryOf 49 = .ok (.aload_n 0, 1) := oc_42 shX11_lorryOf_49
theorem dX11_lorryOf_50 : decode cX11_lorryOf 50 = .ok (.getfield 311, 3) := oc_180 shX11_lorryOf_50
theorem dX11_lorryOf_53 : decode cX11_lorryOf 53 = .ok (.idiv, 1) := oc_108 shX11_lorryOf_53
theorem dX11_lorryOf_54 : decode cX11_lorryOf 54 = .ok (.istore_n 3, 1) := oc_62 shX11_lorryOf_54
theorem dX11_lorryOf_55 : decode cX11_lorryOf 55 = .ok (.iinc 4 (-1), 3) := oc_132 shX11_lorryOf_55 sgb_255
theorem dX11_lorryOf_58 : decode cX11_lorryOf 58 = .ok (.goto (-45), 3) := oc_167 shX11_lorryOf_58 sgw_255_211
theorem dX11_lorryOf_41 : decode cX11_lorryOf 41 = .ok (.iload_n 3, 1) := oc_29 shX11_lorryOf_41
theorem dX11_lorryOf_42 : decode cX11_lorryOf 42 = .ok (.aload_n 0, 1) := oc_42 shX11_lorryOf_42
theorem dX11_lorryOf_43 : decode cX11_lorryOf 43 = .ok (.getfield 311, 3) := oc_180 shX11_lorryOf_43
theorem dX11_lorryOf_46 : decode cX11_lorryOf 46 = .ok (.irem, 1) := oc_112 shX11_lorryOf_46
theorem dX11_lorryOf_47 : decode cX11_lorryOf 47 = .ok (.ireturn, 1) := oc_172 shX11_lorryOf_47
def sxX11_sharedLength_84 : List UInt8 := []
def sxX11_sharedLength_83 : List UInt8 := 172 :: sxX11_sharedLength_84
def sxX11_sharedLength_82 : List UInt8 := 29 :: sxX11_sharedLength_83
def sxX11_sharedLength_79 : List UInt8 := 167 :: 255 :: 182 :: sxX11_sharedLength_82
def sxX11_sharedLength_76 : List UInt8 := 132 :: 4 :: 1 :: sxX11_sharedLength_79
def sxX11_sharedLength_75 : List UInt8 := 62 :: sxX11_sharedLength_76
def sxX11_sharedLength_74 : List UInt8 := 96 :: sxX11_sharedLength_75
def sxX11_sharedLength_71 : List UInt8 := 182 :: 1 :: 83 :: sxX11_sharedLength_74
def sxX11_sharedLength_69 : List UInt8 := 21 :: 5 :: sxX11_sharedLength_71
def sxX11_sharedLength_66 : List UInt8 := 180 :: 0 :: 54 :: sxX11_sharedLength_69
def sxX11_sharedLength_65 : List UInt8 := 42 :: sxX11_sharedLength_66
def sxX11_sharedLength_64 : List UInt8 := 29 :: sxX11_sharedLength_65
def sxX11_sharedLength_63 : List UInt8 := 172 :: sxX11_sharedLength_64
def sxX11_sharedLength_62 : List UInt8 := 2 :: sxX11_sharedLength_63
def sxX11_sharedLength_59 : List UInt8 := 164 :: 0 :: 5 :: sxX11_sharedLength_62
def sxX11_sharedLength_56 : List UInt8 := 184 :: 0 :: 192 :: sxX11_sharedLength_59
def sxX11_sharedLength_54 : List UInt8 := 21 :: 4 :: sxX11_sharedLength_56
def sxX11_sharedLength_51 : List UInt8 := 180 :: 1 :: 58 :: sxX11_sharedLength_54
def sxX11_sharedLength_48 : List UInt8 := 180 :: 0 :: 47 :: sxX11_sharedLength_51
def sxX11_sharedLength_47 : List UInt8 := 42 :: sxX11_sharedLength_48
def sxX11_sharedLength_44 : List UInt8 := 182 :: 1 :: 80 :: sxX11_sharedLength_47
def sxX11_sharedLength_42 : List UInt8 := 21 :: 5 :: sxX11_sharedLength_44
def sxX11_sharedLength_39 : List UInt8 := 180 :: 0 :: 54 :: sxX11_sharedLength_42
def sxX11_sharedLength_38 : List UInt8 := 42 :: sxX11_sharedLength_39
def sxX11_sharedLength_35 : List UInt8 := 154 :: 0 :: 27 :: sxX11_sharedLength_38
def sxX11_sharedLength_32 : List UInt8 := 182 :: 1 :: 61 :: sxX11_sharedLength_35
def sxX11_sharedLength_31 : List UInt8 := 28 :: sxX11_sharedLength_32
def sxX11_sharedLength_29 : List UInt8 := 21 :: 4 :: sxX11_sharedLength_31
def sxX11_sharedLength_28 : List UInt8 := 42 :: sxX11_sharedLength_29
def sxX11_sharedLength_25 : List UInt8 := 153 :: 0 :: 39 :: sxX11_sharedLength_28
def sxX11_sharedLength_23 : List UInt8 := 21 :: 5 :: sxX11_sharedLength_25
def sxX11_sharedLength_21 : List UInt8 := 54 :: 5 :: sxX11_sharedLength_23
def sxX11_sharedLength_18 : List UInt8 := 182 :: 1 :: 77 :: sxX11_sharedLength_21
def sxX11_sharedLength_16 : List UInt8 := 21 :: 4 :: sxX11_sharedLength_18
def sxX11_sharedLength_15 : List UInt8 := 27 :: sxX11_sharedLength_16
def sxX11_sharedLength_14 : List UInt8 := 42 :: sxX11_sharedLength_15
def sxX11_sharedLength_11 : List UInt8 := 162 :: 0 :: 71 :: sxX11_sharedLength_14
def sxX11_sharedLength_8 : List UInt8 := 180 :: 1 :: 55 :: sxX11_sharedLength_11
def sxX11_sharedLength_7 : List UInt8 := 42 :: sxX11_sharedLength_8
def sxX11_sharedLength_5 : List UInt8 := 21 :: 4 :: sxX11_sharedLength_7
def sxX11_sharedLength_3 : List UInt8 := 54 :: 4 :: sxX11_sharedLength_5
def sxX11_sharedLength_2 : List UInt8 := 3 :: sxX11_sharedLength_3
def sxX11_sharedLength_1 : List UInt8 := 62 :: sxX11_sharedLength_2
def sxX11_sharedLength_0 : List UInt8 := 3 :: sxX11_sharedLength_1
theorem shX11_sharedLength_0 : cX11_sharedLength.data.toList.drop 0 = sxX11_sharedLength_0 := rfl
theorem shX11_sharedLength_1 : cX11_sharedLength.data.toList.drop 1 = sxX11_sharedLength_1 := dSn 1 shX11_sharedLength_0
theorem shX11_sharedLength_2 : cX11_sharedLength.data.toList.drop 2 = sxX11_sharedLength_2 := dSn 1 shX11_sharedLength_1
theorem shX11_sharedLength_3 : cX11_sharedLength.data.toList.drop 3 = sxX11_sharedLength_3 := dSn 1 shX11_sharedLength_2
theorem shX11_sharedLength_5 : cX11_sharedLength.data.toList.drop 5 = sxX11_sharedLength_5 := dSn 2 shX11_sharedLength_3
theorem shX11_sharedLength_7 : cX11_sharedLength.data.toList.drop 7 = sxX11_sharedLength_7 := dSn 2 shX11_sharedLength_5
theorem shX11_sharedLength_8 : cX11_sharedLength.data.toList.drop 8 = sxX11_sharedLength_8 := dSn 1 shX11_sharedLength_7
theorem shX11_sharedLength_11 : cX11_sharedLength.data.toList.drop 11 = sxX11_sharedLength_11 := dSn 3 shX11_sharedLength_8
theorem shX11_sharedLength_14 : cX11_sharedLength.data.toList.drop 14 = sxX11_sharedLength_14 := dSn 3 shX11_sharedLength_11
theorem shX11_sharedLength_15 : cX11_sharedLength.data.toList.drop 15 = sxX11_sharedLength_15 := dSn 1 shX11_sharedLength_14
theorem shX11_sharedLength_16 : cX11_sharedLength.data.toList.drop 16 = sxX11_sharedLength_16 := dSn 1 shX11_sharedLength_15
theorem shX11_sharedLength_18 : cX11_sharedLength.data.toList.drop 18 = sxX11_sharedLength_18 := dSn 2 shX11_sharedLength_16
theorem shX11_sharedLength_21 : cX11_sharedLength.data.toList.drop 21 = sxX11_sharedLength_21 := dSn 3 shX11_sharedLength_18
theorem shX11_sharedLength_23 : cX11_sharedLength.data.toList.drop 23 = sxX11_sharedLength_23 := dSn 2 shX11_sharedLength_21
theorem shX11_sharedLength_25 : cX11_sharedLength.data.toList.drop 25 = sxX11_sharedLength_25 := dSn 2 shX11_sharedLength_23
theorem shX11_sharedLength_28 : cX11_sharedLength.data.toList.drop 28 = sxX11_sharedLength_28 := dSn 3 shX11_sharedLength_25
theorem shX11_sharedLength_29 : cX11_sharedLength.data.toList.drop 29 = sxX11_sharedLength_29 := dSn 1 shX11_sharedLength_28
theorem shX11_sharedLength_31 : cX11_sharedLength.data.toList.drop 31 = sxX11_sharedLength_31 := dSn 2 shX11_sharedLength_29
theorem shX11_sharedLength_32 : cX11_sharedLength.data.toList.drop 32 = sxX11_sharedLength_32 := dSn 1 shX11_sharedLength_31
theorem shX11_sharedLength_35 : cX11_sharedLength.data.toList.drop 35 = sxX11_sharedLength_35 := dSn 3 shX11_sharedLength_32
theorem shX11_sharedLength_38 : cX11_sharedLength.data.toList.drop 38 = sxX11_sharedLength_38 := dSn 3 shX11_sharedLength_35
theorem shX11_sharedLength_39 : cX11_sharedLength.data.toList.drop 39 = sxX11_sharedLength_39 := dSn 1 shX11_sharedLength_38
theorem shX11_sharedLength_42 : cX11_sharedLength.data.toList.drop 42 = sxX11_sharedLength_42 := dSn 3 shX11_sharedLength_39
theorem shX11_sharedLength_44 : cX11_sharedLength.data.toList.drop 44 = sxX11_sharedLength_44 := dSn 2 shX11_sharedLength_42
theorem shX11_sharedLength_47 : cX11_sharedLength.data.toList.drop 47 = sxX11_sharedLength_47 := dSn 3 shX11_sharedLength_44
theorem shX11_sharedLength_48 : cX11_sharedLength.data.toList.drop 48 = sxX11_sharedLength_48 := dSn 1 shX11_sharedLength_47
theorem shX11_sharedLength_51 : cX11_sharedLength.data.toList.drop 51 = sxX11_sharedLength_51 := dSn 3 shX11_sharedLength_48
theorem shX11_sharedLength_54 : cX11_sharedLength.data.toList.drop 54 = sxX11_sharedLength_54 := dSn 3 shX11_sharedLength_51
theorem shX11_sharedLength_56 : cX11_sharedLength.data.toList.drop 56 = sxX11_sharedLength_56 := dSn 2 shX11_sharedLength_54
theorem shX11_sharedLength_59 : cX11_sharedLength.data.toList.drop 59 = sxX11_sharedLength_59 := dSn 3 shX11_sharedLength_56
theorem shX11_sharedLength_62 : cX11_sharedLength.data.toList.drop 62 = sxX11_sharedLength_62 := dSn 3 shX11_sharedLength_59
theorem shX11_sharedLength_63 : cX11_sharedLength.data.toList.drop 63 = sxX11_sharedLength_63 := dSn 1 shX11_sharedLength_62
theorem shX11_sharedLength_64 : cX11_sharedLength.data.toList.drop 64 = sxX11_sharedLength_64 := dSn 1 shX11_sharedLength_63
theorem shX11_sharedLength_65 : cX11_sharedLength.data.toList.drop 65 = sxX11_sharedLength_65 := dSn 1 shX11_sharedLength_64
theorem shX11_sharedLength_66 : cX11_sharedLength.data.toList.drop 66 = sxX11_sharedLength_66 := dSn 1 shX11_sharedLength_65
theorem shX11_sharedLength_69 : cX11_sharedLength.data.toList.drop 69 = sxX11_sharedLength_69 := dSn 3 shX11_sharedLength_66
theorem shX11_sharedLength_71 : cX11_sharedLength.data.toList.drop 71 = sxX11_sharedLength_71 := dSn 2 shX11_sharedLength_69
theorem shX11_sharedLength_74 : cX11_sharedLength.data.toList.drop 74 = sxX11_sharedLength_74 := dSn 3 shX11_sharedLength_71
theorem shX11_sharedLength_75 : cX11_sharedLength.data.toList.drop 75 = sxX11_sharedLength_75 := dSn 1 shX11_sharedLength_74
theorem shX11_sharedLength_76 : cX11_sharedLength.data.toList.drop 76 = sxX11_sharedLength_76 := dSn 1 shX11_sharedLength_75
theorem shX11_sharedLength_79 : cX11_sharedLength.data.toList.drop 79 = sxX11_sharedLength_79 := dSn 3 shX11_sharedLength_76
theorem shX11_sharedLength_82 : cX11_sharedLength.data.toList.drop 82 = sxX11_sharedLength_82 := dSn 3 shX11_sharedLength_79
theorem shX11_sharedLength_83 : cX11_sharedLength.data.toList.drop 83 = sxX11_sharedLength_83 := dSn 1 shX11_sharedLength_82
theorem dX11_sharedLength_0 : decode cX11_sharedLength 0 = .ok (.iconst 0, 1) := oc_3 shX11_sharedLength_0
theorem dX11_sharedLength_1 : decode cX11_sharedLength 1 = .ok (.istore_n 3, 1) := oc_62 shX11_sharedLength_1
theorem dX11_sharedLength_2 : decode cX11_sharedLength 2 = .ok (.iconst 0, 1) := oc_3 shX11_sharedLength_2
theorem dX11_sharedLength_3 : decode cX11_sharedLength 3 = .ok (.istore 4, 2) := oc_54 shX11_sharedLength_3
theorem dX11_sharedLength_5 : decode cX11_sharedLength 5 = .ok (.iload 4, 2) := oc_21 shX11_sharedLength_5
theorem dX11_sharedLength_7 : decode cX11_sharedLength 7 = .ok (.aload_n 0, 1) := oc_42 shX11_sharedLength_7
theorem dX11_sharedLength_8 : decode cX11_sharedLength 8 = .ok (.getfield 311, 3) := oc_180 shX11_sharedLength_8
theorem dX11_sharedLength_11 : decode cX11_sharedLength 11 = .ok (.if_icmp .ge 71, 3) := oc_162 shX11_sharedLength_11 sgw_0_71
theorem dX11_sharedLength_82 : decode cX11_sharedLength 82 = .ok (.iload_n 3, 1) := oc_29 shX11_sharedLength_82
theorem dX11_sharedLength_83 : decode cX11_sharedLength 83 = .ok (.ireturn, 1) := oc_172 shX11_sharedLength_83
theorem dX11_sharedLength_14 : decode cX11_sharedLength 14 = .ok (.aload_n 0, 1) := oc_42 shX11_sharedLength_14
theorem dX11_sharedLength_15 : decode cX11_sharedLength 15 = .ok (.iload_n 1, 1) := oc_27 shX11_sharedLength_15
theorem dX11_sharedLength_16 : decode cX11_sharedLength 16 = .ok (.iload 4, 2) := oc_21 shX11_sharedLength_16
theorem dX11_sharedLength_18 : decode cX11_sharedLength 18 = .ok (.invokevirtual 333, 3) := oc_182 shX11_sharedLength_18
theorem dX11_sharedLength_21 : decode cX11_sharedLength 21 = .ok (.istore 5, 2) := oc_54 shX11_sharedLength_21
theorem dX11_sharedLength_23 : decode cX11_sharedLength 23 = .ok (.iload 5, 2) := oc_21 shX11_sharedLength_23
theorem dX11_sharedLength_25 : decode cX11_sharedLength 25 = .ok (.ifCond .eq 39, 3) := oc_153 shX11_sharedLength_25 sgw_0_39
theorem dX11_sharedLength_64 : decode cX11_sharedLength 64 = .ok (.iload_n 3, 1) := oc_29 shX11_sharedLength_64
theorem dX11_sharedLength_65 : decode cX11_sharedLength 65 = .ok (.aload_n 0, 1) := oc_42 shX11_sharedLength_65
theorem dX11_sharedLength_66 : decode cX11_sharedLength 66 = .ok (.getfield 54, 3) := oc_180 shX11_sharedLength_66
theorem dX11_sharedLength_69 : decode cX11_sharedLength 69 = .ok (.iload 5, 2) := oc_21 shX11_sharedLength_69
theorem dX11_sharedLength_71 : decode cX11_sharedLength 71 = .ok (.invokevirtual 339, 3) := oc_182 shX11_sharedLength_71
theorem dX11_sharedLength_74 : decode cX11_sharedLength 74 = .ok (.iadd, 1) := oc_96 shX11_sharedLength_74
theorem dX11_sharedLength_75 : decode cX11_sharedLength 75 = .ok (.istore_n 3, 1) := oc_62 shX11_sharedLength_75
theorem dX11_sharedLength_76 : decode cX11_sharedLength 76 = .ok (.iinc 4 1, 3) := oc_132 shX11_sharedLength_76 sgb_1
theorem dX11_sharedLength_79 : decode cX11_sharedLength 79 = .ok (.goto (-74), 3) := oc_167 shX11_sharedLength_79 sgw_255_182
theorem dX11_sharedLength_28 : decode cX11_sharedLength 28 = .ok (.aload_n 0, 1) := oc_42 shX11_sharedLength_28
theorem dX11_sharedLength_29 : decode cX11_sharedLength 29 = .ok (.iload 4, 2) := oc_21 shX11_sharedLength_29
theorem dX11_sharedLength_31 : decode cX11_sharedLength 31 = .ok (.iload_n 2, 1) := oc_28 shX11_sharedLength_31
theorem dX11_sharedLength_32 : decode cX11_sharedLength 32 = .ok (.invokevirtual 317, 3) := oc_182 shX11_sharedLength_32
theorem dX11_sharedLength_35 : decode cX11_sharedLength 35 = .ok (.ifCond .ne 27, 3) := oc_154 shX11_sharedLength_35 sgw_0_27
theorem dX11_sharedLength_62 : decode cX11_sharedLength 62 = .ok (.iconst (-1), 1) := oc_2 shX11_sharedLength_62
theorem dX11_sharedLength_63 : decode cX11_sharedLength 63 = .ok (.ireturn, 1) := oc_172 shX11_sharedLength_63
theorem dX11_sharedLength_38 : decode cX11_sharedLength 38 = .ok (.aload_n 0, 1) := oc_42 shX11_sharedLength_38
theorem dX11_sharedLength_39 : decode cX11_sharedLength 39 = .ok (.getfield 54, 3) := oc_180 shX11_sharedLength_39
theorem dX11_sharedLength_42 : decode cX11_sharedLength 42 = .ok (.iload 5, 2) := oc_21 shX11_sharedLength_42
theorem dX11_sharedLength_44 : decode cX11_sharedLength 44 = .ok (.invokevirtual 336, 3) := oc_182 shX11_sharedLength_44
theorem dX11_sharedLength_47 : decode cX11_sharedLength 47 = .ok (.aload_n 0, 1) := oc_42 shX11_sharedLength_47
theorem dX11_sharedLength_48 : decode cX11_sharedLength 48 = .ok (.getfield 47, 3) := oc_180 shX11_sharedLength_48
theorem dX11_sharedLength_51 : decode cX11_sharedLength 51 = .ok (.getfield 314, 3) := oc_180 shX11_sharedLength_51
theorem dX11_sharedLength_54 : decode cX11_sharedLength 54 = .ok (.iload 4, 2) := oc_21 shX11_sharedLength_54
theorem dX11_sharedLength_56 : decode cX11_sharedLength 56 = .ok (.invokestatic 192, 3) := oc_184 shX11_sharedLength_56
theorem dX11_sharedLength_59 : decode cX11_sharedLength 59 = .ok (.if_icmp .le 5, 3) := oc_164 shX11_sharedLength_59 sgw_0_5
def sxX11_bestShares_84 : List UInt8 := []
def sxX11_bestShares_83 : List UInt8 := 172 :: sxX11_bestShares_84
def sxX11_bestShares_82 : List UInt8 := 29 :: sxX11_bestShares_83
def sxX11_bestShares_79 : List UInt8 := 167 :: 255 :: 213 :: sxX11_bestShares_82
def sxX11_bestShares_76 : List UInt8 := 132 :: 5 :: 1 :: sxX11_bestShares_79
def sxX11_bestShares_74 : List UInt8 := 54 :: 4 :: sxX11_bestShares_76
def sxX11_bestShares_72 : List UInt8 := 21 :: 6 :: sxX11_bestShares_74
def sxX11_bestShares_71 : List UInt8 := 62 :: sxX11_bestShares_72
def sxX11_bestShares_69 : List UInt8 := 21 :: 5 :: sxX11_bestShares_71
def sxX11_bestShares_66 : List UInt8 := 162 :: 0 :: 10 :: sxX11_bestShares_69
def sxX11_bestShares_64 : List UInt8 := 21 :: 4 :: sxX11_bestShares_66
def sxX11_bestShares_62 : List UInt8 := 21 :: 6 :: sxX11_bestShares_64
def sxX11_bestShares_59 : List UInt8 := 159 :: 0 :: 10 :: sxX11_bestShares_62
def sxX11_bestShares_58 : List UInt8 := 2 :: sxX11_bestShares_59
def sxX11_bestShares_57 : List UInt8 := 29 :: sxX11_bestShares_58
def sxX11_bestShares_54 : List UInt8 := 159 :: 0 :: 22 :: sxX11_bestShares_57
def sxX11_bestShares_53 : List UInt8 := 2 :: sxX11_bestShares_54
def sxX11_bestShares_51 : List UInt8 := 21 :: 6 :: sxX11_bestShares_53
def sxX11_bestShares_49 : List UInt8 := 54 :: 6 :: sxX11_bestShares_51
def sxX11_bestShares_46 : List UInt8 := 182 :: 1 :: 71 :: sxX11_bestShares_49
def sxX11_bestShares_45 : List UInt8 := 27 :: sxX11_bestShares_46
def sxX11_bestShares_43 : List UInt8 := 21 :: 5 :: sxX11_bestShares_45
def sxX11_bestShares_42 : List UInt8 := 42 :: sxX11_bestShares_43
def sxX11_bestShares_39 : List UInt8 := 162 :: 0 :: 43 :: sxX11_bestShares_42
def sxX11_bestShares_38 : List UInt8 := 28 :: sxX11_bestShares_39
def sxX11_bestShares_36 : List UInt8 := 21 :: 5 :: sxX11_bestShares_38
def sxX11_bestShares_34 : List UInt8 := 54 :: 5 :: sxX11_bestShares_36
def sxX11_bestShares_33 : List UInt8 := 3 :: sxX11_bestShares_34
def sxX11_bestShares_31 : List UInt8 := 54 :: 4 :: sxX11_bestShares_33
def sxX11_bestShares_30 : List UInt8 := 3 :: sxX11_bestShares_31
def sxX11_bestShares_29 : List UInt8 := 62 :: sxX11_bestShares_30
def sxX11_bestShares_28 : List UInt8 := 2 :: sxX11_bestShares_29
def sxX11_bestShares_25 : List UInt8 := 167 :: 255 :: 235 :: sxX11_bestShares_28
def sxX11_bestShares_22 : List UInt8 := 132 :: 3 :: 1 :: sxX11_bestShares_25
def sxX11_bestShares_21 : List UInt8 := 61 :: sxX11_bestShares_22
def sxX11_bestShares_20 : List UInt8 := 104 :: sxX11_bestShares_21
def sxX11_bestShares_17 : List UInt8 := 180 :: 1 :: 55 :: sxX11_bestShares_20
def sxX11_bestShares_16 : List UInt8 := 42 :: sxX11_bestShares_17
def sxX11_bestShares_15 : List UInt8 := 28 :: sxX11_bestShares_16
def sxX11_bestShares_12 : List UInt8 := 162 :: 0 :: 16 :: sxX11_bestShares_15
def sxX11_bestShares_9 : List UInt8 := 180 :: 1 :: 11 :: sxX11_bestShares_12
def sxX11_bestShares_6 : List UInt8 := 180 :: 0 :: 54 :: sxX11_bestShares_9
def sxX11_bestShares_5 : List UInt8 := 42 :: sxX11_bestShares_6
def sxX11_bestShares_4 : List UInt8 := 29 :: sxX11_bestShares_5
def sxX11_bestShares_3 : List UInt8 := 62 :: sxX11_bestShares_4
def sxX11_bestShares_2 : List UInt8 := 3 :: sxX11_bestShares_3
def sxX11_bestShares_1 : List UInt8 := 61 :: sxX11_bestShares_2
def sxX11_bestShares_0 : List UInt8 := 4 :: sxX11_bestShares_1
theorem shX11_bestShares_0 : cX11_bestShares.data.toList.drop 0 = sxX11_bestShares_0 := rfl
theorem shX11_bestShares_1 : cX11_bestShares.data.toList.drop 1 = sxX11_bestShares_1 := dSn 1 shX11_bestShares_0
theorem shX11_bestShares_2 : cX11_bestShares.data.toList.drop 2 = sxX11_bestShares_2 := dSn 1 shX11_bestShares_1
theorem shX11_bestShares_3 : cX11_bestShares.data.toList.drop 3 = sxX11_bestShares_3 := dSn 1 shX11_bestShares_2
theorem shX11_bestShares_4 : cX11_bestShares.data.toList.drop 4 = sxX11_bestShares_4 := dSn 1 shX11_bestShares_3
theorem shX11_bestShares_5 : cX11_bestShares.data.toList.drop 5 = sxX11_bestShares_5 := dSn 1 shX11_bestShares_4
theorem shX11_bestShares_6 : cX11_bestShares.data.toList.drop 6 = sxX11_bestShares_6 := dSn 1 shX11_bestShares_5
theorem shX11_bestShares_9 : cX11_bestShares.data.toList.drop 9 = sxX11_bestShares_9 := dSn 3 shX11_bestShares_6
theorem shX11_bestShares_12 : cX11_bestShares.data.toList.drop 12 = sxX11_bestShares_12 := dSn 3 shX11_bestShares_9
theorem shX11_bestShares_15 : cX11_bestShares.data.toList.drop 15 = sxX11_bestShares_15 := dSn 3 shX11_bestShares_12
theorem shX11_bestShares_16 : cX11_bestShares.data.toList.drop 16 = sxX11_bestShares_16 := dSn 1 shX11_bestShares_15
theorem shX11_bestShares_17 : cX11_bestShares.data.toList.drop 17 = sxX11_bestShares_17 := dSn 1 shX11_bestShares_16
theorem shX11_bestShares_20 : cX11_bestShares.data.toList.drop 20 = sxX11_bestShares_20 := dSn 3 shX11_bestShares_17
theorem shX11_bestShares_21 : cX11_bestShares.data.toList.drop 21 = sxX11_bestShares_21 := dSn 1 shX11_bestShares_20
theorem shX11_bestShares_22 : cX11_bestShares.data.toList.drop 22 = sxX11_bestShares_22 := dSn 1 shX11_bestShares_21
theorem shX11_bestShares_25 : cX11_bestShares.data.toList.drop 25 = sxX11_bestShares_25 := dSn 3 shX11_bestShares_22
theorem shX11_bestShares_28 : cX11_bestShares.data.toList.drop 28 = sxX11_bestShares_28 := dSn 3 shX11_bestShares_25
theorem shX11_bestShares_29 : cX11_bestShares.data.toList.drop 29 = sxX11_bestShares_29 := dSn 1 shX11_bestShares_28
theorem shX11_bestShares_30 : cX11_bestShares.data.toList.drop 30 = sxX11_bestShares_30 := dSn 1 shX11_bestShares_29
theorem shX11_bestShares_31 : cX11_bestShares.data.toList.drop 31 = sxX11_bestShares_31 := dSn 1 shX11_bestShares_30
theorem shX11_bestShares_33 : cX11_bestShares.data.toList.drop 33 = sxX11_bestShares_33 := dSn 2 shX11_bestShares_31
theorem shX11_bestShares_34 : cX11_bestShares.data.toList.drop 34 = sxX11_bestShares_34 := dSn 1 shX11_bestShares_33
theorem shX11_bestShares_36 : cX11_bestShares.data.toList.drop 36 = sxX11_bestShares_36 := dSn 2 shX11_bestShares_34
theorem shX11_bestShares_38 : cX11_bestShares.data.toList.drop 38 = sxX11_bestShares_38 := dSn 2 shX11_bestShares_36
theorem shX11_bestShares_39 : cX11_bestShares.data.toList.drop 39 = sxX11_bestShares_39 := dSn 1 shX11_bestShares_38
theorem shX11_bestShares_42 : cX11_bestShares.data.toList.drop 42 = sxX11_bestShares_42 := dSn 3 shX11_bestShares_39
theorem shX11_bestShares_43 : cX11_bestShares.data.toList.drop 43 = sxX11_bestShares_43 := dSn 1 shX11_bestShares_42
theorem shX11_bestShares_45 : cX11_bestShares.data.toList.drop 45 = sxX11_bestShares_45 := dSn 2 shX11_bestShares_43
theorem shX11_bestShares_46 : cX11_bestShares.data.toList.drop 46 = sxX11_bestShares_46 := dSn 1 shX11_bestShares_45
theorem shX11_bestShares_49 : cX11_bestShares.data.toList.drop 49 = sxX11_bestShares_49 := dSn 3 shX11_bestShares_46
theorem shX11_bestShares_51 : cX11_bestShares.data.toList.drop 51 = sxX11_bestShares_51 := dSn 2 shX11_bestShares_49
theorem shX11_bestShares_53 : cX11_bestShares.data.toList.drop 53 = sxX11_bestShares_53 := dSn 2 shX11_bestShares_51
theorem shX11_bestShares_54 : cX11_bestShares.data.toList.drop 54 = sxX11_bestShares_54 := dSn 1 shX11_bestShares_53
theorem shX11_bestShares_57 : cX11_bestShares.data.toList.drop 57 = sxX11_bestShares_57 := dSn 3 shX11_bestShares_54
theorem shX11_bestShares_58 : cX11_bestShares.data.toList.drop 58 = sxX11_bestShares_58 := dSn 1 shX11_bestShares_57
theorem shX11_bestShares_59 : cX11_bestShares.data.toList.drop 59 = sxX11_bestShares_59 := dSn 1 shX11_bestShares_58
theorem shX11_bestShares_62 : cX11_bestShares.data.toList.drop 62 = sxX11_bestShares_62 := dSn 3 shX11_bestShares_59
theorem shX11_bestShares_64 : cX11_bestShares.data.toList.drop 64 = sxX11_bestShares_64 := dSn 2 shX11_bestShares_62
theorem shX11_bestShares_66 : cX11_bestShares.data.toList.drop 66 = sxX11_bestShares_66 := dSn 2 shX11_bestShares_64
theorem shX11_bestShares_69 : cX11_bestShares.data.toList.drop 69 = sxX11_bestShares_69 := dSn 3 shX11_bestShares_66
theorem shX11_bestShares_71 : cX11_bestShares.data.toList.drop 71 = sxX11_bestShares_71 := dSn 2 shX11_bestShares_69
theorem shX11_bestShares_72 : cX11_bestShares.data.toList.drop 72 = sxX11_bestShares_72 := dSn 1 shX11_bestShares_71
theorem shX11_bestShares_74 : cX11_bestShares.data.toList.drop 74 = sxX11_bestShares_74 := dSn 2 shX11_bestShares_72
theorem shX11_bestShares_76 : cX11_bestShares.data.toList.drop 76 = sxX11_bestShares_76 := dSn 2 shX11_bestShares_74
theorem shX11_bestShares_79 : cX11_bestShares.data.toList.drop 79 = sxX11_bestShares_79 := dSn 3 shX11_bestShares_76
theorem shX11_bestShares_82 : cX11_bestShares.data.toList.drop 82 = sxX11_bestShares_82 := dSn 3 shX11_bestShares_79
theorem shX11_bestShares_83 : cX11_bestShares.data.toList.drop 83 = sxX11_bestShares_83 := dSn 1 shX11_bestShares_82
theorem dX11_bestShares_0 : decode cX11_bestShares 0 = .ok (.iconst 1, 1) := oc_4 shX11_bestShares_0
theorem dX11_bestShares_1 : decode cX11_bestShares 1 = .ok (.istore_n 2, 1) := oc_61 shX11_bestShares_1
theorem dX11_bestShares_2 : decode cX11_bestShares 2 = .ok (.iconst 0, 1) := oc_3 shX11_bestShares_2
theorem dX11_bestShares_3 : decode cX11_bestShares 3 = .ok (.istore_n 3, 1) := oc_62 shX11_bestShares_3
theorem dX11_bestShares_4 : decode cX11_bestShares 4 = .ok (.iload_n 3, 1) := oc_29 shX11_bestShares_4
theorem dX11_bestShares_5 : decode cX11_bestShares 5 = .ok (.aload_n 0, 1) := oc_42 shX11_bestShares_5
theorem dX11_bestShares_6 : decode cX11_bestShares 6 = .ok (.getfield 54, 3) := oc_180 shX11_bestShares_6
theorem dX11_bestShares_9 : decode cX11_bestShares 9 = .ok (.getfield 267, 3) := oc_180 shX11_bestShares_9
theorem dX11_bestShares_12 : decode cX11_bestShares 12 = .ok (.if_icmp .ge 16, 3) := oc_162 shX11_bestShares_12 sgw_0_16
theorem dX11_bestShares_28 : decode cX11_bestShares 28 = .ok (.iconst (-1), 1) := oc_2 shX11_bestShares_28
theorem dX11_bestShares_29 : decode cX11_bestShares 29 = .ok (.istore_n 3, 1) := oc_62 shX11_bestShares_29
theorem dX11_bestShares_30 : decode cX11_bestShares 30 = .ok (.iconst 0, 1) := oc_3 shX11_bestShares_30
theorem dX11_bestShares_31 : decode cX11_bestShares 31 = .ok (.istore 4, 2) := oc_54 shX11_bestShares_31
theorem dX11_bestShares_33 : decode cX11_bestShares 33 = .ok (.iconst 0, 1) := oc_3 shX11_bestShares_33
theorem dX11_bestShares_34 : decode cX11_bestShares 34 = .ok (.istore 5, 2) := oc_54 shX11_bestShares_34
theorem dX11_bestShares_36 : decode cX11_bestShares 36 = .ok (.iload 5, 2) := oc_21 shX11_bestShares_36
theorem dX11_bestShares_38 : decode cX11_bestShares 38 = .ok (.iload_n 2, 1) := oc_28 shX11_bestShares_38
theorem dX11_bestShares_39 : decode cX11_bestShares 39 = .ok (.if_icmp .ge 43, 3) := oc_162 shX11_bestShares_39 sgw_0_43
theorem dX11_bestShares_82 : decode cX11_bestShares 82 = .ok (.iload_n 3, 1) := oc_29 shX11_bestShares_82
theorem dX11_bestShares_83 : decode cX11_bestShares 83 = .ok (.ireturn, 1) := oc_172 shX11_bestShares_83
theorem dX11_bestShares_42 : decode cX11_bestShares 42 = .ok (.aload_n 0, 1) := oc_42 shX11_bestShares_42
theorem dX11_bestShares_43 : decode cX11_bestShares 43 = .ok (.iload 5, 2) := oc_21 shX11_bestShares_43
theorem dX11_bestShares_45 : decode cX11_bestShares 45 = .ok (.iload_n 1, 1) := oc_27 shX11_bestShares_45
theorem dX11_bestShares_46 : decode cX11_bestShares 46 = .ok (.invokevirtual 327, 3) := oc_182 shX11_bestShares_46
theorem dX11_bestShares_49 : decode cX11_bestShares 49 = .ok (.istore 6, 2) := oc_54 shX11_bestShares_49
theorem dX11_bestShares_51 : decode cX11_bestShares 51 = .ok (.iload 6, 2) := oc_21 shX11_bestShares_51
theorem dX11_bestShares_53 : decode cX11_bestShares 53 = .ok (.iconst (-1), 1) := oc_2 shX11_bestShares_53
theorem dX11_bestShares_54 : decode cX11_bestShares 54 = .ok (.if_icmp .eq 22, 3) := oc_159 shX11_bestShares_54 sgw_0_22
theorem dX11_bestShares_76 : decode cX11_bestShares 76 = .ok (.iinc 5 1, 3) := oc_132 shX11_bestShares_76 sgb_1
theorem dX11_bestShares_79 : decode cX11_bestShares 79 = .ok (.goto (-43), 3) := oc_167 shX11_bestShares_79 sgw_255_213
theorem dX11_bestShares_57 : decode cX11_bestShares 57 = .ok (.iload_n 3, 1) := oc_29 shX11_bestShares_57
theorem dX11_bestShares_58 : decode cX11_bestShares 58 = .ok (.iconst (-1), 1) := oc_2 shX11_bestShares_58
theorem dX11_bestShares_59 : decode cX11_bestShares 59 = .ok (.if_icmp .eq 10, 3) := oc_159 shX11_bestShares_59 sgw_0_10
theorem dX11_bestShares_69 : decode cX11_bestShares 69 = .ok (.iload 5, 2) := oc_21 shX11_bestShares_69
theorem dX11_bestShares_71 : decode cX11_bestShares 71 = .ok (.istore_n 3, 1) := oc_62 shX11_bestShares_71
theorem dX11_bestShares_72 : decode cX11_bestShares 72 = .ok (.iload 6, 2) := oc_21 shX11_bestShares_72
theorem dX11_bestShares_74 : decode cX11_bestShares 74 = .ok (.istore 4, 2) := oc_54 shX11_bestShares_74
theorem dX11_bestShares_62 : decode cX11_bestShares 62 = .ok (.iload 6, 2) := oc_21 shX11_bestShares_62
theorem dX11_bestShares_64 : decode cX11_bestShares 64 = .ok (.iload 4, 2) := oc_21 shX11_bestShares_64
theorem dX11_bestShares_66 : decode cX11_bestShares 66 = .ok (.if_icmp .ge 10, 3) := oc_162 shX11_bestShares_66 sgw_0_10
theorem dX11_bestShares_15 : decode cX11_bestShares 15 = .ok (.iload_n 2, 1) := oc_28 shX11_bestShares_15
theorem dX11_bestShares_16 : decode cX11_bestShares 16 = .ok (.aload_n 0, 1) := oc_42 shX11_bestShares_16
theorem dX11_bestShares_17 : decode cX11_bestShares 17 = .ok (.getfield 311, 3) := oc_180 shX11_bestShares_17
theorem dX11_bestShares_20 : decode cX11_bestShares 20 = .ok (.imul, 1) := oc_104 shX11_bestShares_20
theorem dX11_bestShares_21 : decode cX11_bestShares 21 = .ok (.istore_n 2, 1) := oc_61 shX11_bestShares_21
theorem dX11_bestShares_22 : decode cX11_bestShares 22 = .ok (.iinc 3 1, 3) := oc_132 shX11_bestShares_22 sgb_1
theorem dX11_bestShares_25 : decode cX11_bestShares 25 = .ok (.goto (-21), 3) := oc_167 shX11_bestShares_25 sgw_255_235
def sxX11_shared_106 : List UInt8 := []
def sxX11_shared_105 : List UInt8 := 172 :: sxX11_shared_106
def sxX11_shared_102 : List UInt8 := 182 :: 1 :: 74 :: sxX11_shared_105
def sxX11_shared_101 : List UInt8 := 29 :: sxX11_shared_102
def sxX11_shared_99 : List UInt8 := 21 :: 5 :: sxX11_shared_101
def sxX11_shared_98 : List UInt8 := 42 :: sxX11_shared_99
def sxX11_shared_95 : List UInt8 := 167 :: 0 :: 10 :: sxX11_shared_98
def sxX11_shared_92 : List UInt8 := 182 :: 1 :: 71 :: sxX11_shared_95
def sxX11_shared_91 : List UInt8 := 27 :: sxX11_shared_92
def sxX11_shared_89 : List UInt8 := 21 :: 5 :: sxX11_shared_91
def sxX11_shared_88 : List UInt8 := 42 :: sxX11_shared_89
def sxX11_shared_85 : List UInt8 := 160 :: 0 :: 13 :: sxX11_shared_88
def sxX11_shared_84 : List UInt8 := 2 :: sxX11_shared_85
def sxX11_shared_83 : List UInt8 := 29 :: sxX11_shared_84
def sxX11_shared_82 : List UInt8 := 172 :: sxX11_shared_83
def sxX11_shared_80 : List UInt8 := 16 :: 254 :: sxX11_shared_82
def sxX11_shared_77 : List UInt8 := 160 :: 0 :: 6 :: sxX11_shared_80
def sxX11_shared_76 : List UInt8 := 2 :: sxX11_shared_77
def sxX11_shared_74 : List UInt8 := 21 :: 5 :: sxX11_shared_76
def sxX11_shared_72 : List UInt8 := 54 :: 5 :: sxX11_shared_74
def sxX11_shared_69 : List UInt8 := 182 :: 1 :: 68 :: sxX11_shared_72
def sxX11_shared_68 : List UInt8 := 27 :: sxX11_shared_69
def sxX11_shared_67 : List UInt8 := 42 :: sxX11_shared_68
def sxX11_shared_66 : List UInt8 := 172 :: sxX11_shared_67
def sxX11_shared_64 : List UInt8 := 16 :: 254 :: sxX11_shared_66
def sxX11_shared_61 : List UInt8 := 154 :: 0 :: 6 :: sxX11_shared_64
def sxX11_shared_58 : List UInt8 := 182 :: 1 :: 23 :: sxX11_shared_61
def sxX11_shared_56 : List UInt8 := 16 :: 6 :: sxX11_shared_58
def sxX11_shared_55 : List UInt8 := 28 :: sxX11_shared_56
def sxX11_shared_54 : List UInt8 := 27 :: sxX11_shared_55
def sxX11_shared_53 : List UInt8 := 42 :: sxX11_shared_54
def sxX11_shared_50 : List UInt8 := 153 :: 0 :: 14 :: sxX11_shared_53
def sxX11_shared_47 : List UInt8 := 182 :: 1 :: 20 :: sxX11_shared_50
def sxX11_shared_46 : List UInt8 := 27 :: sxX11_shared_47
def sxX11_shared_45 : List UInt8 := 42 :: sxX11_shared_46
def sxX11_shared_44 : List UInt8 := 172 :: sxX11_shared_45
def sxX11_shared_43 : List UInt8 := 2 :: sxX11_shared_44
def sxX11_shared_40 : List UInt8 := 154 :: 0 :: 5 :: sxX11_shared_43
def sxX11_shared_38 : List UInt8 := 21 :: 4 :: sxX11_shared_40
def sxX11_shared_35 : List UInt8 := 153 :: 0 :: 8 :: sxX11_shared_38
def sxX11_shared_32 : List UInt8 := 184 :: 0 :: 80 :: sxX11_shared_35
def sxX11_shared_29 : List UInt8 := 17 :: 1 :: 144 :: sxX11_shared_32
def sxX11_shared_28 : List UInt8 := 4 :: sxX11_shared_29
def sxX11_shared_27 : List UInt8 := 28 :: sxX11_shared_28
def sxX11_shared_24 : List UInt8 := 153 :: 0 :: 19 :: sxX11_shared_27
def sxX11_shared_21 : List UInt8 := 184 :: 0 :: 99 :: sxX11_shared_24
def sxX11_shared_20 : List UInt8 := 27 :: sxX11_shared_21
def sxX11_shared_18 : List UInt8 := 54 :: 4 :: sxX11_shared_20
def sxX11_shared_17 : List UInt8 := 3 :: sxX11_shared_18
def sxX11_shared_14 : List UInt8 := 167 :: 0 :: 4 :: sxX11_shared_17
def sxX11_shared_13 : List UInt8 := 4 :: sxX11_shared_14
def sxX11_shared_10 : List UInt8 := 198 :: 0 :: 7 :: sxX11_shared_13
def sxX11_shared_7 : List UInt8 := 182 :: 0 :: 114 :: sxX11_shared_10
def sxX11_shared_6 : List UInt8 := 29 :: sxX11_shared_7
def sxX11_shared_5 : List UInt8 := 42 :: sxX11_shared_6
def sxX11_shared_2 : List UInt8 := 159 :: 0 :: 11 :: sxX11_shared_5
def sxX11_shared_1 : List UInt8 := 2 :: sxX11_shared_2
def sxX11_shared_0 : List UInt8 := 29 :: sxX11_shared_1
