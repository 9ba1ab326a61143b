theorem shX11_shared_0 : cX11_shared.data.toList.drop 0 = sxX11_shared_0 := rfl
theorem shX11_shared_1 : cX11_shared.data.toList.drop 1 = sxX11_shared_1 := dSn 1 shX11_shared_0
theorem shX11_shared_2 : cX11_shared.data.toList.drop 2 = sxX11_shared_2 := dSn 1 shX11_shared_1
theorem shX11_shared_5 : cX11_shared.data.toList.drop 5 = sxX11_shared_5 := dSn 3 shX11_shared_2
theorem shX11_shared_6 : cX11_shared.data.toList.drop 6 = sxX11_shared_6 := dSn 1 shX11_shared_5
theorem shX11_shared_7 : cX11_shared.data.toList.drop 7 = sxX11_shared_7 := dSn 1 shX11_shared_6
theorem shX11_shared_10 : cX11_shared.data.toList.drop 10 = sxX11_shared_10 := dSn 3 shX11_shared_7
theorem shX11_shared_13 : cX11_shared.data.toList.drop 13 = sxX11_shared_13 := dSn 3 shX11_shared_10
theorem shX11_shared_14 : cX11_shared.data.toList.drop 14 = sxX11_shared_14 := dSn 1 shX11_shared_13
theorem shX11_shared_17 : cX11_shared.data.toList.drop 17 = sxX11_shared_17 := dSn 3 shX11_shared_14
theorem shX11_shared_18 : cX11_shared.data.toList.drop 18 = sxX11_shared_18 := dSn 1 shX11_shared_17
theorem shX11_shared_20 : cX11_shared.data.toList.drop 20 = sxX11_shared_20 := dSn 2 shX11_shared_18
theorem shX11_shared_21 : cX11_shared.data.toList.drop 21 = sxX11_shared_21 := dSn 1 shX11_shared_20
theorem shX11_shared_24 : cX11_shared.data.toList.drop 24 = sxX11_shared_24 := dSn 3 shX11_shared_21
theorem shX11_shared_27 : cX11_shared.data.toList.drop 27 = sxX11_shared_27 := dSn 3 shX11_shared_24
theorem shX11_shared_28 : cX11_shared.data.toList.drop 28 = sxX11_shared_28 := dSn 1 shX11_shared_27
theorem shX11_shared_29 : cX11_shared.data.toList.drop 29 = sxX11_shared_29 := dSn 1 shX11_shared_28
theorem shX11_shared_32 : cX11_shared.data.toList.drop 32 = sxX11_shared_32 := dSn 3 shX11_shared_29
theorem shX11_shared_35 : cX11_shared.data.toList.drop 35 = sxX11_shared_35 := dSn 3 shX11_shared_32
theorem shX11_shared_38 : cX11_shared.data.toList.drop 38 = sxX11_shared_38 := dSn 3 shX11_shared_35
theorem shX11_shared_40 : cX11_shared.data.toList.drop 40 = sxX11_shared_40 := dSn 2 shX11_shared_38
theorem shX11_shared_43 : cX11_shared.data.toList.drop 43 = sxX11_shared_43 := dSn 3 shX11_shared_40
theorem shX11_shared_44 : cX11_shared.data.toList.drop 44 = sxX11_shared_44 := dSn 1 shX11_shared_43
theorem shX11_shared_45 : cX11_shared.data.toList.drop 45 = sxX11_shared_45 := dSn 1 shX11_shared_44
theorem shX11_shared_46 : cX11_shared.data.toList.drop 46 = sxX11_shared_46 := dSn 1 shX11_shared_45
theorem shX11_shared_47 : cX11_shared.data.toList.drop 47 = sxX11_shared_47 := dSn 1 shX11_shared_46
theorem shX11_shared_50 : cX11_shared.data.toList.drop 50 = sxX11_shared_50 := dSn 3 shX11_shared_47
theorem shX11_shared_53 : cX11_shared.data.toList.drop 53 = sxX11_shared_53 := dSn 3 shX11_shared_50
theorem shX11_shared_54 : cX11_shared.data.toList.drop 54 = sxX11_shared_54 := dSn 1 shX11_shared_53
theorem shX11_shared_55 : cX11_shared.data.toList.drop 55 = sxX11_shared_55 := dSn 1 shX11_shared_54
theorem shX11_shared_56 : cX11_shared.data.toList.drop 56 = sxX11_shared_56 := dSn 1 shX11_shared_55
theorem shX11_shared_58 : cX11_shared.data.toList.drop 58 = sxX11_shared_58 := dSn 2 shX11_shared_56
theorem shX11_shared_61 : cX11_shared.data.toList.drop 61 = sxX11_shared_61 := dSn 3 shX11_shared_58
theorem shX11_shared_64 : cX11_shared.data.toList.drop 64 = sxX11_shared_64 := dSn 3 shX11_shared_61
theorem shX11_shared_66 : cX11_shared.data.toList.drop 66 = sxX11_shared_66 := dSn 2 shX11_shared_64
theorem shX11_shared_67 : cX11_shared.data.toList.drop 67 = sxX11_shared_67 := dSn 1 shX11_shared_66
theorem shX11_shared_68 : cX11_shared.data.toList.drop 68 = sxX11_shared_68 := dSn 1 shX11_shared_67
theorem shX11_shared_69 : cX11_shared.data.toList.drop 69 = sxX11_shared_69 := dSn 1 shX11_shared_68
theorem shX11_shared_72 : cX11_shared.data.toList.drop 72 = sxX11_shared_72 := dSn 3 shX11_shared_69
theorem shX11_shared_74 : cX11_shared.data.toList.drop 74 = sxX11_shared_74 := dSn 2 shX11_shared_72
theorem shX11_shared_76 : cX11_shared.data.toList.drop 76 = sxX11_shared_76 := dSn 2 shX11_shared_74
theorem shX11_shared_77 : cX11_shared.data.toList.drop 77 = sxX11_shared_77 := dSn 1 shX11_shared_76
theorem shX11_shared_80 : cX11_shared.data.toList.drop 80 = sxX11_shared_80 := dSn 3 shX11_shared_77
theorem shX11_shared_82 : cX11_shared.data.toList.drop 82 = sxX11_shared_82 := dSn 2 shX11_shared_80
theorem shX11_shared_83 : cX11_shared.data.toList.drop 83 = sxX11_shared_83 := dSn 1 shX11_shared_82
theorem shX11_shared_84 : cX11_shared.data.toList.drop 84 = sxX11_shared_84 := dSn 1 shX11_shared_83
theorem shX11_shared_85 : cX11_shared.data.toList.drop 85 = sxX11_shared_85 := dSn 1 shX11_shared_84
theorem shX11_shared_88 : cX11_shared.data.toList.drop 88 = sxX11_shared_88 := dSn 3 shX11_shared_85
theorem shX11_shared_89 : cX11_shared.data.toList.drop 89 = sxX11_shared_89 := dSn 1 shX11_shared_88
theorem shX11_shared_91 : cX11_shared.data.toList.drop 91 = sxX11_shared_91 := dSn 2 shX11_shared_89
theorem shX11_shared_92 : cX11_shared.data.toList.drop 92 = sxX11_shared_92 := dSn 1 shX11_shared_91
theorem shX11_shared_95 : cX11_shared.data.toList.drop 95 = sxX11_shared_95 := dSn 3 shX11_shared_92
theorem shX11_shared_98 : cX11_shared.data.toList.drop 98 = sxX11_shared_98 := dSn 3 shX11_shared_95
theorem shX11_shared_99 : cX11_shared.data.toList.drop 99 = sxX11_shared_99 := dSn 1 shX11_shared_98
theorem shX11_shared_101 : cX11_shared.data.toList.drop 101 = sxX11_shared_101 := dSn 2 shX11_shared_99
theorem shX11_shared_102 : cX11_shared.data.toList.drop 102 = sxX11_shared_102 := dSn 1 shX11_shared_101
theorem shX11_shared_105 : cX11_shared.data.toList.drop 105 = sxX11_shared_105 := dSn 3 shX11_shared_102
theorem dX11_shared_0 : decode cX11_shared 0 = .ok (.iload_n 3, 1) := oc_29 shX11_shared_0
theorem dX11_shared_1 : decode cX11_shared 1 = .ok (.iconst (-1), 1) := oc_2 shX11_shared_1
theorem dX11_shared_2 : decode cX11_shared 2 = .ok (.if_icmp .eq 11, 3) := oc_159 shX11_shared_2 sgw_0_11
theorem dX11_shared_13 : decode cX11_shared 13 = .ok (.iconst 1, 1) := oc_4 shX11_shared_13
theorem dX11_shared_14 : decode cX11_shared 14 = .ok (.goto 4, 3) := oc_167 shX11_shared_14 sgw_0_4
theorem dX11_shared_18 : decode cX11_shared 18 = .ok (.istore 4, 2) := oc_54 shX11_shared_18
theorem dX11_shared_20 : decode cX11_shared 20 = .ok (.iload_n 1, 1) := oc_27 shX11_shared_20
theorem dX11_shared_21 : decode cX11_shared 21 = .ok (.invokestatic 99, 3) := oc_184 shX11_shared_21
theorem dX11_shared_24 : decode cX11_shared 24 = .ok (.ifCond .eq 19, 3) := oc_153 shX11_shared_24 sgw_0_19
theorem dX11_shared_27 : decode cX11_shared 27 = .ok (.iload_n 2, 1) := oc_28 shX11_shared_27
theorem dX11_shared_28 : decode cX11_shared 28 = .ok (.iconst 1, 1) := oc_4 shX11_shared_28
theorem dX11_shared_29 : decode cX11_shared 29 = .ok (.sipush 400, 3) := oc_17 shX11_shared_29 sgw_1_144
theorem dX11_shared_32 : decode cX11_shared 32 = .ok (.invokestatic 80, 3) := oc_184 shX11_shared_32
theorem dX11_shared_35 : decode cX11_shared 35 = .ok (.ifCond .eq 8, 3) := oc_153 shX11_shared_35 sgw_0_8
theorem dX11_shared_38 : decode cX11_shared 38 = .ok (.iload 4, 2) := oc_21 shX11_shared_38
theorem dX11_shared_40 : decode cX11_shared 40 = .ok (.ifCond .ne 5, 3) := oc_154 shX11_shared_40 sgw_0_5
theorem dX11_shared_45 : decode cX11_shared 45 = .ok (.aload_n 0, 1) := oc_42 shX11_shared_45
theorem dX11_shared_46 : decode cX11_shared 46 = .ok (.iload_n 1, 1) := oc_27 shX11_shared_46
theorem dX11_shared_47 : decode cX11_shared 47 = .ok (.invokevirtual 276, 3) := oc_182 shX11_shared_47
theorem dX11_shared_50 : decode cX11_shared 50 = .ok (.ifCond .eq 14, 3) := oc_153 shX11_shared_50 sgw_0_14
theorem dX11_shared_64 : decode cX11_shared 64 = .ok (.bipush (-2), 2) := oc_16 shX11_shared_64 sgb_254
theorem dX11_shared_66 : decode cX11_shared 66 = .ok (.ireturn, 1) := oc_172 shX11_shared_66
theorem dX11_shared_53 : decode cX11_shared 53 = .ok (.aload_n 0, 1) := oc_42 shX11_shared_53
theorem dX11_shared_54 : decode cX11_shared 54 = .ok (.iload_n 1, 1) := oc_27 shX11_shared_54
theorem dX11_shared_55 : decode cX11_shared 55 = .ok (.iload_n 2, 1) := oc_28 shX11_shared_55
theorem dX11_shared_56 : decode cX11_shared 56 = .ok (.bipush 6, 2) := oc_16 shX11_shared_56 sgb_6
theorem dX11_shared_58 : decode cX11_shared 58 = .ok (.invokevirtual 279, 3) := oc_182 shX11_shared_58
theorem dX11_shared_61 : decode cX11_shared 61 = .ok (.ifCond .ne 6, 3) := oc_154 shX11_shared_61 sgw_0_6
theorem dX11_shared_67 : decode cX11_shared 67 = .ok (.aload_n 0, 1) := oc_42 shX11_shared_67
theorem dX11_shared_68 : decode cX11_shared 68 = .ok (.iload_n 1, 1) := oc_27 shX11_shared_68
theorem dX11_shared_69 : decode cX11_shared 69 = .ok (.invokevirtual 324, 3) := oc_182 shX11_shared_69
theorem dX11_shared_72 : decode cX11_shared 72 = .ok (.istore 5, 2) := oc_54 shX11_shared_72
theorem dX11_shared_74 : decode cX11_shared 74 = .ok (.iload 5, 2) := oc_21 shX11_shared_74
theorem dX11_shared_76 : decode cX11_shared 76 = .ok (.iconst (-1), 1) := oc_2 shX11_shared_76
theorem dX11_shared_77 : decode cX11_shared 77 = .ok (.if_icmp .ne 6, 3) := oc_160 shX11_shared_77 sgw_0_6
theorem dX11_shared_83 : decode cX11_shared 83 = .ok (.iload_n 3, 1) := oc_29 shX11_shared_83
theorem dX11_shared_84 : decode cX11_shared 84 = .ok (.iconst (-1), 1) := oc_2 shX11_shared_84
theorem dX11_shared_85 : decode cX11_shared 85 = .ok (.if_icmp .ne 13, 3) := oc_160 shX11_shared_85 sgw_0_13
theorem dX11_shared_88 : decode cX11_shared 88 = .ok (.aload_n 0, 1) := oc_42 shX11_shared_88
theorem dX11_shared_89 : decode cX11_shared 89 = .ok (.iload 5, 2) := oc_21 shX11_shared_89
theorem dX11_shared_91 : decode cX11_shared 91 = .ok (.iload_n 1, 1) := oc_27 shX11_shared_91
theorem dX11_shared_92 : decode cX11_shared 92 = .ok (.invokevirtual 327, 3) := oc_182 shX11_shared_92
theorem dX11_shared_95 : decode cX11_shared 95 = .ok (.goto 10, 3) := oc_167 shX11_shared_95 sgw_0_10
theorem dX11_shared_105 : decode cX11_shared 105 = .ok (.ireturn, 1) := oc_172 shX11_shared_105
theorem dX11_shared_80 : decode cX11_shared 80 = .ok (.bipush (-2), 2) := oc_16 shX11_shared_80 sgb_254
theorem dX11_shared_82 : decode cX11_shared 82 = .ok (.ireturn, 1) := oc_172 shX11_shared_82
theorem dX11_shared_43 : decode cX11_shared 43 = .ok (.iconst (-1), 1) := oc_2 shX11_shared_43
theorem dX11_shared_44 : decode cX11_shared 44 = .ok (.ireturn, 1) := oc_172 shX11_shared_44
theorem dX11_shared_5 : decode cX11_shared 5 = .ok (.aload_n 0, 1) := oc_42 shX11_shared_5
theorem dX11_shared_6 : decode cX11_shared 6 = .ok (.iload_n 3, 1) := oc_29 shX11_shared_6
theorem dX11_shared_7 : decode cX11_shared 7 = .ok (.invokevirtual 114, 3) := oc_182 shX11_shared_7
theorem dX11_shared_10 : decode cX11_shared 10 = .ok (.ifnull 7, 3) := oc_198 shX11_shared_10 sgw_0_7
theorem dX11_shared_98 : decode cX11_shared 98 = .ok (.aload_n 0, 1) := oc_42 shX11_shared_98
theorem dX11_shared_99 : decode cX11_shared 99 = .ok (.iload 5, 2) := oc_21 shX11_shared_99
theorem dX11_shared_101 : decode cX11_shared 101 = .ok (.iload_n 3, 1) := oc_29 shX11_shared_101
theorem dX11_shared_102 : decode cX11_shared 102 = .ok (.invokevirtual 330, 3) := oc_182 shX11_shared_102
theorem dX11_shared_17 : decode cX11_shared 17 = .ok (.iconst 0, 1) := oc_3 shX11_shared_17
