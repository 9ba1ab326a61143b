theorem dX12_lorry_0 : decode cX12_lorry 0 = .ok (.iload_n 1, 1) := by decide +kernel
theorem dX12_lorry_1 : decode cX12_lorry 1 = .ok (.bipush 20, 2) := by decide +kernel
theorem dX12_lorry_3 : decode cX12_lorry 3 = .ok (.sipush 2000, 3) := by decide +kernel
theorem dX12_lorry_6 : decode cX12_lorry 6 = .ok (.invokestatic 214, 3) := by decide +kernel
theorem dX12_lorry_9 : decode cX12_lorry 9 = .ok (.ifCond .eq 11, 3) := by decide +kernel
theorem dX12_lorry_12 : decode cX12_lorry 12 = .ok (.aload_n 0, 1) := by decide +kernel
theorem dX12_lorry_13 : decode cX12_lorry 13 = .ok (.getfield 386, 3) := by decide +kernel
theorem dX12_lorry_16 : decode cX12_lorry 16 = .ok (.iconst 3, 1) := by decide +kernel
theorem dX12_lorry_17 : decode cX12_lorry 17 = .ok (.if_icmp .ne 5, 3) := by decide +kernel
theorem dX12_lorry_20 : decode cX12_lorry 20 = .ok (.iconst (-1), 1) := by decide +kernel
theorem dX12_lorry_21 : decode cX12_lorry 21 = .ok (.ireturn, 1) := by decide +kernel
theorem dX12_lorry_22 : decode cX12_lorry 22 = .ok (.aload_n 0, 1) := by decide +kernel
theorem dX12_lorry_23 : decode cX12_lorry 23 = .ok (.getfield 107, 3) := by decide +kernel
theorem dX12_lorry_26 : decode cX12_lorry 26 = .ok (.aload_n 0, 1) := by decide +kernel
theorem dX12_lorry_27 : decode cX12_lorry 27 = .ok (.getfield 386, 3) := by decide +kernel
theorem dX12_lorry_30 : decode cX12_lorry 30 = .ok (.iload_n 1, 1) := by decide +kernel
theorem dX12_lorry_31 : decode cX12_lorry 31 = .ok (.iastore, 1) := by decide +kernel
theorem dX12_lorry_32 : decode cX12_lorry 32 = .ok (.aload_n 0, 1) := by decide +kernel
theorem dX12_lorry_33 : decode cX12_lorry 33 = .ok (.aload_n 0, 1) := by decide +kernel
theorem dX12_lorry_34 : decode cX12_lorry 34 = .ok (.getfield 386, 3) := by decide +kernel
theorem dX12_lorry_37 : decode cX12_lorry 37 = .ok (.iconst 1, 1) := by decide +kernel
theorem dX12_lorry_38 : decode cX12_lorry 38 = .ok (.iadd, 1) := by decide +kernel
theorem dX12_lorry_39 : decode cX12_lorry 39 = .ok (.putfield 386, 3) := by decide +kernel
theorem dX12_lorry_42 : decode cX12_lorry 42 = .ok (.aload_n 0, 1) := by decide +kernel
theorem dX12_lorry_43 : decode cX12_lorry 43 = .ok (.getfield 386, 3) := by decide +kernel
theorem dX12_lorry_46 : decode cX12_lorry 46 = .ok (.iconst 1, 1) := by decide +kernel
theorem dX12_lorry_47 : decode cX12_lorry 47 = .ok (.isub, 1) := by decide +kernel
theorem dX12_lorry_48 : decode cX12_lorry 48 = .ok (.ireturn, 1) := by decide +kernel
theorem dX12_off_0 : decode cX12_off 0 = .ok (.iload_n 1, 1) := by decide +kernel
theorem dX12_off_1 : decode cX12_off 1 = .ok (.ifCond .lt 34, 3) := by decide +kernel
theorem dX12_off_4 : decode cX12_off 4 = .ok (.iload_n 1, 1) := by decide +kernel
theorem dX12_off_5 : decode cX12_off 5 = .ok (.aload_n 0, 1) := by decide +kernel
theorem dX12_off_6 : decode cX12_off 6 = .ok (.getfield 386, 3) := by decide +kernel
theorem dX12_off_9 : decode cX12_off 9 = .ok (.if_icmp .ge 26, 3) := by decide +kernel
theorem dX12_off_12 : decode cX12_off 12 = .ok (.iload_n 2, 1) := by decide +kernel
theorem dX12_off_13 : decode cX12_off 13 = .ok (.invokestatic 341, 3) := by decide +kernel
theorem dX12_off_16 : decode cX12_off 16 = .ok (.ifCond .eq 19, 3) := by decide +kernel
theorem dX12_off_19 : decode cX12_off 19 = .ok (.aload_n 0, 1) := by decide +kernel
theorem dX12_off_20 : decode cX12_off 20 = .ok (.getfield 125, 3) := by decide +kernel
theorem dX12_off_23 : decode cX12_off 23 = .ok (.sipush 400, 3) := by decide +kernel
theorem dX12_off_26 : decode cX12_off 26 = .ok (.iload_n 1, 1) := by decide +kernel
theorem dX12_off_27 : decode cX12_off 27 = .ok (.imul, 1) := by decide +kernel
theorem dX12_off_28 : decode cX12_off 28 = .ok (.iload_n 2, 1) := by decide +kernel
theorem dX12_off_29 : decode cX12_off 29 = .ok (.iadd, 1) := by decide +kernel
theorem dX12_off_30 : decode cX12_off 30 = .ok (.baload, 1) := by decide +kernel
theorem dX12_off_31 : decode cX12_off 31 = .ok (.iload_n 3, 1) := by decide +kernel
theorem dX12_off_32 : decode cX12_off 32 = .ok (.if_icmp .ne 5, 3) := by decide +kernel
theorem dX12_off_35 : decode cX12_off 35 = .ok (.iconst 0, 1) := by decide +kernel
theorem dX12_off_36 : decode cX12_off 36 = .ok (.ireturn, 1) := by decide +kernel
theorem dX12_off_37 : decode cX12_off 37 = .ok (.aload_n 0, 1) := by decide +kernel
theorem dX12_off_38 : decode cX12_off 38 = .ok (.getfield 125, 3) := by decide +kernel
theorem dX12_off_41 : decode cX12_off 41 = .ok (.sipush 400, 3) := by decide +kernel
theorem dX12_off_44 : decode cX12_off 44 = .ok (.iload_n 1, 1) := by decide +kernel
theorem dX12_off_45 : decode cX12_off 45 = .ok (.imul, 1) := by decide +kernel
theorem dX12_off_46 : decode cX12_off 46 = .ok (.iload_n 2, 1) := by decide +kernel
theorem dX12_off_47 : decode cX12_off 47 = .ok (.iadd, 1) := by decide +kernel
theorem dX12_off_48 : decode cX12_off 48 = .ok (.iload_n 3, 1) := by decide +kernel
theorem dX12_off_49 : decode cX12_off 49 = .ok (.bastore, 1) := by decide +kernel
theorem dX12_off_50 : decode cX12_off 50 = .ok (.iconst 1, 1) := by decide +kernel
theorem dX12_off_51 : decode cX12_off 51 = .ok (.ireturn, 1) := by decide +kernel
theorem dX12_roundTo_0 : decode cX12_roundTo 0 = .ok (.iload_n 1, 1) := by decide +kernel
theorem dX12_roundTo_1 : decode cX12_roundTo 1 = .ok (.ifCond .ne 7, 3) := by decide +kernel
theorem dX12_roundTo_4 : decode cX12_roundTo 4 = .ok (.iconst 0, 1) := by decide +kernel
theorem dX12_roundTo_5 : decode cX12_roundTo 5 = .ok (.goto 6, 3) := by decide +kernel
theorem dX12_roundTo_8 : decode cX12_roundTo 8 = .ok (.ldc_w 370, 3) := by decide +kernel
theorem dX12_roundTo_11 : decode cX12_roundTo 11 = .ok (.istore_n 2, 1) := by decide +kernel
theorem dX12_roundTo_12 : decode cX12_roundTo 12 = .ok (.iconst 0, 1) := by decide +kernel
theorem dX12_roundTo_13 : decode cX12_roundTo 13 = .ok (.istore_n 3, 1) := by decide +kernel
theorem dX12_roundTo_14 : decode cX12_roundTo 14 = .ok (.iload_n 3, 1) := by decide +kernel
theorem dX12_roundTo_15 : decode cX12_roundTo 15 = .ok (.aload_n 0, 1) := by decide +kernel
theorem dX12_roundTo_16 : decode cX12_roundTo 16 = .ok (.getfield 364, 3) := by decide +kernel
theorem dX12_roundTo_19 : decode cX12_roundTo 19 = .ok (.if_icmp .ge 63, 3) := by decide +kernel
theorem dX12_roundTo_22 : decode cX12_roundTo 22 = .ok (.iload_n 1, 1) := by decide +kernel
theorem dX12_roundTo_23 : decode cX12_roundTo 23 = .ok (.iload_n 3, 1) := by decide +kernel
theorem dX12_roundTo_24 : decode cX12_roundTo 24 = .ok (.ishr, 1) := by decide +kernel
theorem dX12_roundTo_25 : decode cX12_roundTo 25 = .ok (.iconst 1, 1) := by decide +kernel
theorem dX12_roundTo_26 : decode cX12_roundTo 26 = .ok (.iand, 1) := by decide +kernel
theorem dX12_roundTo_27 : decode cX12_roundTo 27 = .ok (.ifCond .ne 6, 3) := by decide +kernel
theorem dX12_roundTo_30 : decode cX12_roundTo 30 = .ok (.goto 46, 3) := by decide +kernel
theorem dX12_roundTo_33 : decode cX12_roundTo 33 = .ok (.aload_n 0, 1) := by decide +kernel
theorem dX12_roundTo_34 : decode cX12_roundTo 34 = .ok (.aload_n 0, 1) := by decide +kernel
theorem dX12_roundTo_35 : decode cX12_roundTo 35 = .ok (.getfield 101, 3) := by decide +kernel
theorem dX12_roundTo_38 : decode cX12_roundTo 38 = .ok (.iload_n 3, 1) := by decide +kernel
theorem dX12_roundTo_39 : decode cX12_roundTo 39 = .ok (.iaload, 1) := by decide +kernel
theorem dX12_roundTo_40 : decode cX12_roundTo 40 = .ok (.invokevirtual 367, 3) := by decide +kernel
theorem dX12_roundTo_43 : decode cX12_roundTo 43 = .ok (.aload_n 0, 1) := by decide +kernel
theorem dX12_roundTo_44 : decode cX12_roundTo 44 = .ok (.getfield 104, 3) := by decide +kernel
theorem dX12_roundTo_47 : decode cX12_roundTo 47 = .ok (.bipush 8, 2) := by decide +kernel
theorem dX12_roundTo_49 : decode cX12_roundTo 49 = .ok (.iload_n 1, 1) := by decide +kernel
theorem dX12_roundTo_50 : decode cX12_roundTo 50 = .ok (.iconst 1, 1) := by decide +kernel
theorem dX12_roundTo_51 : decode cX12_roundTo 51 = .ok (.iload_n 3, 1) := by decide +kernel
theorem dX12_roundTo_52 : decode cX12_roundTo 52 = .ok (.ishl, 1) := by decide +kernel
theorem dX12_roundTo_53 : decode cX12_roundTo 53 = .ok (.iconst (-1), 1) := by decide +kernel
theorem dX12_roundTo_54 : decode cX12_roundTo 54 = .ok (.ixor, 1) := by decide +kernel
theorem dX12_roundTo_55 : decode cX12_roundTo 55 = .ok (.iand, 1) := by decide +kernel
theorem dX12_roundTo_56 : decode cX12_roundTo 56 = .ok (.imul, 1) := by decide +kernel
theorem dX12_roundTo_57 : decode cX12_roundTo 57 = .ok (.iload_n 3, 1) := by decide +kernel
theorem dX12_roundTo_58 : decode cX12_roundTo 58 = .ok (.iadd, 1) := by decide +kernel
theorem dX12_roundTo_59 : decode cX12_roundTo 59 = .ok (.iaload, 1) := by decide +kernel
theorem dX12_roundTo_60 : decode cX12_roundTo 60 = .ok (.iadd, 1) := by decide +kernel
theorem dX12_roundTo_61 : decode cX12_roundTo 61 = .ok (.istore 4, 2) := by decide +kernel
theorem dX12_roundTo_63 : decode cX12_roundTo 63 = .ok (.iload 4, 2) := by decide +kernel
theorem dX12_roundTo_65 : decode cX12_roundTo 65 = .ok (.iload_n 2, 1) := by decide +kernel
theorem dX12_roundTo_66 : decode cX12_roundTo 66 = .ok (.if_icmp .ge 8, 3) := by decide +kernel
theorem dX12_roundTo_69 : decode cX12_roundTo 69 = .ok (.iload 4, 2) := by decide +kernel
theorem dX12_roundTo_71 : decode cX12_roundTo 71 = .ok (.goto 4, 3) := by decide +kernel
theorem dX12_roundTo_74 : decode cX12_roundTo 74 = .ok (.iload_n 2, 1) := by decide +kernel
theorem dX12_roundTo_75 : decode cX12_roundTo 75 = .ok (.istore_n 2, 1) := by decide +kernel
theorem dX12_roundTo_76 : decode cX12_roundTo 76 = .ok (.iinc 3 1, 3) := by decide +kernel
theorem dX12_roundTo_79 : decode cX12_roundTo 79 = .ok (.goto (-65), 3) := by decide +kernel
theorem dX12_roundTo_82 : decode cX12_roundTo 82 = .ok (.iload_n 2, 1) := by decide +kernel
theorem dX12_roundTo_83 : decode cX12_roundTo 83 = .ok (.ireturn, 1) := by decide +kernel
theorem dX12_sharedBy_0 : decode cX12_sharedBy 0 = .ok (.iconst 0, 1) := by decide +kernel
theorem dX12_sharedBy_1 : decode cX12_sharedBy 1 = .ok (.istore_n 2, 1) := by decide +kernel
theorem dX12_sharedBy_2 : decode cX12_sharedBy 2 = .ok (.iload_n 2, 1) := by decide +kernel
theorem dX12_sharedBy_3 : decode cX12_sharedBy 3 = .ok (.iconst 3, 1) := by decide +kernel
theorem dX12_sharedBy_4 : decode cX12_sharedBy 4 = .ok (.if_icmp .ge 23, 3) := by decide +kernel
theorem dX12_sharedBy_7 : decode cX12_sharedBy 7 = .ok (.aload_n 0, 1) := by decide +kernel
theorem dX12_sharedBy_8 : decode cX12_sharedBy 8 = .ok (.getfield 110, 3) := by decide +kernel
theorem dX12_sharedBy_11 : decode cX12_sharedBy 11 = .ok (.iload_n 2, 1) := by decide +kernel
theorem dX12_sharedBy_12 : decode cX12_sharedBy 12 = .ok (.iconst 0, 1) := by decide +kernel
theorem dX12_sharedBy_13 : decode cX12_sharedBy 13 = .ok (.iastore, 1) := by decide +kernel
theorem dX12_sharedBy_14 : decode cX12_sharedBy 14 = .ok (.aload_n 0, 1) := by decide +kernel
theorem dX12_sharedBy_15 : decode cX12_sharedBy 15 = .ok (.getfield 113, 3) := by decide +kernel
theorem dX12_sharedBy_18 : decode cX12_sharedBy 18 = .ok (.iload_n 2, 1) := by decide +kernel
theorem dX12_sharedBy_19 : decode cX12_sharedBy 19 = .ok (.iconst 0, 1) := by decide +kernel
theorem dX12_sharedBy_20 : decode cX12_sharedBy 20 = .ok (.iastore, 1) := by decide +kernel
theorem dX12_sharedBy_21 : decode cX12_sharedBy 21 = .ok (.iinc 2 1, 3) := by decide +kernel
theorem dX12_sharedBy_24 : decode cX12_sharedBy 24 = .ok (.goto (-22), 3) := by decide +kernel
theorem dX12_sharedBy_27 : decode cX12_sharedBy 27 = .ok (.iconst 0, 1) := by decide +kernel
theorem dX12_sharedBy_28 : decode cX12_sharedBy 28 = .ok (.istore_n 2, 1) := by decide +kernel
theorem dX12_sharedBy_29 : decode cX12_sharedBy 29 = .ok (.iload_n 2, 1) := by decide +kernel
theorem dX12_sharedBy_30 : decode cX12_sharedBy 30 = .ok (.aload_n 0, 1) := by decide +kernel
theorem dX12_sharedBy_31 : decode cX12_sharedBy 31 = .ok (.getfield 364, 3) := by decide +kernel
theorem dX12_sharedBy_34 : decode cX12_sharedBy 34 = .ok (.if_icmp .ge 73, 3) := by decide +kernel
theorem dX12_sharedBy_37 : decode cX12_sharedBy 37 = .ok (.aload_n 0, 1) := by decide +kernel
theorem dX12_sharedBy_38 : decode cX12_sharedBy 38 = .ok (.getfield 116, 3) := by decide +kernel
theorem dX12_sharedBy_41 : decode cX12_sharedBy 41 = .ok (.iload_n 2, 1) := by decide +kernel
theorem dX12_sharedBy_42 : decode cX12_sharedBy 42 = .ok (.iaload, 1) := by decide +kernel
theorem dX12_sharedBy_43 : decode cX12_sharedBy 43 = .ok (.istore_n 3, 1) := by decide +kernel
theorem dX12_sharedBy_44 : decode cX12_sharedBy 44 = .ok (.aload_n 0, 1) := by decide +kernel
theorem dX12_sharedBy_45 : decode cX12_sharedBy 45 = .ok (.getfield 125, 3) := by decide +kernel
theorem dX12_sharedBy_48 : decode cX12_sharedBy 48 = .ok (.sipush 400, 3) := by decide +kernel
theorem dX12_sharedBy_51 : decode cX12_sharedBy 51 = .ok (.iload_n 3, 1) := by decide +kernel
theorem dX12_sharedBy_52 : decode cX12_sharedBy 52 = .ok (.imul, 1) := by decide +kernel
theorem dX12_sharedBy_53 : decode cX12_sharedBy 53 = .ok (.iload_n 1, 1) := by decide +kernel
theorem dX12_sharedBy_54 : decode cX12_sharedBy 54 = .ok (.iadd, 1) := by decide +kernel
theorem dX12_sharedBy_55 : decode cX12_sharedBy 55 = .ok (.baload, 1) := by decide +kernel
theorem dX12_sharedBy_56 : decode cX12_sharedBy 56 = .ok (.ifCond .eq 5, 3) := by decide +kernel
theorem dX12_sharedBy_59 : decode cX12_sharedBy 59 = .ok (.iconst (-1), 1) := by decide +kernel
theorem dX12_sharedBy_60 : decode cX12_sharedBy 60 = .ok (.ireturn, 1) := by decide +kernel
theorem dX12_sharedBy_61 : decode cX12_sharedBy 61 = .ok (.aload_n 0, 1) := by decide +kernel
theorem dX12_sharedBy_62 : decode cX12_sharedBy 62 = .ok (.getfield 110, 3) := by decide +kernel
theorem dX12_sharedBy_65 : decode cX12_sharedBy 65 = .ok (.iload_n 3, 1) := by decide +kernel
theorem dX12_sharedBy_66 : decode cX12_sharedBy 66 = .ok (.aload_n 0, 1) := by decide +kernel
theorem dX12_sharedBy_67 : decode cX12_sharedBy 67 = .ok (.getfield 110, 3) := by decide +kernel
theorem dX12_sharedBy_70 : decode cX12_sharedBy 70 = .ok (.iload_n 3, 1) := by decide +kernel
theorem dX12_sharedBy_71 : decode cX12_sharedBy 71 = .ok (.iaload, 1) := by decide +kernel
theorem dX12_sharedBy_72 : decode cX12_sharedBy 72 = .ok (.aload_n 0, 1) := by decide +kernel
theorem dX12_sharedBy_73 : decode cX12_sharedBy 73 = .ok (.aload_n 0, 1) := by decide +kernel
theorem dX12_sharedBy_74 : decode cX12_sharedBy 74 = .ok (.getfield 101, 3) := by decide +kernel
theorem dX12_sharedBy_77 : decode cX12_sharedBy 77 = .ok (.iload_n 2, 1) := by decide +kernel
theorem dX12_sharedBy_78 : decode cX12_sharedBy 78 = .ok (.iaload, 1) := by decide +kernel
theorem dX12_sharedBy_79 : decode cX12_sharedBy 79 = .ok (.iload_n 1, 1) := by decide +kernel
theorem dX12_sharedBy_80 : decode cX12_sharedBy 80 = .ok (.invokevirtual 222, 3) := by decide +kernel
theorem dX12_sharedBy_83 : decode cX12_sharedBy 83 = .ok (.iadd, 1) := by decide +kernel
theorem dX12_sharedBy_84 : decode cX12_sharedBy 84 = .ok (.iastore, 1) := by decide +kernel
theorem dX12_sharedBy_85 : decode cX12_sharedBy 85 = .ok (.aload_n 0, 1) := by decide +kernel
theorem dX12_sharedBy_86 : decode cX12_sharedBy 86 = .ok (.getfield 113, 3) := by decide +kernel
theorem dX12_sharedBy_89 : decode cX12_sharedBy 89 = .ok (.iload_n 3, 1) := by decide +kernel
theorem dX12_sharedBy_90 : decode cX12_sharedBy 90 = .ok (.aload_n 0, 1) := by decide +kernel
theorem dX12_sharedBy_91 : decode cX12_sharedBy 91 = .ok (.getfield 113, 3) := by decide +kernel
theorem dX12_sharedBy_94 : decode cX12_sharedBy 94 = .ok (.iload_n 3, 1) := by decide +kernel
theorem dX12_sharedBy_95 : decode cX12_sharedBy 95 = .ok (.iaload, 1) := by decide +kernel
theorem dX12_sharedBy_96 : decode cX12_sharedBy 96 = .ok (.iconst 1, 1) := by decide +kernel
theorem dX12_sharedBy_97 : decode cX12_sharedBy 97 = .ok (.iload_n 2, 1) := by decide +kernel
theorem dX12_sharedBy_98 : decode cX12_sharedBy 98 = .ok (.ishl, 1) := by decide +kernel
theorem dX12_sharedBy_99 : decode cX12_sharedBy 99 = .ok (.ior, 1) := by decide +kernel
theorem dX12_sharedBy_100 : decode cX12_sharedBy 100 = .ok (.iastore, 1) := by decide +kernel
theorem dX12_sharedBy_101 : decode cX12_sharedBy 101 = .ok (.iinc 2 1, 3) := by decide +kernel
theorem dX12_sharedBy_104 : decode cX12_sharedBy 104 = .ok (.goto (-75), 3) := by decide +kernel
theorem dX12_sharedBy_107 : decode cX12_sharedBy 107 = .ok (.iconst 0, 1) := by decide +kernel
theorem dX12_sharedBy_108 : decode cX12_sharedBy 108 = .ok (.istore_n 2, 1) := by decide +kernel
theorem dX12_sharedBy_109 : decode cX12_sharedBy 109 = .ok (.iconst 0, 1) := by decide +kernel
theorem dX12_sharedBy_110 : decode cX12_sharedBy 110 = .ok (.istore_n 3, 1) := by decide +kernel
theorem dX12_sharedBy_111 : decode cX12_sharedBy 111 = .ok (.iload_n 3, 1) := by decide +kernel
theorem dX12_sharedBy_112 : decode cX12_sharedBy 112 = .ok (.aload_n 0, 1) := by decide +kernel
theorem dX12_sharedBy_113 : decode cX12_sharedBy 113 = .ok (.getfield 386, 3) := by decide +kernel
theorem dX12_sharedBy_116 : decode cX12_sharedBy 116 = .ok (.if_icmp .ge 39, 3) := by decide +kernel
theorem dX12_sharedBy_119 : decode cX12_sharedBy 119 = .ok (.aload_n 0, 1) := by decide +kernel
theorem dX12_sharedBy_120 : decode cX12_sharedBy 120 = .ok (.getfield 110, 3) := by decide +kernel
theorem dX12_sharedBy_123 : decode cX12_sharedBy 123 = .ok (.iload_n 3, 1) := by decide +kernel
theorem dX12_sharedBy_124 : decode cX12_sharedBy 124 = .ok (.iaload, 1) := by decide +kernel
theorem dX12_sharedBy_125 : decode cX12_sharedBy 125 = .ok (.aload_n 0, 1) := by decide +kernel
theorem dX12_sharedBy_126 : decode cX12_sharedBy 126 = .ok (.getfield 107, 3) := by decide +kernel
theorem dX12_sharedBy_129 : decode cX12_sharedBy 129 = .ok (.iload_n 3, 1) := by decide +kernel
theorem dX12_sharedBy_130 : decode cX12_sharedBy 130 = .ok (.iaload, 1) := by decide +kernel
theorem dX12_sharedBy_131 : decode cX12_sharedBy 131 = .ok (.if_icmp .le 5, 3) := by decide +kernel
theorem dX12_sharedBy_134 : decode cX12_sharedBy 134 = .ok (.iconst (-1), 1) := by decide +kernel
theorem dX12_sharedBy_135 : decode cX12_sharedBy 135 = .ok (.ireturn, 1) := by decide +kernel
theorem dX12_sharedBy_136 : decode cX12_sharedBy 136 = .ok (.iload_n 2, 1) := by decide +kernel
theorem dX12_sharedBy_137 : decode cX12_sharedBy 137 = .ok (.aload_n 0, 1) := by decide +kernel
theorem dX12_sharedBy_138 : decode cX12_sharedBy 138 = .ok (.aload_n 0, 1) := by decide +kernel
theorem dX12_sharedBy_139 : decode cX12_sharedBy 139 = .ok (.getfield 113, 3) := by decide +kernel
theorem dX12_sharedBy_142 : decode cX12_sharedBy 142 = .ok (.iload_n 3, 1) := by decide +kernel
theorem dX12_sharedBy_143 : decode cX12_sharedBy 143 = .ok (.iaload, 1) := by decide +kernel
theorem dX12_sharedBy_144 : decode cX12_sharedBy 144 = .ok (.invokevirtual 389, 3) := by decide +kernel
theorem dX12_sharedBy_147 : decode cX12_sharedBy 147 = .ok (.iadd, 1) := by decide +kernel
theorem dX12_sharedBy_148 : decode cX12_sharedBy 148 = .ok (.istore_n 2, 1) := by decide +kernel
theorem dX12_sharedBy_149 : decode cX12_sharedBy 149 = .ok (.iinc 3 1, 3) := by decide +kernel
theorem dX12_sharedBy_152 : decode cX12_sharedBy 152 = .ok (.goto (-41), 3) := by decide +kernel
theorem dX12_sharedBy_155 : decode cX12_sharedBy 155 = .ok (.iload_n 2, 1) := by decide +kernel
theorem dX12_sharedBy_156 : decode cX12_sharedBy 156 = .ok (.ireturn, 1) := by decide +kernel
theorem dX12_shared_0 : decode cX12_shared 0 = .ok (.iload_n 1, 1) := by decide +kernel
theorem dX12_shared_1 : decode cX12_shared 1 = .ok (.invokestatic 341, 3) := by decide +kernel
theorem dX12_shared_4 : decode cX12_shared 4 = .ok (.ifCond .eq 27, 3) := by decide +kernel
theorem dX12_shared_7 : decode cX12_shared 7 = .ok (.iload_n 2, 1) := by decide +kernel
theorem dX12_shared_8 : decode cX12_shared 8 = .ok (.iconst 1, 1) := by decide +kernel
theorem dX12_shared_9 : decode cX12_shared 9 = .ok (.sipush 400, 3) := by decide +kernel
theorem dX12_shared_12 : decode cX12_shared 12 = .ok (.invokestatic 214, 3) := by decide +kernel
theorem dX12_shared_15 : decode cX12_shared 15 = .ok (.ifCond .eq 16, 3) := by decide +kernel
theorem dX12_shared_18 : decode cX12_shared 18 = .ok (.iload_n 3, 1) := by decide +kernel
theorem dX12_shared_19 : decode cX12_shared 19 = .ok (.iconst (-1), 1) := by decide +kernel
theorem dX12_shared_20 : decode cX12_shared 20 = .ok (.if_icmp .eq 13, 3) := by decide +kernel
theorem dX12_shared_23 : decode cX12_shared 23 = .ok (.aload_n 0, 1) := by decide +kernel
theorem dX12_shared_24 : decode cX12_shared 24 = .ok (.iload_n 3, 1) := by decide +kernel
theorem dX12_shared_25 : decode cX12_shared 25 = .ok (.invokevirtual 218, 3) := by decide +kernel
theorem dX12_shared_28 : decode cX12_shared 28 = .ok (.ifCond .ne 5, 3) := by decide +kernel
theorem dX12_shared_31 : decode cX12_shared 31 = .ok (.iconst (-1), 1) := by decide +kernel
theorem dX12_shared_32 : decode cX12_shared 32 = .ok (.ireturn, 1) := by decide +kernel
theorem dX12_shared_33 : decode cX12_shared 33 = .ok (.aload_n 0, 1) := by decide +kernel
theorem dX12_shared_34 : decode cX12_shared 34 = .ok (.iload_n 1, 1) := by decide +kernel
theorem dX12_shared_35 : decode cX12_shared 35 = .ok (.iload_n 2, 1) := by decide +kernel
theorem dX12_shared_36 : decode cX12_shared 36 = .ok (.bipush 6, 2) := by decide +kernel
theorem dX12_shared_38 : decode cX12_shared 38 = .ok (.invokevirtual 380, 3) := by decide +kernel
theorem dX12_shared_41 : decode cX12_shared 41 = .ok (.ifCond .ne 6, 3) := by decide +kernel
theorem dX12_shared_44 : decode cX12_shared 44 = .ok (.bipush (-2), 2) := by decide +kernel
theorem dX12_shared_46 : decode cX12_shared 46 = .ok (.ireturn, 1) := by decide +kernel
theorem dX12_shared_47 : decode cX12_shared 47 = .ok (.iconst 1, 1) := by decide +kernel
theorem dX12_shared_48 : decode cX12_shared 48 = .ok (.istore 4, 2) := by decide +kernel
theorem dX12_shared_50 : decode cX12_shared 50 = .ok (.iconst 0, 1) := by decide +kernel
theorem dX12_shared_51 : decode cX12_shared 51 = .ok (.istore 5, 2) := by decide +kernel
theorem dX12_shared_53 : decode cX12_shared 53 = .ok (.iload 5, 2) := by decide +kernel
theorem dX12_shared_55 : decode cX12_shared 55 = .ok (.aload_n 0, 1) := by decide +kernel
theorem dX12_shared_56 : decode cX12_shared 56 = .ok (.getfield 364, 3) := by decide +kernel
theorem dX12_shared_59 : decode cX12_shared 59 = .ok (.if_icmp .ge 18, 3) := by decide +kernel
theorem dX12_shared_62 : decode cX12_shared 62 = .ok (.iload 4, 2) := by decide +kernel
theorem dX12_shared_64 : decode cX12_shared 64 = .ok (.aload_n 0, 1) := by decide +kernel
theorem dX12_shared_65 : decode cX12_shared 65 = .ok (.getfield 386, 3) := by decide +kernel
theorem dX12_shared_68 : decode cX12_shared 68 = .ok (.imul, 1) := by decide +kernel
theorem dX12_shared_69 : decode cX12_shared 69 = .ok (.istore 4, 2) := by decide +kernel
theorem dX12_shared_71 : decode cX12_shared 71 = .ok (.iinc 5 1, 3) := by decide +kernel
theorem dX12_shared_74 : decode cX12_shared 74 = .ok (.goto (-21), 3) := by decide +kernel
theorem dX12_shared_77 : decode cX12_shared 77 = .ok (.iconst (-1), 1) := by decide +kernel
theorem dX12_shared_78 : decode cX12_shared 78 = .ok (.istore 5, 2) := by decide +kernel
theorem dX12_shared_80 : decode cX12_shared 80 = .ok (.iconst 0, 1) := by decide +kernel
theorem dX12_shared_81 : decode cX12_shared 81 = .ok (.istore 6, 2) := by decide +kernel
theorem dX12_shared_83 : decode cX12_shared 83 = .ok (.iload 6, 2) := by decide +kernel
theorem dX12_shared_85 : decode cX12_shared 85 = .ok (.iload 4, 2) := by decide +kernel
theorem dX12_shared_87 : decode cX12_shared 87 = .ok (.if_icmp .ge 120, 3) := by decide +kernel
theorem dX12_shared_90 : decode cX12_shared 90 = .ok (.iload 6, 2) := by decide +kernel
theorem dX12_shared_92 : decode cX12_shared 92 = .ok (.istore 7, 2) := by decide +kernel
theorem dX12_shared_94 : decode cX12_shared 94 = .ok (.aload_n 0, 1) := by decide +kernel
theorem dX12_shared_95 : decode cX12_shared 95 = .ok (.getfield 364, 3) := by decide +kernel
theorem dX12_shared_98 : decode cX12_shared 98 = .ok (.iconst 1, 1) := by decide +kernel
theorem dX12_shared_99 : decode cX12_shared 99 = .ok (.isub, 1) := by decide +kernel
theorem dX12_shared_100 : decode cX12_shared 100 = .ok (.istore 8, 2) := by decide +kernel
theorem dX12_shared_102 : decode cX12_shared 102 = .ok (.iload 8, 2) := by decide +kernel
theorem dX12_shared_104 : decode cX12_shared 104 = .ok (.ifCond .lt 32, 3) := by decide +kernel
theorem dX12_shared_107 : decode cX12_shared 107 = .ok (.aload_n 0, 1) := by decide +kernel
theorem dX12_shared_108 : decode cX12_shared 108 = .ok (.getfield 116, 3) := by decide +kernel
theorem dX12_shared_111 : decode cX12_shared 111 = .ok (.iload 8, 2) := by decide +kernel
theorem dX12_shared_113 : decode cX12_shared 113 = .ok (.iload 7, 2) := by decide +kernel
theorem dX12_shared_115 : decode cX12_shared 115 = .ok (.aload_n 0, 1) := by decide +kernel
theorem dX12_shared_116 : decode cX12_shared 116 = .ok (.getfield 386, 3) := by decide +kernel
theorem dX12_shared_119 : decode cX12_shared 119 = .ok (.irem, 1) := by decide +kernel
theorem dX12_shared_120 : decode cX12_shared 120 = .ok (.iastore, 1) := by decide +kernel
theorem dX12_shared_121 : decode cX12_shared 121 = .ok (.iload 7, 2) := by decide +kernel
theorem dX12_shared_123 : decode cX12_shared 123 = .ok (.aload_n 0, 1) := by decide +kernel
theorem dX12_shared_124 : decode cX12_shared 124 = .ok (.getfield 386, 3) := by decide +kernel
theorem dX12_shared_127 : decode cX12_shared 127 = .ok (.idiv, 1) := by decide +kernel
theorem dX12_shared_128 : decode cX12_shared 128 = .ok (.istore 7, 2) := by decide +kernel
theorem dX12_shared_130 : decode cX12_shared 130 = .ok (.iinc 8 (-1), 3) := by decide +kernel
theorem dX12_shared_133 : decode cX12_shared 133 = .ok (.goto (-31), 3) := by decide +kernel
theorem dX12_shared_136 : decode cX12_shared 136 = .ok (.aload_n 0, 1) := by decide +kernel
theorem dX12_shared_137 : decode cX12_shared 137 = .ok (.iload_n 1, 1) := by decide +kernel
theorem dX12_shared_138 : decode cX12_shared 138 = .ok (.invokevirtual 392, 3) := by decide +kernel
theorem dX12_shared_141 : decode cX12_shared 141 = .ok (.istore 8, 2) := by decide +kernel
theorem dX12_shared_143 : decode cX12_shared 143 = .ok (.iload 8, 2) := by decide +kernel
theorem dX12_shared_145 : decode cX12_shared 145 = .ok (.iconst (-1), 1) := by decide +kernel
theorem dX12_shared_146 : decode cX12_shared 146 = .ok (.if_icmp .eq 55, 3) := by decide +kernel
theorem dX12_shared_149 : decode cX12_shared 149 = .ok (.iload 5, 2) := by decide +kernel
theorem dX12_shared_151 : decode cX12_shared 151 = .ok (.iconst (-1), 1) := by decide +kernel
theorem dX12_shared_152 : decode cX12_shared 152 = .ok (.if_icmp .eq 13, 3) := by decide +kernel
theorem dX12_shared_155 : decode cX12_shared 155 = .ok (.iload 8, 2) := by decide +kernel
theorem dX12_shared_157 : decode cX12_shared 157 = .ok (.iload 5, 2) := by decide +kernel
theorem dX12_shared_159 : decode cX12_shared 159 = .ok (.if_icmp .lt 6, 3) := by decide +kernel
theorem dX12_shared_162 : decode cX12_shared 162 = .ok (.goto 39, 3) := by decide +kernel
theorem dX12_shared_165 : decode cX12_shared 165 = .ok (.iload 8, 2) := by decide +kernel
theorem dX12_shared_167 : decode cX12_shared 167 = .ok (.istore 5, 2) := by decide +kernel
theorem dX12_shared_169 : decode cX12_shared 169 = .ok (.iconst 0, 1) := by decide +kernel
theorem dX12_shared_170 : decode cX12_shared 170 = .ok (.istore 9, 2) := by decide +kernel
theorem dX12_shared_172 : decode cX12_shared 172 = .ok (.iload 9, 2) := by decide +kernel
theorem dX12_shared_174 : decode cX12_shared 174 = .ok (.aload_n 0, 1) := by decide +kernel
theorem dX12_shared_175 : decode cX12_shared 175 = .ok (.getfield 364, 3) := by decide +kernel
theorem dX12_shared_178 : decode cX12_shared 178 = .ok (.if_icmp .ge 23, 3) := by decide +kernel
theorem dX12_shared_181 : decode cX12_shared 181 = .ok (.aload_n 0, 1) := by decide +kernel
theorem dX12_shared_182 : decode cX12_shared 182 = .ok (.getfield 119, 3) := by decide +kernel
theorem dX12_shared_185 : decode cX12_shared 185 = .ok (.iload 9, 2) := by decide +kernel
theorem dX12_shared_187 : decode cX12_shared 187 = .ok (.aload_n 0, 1) := by decide +kernel
theorem dX12_shared_188 : decode cX12_shared 188 = .ok (.getfield 116, 3) := by decide +kernel
theorem dX12_shared_191 : decode cX12_shared 191 = .ok (.iload 9, 2) := by decide +kernel
theorem dX12_shared_193 : decode cX12_shared 193 = .ok (.iaload, 1) := by decide +kernel
theorem dX12_shared_194 : decode cX12_shared 194 = .ok (.iastore, 1) := by decide +kernel
theorem dX12_shared_195 : decode cX12_shared 195 = .ok (.iinc 9 1, 3) := by decide +kernel
theorem dX12_shared_198 : decode cX12_shared 198 = .ok (.goto (-26), 3) := by decide +kernel
theorem dX12_shared_201 : decode cX12_shared 201 = .ok (.iinc 6 1, 3) := by decide +kernel
theorem dX12_shared_204 : decode cX12_shared 204 = .ok (.goto (-121), 3) := by decide +kernel
theorem dX12_shared_207 : decode cX12_shared 207 = .ok (.iload 5, 2) := by decide +kernel
theorem dX12_shared_209 : decode cX12_shared 209 = .ok (.iconst (-1), 1) := by decide +kernel
theorem dX12_shared_210 : decode cX12_shared 210 = .ok (.if_icmp .ne 6, 3) := by decide +kernel
theorem dX12_shared_213 : decode cX12_shared 213 = .ok (.bipush (-2), 2) := by decide +kernel
theorem dX12_shared_215 : decode cX12_shared 215 = .ok (.ireturn, 1) := by decide +kernel
theorem dX12_shared_216 : decode cX12_shared 216 = .ok (.iload_n 3, 1) := by decide +kernel
theorem dX12_shared_217 : decode cX12_shared 217 = .ok (.iconst (-1), 1) := by decide +kernel
theorem dX12_shared_218 : decode cX12_shared 218 = .ok (.if_icmp .ne 6, 3) := by decide +kernel
theorem dX12_shared_221 : decode cX12_shared 221 = .ok (.iload 5, 2) := by decide +kernel
theorem dX12_shared_223 : decode cX12_shared 223 = .ok (.ireturn, 1) := by decide +kernel
theorem dX12_shared_224 : decode cX12_shared 224 = .ok (.iconst 0, 1) := by decide +kernel
theorem dX12_shared_225 : decode cX12_shared 225 = .ok (.istore 6, 2) := by decide +kernel
theorem dX12_shared_227 : decode cX12_shared 227 = .ok (.iload 6, 2) := by decide +kernel
theorem dX12_shared_229 : decode cX12_shared 229 = .ok (.aload_n 0, 1) := by decide +kernel
theorem dX12_shared_230 : decode cX12_shared 230 = .ok (.getfield 364, 3) := by decide +kernel
theorem dX12_shared_233 : decode cX12_shared 233 = .ok (.if_icmp .ge 28, 3) := by decide +kernel
theorem dX12_shared_236 : decode cX12_shared 236 = .ok (.aload_n 0, 1) := by decide +kernel
theorem dX12_shared_237 : decode cX12_shared 237 = .ok (.getfield 101, 3) := by decide +kernel
theorem dX12_shared_240 : decode cX12_shared 240 = .ok (.iload 6, 2) := by decide +kernel
theorem dX12_shared_242 : decode cX12_shared 242 = .ok (.iaload, 1) := by decide +kernel
theorem dX12_shared_243 : decode cX12_shared 243 = .ok (.iload_n 3, 1) := by decide +kernel
theorem dX12_shared_244 : decode cX12_shared 244 = .ok (.if_icmp .ne 11, 3) := by decide +kernel
theorem dX12_shared_247 : decode cX12_shared 247 = .ok (.aload_n 0, 1) := by decide +kernel
theorem dX12_shared_248 : decode cX12_shared 248 = .ok (.getfield 119, 3) := by decide +kernel
theorem dX12_shared_251 : decode cX12_shared 251 = .ok (.iload 6, 2) := by decide +kernel
theorem dX12_shared_253 : decode cX12_shared 253 = .ok (.iaload, 1) := by decide +kernel
theorem dX12_shared_254 : decode cX12_shared 254 = .ok (.ireturn, 1) := by decide +kernel
theorem dX12_shared_255 : decode cX12_shared 255 = .ok (.iinc 6 1, 3) := by decide +kernel
theorem dX12_shared_258 : decode cX12_shared 258 = .ok (.goto (-31), 3) := by decide +kernel
theorem dX12_shared_261 : decode cX12_shared 261 = .ok (.iconst (-1), 1) := by decide +kernel
theorem dX12_shared_262 : decode cX12_shared 262 = .ok (.ireturn, 1) := by decide +kernel
theorem dX12_goNights_0 : decode cX12_goNights 0 = .ok (.aload_n 0, 1) := by decide +kernel
theorem dX12_goNights_1 : decode cX12_goNights 1 = .ok (.iconst 0, 1) := by decide +kernel
theorem dX12_goNights_2 : decode cX12_goNights 2 = .ok (.putfield 395, 3) := by decide +kernel
theorem dX12_goNights_5 : decode cX12_goNights 5 = .ok (.aload_n 0, 1) := by decide +kernel
theorem dX12_goNights_6 : decode cX12_goNights 6 = .ok (.iconst 0, 1) := by decide +kernel
theorem dX12_goNights_7 : decode cX12_goNights 7 = .ok (.putfield 398, 3) := by decide +kernel
theorem dX12_goNights_10 : decode cX12_goNights 10 = .ok (.aload_n 0, 1) := by decide +kernel
theorem dX12_goNights_11 : decode cX12_goNights 11 = .ok (.iconst 0, 1) := by decide +kernel
theorem dX12_goNights_12 : decode cX12_goNights 12 = .ok (.putfield 401, 3) := by decide +kernel
theorem dX12_goNights_15 : decode cX12_goNights 15 = .ok (.iload_n 1, 1) := by decide +kernel
theorem dX12_goNights_16 : decode cX12_goNights 16 = .ok (.istore 4, 2) := by decide +kernel
theorem dX12_goNights_18 : decode cX12_goNights 18 = .ok (.iload 4, 2) := by decide +kernel
theorem dX12_goNights_20 : decode cX12_goNights 20 = .ok (.iload_n 1, 1) := by decide +kernel
theorem dX12_goNights_21 : decode cX12_goNights 21 = .ok (.iload_n 2, 1) := by decide +kernel
theorem dX12_goNights_22 : decode cX12_goNights 22 = .ok (.iadd, 1) := by decide +kernel
theorem dX12_goNights_23 : decode cX12_goNights 23 = .ok (.if_icmp .ge 108, 3) := by decide +kernel
theorem dX12_goNights_26 : decode cX12_goNights 26 = .ok (.aload_n 0, 1) := by decide +kernel
theorem dX12_goNights_27 : decode cX12_goNights 27 = .ok (.iload 4, 2) := by decide +kernel
theorem dX12_goNights_29 : decode cX12_goNights 29 = .ok (.iload_n 3, 1) := by decide +kernel
theorem dX12_goNights_30 : decode cX12_goNights 30 = .ok (.bipush 8, 2) := by decide +kernel
theorem dX12_goNights_32 : decode cX12_goNights 32 = .ok (.invokevirtual 380, 3) := by decide +kernel
theorem dX12_goNights_35 : decode cX12_goNights 35 = .ok (.ifCond .ne 5, 3) := by decide +kernel
theorem dX12_goNights_38 : decode cX12_goNights 38 = .ok (.iconst 0, 1) := by decide +kernel
theorem dX12_goNights_39 : decode cX12_goNights 39 = .ok (.ireturn, 1) := by decide +kernel
theorem dX12_goNights_40 : decode cX12_goNights 40 = .ok (.aload_n 0, 1) := by decide +kernel
theorem dX12_goNights_41 : decode cX12_goNights 41 = .ok (.aload_n 0, 1) := by decide +kernel
theorem dX12_goNights_42 : decode cX12_goNights 42 = .ok (.getfield 395, 3) := by decide +kernel
theorem dX12_goNights_45 : decode cX12_goNights 45 = .ok (.aload_n 0, 1) := by decide +kernel
theorem dX12_goNights_46 : decode cX12_goNights 46 = .ok (.iconst 1, 1) := by decide +kernel
theorem dX12_goNights_47 : decode cX12_goNights 47 = .ok (.aload_n 0, 1) := by decide +kernel
theorem dX12_goNights_48 : decode cX12_goNights 48 = .ok (.getfield 364, 3) := by decide +kernel
theorem dX12_goNights_51 : decode cX12_goNights 51 = .ok (.ishl, 1) := by decide +kernel
theorem dX12_goNights_52 : decode cX12_goNights 52 = .ok (.iconst 1, 1) := by decide +kernel
theorem dX12_goNights_53 : decode cX12_goNights 53 = .ok (.isub, 1) := by decide +kernel
theorem dX12_goNights_54 : decode cX12_goNights 54 = .ok (.invokevirtual 389, 3) := by decide +kernel
theorem dX12_goNights_57 : decode cX12_goNights 57 = .ok (.iadd, 1) := by decide +kernel
theorem dX12_goNights_58 : decode cX12_goNights 58 = .ok (.putfield 395, 3) := by decide +kernel
theorem dX12_goNights_61 : decode cX12_goNights 61 = .ok (.iconst 0, 1) := by decide +kernel
theorem dX12_goNights_62 : decode cX12_goNights 62 = .ok (.istore 5, 2) := by decide +kernel
theorem dX12_goNights_64 : decode cX12_goNights 64 = .ok (.iload 5, 2) := by decide +kernel
theorem dX12_goNights_66 : decode cX12_goNights 66 = .ok (.aload_n 0, 1) := by decide +kernel
theorem dX12_goNights_67 : decode cX12_goNights 67 = .ok (.getfield 364, 3) := by decide +kernel
theorem dX12_goNights_70 : decode cX12_goNights 70 = .ok (.if_icmp .ge 55, 3) := by decide +kernel
theorem dX12_goNights_73 : decode cX12_goNights 73 = .ok (.aload_n 0, 1) := by decide +kernel
theorem dX12_goNights_74 : decode cX12_goNights 74 = .ok (.aload_n 0, 1) := by decide +kernel
theorem dX12_goNights_75 : decode cX12_goNights 75 = .ok (.getfield 398, 3) := by decide +kernel
theorem dX12_goNights_78 : decode cX12_goNights 78 = .ok (.aload_n 0, 1) := by decide +kernel
theorem dX12_goNights_79 : decode cX12_goNights 79 = .ok (.aload_n 0, 1) := by decide +kernel
theorem dX12_goNights_80 : decode cX12_goNights 80 = .ok (.getfield 101, 3) := by decide +kernel
theorem dX12_goNights_83 : decode cX12_goNights 83 = .ok (.iload 5, 2) := by decide +kernel
theorem dX12_goNights_85 : decode cX12_goNights 85 = .ok (.iaload, 1) := by decide +kernel
theorem dX12_goNights_86 : decode cX12_goNights 86 = .ok (.iload 4, 2) := by decide +kernel
theorem dX12_goNights_88 : decode cX12_goNights 88 = .ok (.invokevirtual 222, 3) := by decide +kernel
theorem dX12_goNights_91 : decode cX12_goNights 91 = .ok (.iadd, 1) := by decide +kernel
theorem dX12_goNights_92 : decode cX12_goNights 92 = .ok (.putfield 398, 3) := by decide +kernel
theorem dX12_goNights_95 : decode cX12_goNights 95 = .ok (.aload_n 0, 1) := by decide +kernel
theorem dX12_goNights_96 : decode cX12_goNights 96 = .ok (.aload_n 0, 1) := by decide +kernel
theorem dX12_goNights_97 : decode cX12_goNights 97 = .ok (.getfield 401, 3) := by decide +kernel
theorem dX12_goNights_100 : decode cX12_goNights 100 = .ok (.iconst 1, 1) := by decide +kernel
theorem dX12_goNights_101 : decode cX12_goNights 101 = .ok (.iadd, 1) := by decide +kernel
theorem dX12_goNights_102 : decode cX12_goNights 102 = .ok (.putfield 401, 3) := by decide +kernel
theorem dX12_goNights_105 : decode cX12_goNights 105 = .ok (.aload_n 0, 1) := by decide +kernel
theorem dX12_goNights_106 : decode cX12_goNights 106 = .ok (.getfield 22, 3) := by decide +kernel
theorem dX12_goNights_109 : decode cX12_goNights 109 = .ok (.aload_n 0, 1) := by decide +kernel
theorem dX12_goNights_110 : decode cX12_goNights 110 = .ok (.getfield 101, 3) := by decide +kernel
theorem dX12_goNights_113 : decode cX12_goNights 113 = .ok (.iload 5, 2) := by decide +kernel
theorem dX12_goNights_115 : decode cX12_goNights 115 = .ok (.iaload, 1) := by decide +kernel
theorem dX12_goNights_116 : decode cX12_goNights 116 = .ok (.iload 4, 2) := by decide +kernel
theorem dX12_goNights_118 : decode cX12_goNights 118 = .ok (.iastore, 1) := by decide +kernel
theorem dX12_goNights_119 : decode cX12_goNights 119 = .ok (.iinc 5 1, 3) := by decide +kernel
theorem dX12_goNights_122 : decode cX12_goNights 122 = .ok (.goto (-58), 3) := by decide +kernel
theorem dX12_goNights_125 : decode cX12_goNights 125 = .ok (.iinc 4 1, 3) := by decide +kernel
theorem dX12_goNights_128 : decode cX12_goNights 128 = .ok (.goto (-110), 3) := by decide +kernel
theorem dX12_goNights_131 : decode cX12_goNights 131 = .ok (.iconst 1, 1) := by decide +kernel
theorem dX12_goNights_132 : decode cX12_goNights 132 = .ok (.ireturn, 1) := by decide +kernel
theorem dX12_nights_0 : decode cX12_nights 0 = .ok (.iload_n 1, 1) := by decide +kernel
theorem dX12_nights_1 : decode cX12_nights 1 = .ok (.invokestatic 341, 3) := by decide +kernel
theorem dX12_nights_4 : decode cX12_nights 4 = .ok (.ifCond .eq 45, 3) := by decide +kernel
theorem dX12_nights_7 : decode cX12_nights 7 = .ok (.iload_n 2, 1) := by decide +kernel
theorem dX12_nights_8 : decode cX12_nights 8 = .ok (.iconst 1, 1) := by decide +kernel
theorem dX12_nights_9 : decode cX12_nights 9 = .ok (.bipush 7, 2) := by decide +kernel
theorem dX12_nights_11 : decode cX12_nights 11 = .ok (.invokestatic 214, 3) := by decide +kernel
theorem dX12_nights_14 : decode cX12_nights 14 = .ok (.ifCond .eq 35, 3) := by decide +kernel
theorem dX12_nights_17 : decode cX12_nights 17 = .ok (.iload_n 1, 1) := by decide +kernel
theorem dX12_nights_18 : decode cX12_nights 18 = .ok (.iload_n 2, 1) := by decide +kernel
theorem dX12_nights_19 : decode cX12_nights 19 = .ok (.iadd, 1) := by decide +kernel
theorem dX12_nights_20 : decode cX12_nights 20 = .ok (.iconst 1, 1) := by decide +kernel
theorem dX12_nights_21 : decode cX12_nights 21 = .ok (.isub, 1) := by decide +kernel
theorem dX12_nights_22 : decode cX12_nights 22 = .ok (.sipush 399, 3) := by decide +kernel
theorem dX12_nights_25 : decode cX12_nights 25 = .ok (.if_icmp .gt 24, 3) := by decide +kernel
theorem dX12_nights_28 : decode cX12_nights 28 = .ok (.iload_n 3, 1) := by decide +kernel
theorem dX12_nights_29 : decode cX12_nights 29 = .ok (.iconst 1, 1) := by decide +kernel
theorem dX12_nights_30 : decode cX12_nights 30 = .ok (.sipush 400, 3) := by decide +kernel
theorem dX12_nights_33 : decode cX12_nights 33 = .ok (.invokestatic 214, 3) := by decide +kernel
theorem dX12_nights_36 : decode cX12_nights 36 = .ok (.ifCond .eq 13, 3) := by decide +kernel
theorem dX12_nights_39 : decode cX12_nights 39 = .ok (.iload 4, 2) := by decide +kernel
theorem dX12_nights_41 : decode cX12_nights 41 = .ok (.iconst 0, 1) := by decide +kernel
theorem dX12_nights_42 : decode cX12_nights 42 = .ok (.iconst 2, 1) := by decide +kernel
theorem dX12_nights_43 : decode cX12_nights 43 = .ok (.invokestatic 214, 3) := by decide +kernel
theorem dX12_nights_46 : decode cX12_nights 46 = .ok (.ifCond .ne 5, 3) := by decide +kernel
theorem dX12_nights_49 : decode cX12_nights 49 = .ok (.iconst (-1), 1) := by decide +kernel
theorem dX12_nights_50 : decode cX12_nights 50 = .ok (.ireturn, 1) := by decide +kernel
theorem dX12_nights_51 : decode cX12_nights 51 = .ok (.iconst 0, 1) := by decide +kernel
theorem dX12_nights_52 : decode cX12_nights 52 = .ok (.istore 5, 2) := by decide +kernel
theorem dX12_nights_54 : decode cX12_nights 54 = .ok (.iload 5, 2) := by decide +kernel
theorem dX12_nights_56 : decode cX12_nights 56 = .ok (.aload_n 0, 1) := by decide +kernel
theorem dX12_nights_57 : decode cX12_nights 57 = .ok (.getfield 204, 3) := by decide +kernel
theorem dX12_nights_60 : decode cX12_nights 60 = .ok (.if_icmp .ge 23, 3) := by decide +kernel
theorem dX12_nights_63 : decode cX12_nights 63 = .ok (.aload_n 0, 1) := by decide +kernel
theorem dX12_nights_64 : decode cX12_nights 64 = .ok (.getfield 122, 3) := by decide +kernel
theorem dX12_nights_67 : decode cX12_nights 67 = .ok (.iload 5, 2) := by decide +kernel
theorem dX12_nights_69 : decode cX12_nights 69 = .ok (.aload_n 0, 1) := by decide +kernel
theorem dX12_nights_70 : decode cX12_nights 70 = .ok (.getfield 22, 3) := by decide +kernel
theorem dX12_nights_73 : decode cX12_nights 73 = .ok (.iload 5, 2) := by decide +kernel
theorem dX12_nights_75 : decode cX12_nights 75 = .ok (.iaload, 1) := by decide +kernel
theorem dX12_nights_76 : decode cX12_nights 76 = .ok (.iastore, 1) := by decide +kernel
theorem dX12_nights_77 : decode cX12_nights 77 = .ok (.iinc 5 1, 3) := by decide +kernel
theorem dX12_nights_80 : decode cX12_nights 80 = .ok (.goto (-26), 3) := by decide +kernel
theorem dX12_nights_83 : decode cX12_nights 83 = .ok (.aload_n 0, 1) := by decide +kernel
theorem dX12_nights_84 : decode cX12_nights 84 = .ok (.iload_n 1, 1) := by decide +kernel
theorem dX12_nights_85 : decode cX12_nights 85 = .ok (.iload_n 2, 1) := by decide +kernel
theorem dX12_nights_86 : decode cX12_nights 86 = .ok (.iload_n 3, 1) := by decide +kernel
theorem dX12_nights_87 : decode cX12_nights 87 = .ok (.invokevirtual 404, 3) := by decide +kernel
theorem dX12_nights_90 : decode cX12_nights 90 = .ok (.istore 5, 2) := by decide +kernel
theorem dX12_nights_92 : decode cX12_nights 92 = .ok (.iconst 0, 1) := by decide +kernel
theorem dX12_nights_93 : decode cX12_nights 93 = .ok (.istore 6, 2) := by decide +kernel
theorem dX12_nights_95 : decode cX12_nights 95 = .ok (.iload 6, 2) := by decide +kernel
theorem dX12_nights_97 : decode cX12_nights 97 = .ok (.aload_n 0, 1) := by decide +kernel
theorem dX12_nights_98 : decode cX12_nights 98 = .ok (.getfield 204, 3) := by decide +kernel
theorem dX12_nights_101 : decode cX12_nights 101 = .ok (.if_icmp .ge 23, 3) := by decide +kernel
theorem dX12_nights_104 : decode cX12_nights 104 = .ok (.aload_n 0, 1) := by decide +kernel
theorem dX12_nights_105 : decode cX12_nights 105 = .ok (.getfield 22, 3) := by decide +kernel
theorem dX12_nights_108 : decode cX12_nights 108 = .ok (.iload 6, 2) := by decide +kernel
theorem dX12_nights_110 : decode cX12_nights 110 = .ok (.aload_n 0, 1) := by decide +kernel
theorem dX12_nights_111 : decode cX12_nights 111 = .ok (.getfield 122, 3) := by decide +kernel
theorem dX12_nights_114 : decode cX12_nights 114 = .ok (.iload 6, 2) := by decide +kernel
theorem dX12_nights_116 : decode cX12_nights 116 = .ok (.iaload, 1) := by decide +kernel
theorem dX12_nights_117 : decode cX12_nights 117 = .ok (.iastore, 1) := by decide +kernel
theorem dX12_nights_118 : decode cX12_nights 118 = .ok (.iinc 6 1, 3) := by decide +kernel
theorem dX12_nights_121 : decode cX12_nights 121 = .ok (.goto (-26), 3) := by decide +kernel
theorem dX12_nights_124 : decode cX12_nights 124 = .ok (.iload 5, 2) := by decide +kernel
theorem dX12_nights_126 : decode cX12_nights 126 = .ok (.ifCond .ne 8, 3) := by decide +kernel
theorem dX12_nights_129 : decode cX12_nights 129 = .ok (.bipush (-2), 2) := by decide +kernel
theorem dX12_nights_131 : decode cX12_nights 131 = .ok (.goto 32, 3) := by decide +kernel
theorem dX12_nights_134 : decode cX12_nights 134 = .ok (.iload 4, 2) := by decide +kernel
theorem dX12_nights_136 : decode cX12_nights 136 = .ok (.ifCond .ne 10, 3) := by decide +kernel
theorem dX12_nights_139 : decode cX12_nights 139 = .ok (.aload_n 0, 1) := by decide +kernel
theorem dX12_nights_140 : decode cX12_nights 140 = .ok (.getfield 395, 3) := by decide +kernel
theorem dX12_nights_143 : decode cX12_nights 143 = .ok (.goto 20, 3) := by decide +kernel
theorem dX12_nights_146 : decode cX12_nights 146 = .ok (.iload 4, 2) := by decide +kernel
theorem dX12_nights_148 : decode cX12_nights 148 = .ok (.iconst 1, 1) := by decide +kernel
theorem dX12_nights_149 : decode cX12_nights 149 = .ok (.if_icmp .ne 10, 3) := by decide +kernel
theorem dX12_nights_152 : decode cX12_nights 152 = .ok (.aload_n 0, 1) := by decide +kernel
theorem dX12_nights_153 : decode cX12_nights 153 = .ok (.getfield 398, 3) := by decide +kernel
theorem dX12_nights_156 : decode cX12_nights 156 = .ok (.goto 7, 3) := by decide +kernel
theorem dX12_nights_159 : decode cX12_nights 159 = .ok (.aload_n 0, 1) := by decide +kernel
theorem dX12_nights_160 : decode cX12_nights 160 = .ok (.getfield 401, 3) := by decide +kernel
theorem dX12_nights_163 : decode cX12_nights 163 = .ok (.ireturn, 1) := by decide +kernel
theorem dX12_drum_0 : decode cX12_drum 0 = .ok (.aload_n 0, 1) := by decide +kernel
theorem dX12_drum_1 : decode cX12_drum 1 = .ok (.getfield 407, 3) := by decide +kernel
theorem dX12_drum_4 : decode cX12_drum 4 = .ok (.bipush 20, 2) := by decide +kernel
theorem dX12_drum_6 : decode cX12_drum 6 = .ok (.if_icmp .ne 5, 3) := by decide +kernel
theorem dX12_drum_9 : decode cX12_drum 9 = .ok (.iconst (-1), 1) := by decide +kernel
theorem dX12_drum_10 : decode cX12_drum 10 = .ok (.ireturn, 1) := by decide +kernel
theorem dX12_drum_11 : decode cX12_drum 11 = .ok (.aload_n 0, 1) := by decide +kernel
theorem dX12_drum_12 : decode cX12_drum 12 = .ok (.aload_n 0, 1) := by decide +kernel
theorem dX12_drum_13 : decode cX12_drum 13 = .ok (.getfield 407, 3) := by decide +kernel
theorem dX12_drum_16 : decode cX12_drum 16 = .ok (.iconst 1, 1) := by decide +kernel
theorem dX12_drum_17 : decode cX12_drum 17 = .ok (.iadd, 1) := by decide +kernel
theorem dX12_drum_18 : decode cX12_drum 18 = .ok (.putfield 407, 3) := by decide +kernel
theorem dX12_drum_21 : decode cX12_drum 21 = .ok (.aload_n 0, 1) := by decide +kernel
theorem dX12_drum_22 : decode cX12_drum 22 = .ok (.getfield 407, 3) := by decide +kernel
theorem dX12_drum_25 : decode cX12_drum 25 = .ok (.iconst 1, 1) := by decide +kernel
theorem dX12_drum_26 : decode cX12_drum 26 = .ok (.isub, 1) := by decide +kernel
theorem dX12_drum_27 : decode cX12_drum 27 = .ok (.ireturn, 1) := by decide +kernel
theorem dX12_isDrum_0 : decode cX12_isDrum 0 = .ok (.iload_n 1, 1) := by decide +kernel
theorem dX12_isDrum_1 : decode cX12_isDrum 1 = .ok (.ifCond .lt 15, 3) := by decide +kernel
theorem dX12_isDrum_4 : decode cX12_isDrum 4 = .ok (.iload_n 1, 1) := by decide +kernel
theorem dX12_isDrum_5 : decode cX12_isDrum 5 = .ok (.aload_n 0, 1) := by decide +kernel
theorem dX12_isDrum_6 : decode cX12_isDrum 6 = .ok (.getfield 407, 3) := by decide +kernel
theorem dX12_isDrum_9 : decode cX12_isDrum 9 = .ok (.if_icmp .ge 7, 3) := by decide +kernel
theorem dX12_isDrum_12 : decode cX12_isDrum 12 = .ok (.iconst 1, 1) := by decide +kernel
theorem dX12_isDrum_13 : decode cX12_isDrum 13 = .ok (.goto 4, 3) := by decide +kernel
theorem dX12_isDrum_16 : decode cX12_isDrum 16 = .ok (.iconst 0, 1) := by decide +kernel
theorem dX12_isDrum_17 : decode cX12_isDrum 17 = .ok (.ireturn, 1) := by decide +kernel
theorem dX12_latest_0 : decode cX12_latest 0 = .ok (.iconst (-1), 1) := by decide +kernel
theorem dX12_latest_1 : decode cX12_latest 1 = .ok (.istore_n 3, 1) := by decide +kernel
theorem dX12_latest_2 : decode cX12_latest 2 = .ok (.iconst 0, 1) := by decide +kernel
theorem dX12_latest_3 : decode cX12_latest 3 = .ok (.istore 4, 2) := by decide +kernel
theorem dX12_latest_5 : decode cX12_latest 5 = .ok (.iload 4, 2) := by decide +kernel
theorem dX12_latest_7 : decode cX12_latest 7 = .ok (.aload_n 0, 1) := by decide +kernel
theorem dX12_latest_8 : decode cX12_latest 8 = .ok (.getfield 410, 3) := by decide +kernel
theorem dX12_latest_11 : decode cX12_latest 11 = .ok (.if_icmp .ge 34, 3) := by decide +kernel
theorem dX12_latest_14 : decode cX12_latest 14 = .ok (.aload_n 0, 1) := by decide +kernel
theorem dX12_latest_15 : decode cX12_latest 15 = .ok (.getfield 129, 3) := by decide +kernel
theorem dX12_latest_18 : decode cX12_latest 18 = .ok (.iload 4, 2) := by decide +kernel
theorem dX12_latest_20 : decode cX12_latest 20 = .ok (.iaload, 1) := by decide +kernel
theorem dX12_latest_21 : decode cX12_latest 21 = .ok (.iload_n 1, 1) := by decide +kernel
theorem dX12_latest_22 : decode cX12_latest 22 = .ok (.if_icmp .ne 17, 3) := by decide +kernel
theorem dX12_latest_25 : decode cX12_latest 25 = .ok (.aload_n 0, 1) := by decide +kernel
theorem dX12_latest_26 : decode cX12_latest 26 = .ok (.getfield 135, 3) := by decide +kernel
theorem dX12_latest_29 : decode cX12_latest 29 = .ok (.iload 4, 2) := by decide +kernel
theorem dX12_latest_31 : decode cX12_latest 31 = .ok (.iaload, 1) := by decide +kernel
theorem dX12_latest_32 : decode cX12_latest 32 = .ok (.iload_n 2, 1) := by decide +kernel
theorem dX12_latest_33 : decode cX12_latest 33 = .ok (.if_icmp .gt 6, 3) := by decide +kernel
theorem dX12_latest_36 : decode cX12_latest 36 = .ok (.iload 4, 2) := by decide +kernel
theorem dX12_latest_38 : decode cX12_latest 38 = .ok (.istore_n 3, 1) := by decide +kernel
theorem dX12_latest_39 : decode cX12_latest 39 = .ok (.iinc 4 1, 3) := by decide +kernel
theorem dX12_latest_42 : decode cX12_latest 42 = .ok (.goto (-37), 3) := by decide +kernel
theorem dX12_latest_45 : decode cX12_latest 45 = .ok (.iload_n 3, 1) := by decide +kernel
theorem dX12_latest_46 : decode cX12_latest 46 = .ok (.ireturn, 1) := by decide +kernel
theorem dX12_moves_0 : decode cX12_moves 0 = .ok (.aload_n 0, 1) := by decide +kernel
theorem dX12_moves_1 : decode cX12_moves 1 = .ok (.iload_n 1, 1) := by decide +kernel
theorem dX12_moves_2 : decode cX12_moves 2 = .ok (.invokevirtual 413, 3) := by decide +kernel
theorem dX12_moves_5 : decode cX12_moves 5 = .ok (.ifCond .eq 37, 3) := by decide +kernel
theorem dX12_moves_8 : decode cX12_moves 8 = .ok (.iload_n 2, 1) := by decide +kernel
theorem dX12_moves_9 : decode cX12_moves 9 = .ok (.iconst (-1), 1) := by decide +kernel
theorem dX12_moves_10 : decode cX12_moves 10 = .ok (.if_icmp .eq 11, 3) := by decide +kernel
theorem dX12_moves_13 : decode cX12_moves 13 = .ok (.aload_n 0, 1) := by decide +kernel
theorem dX12_moves_14 : decode cX12_moves 14 = .ok (.iload_n 2, 1) := by decide +kernel
theorem dX12_moves_15 : decode cX12_moves 15 = .ok (.invokevirtual 218, 3) := by decide +kernel
theorem dX12_moves_18 : decode cX12_moves 18 = .ok (.ifCond .eq 24, 3) := by decide +kernel
theorem dX12_moves_21 : decode cX12_moves 21 = .ok (.iload_n 3, 1) := by decide +kernel
theorem dX12_moves_22 : decode cX12_moves 22 = .ok (.iconst 0, 1) := by decide +kernel
theorem dX12_moves_23 : decode cX12_moves 23 = .ok (.aload_n 0, 1) := by decide +kernel
theorem dX12_moves_24 : decode cX12_moves 24 = .ok (.getfield 211, 3) := by decide +kernel
theorem dX12_moves_27 : decode cX12_moves 27 = .ok (.invokestatic 214, 3) := by decide +kernel
theorem dX12_moves_30 : decode cX12_moves 30 = .ok (.ifCond .eq 12, 3) := by decide +kernel
theorem dX12_moves_33 : decode cX12_moves 33 = .ok (.aload_n 0, 1) := by decide +kernel
theorem dX12_moves_34 : decode cX12_moves 34 = .ok (.getfield 410, 3) := by decide +kernel
theorem dX12_moves_37 : decode cX12_moves 37 = .ok (.bipush 60, 2) := by decide +kernel
theorem dX12_moves_39 : decode cX12_moves 39 = .ok (.if_icmp .ne 5, 3) := by decide +kernel
theorem dX12_moves_42 : decode cX12_moves 42 = .ok (.iconst 0, 1) := by decide +kernel
theorem dX12_moves_43 : decode cX12_moves 43 = .ok (.ireturn, 1) := by decide +kernel
theorem dX12_moves_44 : decode cX12_moves 44 = .ok (.aload_n 0, 1) := by decide +kernel
theorem dX12_moves_45 : decode cX12_moves 45 = .ok (.iload_n 1, 1) := by decide +kernel
theorem dX12_moves_46 : decode cX12_moves 46 = .ok (.sipush 399, 3) := by decide +kernel
theorem dX12_moves_49 : decode cX12_moves 49 = .ok (.invokevirtual 416, 3) := by decide +kernel
theorem dX12_moves_52 : decode cX12_moves 52 = .ok (.istore 4, 2) := by decide +kernel
theorem dX12_moves_54 : decode cX12_moves 54 = .ok (.iload 4, 2) := by decide +kernel
theorem dX12_moves_56 : decode cX12_moves 56 = .ok (.iconst (-1), 1) := by decide +kernel
theorem dX12_moves_57 : decode cX12_moves 57 = .ok (.if_icmp .eq 16, 3) := by decide +kernel
theorem dX12_moves_60 : decode cX12_moves 60 = .ok (.aload_n 0, 1) := by decide +kernel
theorem dX12_moves_61 : decode cX12_moves 61 = .ok (.getfield 135, 3) := by decide +kernel
theorem dX12_moves_64 : decode cX12_moves 64 = .ok (.iload 4, 2) := by decide +kernel
theorem dX12_moves_66 : decode cX12_moves 66 = .ok (.iaload, 1) := by decide +kernel
theorem dX12_moves_67 : decode cX12_moves 67 = .ok (.iload_n 3, 1) := by decide +kernel
theorem dX12_moves_68 : decode cX12_moves 68 = .ok (.if_icmp .le 5, 3) := by decide +kernel
theorem dX12_moves_71 : decode cX12_moves 71 = .ok (.iconst 0, 1) := by decide +kernel
theorem dX12_moves_72 : decode cX12_moves 72 = .ok (.ireturn, 1) := by decide +kernel
theorem dX12_moves_73 : decode cX12_moves 73 = .ok (.aload_n 0, 1) := by decide +kernel
theorem dX12_moves_74 : decode cX12_moves 74 = .ok (.getfield 129, 3) := by decide +kernel
theorem dX12_moves_77 : decode cX12_moves 77 = .ok (.aload_n 0, 1) := by decide +kernel
theorem dX12_moves_78 : decode cX12_moves 78 = .ok (.getfield 410, 3) := by decide +kernel
theorem dX12_moves_81 : decode cX12_moves 81 = .ok (.iload_n 1, 1) := by decide +kernel
theorem dX12_moves_82 : decode cX12_moves 82 = .ok (.iastore, 1) := by decide +kernel
theorem dX12_moves_83 : decode cX12_moves 83 = .ok (.aload_n 0, 1) := by decide +kernel
theorem dX12_moves_84 : decode cX12_moves 84 = .ok (.getfield 132, 3) := by decide +kernel
theorem dX12_moves_87 : decode cX12_moves 87 = .ok (.aload_n 0, 1) := by decide +kernel
theorem dX12_moves_88 : decode cX12_moves 88 = .ok (.getfield 410, 3) := by decide +kernel
theorem dX12_moves_91 : decode cX12_moves 91 = .ok (.iload_n 2, 1) := by decide +kernel
theorem dX12_moves_92 : decode cX12_moves 92 = .ok (.iastore, 1) := by decide +kernel
theorem dX12_moves_93 : decode cX12_moves 93 = .ok (.aload_n 0, 1) := by decide +kernel
theorem dX12_moves_94 : decode cX12_moves 94 = .ok (.getfield 135, 3) := by decide +kernel
theorem dX12_moves_97 : decode cX12_moves 97 = .ok (.aload_n 0, 1) := by decide +kernel
theorem dX12_moves_98 : decode cX12_moves 98 = .ok (.getfield 410, 3) := by decide +kernel
theorem dX12_moves_101 : decode cX12_moves 101 = .ok (.iload_n 3, 1) := by decide +kernel
theorem dX12_moves_102 : decode cX12_moves 102 = .ok (.iastore, 1) := by decide +kernel
theorem dX12_moves_103 : decode cX12_moves 103 = .ok (.aload_n 0, 1) := by decide +kernel
theorem dX12_moves_104 : decode cX12_moves 104 = .ok (.aload_n 0, 1) := by decide +kernel
theorem dX12_moves_105 : decode cX12_moves 105 = .ok (.getfield 410, 3) := by decide +kernel
theorem dX12_moves_108 : decode cX12_moves 108 = .ok (.iconst 1, 1) := by decide +kernel
theorem dX12_moves_109 : decode cX12_moves 109 = .ok (.iadd, 1) := by decide +kernel
theorem dX12_moves_110 : decode cX12_moves 110 = .ok (.putfield 410, 3) := by decide +kernel
theorem dX12_moves_113 : decode cX12_moves 113 = .ok (.iconst 1, 1) := by decide +kernel
theorem dX12_moves_114 : decode cX12_moves 114 = .ok (.ireturn, 1) := by decide +kernel
theorem dX12_stood_0 : decode cX12_stood 0 = .ok (.aload_n 0, 1) := by decide +kernel
theorem dX12_stood_1 : decode cX12_stood 1 = .ok (.iload_n 1, 1) := by decide +kernel
theorem dX12_stood_2 : decode cX12_stood 2 = .ok (.invokevirtual 413, 3) := by decide +kernel
theorem dX12_stood_5 : decode cX12_stood 5 = .ok (.ifCond .eq 10, 3) := by decide +kernel
theorem dX12_stood_8 : decode cX12_stood 8 = .ok (.iload_n 2, 1) := by decide +kernel
theorem dX12_stood_9 : decode cX12_stood 9 = .ok (.invokestatic 341, 3) := by decide +kernel
theorem dX12_stood_12 : decode cX12_stood 12 = .ok (.ifCond .ne 5, 3) := by decide +kernel
theorem dX12_stood_15 : decode cX12_stood 15 = .ok (.iconst (-1), 1) := by decide +kernel
theorem dX12_stood_16 : decode cX12_stood 16 = .ok (.ireturn, 1) := by decide +kernel
theorem dX12_stood_17 : decode cX12_stood 17 = .ok (.aload_n 0, 1) := by decide +kernel
theorem dX12_stood_18 : decode cX12_stood 18 = .ok (.iload_n 1, 1) := by decide +kernel
theorem dX12_stood_19 : decode cX12_stood 19 = .ok (.iload_n 2, 1) := by decide +kernel
theorem dX12_stood_20 : decode cX12_stood 20 = .ok (.invokevirtual 416, 3) := by decide +kernel
theorem dX12_stood_23 : decode cX12_stood 23 = .ok (.istore_n 3, 1) := by decide +kernel
theorem dX12_stood_24 : decode cX12_stood 24 = .ok (.iload_n 3, 1) := by decide +kernel
theorem dX12_stood_25 : decode cX12_stood 25 = .ok (.iconst (-1), 1) := by decide +kernel
theorem dX12_stood_26 : decode cX12_stood 26 = .ok (.if_icmp .eq 13, 3) := by decide +kernel
theorem dX12_stood_29 : decode cX12_stood 29 = .ok (.aload_n 0, 1) := by decide +kernel
theorem dX12_stood_30 : decode cX12_stood 30 = .ok (.getfield 132, 3) := by decide +kernel
theorem dX12_stood_33 : decode cX12_stood 33 = .ok (.iload_n 3, 1) := by decide +kernel
theorem dX12_stood_34 : decode cX12_stood 34 = .ok (.iaload, 1) := by decide +kernel
theorem dX12_stood_35 : decode cX12_stood 35 = .ok (.iconst (-1), 1) := by decide +kernel
theorem dX12_stood_36 : decode cX12_stood 36 = .ok (.if_icmp .ne 8, 3) := by decide +kernel
theorem dX12_stood_39 : decode cX12_stood 39 = .ok (.bipush (-2), 2) := by decide +kernel
theorem dX12_stood_41 : decode cX12_stood 41 = .ok (.goto 9, 3) := by decide +kernel
theorem dX12_stood_44 : decode cX12_stood 44 = .ok (.aload_n 0, 1) := by decide +kernel
theorem dX12_stood_45 : decode cX12_stood 45 = .ok (.getfield 132, 3) := by decide +kernel
theorem dX12_stood_48 : decode cX12_stood 48 = .ok (.iload_n 3, 1) := by decide +kernel
theorem dX12_stood_49 : decode cX12_stood 49 = .ok (.iaload, 1) := by decide +kernel
theorem dX12_stood_50 : decode cX12_stood 50 = .ok (.ireturn, 1) := by decide +kernel
theorem dX12_stale_0 : decode cX12_stale 0 = .ok (.iload_n 1, 1) := by decide +kernel
theorem dX12_stale_1 : decode cX12_stale 1 = .ok (.invokestatic 341, 3) := by decide +kernel
theorem dX12_stale_4 : decode cX12_stale 4 = .ok (.ifCond .ne 5, 3) := by decide +kernel
theorem dX12_stale_7 : decode cX12_stale 7 = .ok (.iconst (-1), 1) := by decide +kernel
theorem dX12_stale_8 : decode cX12_stale 8 = .ok (.ireturn, 1) := by decide +kernel
theorem dX12_stale_9 : decode cX12_stale 9 = .ok (.iconst 0, 1) := by decide +kernel
theorem dX12_stale_10 : decode cX12_stale 10 = .ok (.istore_n 2, 1) := by decide +kernel
theorem dX12_stale_11 : decode cX12_stale 11 = .ok (.iconst 0, 1) := by decide +kernel
theorem dX12_stale_12 : decode cX12_stale 12 = .ok (.istore_n 3, 1) := by decide +kernel
theorem dX12_stale_13 : decode cX12_stale 13 = .ok (.iload_n 3, 1) := by decide +kernel
theorem dX12_stale_14 : decode cX12_stale 14 = .ok (.aload_n 0, 1) := by decide +kernel
theorem dX12_stale_15 : decode cX12_stale 15 = .ok (.getfield 407, 3) := by decide +kernel
theorem dX12_stale_18 : decode cX12_stale 18 = .ok (.if_icmp .ge 59, 3) := by decide +kernel
theorem dX12_stale_21 : decode cX12_stale 21 = .ok (.aload_n 0, 1) := by decide +kernel
theorem dX12_stale_22 : decode cX12_stale 22 = .ok (.iload_n 3, 1) := by decide +kernel
theorem dX12_stale_23 : decode cX12_stale 23 = .ok (.aload_n 0, 1) := by decide +kernel
theorem dX12_stale_24 : decode cX12_stale 24 = .ok (.getfield 211, 3) := by decide +kernel
theorem dX12_stale_27 : decode cX12_stale 27 = .ok (.invokevirtual 416, 3) := by decide +kernel
theorem dX12_stale_30 : decode cX12_stale 30 = .ok (.istore 4, 2) := by decide +kernel
theorem dX12_stale_32 : decode cX12_stale 32 = .ok (.iload 4, 2) := by decide +kernel
theorem dX12_stale_34 : decode cX12_stale 34 = .ok (.iconst (-1), 1) := by decide +kernel
theorem dX12_stale_35 : decode cX12_stale 35 = .ok (.if_icmp .eq 36, 3) := by decide +kernel
theorem dX12_stale_38 : decode cX12_stale 38 = .ok (.aload_n 0, 1) := by decide +kernel
theorem dX12_stale_39 : decode cX12_stale 39 = .ok (.getfield 132, 3) := by decide +kernel
theorem dX12_stale_42 : decode cX12_stale 42 = .ok (.iload 4, 2) := by decide +kernel
theorem dX12_stale_44 : decode cX12_stale 44 = .ok (.iaload, 1) := by decide +kernel
theorem dX12_stale_45 : decode cX12_stale 45 = .ok (.iconst (-1), 1) := by decide +kernel
theorem dX12_stale_46 : decode cX12_stale 46 = .ok (.if_icmp .eq 25, 3) := by decide +kernel
theorem dX12_stale_49 : decode cX12_stale 49 = .ok (.aload_n 0, 1) := by decide +kernel
theorem dX12_stale_50 : decode cX12_stale 50 = .ok (.getfield 211, 3) := by decide +kernel
theorem dX12_stale_53 : decode cX12_stale 53 = .ok (.aload_n 0, 1) := by decide +kernel
theorem dX12_stale_54 : decode cX12_stale 54 = .ok (.getfield 135, 3) := by decide +kernel
theorem dX12_stale_57 : decode cX12_stale 57 = .ok (.iload 4, 2) := by decide +kernel
theorem dX12_stale_59 : decode cX12_stale 59 = .ok (.iaload, 1) := by decide +kernel
theorem dX12_stale_60 : decode cX12_stale 60 = .ok (.isub, 1) := by decide +kernel
theorem dX12_stale_61 : decode cX12_stale 61 = .ok (.iload_n 1, 1) := by decide +kernel
theorem dX12_stale_62 : decode cX12_stale 62 = .ok (.if_icmp .lt 9, 3) := by decide +kernel
theorem dX12_stale_65 : decode cX12_stale 65 = .ok (.iload_n 2, 1) := by decide +kernel
theorem dX12_stale_66 : decode cX12_stale 66 = .ok (.iconst 1, 1) := by decide +kernel
theorem dX12_stale_67 : decode cX12_stale 67 = .ok (.iload_n 3, 1) := by decide +kernel
theorem dX12_stale_68 : decode cX12_stale 68 = .ok (.ishl, 1) := by decide +kernel
theorem dX12_stale_69 : decode cX12_stale 69 = .ok (.ior, 1) := by decide +kernel
theorem dX12_stale_70 : decode cX12_stale 70 = .ok (.istore_n 2, 1) := by decide +kernel
theorem dX12_stale_71 : decode cX12_stale 71 = .ok (.iinc 3 1, 3) := by decide +kernel
theorem dX12_stale_74 : decode cX12_stale 74 = .ok (.goto (-61), 3) := by decide +kernel
theorem dX12_stale_77 : decode cX12_stale 77 = .ok (.iload_n 2, 1) := by decide +kernel
theorem dX12_stale_78 : decode cX12_stale 78 = .ok (.ireturn, 1) := by decide +kernel
theorem dX12_driven_0 : decode cX12_driven 0 = .ok (.iload_n 1, 1) := by decide +kernel
theorem dX12_driven_1 : decode cX12_driven 1 = .ok (.iconst 0, 1) := by decide +kernel
theorem dX12_driven_2 : decode cX12_driven 2 = .ok (.bipush 20, 2) := by decide +kernel
theorem dX12_driven_4 : decode cX12_driven 4 = .ok (.invokestatic 214, 3) := by decide +kernel
theorem dX12_driven_7 : decode cX12_driven 7 = .ok (.ifCond .eq 11, 3) := by decide +kernel
theorem dX12_driven_10 : decode cX12_driven 10 = .ok (.iload_n 1, 1) := by decide +kernel
theorem dX12_driven_11 : decode cX12_driven 11 = .ok (.aload_n 0, 1) := by decide +kernel
theorem dX12_driven_12 : decode cX12_driven 12 = .ok (.getfield 226, 3) := by decide +kernel
theorem dX12_driven_15 : decode cX12_driven 15 = .ok (.if_icmp .le 5, 3) := by decide +kernel
theorem dX12_driven_18 : decode cX12_driven 18 = .ok (.iconst (-1), 1) := by decide +kernel
theorem dX12_driven_19 : decode cX12_driven 19 = .ok (.ireturn, 1) := by decide +kernel
theorem dX12_driven_20 : decode cX12_driven 20 = .ok (.aload_n 0, 1) := by decide +kernel
theorem dX12_driven_21 : decode cX12_driven 21 = .ok (.iconst 0, 1) := by decide +kernel
theorem dX12_driven_22 : decode cX12_driven 22 = .ok (.putfield 226, 3) := by decide +kernel
theorem dX12_driven_25 : decode cX12_driven 25 = .ok (.iconst 0, 1) := by decide +kernel
theorem dX12_driven_26 : decode cX12_driven 26 = .ok (.istore_n 2, 1) := by decide +kernel
theorem dX12_driven_27 : decode cX12_driven 27 = .ok (.iconst 0, 1) := by decide +kernel
theorem dX12_driven_28 : decode cX12_driven 28 = .ok (.istore_n 3, 1) := by decide +kernel
theorem dX12_driven_29 : decode cX12_driven 29 = .ok (.iconst 0, 1) := by decide +kernel
theorem dX12_driven_30 : decode cX12_driven 30 = .ok (.istore 4, 2) := by decide +kernel
theorem dX12_driven_32 : decode cX12_driven 32 = .ok (.iconst 0, 1) := by decide +kernel
theorem dX12_driven_33 : decode cX12_driven 33 = .ok (.istore 5, 2) := by decide +kernel
theorem dX12_driven_35 : decode cX12_driven 35 = .ok (.iload 5, 2) := by decide +kernel
theorem dX12_driven_37 : decode cX12_driven 37 = .ok (.iload_n 1, 1) := by decide +kernel
theorem dX12_driven_38 : decode cX12_driven 38 = .ok (.if_icmp .ge 73, 3) := by decide +kernel
theorem dX12_driven_41 : decode cX12_driven 41 = .ok (.aload_n 0, 1) := by decide +kernel
theorem dX12_driven_42 : decode cX12_driven 42 = .ok (.getfield 52, 3) := by decide +kernel
theorem dX12_driven_45 : decode cX12_driven 45 = .ok (.iload 5, 2) := by decide +kernel
theorem dX12_driven_47 : decode cX12_driven 47 = .ok (.baload, 1) := by decide +kernel
theorem dX12_driven_48 : decode cX12_driven 48 = .ok (.sipush 255, 3) := by decide +kernel
theorem dX12_driven_51 : decode cX12_driven 51 = .ok (.iand, 1) := by decide +kernel
theorem dX12_driven_52 : decode cX12_driven 52 = .ok (.istore 6, 2) := by decide +kernel
theorem dX12_driven_54 : decode cX12_driven 54 = .ok (.aload_n 0, 1) := by decide +kernel
theorem dX12_driven_55 : decode cX12_driven 55 = .ok (.iload 6, 2) := by decide +kernel
theorem dX12_driven_57 : decode cX12_driven 57 = .ok (.invokevirtual 218, 3) := by decide +kernel
theorem dX12_driven_60 : decode cX12_driven 60 = .ok (.ifCond .ne 5, 3) := by decide +kernel
theorem dX12_driven_63 : decode cX12_driven 63 = .ok (.iconst (-1), 1) := by decide +kernel
theorem dX12_driven_64 : decode cX12_driven 64 = .ok (.ireturn, 1) := by decide +kernel
theorem dX12_driven_65 : decode cX12_driven 65 = .ok (.iload_n 2, 1) := by decide +kernel
theorem dX12_driven_66 : decode cX12_driven 66 = .ok (.iload_n 3, 1) := by decide +kernel
theorem dX12_driven_67 : decode cX12_driven 67 = .ok (.iload 4, 2) := by decide +kernel
theorem dX12_driven_69 : decode cX12_driven 69 = .ok (.aload_n 0, 1) := by decide +kernel
theorem dX12_driven_70 : decode cX12_driven 70 = .ok (.getfield 7, 3) := by decide +kernel
theorem dX12_driven_73 : decode cX12_driven 73 = .ok (.iload 6, 2) := by decide +kernel
theorem dX12_driven_75 : decode cX12_driven 75 = .ok (.iaload, 1) := by decide +kernel
theorem dX12_driven_76 : decode cX12_driven 76 = .ok (.aload_n 0, 1) := by decide +kernel
theorem dX12_driven_77 : decode cX12_driven 77 = .ok (.getfield 13, 3) := by decide +kernel
theorem dX12_driven_80 : decode cX12_driven 80 = .ok (.iload 6, 2) := by decide +kernel
theorem dX12_driven_82 : decode cX12_driven 82 = .ok (.iaload, 1) := by decide +kernel
theorem dX12_driven_83 : decode cX12_driven 83 = .ok (.invokestatic 360, 3) := by decide +kernel
theorem dX12_driven_86 : decode cX12_driven 86 = .ok (.iadd, 1) := by decide +kernel
theorem dX12_driven_87 : decode cX12_driven 87 = .ok (.istore_n 2, 1) := by decide +kernel
theorem dX12_driven_88 : decode cX12_driven 88 = .ok (.aload_n 0, 1) := by decide +kernel
theorem dX12_driven_89 : decode cX12_driven 89 = .ok (.getfield 7, 3) := by decide +kernel
theorem dX12_driven_92 : decode cX12_driven 92 = .ok (.iload 6, 2) := by decide +kernel
theorem dX12_driven_94 : decode cX12_driven 94 = .ok (.iaload, 1) := by decide +kernel
theorem dX12_driven_95 : decode cX12_driven 95 = .ok (.istore_n 3, 1) := by decide +kernel
theorem dX12_driven_96 : decode cX12_driven 96 = .ok (.aload_n 0, 1) := by decide +kernel
theorem dX12_driven_97 : decode cX12_driven 97 = .ok (.getfield 13, 3) := by decide +kernel
theorem dX12_driven_100 : decode cX12_driven 100 = .ok (.iload 6, 2) := by decide +kernel
theorem dX12_driven_102 : decode cX12_driven 102 = .ok (.iaload, 1) := by decide +kernel
theorem dX12_driven_103 : decode cX12_driven 103 = .ok (.istore 4, 2) := by decide +kernel
theorem dX12_driven_105 : decode cX12_driven 105 = .ok (.iinc 5 1, 3) := by decide +kernel
theorem dX12_driven_108 : decode cX12_driven 108 = .ok (.goto (-73), 3) := by decide +kernel
theorem dX12_driven_111 : decode cX12_driven 111 = .ok (.iload_n 2, 1) := by decide +kernel
theorem dX12_driven_112 : decode cX12_driven 112 = .ok (.iload_n 3, 1) := by decide +kernel
theorem dX12_driven_113 : decode cX12_driven 113 = .ok (.iadd, 1) := by decide +kernel
theorem dX12_driven_114 : decode cX12_driven 114 = .ok (.iload 4, 2) := by decide +kernel
theorem dX12_driven_116 : decode cX12_driven 116 = .ok (.iadd, 1) := by decide +kernel
theorem dX12_driven_117 : decode cX12_driven 117 = .ok (.ireturn, 1) := by decide +kernel
theorem dX12_mixes_0 : decode cX12_mixes 0 = .ok (.iconst 0, 1) := by decide +kernel
theorem dX12_mixes_1 : decode cX12_mixes 1 = .ok (.istore_n 2, 1) := by decide +kernel
theorem dX12_mixes_2 : decode cX12_mixes 2 = .ok (.iconst 0, 1) := by decide +kernel
theorem dX12_mixes_3 : decode cX12_mixes 3 = .ok (.istore_n 3, 1) := by decide +kernel
theorem dX12_mixes_4 : decode cX12_mixes 4 = .ok (.aload_n 0, 1) := by decide +kernel
theorem dX12_mixes_5 : decode cX12_mixes 5 = .ok (.iconst 0, 1) := by decide +kernel
theorem dX12_mixes_6 : decode cX12_mixes 6 = .ok (.putfield 419, 3) := by decide +kernel
theorem dX12_mixes_9 : decode cX12_mixes 9 = .ok (.iconst 0, 1) := by decide +kernel
theorem dX12_mixes_10 : decode cX12_mixes 10 = .ok (.istore 4, 2) := by decide +kernel
theorem dX12_mixes_12 : decode cX12_mixes 12 = .ok (.iload 4, 2) := by decide +kernel
theorem dX12_mixes_14 : decode cX12_mixes 14 = .ok (.bipush 20, 2) := by decide +kernel
theorem dX12_mixes_16 : decode cX12_mixes 16 = .ok (.if_icmp .ge 73, 3) := by decide +kernel
theorem dX12_mixes_19 : decode cX12_mixes 19 = .ok (.iload_n 1, 1) := by decide +kernel
theorem dX12_mixes_20 : decode cX12_mixes 20 = .ok (.iload 4, 2) := by decide +kernel
theorem dX12_mixes_22 : decode cX12_mixes 22 = .ok (.ishr, 1) := by decide +kernel
theorem dX12_mixes_23 : decode cX12_mixes 23 = .ok (.iconst 1, 1) := by decide +kernel
theorem dX12_mixes_24 : decode cX12_mixes 24 = .ok (.iand, 1) := by decide +kernel
theorem dX12_mixes_25 : decode cX12_mixes 25 = .ok (.ifCond .ne 6, 3) := by decide +kernel
theorem dX12_mixes_28 : decode cX12_mixes 28 = .ok (.goto 55, 3) := by decide +kernel
theorem dX12_mixes_31 : decode cX12_mixes 31 = .ok (.aload_n 0, 1) := by decide +kernel
theorem dX12_mixes_32 : decode cX12_mixes 32 = .ok (.aload_n 0, 1) := by decide +kernel
theorem dX12_mixes_33 : decode cX12_mixes 33 = .ok (.getfield 419, 3) := by decide +kernel
theorem dX12_mixes_36 : decode cX12_mixes 36 = .ok (.aload_n 0, 1) := by decide +kernel
theorem dX12_mixes_37 : decode cX12_mixes 37 = .ok (.getfield 31, 3) := by decide +kernel
theorem dX12_mixes_40 : decode cX12_mixes 40 = .ok (.iload 4, 2) := by decide +kernel
theorem dX12_mixes_42 : decode cX12_mixes 42 = .ok (.iaload, 1) := by decide +kernel
theorem dX12_mixes_43 : decode cX12_mixes 43 = .ok (.iadd, 1) := by decide +kernel
theorem dX12_mixes_44 : decode cX12_mixes 44 = .ok (.putfield 419, 3) := by decide +kernel
theorem dX12_mixes_47 : decode cX12_mixes 47 = .ok (.iload_n 2, 1) := by decide +kernel
theorem dX12_mixes_48 : decode cX12_mixes 48 = .ok (.aload_n 0, 1) := by decide +kernel
theorem dX12_mixes_49 : decode cX12_mixes 49 = .ok (.getfield 31, 3) := by decide +kernel
theorem dX12_mixes_52 : decode cX12_mixes 52 = .ok (.iload 4, 2) := by decide +kernel
theorem dX12_mixes_54 : decode cX12_mixes 54 = .ok (.iaload, 1) := by decide +kernel
theorem dX12_mixes_55 : decode cX12_mixes 55 = .ok (.aload_n 0, 1) := by decide +kernel
theorem dX12_mixes_56 : decode cX12_mixes 56 = .ok (.getfield 34, 3) := by decide +kernel
theorem dX12_mixes_59 : decode cX12_mixes 59 = .ok (.iload 4, 2) := by decide +kernel
theorem dX12_mixes_61 : decode cX12_mixes 61 = .ok (.iaload, 1) := by decide +kernel
theorem dX12_mixes_62 : decode cX12_mixes 62 = .ok (.imul, 1) := by decide +kernel
theorem dX12_mixes_63 : decode cX12_mixes 63 = .ok (.iadd, 1) := by decide +kernel
theorem dX12_mixes_64 : decode cX12_mixes 64 = .ok (.istore_n 2, 1) := by decide +kernel
theorem dX12_mixes_65 : decode cX12_mixes 65 = .ok (.iload_n 3, 1) := by decide +kernel
theorem dX12_mixes_66 : decode cX12_mixes 66 = .ok (.aload_n 0, 1) := by decide +kernel
theorem dX12_mixes_67 : decode cX12_mixes 67 = .ok (.getfield 31, 3) := by decide +kernel
theorem dX12_mixes_70 : decode cX12_mixes 70 = .ok (.iload 4, 2) := by decide +kernel
theorem dX12_mixes_72 : decode cX12_mixes 72 = .ok (.iaload, 1) := by decide +kernel
theorem dX12_mixes_73 : decode cX12_mixes 73 = .ok (.aload_n 0, 1) := by decide +kernel
theorem dX12_mixes_74 : decode cX12_mixes 74 = .ok (.getfield 37, 3) := by decide +kernel
theorem dX12_mixes_77 : decode cX12_mixes 77 = .ok (.iload 4, 2) := by decide +kernel
theorem dX12_mixes_79 : decode cX12_mixes 79 = .ok (.iaload, 1) := by decide +kernel
theorem dX12_mixes_80 : decode cX12_mixes 80 = .ok (.imul, 1) := by decide +kernel
theorem dX12_mixes_81 : decode cX12_mixes 81 = .ok (.iadd, 1) := by decide +kernel
theorem dX12_mixes_82 : decode cX12_mixes 82 = .ok (.istore_n 3, 1) := by decide +kernel
theorem dX12_mixes_83 : decode cX12_mixes 83 = .ok (.iinc 4 1, 3) := by decide +kernel
theorem dX12_mixes_86 : decode cX12_mixes 86 = .ok (.goto (-74), 3) := by decide +kernel
theorem dX12_mixes_89 : decode cX12_mixes 89 = .ok (.aload_n 0, 1) := by decide +kernel
theorem dX12_mixes_90 : decode cX12_mixes 90 = .ok (.aload_n 0, 1) := by decide +kernel
theorem dX12_mixes_91 : decode cX12_mixes 91 = .ok (.getfield 419, 3) := by decide +kernel
theorem dX12_mixes_94 : decode cX12_mixes 94 = .ok (.ifCond .ne 7, 3) := by decide +kernel
theorem dX12_mixes_97 : decode cX12_mixes 97 = .ok (.iconst 0, 1) := by decide +kernel
theorem dX12_mixes_98 : decode cX12_mixes 98 = .ok (.goto 9, 3) := by decide +kernel
theorem dX12_mixes_101 : decode cX12_mixes 101 = .ok (.iload_n 2, 1) := by decide +kernel
theorem dX12_mixes_102 : decode cX12_mixes 102 = .ok (.aload_n 0, 1) := by decide +kernel
theorem dX12_mixes_103 : decode cX12_mixes 103 = .ok (.getfield 419, 3) := by decide +kernel
theorem dX12_mixes_106 : decode cX12_mixes 106 = .ok (.idiv, 1) := by decide +kernel
theorem dX12_mixes_107 : decode cX12_mixes 107 = .ok (.putfield 422, 3) := by decide +kernel
theorem dX12_mixes_110 : decode cX12_mixes 110 = .ok (.aload_n 0, 1) := by decide +kernel
theorem dX12_mixes_111 : decode cX12_mixes 111 = .ok (.aload_n 0, 1) := by decide +kernel
theorem dX12_mixes_112 : decode cX12_mixes 112 = .ok (.getfield 419, 3) := by decide +kernel
theorem dX12_mixes_115 : decode cX12_mixes 115 = .ok (.ifCond .ne 7, 3) := by decide +kernel
theorem dX12_mixes_118 : decode cX12_mixes 118 = .ok (.iconst 0, 1) := by decide +kernel
theorem dX12_mixes_119 : decode cX12_mixes 119 = .ok (.goto 9, 3) := by decide +kernel
theorem dX12_mixes_122 : decode cX12_mixes 122 = .ok (.iload_n 3, 1) := by decide +kernel
theorem dX12_mixes_123 : decode cX12_mixes 123 = .ok (.aload_n 0, 1) := by decide +kernel
theorem dX12_mixes_124 : decode cX12_mixes 124 = .ok (.getfield 419, 3) := by decide +kernel
theorem dX12_mixes_127 : decode cX12_mixes 127 = .ok (.idiv, 1) := by decide +kernel
theorem dX12_mixes_128 : decode cX12_mixes 128 = .ok (.putfield 425, 3) := by decide +kernel
theorem dX12_mixes_131 : decode cX12_mixes 131 = .ok (.return_, 1) := by decide +kernel
theorem dX12_bits_0 : decode cX12_bits 0 = .ok (.iconst 0, 1) := by decide +kernel
theorem dX12_bits_1 : decode cX12_bits 1 = .ok (.istore_n 1, 1) := by decide +kernel
theorem dX12_bits_2 : decode cX12_bits 2 = .ok (.iconst 0, 1) := by decide +kernel
theorem dX12_bits_3 : decode cX12_bits 3 = .ok (.istore_n 2, 1) := by decide +kernel
theorem dX12_bits_4 : decode cX12_bits 4 = .ok (.iload_n 2, 1) := by decide +kernel
theorem dX12_bits_5 : decode cX12_bits 5 = .ok (.bipush 20, 2) := by decide +kernel
theorem dX12_bits_7 : decode cX12_bits 7 = .ok (.if_icmp .ge 17, 3) := by decide +kernel
theorem dX12_bits_10 : decode cX12_bits 10 = .ok (.iload_n 1, 1) := by decide +kernel
theorem dX12_bits_11 : decode cX12_bits 11 = .ok (.iload_n 0, 1) := by decide +kernel
theorem dX12_bits_12 : decode cX12_bits 12 = .ok (.iload_n 2, 1) := by decide +kernel
theorem dX12_bits_13 : decode cX12_bits 13 = .ok (.ishr, 1) := by decide +kernel
theorem dX12_bits_14 : decode cX12_bits 14 = .ok (.iconst 1, 1) := by decide +kernel
theorem dX12_bits_15 : decode cX12_bits 15 = .ok (.iand, 1) := by decide +kernel
theorem dX12_bits_16 : decode cX12_bits 16 = .ok (.iadd, 1) := by decide +kernel
theorem dX12_bits_17 : decode cX12_bits 17 = .ok (.istore_n 1, 1) := by decide +kernel
theorem dX12_bits_18 : decode cX12_bits 18 = .ok (.iinc 2 1, 3) := by decide +kernel
theorem dX12_bits_21 : decode cX12_bits 21 = .ok (.goto (-17), 3) := by decide +kernel
theorem dX12_bits_24 : decode cX12_bits 24 = .ok (.iload_n 1, 1) := by decide +kernel
theorem dX12_bits_25 : decode cX12_bits 25 = .ok (.ireturn, 1) := by decide +kernel
theorem dX12_whyNot_0 : decode cX12_whyNot 0 = .ok (.aload_n 0, 1) := by decide +kernel
theorem dX12_whyNot_1 : decode cX12_whyNot 1 = .ok (.iload_n 1, 1) := by decide +kernel
theorem dX12_whyNot_2 : decode cX12_whyNot 2 = .ok (.invokevirtual 428, 3) := by decide +kernel
theorem dX12_whyNot_5 : decode cX12_whyNot 5 = .ok (.aload_n 0, 1) := by decide +kernel
theorem dX12_whyNot_6 : decode cX12_whyNot 6 = .ok (.getfield 89, 3) := by decide +kernel
theorem dX12_whyNot_9 : decode cX12_whyNot 9 = .ok (.iconst 0, 1) := by decide +kernel
theorem dX12_whyNot_10 : decode cX12_whyNot 10 = .ok (.aload_n 0, 1) := by decide +kernel
theorem dX12_whyNot_11 : decode cX12_whyNot 11 = .ok (.getfield 419, 3) := by decide +kernel
theorem dX12_whyNot_14 : decode cX12_whyNot 14 = .ok (.iastore, 1) := by decide +kernel
theorem dX12_whyNot_15 : decode cX12_whyNot 15 = .ok (.aload_n 0, 1) := by decide +kernel
theorem dX12_whyNot_16 : decode cX12_whyNot 16 = .ok (.getfield 89, 3) := by decide +kernel
theorem dX12_whyNot_19 : decode cX12_whyNot 19 = .ok (.iconst 1, 1) := by decide +kernel
theorem dX12_whyNot_20 : decode cX12_whyNot 20 = .ok (.aload_n 0, 1) := by decide +kernel
theorem dX12_whyNot_21 : decode cX12_whyNot 21 = .ok (.getfield 422, 3) := by decide +kernel
theorem dX12_whyNot_24 : decode cX12_whyNot 24 = .ok (.iastore, 1) := by decide +kernel
theorem dX12_whyNot_25 : decode cX12_whyNot 25 = .ok (.aload_n 0, 1) := by decide +kernel
theorem dX12_whyNot_26 : decode cX12_whyNot 26 = .ok (.getfield 89, 3) := by decide +kernel
theorem dX12_whyNot_29 : decode cX12_whyNot 29 = .ok (.iconst 2, 1) := by decide +kernel
theorem dX12_whyNot_30 : decode cX12_whyNot 30 = .ok (.aload_n 0, 1) := by decide +kernel
theorem dX12_whyNot_31 : decode cX12_whyNot 31 = .ok (.getfield 425, 3) := by decide +kernel
theorem dX12_whyNot_34 : decode cX12_whyNot 34 = .ok (.iastore, 1) := by decide +kernel
theorem dX12_whyNot_35 : decode cX12_whyNot 35 = .ok (.aload_n 0, 1) := by decide +kernel
theorem dX12_whyNot_36 : decode cX12_whyNot 36 = .ok (.getfield 89, 3) := by decide +kernel
theorem dX12_whyNot_39 : decode cX12_whyNot 39 = .ok (.iconst 3, 1) := by decide +kernel
theorem dX12_whyNot_40 : decode cX12_whyNot 40 = .ok (.aload_n 0, 1) := by decide +kernel
theorem dX12_whyNot_41 : decode cX12_whyNot 41 = .ok (.getfield 211, 3) := by decide +kernel
theorem dX12_whyNot_44 : decode cX12_whyNot 44 = .ok (.iastore, 1) := by decide +kernel
theorem dX12_whyNot_45 : decode cX12_whyNot 45 = .ok (.aload_n 0, 1) := by decide +kernel
theorem dX12_whyNot_46 : decode cX12_whyNot 46 = .ok (.getfield 89, 3) := by decide +kernel
theorem dX12_whyNot_49 : decode cX12_whyNot 49 = .ok (.iconst 4, 1) := by decide +kernel
theorem dX12_whyNot_50 : decode cX12_whyNot 50 = .ok (.aload_n 0, 1) := by decide +kernel
theorem dX12_whyNot_51 : decode cX12_whyNot 51 = .ok (.getfield 211, 3) := by decide +kernel
theorem dX12_whyNot_54 : decode cX12_whyNot 54 = .ok (.bipush 7, 2) := by decide +kernel
theorem dX12_whyNot_56 : decode cX12_whyNot 56 = .ok (.idiv, 1) := by decide +kernel
theorem dX12_whyNot_57 : decode cX12_whyNot 57 = .ok (.iastore, 1) := by decide +kernel
theorem dX12_whyNot_58 : decode cX12_whyNot 58 = .ok (.aload_n 0, 1) := by decide +kernel
theorem dX12_whyNot_59 : decode cX12_whyNot 59 = .ok (.getfield 89, 3) := by decide +kernel
theorem dX12_whyNot_62 : decode cX12_whyNot 62 = .ok (.iconst 5, 1) := by decide +kernel
theorem dX12_whyNot_63 : decode cX12_whyNot 63 = .ok (.aload_n 0, 1) := by decide +kernel
theorem dX12_whyNot_64 : decode cX12_whyNot 64 = .ok (.getfield 211, 3) := by decide +kernel
theorem dX12_whyNot_67 : decode cX12_whyNot 67 = .ok (.bipush 7, 2) := by decide +kernel
theorem dX12_whyNot_69 : decode cX12_whyNot 69 = .ok (.irem, 1) := by decide +kernel
theorem dX12_whyNot_70 : decode cX12_whyNot 70 = .ok (.iastore, 1) := by decide +kernel
theorem dX12_whyNot_71 : decode cX12_whyNot 71 = .ok (.aload_n 0, 1) := by decide +kernel
theorem dX12_whyNot_72 : decode cX12_whyNot 72 = .ok (.getfield 89, 3) := by decide +kernel
theorem dX12_whyNot_75 : decode cX12_whyNot 75 = .ok (.bipush 6, 2) := by decide +kernel
theorem dX12_whyNot_77 : decode cX12_whyNot 77 = .ok (.iconst 0, 1) := by decide +kernel
theorem dX12_whyNot_78 : decode cX12_whyNot 78 = .ok (.iastore, 1) := by decide +kernel
theorem dX12_whyNot_79 : decode cX12_whyNot 79 = .ok (.aload_n 0, 1) := by decide +kernel
theorem dX12_whyNot_80 : decode cX12_whyNot 80 = .ok (.getfield 89, 3) := by decide +kernel
theorem dX12_whyNot_83 : decode cX12_whyNot 83 = .ok (.bipush 7, 2) := by decide +kernel
theorem dX12_whyNot_85 : decode cX12_whyNot 85 = .ok (.iconst 0, 1) := by decide +kernel
theorem dX12_whyNot_86 : decode cX12_whyNot 86 = .ok (.iastore, 1) := by decide +kernel
theorem dX12_whyNot_87 : decode cX12_whyNot 87 = .ok (.aload_n 0, 1) := by decide +kernel
theorem dX12_whyNot_88 : decode cX12_whyNot 88 = .ok (.getfield 89, 3) := by decide +kernel
theorem dX12_whyNot_91 : decode cX12_whyNot 91 = .ok (.bipush 8, 2) := by decide +kernel
theorem dX12_whyNot_93 : decode cX12_whyNot 93 = .ok (.iconst 0, 1) := by decide +kernel
theorem dX12_whyNot_94 : decode cX12_whyNot 94 = .ok (.iastore, 1) := by decide +kernel
theorem dX12_whyNot_95 : decode cX12_whyNot 95 = .ok (.aload_n 0, 1) := by decide +kernel
theorem dX12_whyNot_96 : decode cX12_whyNot 96 = .ok (.getfield 89, 3) := by decide +kernel
theorem dX12_whyNot_99 : decode cX12_whyNot 99 = .ok (.bipush 9, 2) := by decide +kernel
theorem dX12_whyNot_101 : decode cX12_whyNot 101 = .ok (.aload_n 0, 1) := by decide +kernel
theorem dX12_whyNot_102 : decode cX12_whyNot 102 = .ok (.getfield 92, 3) := by decide +kernel
theorem dX12_whyNot_105 : decode cX12_whyNot 105 = .ok (.aload_n 0, 1) := by decide +kernel
theorem dX12_whyNot_106 : decode cX12_whyNot 106 = .ok (.getfield 211, 3) := by decide +kernel
theorem dX12_whyNot_109 : decode cX12_whyNot 109 = .ok (.bipush 7, 2) := by decide +kernel
theorem dX12_whyNot_111 : decode cX12_whyNot 111 = .ok (.idiv, 1) := by decide +kernel
theorem dX12_whyNot_112 : decode cX12_whyNot 112 = .ok (.iaload, 1) := by decide +kernel
theorem dX12_whyNot_113 : decode cX12_whyNot 113 = .ok (.iastore, 1) := by decide +kernel
theorem dX12_whyNot_114 : decode cX12_whyNot 114 = .ok (.aload_n 0, 1) := by decide +kernel
theorem dX12_whyNot_115 : decode cX12_whyNot 115 = .ok (.getfield 89, 3) := by decide +kernel
theorem dX12_whyNot_118 : decode cX12_whyNot 118 = .ok (.bipush 10, 2) := by decide +kernel
theorem dX12_whyNot_120 : decode cX12_whyNot 120 = .ok (.iload_n 1, 1) := by decide +kernel
theorem dX12_whyNot_121 : decode cX12_whyNot 121 = .ok (.invokestatic 431, 3) := by decide +kernel
theorem dX12_whyNot_124 : decode cX12_whyNot 124 = .ok (.iastore, 1) := by decide +kernel
theorem dX12_whyNot_125 : decode cX12_whyNot 125 = .ok (.bipush 120, 2) := by decide +kernel
theorem dX12_whyNot_127 : decode cX12_whyNot 127 = .ok (.istore_n 2, 1) := by decide +kernel
theorem dX12_whyNot_128 : decode cX12_whyNot 128 = .ok (.iload_n 2, 1) := by decide +kernel
theorem dX12_whyNot_129 : decode cX12_whyNot 129 = .ok (.bipush 120, 2) := by decide +kernel
theorem dX12_whyNot_131 : decode cX12_whyNot 131 = .ok (.aload_n 0, 1) := by decide +kernel
theorem dX12_whyNot_132 : decode cX12_whyNot 132 = .ok (.getfield 74, 3) := by decide +kernel
theorem dX12_whyNot_135 : decode cX12_whyNot 135 = .ok (.bipush 10, 2) := by decide +kernel
theorem dX12_whyNot_137 : decode cX12_whyNot 137 = .ok (.iaload, 1) := by decide +kernel
theorem dX12_whyNot_138 : decode cX12_whyNot 138 = .ok (.iadd, 1) := by decide +kernel
theorem dX12_whyNot_139 : decode cX12_whyNot 139 = .ok (.if_icmp .ge 34, 3) := by decide +kernel
theorem dX12_whyNot_142 : decode cX12_whyNot 142 = .ok (.aload_n 0, 1) := by decide +kernel
theorem dX12_whyNot_143 : decode cX12_whyNot 143 = .ok (.aload_n 0, 1) := by decide +kernel
theorem dX12_whyNot_144 : decode cX12_whyNot 144 = .ok (.getfield 80, 3) := by decide +kernel
theorem dX12_whyNot_147 : decode cX12_whyNot 147 = .ok (.iload_n 2, 1) := by decide +kernel
theorem dX12_whyNot_148 : decode cX12_whyNot 148 = .ok (.iaload, 1) := by decide +kernel
theorem dX12_whyNot_149 : decode cX12_whyNot 149 = .ok (.aload_n 0, 1) := by decide +kernel
theorem dX12_whyNot_150 : decode cX12_whyNot 150 = .ok (.getfield 83, 3) := by decide +kernel
theorem dX12_whyNot_153 : decode cX12_whyNot 153 = .ok (.iload_n 2, 1) := by decide +kernel
theorem dX12_whyNot_154 : decode cX12_whyNot 154 = .ok (.iaload, 1) := by decide +kernel
theorem dX12_whyNot_155 : decode cX12_whyNot 155 = .ok (.invokevirtual 331, 3) := by decide +kernel
theorem dX12_whyNot_158 : decode cX12_whyNot 158 = .ok (.iconst 1, 1) := by decide +kernel
theorem dX12_whyNot_159 : decode cX12_whyNot 159 = .ok (.if_icmp .eq 8, 3) := by decide +kernel
theorem dX12_whyNot_162 : decode cX12_whyNot 162 = .ok (.iload_n 2, 1) := by decide +kernel
theorem dX12_whyNot_163 : decode cX12_whyNot 163 = .ok (.bipush 120, 2) := by decide +kernel
theorem dX12_whyNot_165 : decode cX12_whyNot 165 = .ok (.isub, 1) := by decide +kernel
theorem dX12_whyNot_166 : decode cX12_whyNot 166 = .ok (.ireturn, 1) := by decide +kernel
theorem dX12_whyNot_167 : decode cX12_whyNot 167 = .ok (.iinc 2 1, 3) := by decide +kernel
theorem dX12_whyNot_170 : decode cX12_whyNot 170 = .ok (.goto (-42), 3) := by decide +kernel
theorem dX12_whyNot_173 : decode cX12_whyNot 173 = .ok (.iconst (-1), 1) := by decide +kernel
theorem dX12_whyNot_174 : decode cX12_whyNot 174 = .ok (.ireturn, 1) := by decide +kernel
theorem dX12_isFree_0 : decode cX12_isFree 0 = .ok (.aload_n 0, 1) := by decide +kernel
theorem dX12_isFree_1 : decode cX12_isFree 1 = .ok (.iload_n 1, 1) := by decide +kernel
theorem dX12_isFree_2 : decode cX12_isFree 2 = .ok (.invokevirtual 335, 3) := by decide +kernel
theorem dX12_isFree_5 : decode cX12_isFree 5 = .ok (.ifCond .eq 30, 3) := by decide +kernel
theorem dX12_isFree_8 : decode cX12_isFree 8 = .ok (.aload_n 0, 1) := by decide +kernel
theorem dX12_isFree_9 : decode cX12_isFree 9 = .ok (.getfield 46, 3) := by decide +kernel
theorem dX12_isFree_12 : decode cX12_isFree 12 = .ok (.iload_n 1, 1) := by decide +kernel
theorem dX12_isFree_13 : decode cX12_isFree 13 = .ok (.iaload, 1) := by decide +kernel
theorem dX12_isFree_14 : decode cX12_isFree 14 = .ok (.iconst (-1), 1) := by decide +kernel
theorem dX12_isFree_15 : decode cX12_isFree 15 = .ok (.if_icmp .ne 20, 3) := by decide +kernel
theorem dX12_isFree_18 : decode cX12_isFree 18 = .ok (.aload_n 0, 1) := by decide +kernel
theorem dX12_isFree_19 : decode cX12_isFree 19 = .ok (.getfield 40, 3) := by decide +kernel
theorem dX12_isFree_22 : decode cX12_isFree 22 = .ok (.iload_n 1, 1) := by decide +kernel
theorem dX12_isFree_23 : decode cX12_isFree 23 = .ok (.iaload, 1) := by decide +kernel
theorem dX12_isFree_24 : decode cX12_isFree 24 = .ok (.aload_n 0, 1) := by decide +kernel
theorem dX12_isFree_25 : decode cX12_isFree 25 = .ok (.getfield 211, 3) := by decide +kernel
theorem dX12_isFree_28 : decode cX12_isFree 28 = .ok (.if_icmp .gt 7, 3) := by decide +kernel
theorem dX12_isFree_31 : decode cX12_isFree 31 = .ok (.iconst 1, 1) := by decide +kernel
theorem dX12_isFree_32 : decode cX12_isFree 32 = .ok (.goto 4, 3) := by decide +kernel
theorem dX12_isFree_35 : decode cX12_isFree 35 = .ok (.iconst 0, 1) := by decide +kernel
theorem dX12_isFree_36 : decode cX12_isFree 36 = .ok (.ireturn, 1) := by decide +kernel
theorem dX12_batch_0 : decode cX12_batch 0 = .ok (.iload_n 1, 1) := by decide +kernel
theorem dX12_batch_1 : decode cX12_batch 1 = .ok (.iconst 1, 1) := by decide +kernel
theorem dX12_batch_2 : decode cX12_batch 2 = .ok (.ldc_w 434, 3) := by decide +kernel
theorem dX12_batch_5 : decode cX12_batch 5 = .ok (.invokestatic 214, 3) := by decide +kernel
theorem dX12_batch_8 : decode cX12_batch 8 = .ok (.ifCond .eq 12, 3) := by decide +kernel
theorem dX12_batch_11 : decode cX12_batch 11 = .ok (.aload_n 0, 1) := by decide +kernel
theorem dX12_batch_12 : decode cX12_batch 12 = .ok (.getfield 435, 3) := by decide +kernel
theorem dX12_batch_15 : decode cX12_batch 15 = .ok (.bipush 10, 2) := by decide +kernel
theorem dX12_batch_17 : decode cX12_batch 17 = .ok (.if_icmp .ne 5, 3) := by decide +kernel
theorem dX12_batch_20 : decode cX12_batch 20 = .ok (.iconst (-1), 1) := by decide +kernel
theorem dX12_batch_21 : decode cX12_batch 21 = .ok (.ireturn, 1) := by decide +kernel
theorem dX12_batch_22 : decode cX12_batch 22 = .ok (.iconst 0, 1) := by decide +kernel
theorem dX12_batch_23 : decode cX12_batch 23 = .ok (.istore_n 2, 1) := by decide +kernel
theorem dX12_batch_24 : decode cX12_batch 24 = .ok (.iload_n 2, 1) := by decide +kernel
theorem dX12_batch_25 : decode cX12_batch 25 = .ok (.bipush 20, 2) := by decide +kernel
theorem dX12_batch_27 : decode cX12_batch 27 = .ok (.if_icmp .ge 28, 3) := by decide +kernel
theorem dX12_batch_30 : decode cX12_batch 30 = .ok (.iload_n 1, 1) := by decide +kernel
theorem dX12_batch_31 : decode cX12_batch 31 = .ok (.iload_n 2, 1) := by decide +kernel
theorem dX12_batch_32 : decode cX12_batch 32 = .ok (.ishr, 1) := by decide +kernel
theorem dX12_batch_33 : decode cX12_batch 33 = .ok (.iconst 1, 1) := by decide +kernel
theorem dX12_batch_34 : decode cX12_batch 34 = .ok (.iand, 1) := by decide +kernel
theorem dX12_batch_35 : decode cX12_batch 35 = .ok (.iconst 1, 1) := by decide +kernel
theorem dX12_batch_36 : decode cX12_batch 36 = .ok (.if_icmp .ne 13, 3) := by decide +kernel
theorem dX12_batch_39 : decode cX12_batch 39 = .ok (.aload_n 0, 1) := by decide +kernel
theorem dX12_batch_40 : decode cX12_batch 40 = .ok (.iload_n 2, 1) := by decide +kernel
theorem dX12_batch_41 : decode cX12_batch 41 = .ok (.invokevirtual 438, 3) := by decide +kernel
theorem dX12_batch_44 : decode cX12_batch 44 = .ok (.ifCond .ne 5, 3) := by decide +kernel
theorem dX12_batch_47 : decode cX12_batch 47 = .ok (.iconst (-1), 1) := by decide +kernel
theorem dX12_batch_48 : decode cX12_batch 48 = .ok (.ireturn, 1) := by decide +kernel
theorem dX12_batch_49 : decode cX12_batch 49 = .ok (.iinc 2 1, 3) := by decide +kernel
theorem dX12_batch_52 : decode cX12_batch 52 = .ok (.goto (-28), 3) := by decide +kernel
theorem dX12_batch_55 : decode cX12_batch 55 = .ok (.aload_n 0, 1) := by decide +kernel
theorem dX12_batch_56 : decode cX12_batch 56 = .ok (.iload_n 1, 1) := by decide +kernel
theorem dX12_batch_57 : decode cX12_batch 57 = .ok (.invokevirtual 441, 3) := by decide +kernel
theorem dX12_batch_60 : decode cX12_batch 60 = .ok (.istore_n 2, 1) := by decide +kernel
theorem dX12_batch_61 : decode cX12_batch 61 = .ok (.iload_n 2, 1) := by decide +kernel
theorem dX12_batch_62 : decode cX12_batch 62 = .ok (.iconst (-1), 1) := by decide +kernel
theorem dX12_batch_63 : decode cX12_batch 63 = .ok (.if_icmp .eq 8, 3) := by decide +kernel
theorem dX12_batch_66 : decode cX12_batch 66 = .ok (.bipush (-10), 2) := by decide +kernel
theorem dX12_batch_68 : decode cX12_batch 68 = .ok (.iload_n 2, 1) := by decide +kernel
theorem dX12_batch_69 : decode cX12_batch 69 = .ok (.isub, 1) := by decide +kernel
theorem dX12_batch_70 : decode cX12_batch 70 = .ok (.ireturn, 1) := by decide +kernel
theorem dX12_batch_71 : decode cX12_batch 71 = .ok (.iconst 0, 1) := by decide +kernel
theorem dX12_batch_72 : decode cX12_batch 72 = .ok (.istore_n 3, 1) := by decide +kernel
theorem dX12_batch_73 : decode cX12_batch 73 = .ok (.iload_n 3, 1) := by decide +kernel
theorem dX12_batch_74 : decode cX12_batch 74 = .ok (.bipush 20, 2) := by decide +kernel
theorem dX12_batch_76 : decode cX12_batch 76 = .ok (.if_icmp .ge 28, 3) := by decide +kernel
theorem dX12_batch_79 : decode cX12_batch 79 = .ok (.iload_n 1, 1) := by decide +kernel
theorem dX12_batch_80 : decode cX12_batch 80 = .ok (.iload_n 3, 1) := by decide +kernel
theorem dX12_batch_81 : decode cX12_batch 81 = .ok (.ishr, 1) := by decide +kernel
theorem dX12_batch_82 : decode cX12_batch 82 = .ok (.iconst 1, 1) := by decide +kernel
theorem dX12_batch_83 : decode cX12_batch 83 = .ok (.iand, 1) := by decide +kernel
theorem dX12_batch_84 : decode cX12_batch 84 = .ok (.iconst 1, 1) := by decide +kernel
theorem dX12_batch_85 : decode cX12_batch 85 = .ok (.if_icmp .ne 13, 3) := by decide +kernel
theorem dX12_batch_88 : decode cX12_batch 88 = .ok (.aload_n 0, 1) := by decide +kernel
theorem dX12_batch_89 : decode cX12_batch 89 = .ok (.getfield 46, 3) := by decide +kernel
theorem dX12_batch_92 : decode cX12_batch 92 = .ok (.iload_n 3, 1) := by decide +kernel
theorem dX12_batch_93 : decode cX12_batch 93 = .ok (.aload_n 0, 1) := by decide +kernel
theorem dX12_batch_94 : decode cX12_batch 94 = .ok (.getfield 435, 3) := by decide +kernel
theorem dX12_batch_97 : decode cX12_batch 97 = .ok (.iastore, 1) := by decide +kernel
theorem dX12_batch_98 : decode cX12_batch 98 = .ok (.iinc 3 1, 3) := by decide +kernel
theorem dX12_batch_101 : decode cX12_batch 101 = .ok (.goto (-28), 3) := by decide +kernel
theorem dX12_batch_104 : decode cX12_batch 104 = .ok (.aload_n 0, 1) := by decide +kernel
theorem dX12_batch_105 : decode cX12_batch 105 = .ok (.getfield 138, 3) := by decide +kernel
theorem dX12_batch_108 : decode cX12_batch 108 = .ok (.aload_n 0, 1) := by decide +kernel
theorem dX12_batch_109 : decode cX12_batch 109 = .ok (.getfield 435, 3) := by decide +kernel
theorem dX12_batch_112 : decode cX12_batch 112 = .ok (.iload_n 1, 1) := by decide +kernel
theorem dX12_batch_113 : decode cX12_batch 113 = .ok (.iastore, 1) := by decide +kernel
theorem dX12_batch_114 : decode cX12_batch 114 = .ok (.aload_n 0, 1) := by decide +kernel
theorem dX12_batch_115 : decode cX12_batch 115 = .ok (.getfield 141, 3) := by decide +kernel
theorem dX12_batch_118 : decode cX12_batch 118 = .ok (.aload_n 0, 1) := by decide +kernel
theorem dX12_batch_119 : decode cX12_batch 119 = .ok (.getfield 435, 3) := by decide +kernel
theorem dX12_batch_122 : decode cX12_batch 122 = .ok (.aload_n 0, 1) := by decide +kernel
theorem dX12_batch_123 : decode cX12_batch 123 = .ok (.getfield 211, 3) := by decide +kernel
theorem dX12_batch_126 : decode cX12_batch 126 = .ok (.iastore, 1) := by decide +kernel
theorem dX12_batch_127 : decode cX12_batch 127 = .ok (.aload_n 0, 1) := by decide +kernel
theorem dX12_batch_128 : decode cX12_batch 128 = .ok (.aload_n 0, 1) := by decide +kernel
theorem dX12_batch_129 : decode cX12_batch 129 = .ok (.getfield 435, 3) := by decide +kernel
theorem dX12_batch_132 : decode cX12_batch 132 = .ok (.iconst 1, 1) := by decide +kernel
theorem dX12_batch_133 : decode cX12_batch 133 = .ok (.iadd, 1) := by decide +kernel
theorem dX12_batch_134 : decode cX12_batch 134 = .ok (.putfield 435, 3) := by decide +kernel
theorem dX12_batch_137 : decode cX12_batch 137 = .ok (.aload_n 0, 1) := by decide +kernel
theorem dX12_batch_138 : decode cX12_batch 138 = .ok (.getfield 435, 3) := by decide +kernel
theorem dX12_batch_141 : decode cX12_batch 141 = .ok (.iconst 1, 1) := by decide +kernel
theorem dX12_batch_142 : decode cX12_batch 142 = .ok (.isub, 1) := by decide +kernel
theorem dX12_batch_143 : decode cX12_batch 143 = .ok (.ireturn, 1) := by decide +kernel
theorem dX12_isBatch_0 : decode cX12_isBatch 0 = .ok (.iload_n 1, 1) := by decide +kernel
theorem dX12_isBatch_1 : decode cX12_isBatch 1 = .ok (.ifCond .lt 15, 3) := by decide +kernel
theorem dX12_isBatch_4 : decode cX12_isBatch 4 = .ok (.iload_n 1, 1) := by decide +kernel
theorem dX12_isBatch_5 : decode cX12_isBatch 5 = .ok (.aload_n 0, 1) := by decide +kernel
theorem dX12_isBatch_6 : decode cX12_isBatch 6 = .ok (.getfield 435, 3) := by decide +kernel
theorem dX12_isBatch_9 : decode cX12_isBatch 9 = .ok (.if_icmp .ge 7, 3) := by decide +kernel
theorem dX12_isBatch_12 : decode cX12_isBatch 12 = .ok (.iconst 1, 1) := by decide +kernel
theorem dX12_isBatch_13 : decode cX12_isBatch 13 = .ok (.goto 4, 3) := by decide +kernel
theorem dX12_isBatch_16 : decode cX12_isBatch 16 = .ok (.iconst 0, 1) := by decide +kernel
theorem dX12_isBatch_17 : decode cX12_isBatch 17 = .ok (.ireturn, 1) := by decide +kernel
theorem dX12_litresOf_0 : decode cX12_litresOf 0 = .ok (.aload_n 0, 1) := by decide +kernel
theorem dX12_litresOf_1 : decode cX12_litresOf 1 = .ok (.aload_n 0, 1) := by decide +kernel
theorem dX12_litresOf_2 : decode cX12_litresOf 2 = .ok (.getfield 138, 3) := by decide +kernel
theorem dX12_litresOf_5 : decode cX12_litresOf 5 = .ok (.iload_n 1, 1) := by decide +kernel
theorem dX12_litresOf_6 : decode cX12_litresOf 6 = .ok (.iaload, 1) := by decide +kernel
theorem dX12_litresOf_7 : decode cX12_litresOf 7 = .ok (.invokevirtual 428, 3) := by decide +kernel
theorem dX12_litresOf_10 : decode cX12_litresOf 10 = .ok (.aload_n 0, 1) := by decide +kernel
theorem dX12_litresOf_11 : decode cX12_litresOf 11 = .ok (.getfield 419, 3) := by decide +kernel
theorem dX12_litresOf_14 : decode cX12_litresOf 14 = .ok (.ireturn, 1) := by decide +kernel
theorem dX12_proved_0 : decode cX12_proved 0 = .ok (.iconst 0, 1) := by decide +kernel
theorem dX12_proved_1 : decode cX12_proved 1 = .ok (.istore_n 3, 1) := by decide +kernel
theorem dX12_proved_2 : decode cX12_proved 2 = .ok (.aload_n 0, 1) := by decide +kernel
theorem dX12_proved_3 : decode cX12_proved 3 = .ok (.iload_n 1, 1) := by decide +kernel
theorem dX12_proved_4 : decode cX12_proved 4 = .ok (.invokevirtual 444, 3) := by decide +kernel
theorem dX12_proved_7 : decode cX12_proved 7 = .ok (.istore 4, 2) := by decide +kernel
theorem dX12_proved_9 : decode cX12_proved 9 = .ok (.iconst 0, 1) := by decide +kernel
theorem dX12_proved_10 : decode cX12_proved 10 = .ok (.istore 5, 2) := by decide +kernel
theorem dX12_proved_12 : decode cX12_proved 12 = .ok (.iload 5, 2) := by decide +kernel
theorem dX12_proved_14 : decode cX12_proved 14 = .ok (.iload 4, 2) := by decide +kernel
theorem dX12_proved_16 : decode cX12_proved 16 = .ok (.if_icmp .ge 106, 3) := by decide +kernel
theorem dX12_proved_19 : decode cX12_proved 19 = .ok (.iconst 0, 1) := by decide +kernel
theorem dX12_proved_20 : decode cX12_proved 20 = .ok (.istore 6, 2) := by decide +kernel
theorem dX12_proved_22 : decode cX12_proved 22 = .ok (.iconst 0, 1) := by decide +kernel
theorem dX12_proved_23 : decode cX12_proved 23 = .ok (.istore 7, 2) := by decide +kernel
theorem dX12_proved_25 : decode cX12_proved 25 = .ok (.iload 7, 2) := by decide +kernel
theorem dX12_proved_27 : decode cX12_proved 27 = .ok (.aload_n 0, 1) := by decide +kernel
theorem dX12_proved_28 : decode cX12_proved 28 = .ok (.getfield 447, 3) := by decide +kernel
theorem dX12_proved_31 : decode cX12_proved 31 = .ok (.if_icmp .ge 72, 3) := by decide +kernel
theorem dX12_proved_34 : decode cX12_proved 34 = .ok (.iload 6, 2) := by decide +kernel
theorem dX12_proved_36 : decode cX12_proved 36 = .ok (.ifCond .ne 54, 3) := by decide +kernel
theorem dX12_proved_39 : decode cX12_proved 39 = .ok (.aload_n 0, 1) := by decide +kernel
theorem dX12_proved_40 : decode cX12_proved 40 = .ok (.getfield 147, 3) := by decide +kernel
theorem dX12_proved_43 : decode cX12_proved 43 = .ok (.iload 7, 2) := by decide +kernel
theorem dX12_proved_45 : decode cX12_proved 45 = .ok (.iaload, 1) := by decide +kernel
theorem dX12_proved_46 : decode cX12_proved 46 = .ok (.iload_n 1, 1) := by decide +kernel
theorem dX12_proved_47 : decode cX12_proved 47 = .ok (.if_icmp .ne 47, 3) := by decide +kernel
theorem dX12_proved_50 : decode cX12_proved 50 = .ok (.iload 5, 2) := by decide +kernel
theorem dX12_proved_52 : decode cX12_proved 52 = .ok (.aload_n 0, 1) := by decide +kernel
theorem dX12_proved_53 : decode cX12_proved 53 = .ok (.getfield 150, 3) := by decide +kernel
theorem dX12_proved_56 : decode cX12_proved 56 = .ok (.iload 7, 2) := by decide +kernel
theorem dX12_proved_58 : decode cX12_proved 58 = .ok (.iaload, 1) := by decide +kernel
theorem dX12_proved_59 : decode cX12_proved 59 = .ok (.if_icmp .lt 35, 3) := by decide +kernel
theorem dX12_proved_62 : decode cX12_proved 62 = .ok (.iload 5, 2) := by decide +kernel
theorem dX12_proved_64 : decode cX12_proved 64 = .ok (.aload_n 0, 1) := by decide +kernel
theorem dX12_proved_65 : decode cX12_proved 65 = .ok (.getfield 153, 3) := by decide +kernel
theorem dX12_proved_68 : decode cX12_proved 68 = .ok (.iload 7, 2) := by decide +kernel
theorem dX12_proved_70 : decode cX12_proved 70 = .ok (.iaload, 1) := by decide +kernel
theorem dX12_proved_71 : decode cX12_proved 71 = .ok (.if_icmp .ge 23, 3) := by decide +kernel
theorem dX12_proved_74 : decode cX12_proved 74 = .ok (.iload_n 2, 1) := by decide +kernel
theorem dX12_proved_75 : decode cX12_proved 75 = .ok (.iconst (-1), 1) := by decide +kernel
theorem dX12_proved_76 : decode cX12_proved 76 = .ok (.if_icmp .eq 14, 3) := by decide +kernel
theorem dX12_proved_79 : decode cX12_proved 79 = .ok (.aload_n 0, 1) := by decide +kernel
theorem dX12_proved_80 : decode cX12_proved 80 = .ok (.getfield 156, 3) := by decide +kernel
theorem dX12_proved_83 : decode cX12_proved 83 = .ok (.iload 7, 2) := by decide +kernel
theorem dX12_proved_85 : decode cX12_proved 85 = .ok (.iaload, 1) := by decide +kernel
theorem dX12_proved_86 : decode cX12_proved 86 = .ok (.iload_n 2, 1) := by decide +kernel
theorem dX12_proved_87 : decode cX12_proved 87 = .ok (.if_icmp .ne 7, 3) := by decide +kernel
theorem dX12_proved_90 : decode cX12_proved 90 = .ok (.iconst 1, 1) := by decide +kernel
theorem dX12_proved_91 : decode cX12_proved 91 = .ok (.goto 4, 3) := by decide +kernel
theorem dX12_proved_94 : decode cX12_proved 94 = .ok (.iconst 0, 1) := by decide +kernel
theorem dX12_proved_95 : decode cX12_proved 95 = .ok (.istore 6, 2) := by decide +kernel
theorem dX12_proved_97 : decode cX12_proved 97 = .ok (.iinc 7 1, 3) := by decide +kernel
theorem dX12_proved_100 : decode cX12_proved 100 = .ok (.goto (-75), 3) := by decide +kernel
theorem dX12_proved_103 : decode cX12_proved 103 = .ok (.iload_n 3, 1) := by decide +kernel
theorem dX12_proved_104 : decode cX12_proved 104 = .ok (.iload 6, 2) := by decide +kernel
theorem dX12_proved_106 : decode cX12_proved 106 = .ok (.ifCond .eq 7, 3) := by decide +kernel
theorem dX12_proved_109 : decode cX12_proved 109 = .ok (.iconst 1, 1) := by decide +kernel
theorem dX12_proved_110 : decode cX12_proved 110 = .ok (.goto 4, 3) := by decide +kernel
theorem dX12_proved_113 : decode cX12_proved 113 = .ok (.iconst 0, 1) := by decide +kernel
theorem dX12_proved_114 : decode cX12_proved 114 = .ok (.iadd, 1) := by decide +kernel
theorem dX12_proved_115 : decode cX12_proved 115 = .ok (.istore_n 3, 1) := by decide +kernel
theorem dX12_proved_116 : decode cX12_proved 116 = .ok (.iinc 5 1, 3) := by decide +kernel
theorem dX12_proved_119 : decode cX12_proved 119 = .ok (.goto (-107), 3) := by decide +kernel
theorem dX12_proved_122 : decode cX12_proved 122 = .ok (.iload_n 3, 1) := by decide +kernel
theorem dX12_proved_123 : decode cX12_proved 123 = .ok (.ireturn, 1) := by decide +kernel
theorem dX12_batchIs_0 : decode cX12_batchIs 0 = .ok (.aload_n 0, 1) := by decide +kernel
theorem dX12_batchIs_1 : decode cX12_batchIs 1 = .ok (.iload_n 1, 1) := by decide +kernel
theorem dX12_batchIs_2 : decode cX12_batchIs 2 = .ok (.invokevirtual 450, 3) := by decide +kernel
theorem dX12_batchIs_5 : decode cX12_batchIs 5 = .ok (.ifCond .eq 12, 3) := by decide +kernel
theorem dX12_batchIs_8 : decode cX12_batchIs 8 = .ok (.iload_n 2, 1) := by decide +kernel
theorem dX12_batchIs_9 : decode cX12_batchIs 9 = .ok (.iconst 0, 1) := by decide +kernel
theorem dX12_batchIs_10 : decode cX12_batchIs 10 = .ok (.iconst 4, 1) := by decide +kernel
theorem dX12_batchIs_11 : decode cX12_batchIs 11 = .ok (.invokestatic 214, 3) := by decide +kernel
theorem dX12_batchIs_14 : decode cX12_batchIs 14 = .ok (.ifCond .ne 5, 3) := by decide +kernel
theorem dX12_batchIs_17 : decode cX12_batchIs 17 = .ok (.iconst (-1), 1) := by decide +kernel
theorem dX12_batchIs_18 : decode cX12_batchIs 18 = .ok (.ireturn, 1) := by decide +kernel
theorem dX12_batchIs_19 : decode cX12_batchIs 19 = .ok (.aload_n 0, 1) := by decide +kernel
theorem dX12_batchIs_20 : decode cX12_batchIs 20 = .ok (.aload_n 0, 1) := by decide +kernel
theorem dX12_batchIs_21 : decode cX12_batchIs 21 = .ok (.getfield 138, 3) := by decide +kernel
theorem dX12_batchIs_24 : decode cX12_batchIs 24 = .ok (.iload_n 1, 1) := by decide +kernel
theorem dX12_batchIs_25 : decode cX12_batchIs 25 = .ok (.iaload, 1) := by decide +kernel
theorem dX12_batchIs_26 : decode cX12_batchIs 26 = .ok (.invokevirtual 428, 3) := by decide +kernel
theorem dX12_batchIs_29 : decode cX12_batchIs 29 = .ok (.iload_n 2, 1) := by decide +kernel
theorem dX12_batchIs_30 : decode cX12_batchIs 30 = .ok (.tableswitch 58 0 3 #[30, 35, 40, 45], 30) := by decide +kernel
theorem dX12_batchIs_60 : decode cX12_batchIs 60 = .ok (.aload_n 0, 1) := by decide +kernel
theorem dX12_batchIs_61 : decode cX12_batchIs 61 = .ok (.getfield 419, 3) := by decide +kernel
theorem dX12_batchIs_64 : decode cX12_batchIs 64 = .ok (.ireturn, 1) := by decide +kernel
theorem dX12_batchIs_65 : decode cX12_batchIs 65 = .ok (.aload_n 0, 1) := by decide +kernel
theorem dX12_batchIs_66 : decode cX12_batchIs 66 = .ok (.getfield 422, 3) := by decide +kernel
theorem dX12_batchIs_69 : decode cX12_batchIs 69 = .ok (.ireturn, 1) := by decide +kernel
theorem dX12_batchIs_70 : decode cX12_batchIs 70 = .ok (.aload_n 0, 1) := by decide +kernel
theorem dX12_batchIs_71 : decode cX12_batchIs 71 = .ok (.getfield 425, 3) := by decide +kernel
theorem dX12_batchIs_74 : decode cX12_batchIs 74 = .ok (.ireturn, 1) := by decide +kernel
theorem dX12_batchIs_75 : decode cX12_batchIs 75 = .ok (.aload_n 0, 1) := by decide +kernel
theorem dX12_batchIs_76 : decode cX12_batchIs 76 = .ok (.iload_n 1, 1) := by decide +kernel
theorem dX12_batchIs_77 : decode cX12_batchIs 77 = .ok (.invokevirtual 444, 3) := by decide +kernel
theorem dX12_batchIs_80 : decode cX12_batchIs 80 = .ok (.aload_n 0, 1) := by decide +kernel
theorem dX12_batchIs_81 : decode cX12_batchIs 81 = .ok (.iload_n 1, 1) := by decide +kernel
theorem dX12_batchIs_82 : decode cX12_batchIs 82 = .ok (.iconst (-1), 1) := by decide +kernel
theorem dX12_batchIs_83 : decode cX12_batchIs 83 = .ok (.invokevirtual 453, 3) := by decide +kernel
theorem dX12_batchIs_86 : decode cX12_batchIs 86 = .ok (.isub, 1) := by decide +kernel
theorem dX12_batchIs_87 : decode cX12_batchIs 87 = .ok (.ireturn, 1) := by decide +kernel
theorem dX12_batchIs_88 : decode cX12_batchIs 88 = .ok (.aload_n 0, 1) := by decide +kernel
theorem dX12_batchIs_89 : decode cX12_batchIs 89 = .ok (.getfield 138, 3) := by decide +kernel
theorem dX12_batchIs_92 : decode cX12_batchIs 92 = .ok (.iload_n 1, 1) := by decide +kernel
theorem dX12_batchIs_93 : decode cX12_batchIs 93 = .ok (.iaload, 1) := by decide +kernel
theorem dX12_batchIs_94 : decode cX12_batchIs 94 = .ok (.ireturn, 1) := by decide +kernel
theorem dX12_blend_0 : decode cX12_blend 0 = .ok (.iconst 0, 1) := by decide +kernel
theorem dX12_blend_1 : decode cX12_blend 1 = .ok (.istore_n 1, 1) := by decide +kernel
theorem dX12_blend_2 : decode cX12_blend 2 = .ok (.iconst 0, 1) := by decide +kernel
theorem dX12_blend_3 : decode cX12_blend 3 = .ok (.istore_n 2, 1) := by decide +kernel
theorem dX12_blend_4 : decode cX12_blend 4 = .ok (.iload_n 2, 1) := by decide +kernel
theorem dX12_blend_5 : decode cX12_blend 5 = .ok (.bipush 20, 2) := by decide +kernel
theorem dX12_blend_7 : decode cX12_blend 7 = .ok (.if_icmp .ge 37, 3) := by decide +kernel
theorem dX12_blend_10 : decode cX12_blend 10 = .ok (.iload_n 1, 1) := by decide +kernel
theorem dX12_blend_11 : decode cX12_blend 11 = .ok (.bipush 12, 2) := by decide +kernel
theorem dX12_blend_13 : decode cX12_blend 13 = .ok (.if_icmp .ge 31, 3) := by decide +kernel
theorem dX12_blend_16 : decode cX12_blend 16 = .ok (.aload_n 0, 1) := by decide +kernel
theorem dX12_blend_17 : decode cX12_blend 17 = .ok (.iload_n 2, 1) := by decide +kernel
theorem dX12_blend_18 : decode cX12_blend 18 = .ok (.invokevirtual 438, 3) := by decide +kernel
theorem dX12_blend_21 : decode cX12_blend 21 = .ok (.ifCond .ne 6, 3) := by decide +kernel
theorem dX12_blend_24 : decode cX12_blend 24 = .ok (.goto 14, 3) := by decide +kernel
theorem dX12_blend_27 : decode cX12_blend 27 = .ok (.aload_n 0, 1) := by decide +kernel
theorem dX12_blend_28 : decode cX12_blend 28 = .ok (.getfield 159, 3) := by decide +kernel
theorem dX12_blend_31 : decode cX12_blend 31 = .ok (.iload_n 1, 1) := by decide +kernel
theorem dX12_blend_32 : decode cX12_blend 32 = .ok (.iload_n 2, 1) := by decide +kernel
theorem dX12_blend_33 : decode cX12_blend 33 = .ok (.iastore, 1) := by decide +kernel
theorem dX12_blend_34 : decode cX12_blend 34 = .ok (.iload_n 1, 1) := by decide +kernel
theorem dX12_blend_35 : decode cX12_blend 35 = .ok (.iconst 1, 1) := by decide +kernel
theorem dX12_blend_36 : decode cX12_blend 36 = .ok (.iadd, 1) := by decide +kernel
theorem dX12_blend_37 : decode cX12_blend 37 = .ok (.istore_n 1, 1) := by decide +kernel
theorem dX12_blend_38 : decode cX12_blend 38 = .ok (.iinc 2 1, 3) := by decide +kernel
theorem dX12_blend_41 : decode cX12_blend 41 = .ok (.goto (-37), 3) := by decide +kernel
theorem dX12_blend_44 : decode cX12_blend 44 = .ok (.iconst 0, 1) := by decide +kernel
theorem dX12_blend_45 : decode cX12_blend 45 = .ok (.istore_n 2, 1) := by decide +kernel
theorem dX12_blend_46 : decode cX12_blend 46 = .ok (.iconst 0, 1) := by decide +kernel
theorem dX12_blend_47 : decode cX12_blend 47 = .ok (.istore_n 3, 1) := by decide +kernel
theorem dX12_blend_48 : decode cX12_blend 48 = .ok (.iconst 1, 1) := by decide +kernel
theorem dX12_blend_49 : decode cX12_blend 49 = .ok (.istore 4, 2) := by decide +kernel
theorem dX12_blend_51 : decode cX12_blend 51 = .ok (.iload 4, 2) := by decide +kernel
theorem dX12_blend_53 : decode cX12_blend 53 = .ok (.iconst 1, 1) := by decide +kernel
theorem dX12_blend_54 : decode cX12_blend 54 = .ok (.iload_n 1, 1) := by decide +kernel
theorem dX12_blend_55 : decode cX12_blend 55 = .ok (.ishl, 1) := by decide +kernel
theorem dX12_blend_56 : decode cX12_blend 56 = .ok (.if_icmp .ge 110, 3) := by decide +kernel
theorem dX12_blend_59 : decode cX12_blend 59 = .ok (.iconst 0, 1) := by decide +kernel
theorem dX12_blend_60 : decode cX12_blend 60 = .ok (.istore 5, 2) := by decide +kernel
theorem dX12_blend_62 : decode cX12_blend 62 = .ok (.iconst 0, 1) := by decide +kernel
theorem dX12_blend_63 : decode cX12_blend 63 = .ok (.istore 6, 2) := by decide +kernel
theorem dX12_blend_65 : decode cX12_blend 65 = .ok (.iload 6, 2) := by decide +kernel
theorem dX12_blend_67 : decode cX12_blend 67 = .ok (.iload_n 1, 1) := by decide +kernel
theorem dX12_blend_68 : decode cX12_blend 68 = .ok (.if_icmp .ge 39, 3) := by decide +kernel
theorem dX12_blend_71 : decode cX12_blend 71 = .ok (.iload 4, 2) := by decide +kernel
theorem dX12_blend_73 : decode cX12_blend 73 = .ok (.iload 6, 2) := by decide +kernel
theorem dX12_blend_75 : decode cX12_blend 75 = .ok (.ishr, 1) := by decide +kernel
theorem dX12_blend_76 : decode cX12_blend 76 = .ok (.iconst 1, 1) := by decide +kernel
theorem dX12_blend_77 : decode cX12_blend 77 = .ok (.iand, 1) := by decide +kernel
theorem dX12_blend_78 : decode cX12_blend 78 = .ok (.iconst 1, 1) := by decide +kernel
theorem dX12_blend_79 : decode cX12_blend 79 = .ok (.if_icmp .ne 18, 3) := by decide +kernel
theorem dX12_blend_82 : decode cX12_blend 82 = .ok (.iload 5, 2) := by decide +kernel
theorem dX12_blend_84 : decode cX12_blend 84 = .ok (.iconst 1, 1) := by decide +kernel
theorem dX12_blend_85 : decode cX12_blend 85 = .ok (.aload_n 0, 1) := by decide +kernel
theorem dX12_blend_86 : decode cX12_blend 86 = .ok (.getfield 159, 3) := by decide +kernel
theorem dX12_blend_89 : decode cX12_blend 89 = .ok (.iload 6, 2) := by decide +kernel
theorem dX12_blend_91 : decode cX12_blend 91 = .ok (.iaload, 1) := by decide +kernel
theorem dX12_blend_92 : decode cX12_blend 92 = .ok (.ishl, 1) := by decide +kernel
theorem dX12_blend_93 : decode cX12_blend 93 = .ok (.ior, 1) := by decide +kernel
theorem dX12_blend_94 : decode cX12_blend 94 = .ok (.goto 5, 3) := by decide +kernel
theorem dX12_blend_97 : decode cX12_blend 97 = .ok (.iload 5, 2) := by decide +kernel
theorem dX12_blend_99 : decode cX12_blend 99 = .ok (.istore 5, 2) := by decide +kernel
theorem dX12_blend_101 : decode cX12_blend 101 = .ok (.iinc 6 1, 3) := by decide +kernel
theorem dX12_blend_104 : decode cX12_blend 104 = .ok (.goto (-39), 3) := by decide +kernel
theorem dX12_blend_107 : decode cX12_blend 107 = .ok (.aload_n 0, 1) := by decide +kernel
theorem dX12_blend_108 : decode cX12_blend 108 = .ok (.iload 5, 2) := by decide +kernel
theorem dX12_blend_110 : decode cX12_blend 110 = .ok (.invokevirtual 441, 3) := by decide +kernel
theorem dX12_blend_113 : decode cX12_blend 113 = .ok (.iconst (-1), 1) := by decide +kernel
theorem dX12_blend_114 : decode cX12_blend 114 = .ok (.if_icmp .ne 46, 3) := by decide +kernel
theorem dX12_blend_117 : decode cX12_blend 117 = .ok (.iload_n 2, 1) := by decide +kernel
theorem dX12_blend_118 : decode cX12_blend 118 = .ok (.ifCond .eq 34, 3) := by decide +kernel
theorem dX12_blend_121 : decode cX12_blend 121 = .ok (.aload_n 0, 1) := by decide +kernel
theorem dX12_blend_122 : decode cX12_blend 122 = .ok (.getfield 419, 3) := by decide +kernel
theorem dX12_blend_125 : decode cX12_blend 125 = .ok (.iload_n 3, 1) := by decide +kernel
theorem dX12_blend_126 : decode cX12_blend 126 = .ok (.if_icmp .lt 34, 3) := by decide +kernel
theorem dX12_blend_129 : decode cX12_blend 129 = .ok (.aload_n 0, 1) := by decide +kernel
theorem dX12_blend_130 : decode cX12_blend 130 = .ok (.getfield 419, 3) := by decide +kernel
theorem dX12_blend_133 : decode cX12_blend 133 = .ok (.iload_n 3, 1) := by decide +kernel
theorem dX12_blend_134 : decode cX12_blend 134 = .ok (.if_icmp .ne 18, 3) := by decide +kernel
theorem dX12_blend_137 : decode cX12_blend 137 = .ok (.iload 5, 2) := by decide +kernel
theorem dX12_blend_139 : decode cX12_blend 139 = .ok (.invokestatic 431, 3) := by decide +kernel
theorem dX12_blend_142 : decode cX12_blend 142 = .ok (.iload_n 2, 1) := by decide +kernel
theorem dX12_blend_143 : decode cX12_blend 143 = .ok (.invokestatic 431, 3) := by decide +kernel
theorem dX12_blend_146 : decode cX12_blend 146 = .ok (.if_icmp .lt 6, 3) := by decide +kernel
theorem dX12_blend_149 : decode cX12_blend 149 = .ok (.goto 11, 3) := by decide +kernel
theorem dX12_blend_152 : decode cX12_blend 152 = .ok (.iload 5, 2) := by decide +kernel
theorem dX12_blend_154 : decode cX12_blend 154 = .ok (.istore_n 2, 1) := by decide +kernel
theorem dX12_blend_155 : decode cX12_blend 155 = .ok (.aload_n 0, 1) := by decide +kernel
theorem dX12_blend_156 : decode cX12_blend 156 = .ok (.getfield 419, 3) := by decide +kernel
theorem dX12_blend_159 : decode cX12_blend 159 = .ok (.istore_n 3, 1) := by decide +kernel
theorem dX12_blend_160 : decode cX12_blend 160 = .ok (.iinc 4 1, 3) := by decide +kernel
theorem dX12_blend_163 : decode cX12_blend 163 = .ok (.goto (-112), 3) := by decide +kernel
theorem dX12_blend_166 : decode cX12_blend 166 = .ok (.iload_n 2, 1) := by decide +kernel
theorem dX12_blend_167 : decode cX12_blend 167 = .ok (.ireturn, 1) := by decide +kernel
theorem dX12_proof_0 : decode cX12_proof 0 = .ok (.aload_n 0, 1) := by decide +kernel
theorem dX12_proof_1 : decode cX12_proof 1 = .ok (.iload_n 1, 1) := by decide +kernel
theorem dX12_proof_2 : decode cX12_proof 2 = .ok (.invokevirtual 450, 3) := by decide +kernel
theorem dX12_proof_5 : decode cX12_proof 5 = .ok (.ifCond .eq 41, 3) := by decide +kernel
theorem dX12_proof_8 : decode cX12_proof 8 = .ok (.iload_n 2, 1) := by decide +kernel
theorem dX12_proof_9 : decode cX12_proof 9 = .ok (.ifCond .lt 37, 3) := by decide +kernel
theorem dX12_proof_12 : decode cX12_proof 12 = .ok (.iload_n 3, 1) := by decide +kernel
theorem dX12_proof_13 : decode cX12_proof 13 = .ok (.iload_n 2, 1) := by decide +kernel
theorem dX12_proof_14 : decode cX12_proof 14 = .ok (.if_icmp .le 32, 3) := by decide +kernel
theorem dX12_proof_17 : decode cX12_proof 17 = .ok (.iload_n 3, 1) := by decide +kernel
theorem dX12_proof_18 : decode cX12_proof 18 = .ok (.aload_n 0, 1) := by decide +kernel
theorem dX12_proof_19 : decode cX12_proof 19 = .ok (.iload_n 1, 1) := by decide +kernel
theorem dX12_proof_20 : decode cX12_proof 20 = .ok (.invokevirtual 444, 3) := by decide +kernel
theorem dX12_proof_23 : decode cX12_proof 23 = .ok (.if_icmp .gt 23, 3) := by decide +kernel
theorem dX12_proof_26 : decode cX12_proof 26 = .ok (.iload 4, 2) := by decide +kernel
theorem dX12_proof_28 : decode cX12_proof 28 = .ok (.iconst 0, 1) := by decide +kernel
theorem dX12_proof_29 : decode cX12_proof 29 = .ok (.bipush 9, 2) := by decide +kernel
theorem dX12_proof_31 : decode cX12_proof 31 = .ok (.invokestatic 214, 3) := by decide +kernel
theorem dX12_proof_34 : decode cX12_proof 34 = .ok (.ifCond .eq 12, 3) := by decide +kernel
theorem dX12_proof_37 : decode cX12_proof 37 = .ok (.aload_n 0, 1) := by decide +kernel
theorem dX12_proof_38 : decode cX12_proof 38 = .ok (.getfield 447, 3) := by decide +kernel
theorem dX12_proof_41 : decode cX12_proof 41 = .ok (.bipush 40, 2) := by decide +kernel
theorem dX12_proof_43 : decode cX12_proof 43 = .ok (.if_icmp .ne 5, 3) := by decide +kernel
theorem dX12_proof_46 : decode cX12_proof 46 = .ok (.iconst (-1), 1) := by decide +kernel
theorem dX12_proof_47 : decode cX12_proof 47 = .ok (.ireturn, 1) := by decide +kernel
theorem dX12_proof_48 : decode cX12_proof 48 = .ok (.aload_n 0, 1) := by decide +kernel
theorem dX12_proof_49 : decode cX12_proof 49 = .ok (.getfield 147, 3) := by decide +kernel
theorem dX12_proof_52 : decode cX12_proof 52 = .ok (.aload_n 0, 1) := by decide +kernel
theorem dX12_proof_53 : decode cX12_proof 53 = .ok (.getfield 447, 3) := by decide +kernel
theorem dX12_proof_56 : decode cX12_proof 56 = .ok (.iload_n 1, 1) := by decide +kernel
theorem dX12_proof_57 : decode cX12_proof 57 = .ok (.iastore, 1) := by decide +kernel
theorem dX12_proof_58 : decode cX12_proof 58 = .ok (.aload_n 0, 1) := by decide +kernel
theorem dX12_proof_59 : decode cX12_proof 59 = .ok (.getfield 150, 3) := by decide +kernel
theorem dX12_proof_62 : decode cX12_proof 62 = .ok (.aload_n 0, 1) := by decide +kernel
theorem dX12_proof_63 : decode cX12_proof 63 = .ok (.getfield 447, 3) := by decide +kernel
theorem dX12_proof_66 : decode cX12_proof 66 = .ok (.iload_n 2, 1) := by decide +kernel
theorem dX12_proof_67 : decode cX12_proof 67 = .ok (.iastore, 1) := by decide +kernel
theorem dX12_proof_68 : decode cX12_proof 68 = .ok (.aload_n 0, 1) := by decide +kernel
theorem dX12_proof_69 : decode cX12_proof 69 = .ok (.getfield 153, 3) := by decide +kernel
theorem dX12_proof_72 : decode cX12_proof 72 = .ok (.aload_n 0, 1) := by decide +kernel
theorem dX12_proof_73 : decode cX12_proof 73 = .ok (.getfield 447, 3) := by decide +kernel
theorem dX12_proof_76 : decode cX12_proof 76 = .ok (.iload_n 3, 1) := by decide +kernel
theorem dX12_proof_77 : decode cX12_proof 77 = .ok (.iastore, 1) := by decide +kernel
theorem dX12_proof_78 : decode cX12_proof 78 = .ok (.aload_n 0, 1) := by decide +kernel
theorem dX12_proof_79 : decode cX12_proof 79 = .ok (.getfield 156, 3) := by decide +kernel
theorem dX12_proof_82 : decode cX12_proof 82 = .ok (.aload_n 0, 1) := by decide +kernel
theorem dX12_proof_83 : decode cX12_proof 83 = .ok (.getfield 447, 3) := by decide +kernel
theorem dX12_proof_86 : decode cX12_proof 86 = .ok (.iload 4, 2) := by decide +kernel
theorem dX12_proof_88 : decode cX12_proof 88 = .ok (.iastore, 1) := by decide +kernel
theorem dX12_proof_89 : decode cX12_proof 89 = .ok (.aload_n 0, 1) := by decide +kernel
theorem dX12_proof_90 : decode cX12_proof 90 = .ok (.getfield 144, 3) := by decide +kernel
theorem dX12_proof_93 : decode cX12_proof 93 = .ok (.aload_n 0, 1) := by decide +kernel
theorem dX12_proof_94 : decode cX12_proof 94 = .ok (.getfield 447, 3) := by decide +kernel
theorem dX12_proof_97 : decode cX12_proof 97 = .ok (.aload_n 0, 1) := by decide +kernel
theorem dX12_proof_98 : decode cX12_proof 98 = .ok (.getfield 211, 3) := by decide +kernel
theorem dX12_proof_101 : decode cX12_proof 101 = .ok (.iastore, 1) := by decide +kernel
theorem dX12_proof_102 : decode cX12_proof 102 = .ok (.aload_n 0, 1) := by decide +kernel
theorem dX12_proof_103 : decode cX12_proof 103 = .ok (.aload_n 0, 1) := by decide +kernel
theorem dX12_proof_104 : decode cX12_proof 104 = .ok (.getfield 447, 3) := by decide +kernel
theorem dX12_proof_107 : decode cX12_proof 107 = .ok (.iconst 1, 1) := by decide +kernel
theorem dX12_proof_108 : decode cX12_proof 108 = .ok (.iadd, 1) := by decide +kernel
theorem dX12_proof_109 : decode cX12_proof 109 = .ok (.putfield 447, 3) := by decide +kernel
theorem dX12_proof_112 : decode cX12_proof 112 = .ok (.aload_n 0, 1) := by decide +kernel
theorem dX12_proof_113 : decode cX12_proof 113 = .ok (.getfield 447, 3) := by decide +kernel
theorem dX12_proof_116 : decode cX12_proof 116 = .ok (.iconst 1, 1) := by decide +kernel
theorem dX12_proof_117 : decode cX12_proof 117 = .ok (.isub, 1) := by decide +kernel
theorem dX12_proof_118 : decode cX12_proof 118 = .ok (.ireturn, 1) := by decide +kernel
theorem dX12_twice_0 : decode cX12_twice 0 = .ok (.aload_n 0, 1) := by decide +kernel
theorem dX12_twice_1 : decode cX12_twice 1 = .ok (.iload_n 1, 1) := by decide +kernel
theorem dX12_twice_2 : decode cX12_twice 2 = .ok (.invokevirtual 450, 3) := by decide +kernel
theorem dX12_twice_5 : decode cX12_twice 5 = .ok (.ifCond .ne 5, 3) := by decide +kernel
theorem dX12_twice_8 : decode cX12_twice 8 = .ok (.iconst (-1), 1) := by decide +kernel
theorem dX12_twice_9 : decode cX12_twice 9 = .ok (.ireturn, 1) := by decide +kernel
theorem dX12_twice_10 : decode cX12_twice 10 = .ok (.iconst 0, 1) := by decide +kernel
theorem dX12_twice_11 : decode cX12_twice 11 = .ok (.istore_n 2, 1) := by decide +kernel
theorem dX12_twice_12 : decode cX12_twice 12 = .ok (.iload_n 2, 1) := by decide +kernel
theorem dX12_twice_13 : decode cX12_twice 13 = .ok (.aload_n 0, 1) := by decide +kernel
theorem dX12_twice_14 : decode cX12_twice 14 = .ok (.getfield 447, 3) := by decide +kernel
theorem dX12_twice_17 : decode cX12_twice 17 = .ok (.if_icmp .ge 74, 3) := by decide +kernel
theorem dX12_twice_20 : decode cX12_twice 20 = .ok (.iconst 0, 1) := by decide +kernel
theorem dX12_twice_21 : decode cX12_twice 21 = .ok (.istore_n 3, 1) := by decide +kernel
theorem dX12_twice_22 : decode cX12_twice 22 = .ok (.iload_n 3, 1) := by decide +kernel
theorem dX12_twice_23 : decode cX12_twice 23 = .ok (.iload_n 2, 1) := by decide +kernel
theorem dX12_twice_24 : decode cX12_twice 24 = .ok (.if_icmp .ge 61, 3) := by decide +kernel
theorem dX12_twice_27 : decode cX12_twice 27 = .ok (.aload_n 0, 1) := by decide +kernel
theorem dX12_twice_28 : decode cX12_twice 28 = .ok (.getfield 147, 3) := by decide +kernel
theorem dX12_twice_31 : decode cX12_twice 31 = .ok (.iload_n 2, 1) := by decide +kernel
theorem dX12_twice_32 : decode cX12_twice 32 = .ok (.iaload, 1) := by decide +kernel
theorem dX12_twice_33 : decode cX12_twice 33 = .ok (.iload_n 1, 1) := by decide +kernel
theorem dX12_twice_34 : decode cX12_twice 34 = .ok (.if_icmp .ne 45, 3) := by decide +kernel
theorem dX12_twice_37 : decode cX12_twice 37 = .ok (.aload_n 0, 1) := by decide +kernel
theorem dX12_twice_38 : decode cX12_twice 38 = .ok (.getfield 147, 3) := by decide +kernel
theorem dX12_twice_41 : decode cX12_twice 41 = .ok (.iload_n 3, 1) := by decide +kernel
theorem dX12_twice_42 : decode cX12_twice 42 = .ok (.iaload, 1) := by decide +kernel
theorem dX12_twice_43 : decode cX12_twice 43 = .ok (.iload_n 1, 1) := by decide +kernel
theorem dX12_twice_44 : decode cX12_twice 44 = .ok (.if_icmp .ne 35, 3) := by decide +kernel
theorem dX12_twice_47 : decode cX12_twice 47 = .ok (.aload_n 0, 1) := by decide +kernel
theorem dX12_twice_48 : decode cX12_twice 48 = .ok (.getfield 150, 3) := by decide +kernel
theorem dX12_twice_51 : decode cX12_twice 51 = .ok (.iload_n 2, 1) := by decide +kernel
theorem dX12_twice_52 : decode cX12_twice 52 = .ok (.iaload, 1) := by decide +kernel
theorem dX12_twice_53 : decode cX12_twice 53 = .ok (.aload_n 0, 1) := by decide +kernel
theorem dX12_twice_54 : decode cX12_twice 54 = .ok (.getfield 153, 3) := by decide +kernel
theorem dX12_twice_57 : decode cX12_twice 57 = .ok (.iload_n 3, 1) := by decide +kernel
theorem dX12_twice_58 : decode cX12_twice 58 = .ok (.iaload, 1) := by decide +kernel
theorem dX12_twice_59 : decode cX12_twice 59 = .ok (.if_icmp .ge 20, 3) := by decide +kernel
theorem dX12_twice_62 : decode cX12_twice 62 = .ok (.aload_n 0, 1) := by decide +kernel
theorem dX12_twice_63 : decode cX12_twice 63 = .ok (.getfield 150, 3) := by decide +kernel
theorem dX12_twice_66 : decode cX12_twice 66 = .ok (.iload_n 3, 1) := by decide +kernel
theorem dX12_twice_67 : decode cX12_twice 67 = .ok (.iaload, 1) := by decide +kernel
theorem dX12_twice_68 : decode cX12_twice 68 = .ok (.aload_n 0, 1) := by decide +kernel
theorem dX12_twice_69 : decode cX12_twice 69 = .ok (.getfield 153, 3) := by decide +kernel
theorem dX12_twice_72 : decode cX12_twice 72 = .ok (.iload_n 2, 1) := by decide +kernel
theorem dX12_twice_73 : decode cX12_twice 73 = .ok (.iaload, 1) := by decide +kernel
theorem dX12_twice_74 : decode cX12_twice 74 = .ok (.if_icmp .ge 5, 3) := by decide +kernel
theorem dX12_twice_77 : decode cX12_twice 77 = .ok (.iload_n 2, 1) := by decide +kernel
theorem dX12_twice_78 : decode cX12_twice 78 = .ok (.ireturn, 1) := by decide +kernel
theorem dX12_twice_79 : decode cX12_twice 79 = .ok (.iinc 3 1, 3) := by decide +kernel
theorem dX12_twice_82 : decode cX12_twice 82 = .ok (.goto (-60), 3) := by decide +kernel
theorem dX12_twice_85 : decode cX12_twice 85 = .ok (.iinc 2 1, 3) := by decide +kernel
theorem dX12_twice_88 : decode cX12_twice 88 = .ok (.goto (-76), 3) := by decide +kernel
theorem dX12_twice_91 : decode cX12_twice 91 = .ok (.iconst (-1), 1) := by decide +kernel
theorem dX12_twice_92 : decode cX12_twice 92 = .ok (.ireturn, 1) := by decide +kernel
theorem dX12_bought_0 : decode cX12_bought 0 = .ok (.aload_n 0, 1) := by decide +kernel
theorem dX12_bought_1 : decode cX12_bought 1 = .ok (.iload_n 1, 1) := by decide +kernel
theorem dX12_bought_2 : decode cX12_bought 2 = .ok (.invokevirtual 450, 3) := by decide +kernel
theorem dX12_bought_5 : decode cX12_bought 5 = .ok (.ifCond .eq 22, 3) := by decide +kernel
theorem dX12_bought_8 : decode cX12_bought 8 = .ok (.iload_n 2, 1) := by decide +kernel
theorem dX12_bought_9 : decode cX12_bought 9 = .ok (.iconst 0, 1) := by decide +kernel
theorem dX12_bought_10 : decode cX12_bought 10 = .ok (.bipush 9, 2) := by decide +kernel
theorem dX12_bought_12 : decode cX12_bought 12 = .ok (.invokestatic 214, 3) := by decide +kernel
theorem dX12_bought_15 : decode cX12_bought 15 = .ok (.ifCond .eq 12, 3) := by decide +kernel
theorem dX12_bought_18 : decode cX12_bought 18 = .ok (.aload_n 0, 1) := by decide +kernel
theorem dX12_bought_19 : decode cX12_bought 19 = .ok (.iload_n 1, 1) := by decide +kernel
theorem dX12_bought_20 : decode cX12_bought 20 = .ok (.iload_n 2, 1) := by decide +kernel
theorem dX12_bought_21 : decode cX12_bought 21 = .ok (.invokevirtual 453, 3) := by decide +kernel
theorem dX12_bought_24 : decode cX12_bought 24 = .ok (.goto 4, 3) := by decide +kernel
theorem dX12_bought_27 : decode cX12_bought 27 = .ok (.iconst (-1), 1) := by decide +kernel
theorem dX12_bought_28 : decode cX12_bought 28 = .ok (.ireturn, 1) := by decide +kernel
theorem dX12_loadAt_0 : decode cX12_loadAt 0 = .ok (.iload_n 2, 1) := by decide +kernel
theorem dX12_loadAt_1 : decode cX12_loadAt 1 = .ok (.istore_n 3, 1) := by decide +kernel
theorem dX12_loadAt_2 : decode cX12_loadAt 2 = .ok (.iconst 0, 1) := by decide +kernel
theorem dX12_loadAt_3 : decode cX12_loadAt 3 = .ok (.istore 4, 2) := by decide +kernel
theorem dX12_loadAt_5 : decode cX12_loadAt 5 = .ok (.iload 4, 2) := by decide +kernel
theorem dX12_loadAt_7 : decode cX12_loadAt 7 = .ok (.bipush 20, 2) := by decide +kernel
theorem dX12_loadAt_9 : decode cX12_loadAt 9 = .ok (.if_icmp .ge 50, 3) := by decide +kernel
theorem dX12_loadAt_12 : decode cX12_loadAt 12 = .ok (.aload_n 0, 1) := by decide +kernel
theorem dX12_loadAt_13 : decode cX12_loadAt 13 = .ok (.getfield 138, 3) := by decide +kernel
theorem dX12_loadAt_16 : decode cX12_loadAt 16 = .ok (.iload_n 1, 1) := by decide +kernel
theorem dX12_loadAt_17 : decode cX12_loadAt 17 = .ok (.iaload, 1) := by decide +kernel
theorem dX12_loadAt_18 : decode cX12_loadAt 18 = .ok (.iload 4, 2) := by decide +kernel
theorem dX12_loadAt_20 : decode cX12_loadAt 20 = .ok (.ishr, 1) := by decide +kernel
theorem dX12_loadAt_21 : decode cX12_loadAt 21 = .ok (.iconst 1, 1) := by decide +kernel
theorem dX12_loadAt_22 : decode cX12_loadAt 22 = .ok (.iand, 1) := by decide +kernel
theorem dX12_loadAt_23 : decode cX12_loadAt 23 = .ok (.ifCond .ne 6, 3) := by decide +kernel
theorem dX12_loadAt_26 : decode cX12_loadAt 26 = .ok (.goto 27, 3) := by decide +kernel
theorem dX12_loadAt_29 : decode cX12_loadAt 29 = .ok (.iload_n 3, 1) := by decide +kernel
theorem dX12_loadAt_30 : decode cX12_loadAt 30 = .ok (.aload_n 0, 1) := by decide +kernel
theorem dX12_loadAt_31 : decode cX12_loadAt 31 = .ok (.getfield 31, 3) := by decide +kernel
theorem dX12_loadAt_34 : decode cX12_loadAt 34 = .ok (.iload 4, 2) := by decide +kernel
theorem dX12_loadAt_36 : decode cX12_loadAt 36 = .ok (.iaload, 1) := by decide +kernel
theorem dX12_loadAt_37 : decode cX12_loadAt 37 = .ok (.if_icmp .ge 6, 3) := by decide +kernel
theorem dX12_loadAt_40 : decode cX12_loadAt 40 = .ok (.iload 4, 2) := by decide +kernel
theorem dX12_loadAt_42 : decode cX12_loadAt 42 = .ok (.ireturn, 1) := by decide +kernel
theorem dX12_loadAt_43 : decode cX12_loadAt 43 = .ok (.iload_n 3, 1) := by decide +kernel
theorem dX12_loadAt_44 : decode cX12_loadAt 44 = .ok (.aload_n 0, 1) := by decide +kernel
theorem dX12_loadAt_45 : decode cX12_loadAt 45 = .ok (.getfield 31, 3) := by decide +kernel
theorem dX12_loadAt_48 : decode cX12_loadAt 48 = .ok (.iload 4, 2) := by decide +kernel
theorem dX12_loadAt_50 : decode cX12_loadAt 50 = .ok (.iaload, 1) := by decide +kernel
theorem dX12_loadAt_51 : decode cX12_loadAt 51 = .ok (.isub, 1) := by decide +kernel
theorem dX12_loadAt_52 : decode cX12_loadAt 52 = .ok (.istore_n 3, 1) := by decide +kernel
theorem dX12_loadAt_53 : decode cX12_loadAt 53 = .ok (.iinc 4 1, 3) := by decide +kernel
theorem dX12_loadAt_56 : decode cX12_loadAt 56 = .ok (.goto (-51), 3) := by decide +kernel
theorem dX12_loadAt_59 : decode cX12_loadAt 59 = .ok (.iconst (-1), 1) := by decide +kernel
theorem dX12_loadAt_60 : decode cX12_loadAt 60 = .ok (.ireturn, 1) := by decide +kernel
theorem dX12_whence_0 : decode cX12_whence 0 = .ok (.aload_n 0, 1) := by decide +kernel
theorem dX12_whence_1 : decode cX12_whence 1 = .ok (.iload_n 1, 1) := by decide +kernel
theorem dX12_whence_2 : decode cX12_whence 2 = .ok (.invokevirtual 450, 3) := by decide +kernel
theorem dX12_whence_5 : decode cX12_whence 5 = .ok (.ifCond .eq 27, 3) := by decide +kernel
theorem dX12_whence_8 : decode cX12_whence 8 = .ok (.iload_n 2, 1) := by decide +kernel
theorem dX12_whence_9 : decode cX12_whence 9 = .ok (.iconst 0, 1) := by decide +kernel
theorem dX12_whence_10 : decode cX12_whence 10 = .ok (.aload_n 0, 1) := by decide +kernel
theorem dX12_whence_11 : decode cX12_whence 11 = .ok (.iload_n 1, 1) := by decide +kernel
theorem dX12_whence_12 : decode cX12_whence 12 = .ok (.invokevirtual 444, 3) := by decide +kernel
theorem dX12_whence_15 : decode cX12_whence 15 = .ok (.iconst 1, 1) := by decide +kernel
theorem dX12_whence_16 : decode cX12_whence 16 = .ok (.isub, 1) := by decide +kernel
theorem dX12_whence_17 : decode cX12_whence 17 = .ok (.invokestatic 214, 3) := by decide +kernel
theorem dX12_whence_20 : decode cX12_whence 20 = .ok (.ifCond .eq 12, 3) := by decide +kernel
theorem dX12_whence_23 : decode cX12_whence 23 = .ok (.aload_n 0, 1) := by decide +kernel
theorem dX12_whence_24 : decode cX12_whence 24 = .ok (.iload_n 1, 1) := by decide +kernel
theorem dX12_whence_25 : decode cX12_whence 25 = .ok (.iload_n 2, 1) := by decide +kernel
theorem dX12_whence_26 : decode cX12_whence 26 = .ok (.invokevirtual 456, 3) := by decide +kernel
theorem dX12_whence_29 : decode cX12_whence 29 = .ok (.goto 4, 3) := by decide +kernel
theorem dX12_whence_32 : decode cX12_whence 32 = .ok (.iconst (-1), 1) := by decide +kernel
theorem dX12_whence_33 : decode cX12_whence 33 = .ok (.ireturn, 1) := by decide +kernel
theorem dX12_isProof_0 : decode cX12_isProof 0 = .ok (.iload_n 1, 1) := by decide +kernel
theorem dX12_isProof_1 : decode cX12_isProof 1 = .ok (.ifCond .lt 15, 3) := by decide +kernel
theorem dX12_isProof_4 : decode cX12_isProof 4 = .ok (.iload_n 1, 1) := by decide +kernel
theorem dX12_isProof_5 : decode cX12_isProof 5 = .ok (.aload_n 0, 1) := by decide +kernel
theorem dX12_isProof_6 : decode cX12_isProof 6 = .ok (.getfield 447, 3) := by decide +kernel
theorem dX12_isProof_9 : decode cX12_isProof 9 = .ok (.if_icmp .ge 7, 3) := by decide +kernel
theorem dX12_isProof_12 : decode cX12_isProof 12 = .ok (.iconst 1, 1) := by decide +kernel
theorem dX12_isProof_13 : decode cX12_isProof 13 = .ok (.goto 4, 3) := by decide +kernel
theorem dX12_isProof_16 : decode cX12_isProof 16 = .ok (.iconst 0, 1) := by decide +kernel
theorem dX12_isProof_17 : decode cX12_isProof 17 = .ok (.ireturn, 1) := by decide +kernel
theorem dX12_audit_0 : decode cX12_audit 0 = .ok (.aload_n 0, 1) := by decide +kernel
theorem dX12_audit_1 : decode cX12_audit 1 = .ok (.iload_n 1, 1) := by decide +kernel
theorem dX12_audit_2 : decode cX12_audit 2 = .ok (.invokevirtual 459, 3) := by decide +kernel
theorem dX12_audit_5 : decode cX12_audit 5 = .ok (.ifCond .eq 11, 3) := by decide +kernel
theorem dX12_audit_8 : decode cX12_audit 8 = .ok (.aload_n 0, 1) := by decide +kernel
theorem dX12_audit_9 : decode cX12_audit 9 = .ok (.iload_n 2, 1) := by decide +kernel
theorem dX12_audit_10 : decode cX12_audit 10 = .ok (.invokevirtual 218, 3) := by decide +kernel
theorem dX12_audit_13 : decode cX12_audit 13 = .ok (.ifCond .ne 5, 3) := by decide +kernel
theorem dX12_audit_16 : decode cX12_audit 16 = .ok (.iconst (-1), 1) := by decide +kernel
theorem dX12_audit_17 : decode cX12_audit 17 = .ok (.ireturn, 1) := by decide +kernel
theorem dX12_audit_18 : decode cX12_audit 18 = .ok (.iconst 0, 1) := by decide +kernel
theorem dX12_audit_19 : decode cX12_audit 19 = .ok (.istore_n 3, 1) := by decide +kernel
theorem dX12_audit_20 : decode cX12_audit 20 = .ok (.aload_n 0, 1) := by decide +kernel
theorem dX12_audit_21 : decode cX12_audit 21 = .ok (.getfield 150, 3) := by decide +kernel
theorem dX12_audit_24 : decode cX12_audit 24 = .ok (.iload_n 1, 1) := by decide +kernel
theorem dX12_audit_25 : decode cX12_audit 25 = .ok (.iaload, 1) := by decide +kernel
theorem dX12_audit_26 : decode cX12_audit 26 = .ok (.istore 4, 2) := by decide +kernel
theorem dX12_audit_28 : decode cX12_audit 28 = .ok (.iload 4, 2) := by decide +kernel
theorem dX12_audit_30 : decode cX12_audit 30 = .ok (.aload_n 0, 1) := by decide +kernel
theorem dX12_audit_31 : decode cX12_audit 31 = .ok (.getfield 153, 3) := by decide +kernel
theorem dX12_audit_34 : decode cX12_audit 34 = .ok (.iload_n 1, 1) := by decide +kernel
theorem dX12_audit_35 : decode cX12_audit 35 = .ok (.iaload, 1) := by decide +kernel
theorem dX12_audit_36 : decode cX12_audit 36 = .ok (.if_icmp .ge 38, 3) := by decide +kernel
theorem dX12_audit_39 : decode cX12_audit 39 = .ok (.iload_n 3, 1) := by decide +kernel
theorem dX12_audit_40 : decode cX12_audit 40 = .ok (.aload_n 0, 1) := by decide +kernel
theorem dX12_audit_41 : decode cX12_audit 41 = .ok (.getfield 25, 3) := by decide +kernel
theorem dX12_audit_44 : decode cX12_audit 44 = .ok (.aload_n 0, 1) := by decide +kernel
theorem dX12_audit_45 : decode cX12_audit 45 = .ok (.aload_n 0, 1) := by decide +kernel
theorem dX12_audit_46 : decode cX12_audit 46 = .ok (.getfield 147, 3) := by decide +kernel
theorem dX12_audit_49 : decode cX12_audit 49 = .ok (.iload_n 1, 1) := by decide +kernel
theorem dX12_audit_50 : decode cX12_audit 50 = .ok (.iaload, 1) := by decide +kernel
theorem dX12_audit_51 : decode cX12_audit 51 = .ok (.iload 4, 2) := by decide +kernel
theorem dX12_audit_53 : decode cX12_audit 53 = .ok (.invokevirtual 456, 3) := by decide +kernel
theorem dX12_audit_56 : decode cX12_audit 56 = .ok (.iaload, 1) := by decide +kernel
theorem dX12_audit_57 : decode cX12_audit 57 = .ok (.iload_n 2, 1) := by decide +kernel
theorem dX12_audit_58 : decode cX12_audit 58 = .ok (.if_icmp .ne 7, 3) := by decide +kernel
theorem dX12_audit_61 : decode cX12_audit 61 = .ok (.iconst 1, 1) := by decide +kernel
theorem dX12_audit_62 : decode cX12_audit 62 = .ok (.goto 4, 3) := by decide +kernel
theorem dX12_audit_65 : decode cX12_audit 65 = .ok (.iconst 0, 1) := by decide +kernel
theorem dX12_audit_66 : decode cX12_audit 66 = .ok (.iadd, 1) := by decide +kernel
theorem dX12_audit_67 : decode cX12_audit 67 = .ok (.istore_n 3, 1) := by decide +kernel
theorem dX12_audit_68 : decode cX12_audit 68 = .ok (.iinc 4 1, 3) := by decide +kernel
theorem dX12_audit_71 : decode cX12_audit 71 = .ok (.goto (-43), 3) := by decide +kernel
theorem dX12_audit_74 : decode cX12_audit 74 = .ok (.iload_n 3, 1) := by decide +kernel
theorem dX12_audit_75 : decode cX12_audit 75 = .ok (.ireturn, 1) := by decide +kernel
theorem dX12_use_0 : decode cX12_use 0 = .ok (.iload_n 1, 1) := by decide +kernel
theorem dX12_use_1 : decode cX12_use 1 = .ok (.iconst 0, 1) := by decide +kernel
theorem dX12_use_2 : decode cX12_use 2 = .ok (.bipush 9, 2) := by decide +kernel
theorem dX12_use_4 : decode cX12_use 4 = .ok (.invokestatic 214, 3) := by decide +kernel
theorem dX12_use_7 : decode cX12_use 7 = .ok (.ifCond .eq 12, 3) := by decide +kernel
theorem dX12_use_10 : decode cX12_use 10 = .ok (.iload_n 2, 1) := by decide +kernel
theorem dX12_use_11 : decode cX12_use 11 = .ok (.iconst 0, 1) := by decide +kernel
theorem dX12_use_12 : decode cX12_use 12 = .ok (.iconst 3, 1) := by decide +kernel
theorem dX12_use_13 : decode cX12_use 13 = .ok (.invokestatic 214, 3) := by decide +kernel
theorem dX12_use_16 : decode cX12_use 16 = .ok (.ifCond .ne 5, 3) := by decide +kernel
theorem dX12_use_19 : decode cX12_use 19 = .ok (.iconst 0, 1) := by decide +kernel
theorem dX12_use_20 : decode cX12_use 20 = .ok (.ireturn, 1) := by decide +kernel
theorem dX12_use_21 : decode cX12_use 21 = .ok (.aload_n 0, 1) := by decide +kernel
theorem dX12_use_22 : decode cX12_use 22 = .ok (.getfield 162, 3) := by decide +kernel
theorem dX12_use_25 : decode cX12_use 25 = .ok (.iload_n 1, 1) := by decide +kernel
theorem dX12_use_26 : decode cX12_use 26 = .ok (.iload_n 2, 1) := by decide +kernel
theorem dX12_use_27 : decode cX12_use 27 = .ok (.iastore, 1) := by decide +kernel
theorem dX12_use_28 : decode cX12_use 28 = .ok (.iconst 1, 1) := by decide +kernel
theorem dX12_use_29 : decode cX12_use 29 = .ok (.ireturn, 1) := by decide +kernel
theorem dX12_rate_0 : decode cX12_rate 0 = .ok (.iload_n 1, 1) := by decide +kernel
theorem dX12_rate_1 : decode cX12_rate 1 = .ok (.iconst 0, 1) := by decide +kernel
theorem dX12_rate_2 : decode cX12_rate 2 = .ok (.iconst 3, 1) := by decide +kernel
theorem dX12_rate_3 : decode cX12_rate 3 = .ok (.invokestatic 214, 3) := by decide +kernel
theorem dX12_rate_6 : decode cX12_rate 6 = .ok (.ifCond .eq 24, 3) := by decide +kernel
theorem dX12_rate_9 : decode cX12_rate 9 = .ok (.iload_n 2, 1) := by decide +kernel
theorem dX12_rate_10 : decode cX12_rate 10 = .ok (.iconst 0, 1) := by decide +kernel
theorem dX12_rate_11 : decode cX12_rate 11 = .ok (.bipush 57, 2) := by decide +kernel
theorem dX12_rate_13 : decode cX12_rate 13 = .ok (.invokestatic 214, 3) := by decide +kernel
theorem dX12_rate_16 : decode cX12_rate 16 = .ok (.ifCond .eq 14, 3) := by decide +kernel
theorem dX12_rate_19 : decode cX12_rate 19 = .ok (.iload_n 3, 1) := by decide +kernel
theorem dX12_rate_20 : decode cX12_rate 20 = .ok (.iconst 0, 1) := by decide +kernel
theorem dX12_rate_21 : decode cX12_rate 21 = .ok (.sipush 1000, 3) := by decide +kernel
theorem dX12_rate_24 : decode cX12_rate 24 = .ok (.invokestatic 214, 3) := by decide +kernel
theorem dX12_rate_27 : decode cX12_rate 27 = .ok (.ifCond .ne 5, 3) := by decide +kernel
theorem dX12_rate_30 : decode cX12_rate 30 = .ok (.iconst 0, 1) := by decide +kernel
theorem dX12_rate_31 : decode cX12_rate 31 = .ok (.ireturn, 1) := by decide +kernel
theorem dX12_rate_32 : decode cX12_rate 32 = .ok (.aload_n 0, 1) := by decide +kernel
theorem dX12_rate_33 : decode cX12_rate 33 = .ok (.getfield 165, 3) := by decide +kernel
theorem dX12_rate_36 : decode cX12_rate 36 = .ok (.bipush 58, 2) := by decide +kernel
theorem dX12_rate_38 : decode cX12_rate 38 = .ok (.iload_n 1, 1) := by decide +kernel
theorem dX12_rate_39 : decode cX12_rate 39 = .ok (.imul, 1) := by decide +kernel
theorem dX12_rate_40 : decode cX12_rate 40 = .ok (.iload_n 2, 1) := by decide +kernel
theorem dX12_rate_41 : decode cX12_rate 41 = .ok (.iadd, 1) := by decide +kernel
theorem dX12_rate_42 : decode cX12_rate 42 = .ok (.iload_n 3, 1) := by decide +kernel
theorem dX12_rate_43 : decode cX12_rate 43 = .ok (.iastore, 1) := by decide +kernel
theorem dX12_rate_44 : decode cX12_rate 44 = .ok (.iconst 1, 1) := by decide +kernel
theorem dX12_rate_45 : decode cX12_rate 45 = .ok (.ireturn, 1) := by decide +kernel
theorem dX12_tax_0 : decode cX12_tax 0 = .ok (.aload_n 0, 1) := by decide +kernel
theorem dX12_tax_1 : decode cX12_tax 1 = .ok (.iload_n 1, 1) := by decide +kernel
theorem dX12_tax_2 : decode cX12_tax 2 = .ok (.invokevirtual 459, 3) := by decide +kernel
theorem dX12_tax_5 : decode cX12_tax 5 = .ok (.ifCond .eq 52, 3) := by decide +kernel
theorem dX12_tax_8 : decode cX12_tax 8 = .ok (.aload_n 0, 1) := by decide +kernel
theorem dX12_tax_9 : decode cX12_tax 9 = .ok (.getfield 153, 3) := by decide +kernel
theorem dX12_tax_12 : decode cX12_tax 12 = .ok (.iload_n 1, 1) := by decide +kernel
theorem dX12_tax_13 : decode cX12_tax 13 = .ok (.iaload, 1) := by decide +kernel
theorem dX12_tax_14 : decode cX12_tax 14 = .ok (.aload_n 0, 1) := by decide +kernel
theorem dX12_tax_15 : decode cX12_tax 15 = .ok (.getfield 150, 3) := by decide +kernel
theorem dX12_tax_18 : decode cX12_tax 18 = .ok (.iload_n 1, 1) := by decide +kernel
theorem dX12_tax_19 : decode cX12_tax 19 = .ok (.iaload, 1) := by decide +kernel
theorem dX12_tax_20 : decode cX12_tax 20 = .ok (.isub, 1) := by decide +kernel
theorem dX12_tax_21 : decode cX12_tax 21 = .ok (.aload_n 0, 1) := by decide +kernel
theorem dX12_tax_22 : decode cX12_tax 22 = .ok (.getfield 165, 3) := by decide +kernel
theorem dX12_tax_25 : decode cX12_tax 25 = .ok (.bipush 58, 2) := by decide +kernel
theorem dX12_tax_27 : decode cX12_tax 27 = .ok (.aload_n 0, 1) := by decide +kernel
theorem dX12_tax_28 : decode cX12_tax 28 = .ok (.getfield 162, 3) := by decide +kernel
theorem dX12_tax_31 : decode cX12_tax 31 = .ok (.aload_n 0, 1) := by decide +kernel
theorem dX12_tax_32 : decode cX12_tax 32 = .ok (.getfield 156, 3) := by decide +kernel
theorem dX12_tax_35 : decode cX12_tax 35 = .ok (.iload_n 1, 1) := by decide +kernel
theorem dX12_tax_36 : decode cX12_tax 36 = .ok (.iaload, 1) := by decide +kernel
theorem dX12_tax_37 : decode cX12_tax 37 = .ok (.iaload, 1) := by decide +kernel
theorem dX12_tax_38 : decode cX12_tax 38 = .ok (.imul, 1) := by decide +kernel
theorem dX12_tax_39 : decode cX12_tax 39 = .ok (.aload_n 0, 1) := by decide +kernel
theorem dX12_tax_40 : decode cX12_tax 40 = .ok (.getfield 144, 3) := by decide +kernel
theorem dX12_tax_43 : decode cX12_tax 43 = .ok (.iload_n 1, 1) := by decide +kernel
theorem dX12_tax_44 : decode cX12_tax 44 = .ok (.iaload, 1) := by decide +kernel
theorem dX12_tax_45 : decode cX12_tax 45 = .ok (.bipush 7, 2) := by decide +kernel
theorem dX12_tax_47 : decode cX12_tax 47 = .ok (.idiv, 1) := by decide +kernel
theorem dX12_tax_48 : decode cX12_tax 48 = .ok (.iadd, 1) := by decide +kernel
theorem dX12_tax_49 : decode cX12_tax 49 = .ok (.iaload, 1) := by decide +kernel
theorem dX12_tax_50 : decode cX12_tax 50 = .ok (.imul, 1) := by decide +kernel
theorem dX12_tax_51 : decode cX12_tax 51 = .ok (.bipush 100, 2) := by decide +kernel
theorem dX12_tax_53 : decode cX12_tax 53 = .ok (.idiv, 1) := by decide +kernel
theorem dX12_tax_54 : decode cX12_tax 54 = .ok (.goto 4, 3) := by decide +kernel
theorem dX12_tax_57 : decode cX12_tax 57 = .ok (.iconst (-1), 1) := by decide +kernel
theorem dX12_tax_58 : decode cX12_tax 58 = .ok (.ireturn, 1) := by decide +kernel
theorem dX12_most_0 : decode cX12_most 0 = .ok (.iload_n 1, 1) := by decide +kernel
theorem dX12_most_1 : decode cX12_most 1 = .ok (.iconst 0, 1) := by decide +kernel
theorem dX12_most_2 : decode cX12_most 2 = .ok (.bipush 9, 2) := by decide +kernel
theorem dX12_most_4 : decode cX12_most 4 = .ok (.invokestatic 214, 3) := by decide +kernel
theorem dX12_most_7 : decode cX12_most 7 = .ok (.ifCond .eq 14, 3) := by decide +kernel
theorem dX12_most_10 : decode cX12_most 10 = .ok (.iload_n 2, 1) := by decide +kernel
theorem dX12_most_11 : decode cX12_most 11 = .ok (.iconst 0, 1) := by decide +kernel
theorem dX12_most_12 : decode cX12_most 12 = .ok (.ldc_w 334, 3) := by decide +kernel
theorem dX12_most_15 : decode cX12_most 15 = .ok (.invokestatic 214, 3) := by decide +kernel
theorem dX12_most_18 : decode cX12_most 18 = .ok (.ifCond .ne 5, 3) := by decide +kernel
theorem dX12_most_21 : decode cX12_most 21 = .ok (.iconst 0, 1) := by decide +kernel
theorem dX12_most_22 : decode cX12_most 22 = .ok (.ireturn, 1) := by decide +kernel
theorem dX12_most_23 : decode cX12_most 23 = .ok (.aload_n 0, 1) := by decide +kernel
theorem dX12_most_24 : decode cX12_most 24 = .ok (.getfield 168, 3) := by decide +kernel
theorem dX12_most_27 : decode cX12_most 27 = .ok (.iload_n 1, 1) := by decide +kernel
theorem dX12_most_28 : decode cX12_most 28 = .ok (.iload_n 2, 1) := by decide +kernel
theorem dX12_most_29 : decode cX12_most 29 = .ok (.iastore, 1) := by decide +kernel
theorem dX12_most_30 : decode cX12_most 30 = .ok (.iconst 1, 1) := by decide +kernel
theorem dX12_most_31 : decode cX12_most 31 = .ok (.ireturn, 1) := by decide +kernel
theorem dX12_overdrawn_0 : decode cX12_overdrawn 0 = .ok (.iload_n 1, 1) := by decide +kernel
theorem dX12_overdrawn_1 : decode cX12_overdrawn 1 = .ok (.iconst 0, 1) := by decide +kernel
theorem dX12_overdrawn_2 : decode cX12_overdrawn 2 = .ok (.bipush 57, 2) := by decide +kernel
theorem dX12_overdrawn_4 : decode cX12_overdrawn 4 = .ok (.invokestatic 214, 3) := by decide +kernel
theorem dX12_overdrawn_7 : decode cX12_overdrawn 7 = .ok (.ifCond .ne 5, 3) := by decide +kernel
theorem dX12_overdrawn_10 : decode cX12_overdrawn 10 = .ok (.iconst (-1), 1) := by decide +kernel
theorem dX12_overdrawn_11 : decode cX12_overdrawn 11 = .ok (.ireturn, 1) := by decide +kernel
theorem dX12_overdrawn_12 : decode cX12_overdrawn 12 = .ok (.iconst 0, 1) := by decide +kernel
theorem dX12_overdrawn_13 : decode cX12_overdrawn 13 = .ok (.istore_n 2, 1) := by decide +kernel
theorem dX12_overdrawn_14 : decode cX12_overdrawn 14 = .ok (.iconst 0, 1) := by decide +kernel
theorem dX12_overdrawn_15 : decode cX12_overdrawn 15 = .ok (.istore_n 3, 1) := by decide +kernel
theorem dX12_overdrawn_16 : decode cX12_overdrawn 16 = .ok (.iload_n 3, 1) := by decide +kernel
theorem dX12_overdrawn_17 : decode cX12_overdrawn 17 = .ok (.bipush 10, 2) := by decide +kernel
theorem dX12_overdrawn_19 : decode cX12_overdrawn 19 = .ok (.if_icmp .ge 100, 3) := by decide +kernel
theorem dX12_overdrawn_22 : decode cX12_overdrawn 22 = .ok (.iconst 0, 1) := by decide +kernel
theorem dX12_overdrawn_23 : decode cX12_overdrawn 23 = .ok (.istore 4, 2) := by decide +kernel
theorem dX12_overdrawn_25 : decode cX12_overdrawn 25 = .ok (.iconst 0, 1) := by decide +kernel
theorem dX12_overdrawn_26 : decode cX12_overdrawn 26 = .ok (.istore 5, 2) := by decide +kernel
theorem dX12_overdrawn_28 : decode cX12_overdrawn 28 = .ok (.iload 5, 2) := by decide +kernel
theorem dX12_overdrawn_30 : decode cX12_overdrawn 30 = .ok (.aload_n 0, 1) := by decide +kernel
theorem dX12_overdrawn_31 : decode cX12_overdrawn 31 = .ok (.getfield 447, 3) := by decide +kernel
theorem dX12_overdrawn_34 : decode cX12_overdrawn 34 = .ok (.if_icmp .ge 58, 3) := by decide +kernel
theorem dX12_overdrawn_37 : decode cX12_overdrawn 37 = .ok (.iload 4, 2) := by decide +kernel
theorem dX12_overdrawn_39 : decode cX12_overdrawn 39 = .ok (.aload_n 0, 1) := by decide +kernel
theorem dX12_overdrawn_40 : decode cX12_overdrawn 40 = .ok (.getfield 156, 3) := by decide +kernel
theorem dX12_overdrawn_43 : decode cX12_overdrawn 43 = .ok (.iload 5, 2) := by decide +kernel
theorem dX12_overdrawn_45 : decode cX12_overdrawn 45 = .ok (.iaload, 1) := by decide +kernel
theorem dX12_overdrawn_46 : decode cX12_overdrawn 46 = .ok (.iload_n 3, 1) := by decide +kernel
theorem dX12_overdrawn_47 : decode cX12_overdrawn 47 = .ok (.if_icmp .ne 35, 3) := by decide +kernel
theorem dX12_overdrawn_50 : decode cX12_overdrawn 50 = .ok (.aload_n 0, 1) := by decide +kernel
theorem dX12_overdrawn_51 : decode cX12_overdrawn 51 = .ok (.getfield 144, 3) := by decide +kernel
theorem dX12_overdrawn_54 : decode cX12_overdrawn 54 = .ok (.iload 5, 2) := by decide +kernel
theorem dX12_overdrawn_56 : decode cX12_overdrawn 56 = .ok (.iaload, 1) := by decide +kernel
theorem dX12_overdrawn_57 : decode cX12_overdrawn 57 = .ok (.bipush 7, 2) := by decide +kernel
theorem dX12_overdrawn_59 : decode cX12_overdrawn 59 = .ok (.idiv, 1) := by decide +kernel
theorem dX12_overdrawn_60 : decode cX12_overdrawn 60 = .ok (.iload_n 1, 1) := by decide +kernel
theorem dX12_overdrawn_61 : decode cX12_overdrawn 61 = .ok (.if_icmp .ne 21, 3) := by decide +kernel
theorem dX12_overdrawn_64 : decode cX12_overdrawn 64 = .ok (.aload_n 0, 1) := by decide +kernel
theorem dX12_overdrawn_65 : decode cX12_overdrawn 65 = .ok (.getfield 153, 3) := by decide +kernel
theorem dX12_overdrawn_68 : decode cX12_overdrawn 68 = .ok (.iload 5, 2) := by decide +kernel
theorem dX12_overdrawn_70 : decode cX12_overdrawn 70 = .ok (.iaload, 1) := by decide +kernel
theorem dX12_overdrawn_71 : decode cX12_overdrawn 71 = .ok (.aload_n 0, 1) := by decide +kernel
theorem dX12_overdrawn_72 : decode cX12_overdrawn 72 = .ok (.getfield 150, 3) := by decide +kernel
theorem dX12_overdrawn_75 : decode cX12_overdrawn 75 = .ok (.iload 5, 2) := by decide +kernel
theorem dX12_overdrawn_77 : decode cX12_overdrawn 77 = .ok (.iaload, 1) := by decide +kernel
theorem dX12_overdrawn_78 : decode cX12_overdrawn 78 = .ok (.isub, 1) := by decide +kernel
theorem dX12_overdrawn_79 : decode cX12_overdrawn 79 = .ok (.goto 4, 3) := by decide +kernel
theorem dX12_overdrawn_82 : decode cX12_overdrawn 82 = .ok (.iconst 0, 1) := by decide +kernel
theorem dX12_overdrawn_83 : decode cX12_overdrawn 83 = .ok (.iadd, 1) := by decide +kernel
theorem dX12_overdrawn_84 : decode cX12_overdrawn 84 = .ok (.istore 4, 2) := by decide +kernel
theorem dX12_overdrawn_86 : decode cX12_overdrawn 86 = .ok (.iinc 5 1, 3) := by decide +kernel
theorem dX12_overdrawn_89 : decode cX12_overdrawn 89 = .ok (.goto (-61), 3) := by decide +kernel
theorem dX12_overdrawn_92 : decode cX12_overdrawn 92 = .ok (.iload 4, 2) := by decide +kernel
theorem dX12_overdrawn_94 : decode cX12_overdrawn 94 = .ok (.aload_n 0, 1) := by decide +kernel
theorem dX12_overdrawn_95 : decode cX12_overdrawn 95 = .ok (.getfield 168, 3) := by decide +kernel
theorem dX12_overdrawn_98 : decode cX12_overdrawn 98 = .ok (.iload_n 3, 1) := by decide +kernel
theorem dX12_overdrawn_99 : decode cX12_overdrawn 99 = .ok (.iaload, 1) := by decide +kernel
theorem dX12_overdrawn_100 : decode cX12_overdrawn 100 = .ok (.if_icmp .le 11, 3) := by decide +kernel
theorem dX12_overdrawn_103 : decode cX12_overdrawn 103 = .ok (.iload_n 2, 1) := by decide +kernel
theorem dX12_overdrawn_104 : decode cX12_overdrawn 104 = .ok (.iconst 1, 1) := by decide +kernel
theorem dX12_overdrawn_105 : decode cX12_overdrawn 105 = .ok (.iload_n 3, 1) := by decide +kernel
theorem dX12_overdrawn_106 : decode cX12_overdrawn 106 = .ok (.ishl, 1) := by decide +kernel
theorem dX12_overdrawn_107 : decode cX12_overdrawn 107 = .ok (.ior, 1) := by decide +kernel
theorem dX12_overdrawn_108 : decode cX12_overdrawn 108 = .ok (.goto 4, 3) := by decide +kernel
theorem dX12_overdrawn_111 : decode cX12_overdrawn 111 = .ok (.iload_n 2, 1) := by decide +kernel
theorem dX12_overdrawn_112 : decode cX12_overdrawn 112 = .ok (.istore_n 2, 1) := by decide +kernel
theorem dX12_overdrawn_113 : decode cX12_overdrawn 113 = .ok (.iinc 3 1, 3) := by decide +kernel
theorem dX12_overdrawn_116 : decode cX12_overdrawn 116 = .ok (.goto (-100), 3) := by decide +kernel
theorem dX12_overdrawn_119 : decode cX12_overdrawn 119 = .ok (.iload_n 2, 1) := by decide +kernel
theorem dX12_overdrawn_120 : decode cX12_overdrawn 120 = .ok (.ireturn, 1) := by decide +kernel
theorem dX12_sample_0 : decode cX12_sample 0 = .ok (.aload_n 0, 1) := by decide +kernel
theorem dX12_sample_1 : decode cX12_sample 1 = .ok (.iload_n 1, 1) := by decide +kernel
theorem dX12_sample_2 : decode cX12_sample 2 = .ok (.invokevirtual 450, 3) := by decide +kernel
theorem dX12_sample_5 : decode cX12_sample 5 = .ok (.ifCond .eq 25, 3) := by decide +kernel
theorem dX12_sample_8 : decode cX12_sample 8 = .ok (.iload_n 2, 1) := by decide +kernel
theorem dX12_sample_9 : decode cX12_sample 9 = .ok (.iconst 0, 1) := by decide +kernel
theorem dX12_sample_10 : decode cX12_sample 10 = .ok (.sipush 1000, 3) := by decide +kernel
theorem dX12_sample_13 : decode cX12_sample 13 = .ok (.invokestatic 214, 3) := by decide +kernel
theorem dX12_sample_16 : decode cX12_sample 16 = .ok (.ifCond .eq 14, 3) := by decide +kernel
theorem dX12_sample_19 : decode cX12_sample 19 = .ok (.aload_n 0, 1) := by decide +kernel
theorem dX12_sample_20 : decode cX12_sample 20 = .ok (.getfield 171, 3) := by decide +kernel
theorem dX12_sample_23 : decode cX12_sample 23 = .ok (.iload_n 1, 1) := by decide +kernel
theorem dX12_sample_24 : decode cX12_sample 24 = .ok (.iaload, 1) := by decide +kernel
theorem dX12_sample_25 : decode cX12_sample 25 = .ok (.bipush 12, 2) := by decide +kernel
theorem dX12_sample_27 : decode cX12_sample 27 = .ok (.if_icmp .ne 5, 3) := by decide +kernel
theorem dX12_sample_30 : decode cX12_sample 30 = .ok (.iconst (-1), 1) := by decide +kernel
theorem dX12_sample_31 : decode cX12_sample 31 = .ok (.ireturn, 1) := by decide +kernel
theorem dX12_sample_32 : decode cX12_sample 32 = .ok (.aload_n 0, 1) := by decide +kernel
theorem dX12_sample_33 : decode cX12_sample 33 = .ok (.getfield 174, 3) := by decide +kernel
theorem dX12_sample_36 : decode cX12_sample 36 = .ok (.bipush 12, 2) := by decide +kernel
theorem dX12_sample_38 : decode cX12_sample 38 = .ok (.iload_n 1, 1) := by decide +kernel
theorem dX12_sample_39 : decode cX12_sample 39 = .ok (.imul, 1) := by decide +kernel
theorem dX12_sample_40 : decode cX12_sample 40 = .ok (.aload_n 0, 1) := by decide +kernel
theorem dX12_sample_41 : decode cX12_sample 41 = .ok (.getfield 171, 3) := by decide +kernel
theorem dX12_sample_44 : decode cX12_sample 44 = .ok (.iload_n 1, 1) := by decide +kernel
theorem dX12_sample_45 : decode cX12_sample 45 = .ok (.iaload, 1) := by decide +kernel
theorem dX12_sample_46 : decode cX12_sample 46 = .ok (.iadd, 1) := by decide +kernel
theorem dX12_sample_47 : decode cX12_sample 47 = .ok (.iload_n 2, 1) := by decide +kernel
theorem dX12_sample_48 : decode cX12_sample 48 = .ok (.iastore, 1) := by decide +kernel
theorem dX12_sample_49 : decode cX12_sample 49 = .ok (.aload_n 0, 1) := by decide +kernel
theorem dX12_sample_50 : decode cX12_sample 50 = .ok (.getfield 171, 3) := by decide +kernel
theorem dX12_sample_53 : decode cX12_sample 53 = .ok (.iload_n 1, 1) := by decide +kernel
theorem dX12_sample_54 : decode cX12_sample 54 = .ok (.aload_n 0, 1) := by decide +kernel
theorem dX12_sample_55 : decode cX12_sample 55 = .ok (.getfield 171, 3) := by decide +kernel
theorem dX12_sample_58 : decode cX12_sample 58 = .ok (.iload_n 1, 1) := by decide +kernel
theorem dX12_sample_59 : decode cX12_sample 59 = .ok (.iaload, 1) := by decide +kernel
theorem dX12_sample_60 : decode cX12_sample 60 = .ok (.iconst 1, 1) := by decide +kernel
theorem dX12_sample_61 : decode cX12_sample 61 = .ok (.iadd, 1) := by decide +kernel
theorem dX12_sample_62 : decode cX12_sample 62 = .ok (.iastore, 1) := by decide +kernel
theorem dX12_sample_63 : decode cX12_sample 63 = .ok (.aload_n 0, 1) := by decide +kernel
theorem dX12_sample_64 : decode cX12_sample 64 = .ok (.getfield 171, 3) := by decide +kernel
theorem dX12_sample_67 : decode cX12_sample 67 = .ok (.iload_n 1, 1) := by decide +kernel
theorem dX12_sample_68 : decode cX12_sample 68 = .ok (.iaload, 1) := by decide +kernel
theorem dX12_sample_69 : decode cX12_sample 69 = .ok (.ireturn, 1) := by decide +kernel
theorem dX12_claim_0 : decode cX12_claim 0 = .ok (.aload_n 0, 1) := by decide +kernel
theorem dX12_claim_1 : decode cX12_claim 1 = .ok (.iload_n 1, 1) := by decide +kernel
theorem dX12_claim_2 : decode cX12_claim 2 = .ok (.invokevirtual 450, 3) := by decide +kernel
theorem dX12_claim_5 : decode cX12_claim 5 = .ok (.ifCond .eq 25, 3) := by decide +kernel
theorem dX12_claim_8 : decode cX12_claim 8 = .ok (.iload_n 2, 1) := by decide +kernel
theorem dX12_claim_9 : decode cX12_claim 9 = .ok (.iconst 0, 1) := by decide +kernel
theorem dX12_claim_10 : decode cX12_claim 10 = .ok (.sipush 1000, 3) := by decide +kernel
theorem dX12_claim_13 : decode cX12_claim 13 = .ok (.invokestatic 214, 3) := by decide +kernel
theorem dX12_claim_16 : decode cX12_claim 16 = .ok (.ifCond .eq 14, 3) := by decide +kernel
theorem dX12_claim_19 : decode cX12_claim 19 = .ok (.iload_n 3, 1) := by decide +kernel
theorem dX12_claim_20 : decode cX12_claim 20 = .ok (.iconst 0, 1) := by decide +kernel
theorem dX12_claim_21 : decode cX12_claim 21 = .ok (.sipush 1000, 3) := by decide +kernel
theorem dX12_claim_24 : decode cX12_claim 24 = .ok (.invokestatic 214, 3) := by decide +kernel
theorem dX12_claim_27 : decode cX12_claim 27 = .ok (.ifCond .ne 5, 3) := by decide +kernel
theorem dX12_claim_30 : decode cX12_claim 30 = .ok (.iconst (-1), 1) := by decide +kernel
theorem dX12_claim_31 : decode cX12_claim 31 = .ok (.ireturn, 1) := by decide +kernel
theorem dX12_claim_32 : decode cX12_claim 32 = .ok (.iconst 0, 1) := by decide +kernel
theorem dX12_claim_33 : decode cX12_claim 33 = .ok (.istore 4, 2) := by decide +kernel
theorem dX12_claim_35 : decode cX12_claim 35 = .ok (.iconst 0, 1) := by decide +kernel
theorem dX12_claim_36 : decode cX12_claim 36 = .ok (.istore 5, 2) := by decide +kernel
theorem dX12_claim_38 : decode cX12_claim 38 = .ok (.iload 5, 2) := by decide +kernel
theorem dX12_claim_40 : decode cX12_claim 40 = .ok (.aload_n 0, 1) := by decide +kernel
theorem dX12_claim_41 : decode cX12_claim 41 = .ok (.getfield 171, 3) := by decide +kernel
theorem dX12_claim_44 : decode cX12_claim 44 = .ok (.iload_n 1, 1) := by decide +kernel
theorem dX12_claim_45 : decode cX12_claim 45 = .ok (.iaload, 1) := by decide +kernel
theorem dX12_claim_46 : decode cX12_claim 46 = .ok (.if_icmp .ge 37, 3) := by decide +kernel
theorem dX12_claim_49 : decode cX12_claim 49 = .ok (.iload 4, 2) := by decide +kernel
theorem dX12_claim_51 : decode cX12_claim 51 = .ok (.aload_n 0, 1) := by decide +kernel
theorem dX12_claim_52 : decode cX12_claim 52 = .ok (.getfield 174, 3) := by decide +kernel
theorem dX12_claim_55 : decode cX12_claim 55 = .ok (.bipush 12, 2) := by decide +kernel
theorem dX12_claim_57 : decode cX12_claim 57 = .ok (.iload_n 1, 1) := by decide +kernel
theorem dX12_claim_58 : decode cX12_claim 58 = .ok (.imul, 1) := by decide +kernel
theorem dX12_claim_59 : decode cX12_claim 59 = .ok (.iload 5, 2) := by decide +kernel
theorem dX12_claim_61 : decode cX12_claim 61 = .ok (.iadd, 1) := by decide +kernel
theorem dX12_claim_62 : decode cX12_claim 62 = .ok (.iaload, 1) := by decide +kernel
theorem dX12_claim_63 : decode cX12_claim 63 = .ok (.iload_n 2, 1) := by decide +kernel
theorem dX12_claim_64 : decode cX12_claim 64 = .ok (.iload_n 3, 1) := by decide +kernel
theorem dX12_claim_65 : decode cX12_claim 65 = .ok (.isub, 1) := by decide +kernel
theorem dX12_claim_66 : decode cX12_claim 66 = .ok (.if_icmp .lt 7, 3) := by decide +kernel
theorem dX12_claim_69 : decode cX12_claim 69 = .ok (.iconst 1, 1) := by decide +kernel
theorem dX12_claim_70 : decode cX12_claim 70 = .ok (.goto 4, 3) := by decide +kernel
theorem dX12_claim_73 : decode cX12_claim 73 = .ok (.iconst 0, 1) := by decide +kernel
theorem dX12_claim_74 : decode cX12_claim 74 = .ok (.iadd, 1) := by decide +kernel
theorem dX12_claim_75 : decode cX12_claim 75 = .ok (.istore 4, 2) := by decide +kernel
theorem dX12_claim_77 : decode cX12_claim 77 = .ok (.iinc 5 1, 3) := by decide +kernel
theorem dX12_claim_80 : decode cX12_claim 80 = .ok (.goto (-42), 3) := by decide +kernel
theorem dX12_claim_83 : decode cX12_claim 83 = .ok (.aload_n 0, 1) := by decide +kernel
theorem dX12_claim_84 : decode cX12_claim 84 = .ok (.getfield 171, 3) := by decide +kernel
theorem dX12_claim_87 : decode cX12_claim 87 = .ok (.iload_n 1, 1) := by decide +kernel
theorem dX12_claim_88 : decode cX12_claim 88 = .ok (.iaload, 1) := by decide +kernel
theorem dX12_claim_89 : decode cX12_claim 89 = .ok (.iload 4, 2) := by decide +kernel
theorem dX12_claim_91 : decode cX12_claim 91 = .ok (.isub, 1) := by decide +kernel
theorem dX12_claim_92 : decode cX12_claim 92 = .ok (.istore 5, 2) := by decide +kernel
theorem dX12_claim_94 : decode cX12_claim 94 = .ok (.iload 4, 2) := by decide +kernel
theorem dX12_claim_96 : decode cX12_claim 96 = .ok (.iload 5, 2) := by decide +kernel
theorem dX12_claim_98 : decode cX12_claim 98 = .ok (.if_icmp .le 7, 3) := by decide +kernel
theorem dX12_claim_101 : decode cX12_claim 101 = .ok (.iconst 1, 1) := by decide +kernel
theorem dX12_claim_102 : decode cX12_claim 102 = .ok (.goto 15, 3) := by decide +kernel
theorem dX12_claim_105 : decode cX12_claim 105 = .ok (.iload 5, 2) := by decide +kernel
theorem dX12_claim_107 : decode cX12_claim 107 = .ok (.iload 4, 2) := by decide +kernel
theorem dX12_claim_109 : decode cX12_claim 109 = .ok (.if_icmp .le 7, 3) := by decide +kernel
theorem dX12_claim_112 : decode cX12_claim 112 = .ok (.iconst 0, 1) := by decide +kernel
theorem dX12_claim_113 : decode cX12_claim 113 = .ok (.goto 4, 3) := by decide +kernel
theorem dX12_claim_116 : decode cX12_claim 116 = .ok (.iconst 2, 1) := by decide +kernel
theorem dX12_claim_117 : decode cX12_claim 117 = .ok (.ireturn, 1) := by decide +kernel
theorem dX12_spill_0 : decode cX12_spill 0 = .ok (.iload_n 1, 1) := by decide +kernel
theorem dX12_spill_1 : decode cX12_spill 1 = .ok (.iconst 0, 1) := by decide +kernel
theorem dX12_spill_2 : decode cX12_spill 2 = .ok (.aload_n 0, 1) := by decide +kernel
theorem dX12_spill_3 : decode cX12_spill 3 = .ok (.getfield 211, 3) := by decide +kernel
theorem dX12_spill_6 : decode cX12_spill 6 = .ok (.invokestatic 214, 3) := by decide +kernel
theorem dX12_spill_9 : decode cX12_spill 9 = .ok (.ifCond .eq 23, 3) := by decide +kernel
theorem dX12_spill_12 : decode cX12_spill 12 = .ok (.iload_n 2, 1) := by decide +kernel
theorem dX12_spill_13 : decode cX12_spill 13 = .ok (.iconst 1, 1) := by decide +kernel
theorem dX12_spill_14 : decode cX12_spill 14 = .ok (.sipush 400, 3) := by decide +kernel
theorem dX12_spill_17 : decode cX12_spill 17 = .ok (.invokestatic 214, 3) := by decide +kernel
theorem dX12_spill_20 : decode cX12_spill 20 = .ok (.ifCond .eq 12, 3) := by decide +kernel
theorem dX12_spill_23 : decode cX12_spill 23 = .ok (.aload_n 0, 1) := by decide +kernel
theorem dX12_spill_24 : decode cX12_spill 24 = .ok (.getfield 462, 3) := by decide +kernel
theorem dX12_spill_27 : decode cX12_spill 27 = .ok (.bipush 40, 2) := by decide +kernel
theorem dX12_spill_29 : decode cX12_spill 29 = .ok (.if_icmp .ne 5, 3) := by decide +kernel
theorem dX12_spill_32 : decode cX12_spill 32 = .ok (.iconst (-1), 1) := by decide +kernel
theorem dX12_spill_33 : decode cX12_spill 33 = .ok (.ireturn, 1) := by decide +kernel
theorem dX12_spill_34 : decode cX12_spill 34 = .ok (.aload_n 0, 1) := by decide +kernel
theorem dX12_spill_35 : decode cX12_spill 35 = .ok (.getfield 177, 3) := by decide +kernel
theorem dX12_spill_38 : decode cX12_spill 38 = .ok (.aload_n 0, 1) := by decide +kernel
theorem dX12_spill_39 : decode cX12_spill 39 = .ok (.getfield 462, 3) := by decide +kernel
theorem dX12_spill_42 : decode cX12_spill 42 = .ok (.iload_n 1, 1) := by decide +kernel
theorem dX12_spill_43 : decode cX12_spill 43 = .ok (.iastore, 1) := by decide +kernel
theorem dX12_spill_44 : decode cX12_spill 44 = .ok (.aload_n 0, 1) := by decide +kernel
theorem dX12_spill_45 : decode cX12_spill 45 = .ok (.getfield 180, 3) := by decide +kernel
theorem dX12_spill_48 : decode cX12_spill 48 = .ok (.aload_n 0, 1) := by decide +kernel
theorem dX12_spill_49 : decode cX12_spill 49 = .ok (.getfield 462, 3) := by decide +kernel
theorem dX12_spill_52 : decode cX12_spill 52 = .ok (.iload_n 2, 1) := by decide +kernel
theorem dX12_spill_53 : decode cX12_spill 53 = .ok (.iastore, 1) := by decide +kernel
theorem dX12_spill_54 : decode cX12_spill 54 = .ok (.aload_n 0, 1) := by decide +kernel
theorem dX12_spill_55 : decode cX12_spill 55 = .ok (.aload_n 0, 1) := by decide +kernel
theorem dX12_spill_56 : decode cX12_spill 56 = .ok (.getfield 462, 3) := by decide +kernel
theorem dX12_spill_59 : decode cX12_spill 59 = .ok (.iconst 1, 1) := by decide +kernel
theorem dX12_spill_60 : decode cX12_spill 60 = .ok (.iadd, 1) := by decide +kernel
theorem dX12_spill_61 : decode cX12_spill 61 = .ok (.putfield 462, 3) := by decide +kernel
theorem dX12_spill_64 : decode cX12_spill 64 = .ok (.aload_n 0, 1) := by decide +kernel
theorem dX12_spill_65 : decode cX12_spill 65 = .ok (.getfield 462, 3) := by decide +kernel
theorem dX12_spill_68 : decode cX12_spill 68 = .ok (.ireturn, 1) := by decide +kernel
theorem dX12_stockOn_0 : decode cX12_stockOn 0 = .ok (.iconst 0, 1) := by decide +kernel
theorem dX12_stockOn_1 : decode cX12_stockOn 1 = .ok (.istore_n 2, 1) := by decide +kernel
theorem dX12_stockOn_2 : decode cX12_stockOn 2 = .ok (.iconst 0, 1) := by decide +kernel
theorem dX12_stockOn_3 : decode cX12_stockOn 3 = .ok (.istore_n 3, 1) := by decide +kernel
theorem dX12_stockOn_4 : decode cX12_stockOn 4 = .ok (.iload_n 3, 1) := by decide +kernel
theorem dX12_stockOn_5 : decode cX12_stockOn 5 = .ok (.aload_n 0, 1) := by decide +kernel
theorem dX12_stockOn_6 : decode cX12_stockOn 6 = .ok (.getfield 208, 3) := by decide +kernel
theorem dX12_stockOn_9 : decode cX12_stockOn 9 = .ok (.if_icmp .ge 32, 3) := by decide +kernel
theorem dX12_stockOn_12 : decode cX12_stockOn 12 = .ok (.iload_n 2, 1) := by decide +kernel
theorem dX12_stockOn_13 : decode cX12_stockOn 13 = .ok (.aload_n 0, 1) := by decide +kernel
theorem dX12_stockOn_14 : decode cX12_stockOn 14 = .ok (.getfield 28, 3) := by decide +kernel
theorem dX12_stockOn_17 : decode cX12_stockOn 17 = .ok (.iload_n 3, 1) := by decide +kernel
theorem dX12_stockOn_18 : decode cX12_stockOn 18 = .ok (.iaload, 1) := by decide +kernel
theorem dX12_stockOn_19 : decode cX12_stockOn 19 = .ok (.iload_n 1, 1) := by decide +kernel
theorem dX12_stockOn_20 : decode cX12_stockOn 20 = .ok (.if_icmp .gt 12, 3) := by decide +kernel
theorem dX12_stockOn_23 : decode cX12_stockOn 23 = .ok (.aload_n 0, 1) := by decide +kernel
theorem dX12_stockOn_24 : decode cX12_stockOn 24 = .ok (.getfield 31, 3) := by decide +kernel
theorem dX12_stockOn_27 : decode cX12_stockOn 27 = .ok (.iload_n 3, 1) := by decide +kernel
theorem dX12_stockOn_28 : decode cX12_stockOn 28 = .ok (.iaload, 1) := by decide +kernel
theorem dX12_stockOn_29 : decode cX12_stockOn 29 = .ok (.goto 4, 3) := by decide +kernel
theorem dX12_stockOn_32 : decode cX12_stockOn 32 = .ok (.iconst 0, 1) := by decide +kernel
theorem dX12_stockOn_33 : decode cX12_stockOn 33 = .ok (.iadd, 1) := by decide +kernel
theorem dX12_stockOn_34 : decode cX12_stockOn 34 = .ok (.istore_n 2, 1) := by decide +kernel
theorem dX12_stockOn_35 : decode cX12_stockOn 35 = .ok (.iinc 3 1, 3) := by decide +kernel
theorem dX12_stockOn_38 : decode cX12_stockOn 38 = .ok (.goto (-34), 3) := by decide +kernel
theorem dX12_stockOn_41 : decode cX12_stockOn 41 = .ok (.iconst 0, 1) := by decide +kernel
theorem dX12_stockOn_42 : decode cX12_stockOn 42 = .ok (.istore_n 3, 1) := by decide +kernel
theorem dX12_stockOn_43 : decode cX12_stockOn 43 = .ok (.iload_n 3, 1) := by decide +kernel
theorem dX12_stockOn_44 : decode cX12_stockOn 44 = .ok (.aload_n 0, 1) := by decide +kernel
theorem dX12_stockOn_45 : decode cX12_stockOn 45 = .ok (.getfield 462, 3) := by decide +kernel
theorem dX12_stockOn_48 : decode cX12_stockOn 48 = .ok (.if_icmp .ge 32, 3) := by decide +kernel
theorem dX12_stockOn_51 : decode cX12_stockOn 51 = .ok (.iload_n 2, 1) := by decide +kernel
theorem dX12_stockOn_52 : decode cX12_stockOn 52 = .ok (.aload_n 0, 1) := by decide +kernel
theorem dX12_stockOn_53 : decode cX12_stockOn 53 = .ok (.getfield 177, 3) := by decide +kernel
theorem dX12_stockOn_56 : decode cX12_stockOn 56 = .ok (.iload_n 3, 1) := by decide +kernel
theorem dX12_stockOn_57 : decode cX12_stockOn 57 = .ok (.iaload, 1) := by decide +kernel
theorem dX12_stockOn_58 : decode cX12_stockOn 58 = .ok (.iload_n 1, 1) := by decide +kernel
theorem dX12_stockOn_59 : decode cX12_stockOn 59 = .ok (.if_icmp .gt 12, 3) := by decide +kernel
theorem dX12_stockOn_62 : decode cX12_stockOn 62 = .ok (.aload_n 0, 1) := by decide +kernel
theorem dX12_stockOn_63 : decode cX12_stockOn 63 = .ok (.getfield 180, 3) := by decide +kernel
theorem dX12_stockOn_66 : decode cX12_stockOn 66 = .ok (.iload_n 3, 1) := by decide +kernel
theorem dX12_stockOn_67 : decode cX12_stockOn 67 = .ok (.iaload, 1) := by decide +kernel
theorem dX12_stockOn_68 : decode cX12_stockOn 68 = .ok (.goto 4, 3) := by decide +kernel
theorem dX12_stockOn_71 : decode cX12_stockOn 71 = .ok (.iconst 0, 1) := by decide +kernel
theorem dX12_stockOn_72 : decode cX12_stockOn 72 = .ok (.isub, 1) := by decide +kernel
theorem dX12_stockOn_73 : decode cX12_stockOn 73 = .ok (.istore_n 2, 1) := by decide +kernel
theorem dX12_stockOn_74 : decode cX12_stockOn 74 = .ok (.iinc 3 1, 3) := by decide +kernel
theorem dX12_stockOn_77 : decode cX12_stockOn 77 = .ok (.goto (-34), 3) := by decide +kernel
theorem dX12_stockOn_80 : decode cX12_stockOn 80 = .ok (.iconst 0, 1) := by decide +kernel
theorem dX12_stockOn_81 : decode cX12_stockOn 81 = .ok (.istore_n 3, 1) := by decide +kernel
theorem dX12_stockOn_82 : decode cX12_stockOn 82 = .ok (.iload_n 3, 1) := by decide +kernel
theorem dX12_stockOn_83 : decode cX12_stockOn 83 = .ok (.aload_n 0, 1) := by decide +kernel
theorem dX12_stockOn_84 : decode cX12_stockOn 84 = .ok (.getfield 435, 3) := by decide +kernel
theorem dX12_stockOn_87 : decode cX12_stockOn 87 = .ok (.if_icmp .ge 31, 3) := by decide +kernel
theorem dX12_stockOn_90 : decode cX12_stockOn 90 = .ok (.iload_n 2, 1) := by decide +kernel
theorem dX12_stockOn_91 : decode cX12_stockOn 91 = .ok (.aload_n 0, 1) := by decide +kernel
theorem dX12_stockOn_92 : decode cX12_stockOn 92 = .ok (.getfield 141, 3) := by decide +kernel
theorem dX12_stockOn_95 : decode cX12_stockOn 95 = .ok (.iload_n 3, 1) := by decide +kernel
theorem dX12_stockOn_96 : decode cX12_stockOn 96 = .ok (.iaload, 1) := by decide +kernel
theorem dX12_stockOn_97 : decode cX12_stockOn 97 = .ok (.iload_n 1, 1) := by decide +kernel
theorem dX12_stockOn_98 : decode cX12_stockOn 98 = .ok (.if_icmp .gt 11, 3) := by decide +kernel
theorem dX12_stockOn_101 : decode cX12_stockOn 101 = .ok (.aload_n 0, 1) := by decide +kernel
theorem dX12_stockOn_102 : decode cX12_stockOn 102 = .ok (.iload_n 3, 1) := by decide +kernel
theorem dX12_stockOn_103 : decode cX12_stockOn 103 = .ok (.invokevirtual 444, 3) := by decide +kernel
theorem dX12_stockOn_106 : decode cX12_stockOn 106 = .ok (.goto 4, 3) := by decide +kernel
theorem dX12_stockOn_109 : decode cX12_stockOn 109 = .ok (.iconst 0, 1) := by decide +kernel
theorem dX12_stockOn_110 : decode cX12_stockOn 110 = .ok (.isub, 1) := by decide +kernel
theorem dX12_stockOn_111 : decode cX12_stockOn 111 = .ok (.istore_n 2, 1) := by decide +kernel
theorem dX12_stockOn_112 : decode cX12_stockOn 112 = .ok (.iinc 3 1, 3) := by decide +kernel
theorem dX12_stockOn_115 : decode cX12_stockOn 115 = .ok (.goto (-33), 3) := by decide +kernel
theorem dX12_stockOn_118 : decode cX12_stockOn 118 = .ok (.iload_n 2, 1) := by decide +kernel
theorem dX12_stockOn_119 : decode cX12_stockOn 119 = .ok (.ireturn, 1) := by decide +kernel
theorem dX12_stock_0 : decode cX12_stock 0 = .ok (.iload_n 1, 1) := by decide +kernel
theorem dX12_stock_1 : decode cX12_stock 1 = .ok (.invokestatic 341, 3) := by decide +kernel
theorem dX12_stock_4 : decode cX12_stock 4 = .ok (.ifCond .eq 11, 3) := by decide +kernel
theorem dX12_stock_7 : decode cX12_stock 7 = .ok (.aload_n 0, 1) := by decide +kernel
theorem dX12_stock_8 : decode cX12_stock 8 = .ok (.iload_n 1, 1) := by decide +kernel
theorem dX12_stock_9 : decode cX12_stock 9 = .ok (.invokevirtual 465, 3) := by decide +kernel
theorem dX12_stock_12 : decode cX12_stock 12 = .ok (.goto 6, 3) := by decide +kernel
theorem dX12_stock_15 : decode cX12_stock 15 = .ok (.ldc_w 468, 3) := by decide +kernel
theorem dX12_stock_18 : decode cX12_stock 18 = .ok (.ireturn, 1) := by decide +kernel
theorem dX12_below_0 : decode cX12_below 0 = .ok (.iload_n 1, 1) := by decide +kernel
theorem dX12_below_1 : decode cX12_below 1 = .ok (.sipush (-10000), 3) := by decide +kernel
theorem dX12_below_4 : decode cX12_below 4 = .ok (.sipush 10000, 3) := by decide +kernel
theorem dX12_below_7 : decode cX12_below 7 = .ok (.invokestatic 214, 3) := by decide +kernel
theorem dX12_below_10 : decode cX12_below 10 = .ok (.ifCond .ne 5, 3) := by decide +kernel
theorem dX12_below_13 : decode cX12_below 13 = .ok (.iconst (-1), 1) := by decide +kernel
theorem dX12_below_14 : decode cX12_below 14 = .ok (.ireturn, 1) := by decide +kernel
theorem dX12_below_15 : decode cX12_below 15 = .ok (.iconst 0, 1) := by decide +kernel
theorem dX12_below_16 : decode cX12_below 16 = .ok (.istore_n 2, 1) := by decide +kernel
theorem dX12_below_17 : decode cX12_below 17 = .ok (.iload_n 2, 1) := by decide +kernel
theorem dX12_below_18 : decode cX12_below 18 = .ok (.aload_n 0, 1) := by decide +kernel
theorem dX12_below_19 : decode cX12_below 19 = .ok (.getfield 211, 3) := by decide +kernel
theorem dX12_below_22 : decode cX12_below 22 = .ok (.if_icmp .gt 20, 3) := by decide +kernel
theorem dX12_below_25 : decode cX12_below 25 = .ok (.aload_n 0, 1) := by decide +kernel
theorem dX12_below_26 : decode cX12_below 26 = .ok (.iload_n 2, 1) := by decide +kernel
theorem dX12_below_27 : decode cX12_below 27 = .ok (.invokevirtual 465, 3) := by decide +kernel
theorem dX12_below_30 : decode cX12_below 30 = .ok (.iload_n 1, 1) := by decide +kernel
theorem dX12_below_31 : decode cX12_below 31 = .ok (.if_icmp .ge 5, 3) := by decide +kernel
theorem dX12_below_34 : decode cX12_below 34 = .ok (.iload_n 2, 1) := by decide +kernel
theorem dX12_below_35 : decode cX12_below 35 = .ok (.ireturn, 1) := by decide +kernel
theorem dX12_below_36 : decode cX12_below 36 = .ok (.iinc 2 1, 3) := by decide +kernel
theorem dX12_below_39 : decode cX12_below 39 = .ok (.goto (-22), 3) := by decide +kernel
theorem dX12_below_42 : decode cX12_below 42 = .ok (.bipush (-2), 2) := by decide +kernel
theorem dX12_below_44 : decode cX12_below 44 = .ok (.ireturn, 1) := by decide +kernel
theorem dX12_offers_0 : decode cX12_offers 0 = .ok (.aload_n 0, 1) := by decide +kernel
theorem dX12_offers_1 : decode cX12_offers 1 = .ok (.iload_n 1, 1) := by decide +kernel
theorem dX12_offers_2 : decode cX12_offers 2 = .ok (.invokevirtual 218, 3) := by decide +kernel
theorem dX12_offers_5 : decode cX12_offers 5 = .ok (.ifCond .eq 25, 3) := by decide +kernel
theorem dX12_offers_8 : decode cX12_offers 8 = .ok (.iload_n 2, 1) := by decide +kernel
theorem dX12_offers_9 : decode cX12_offers 9 = .ok (.iconst 0, 1) := by decide +kernel
theorem dX12_offers_10 : decode cX12_offers 10 = .ok (.sipush 200, 3) := by decide +kernel
theorem dX12_offers_13 : decode cX12_offers 13 = .ok (.invokestatic 214, 3) := by decide +kernel
theorem dX12_offers_16 : decode cX12_offers 16 = .ok (.ifCond .eq 14, 3) := by decide +kernel
theorem dX12_offers_19 : decode cX12_offers 19 = .ok (.iload_n 3, 1) := by decide +kernel
theorem dX12_offers_20 : decode cX12_offers 20 = .ok (.iconst 0, 1) := by decide +kernel
theorem dX12_offers_21 : decode cX12_offers 21 = .ok (.sipush 200, 3) := by decide +kernel
theorem dX12_offers_24 : decode cX12_offers 24 = .ok (.invokestatic 214, 3) := by decide +kernel
theorem dX12_offers_27 : decode cX12_offers 27 = .ok (.ifCond .ne 5, 3) := by decide +kernel
theorem dX12_offers_30 : decode cX12_offers 30 = .ok (.iconst 0, 1) := by decide +kernel
theorem dX12_offers_31 : decode cX12_offers 31 = .ok (.ireturn, 1) := by decide +kernel
theorem dX12_offers_32 : decode cX12_offers 32 = .ok (.aload_n 0, 1) := by decide +kernel
theorem dX12_offers_33 : decode cX12_offers 33 = .ok (.getfield 183, 3) := by decide +kernel
theorem dX12_offers_36 : decode cX12_offers 36 = .ok (.iload_n 1, 1) := by decide +kernel
theorem dX12_offers_37 : decode cX12_offers 37 = .ok (.iload_n 2, 1) := by decide +kernel
theorem dX12_offers_38 : decode cX12_offers 38 = .ok (.iastore, 1) := by decide +kernel
theorem dX12_offers_39 : decode cX12_offers 39 = .ok (.aload_n 0, 1) := by decide +kernel
theorem dX12_offers_40 : decode cX12_offers 40 = .ok (.getfield 186, 3) := by decide +kernel
theorem dX12_offers_43 : decode cX12_offers 43 = .ok (.iload_n 1, 1) := by decide +kernel
theorem dX12_offers_44 : decode cX12_offers 44 = .ok (.iload_n 3, 1) := by decide +kernel
theorem dX12_offers_45 : decode cX12_offers 45 = .ok (.iastore, 1) := by decide +kernel
theorem dX12_offers_46 : decode cX12_offers 46 = .ok (.iconst 1, 1) := by decide +kernel
theorem dX12_offers_47 : decode cX12_offers 47 = .ok (.ireturn, 1) := by decide +kernel
theorem dX12_comers_0 : decode cX12_comers 0 = .ok (.iconst 0, 1) := by decide +kernel
theorem dX12_comers_1 : decode cX12_comers 1 = .ok (.istore_n 2, 1) := by decide +kernel
theorem dX12_comers_2 : decode cX12_comers 2 = .ok (.iconst 0, 1) := by decide +kernel
theorem dX12_comers_3 : decode cX12_comers 3 = .ok (.istore_n 3, 1) := by decide +kernel
theorem dX12_comers_4 : decode cX12_comers 4 = .ok (.iload_n 3, 1) := by decide +kernel
theorem dX12_comers_5 : decode cX12_comers 5 = .ok (.aload_n 0, 1) := by decide +kernel
theorem dX12_comers_6 : decode cX12_comers 6 = .ok (.getfield 204, 3) := by decide +kernel
theorem dX12_comers_9 : decode cX12_comers 9 = .ok (.if_icmp .ge 39, 3) := by decide +kernel
theorem dX12_comers_12 : decode cX12_comers 12 = .ok (.aload_n 0, 1) := by decide +kernel
theorem dX12_comers_13 : decode cX12_comers 13 = .ok (.getfield 183, 3) := by decide +kernel
theorem dX12_comers_16 : decode cX12_comers 16 = .ok (.iload_n 3, 1) := by decide +kernel
theorem dX12_comers_17 : decode cX12_comers 17 = .ok (.iaload, 1) := by decide +kernel
theorem dX12_comers_18 : decode cX12_comers 18 = .ok (.iload_n 1, 1) := by decide +kernel
theorem dX12_comers_19 : decode cX12_comers 19 = .ok (.if_icmp .gt 21, 3) := by decide +kernel
theorem dX12_comers_22 : decode cX12_comers 22 = .ok (.aload_n 0, 1) := by decide +kernel
theorem dX12_comers_23 : decode cX12_comers 23 = .ok (.getfield 186, 3) := by decide +kernel
theorem dX12_comers_26 : decode cX12_comers 26 = .ok (.iload_n 3, 1) := by decide +kernel
theorem dX12_comers_27 : decode cX12_comers 27 = .ok (.iaload, 1) := by decide +kernel
theorem dX12_comers_28 : decode cX12_comers 28 = .ok (.iload_n 1, 1) := by decide +kernel
theorem dX12_comers_29 : decode cX12_comers 29 = .ok (.if_icmp .gt 11, 3) := by decide +kernel
theorem dX12_comers_32 : decode cX12_comers 32 = .ok (.iload_n 2, 1) := by decide +kernel
theorem dX12_comers_33 : decode cX12_comers 33 = .ok (.iconst 1, 1) := by decide +kernel
theorem dX12_comers_34 : decode cX12_comers 34 = .ok (.iload_n 3, 1) := by decide +kernel
theorem dX12_comers_35 : decode cX12_comers 35 = .ok (.ishl, 1) := by decide +kernel
theorem dX12_comers_36 : decode cX12_comers 36 = .ok (.ior, 1) := by decide +kernel
theorem dX12_comers_37 : decode cX12_comers 37 = .ok (.goto 4, 3) := by decide +kernel
theorem dX12_comers_40 : decode cX12_comers 40 = .ok (.iload_n 2, 1) := by decide +kernel
theorem dX12_comers_41 : decode cX12_comers 41 = .ok (.istore_n 2, 1) := by decide +kernel
theorem dX12_comers_42 : decode cX12_comers 42 = .ok (.iinc 3 1, 3) := by decide +kernel
theorem dX12_comers_45 : decode cX12_comers 45 = .ok (.goto (-41), 3) := by decide +kernel
theorem dX12_comers_48 : decode cX12_comers 48 = .ok (.iload_n 2, 1) := by decide +kernel
theorem dX12_comers_49 : decode cX12_comers 49 = .ok (.ireturn, 1) := by decide +kernel
theorem dX12_worthOf_0 : decode cX12_worthOf 0 = .ok (.aload_n 0, 1) := by decide +kernel
theorem dX12_worthOf_1 : decode cX12_worthOf 1 = .ok (.iload_n 1, 1) := by decide +kernel
theorem dX12_worthOf_2 : decode cX12_worthOf 2 = .ok (.invokevirtual 469, 3) := by decide +kernel
theorem dX12_worthOf_5 : decode cX12_worthOf 5 = .ok (.istore_n 3, 1) := by decide +kernel
theorem dX12_worthOf_6 : decode cX12_worthOf 6 = .ok (.iconst 0, 1) := by decide +kernel
theorem dX12_worthOf_7 : decode cX12_worthOf 7 = .ok (.istore 4, 2) := by decide +kernel
theorem dX12_worthOf_9 : decode cX12_worthOf 9 = .ok (.iconst 0, 1) := by decide +kernel
theorem dX12_worthOf_10 : decode cX12_worthOf 10 = .ok (.istore 5, 2) := by decide +kernel
theorem dX12_worthOf_12 : decode cX12_worthOf 12 = .ok (.iload 5, 2) := by decide +kernel
theorem dX12_worthOf_14 : decode cX12_worthOf 14 = .ok (.aload_n 0, 1) := by decide +kernel
theorem dX12_worthOf_15 : decode cX12_worthOf 15 = .ok (.getfield 204, 3) := by decide +kernel
theorem dX12_worthOf_18 : decode cX12_worthOf 18 = .ok (.if_icmp .ge 32, 3) := by decide +kernel
theorem dX12_worthOf_21 : decode cX12_worthOf 21 = .ok (.iload 4, 2) := by decide +kernel
theorem dX12_worthOf_23 : decode cX12_worthOf 23 = .ok (.iload_n 3, 1) := by decide +kernel
theorem dX12_worthOf_24 : decode cX12_worthOf 24 = .ok (.iload 5, 2) := by decide +kernel
theorem dX12_worthOf_26 : decode cX12_worthOf 26 = .ok (.ishr, 1) := by decide +kernel
theorem dX12_worthOf_27 : decode cX12_worthOf 27 = .ok (.iconst 1, 1) := by decide +kernel
theorem dX12_worthOf_28 : decode cX12_worthOf 28 = .ok (.iand, 1) := by decide +kernel
theorem dX12_worthOf_29 : decode cX12_worthOf 29 = .ok (.aload_n 0, 1) := by decide +kernel
theorem dX12_worthOf_30 : decode cX12_worthOf 30 = .ok (.getfield 16, 3) := by decide +kernel
theorem dX12_worthOf_33 : decode cX12_worthOf 33 = .ok (.iload 5, 2) := by decide +kernel
theorem dX12_worthOf_35 : decode cX12_worthOf 35 = .ok (.iaload, 1) := by decide +kernel
theorem dX12_worthOf_36 : decode cX12_worthOf 36 = .ok (.imul, 1) := by decide +kernel
theorem dX12_worthOf_37 : decode cX12_worthOf 37 = .ok (.iload_n 2, 1) := by decide +kernel
theorem dX12_worthOf_38 : decode cX12_worthOf 38 = .ok (.iload_n 1, 1) := by decide +kernel
theorem dX12_worthOf_39 : decode cX12_worthOf 39 = .ok (.isub, 1) := by decide +kernel
theorem dX12_worthOf_40 : decode cX12_worthOf 40 = .ok (.imul, 1) := by decide +kernel
theorem dX12_worthOf_41 : decode cX12_worthOf 41 = .ok (.iadd, 1) := by decide +kernel
theorem dX12_worthOf_42 : decode cX12_worthOf 42 = .ok (.istore 4, 2) := by decide +kernel
theorem dX12_worthOf_44 : decode cX12_worthOf 44 = .ok (.iinc 5 1, 3) := by decide +kernel
theorem dX12_worthOf_47 : decode cX12_worthOf 47 = .ok (.goto (-35), 3) := by decide +kernel
theorem dX12_worthOf_50 : decode cX12_worthOf 50 = .ok (.iload 4, 2) := by decide +kernel
theorem dX12_worthOf_52 : decode cX12_worthOf 52 = .ok (.ireturn, 1) := by decide +kernel
theorem dX12_worth_0 : decode cX12_worth 0 = .ok (.iload_n 1, 1) := by decide +kernel
theorem dX12_worth_1 : decode cX12_worth 1 = .ok (.iconst 0, 1) := by decide +kernel
theorem dX12_worth_2 : decode cX12_worth 2 = .ok (.sipush 200, 3) := by decide +kernel
theorem dX12_worth_5 : decode cX12_worth 5 = .ok (.invokestatic 214, 3) := by decide +kernel
theorem dX12_worth_8 : decode cX12_worth 8 = .ok (.ifCond .eq 23, 3) := by decide +kernel
theorem dX12_worth_11 : decode cX12_worth 11 = .ok (.iload_n 2, 1) := by decide +kernel
theorem dX12_worth_12 : decode cX12_worth 12 = .ok (.iconst 0, 1) := by decide +kernel
theorem dX12_worth_13 : decode cX12_worth 13 = .ok (.sipush 1000, 3) := by decide +kernel
theorem dX12_worth_16 : decode cX12_worth 16 = .ok (.invokestatic 214, 3) := by decide +kernel
theorem dX12_worth_19 : decode cX12_worth 19 = .ok (.ifCond .eq 12, 3) := by decide +kernel
theorem dX12_worth_22 : decode cX12_worth 22 = .ok (.aload_n 0, 1) := by decide +kernel
theorem dX12_worth_23 : decode cX12_worth 23 = .ok (.iload_n 1, 1) := by decide +kernel
theorem dX12_worth_24 : decode cX12_worth 24 = .ok (.iload_n 2, 1) := by decide +kernel
theorem dX12_worth_25 : decode cX12_worth 25 = .ok (.invokevirtual 472, 3) := by decide +kernel
theorem dX12_worth_28 : decode cX12_worth 28 = .ok (.goto 6, 3) := by decide +kernel
theorem dX12_worth_31 : decode cX12_worth 31 = .ok (.ldc_w 468, 3) := by decide +kernel
theorem dX12_worth_34 : decode cX12_worth 34 = .ok (.ireturn, 1) := by decide +kernel
theorem dX12_offer_0 : decode cX12_offer 0 = .ok (.iload_n 1, 1) := by decide +kernel
theorem dX12_offer_1 : decode cX12_offer 1 = .ok (.iconst 0, 1) := by decide +kernel
theorem dX12_offer_2 : decode cX12_offer 2 = .ok (.sipush 1000, 3) := by decide +kernel
theorem dX12_offer_5 : decode cX12_offer 5 = .ok (.invokestatic 214, 3) := by decide +kernel
theorem dX12_offer_8 : decode cX12_offer 8 = .ok (.ifCond .eq 12, 3) := by decide +kernel
theorem dX12_offer_11 : decode cX12_offer 11 = .ok (.iload_n 2, 1) := by decide +kernel
theorem dX12_offer_12 : decode cX12_offer 12 = .ok (.iconst 0, 1) := by decide +kernel
theorem dX12_offer_13 : decode cX12_offer 13 = .ok (.iconst 2, 1) := by decide +kernel
theorem dX12_offer_14 : decode cX12_offer 14 = .ok (.invokestatic 214, 3) := by decide +kernel
theorem dX12_offer_17 : decode cX12_offer 17 = .ok (.ifCond .ne 5, 3) := by decide +kernel
theorem dX12_offer_20 : decode cX12_offer 20 = .ok (.iconst (-1), 1) := by decide +kernel
theorem dX12_offer_21 : decode cX12_offer 21 = .ok (.ireturn, 1) := by decide +kernel
theorem dX12_offer_22 : decode cX12_offer 22 = .ok (.iconst 0, 1) := by decide +kernel
theorem dX12_offer_23 : decode cX12_offer 23 = .ok (.istore_n 3, 1) := by decide +kernel
theorem dX12_offer_24 : decode cX12_offer 24 = .ok (.iconst 1, 1) := by decide +kernel
theorem dX12_offer_25 : decode cX12_offer 25 = .ok (.istore 4, 2) := by decide +kernel
theorem dX12_offer_27 : decode cX12_offer 27 = .ok (.iload 4, 2) := by decide +kernel
theorem dX12_offer_29 : decode cX12_offer 29 = .ok (.sipush 200, 3) := by decide +kernel
theorem dX12_offer_32 : decode cX12_offer 32 = .ok (.if_icmp .gt 32, 3) := by decide +kernel
theorem dX12_offer_35 : decode cX12_offer 35 = .ok (.aload_n 0, 1) := by decide +kernel
theorem dX12_offer_36 : decode cX12_offer 36 = .ok (.iload 4, 2) := by decide +kernel
theorem dX12_offer_38 : decode cX12_offer 38 = .ok (.iload_n 1, 1) := by decide +kernel
theorem dX12_offer_39 : decode cX12_offer 39 = .ok (.invokevirtual 472, 3) := by decide +kernel
theorem dX12_offer_42 : decode cX12_offer 42 = .ok (.aload_n 0, 1) := by decide +kernel
theorem dX12_offer_43 : decode cX12_offer 43 = .ok (.iload_n 3, 1) := by decide +kernel
theorem dX12_offer_44 : decode cX12_offer 44 = .ok (.iload_n 1, 1) := by decide +kernel
theorem dX12_offer_45 : decode cX12_offer 45 = .ok (.invokevirtual 472, 3) := by decide +kernel
theorem dX12_offer_48 : decode cX12_offer 48 = .ok (.if_icmp .le 8, 3) := by decide +kernel
theorem dX12_offer_51 : decode cX12_offer 51 = .ok (.iload 4, 2) := by decide +kernel
theorem dX12_offer_53 : decode cX12_offer 53 = .ok (.goto 4, 3) := by decide +kernel
theorem dX12_offer_56 : decode cX12_offer 56 = .ok (.iload_n 3, 1) := by decide +kernel
theorem dX12_offer_57 : decode cX12_offer 57 = .ok (.istore_n 3, 1) := by decide +kernel
theorem dX12_offer_58 : decode cX12_offer 58 = .ok (.iinc 4 1, 3) := by decide +kernel
theorem dX12_offer_61 : decode cX12_offer 61 = .ok (.goto (-34), 3) := by decide +kernel
theorem dX12_offer_64 : decode cX12_offer 64 = .ok (.iload_n 2, 1) := by decide +kernel
theorem dX12_offer_65 : decode cX12_offer 65 = .ok (.ifCond .ne 7, 3) := by decide +kernel
theorem dX12_offer_68 : decode cX12_offer 68 = .ok (.iload_n 3, 1) := by decide +kernel
theorem dX12_offer_69 : decode cX12_offer 69 = .ok (.goto 22, 3) := by decide +kernel
theorem dX12_offer_72 : decode cX12_offer 72 = .ok (.iload_n 2, 1) := by decide +kernel
theorem dX12_offer_73 : decode cX12_offer 73 = .ok (.iconst 1, 1) := by decide +kernel
theorem dX12_offer_74 : decode cX12_offer 74 = .ok (.if_icmp .ne 12, 3) := by decide +kernel
theorem dX12_offer_77 : decode cX12_offer 77 = .ok (.aload_n 0, 1) := by decide +kernel
theorem dX12_offer_78 : decode cX12_offer 78 = .ok (.iload_n 3, 1) := by decide +kernel
theorem dX12_offer_79 : decode cX12_offer 79 = .ok (.iload_n 1, 1) := by decide +kernel
theorem dX12_offer_80 : decode cX12_offer 80 = .ok (.invokevirtual 472, 3) := by decide +kernel
theorem dX12_offer_83 : decode cX12_offer 83 = .ok (.goto 8, 3) := by decide +kernel
theorem dX12_offer_86 : decode cX12_offer 86 = .ok (.aload_n 0, 1) := by decide +kernel
theorem dX12_offer_87 : decode cX12_offer 87 = .ok (.iload_n 3, 1) := by decide +kernel
theorem dX12_offer_88 : decode cX12_offer 88 = .ok (.invokevirtual 469, 3) := by decide +kernel
theorem dX12_offer_91 : decode cX12_offer 91 = .ok (.ireturn, 1) := by decide +kernel
theorem dX12_thefts_0 : decode cX12_thefts 0 = .ok (.iload_n 1, 1) := by decide +kernel
theorem dX12_thefts_1 : decode cX12_thefts 1 = .ok (.iconst 0, 1) := by decide +kernel
theorem dX12_thefts_2 : decode cX12_thefts 2 = .ok (.bipush 23, 2) := by decide +kernel
theorem dX12_thefts_4 : decode cX12_thefts 4 = .ok (.invokestatic 214, 3) := by decide +kernel
theorem dX12_thefts_7 : decode cX12_thefts 7 = .ok (.ifCond .eq 14, 3) := by decide +kernel
theorem dX12_thefts_10 : decode cX12_thefts 10 = .ok (.iload_n 2, 1) := by decide +kernel
theorem dX12_thefts_11 : decode cX12_thefts 11 = .ok (.iconst 0, 1) := by decide +kernel
theorem dX12_thefts_12 : decode cX12_thefts 12 = .ok (.sipush 1000, 3) := by decide +kernel
theorem dX12_thefts_15 : decode cX12_thefts 15 = .ok (.invokestatic 214, 3) := by decide +kernel
theorem dX12_thefts_18 : decode cX12_thefts 18 = .ok (.ifCond .ne 5, 3) := by decide +kernel
theorem dX12_thefts_21 : decode cX12_thefts 21 = .ok (.iconst 0, 1) := by decide +kernel
theorem dX12_thefts_22 : decode cX12_thefts 22 = .ok (.ireturn, 1) := by decide +kernel
theorem dX12_thefts_23 : decode cX12_thefts 23 = .ok (.aload_n 0, 1) := by decide +kernel
theorem dX12_thefts_24 : decode cX12_thefts 24 = .ok (.getfield 189, 3) := by decide +kernel
theorem dX12_thefts_27 : decode cX12_thefts 27 = .ok (.iload_n 1, 1) := by decide +kernel
theorem dX12_thefts_28 : decode cX12_thefts 28 = .ok (.iload_n 2, 1) := by decide +kernel
theorem dX12_thefts_29 : decode cX12_thefts 29 = .ok (.iastore, 1) := by decide +kernel
theorem dX12_thefts_30 : decode cX12_thefts 30 = .ok (.iconst 1, 1) := by decide +kernel
theorem dX12_thefts_31 : decode cX12_thefts 31 = .ok (.ireturn, 1) := by decide +kernel
theorem dX12_saves_0 : decode cX12_saves 0 = .ok (.iconst 0, 1) := by decide +kernel
theorem dX12_saves_1 : decode cX12_saves 1 = .ok (.istore_n 3, 1) := by decide +kernel
theorem dX12_saves_2 : decode cX12_saves 2 = .ok (.iconst 0, 1) := by decide +kernel
theorem dX12_saves_3 : decode cX12_saves 3 = .ok (.istore 4, 2) := by decide +kernel
theorem dX12_saves_5 : decode cX12_saves 5 = .ok (.iload 4, 2) := by decide +kernel
theorem dX12_saves_7 : decode cX12_saves 7 = .ok (.iload_n 2, 1) := by decide +kernel
theorem dX12_saves_8 : decode cX12_saves 8 = .ok (.if_icmp .ge 24, 3) := by decide +kernel
theorem dX12_saves_11 : decode cX12_saves 11 = .ok (.iload_n 3, 1) := by decide +kernel
theorem dX12_saves_12 : decode cX12_saves 12 = .ok (.aload_n 0, 1) := by decide +kernel
theorem dX12_saves_13 : decode cX12_saves 13 = .ok (.getfield 189, 3) := by decide +kernel
theorem dX12_saves_16 : decode cX12_saves 16 = .ok (.iload_n 1, 1) := by decide +kernel
theorem dX12_saves_17 : decode cX12_saves 17 = .ok (.iload 4, 2) := by decide +kernel
theorem dX12_saves_19 : decode cX12_saves 19 = .ok (.iadd, 1) := by decide +kernel
theorem dX12_saves_20 : decode cX12_saves 20 = .ok (.bipush 24, 2) := by decide +kernel
theorem dX12_saves_22 : decode cX12_saves 22 = .ok (.irem, 1) := by decide +kernel
theorem dX12_saves_23 : decode cX12_saves 23 = .ok (.iaload, 1) := by decide +kernel
theorem dX12_saves_24 : decode cX12_saves 24 = .ok (.iadd, 1) := by decide +kernel
theorem dX12_saves_25 : decode cX12_saves 25 = .ok (.istore_n 3, 1) := by decide +kernel
theorem dX12_saves_26 : decode cX12_saves 26 = .ok (.iinc 4 1, 3) := by decide +kernel
theorem dX12_saves_29 : decode cX12_saves 29 = .ok (.goto (-24), 3) := by decide +kernel
theorem dX12_saves_32 : decode cX12_saves 32 = .ok (.iload_n 3, 1) := by decide +kernel
theorem dX12_saves_33 : decode cX12_saves 33 = .ok (.ireturn, 1) := by decide +kernel
theorem dX12_lock_0 : decode cX12_lock 0 = .ok (.iload_n 1, 1) := by decide +kernel
theorem dX12_lock_1 : decode cX12_lock 1 = .ok (.iconst 1, 1) := by decide +kernel
theorem dX12_lock_2 : decode cX12_lock 2 = .ok (.bipush 12, 2) := by decide +kernel
theorem dX12_lock_4 : decode cX12_lock 4 = .ok (.invokestatic 214, 3) := by decide +kernel
theorem dX12_lock_7 : decode cX12_lock 7 = .ok (.ifCond .eq 12, 3) := by decide +kernel
theorem dX12_lock_10 : decode cX12_lock 10 = .ok (.iload_n 2, 1) := by decide +kernel
theorem dX12_lock_11 : decode cX12_lock 11 = .ok (.iconst 0, 1) := by decide +kernel
theorem dX12_lock_12 : decode cX12_lock 12 = .ok (.iconst 1, 1) := by decide +kernel
theorem dX12_lock_13 : decode cX12_lock 13 = .ok (.invokestatic 214, 3) := by decide +kernel
theorem dX12_lock_16 : decode cX12_lock 16 = .ok (.ifCond .ne 5, 3) := by decide +kernel
theorem dX12_lock_19 : decode cX12_lock 19 = .ok (.iconst (-1), 1) := by decide +kernel
theorem dX12_lock_20 : decode cX12_lock 20 = .ok (.ireturn, 1) := by decide +kernel
theorem dX12_lock_21 : decode cX12_lock 21 = .ok (.iconst 0, 1) := by decide +kernel
theorem dX12_lock_22 : decode cX12_lock 22 = .ok (.istore_n 3, 1) := by decide +kernel
theorem dX12_lock_23 : decode cX12_lock 23 = .ok (.iconst 1, 1) := by decide +kernel
theorem dX12_lock_24 : decode cX12_lock 24 = .ok (.istore 4, 2) := by decide +kernel
theorem dX12_lock_26 : decode cX12_lock 26 = .ok (.iload 4, 2) := by decide +kernel
theorem dX12_lock_28 : decode cX12_lock 28 = .ok (.bipush 24, 2) := by decide +kernel
theorem dX12_lock_30 : decode cX12_lock 30 = .ok (.if_icmp .ge 32, 3) := by decide +kernel
theorem dX12_lock_33 : decode cX12_lock 33 = .ok (.aload_n 0, 1) := by decide +kernel
theorem dX12_lock_34 : decode cX12_lock 34 = .ok (.iload 4, 2) := by decide +kernel
theorem dX12_lock_36 : decode cX12_lock 36 = .ok (.iload_n 1, 1) := by decide +kernel
theorem dX12_lock_37 : decode cX12_lock 37 = .ok (.invokevirtual 475, 3) := by decide +kernel
theorem dX12_lock_40 : decode cX12_lock 40 = .ok (.aload_n 0, 1) := by decide +kernel
theorem dX12_lock_41 : decode cX12_lock 41 = .ok (.iload_n 3, 1) := by decide +kernel
theorem dX12_lock_42 : decode cX12_lock 42 = .ok (.iload_n 1, 1) := by decide +kernel
theorem dX12_lock_43 : decode cX12_lock 43 = .ok (.invokevirtual 475, 3) := by decide +kernel
theorem dX12_lock_46 : decode cX12_lock 46 = .ok (.if_icmp .le 8, 3) := by decide +kernel
theorem dX12_lock_49 : decode cX12_lock 49 = .ok (.iload 4, 2) := by decide +kernel
theorem dX12_lock_51 : decode cX12_lock 51 = .ok (.goto 4, 3) := by decide +kernel
theorem dX12_lock_54 : decode cX12_lock 54 = .ok (.iload_n 3, 1) := by decide +kernel
theorem dX12_lock_55 : decode cX12_lock 55 = .ok (.istore_n 3, 1) := by decide +kernel
theorem dX12_lock_56 : decode cX12_lock 56 = .ok (.iinc 4 1, 3) := by decide +kernel
theorem dX12_lock_59 : decode cX12_lock 59 = .ok (.goto (-33), 3) := by decide +kernel
theorem dX12_lock_62 : decode cX12_lock 62 = .ok (.iload_n 2, 1) := by decide +kernel
theorem dX12_lock_63 : decode cX12_lock 63 = .ok (.ifCond .ne 7, 3) := by decide +kernel
theorem dX12_lock_66 : decode cX12_lock 66 = .ok (.iload_n 3, 1) := by decide +kernel
theorem dX12_lock_67 : decode cX12_lock 67 = .ok (.goto 9, 3) := by decide +kernel
theorem dX12_lock_70 : decode cX12_lock 70 = .ok (.aload_n 0, 1) := by decide +kernel
theorem dX12_lock_71 : decode cX12_lock 71 = .ok (.iload_n 3, 1) := by decide +kernel
theorem dX12_lock_72 : decode cX12_lock 72 = .ok (.iload_n 1, 1) := by decide +kernel
theorem dX12_lock_73 : decode cX12_lock 73 = .ok (.invokevirtual 475, 3) := by decide +kernel
theorem dX12_lock_76 : decode cX12_lock 76 = .ok (.ireturn, 1) := by decide +kernel
theorem dX12_sewer_0 : decode cX12_sewer 0 = .ok (.iload_n 1, 1) := by decide +kernel
theorem dX12_sewer_1 : decode cX12_sewer 1 = .ok (.iconst 0, 1) := by decide +kernel
theorem dX12_sewer_2 : decode cX12_sewer 2 = .ok (.bipush 99, 2) := by decide +kernel
theorem dX12_sewer_4 : decode cX12_sewer 4 = .ok (.invokestatic 214, 3) := by decide +kernel
theorem dX12_sewer_7 : decode cX12_sewer 7 = .ok (.ifCond .eq 22, 3) := by decide +kernel
theorem dX12_sewer_10 : decode cX12_sewer 10 = .ok (.iload_n 2, 1) := by decide +kernel
theorem dX12_sewer_11 : decode cX12_sewer 11 = .ok (.iconst 0, 1) := by decide +kernel
theorem dX12_sewer_12 : decode cX12_sewer 12 = .ok (.bipush 99, 2) := by decide +kernel
theorem dX12_sewer_14 : decode cX12_sewer 14 = .ok (.invokestatic 214, 3) := by decide +kernel
theorem dX12_sewer_17 : decode cX12_sewer 17 = .ok (.ifCond .eq 12, 3) := by decide +kernel
theorem dX12_sewer_20 : decode cX12_sewer 20 = .ok (.aload_n 0, 1) := by decide +kernel
theorem dX12_sewer_21 : decode cX12_sewer 21 = .ok (.getfield 478, 3) := by decide +kernel
theorem dX12_sewer_24 : decode cX12_sewer 24 = .ok (.bipush 10, 2) := by decide +kernel
theorem dX12_sewer_26 : decode cX12_sewer 26 = .ok (.if_icmp .ne 5, 3) := by decide +kernel
theorem dX12_sewer_29 : decode cX12_sewer 29 = .ok (.iconst (-1), 1) := by decide +kernel
theorem dX12_sewer_30 : decode cX12_sewer 30 = .ok (.ireturn, 1) := by decide +kernel
theorem dX12_sewer_31 : decode cX12_sewer 31 = .ok (.aload_n 0, 1) := by decide +kernel
theorem dX12_sewer_32 : decode cX12_sewer 32 = .ok (.getfield 192, 3) := by decide +kernel
theorem dX12_sewer_35 : decode cX12_sewer 35 = .ok (.aload_n 0, 1) := by decide +kernel
theorem dX12_sewer_36 : decode cX12_sewer 36 = .ok (.getfield 478, 3) := by decide +kernel
theorem dX12_sewer_39 : decode cX12_sewer 39 = .ok (.iload_n 1, 1) := by decide +kernel
theorem dX12_sewer_40 : decode cX12_sewer 40 = .ok (.iastore, 1) := by decide +kernel
theorem dX12_sewer_41 : decode cX12_sewer 41 = .ok (.aload_n 0, 1) := by decide +kernel
theorem dX12_sewer_42 : decode cX12_sewer 42 = .ok (.getfield 195, 3) := by decide +kernel
theorem dX12_sewer_45 : decode cX12_sewer 45 = .ok (.aload_n 0, 1) := by decide +kernel
theorem dX12_sewer_46 : decode cX12_sewer 46 = .ok (.getfield 478, 3) := by decide +kernel
theorem dX12_sewer_49 : decode cX12_sewer 49 = .ok (.iload_n 2, 1) := by decide +kernel
theorem dX12_sewer_50 : decode cX12_sewer 50 = .ok (.iastore, 1) := by decide +kernel
theorem dX12_sewer_51 : decode cX12_sewer 51 = .ok (.aload_n 0, 1) := by decide +kernel
theorem dX12_sewer_52 : decode cX12_sewer 52 = .ok (.aload_n 0, 1) := by decide +kernel
theorem dX12_sewer_53 : decode cX12_sewer 53 = .ok (.getfield 478, 3) := by decide +kernel
theorem dX12_sewer_56 : decode cX12_sewer 56 = .ok (.iconst 1, 1) := by decide +kernel
theorem dX12_sewer_57 : decode cX12_sewer 57 = .ok (.iadd, 1) := by decide +kernel
theorem dX12_sewer_58 : decode cX12_sewer 58 = .ok (.putfield 478, 3) := by decide +kernel
theorem dX12_sewer_61 : decode cX12_sewer 61 = .ok (.aload_n 0, 1) := by decide +kernel
theorem dX12_sewer_62 : decode cX12_sewer 62 = .ok (.getfield 478, 3) := by decide +kernel
theorem dX12_sewer_65 : decode cX12_sewer 65 = .ok (.iconst 1, 1) := by decide +kernel
theorem dX12_sewer_66 : decode cX12_sewer 66 = .ok (.isub, 1) := by decide +kernel
theorem dX12_sewer_67 : decode cX12_sewer 67 = .ok (.ireturn, 1) := by decide +kernel
theorem dX12_blocked_0 : decode cX12_blocked 0 = .ok (.iload_n 1, 1) := by decide +kernel
theorem dX12_blocked_1 : decode cX12_blocked 1 = .ok (.ifCond .lt 11, 3) := by decide +kernel
theorem dX12_blocked_4 : decode cX12_blocked 4 = .ok (.iload_n 1, 1) := by decide +kernel
theorem dX12_blocked_5 : decode cX12_blocked 5 = .ok (.aload_n 0, 1) := by decide +kernel
theorem dX12_blocked_6 : decode cX12_blocked 6 = .ok (.getfield 478, 3) := by decide +kernel
theorem dX12_blocked_9 : decode cX12_blocked 9 = .ok (.if_icmp .lt 5, 3) := by decide +kernel
theorem dX12_blocked_12 : decode cX12_blocked 12 = .ok (.iconst (-1), 1) := by decide +kernel
theorem dX12_blocked_13 : decode cX12_blocked 13 = .ok (.ireturn, 1) := by decide +kernel
theorem dX12_blocked_14 : decode cX12_blocked 14 = .ok (.aload_n 0, 1) := by decide +kernel
theorem dX12_blocked_15 : decode cX12_blocked 15 = .ok (.getfield 198, 3) := by decide +kernel
theorem dX12_blocked_18 : decode cX12_blocked 18 = .ok (.iload_n 1, 1) := by decide +kernel
theorem dX12_blocked_19 : decode cX12_blocked 19 = .ok (.aload_n 0, 1) := by decide +kernel
theorem dX12_blocked_20 : decode cX12_blocked 20 = .ok (.getfield 198, 3) := by decide +kernel
theorem dX12_blocked_23 : decode cX12_blocked 23 = .ok (.iload_n 1, 1) := by decide +kernel
theorem dX12_blocked_24 : decode cX12_blocked 24 = .ok (.iaload, 1) := by decide +kernel
theorem dX12_blocked_25 : decode cX12_blocked 25 = .ok (.iconst 1, 1) := by decide +kernel
theorem dX12_blocked_26 : decode cX12_blocked 26 = .ok (.iadd, 1) := by decide +kernel
theorem dX12_blocked_27 : decode cX12_blocked 27 = .ok (.iastore, 1) := by decide +kernel
theorem dX12_blocked_28 : decode cX12_blocked 28 = .ok (.aload_n 0, 1) := by decide +kernel
theorem dX12_blocked_29 : decode cX12_blocked 29 = .ok (.getfield 198, 3) := by decide +kernel
theorem dX12_blocked_32 : decode cX12_blocked 32 = .ok (.iload_n 1, 1) := by decide +kernel
theorem dX12_blocked_33 : decode cX12_blocked 33 = .ok (.iaload, 1) := by decide +kernel
theorem dX12_blocked_34 : decode cX12_blocked 34 = .ok (.ireturn, 1) := by decide +kernel
theorem dX12_beside_0 : decode cX12_beside 0 = .ok (.iload_n 1, 1) := by decide +kernel
theorem dX12_beside_1 : decode cX12_beside 1 = .ok (.iconst 0, 1) := by decide +kernel
theorem dX12_beside_2 : decode cX12_beside 2 = .ok (.sipush 198, 3) := by decide +kernel
theorem dX12_beside_5 : decode cX12_beside 5 = .ok (.invokestatic 214, 3) := by decide +kernel
theorem dX12_beside_8 : decode cX12_beside 8 = .ok (.ifCond .eq 14, 3) := by decide +kernel
theorem dX12_beside_11 : decode cX12_beside 11 = .ok (.iload_n 2, 1) := by decide +kernel
theorem dX12_beside_12 : decode cX12_beside 12 = .ok (.iconst 1, 1) := by decide +kernel
theorem dX12_beside_13 : decode cX12_beside 13 = .ok (.sipush 1000, 3) := by decide +kernel
theorem dX12_beside_16 : decode cX12_beside 16 = .ok (.invokestatic 214, 3) := by decide +kernel
theorem dX12_beside_19 : decode cX12_beside 19 = .ok (.ifCond .ne 5, 3) := by decide +kernel
theorem dX12_beside_22 : decode cX12_beside 22 = .ok (.iconst (-1), 1) := by decide +kernel
theorem dX12_beside_23 : decode cX12_beside 23 = .ok (.ireturn, 1) := by decide +kernel
theorem dX12_beside_24 : decode cX12_beside 24 = .ok (.iconst 0, 1) := by decide +kernel
theorem dX12_beside_25 : decode cX12_beside 25 = .ok (.istore_n 3, 1) := by decide +kernel
theorem dX12_beside_26 : decode cX12_beside 26 = .ok (.iconst 0, 1) := by decide +kernel
theorem dX12_beside_27 : decode cX12_beside 27 = .ok (.istore 4, 2) := by decide +kernel
theorem dX12_beside_29 : decode cX12_beside 29 = .ok (.iload 4, 2) := by decide +kernel
theorem dX12_beside_31 : decode cX12_beside 31 = .ok (.aload_n 0, 1) := by decide +kernel
theorem dX12_beside_32 : decode cX12_beside 32 = .ok (.getfield 204, 3) := by decide +kernel
theorem dX12_beside_35 : decode cX12_beside 35 = .ok (.if_icmp .ge 90, 3) := by decide +kernel
theorem dX12_beside_38 : decode cX12_beside 38 = .ok (.iconst 0, 1) := by decide +kernel
theorem dX12_beside_39 : decode cX12_beside 39 = .ok (.istore 5, 2) := by decide +kernel
theorem dX12_beside_41 : decode cX12_beside 41 = .ok (.iload 5, 2) := by decide +kernel
theorem dX12_beside_43 : decode cX12_beside 43 = .ok (.aload_n 0, 1) := by decide +kernel
theorem dX12_beside_44 : decode cX12_beside 44 = .ok (.getfield 478, 3) := by decide +kernel
theorem dX12_beside_47 : decode cX12_beside 47 = .ok (.if_icmp .ge 72, 3) := by decide +kernel
theorem dX12_beside_50 : decode cX12_beside 50 = .ok (.aload_n 0, 1) := by decide +kernel
theorem dX12_beside_51 : decode cX12_beside 51 = .ok (.getfield 16, 3) := by decide +kernel
theorem dX12_beside_54 : decode cX12_beside 54 = .ok (.iload 4, 2) := by decide +kernel
theorem dX12_beside_56 : decode cX12_beside 56 = .ok (.iaload, 1) := by decide +kernel
theorem dX12_beside_57 : decode cX12_beside 57 = .ok (.ifCond .ne 56, 3) := by decide +kernel
theorem dX12_beside_60 : decode cX12_beside 60 = .ok (.aload_n 0, 1) := by decide +kernel
theorem dX12_beside_61 : decode cX12_beside 61 = .ok (.getfield 198, 3) := by decide +kernel
theorem dX12_beside_64 : decode cX12_beside 64 = .ok (.iload 5, 2) := by decide +kernel
theorem dX12_beside_66 : decode cX12_beside 66 = .ok (.iaload, 1) := by decide +kernel
theorem dX12_beside_67 : decode cX12_beside 67 = .ok (.iload_n 2, 1) := by decide +kernel
theorem dX12_beside_68 : decode cX12_beside 68 = .ok (.if_icmp .lt 45, 3) := by decide +kernel
theorem dX12_beside_71 : decode cX12_beside 71 = .ok (.aload_n 0, 1) := by decide +kernel
theorem dX12_beside_72 : decode cX12_beside 72 = .ok (.getfield 7, 3) := by decide +kernel
theorem dX12_beside_75 : decode cX12_beside 75 = .ok (.iload 4, 2) := by decide +kernel
theorem dX12_beside_77 : decode cX12_beside 77 = .ok (.iaload, 1) := by decide +kernel
theorem dX12_beside_78 : decode cX12_beside 78 = .ok (.aload_n 0, 1) := by decide +kernel
theorem dX12_beside_79 : decode cX12_beside 79 = .ok (.getfield 13, 3) := by decide +kernel
theorem dX12_beside_82 : decode cX12_beside 82 = .ok (.iload 4, 2) := by decide +kernel
theorem dX12_beside_84 : decode cX12_beside 84 = .ok (.iaload, 1) := by decide +kernel
theorem dX12_beside_85 : decode cX12_beside 85 = .ok (.aload_n 0, 1) := by decide +kernel
theorem dX12_beside_86 : decode cX12_beside 86 = .ok (.getfield 192, 3) := by decide +kernel
theorem dX12_beside_89 : decode cX12_beside 89 = .ok (.iload 5, 2) := by decide +kernel
theorem dX12_beside_91 : decode cX12_beside 91 = .ok (.iaload, 1) := by decide +kernel
theorem dX12_beside_92 : decode cX12_beside 92 = .ok (.aload_n 0, 1) := by decide +kernel
theorem dX12_beside_93 : decode cX12_beside 93 = .ok (.getfield 195, 3) := by decide +kernel
theorem dX12_beside_96 : decode cX12_beside 96 = .ok (.iload 5, 2) := by decide +kernel
theorem dX12_beside_98 : decode cX12_beside 98 = .ok (.iaload, 1) := by decide +kernel
theorem dX12_beside_99 : decode cX12_beside 99 = .ok (.invokestatic 360, 3) := by decide +kernel
theorem dX12_beside_102 : decode cX12_beside 102 = .ok (.iload_n 1, 1) := by decide +kernel
theorem dX12_beside_103 : decode cX12_beside 103 = .ok (.if_icmp .gt 10, 3) := by decide +kernel
theorem dX12_beside_106 : decode cX12_beside 106 = .ok (.iload_n 3, 1) := by decide +kernel
theorem dX12_beside_107 : decode cX12_beside 107 = .ok (.iconst 1, 1) := by decide +kernel
theorem dX12_beside_108 : decode cX12_beside 108 = .ok (.iload 4, 2) := by decide +kernel
theorem dX12_beside_110 : decode cX12_beside 110 = .ok (.ishl, 1) := by decide +kernel
theorem dX12_beside_111 : decode cX12_beside 111 = .ok (.ior, 1) := by decide +kernel
theorem dX12_beside_112 : decode cX12_beside 112 = .ok (.istore_n 3, 1) := by decide +kernel
theorem dX12_beside_113 : decode cX12_beside 113 = .ok (.iinc 5 1, 3) := by decide +kernel
theorem dX12_beside_116 : decode cX12_beside 116 = .ok (.goto (-75), 3) := by decide +kernel
theorem dX12_beside_119 : decode cX12_beside 119 = .ok (.iinc 4 1, 3) := by decide +kernel
theorem dX12_beside_122 : decode cX12_beside 122 = .ok (.goto (-93), 3) := by decide +kernel
theorem dX12_beside_125 : decode cX12_beside 125 = .ok (.iload_n 3, 1) := by decide +kernel
theorem dX12_beside_126 : decode cX12_beside 126 = .ok (.ireturn, 1) := by decide +kernel
theorem dX12_degrees_0 : decode cX12_degrees 0 = .ok (.iload_n 1, 1) := by decide +kernel
theorem dX12_degrees_1 : decode cX12_degrees 1 = .ok (.invokestatic 341, 3) := by decide +kernel
theorem dX12_degrees_4 : decode cX12_degrees 4 = .ok (.ifCond .eq 14, 3) := by decide +kernel
theorem dX12_degrees_7 : decode cX12_degrees 7 = .ok (.iload_n 2, 1) := by decide +kernel
theorem dX12_degrees_8 : decode cX12_degrees 8 = .ok (.bipush (-40), 2) := by decide +kernel
theorem dX12_degrees_10 : decode cX12_degrees 10 = .ok (.bipush 40, 2) := by decide +kernel
theorem dX12_degrees_12 : decode cX12_degrees 12 = .ok (.invokestatic 214, 3) := by decide +kernel
theorem dX12_degrees_15 : decode cX12_degrees 15 = .ok (.ifCond .ne 5, 3) := by decide +kernel
theorem dX12_degrees_18 : decode cX12_degrees 18 = .ok (.iconst 0, 1) := by decide +kernel
theorem dX12_degrees_19 : decode cX12_degrees 19 = .ok (.ireturn, 1) := by decide +kernel
theorem dX12_degrees_20 : decode cX12_degrees 20 = .ok (.aload_n 0, 1) := by decide +kernel
theorem dX12_degrees_21 : decode cX12_degrees 21 = .ok (.getfield 201, 3) := by decide +kernel
theorem dX12_degrees_24 : decode cX12_degrees 24 = .ok (.iload_n 1, 1) := by decide +kernel
theorem dX12_degrees_25 : decode cX12_degrees 25 = .ok (.iload_n 2, 1) := by decide +kernel
theorem dX12_degrees_26 : decode cX12_degrees 26 = .ok (.iastore, 1) := by decide +kernel
theorem dX12_degrees_27 : decode cX12_degrees 27 = .ok (.iconst 1, 1) := by decide +kernel
theorem dX12_degrees_28 : decode cX12_degrees 28 = .ok (.ireturn, 1) := by decide +kernel
theorem dX12_late_0 : decode cX12_late 0 = .ok (.aload_n 0, 1) := by decide +kernel
theorem dX12_late_1 : decode cX12_late 1 = .ok (.iload_n 1, 1) := by decide +kernel
theorem dX12_late_2 : decode cX12_late 2 = .ok (.invokevirtual 218, 3) := by decide +kernel
theorem dX12_late_5 : decode cX12_late 5 = .ok (.ifCond .eq 14, 3) := by decide +kernel
theorem dX12_late_8 : decode cX12_late 8 = .ok (.iload_n 2, 1) := by decide +kernel
theorem dX12_late_9 : decode cX12_late 9 = .ok (.bipush (-40), 2) := by decide +kernel
theorem dX12_late_11 : decode cX12_late 11 = .ok (.bipush 41, 2) := by decide +kernel
theorem dX12_late_13 : decode cX12_late 13 = .ok (.invokestatic 214, 3) := by decide +kernel
theorem dX12_late_16 : decode cX12_late 16 = .ok (.ifCond .ne 5, 3) := by decide +kernel
theorem dX12_late_19 : decode cX12_late 19 = .ok (.iconst (-1), 1) := by decide +kernel
theorem dX12_late_20 : decode cX12_late 20 = .ok (.ireturn, 1) := by decide +kernel
theorem dX12_late_21 : decode cX12_late 21 = .ok (.iconst 0, 1) := by decide +kernel
theorem dX12_late_22 : decode cX12_late 22 = .ok (.istore_n 3, 1) := by decide +kernel
theorem dX12_late_23 : decode cX12_late 23 = .ok (.iconst 0, 1) := by decide +kernel
theorem dX12_late_24 : decode cX12_late 24 = .ok (.istore 4, 2) := by decide +kernel
theorem dX12_late_26 : decode cX12_late 26 = .ok (.iload 4, 2) := by decide +kernel
theorem dX12_late_28 : decode cX12_late 28 = .ok (.aload_n 0, 1) := by decide +kernel
theorem dX12_late_29 : decode cX12_late 29 = .ok (.getfield 208, 3) := by decide +kernel
theorem dX12_late_32 : decode cX12_late 32 = .ok (.if_icmp .ge 44, 3) := by decide +kernel
theorem dX12_late_35 : decode cX12_late 35 = .ok (.iload_n 3, 1) := by decide +kernel
theorem dX12_late_36 : decode cX12_late 36 = .ok (.aload_n 0, 1) := by decide +kernel
theorem dX12_late_37 : decode cX12_late 37 = .ok (.getfield 25, 3) := by decide +kernel
theorem dX12_late_40 : decode cX12_late 40 = .ok (.iload 4, 2) := by decide +kernel
theorem dX12_late_42 : decode cX12_late 42 = .ok (.iaload, 1) := by decide +kernel
theorem dX12_late_43 : decode cX12_late 43 = .ok (.iload_n 1, 1) := by decide +kernel
theorem dX12_late_44 : decode cX12_late 44 = .ok (.if_icmp .ne 23, 3) := by decide +kernel
theorem dX12_late_47 : decode cX12_late 47 = .ok (.aload_n 0, 1) := by decide +kernel
theorem dX12_late_48 : decode cX12_late 48 = .ok (.getfield 201, 3) := by decide +kernel
theorem dX12_late_51 : decode cX12_late 51 = .ok (.aload_n 0, 1) := by decide +kernel
theorem dX12_late_52 : decode cX12_late 52 = .ok (.getfield 28, 3) := by decide +kernel
theorem dX12_late_55 : decode cX12_late 55 = .ok (.iload 4, 2) := by decide +kernel
theorem dX12_late_57 : decode cX12_late 57 = .ok (.iaload, 1) := by decide +kernel
theorem dX12_late_58 : decode cX12_late 58 = .ok (.iaload, 1) := by decide +kernel
theorem dX12_late_59 : decode cX12_late 59 = .ok (.iload_n 2, 1) := by decide +kernel
theorem dX12_late_60 : decode cX12_late 60 = .ok (.if_icmp .ge 7, 3) := by decide +kernel
theorem dX12_late_63 : decode cX12_late 63 = .ok (.iconst 1, 1) := by decide +kernel
theorem dX12_late_64 : decode cX12_late 64 = .ok (.goto 4, 3) := by decide +kernel
theorem dX12_late_67 : decode cX12_late 67 = .ok (.iconst 0, 1) := by decide +kernel
theorem dX12_late_68 : decode cX12_late 68 = .ok (.iadd, 1) := by decide +kernel
theorem dX12_late_69 : decode cX12_late 69 = .ok (.istore_n 3, 1) := by decide +kernel
theorem dX12_late_70 : decode cX12_late 70 = .ok (.iinc 4 1, 3) := by decide +kernel
theorem dX12_late_73 : decode cX12_late 73 = .ok (.goto (-47), 3) := by decide +kernel
theorem dX12_late_76 : decode cX12_late 76 = .ok (.iload_n 3, 1) := by decide +kernel
theorem dX12_late_77 : decode cX12_late 77 = .ok (.ireturn, 1) := by decide +kernel
theorem dX12_first_0 : decode cX12_first 0 = .ok (.iload_n 1, 1) := by decide +kernel
theorem dX12_first_1 : decode cX12_first 1 = .ok (.invokestatic 341, 3) := by decide +kernel
theorem dX12_first_4 : decode cX12_first 4 = .ok (.ifCond .eq 14, 3) := by decide +kernel
theorem dX12_first_7 : decode cX12_first 7 = .ok (.iload_n 2, 1) := by decide +kernel
theorem dX12_first_8 : decode cX12_first 8 = .ok (.bipush (-40), 2) := by decide +kernel
theorem dX12_first_10 : decode cX12_first 10 = .ok (.bipush 41, 2) := by decide +kernel
theorem dX12_first_12 : decode cX12_first 12 = .ok (.invokestatic 214, 3) := by decide +kernel
theorem dX12_first_15 : decode cX12_first 15 = .ok (.ifCond .ne 5, 3) := by decide +kernel
theorem dX12_first_18 : decode cX12_first 18 = .ok (.iconst (-1), 1) := by decide +kernel
theorem dX12_first_19 : decode cX12_first 19 = .ok (.ireturn, 1) := by decide +kernel
theorem dX12_first_20 : decode cX12_first 20 = .ok (.iload_n 1, 1) := by decide +kernel
theorem dX12_first_21 : decode cX12_first 21 = .ok (.istore_n 3, 1) := by decide +kernel
theorem dX12_first_22 : decode cX12_first 22 = .ok (.iload_n 3, 1) := by decide +kernel
theorem dX12_first_23 : decode cX12_first 23 = .ok (.sipush 399, 3) := by decide +kernel
theorem dX12_first_26 : decode cX12_first 26 = .ok (.if_icmp .gt 21, 3) := by decide +kernel
theorem dX12_first_29 : decode cX12_first 29 = .ok (.aload_n 0, 1) := by decide +kernel
theorem dX12_first_30 : decode cX12_first 30 = .ok (.getfield 201, 3) := by decide +kernel
theorem dX12_first_33 : decode cX12_first 33 = .ok (.iload_n 3, 1) := by decide +kernel
theorem dX12_first_34 : decode cX12_first 34 = .ok (.iaload, 1) := by decide +kernel
theorem dX12_first_35 : decode cX12_first 35 = .ok (.iload_n 2, 1) := by decide +kernel
theorem dX12_first_36 : decode cX12_first 36 = .ok (.if_icmp .lt 5, 3) := by decide +kernel
theorem dX12_first_39 : decode cX12_first 39 = .ok (.iload_n 3, 1) := by decide +kernel
theorem dX12_first_40 : decode cX12_first 40 = .ok (.ireturn, 1) := by decide +kernel
theorem dX12_first_41 : decode cX12_first 41 = .ok (.iinc 3 1, 3) := by decide +kernel
theorem dX12_first_44 : decode cX12_first 44 = .ok (.goto (-22), 3) := by decide +kernel
theorem dX12_first_47 : decode cX12_first 47 = .ok (.bipush (-2), 2) := by decide +kernel
theorem dX12_first_49 : decode cX12_first 49 = .ok (.ireturn, 1) := by decide +kernel
theorem dX12_tapeNumber_0 : decode cX12_tapeNumber 0 = .ok (.iconst 0, 1) := by decide +kernel
theorem dX12_tapeNumber_1 : decode cX12_tapeNumber 1 = .ok (.istore_n 2, 1) := by decide +kernel
theorem dX12_tapeNumber_2 : decode cX12_tapeNumber 2 = .ok (.iconst 4, 1) := by decide +kernel
theorem dX12_tapeNumber_3 : decode cX12_tapeNumber 3 = .ok (.iload_n 1, 1) := by decide +kernel
theorem dX12_tapeNumber_4 : decode cX12_tapeNumber 4 = .ok (.imul, 1) := by decide +kernel
theorem dX12_tapeNumber_5 : decode cX12_tapeNumber 5 = .ok (.istore_n 3, 1) := by decide +kernel
theorem dX12_tapeNumber_6 : decode cX12_tapeNumber 6 = .ok (.iload_n 3, 1) := by decide +kernel
theorem dX12_tapeNumber_7 : decode cX12_tapeNumber 7 = .ok (.iconst 4, 1) := by decide +kernel
theorem dX12_tapeNumber_8 : decode cX12_tapeNumber 8 = .ok (.iload_n 1, 1) := by decide +kernel
theorem dX12_tapeNumber_9 : decode cX12_tapeNumber 9 = .ok (.imul, 1) := by decide +kernel
theorem dX12_tapeNumber_10 : decode cX12_tapeNumber 10 = .ok (.iconst 4, 1) := by decide +kernel
theorem dX12_tapeNumber_11 : decode cX12_tapeNumber 11 = .ok (.iadd, 1) := by decide +kernel
theorem dX12_tapeNumber_12 : decode cX12_tapeNumber 12 = .ok (.if_icmp .ge 25, 3) := by decide +kernel
theorem dX12_tapeNumber_15 : decode cX12_tapeNumber 15 = .ok (.iload_n 2, 1) := by decide +kernel
theorem dX12_tapeNumber_16 : decode cX12_tapeNumber 16 = .ok (.bipush 8, 2) := by decide +kernel
theorem dX12_tapeNumber_18 : decode cX12_tapeNumber 18 = .ok (.ishl, 1) := by decide +kernel
theorem dX12_tapeNumber_19 : decode cX12_tapeNumber 19 = .ok (.aload_n 0, 1) := by decide +kernel
theorem dX12_tapeNumber_20 : decode cX12_tapeNumber 20 = .ok (.getfield 52, 3) := by decide +kernel
theorem dX12_tapeNumber_23 : decode cX12_tapeNumber 23 = .ok (.iload_n 3, 1) := by decide +kernel
theorem dX12_tapeNumber_24 : decode cX12_tapeNumber 24 = .ok (.baload, 1) := by decide +kernel
theorem dX12_tapeNumber_25 : decode cX12_tapeNumber 25 = .ok (.sipush 255, 3) := by decide +kernel
theorem dX12_tapeNumber_28 : decode cX12_tapeNumber 28 = .ok (.iand, 1) := by decide +kernel
theorem dX12_tapeNumber_29 : decode cX12_tapeNumber 29 = .ok (.ior, 1) := by decide +kernel
theorem dX12_tapeNumber_30 : decode cX12_tapeNumber 30 = .ok (.istore_n 2, 1) := by decide +kernel
theorem dX12_tapeNumber_31 : decode cX12_tapeNumber 31 = .ok (.iinc 3 1, 3) := by decide +kernel
theorem dX12_tapeNumber_34 : decode cX12_tapeNumber 34 = .ok (.goto (-28), 3) := by decide +kernel
theorem dX12_tapeNumber_37 : decode cX12_tapeNumber 37 = .ok (.iload_n 2, 1) := by decide +kernel
theorem dX12_tapeNumber_38 : decode cX12_tapeNumber 38 = .ok (.ireturn, 1) := by decide +kernel
theorem dX12_check_0 : decode cX12_check 0 = .ok (.aload_n 0, 1) := by decide +kernel
theorem dX12_check_1 : decode cX12_check 1 = .ok (.iload_n 1, 1) := by decide +kernel
theorem dX12_check_2 : decode cX12_check 2 = .ok (.invokevirtual 218, 3) := by decide +kernel
theorem dX12_check_5 : decode cX12_check 5 = .ok (.ifCond .eq 18, 3) := by decide +kernel
theorem dX12_check_8 : decode cX12_check 8 = .ok (.iload_n 2, 1) := by decide +kernel
theorem dX12_check_9 : decode cX12_check 9 = .ok (.ifCond .lt 14, 3) := by decide +kernel
theorem dX12_check_12 : decode cX12_check 12 = .ok (.iload_n 2, 1) := by decide +kernel
theorem dX12_check_13 : decode cX12_check 13 = .ok (.aload_n 0, 1) := by decide +kernel
theorem dX12_check_14 : decode cX12_check 14 = .ok (.getfield 226, 3) := by decide +kernel
theorem dX12_check_17 : decode cX12_check 17 = .ok (.bipush 16, 2) := by decide +kernel
theorem dX12_check_19 : decode cX12_check 19 = .ok (.idiv, 1) := by decide +kernel
theorem dX12_check_20 : decode cX12_check 20 = .ok (.if_icmp .le 6, 3) := by decide +kernel
theorem dX12_check_23 : decode cX12_check 23 = .ok (.bipush (-2), 2) := by decide +kernel
theorem dX12_check_25 : decode cX12_check 25 = .ok (.ireturn, 1) := by decide +kernel
theorem dX12_check_26 : decode cX12_check 26 = .ok (.aload_n 0, 1) := by decide +kernel
theorem dX12_check_27 : decode cX12_check 27 = .ok (.iconst 0, 1) := by decide +kernel
theorem dX12_check_28 : decode cX12_check 28 = .ok (.putfield 226, 3) := by decide +kernel
theorem dX12_check_31 : decode cX12_check 31 = .ok (.iconst 0, 1) := by decide +kernel
theorem dX12_check_32 : decode cX12_check 32 = .ok (.istore_n 3, 1) := by decide +kernel
theorem dX12_check_33 : decode cX12_check 33 = .ok (.iconst 0, 1) := by decide +kernel
theorem dX12_check_34 : decode cX12_check 34 = .ok (.istore 4, 2) := by decide +kernel
theorem dX12_check_36 : decode cX12_check 36 = .ok (.iload 4, 2) := by decide +kernel
theorem dX12_check_38 : decode cX12_check 38 = .ok (.aload_n 0, 1) := by decide +kernel
theorem dX12_check_39 : decode cX12_check 39 = .ok (.getfield 208, 3) := by decide +kernel
theorem dX12_check_42 : decode cX12_check 42 = .ok (.if_icmp .ge 109, 3) := by decide +kernel
theorem dX12_check_45 : decode cX12_check 45 = .ok (.aload_n 0, 1) := by decide +kernel
theorem dX12_check_46 : decode cX12_check 46 = .ok (.getfield 25, 3) := by decide +kernel
theorem dX12_check_49 : decode cX12_check 49 = .ok (.iload 4, 2) := by decide +kernel
theorem dX12_check_51 : decode cX12_check 51 = .ok (.iaload, 1) := by decide +kernel
theorem dX12_check_52 : decode cX12_check 52 = .ok (.iload_n 1, 1) := by decide +kernel
theorem dX12_check_53 : decode cX12_check 53 = .ok (.if_icmp .eq 6, 3) := by decide +kernel
theorem dX12_check_56 : decode cX12_check 56 = .ok (.goto 89, 3) := by decide +kernel
theorem dX12_check_59 : decode cX12_check 59 = .ok (.iload_n 3, 1) := by decide +kernel
theorem dX12_check_60 : decode cX12_check 60 = .ok (.iconst 4, 1) := by decide +kernel
theorem dX12_check_61 : decode cX12_check 61 = .ok (.iload_n 2, 1) := by decide +kernel
theorem dX12_check_62 : decode cX12_check 62 = .ok (.imul, 1) := by decide +kernel
theorem dX12_check_63 : decode cX12_check 63 = .ok (.if_icmp .eq 13, 3) := by decide +kernel
theorem dX12_check_66 : decode cX12_check 66 = .ok (.aload_n 0, 1) := by decide +kernel
theorem dX12_check_67 : decode cX12_check 67 = .ok (.iload_n 3, 1) := by decide +kernel
theorem dX12_check_68 : decode cX12_check 68 = .ok (.invokevirtual 481, 3) := by decide +kernel
theorem dX12_check_71 : decode cX12_check 71 = .ok (.iload 4, 2) := by decide +kernel
theorem dX12_check_73 : decode cX12_check 73 = .ok (.if_icmp .eq 5, 3) := by decide +kernel
theorem dX12_check_76 : decode cX12_check 76 = .ok (.iload_n 3, 1) := by decide +kernel
theorem dX12_check_77 : decode cX12_check 77 = .ok (.ireturn, 1) := by decide +kernel
theorem dX12_check_78 : decode cX12_check 78 = .ok (.aload_n 0, 1) := by decide +kernel
theorem dX12_check_79 : decode cX12_check 79 = .ok (.iload_n 3, 1) := by decide +kernel
theorem dX12_check_80 : decode cX12_check 80 = .ok (.iconst 1, 1) := by decide +kernel
theorem dX12_check_81 : decode cX12_check 81 = .ok (.iadd, 1) := by decide +kernel
theorem dX12_check_82 : decode cX12_check 82 = .ok (.invokevirtual 481, 3) := by decide +kernel
theorem dX12_check_85 : decode cX12_check 85 = .ok (.aload_n 0, 1) := by decide +kernel
theorem dX12_check_86 : decode cX12_check 86 = .ok (.getfield 28, 3) := by decide +kernel
theorem dX12_check_89 : decode cX12_check 89 = .ok (.iload 4, 2) := by decide +kernel
theorem dX12_check_91 : decode cX12_check 91 = .ok (.iaload, 1) := by decide +kernel
theorem dX12_check_92 : decode cX12_check 92 = .ok (.if_icmp .eq 7, 3) := by decide +kernel
theorem dX12_check_95 : decode cX12_check 95 = .ok (.iload_n 3, 1) := by decide +kernel
theorem dX12_check_96 : decode cX12_check 96 = .ok (.iconst 1, 1) := by decide +kernel
theorem dX12_check_97 : decode cX12_check 97 = .ok (.iadd, 1) := by decide +kernel
theorem dX12_check_98 : decode cX12_check 98 = .ok (.ireturn, 1) := by decide +kernel
theorem dX12_check_99 : decode cX12_check 99 = .ok (.aload_n 0, 1) := by decide +kernel
theorem dX12_check_100 : decode cX12_check 100 = .ok (.iload_n 3, 1) := by decide +kernel
theorem dX12_check_101 : decode cX12_check 101 = .ok (.iconst 2, 1) := by decide +kernel
theorem dX12_check_102 : decode cX12_check 102 = .ok (.iadd, 1) := by decide +kernel
theorem dX12_check_103 : decode cX12_check 103 = .ok (.invokevirtual 481, 3) := by decide +kernel
theorem dX12_check_106 : decode cX12_check 106 = .ok (.aload_n 0, 1) := by decide +kernel
theorem dX12_check_107 : decode cX12_check 107 = .ok (.getfield 31, 3) := by decide +kernel
theorem dX12_check_110 : decode cX12_check 110 = .ok (.iload 4, 2) := by decide +kernel
theorem dX12_check_112 : decode cX12_check 112 = .ok (.iaload, 1) := by decide +kernel
theorem dX12_check_113 : decode cX12_check 113 = .ok (.if_icmp .eq 7, 3) := by decide +kernel
theorem dX12_check_116 : decode cX12_check 116 = .ok (.iload_n 3, 1) := by decide +kernel
theorem dX12_check_117 : decode cX12_check 117 = .ok (.iconst 2, 1) := by decide +kernel
theorem dX12_check_118 : decode cX12_check 118 = .ok (.iadd, 1) := by decide +kernel
theorem dX12_check_119 : decode cX12_check 119 = .ok (.ireturn, 1) := by decide +kernel
theorem dX12_check_120 : decode cX12_check 120 = .ok (.aload_n 0, 1) := by decide +kernel
theorem dX12_check_121 : decode cX12_check 121 = .ok (.iload_n 3, 1) := by decide +kernel
theorem dX12_check_122 : decode cX12_check 122 = .ok (.iconst 3, 1) := by decide +kernel
theorem dX12_check_123 : decode cX12_check 123 = .ok (.iadd, 1) := by decide +kernel
theorem dX12_check_124 : decode cX12_check 124 = .ok (.invokevirtual 481, 3) := by decide +kernel
theorem dX12_check_127 : decode cX12_check 127 = .ok (.aload_n 0, 1) := by decide +kernel
theorem dX12_check_128 : decode cX12_check 128 = .ok (.getfield 43, 3) := by decide +kernel
theorem dX12_check_131 : decode cX12_check 131 = .ok (.iload 4, 2) := by decide +kernel
theorem dX12_check_133 : decode cX12_check 133 = .ok (.iaload, 1) := by decide +kernel
theorem dX12_check_134 : decode cX12_check 134 = .ok (.if_icmp .eq 7, 3) := by decide +kernel
theorem dX12_check_137 : decode cX12_check 137 = .ok (.iload_n 3, 1) := by decide +kernel
theorem dX12_check_138 : decode cX12_check 138 = .ok (.iconst 3, 1) := by decide +kernel
theorem dX12_check_139 : decode cX12_check 139 = .ok (.iadd, 1) := by decide +kernel
theorem dX12_check_140 : decode cX12_check 140 = .ok (.ireturn, 1) := by decide +kernel
theorem dX12_check_141 : decode cX12_check 141 = .ok (.iload_n 3, 1) := by decide +kernel
theorem dX12_check_142 : decode cX12_check 142 = .ok (.iconst 4, 1) := by decide +kernel
theorem dX12_check_143 : decode cX12_check 143 = .ok (.iadd, 1) := by decide +kernel
theorem dX12_check_144 : decode cX12_check 144 = .ok (.istore_n 3, 1) := by decide +kernel
theorem dX12_check_145 : decode cX12_check 145 = .ok (.iinc 4 1, 3) := by decide +kernel
theorem dX12_check_148 : decode cX12_check 148 = .ok (.goto (-112), 3) := by decide +kernel
theorem dX12_check_151 : decode cX12_check 151 = .ok (.iload_n 3, 1) := by decide +kernel
theorem dX12_check_152 : decode cX12_check 152 = .ok (.iconst 4, 1) := by decide +kernel
theorem dX12_check_153 : decode cX12_check 153 = .ok (.iload_n 2, 1) := by decide +kernel
theorem dX12_check_154 : decode cX12_check 154 = .ok (.imul, 1) := by decide +kernel
theorem dX12_check_155 : decode cX12_check 155 = .ok (.if_icmp .ge 7, 3) := by decide +kernel
theorem dX12_check_158 : decode cX12_check 158 = .ok (.iload_n 3, 1) := by decide +kernel
theorem dX12_check_159 : decode cX12_check 159 = .ok (.goto 4, 3) := by decide +kernel
theorem dX12_check_162 : decode cX12_check 162 = .ok (.iconst (-1), 1) := by decide +kernel
theorem dX12_check_163 : decode cX12_check 163 = .ok (.ireturn, 1) := by decide +kernel
theorem dX12_count_0 : decode cX12_count 0 = .ok (.iload_n 1, 1) := by decide +kernel
theorem dX12_count_1 : decode cX12_count 1 = .ok (.tableswitch 108 0 9 #[55, 60, 65, 70, 75, 83, 88, 93, 98, 103], 55) := by decide +kernel
theorem dX12_count_56 : decode cX12_count 56 = .ok (.aload_n 0, 1) := by decide +kernel
theorem dX12_count_57 : decode cX12_count 57 = .ok (.getfield 211, 3) := by decide +kernel
theorem dX12_count_60 : decode cX12_count 60 = .ok (.ireturn, 1) := by decide +kernel
theorem dX12_count_61 : decode cX12_count 61 = .ok (.aload_n 0, 1) := by decide +kernel
theorem dX12_count_62 : decode cX12_count 62 = .ok (.getfield 204, 3) := by decide +kernel
theorem dX12_count_65 : decode cX12_count 65 = .ok (.ireturn, 1) := by decide +kernel
theorem dX12_count_66 : decode cX12_count 66 = .ok (.aload_n 0, 1) := by decide +kernel
theorem dX12_count_67 : decode cX12_count 67 = .ok (.getfield 208, 3) := by decide +kernel
theorem dX12_count_70 : decode cX12_count 70 = .ok (.ireturn, 1) := by decide +kernel
theorem dX12_count_71 : decode cX12_count 71 = .ok (.aload_n 0, 1) := by decide +kernel
theorem dX12_count_72 : decode cX12_count 72 = .ok (.getfield 226, 3) := by decide +kernel
theorem dX12_count_75 : decode cX12_count 75 = .ok (.ireturn, 1) := by decide +kernel
theorem dX12_count_76 : decode cX12_count 76 = .ok (.aload_n 0, 1) := by decide +kernel
theorem dX12_count_77 : decode cX12_count 77 = .ok (.getfield 74, 3) := by decide +kernel
theorem dX12_count_80 : decode cX12_count 80 = .ok (.bipush 10, 2) := by decide +kernel
theorem dX12_count_82 : decode cX12_count 82 = .ok (.iaload, 1) := by decide +kernel
theorem dX12_count_83 : decode cX12_count 83 = .ok (.ireturn, 1) := by decide +kernel
theorem dX12_count_84 : decode cX12_count 84 = .ok (.aload_n 0, 1) := by decide +kernel
theorem dX12_count_85 : decode cX12_count 85 = .ok (.getfield 435, 3) := by decide +kernel
theorem dX12_count_88 : decode cX12_count 88 = .ok (.ireturn, 1) := by decide +kernel
theorem dX12_count_89 : decode cX12_count 89 = .ok (.aload_n 0, 1) := by decide +kernel
theorem dX12_count_90 : decode cX12_count 90 = .ok (.getfield 447, 3) := by decide +kernel
theorem dX12_count_93 : decode cX12_count 93 = .ok (.ireturn, 1) := by decide +kernel
theorem dX12_count_94 : decode cX12_count 94 = .ok (.aload_n 0, 1) := by decide +kernel
theorem dX12_count_95 : decode cX12_count 95 = .ok (.getfield 478, 3) := by decide +kernel
theorem dX12_count_98 : decode cX12_count 98 = .ok (.ireturn, 1) := by decide +kernel
theorem dX12_count_99 : decode cX12_count 99 = .ok (.aload_n 0, 1) := by decide +kernel
theorem dX12_count_100 : decode cX12_count 100 = .ok (.getfield 386, 3) := by decide +kernel
theorem dX12_count_103 : decode cX12_count 103 = .ok (.ireturn, 1) := by decide +kernel
theorem dX12_count_104 : decode cX12_count 104 = .ok (.aload_n 0, 1) := by decide +kernel
theorem dX12_count_105 : decode cX12_count 105 = .ok (.getfield 407, 3) := by decide +kernel
theorem dX12_count_108 : decode cX12_count 108 = .ok (.ireturn, 1) := by decide +kernel
theorem dX12_count_109 : decode cX12_count 109 = .ok (.iload_n 1, 1) := by decide +kernel
theorem dX12_count_110 : decode cX12_count 110 = .ok (.bipush 10, 2) := by decide +kernel
theorem dX12_count_112 : decode cX12_count 112 = .ok (.bipush 9, 2) := by decide +kernel
theorem dX12_count_114 : decode cX12_count 114 = .ok (.aload_n 0, 1) := by decide +kernel
theorem dX12_count_115 : decode cX12_count 115 = .ok (.getfield 204, 3) := by decide +kernel
theorem dX12_count_118 : decode cX12_count 118 = .ok (.iadd, 1) := by decide +kernel
theorem dX12_count_119 : decode cX12_count 119 = .ok (.invokestatic 214, 3) := by decide +kernel
theorem dX12_count_122 : decode cX12_count 122 = .ok (.ifCond .eq 13, 3) := by decide +kernel
theorem dX12_count_125 : decode cX12_count 125 = .ok (.aload_n 0, 1) := by decide +kernel
theorem dX12_count_126 : decode cX12_count 126 = .ok (.getfield 74, 3) := by decide +kernel
theorem dX12_count_129 : decode cX12_count 129 = .ok (.iload_n 1, 1) := by decide +kernel
theorem dX12_count_130 : decode cX12_count 130 = .ok (.bipush 10, 2) := by decide +kernel
theorem dX12_count_132 : decode cX12_count 132 = .ok (.isub, 1) := by decide +kernel
theorem dX12_count_133 : decode cX12_count 133 = .ok (.iaload, 1) := by decide +kernel
theorem dX12_count_134 : decode cX12_count 134 = .ok (.ireturn, 1) := by decide +kernel
theorem dX12_count_135 : decode cX12_count 135 = .ok (.iload_n 1, 1) := by decide +kernel
theorem dX12_count_136 : decode cX12_count 136 = .ok (.bipush 20, 2) := by decide +kernel
theorem dX12_count_138 : decode cX12_count 138 = .ok (.bipush 19, 2) := by decide +kernel
theorem dX12_count_140 : decode cX12_count 140 = .ok (.aload_n 0, 1) := by decide +kernel
theorem dX12_count_141 : decode cX12_count 141 = .ok (.getfield 204, 3) := by decide +kernel
theorem dX12_count_144 : decode cX12_count 144 = .ok (.iadd, 1) := by decide +kernel
theorem dX12_count_145 : decode cX12_count 145 = .ok (.invokestatic 214, 3) := by decide +kernel
theorem dX12_count_148 : decode cX12_count 148 = .ok (.ifCond .eq 13, 3) := by decide +kernel
theorem dX12_count_151 : decode cX12_count 151 = .ok (.aload_n 0, 1) := by decide +kernel
theorem dX12_count_152 : decode cX12_count 152 = .ok (.getfield 22, 3) := by decide +kernel
theorem dX12_count_155 : decode cX12_count 155 = .ok (.iload_n 1, 1) := by decide +kernel
theorem dX12_count_156 : decode cX12_count 156 = .ok (.bipush 20, 2) := by decide +kernel
theorem dX12_count_158 : decode cX12_count 158 = .ok (.isub, 1) := by decide +kernel
theorem dX12_count_159 : decode cX12_count 159 = .ok (.iaload, 1) := by decide +kernel
theorem dX12_count_160 : decode cX12_count 160 = .ok (.ireturn, 1) := by decide +kernel
theorem dX12_count_161 : decode cX12_count 161 = .ok (.iload_n 1, 1) := by decide +kernel
theorem dX12_count_162 : decode cX12_count 162 = .ok (.bipush 30, 2) := by decide +kernel
theorem dX12_count_164 : decode cX12_count 164 = .ok (.bipush 29, 2) := by decide +kernel
theorem dX12_count_166 : decode cX12_count 166 = .ok (.aload_n 0, 1) := by decide +kernel
theorem dX12_count_167 : decode cX12_count 167 = .ok (.getfield 204, 3) := by decide +kernel
theorem dX12_count_170 : decode cX12_count 170 = .ok (.iadd, 1) := by decide +kernel
theorem dX12_count_171 : decode cX12_count 171 = .ok (.invokestatic 214, 3) := by decide +kernel
theorem dX12_count_174 : decode cX12_count 174 = .ok (.ifCond .eq 13, 3) := by decide +kernel
theorem dX12_count_177 : decode cX12_count 177 = .ok (.aload_n 0, 1) := by decide +kernel
theorem dX12_count_178 : decode cX12_count 178 = .ok (.getfield 95, 3) := by decide +kernel
theorem dX12_count_181 : decode cX12_count 181 = .ok (.iload_n 1, 1) := by decide +kernel
theorem dX12_count_182 : decode cX12_count 182 = .ok (.bipush 30, 2) := by decide +kernel
theorem dX12_count_184 : decode cX12_count 184 = .ok (.isub, 1) := by decide +kernel
theorem dX12_count_185 : decode cX12_count 185 = .ok (.iaload, 1) := by decide +kernel
theorem dX12_count_186 : decode cX12_count 186 = .ok (.ireturn, 1) := by decide +kernel
theorem dX12_count_187 : decode cX12_count 187 = .ok (.iload_n 1, 1) := by decide +kernel
theorem dX12_count_188 : decode cX12_count 188 = .ok (.bipush 40, 2) := by decide +kernel
theorem dX12_count_190 : decode cX12_count 190 = .ok (.bipush 39, 2) := by decide +kernel
theorem dX12_count_192 : decode cX12_count 192 = .ok (.aload_n 0, 1) := by decide +kernel
theorem dX12_count_193 : decode cX12_count 193 = .ok (.getfield 435, 3) := by decide +kernel
theorem dX12_count_196 : decode cX12_count 196 = .ok (.iadd, 1) := by decide +kernel
theorem dX12_count_197 : decode cX12_count 197 = .ok (.invokestatic 214, 3) := by decide +kernel
theorem dX12_count_200 : decode cX12_count 200 = .ok (.ifCond .eq 13, 3) := by decide +kernel
theorem dX12_count_203 : decode cX12_count 203 = .ok (.aload_n 0, 1) := by decide +kernel
theorem dX12_count_204 : decode cX12_count 204 = .ok (.getfield 141, 3) := by decide +kernel
theorem dX12_count_207 : decode cX12_count 207 = .ok (.iload_n 1, 1) := by decide +kernel
theorem dX12_count_208 : decode cX12_count 208 = .ok (.bipush 40, 2) := by decide +kernel
theorem dX12_count_210 : decode cX12_count 210 = .ok (.isub, 1) := by decide +kernel
theorem dX12_count_211 : decode cX12_count 211 = .ok (.iaload, 1) := by decide +kernel
theorem dX12_count_212 : decode cX12_count 212 = .ok (.ireturn, 1) := by decide +kernel
theorem dX12_count_213 : decode cX12_count 213 = .ok (.iload_n 1, 1) := by decide +kernel
theorem dX12_count_214 : decode cX12_count 214 = .ok (.bipush 50, 2) := by decide +kernel
theorem dX12_count_216 : decode cX12_count 216 = .ok (.bipush 49, 2) := by decide +kernel
theorem dX12_count_218 : decode cX12_count 218 = .ok (.aload_n 0, 1) := by decide +kernel
theorem dX12_count_219 : decode cX12_count 219 = .ok (.getfield 447, 3) := by decide +kernel
theorem dX12_count_222 : decode cX12_count 222 = .ok (.iadd, 1) := by decide +kernel
theorem dX12_count_223 : decode cX12_count 223 = .ok (.invokestatic 214, 3) := by decide +kernel
theorem dX12_count_226 : decode cX12_count 226 = .ok (.ifCond .eq 15, 3) := by decide +kernel
theorem dX12_count_229 : decode cX12_count 229 = .ok (.aload_n 0, 1) := by decide +kernel
theorem dX12_count_230 : decode cX12_count 230 = .ok (.getfield 144, 3) := by decide +kernel
theorem dX12_count_233 : decode cX12_count 233 = .ok (.iload_n 1, 1) := by decide +kernel
theorem dX12_count_234 : decode cX12_count 234 = .ok (.bipush 50, 2) := by decide +kernel
theorem dX12_count_236 : decode cX12_count 236 = .ok (.isub, 1) := by decide +kernel
theorem dX12_count_237 : decode cX12_count 237 = .ok (.iaload, 1) := by decide +kernel
theorem dX12_count_238 : decode cX12_count 238 = .ok (.goto 4, 3) := by decide +kernel
theorem dX12_count_241 : decode cX12_count 241 = .ok (.iconst (-1), 1) := by decide +kernel
theorem dX12_count_242 : decode cX12_count 242 = .ok (.ireturn, 1) := by decide +kernel
