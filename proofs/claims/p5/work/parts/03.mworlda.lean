theorem dX12_in_0 : decode cX12_in 0 = .ok (.iload_n 0, 1) := by decide +kernel
theorem dX12_in_1 : decode cX12_in 1 = .ok (.iload_n 1, 1) := by decide +kernel
theorem dX12_in_2 : decode cX12_in 2 = .ok (.if_icmp .lt 12, 3) := by decide +kernel
theorem dX12_in_5 : decode cX12_in 5 = .ok (.iload_n 0, 1) := by decide +kernel
theorem dX12_in_6 : decode cX12_in 6 = .ok (.iload_n 2, 1) := by decide +kernel
theorem dX12_in_7 : decode cX12_in 7 = .ok (.if_icmp .gt 7, 3) := by decide +kernel
theorem dX12_in_10 : decode cX12_in 10 = .ok (.iconst 1, 1) := by decide +kernel
theorem dX12_in_11 : decode cX12_in 11 = .ok (.goto 4, 3) := by decide +kernel
theorem dX12_in_14 : decode cX12_in 14 = .ok (.iconst 0, 1) := by decide +kernel
theorem dX12_in_15 : decode cX12_in 15 = .ok (.ireturn, 1) := by decide +kernel
theorem dX12_isDay_0 : decode cX12_isDay 0 = .ok (.iload_n 0, 1) := by decide +kernel
theorem dX12_isDay_1 : decode cX12_isDay 1 = .ok (.ifCond .lt 14, 3) := by decide +kernel
theorem dX12_isDay_4 : decode cX12_isDay 4 = .ok (.iload_n 0, 1) := by decide +kernel
theorem dX12_isDay_5 : decode cX12_isDay 5 = .ok (.sipush 399, 3) := by decide +kernel
theorem dX12_isDay_8 : decode cX12_isDay 8 = .ok (.if_icmp .gt 7, 3) := by decide +kernel
theorem dX12_isDay_11 : decode cX12_isDay 11 = .ok (.iconst 1, 1) := by decide +kernel
theorem dX12_isDay_12 : decode cX12_isDay 12 = .ok (.goto 4, 3) := by decide +kernel
theorem dX12_isDay_15 : decode cX12_isDay 15 = .ok (.iconst 0, 1) := by decide +kernel
theorem dX12_isDay_16 : decode cX12_isDay 16 = .ok (.ireturn, 1) := by decide +kernel
theorem dX12_isKitchen_0 : decode cX12_isKitchen 0 = .ok (.iload_n 1, 1) := by decide +kernel
theorem dX12_isKitchen_1 : decode cX12_isKitchen 1 = .ok (.ifCond .lt 15, 3) := by decide +kernel
theorem dX12_isKitchen_4 : decode cX12_isKitchen 4 = .ok (.iload_n 1, 1) := by decide +kernel
theorem dX12_isKitchen_5 : decode cX12_isKitchen 5 = .ok (.aload_n 0, 1) := by decide +kernel
theorem dX12_isKitchen_6 : decode cX12_isKitchen 6 = .ok (.getfield 204, 3) := by decide +kernel
theorem dX12_isKitchen_9 : decode cX12_isKitchen 9 = .ok (.if_icmp .ge 7, 3) := by decide +kernel
theorem dX12_isKitchen_12 : decode cX12_isKitchen 12 = .ok (.iconst 1, 1) := by decide +kernel
theorem dX12_isKitchen_13 : decode cX12_isKitchen 13 = .ok (.goto 4, 3) := by decide +kernel
theorem dX12_isKitchen_16 : decode cX12_isKitchen 16 = .ok (.iconst 0, 1) := by decide +kernel
theorem dX12_isKitchen_17 : decode cX12_isKitchen 17 = .ok (.ireturn, 1) := by decide +kernel
theorem dX12_isLoad_0 : decode cX12_isLoad 0 = .ok (.iload_n 1, 1) := by decide +kernel
theorem dX12_isLoad_1 : decode cX12_isLoad 1 = .ok (.ifCond .lt 15, 3) := by decide +kernel
theorem dX12_isLoad_4 : decode cX12_isLoad 4 = .ok (.iload_n 1, 1) := by decide +kernel
theorem dX12_isLoad_5 : decode cX12_isLoad 5 = .ok (.aload_n 0, 1) := by decide +kernel
theorem dX12_isLoad_6 : decode cX12_isLoad 6 = .ok (.getfield 208, 3) := by decide +kernel
theorem dX12_isLoad_9 : decode cX12_isLoad 9 = .ok (.if_icmp .ge 7, 3) := by decide +kernel
theorem dX12_isLoad_12 : decode cX12_isLoad 12 = .ok (.iconst 1, 1) := by decide +kernel
theorem dX12_isLoad_13 : decode cX12_isLoad 13 = .ok (.goto 4, 3) := by decide +kernel
theorem dX12_isLoad_16 : decode cX12_isLoad 16 = .ok (.iconst 0, 1) := by decide +kernel
theorem dX12_isLoad_17 : decode cX12_isLoad 17 = .ok (.ireturn, 1) := by decide +kernel
theorem dX12_now_0 : decode cX12_now 0 = .ok (.iload_n 1, 1) := by decide +kernel
theorem dX12_now_1 : decode cX12_now 1 = .ok (.aload_n 0, 1) := by decide +kernel
theorem dX12_now_2 : decode cX12_now 2 = .ok (.getfield 211, 3) := by decide +kernel
theorem dX12_now_5 : decode cX12_now 5 = .ok (.sipush 399, 3) := by decide +kernel
theorem dX12_now_8 : decode cX12_now 8 = .ok (.invokestatic 214, 3) := by decide +kernel
theorem dX12_now_11 : decode cX12_now 11 = .ok (.ifCond .ne 5, 3) := by decide +kernel
theorem dX12_now_14 : decode cX12_now 14 = .ok (.iconst 0, 1) := by decide +kernel
theorem dX12_now_15 : decode cX12_now 15 = .ok (.ireturn, 1) := by decide +kernel
theorem dX12_now_16 : decode cX12_now 16 = .ok (.aload_n 0, 1) := by decide +kernel
theorem dX12_now_17 : decode cX12_now 17 = .ok (.iload_n 1, 1) := by decide +kernel
theorem dX12_now_18 : decode cX12_now 18 = .ok (.putfield 211, 3) := by decide +kernel
theorem dX12_now_21 : decode cX12_now 21 = .ok (.iconst 1, 1) := by decide +kernel
theorem dX12_now_22 : decode cX12_now 22 = .ok (.ireturn, 1) := by decide +kernel
theorem dX12_kitchen_0 : decode cX12_kitchen 0 = .ok (.iload_n 1, 1) := by decide +kernel
theorem dX12_kitchen_1 : decode cX12_kitchen 1 = .ok (.iconst 0, 1) := by decide +kernel
theorem dX12_kitchen_2 : decode cX12_kitchen 2 = .ok (.bipush 99, 2) := by decide +kernel
theorem dX12_kitchen_4 : decode cX12_kitchen 4 = .ok (.invokestatic 214, 3) := by decide +kernel
theorem dX12_kitchen_7 : decode cX12_kitchen 7 = .ok (.ifCond .eq 45, 3) := by decide +kernel
theorem dX12_kitchen_10 : decode cX12_kitchen 10 = .ok (.iload_n 2, 1) := by decide +kernel
theorem dX12_kitchen_11 : decode cX12_kitchen 11 = .ok (.iconst 0, 1) := by decide +kernel
theorem dX12_kitchen_12 : decode cX12_kitchen 12 = .ok (.bipush 99, 2) := by decide +kernel
theorem dX12_kitchen_14 : decode cX12_kitchen 14 = .ok (.invokestatic 214, 3) := by decide +kernel
theorem dX12_kitchen_17 : decode cX12_kitchen 17 = .ok (.ifCond .eq 35, 3) := by decide +kernel
theorem dX12_kitchen_20 : decode cX12_kitchen 20 = .ok (.iload_n 3, 1) := by decide +kernel
theorem dX12_kitchen_21 : decode cX12_kitchen 21 = .ok (.iconst 0, 1) := by decide +kernel
theorem dX12_kitchen_22 : decode cX12_kitchen 22 = .ok (.bipush 50, 2) := by decide +kernel
theorem dX12_kitchen_24 : decode cX12_kitchen 24 = .ok (.invokestatic 214, 3) := by decide +kernel
theorem dX12_kitchen_27 : decode cX12_kitchen 27 = .ok (.ifCond .eq 25, 3) := by decide +kernel
theorem dX12_kitchen_30 : decode cX12_kitchen 30 = .ok (.iload 4, 2) := by decide +kernel
theorem dX12_kitchen_32 : decode cX12_kitchen 32 = .ok (.bipush 20, 2) := by decide +kernel
theorem dX12_kitchen_34 : decode cX12_kitchen 34 = .ok (.sipush 400, 3) := by decide +kernel
theorem dX12_kitchen_37 : decode cX12_kitchen 37 = .ok (.invokestatic 214, 3) := by decide +kernel
theorem dX12_kitchen_40 : decode cX12_kitchen 40 = .ok (.ifCond .eq 12, 3) := by decide +kernel
theorem dX12_kitchen_43 : decode cX12_kitchen 43 = .ok (.aload_n 0, 1) := by decide +kernel
theorem dX12_kitchen_44 : decode cX12_kitchen 44 = .ok (.getfield 204, 3) := by decide +kernel
theorem dX12_kitchen_47 : decode cX12_kitchen 47 = .ok (.bipush 10, 2) := by decide +kernel
theorem dX12_kitchen_49 : decode cX12_kitchen 49 = .ok (.if_icmp .ne 5, 3) := by decide +kernel
theorem dX12_kitchen_52 : decode cX12_kitchen 52 = .ok (.iconst (-1), 1) := by decide +kernel
theorem dX12_kitchen_53 : decode cX12_kitchen 53 = .ok (.ireturn, 1) := by decide +kernel
theorem dX12_kitchen_54 : decode cX12_kitchen 54 = .ok (.aload_n 0, 1) := by decide +kernel
theorem dX12_kitchen_55 : decode cX12_kitchen 55 = .ok (.getfield 7, 3) := by decide +kernel
theorem dX12_kitchen_58 : decode cX12_kitchen 58 = .ok (.aload_n 0, 1) := by decide +kernel
theorem dX12_kitchen_59 : decode cX12_kitchen 59 = .ok (.getfield 204, 3) := by decide +kernel
theorem dX12_kitchen_62 : decode cX12_kitchen 62 = .ok (.iload_n 1, 1) := by decide +kernel
theorem dX12_kitchen_63 : decode cX12_kitchen 63 = .ok (.iastore, 1) := by decide +kernel
theorem dX12_kitchen_64 : decode cX12_kitchen 64 = .ok (.aload_n 0, 1) := by decide +kernel
theorem dX12_kitchen_65 : decode cX12_kitchen 65 = .ok (.getfield 13, 3) := by decide +kernel
theorem dX12_kitchen_68 : decode cX12_kitchen 68 = .ok (.aload_n 0, 1) := by decide +kernel
theorem dX12_kitchen_69 : decode cX12_kitchen 69 = .ok (.getfield 204, 3) := by decide +kernel
theorem dX12_kitchen_72 : decode cX12_kitchen 72 = .ok (.iload_n 2, 1) := by decide +kernel
theorem dX12_kitchen_73 : decode cX12_kitchen 73 = .ok (.iastore, 1) := by decide +kernel
theorem dX12_kitchen_74 : decode cX12_kitchen 74 = .ok (.aload_n 0, 1) := by decide +kernel
theorem dX12_kitchen_75 : decode cX12_kitchen 75 = .ok (.getfield 16, 3) := by decide +kernel
theorem dX12_kitchen_78 : decode cX12_kitchen 78 = .ok (.aload_n 0, 1) := by decide +kernel
theorem dX12_kitchen_79 : decode cX12_kitchen 79 = .ok (.getfield 204, 3) := by decide +kernel
theorem dX12_kitchen_82 : decode cX12_kitchen 82 = .ok (.iload_n 3, 1) := by decide +kernel
theorem dX12_kitchen_83 : decode cX12_kitchen 83 = .ok (.iastore, 1) := by decide +kernel
theorem dX12_kitchen_84 : decode cX12_kitchen 84 = .ok (.aload_n 0, 1) := by decide +kernel
theorem dX12_kitchen_85 : decode cX12_kitchen 85 = .ok (.getfield 19, 3) := by decide +kernel
theorem dX12_kitchen_88 : decode cX12_kitchen 88 = .ok (.aload_n 0, 1) := by decide +kernel
theorem dX12_kitchen_89 : decode cX12_kitchen 89 = .ok (.getfield 204, 3) := by decide +kernel
theorem dX12_kitchen_92 : decode cX12_kitchen 92 = .ok (.iload 4, 2) := by decide +kernel
theorem dX12_kitchen_94 : decode cX12_kitchen 94 = .ok (.iastore, 1) := by decide +kernel
theorem dX12_kitchen_95 : decode cX12_kitchen 95 = .ok (.aload_n 0, 1) := by decide +kernel
theorem dX12_kitchen_96 : decode cX12_kitchen 96 = .ok (.aload_n 0, 1) := by decide +kernel
theorem dX12_kitchen_97 : decode cX12_kitchen 97 = .ok (.getfield 204, 3) := by decide +kernel
theorem dX12_kitchen_100 : decode cX12_kitchen 100 = .ok (.iconst 1, 1) := by decide +kernel
theorem dX12_kitchen_101 : decode cX12_kitchen 101 = .ok (.iadd, 1) := by decide +kernel
theorem dX12_kitchen_102 : decode cX12_kitchen 102 = .ok (.putfield 204, 3) := by decide +kernel
theorem dX12_kitchen_105 : decode cX12_kitchen 105 = .ok (.aload_n 0, 1) := by decide +kernel
theorem dX12_kitchen_106 : decode cX12_kitchen 106 = .ok (.getfield 204, 3) := by decide +kernel
theorem dX12_kitchen_109 : decode cX12_kitchen 109 = .ok (.iconst 1, 1) := by decide +kernel
theorem dX12_kitchen_110 : decode cX12_kitchen 110 = .ok (.isub, 1) := by decide +kernel
theorem dX12_kitchen_111 : decode cX12_kitchen 111 = .ok (.ireturn, 1) := by decide +kernel
theorem dX12_likelyOn_0 : decode cX12_likelyOn 0 = .ok (.aload_n 0, 1) := by decide +kernel
theorem dX12_likelyOn_1 : decode cX12_likelyOn 1 = .ok (.getfield 16, 3) := by decide +kernel
theorem dX12_likelyOn_4 : decode cX12_likelyOn 4 = .ok (.iload_n 1, 1) := by decide +kernel
theorem dX12_likelyOn_5 : decode cX12_likelyOn 5 = .ok (.iaload, 1) := by decide +kernel
theorem dX12_likelyOn_6 : decode cX12_likelyOn 6 = .ok (.iload_n 2, 1) := by decide +kernel
theorem dX12_likelyOn_7 : decode cX12_likelyOn 7 = .ok (.aload_n 0, 1) := by decide +kernel
theorem dX12_likelyOn_8 : decode cX12_likelyOn 8 = .ok (.getfield 22, 3) := by decide +kernel
theorem dX12_likelyOn_11 : decode cX12_likelyOn 11 = .ok (.iload_n 1, 1) := by decide +kernel
theorem dX12_likelyOn_12 : decode cX12_likelyOn 12 = .ok (.iaload, 1) := by decide +kernel
theorem dX12_likelyOn_13 : decode cX12_likelyOn 13 = .ok (.isub, 1) := by decide +kernel
theorem dX12_likelyOn_14 : decode cX12_likelyOn 14 = .ok (.imul, 1) := by decide +kernel
theorem dX12_likelyOn_15 : decode cX12_likelyOn 15 = .ok (.istore_n 3, 1) := by decide +kernel
theorem dX12_likelyOn_16 : decode cX12_likelyOn 16 = .ok (.iload_n 3, 1) := by decide +kernel
theorem dX12_likelyOn_17 : decode cX12_likelyOn 17 = .ok (.aload_n 0, 1) := by decide +kernel
theorem dX12_likelyOn_18 : decode cX12_likelyOn 18 = .ok (.getfield 19, 3) := by decide +kernel
theorem dX12_likelyOn_21 : decode cX12_likelyOn 21 = .ok (.iload_n 1, 1) := by decide +kernel
theorem dX12_likelyOn_22 : decode cX12_likelyOn 22 = .ok (.iaload, 1) := by decide +kernel
theorem dX12_likelyOn_23 : decode cX12_likelyOn 23 = .ok (.if_icmp .ge 7, 3) := by decide +kernel
theorem dX12_likelyOn_26 : decode cX12_likelyOn 26 = .ok (.iload_n 3, 1) := by decide +kernel
theorem dX12_likelyOn_27 : decode cX12_likelyOn 27 = .ok (.goto 9, 3) := by decide +kernel
theorem dX12_likelyOn_30 : decode cX12_likelyOn 30 = .ok (.aload_n 0, 1) := by decide +kernel
theorem dX12_likelyOn_31 : decode cX12_likelyOn 31 = .ok (.getfield 19, 3) := by decide +kernel
theorem dX12_likelyOn_34 : decode cX12_likelyOn 34 = .ok (.iload_n 1, 1) := by decide +kernel
theorem dX12_likelyOn_35 : decode cX12_likelyOn 35 = .ok (.iaload, 1) := by decide +kernel
theorem dX12_likelyOn_36 : decode cX12_likelyOn 36 = .ok (.ireturn, 1) := by decide +kernel
theorem dX12_likely_0 : decode cX12_likely 0 = .ok (.aload_n 0, 1) := by decide +kernel
theorem dX12_likely_1 : decode cX12_likely 1 = .ok (.iload_n 1, 1) := by decide +kernel
theorem dX12_likely_2 : decode cX12_likely 2 = .ok (.invokevirtual 218, 3) := by decide +kernel
theorem dX12_likely_5 : decode cX12_likely 5 = .ok (.ifCond .eq 19, 3) := by decide +kernel
theorem dX12_likely_8 : decode cX12_likely 8 = .ok (.iload_n 2, 1) := by decide +kernel
theorem dX12_likely_9 : decode cX12_likely 9 = .ok (.aload_n 0, 1) := by decide +kernel
theorem dX12_likely_10 : decode cX12_likely 10 = .ok (.getfield 22, 3) := by decide +kernel
theorem dX12_likely_13 : decode cX12_likely 13 = .ok (.iload_n 1, 1) := by decide +kernel
theorem dX12_likely_14 : decode cX12_likely 14 = .ok (.iaload, 1) := by decide +kernel
theorem dX12_likely_15 : decode cX12_likely 15 = .ok (.sipush 399, 3) := by decide +kernel
theorem dX12_likely_18 : decode cX12_likely 18 = .ok (.invokestatic 214, 3) := by decide +kernel
theorem dX12_likely_21 : decode cX12_likely 21 = .ok (.ifCond .ne 7, 3) := by decide +kernel
theorem dX12_likely_24 : decode cX12_likely 24 = .ok (.iconst (-1), 1) := by decide +kernel
theorem dX12_likely_25 : decode cX12_likely 25 = .ok (.goto 9, 3) := by decide +kernel
theorem dX12_likely_28 : decode cX12_likely 28 = .ok (.aload_n 0, 1) := by decide +kernel
theorem dX12_likely_29 : decode cX12_likely 29 = .ok (.iload_n 1, 1) := by decide +kernel
theorem dX12_likely_30 : decode cX12_likely 30 = .ok (.iload_n 2, 1) := by decide +kernel
theorem dX12_likely_31 : decode cX12_likely 31 = .ok (.invokevirtual 222, 3) := by decide +kernel
theorem dX12_likely_34 : decode cX12_likely 34 = .ok (.ireturn, 1) := by decide +kernel
theorem dX12_fetch_0 : decode cX12_fetch 0 = .ok (.aload_n 0, 1) := by decide +kernel
theorem dX12_fetch_1 : decode cX12_fetch 1 = .ok (.iload_n 1, 1) := by decide +kernel
theorem dX12_fetch_2 : decode cX12_fetch 2 = .ok (.invokevirtual 218, 3) := by decide +kernel
theorem dX12_fetch_5 : decode cX12_fetch 5 = .ok (.ifCond .eq 76, 3) := by decide +kernel
theorem dX12_fetch_8 : decode cX12_fetch 8 = .ok (.iload_n 2, 1) := by decide +kernel
theorem dX12_fetch_9 : decode cX12_fetch 9 = .ok (.aload_n 0, 1) := by decide +kernel
theorem dX12_fetch_10 : decode cX12_fetch 10 = .ok (.getfield 22, 3) := by decide +kernel
theorem dX12_fetch_13 : decode cX12_fetch 13 = .ok (.iload_n 1, 1) := by decide +kernel
theorem dX12_fetch_14 : decode cX12_fetch 14 = .ok (.iaload, 1) := by decide +kernel
theorem dX12_fetch_15 : decode cX12_fetch 15 = .ok (.aload_n 0, 1) := by decide +kernel
theorem dX12_fetch_16 : decode cX12_fetch 16 = .ok (.getfield 211, 3) := by decide +kernel
theorem dX12_fetch_19 : decode cX12_fetch 19 = .ok (.invokestatic 214, 3) := by decide +kernel
theorem dX12_fetch_22 : decode cX12_fetch 22 = .ok (.ifCond .eq 59, 3) := by decide +kernel
theorem dX12_fetch_25 : decode cX12_fetch 25 = .ok (.iload_n 3, 1) := by decide +kernel
theorem dX12_fetch_26 : decode cX12_fetch 26 = .ok (.iconst 0, 1) := by decide +kernel
theorem dX12_fetch_27 : decode cX12_fetch 27 = .ok (.sipush 400, 3) := by decide +kernel
theorem dX12_fetch_30 : decode cX12_fetch 30 = .ok (.invokestatic 214, 3) := by decide +kernel
theorem dX12_fetch_33 : decode cX12_fetch 33 = .ok (.ifCond .eq 48, 3) := by decide +kernel
theorem dX12_fetch_36 : decode cX12_fetch 36 = .ok (.iload 4, 2) := by decide +kernel
theorem dX12_fetch_38 : decode cX12_fetch 38 = .ok (.iconst 0, 1) := by decide +kernel
theorem dX12_fetch_39 : decode cX12_fetch 39 = .ok (.sipush 1000, 3) := by decide +kernel
theorem dX12_fetch_42 : decode cX12_fetch 42 = .ok (.invokestatic 214, 3) := by decide +kernel
theorem dX12_fetch_45 : decode cX12_fetch 45 = .ok (.ifCond .eq 36, 3) := by decide +kernel
theorem dX12_fetch_48 : decode cX12_fetch 48 = .ok (.iload 5, 2) := by decide +kernel
theorem dX12_fetch_50 : decode cX12_fetch 50 = .ok (.iconst 0, 1) := by decide +kernel
theorem dX12_fetch_51 : decode cX12_fetch 51 = .ok (.sipush 1000, 3) := by decide +kernel
theorem dX12_fetch_54 : decode cX12_fetch 54 = .ok (.invokestatic 214, 3) := by decide +kernel
theorem dX12_fetch_57 : decode cX12_fetch 57 = .ok (.ifCond .eq 24, 3) := by decide +kernel
theorem dX12_fetch_60 : decode cX12_fetch 60 = .ok (.iload 6, 2) := by decide +kernel
theorem dX12_fetch_62 : decode cX12_fetch 62 = .ok (.iload_n 2, 1) := by decide +kernel
theorem dX12_fetch_63 : decode cX12_fetch 63 = .ok (.sipush 399, 3) := by decide +kernel
theorem dX12_fetch_66 : decode cX12_fetch 66 = .ok (.invokestatic 214, 3) := by decide +kernel
theorem dX12_fetch_69 : decode cX12_fetch 69 = .ok (.ifCond .eq 12, 3) := by decide +kernel
theorem dX12_fetch_72 : decode cX12_fetch 72 = .ok (.aload_n 0, 1) := by decide +kernel
theorem dX12_fetch_73 : decode cX12_fetch 73 = .ok (.getfield 208, 3) := by decide +kernel
theorem dX12_fetch_76 : decode cX12_fetch 76 = .ok (.bipush 60, 2) := by decide +kernel
theorem dX12_fetch_78 : decode cX12_fetch 78 = .ok (.if_icmp .ne 5, 3) := by decide +kernel
theorem dX12_fetch_81 : decode cX12_fetch 81 = .ok (.iconst (-1), 1) := by decide +kernel
theorem dX12_fetch_82 : decode cX12_fetch 82 = .ok (.ireturn, 1) := by decide +kernel
theorem dX12_fetch_83 : decode cX12_fetch 83 = .ok (.aload_n 0, 1) := by decide +kernel
theorem dX12_fetch_84 : decode cX12_fetch 84 = .ok (.iload_n 1, 1) := by decide +kernel
theorem dX12_fetch_85 : decode cX12_fetch 85 = .ok (.iload_n 2, 1) := by decide +kernel
theorem dX12_fetch_86 : decode cX12_fetch 86 = .ok (.invokevirtual 222, 3) := by decide +kernel
theorem dX12_fetch_89 : decode cX12_fetch 89 = .ok (.istore 7, 2) := by decide +kernel
theorem dX12_fetch_91 : decode cX12_fetch 91 = .ok (.iload 7, 2) := by decide +kernel
theorem dX12_fetch_93 : decode cX12_fetch 93 = .ok (.iload_n 3, 1) := by decide +kernel
theorem dX12_fetch_94 : decode cX12_fetch 94 = .ok (.isub, 1) := by decide +kernel
theorem dX12_fetch_95 : decode cX12_fetch 95 = .ok (.iload 7, 2) := by decide +kernel
theorem dX12_fetch_97 : decode cX12_fetch 97 = .ok (.bipush 10, 2) := by decide +kernel
theorem dX12_fetch_99 : decode cX12_fetch 99 = .ok (.idiv, 1) := by decide +kernel
theorem dX12_fetch_100 : decode cX12_fetch 100 = .ok (.isub, 1) := by decide +kernel
theorem dX12_fetch_101 : decode cX12_fetch 101 = .ok (.istore 8, 2) := by decide +kernel
theorem dX12_fetch_103 : decode cX12_fetch 103 = .ok (.aload_n 0, 1) := by decide +kernel
theorem dX12_fetch_104 : decode cX12_fetch 104 = .ok (.getfield 25, 3) := by decide +kernel
theorem dX12_fetch_107 : decode cX12_fetch 107 = .ok (.aload_n 0, 1) := by decide +kernel
theorem dX12_fetch_108 : decode cX12_fetch 108 = .ok (.getfield 208, 3) := by decide +kernel
theorem dX12_fetch_111 : decode cX12_fetch 111 = .ok (.iload_n 1, 1) := by decide +kernel
theorem dX12_fetch_112 : decode cX12_fetch 112 = .ok (.iastore, 1) := by decide +kernel
theorem dX12_fetch_113 : decode cX12_fetch 113 = .ok (.aload_n 0, 1) := by decide +kernel
theorem dX12_fetch_114 : decode cX12_fetch 114 = .ok (.getfield 28, 3) := by decide +kernel
theorem dX12_fetch_117 : decode cX12_fetch 117 = .ok (.aload_n 0, 1) := by decide +kernel
theorem dX12_fetch_118 : decode cX12_fetch 118 = .ok (.getfield 208, 3) := by decide +kernel
theorem dX12_fetch_121 : decode cX12_fetch 121 = .ok (.iload_n 2, 1) := by decide +kernel
theorem dX12_fetch_122 : decode cX12_fetch 122 = .ok (.iastore, 1) := by decide +kernel
theorem dX12_fetch_123 : decode cX12_fetch 123 = .ok (.aload_n 0, 1) := by decide +kernel
theorem dX12_fetch_124 : decode cX12_fetch 124 = .ok (.getfield 31, 3) := by decide +kernel
theorem dX12_fetch_127 : decode cX12_fetch 127 = .ok (.aload_n 0, 1) := by decide +kernel
theorem dX12_fetch_128 : decode cX12_fetch 128 = .ok (.getfield 208, 3) := by decide +kernel
theorem dX12_fetch_131 : decode cX12_fetch 131 = .ok (.iload_n 3, 1) := by decide +kernel
theorem dX12_fetch_132 : decode cX12_fetch 132 = .ok (.iastore, 1) := by decide +kernel
theorem dX12_fetch_133 : decode cX12_fetch 133 = .ok (.aload_n 0, 1) := by decide +kernel
theorem dX12_fetch_134 : decode cX12_fetch 134 = .ok (.getfield 34, 3) := by decide +kernel
theorem dX12_fetch_137 : decode cX12_fetch 137 = .ok (.aload_n 0, 1) := by decide +kernel
theorem dX12_fetch_138 : decode cX12_fetch 138 = .ok (.getfield 208, 3) := by decide +kernel
theorem dX12_fetch_141 : decode cX12_fetch 141 = .ok (.iload 4, 2) := by decide +kernel
theorem dX12_fetch_143 : decode cX12_fetch 143 = .ok (.iastore, 1) := by decide +kernel
theorem dX12_fetch_144 : decode cX12_fetch 144 = .ok (.aload_n 0, 1) := by decide +kernel
theorem dX12_fetch_145 : decode cX12_fetch 145 = .ok (.getfield 37, 3) := by decide +kernel
theorem dX12_fetch_148 : decode cX12_fetch 148 = .ok (.aload_n 0, 1) := by decide +kernel
theorem dX12_fetch_149 : decode cX12_fetch 149 = .ok (.getfield 208, 3) := by decide +kernel
theorem dX12_fetch_152 : decode cX12_fetch 152 = .ok (.iload 5, 2) := by decide +kernel
theorem dX12_fetch_154 : decode cX12_fetch 154 = .ok (.iastore, 1) := by decide +kernel
theorem dX12_fetch_155 : decode cX12_fetch 155 = .ok (.aload_n 0, 1) := by decide +kernel
theorem dX12_fetch_156 : decode cX12_fetch 156 = .ok (.getfield 40, 3) := by decide +kernel
theorem dX12_fetch_159 : decode cX12_fetch 159 = .ok (.aload_n 0, 1) := by decide +kernel
theorem dX12_fetch_160 : decode cX12_fetch 160 = .ok (.getfield 208, 3) := by decide +kernel
theorem dX12_fetch_163 : decode cX12_fetch 163 = .ok (.iload 6, 2) := by decide +kernel
theorem dX12_fetch_165 : decode cX12_fetch 165 = .ok (.iastore, 1) := by decide +kernel
theorem dX12_fetch_166 : decode cX12_fetch 166 = .ok (.aload_n 0, 1) := by decide +kernel
theorem dX12_fetch_167 : decode cX12_fetch 167 = .ok (.getfield 43, 3) := by decide +kernel
theorem dX12_fetch_170 : decode cX12_fetch 170 = .ok (.aload_n 0, 1) := by decide +kernel
theorem dX12_fetch_171 : decode cX12_fetch 171 = .ok (.getfield 208, 3) := by decide +kernel
theorem dX12_fetch_174 : decode cX12_fetch 174 = .ok (.iload 8, 2) := by decide +kernel
theorem dX12_fetch_176 : decode cX12_fetch 176 = .ok (.ifCond .le 8, 3) := by decide +kernel
theorem dX12_fetch_179 : decode cX12_fetch 179 = .ok (.iload 8, 2) := by decide +kernel
theorem dX12_fetch_181 : decode cX12_fetch 181 = .ok (.goto 4, 3) := by decide +kernel
theorem dX12_fetch_184 : decode cX12_fetch 184 = .ok (.iconst 0, 1) := by decide +kernel
theorem dX12_fetch_185 : decode cX12_fetch 185 = .ok (.iastore, 1) := by decide +kernel
theorem dX12_fetch_186 : decode cX12_fetch 186 = .ok (.aload_n 0, 1) := by decide +kernel
theorem dX12_fetch_187 : decode cX12_fetch 187 = .ok (.getfield 46, 3) := by decide +kernel
theorem dX12_fetch_190 : decode cX12_fetch 190 = .ok (.aload_n 0, 1) := by decide +kernel
theorem dX12_fetch_191 : decode cX12_fetch 191 = .ok (.getfield 208, 3) := by decide +kernel
theorem dX12_fetch_194 : decode cX12_fetch 194 = .ok (.iconst (-1), 1) := by decide +kernel
theorem dX12_fetch_195 : decode cX12_fetch 195 = .ok (.iastore, 1) := by decide +kernel
theorem dX12_fetch_196 : decode cX12_fetch 196 = .ok (.aload_n 0, 1) := by decide +kernel
theorem dX12_fetch_197 : decode cX12_fetch 197 = .ok (.getfield 49, 3) := by decide +kernel
theorem dX12_fetch_200 : decode cX12_fetch 200 = .ok (.aload_n 0, 1) := by decide +kernel
theorem dX12_fetch_201 : decode cX12_fetch 201 = .ok (.getfield 208, 3) := by decide +kernel
theorem dX12_fetch_204 : decode cX12_fetch 204 = .ok (.aload_n 0, 1) := by decide +kernel
theorem dX12_fetch_205 : decode cX12_fetch 205 = .ok (.getfield 22, 3) := by decide +kernel
theorem dX12_fetch_208 : decode cX12_fetch 208 = .ok (.iload_n 1, 1) := by decide +kernel
theorem dX12_fetch_209 : decode cX12_fetch 209 = .ok (.iaload, 1) := by decide +kernel
theorem dX12_fetch_210 : decode cX12_fetch 210 = .ok (.iastore, 1) := by decide +kernel
theorem dX12_fetch_211 : decode cX12_fetch 211 = .ok (.aload_n 0, 1) := by decide +kernel
theorem dX12_fetch_212 : decode cX12_fetch 212 = .ok (.getfield 22, 3) := by decide +kernel
theorem dX12_fetch_215 : decode cX12_fetch 215 = .ok (.iload_n 1, 1) := by decide +kernel
theorem dX12_fetch_216 : decode cX12_fetch 216 = .ok (.iload_n 2, 1) := by decide +kernel
theorem dX12_fetch_217 : decode cX12_fetch 217 = .ok (.iastore, 1) := by decide +kernel
theorem dX12_fetch_218 : decode cX12_fetch 218 = .ok (.aload_n 0, 1) := by decide +kernel
theorem dX12_fetch_219 : decode cX12_fetch 219 = .ok (.aload_n 0, 1) := by decide +kernel
theorem dX12_fetch_220 : decode cX12_fetch 220 = .ok (.getfield 208, 3) := by decide +kernel
theorem dX12_fetch_223 : decode cX12_fetch 223 = .ok (.iconst 1, 1) := by decide +kernel
theorem dX12_fetch_224 : decode cX12_fetch 224 = .ok (.iadd, 1) := by decide +kernel
theorem dX12_fetch_225 : decode cX12_fetch 225 = .ok (.putfield 208, 3) := by decide +kernel
theorem dX12_fetch_228 : decode cX12_fetch 228 = .ok (.aload_n 0, 1) := by decide +kernel
theorem dX12_fetch_229 : decode cX12_fetch 229 = .ok (.getfield 208, 3) := by decide +kernel
theorem dX12_fetch_232 : decode cX12_fetch 232 = .ok (.iconst 1, 1) := by decide +kernel
theorem dX12_fetch_233 : decode cX12_fetch 233 = .ok (.isub, 1) := by decide +kernel
theorem dX12_fetch_234 : decode cX12_fetch 234 = .ok (.ireturn, 1) := by decide +kernel
theorem dX12_types_0 : decode cX12_types 0 = .ok (.iconst 3, 1) := by decide +kernel
theorem dX12_types_1 : decode cX12_types 1 = .ok (.istore_n 2, 1) := by decide +kernel
theorem dX12_types_2 : decode cX12_types 2 = .ok (.iload_n 2, 1) := by decide +kernel
theorem dX12_types_3 : decode cX12_types 3 = .ok (.ifCond .lt 35, 3) := by decide +kernel
theorem dX12_types_6 : decode cX12_types 6 = .ok (.aload_n 0, 1) := by decide +kernel
theorem dX12_types_7 : decode cX12_types 7 = .ok (.getfield 52, 3) := by decide +kernel
theorem dX12_types_10 : decode cX12_types 10 = .ok (.aload_n 0, 1) := by decide +kernel
theorem dX12_types_11 : decode cX12_types 11 = .ok (.getfield 226, 3) := by decide +kernel
theorem dX12_types_14 : decode cX12_types 14 = .ok (.iload_n 1, 1) := by decide +kernel
theorem dX12_types_15 : decode cX12_types 15 = .ok (.bipush 8, 2) := by decide +kernel
theorem dX12_types_17 : decode cX12_types 17 = .ok (.iload_n 2, 1) := by decide +kernel
theorem dX12_types_18 : decode cX12_types 18 = .ok (.imul, 1) := by decide +kernel
theorem dX12_types_19 : decode cX12_types 19 = .ok (.ishr, 1) := by decide +kernel
theorem dX12_types_20 : decode cX12_types 20 = .ok (.i2b, 1) := by decide +kernel
theorem dX12_types_21 : decode cX12_types 21 = .ok (.bastore, 1) := by decide +kernel
theorem dX12_types_22 : decode cX12_types 22 = .ok (.aload_n 0, 1) := by decide +kernel
theorem dX12_types_23 : decode cX12_types 23 = .ok (.aload_n 0, 1) := by decide +kernel
theorem dX12_types_24 : decode cX12_types 24 = .ok (.getfield 226, 3) := by decide +kernel
theorem dX12_types_27 : decode cX12_types 27 = .ok (.iconst 1, 1) := by decide +kernel
theorem dX12_types_28 : decode cX12_types 28 = .ok (.iadd, 1) := by decide +kernel
theorem dX12_types_29 : decode cX12_types 29 = .ok (.putfield 226, 3) := by decide +kernel
theorem dX12_types_32 : decode cX12_types 32 = .ok (.iinc 2 (-1), 3) := by decide +kernel
theorem dX12_types_35 : decode cX12_types 35 = .ok (.goto (-33), 3) := by decide +kernel
theorem dX12_types_38 : decode cX12_types 38 = .ok (.return_, 1) := by decide +kernel
theorem dX12_feed_0 : decode cX12_feed 0 = .ok (.aload_n 0, 1) := by decide +kernel
theorem dX12_feed_1 : decode cX12_feed 1 = .ok (.getfield 226, 3) := by decide +kernel
theorem dX12_feed_4 : decode cX12_feed 4 = .ok (.bipush 20, 2) := by decide +kernel
theorem dX12_feed_6 : decode cX12_feed 6 = .ok (.iadd, 1) := by decide +kernel
theorem dX12_feed_7 : decode cX12_feed 7 = .ok (.sipush 200, 3) := by decide +kernel
theorem dX12_feed_10 : decode cX12_feed 10 = .ok (.if_icmp .le 5, 3) := by decide +kernel
theorem dX12_feed_13 : decode cX12_feed 13 = .ok (.iconst (-1), 1) := by decide +kernel
theorem dX12_feed_14 : decode cX12_feed 14 = .ok (.ireturn, 1) := by decide +kernel
theorem dX12_feed_15 : decode cX12_feed 15 = .ok (.aload_n 0, 1) := by decide +kernel
theorem dX12_feed_16 : decode cX12_feed 16 = .ok (.iload_n 1, 1) := by decide +kernel
theorem dX12_feed_17 : decode cX12_feed 17 = .ok (.invokevirtual 229, 3) := by decide +kernel
theorem dX12_feed_20 : decode cX12_feed 20 = .ok (.aload_n 0, 1) := by decide +kernel
theorem dX12_feed_21 : decode cX12_feed 21 = .ok (.iload_n 2, 1) := by decide +kernel
theorem dX12_feed_22 : decode cX12_feed 22 = .ok (.invokevirtual 229, 3) := by decide +kernel
theorem dX12_feed_25 : decode cX12_feed 25 = .ok (.aload_n 0, 1) := by decide +kernel
theorem dX12_feed_26 : decode cX12_feed 26 = .ok (.iload_n 3, 1) := by decide +kernel
theorem dX12_feed_27 : decode cX12_feed 27 = .ok (.invokevirtual 229, 3) := by decide +kernel
theorem dX12_feed_30 : decode cX12_feed 30 = .ok (.aload_n 0, 1) := by decide +kernel
theorem dX12_feed_31 : decode cX12_feed 31 = .ok (.iload 4, 2) := by decide +kernel
theorem dX12_feed_33 : decode cX12_feed 33 = .ok (.invokevirtual 229, 3) := by decide +kernel
theorem dX12_feed_36 : decode cX12_feed 36 = .ok (.aload_n 0, 1) := by decide +kernel
theorem dX12_feed_37 : decode cX12_feed 37 = .ok (.iload 5, 2) := by decide +kernel
theorem dX12_feed_39 : decode cX12_feed 39 = .ok (.invokevirtual 229, 3) := by decide +kernel
theorem dX12_feed_42 : decode cX12_feed 42 = .ok (.aload_n 0, 1) := by decide +kernel
theorem dX12_feed_43 : decode cX12_feed 43 = .ok (.getfield 226, 3) := by decide +kernel
theorem dX12_feed_46 : decode cX12_feed 46 = .ok (.ireturn, 1) := by decide +kernel
theorem dX12_here_0 : decode cX12_here 0 = .ok (.aload_n 0, 1) := by decide +kernel
theorem dX12_here_1 : decode cX12_here 1 = .ok (.getfield 233, 3) := by decide +kernel
theorem dX12_here_4 : decode cX12_here 4 = .ok (.aload_n 0, 1) := by decide +kernel
theorem dX12_here_5 : decode cX12_here 5 = .ok (.getfield 236, 3) := by decide +kernel
theorem dX12_here_8 : decode cX12_here 8 = .ok (.if_icmp .ge 19, 3) := by decide +kernel
theorem dX12_here_11 : decode cX12_here 11 = .ok (.aload_n 0, 1) := by decide +kernel
theorem dX12_here_12 : decode cX12_here 12 = .ok (.getfield 52, 3) := by decide +kernel
theorem dX12_here_15 : decode cX12_here 15 = .ok (.aload_n 0, 1) := by decide +kernel
theorem dX12_here_16 : decode cX12_here 16 = .ok (.getfield 233, 3) := by decide +kernel
theorem dX12_here_19 : decode cX12_here 19 = .ok (.baload, 1) := by decide +kernel
theorem dX12_here_20 : decode cX12_here 20 = .ok (.sipush 255, 3) := by decide +kernel
theorem dX12_here_23 : decode cX12_here 23 = .ok (.iand, 1) := by decide +kernel
theorem dX12_here_24 : decode cX12_here 24 = .ok (.goto 4, 3) := by decide +kernel
theorem dX12_here_27 : decode cX12_here 27 = .ok (.iconst (-1), 1) := by decide +kernel
theorem dX12_here_28 : decode cX12_here 28 = .ok (.ireturn, 1) := by decide +kernel
theorem dX12_isDigit_0 : decode cX12_isDigit 0 = .ok (.aload_n 0, 1) := by decide +kernel
theorem dX12_isDigit_1 : decode cX12_isDigit 1 = .ok (.invokevirtual 239, 3) := by decide +kernel
theorem dX12_isDigit_4 : decode cX12_isDigit 4 = .ok (.bipush 48, 2) := by decide +kernel
theorem dX12_isDigit_6 : decode cX12_isDigit 6 = .ok (.if_icmp .lt 16, 3) := by decide +kernel
theorem dX12_isDigit_9 : decode cX12_isDigit 9 = .ok (.aload_n 0, 1) := by decide +kernel
theorem dX12_isDigit_10 : decode cX12_isDigit 10 = .ok (.invokevirtual 239, 3) := by decide +kernel
theorem dX12_isDigit_13 : decode cX12_isDigit 13 = .ok (.bipush 57, 2) := by decide +kernel
theorem dX12_isDigit_15 : decode cX12_isDigit 15 = .ok (.if_icmp .gt 7, 3) := by decide +kernel
theorem dX12_isDigit_18 : decode cX12_isDigit 18 = .ok (.iconst 1, 1) := by decide +kernel
theorem dX12_isDigit_19 : decode cX12_isDigit 19 = .ok (.goto 4, 3) := by decide +kernel
theorem dX12_isDigit_22 : decode cX12_isDigit 22 = .ok (.iconst 0, 1) := by decide +kernel
theorem dX12_isDigit_23 : decode cX12_isDigit 23 = .ok (.ireturn, 1) := by decide +kernel
theorem dX12_wrong_0 : decode cX12_wrong 0 = .ok (.aload_n 0, 1) := by decide +kernel
theorem dX12_wrong_1 : decode cX12_wrong 1 = .ok (.sipush (-1000), 3) := by decide +kernel
theorem dX12_wrong_4 : decode cX12_wrong 4 = .ok (.iload_n 1, 1) := by decide +kernel
theorem dX12_wrong_5 : decode cX12_wrong 5 = .ok (.imul, 1) := by decide +kernel
theorem dX12_wrong_6 : decode cX12_wrong 6 = .ok (.iload_n 2, 1) := by decide +kernel
theorem dX12_wrong_7 : decode cX12_wrong 7 = .ok (.isub, 1) := by decide +kernel
theorem dX12_wrong_8 : decode cX12_wrong 8 = .ok (.putfield 243, 3) := by decide +kernel
theorem dX12_wrong_11 : decode cX12_wrong 11 = .ok (.iconst 0, 1) := by decide +kernel
theorem dX12_wrong_12 : decode cX12_wrong 12 = .ok (.ireturn, 1) := by decide +kernel
theorem dX12_takes_0 : decode cX12_takes 0 = .ok (.aload_n 0, 1) := by decide +kernel
theorem dX12_takes_1 : decode cX12_takes 1 = .ok (.invokevirtual 239, 3) := by decide +kernel
theorem dX12_takes_4 : decode cX12_takes 4 = .ok (.iload_n 1, 1) := by decide +kernel
theorem dX12_takes_5 : decode cX12_takes 5 = .ok (.if_icmp .eq 13, 3) := by decide +kernel
theorem dX12_takes_8 : decode cX12_takes 8 = .ok (.aload_n 0, 1) := by decide +kernel
theorem dX12_takes_9 : decode cX12_takes 9 = .ok (.iconst 1, 1) := by decide +kernel
theorem dX12_takes_10 : decode cX12_takes 10 = .ok (.aload_n 0, 1) := by decide +kernel
theorem dX12_takes_11 : decode cX12_takes 11 = .ok (.getfield 233, 3) := by decide +kernel
theorem dX12_takes_14 : decode cX12_takes 14 = .ok (.invokevirtual 246, 3) := by decide +kernel
theorem dX12_takes_17 : decode cX12_takes 17 = .ok (.ireturn, 1) := by decide +kernel
theorem dX12_takes_18 : decode cX12_takes 18 = .ok (.aload_n 0, 1) := by decide +kernel
theorem dX12_takes_19 : decode cX12_takes 19 = .ok (.aload_n 0, 1) := by decide +kernel
theorem dX12_takes_20 : decode cX12_takes 20 = .ok (.getfield 233, 3) := by decide +kernel
theorem dX12_takes_23 : decode cX12_takes 23 = .ok (.iconst 1, 1) := by decide +kernel
theorem dX12_takes_24 : decode cX12_takes 24 = .ok (.iadd, 1) := by decide +kernel
theorem dX12_takes_25 : decode cX12_takes 25 = .ok (.putfield 233, 3) := by decide +kernel
theorem dX12_takes_28 : decode cX12_takes 28 = .ok (.iconst 1, 1) := by decide +kernel
theorem dX12_takes_29 : decode cX12_takes 29 = .ok (.ireturn, 1) := by decide +kernel
theorem dX12_readsNumber_0 : decode cX12_readsNumber 0 = .ok (.aload_n 0, 1) := by decide +kernel
theorem dX12_readsNumber_1 : decode cX12_readsNumber 1 = .ok (.getfield 233, 3) := by decide +kernel
theorem dX12_readsNumber_4 : decode cX12_readsNumber 4 = .ok (.istore_n 1, 1) := by decide +kernel
theorem dX12_readsNumber_5 : decode cX12_readsNumber 5 = .ok (.aload_n 0, 1) := by decide +kernel
theorem dX12_readsNumber_6 : decode cX12_readsNumber 6 = .ok (.iconst 0, 1) := by decide +kernel
theorem dX12_readsNumber_7 : decode cX12_readsNumber 7 = .ok (.putfield 250, 3) := by decide +kernel
theorem dX12_readsNumber_10 : decode cX12_readsNumber 10 = .ok (.aload_n 0, 1) := by decide +kernel
theorem dX12_readsNumber_11 : decode cX12_readsNumber 11 = .ok (.invokevirtual 253, 3) := by decide +kernel
theorem dX12_readsNumber_14 : decode cX12_readsNumber 14 = .ok (.ifCond .eq 56, 3) := by decide +kernel
theorem dX12_readsNumber_17 : decode cX12_readsNumber 17 = .ok (.aload_n 0, 1) := by decide +kernel
theorem dX12_readsNumber_18 : decode cX12_readsNumber 18 = .ok (.getfield 233, 3) := by decide +kernel
theorem dX12_readsNumber_21 : decode cX12_readsNumber 21 = .ok (.iload_n 1, 1) := by decide +kernel
theorem dX12_readsNumber_22 : decode cX12_readsNumber 22 = .ok (.bipush 6, 2) := by decide +kernel
theorem dX12_readsNumber_24 : decode cX12_readsNumber 24 = .ok (.iadd, 1) := by decide +kernel
theorem dX12_readsNumber_25 : decode cX12_readsNumber 25 = .ok (.if_icmp .ne 13, 3) := by decide +kernel
theorem dX12_readsNumber_28 : decode cX12_readsNumber 28 = .ok (.aload_n 0, 1) := by decide +kernel
theorem dX12_readsNumber_29 : decode cX12_readsNumber 29 = .ok (.iconst 2, 1) := by decide +kernel
theorem dX12_readsNumber_30 : decode cX12_readsNumber 30 = .ok (.aload_n 0, 1) := by decide +kernel
theorem dX12_readsNumber_31 : decode cX12_readsNumber 31 = .ok (.getfield 233, 3) := by decide +kernel
theorem dX12_readsNumber_34 : decode cX12_readsNumber 34 = .ok (.invokevirtual 246, 3) := by decide +kernel
theorem dX12_readsNumber_37 : decode cX12_readsNumber 37 = .ok (.ireturn, 1) := by decide +kernel
theorem dX12_readsNumber_38 : decode cX12_readsNumber 38 = .ok (.aload_n 0, 1) := by decide +kernel
theorem dX12_readsNumber_39 : decode cX12_readsNumber 39 = .ok (.bipush 10, 2) := by decide +kernel
theorem dX12_readsNumber_41 : decode cX12_readsNumber 41 = .ok (.aload_n 0, 1) := by decide +kernel
theorem dX12_readsNumber_42 : decode cX12_readsNumber 42 = .ok (.getfield 250, 3) := by decide +kernel
theorem dX12_readsNumber_45 : decode cX12_readsNumber 45 = .ok (.imul, 1) := by decide +kernel
theorem dX12_readsNumber_46 : decode cX12_readsNumber 46 = .ok (.aload_n 0, 1) := by decide +kernel
theorem dX12_readsNumber_47 : decode cX12_readsNumber 47 = .ok (.invokevirtual 239, 3) := by decide +kernel
theorem dX12_readsNumber_50 : decode cX12_readsNumber 50 = .ok (.iadd, 1) := by decide +kernel
theorem dX12_readsNumber_51 : decode cX12_readsNumber 51 = .ok (.bipush 48, 2) := by decide +kernel
theorem dX12_readsNumber_53 : decode cX12_readsNumber 53 = .ok (.isub, 1) := by decide +kernel
theorem dX12_readsNumber_54 : decode cX12_readsNumber 54 = .ok (.putfield 250, 3) := by decide +kernel
theorem dX12_readsNumber_57 : decode cX12_readsNumber 57 = .ok (.aload_n 0, 1) := by decide +kernel
theorem dX12_readsNumber_58 : decode cX12_readsNumber 58 = .ok (.aload_n 0, 1) := by decide +kernel
theorem dX12_readsNumber_59 : decode cX12_readsNumber 59 = .ok (.getfield 233, 3) := by decide +kernel
theorem dX12_readsNumber_62 : decode cX12_readsNumber 62 = .ok (.iconst 1, 1) := by decide +kernel
theorem dX12_readsNumber_63 : decode cX12_readsNumber 63 = .ok (.iadd, 1) := by decide +kernel
theorem dX12_readsNumber_64 : decode cX12_readsNumber 64 = .ok (.putfield 233, 3) := by decide +kernel
theorem dX12_readsNumber_67 : decode cX12_readsNumber 67 = .ok (.goto (-57), 3) := by decide +kernel
theorem dX12_readsNumber_70 : decode cX12_readsNumber 70 = .ok (.iconst 1, 1) := by decide +kernel
theorem dX12_readsNumber_71 : decode cX12_readsNumber 71 = .ok (.ireturn, 1) := by decide +kernel
theorem dX12_says_0 : decode cX12_says 0 = .ok (.aload_n 0, 1) := by decide +kernel
theorem dX12_says_1 : decode cX12_says 1 = .ok (.getfield 56, 3) := by decide +kernel
theorem dX12_says_4 : decode cX12_says 4 = .ok (.aload_n 0, 1) := by decide +kernel
theorem dX12_says_5 : decode cX12_says 5 = .ok (.getfield 257, 3) := by decide +kernel
theorem dX12_says_8 : decode cX12_says 8 = .ok (.ldc_w 260, 3) := by decide +kernel
theorem dX12_says_11 : decode cX12_says 11 = .ok (.iload_n 1, 1) := by decide +kernel
theorem dX12_says_12 : decode cX12_says 12 = .ok (.imul, 1) := by decide +kernel
theorem dX12_says_13 : decode cX12_says 13 = .ok (.iload_n 2, 1) := by decide +kernel
theorem dX12_says_14 : decode cX12_says 14 = .ok (.iadd, 1) := by decide +kernel
theorem dX12_says_15 : decode cX12_says 15 = .ok (.iastore, 1) := by decide +kernel
theorem dX12_says_16 : decode cX12_says 16 = .ok (.aload_n 0, 1) := by decide +kernel
theorem dX12_says_17 : decode cX12_says 17 = .ok (.aload_n 0, 1) := by decide +kernel
theorem dX12_says_18 : decode cX12_says 18 = .ok (.getfield 257, 3) := by decide +kernel
theorem dX12_says_21 : decode cX12_says 21 = .ok (.iconst 1, 1) := by decide +kernel
theorem dX12_says_22 : decode cX12_says 22 = .ok (.iadd, 1) := by decide +kernel
theorem dX12_says_23 : decode cX12_says 23 = .ok (.putfield 257, 3) := by decide +kernel
theorem dX12_says_26 : decode cX12_says 26 = .ok (.return_, 1) := by decide +kernel
theorem dX12_opens_0 : decode cX12_opens 0 = .ok (.aload_n 0, 1) := by decide +kernel
theorem dX12_opens_1 : decode cX12_opens 1 = .ok (.getfield 261, 3) := by decide +kernel
theorem dX12_opens_4 : decode cX12_opens 4 = .ok (.bipush 6, 2) := by decide +kernel
theorem dX12_opens_6 : decode cX12_opens 6 = .ok (.if_icmp .ne 13, 3) := by decide +kernel
theorem dX12_opens_9 : decode cX12_opens 9 = .ok (.aload_n 0, 1) := by decide +kernel
theorem dX12_opens_10 : decode cX12_opens 10 = .ok (.iconst 5, 1) := by decide +kernel
theorem dX12_opens_11 : decode cX12_opens 11 = .ok (.aload_n 0, 1) := by decide +kernel
theorem dX12_opens_12 : decode cX12_opens 12 = .ok (.getfield 233, 3) := by decide +kernel
theorem dX12_opens_15 : decode cX12_opens 15 = .ok (.invokevirtual 246, 3) := by decide +kernel
theorem dX12_opens_18 : decode cX12_opens 18 = .ok (.ireturn, 1) := by decide +kernel
theorem dX12_opens_19 : decode cX12_opens 19 = .ok (.aload_n 0, 1) := by decide +kernel
theorem dX12_opens_20 : decode cX12_opens 20 = .ok (.aload_n 0, 1) := by decide +kernel
theorem dX12_opens_21 : decode cX12_opens 21 = .ok (.getfield 261, 3) := by decide +kernel
theorem dX12_opens_24 : decode cX12_opens 24 = .ok (.iconst 1, 1) := by decide +kernel
theorem dX12_opens_25 : decode cX12_opens 25 = .ok (.iadd, 1) := by decide +kernel
theorem dX12_opens_26 : decode cX12_opens 26 = .ok (.putfield 261, 3) := by decide +kernel
theorem dX12_opens_29 : decode cX12_opens 29 = .ok (.aload_n 0, 1) := by decide +kernel
theorem dX12_opens_30 : decode cX12_opens 30 = .ok (.getfield 59, 3) := by decide +kernel
theorem dX12_opens_33 : decode cX12_opens 33 = .ok (.aload_n 0, 1) := by decide +kernel
theorem dX12_opens_34 : decode cX12_opens 34 = .ok (.getfield 264, 3) := by decide +kernel
theorem dX12_opens_37 : decode cX12_opens 37 = .ok (.ldc_w 260, 3) := by decide +kernel
theorem dX12_opens_40 : decode cX12_opens 40 = .ok (.iload_n 1, 1) := by decide +kernel
theorem dX12_opens_41 : decode cX12_opens 41 = .ok (.imul, 1) := by decide +kernel
theorem dX12_opens_42 : decode cX12_opens 42 = .ok (.iastore, 1) := by decide +kernel
theorem dX12_opens_43 : decode cX12_opens 43 = .ok (.aload_n 0, 1) := by decide +kernel
theorem dX12_opens_44 : decode cX12_opens 44 = .ok (.aload_n 0, 1) := by decide +kernel
theorem dX12_opens_45 : decode cX12_opens 45 = .ok (.getfield 264, 3) := by decide +kernel
theorem dX12_opens_48 : decode cX12_opens 48 = .ok (.iconst 1, 1) := by decide +kernel
theorem dX12_opens_49 : decode cX12_opens 49 = .ok (.iadd, 1) := by decide +kernel
theorem dX12_opens_50 : decode cX12_opens 50 = .ok (.putfield 264, 3) := by decide +kernel
theorem dX12_opens_53 : decode cX12_opens 53 = .ok (.aload_n 0, 1) := by decide +kernel
theorem dX12_opens_54 : decode cX12_opens 54 = .ok (.aload_n 0, 1) := by decide +kernel
theorem dX12_opens_55 : decode cX12_opens 55 = .ok (.getfield 233, 3) := by decide +kernel
theorem dX12_opens_58 : decode cX12_opens 58 = .ok (.iconst 1, 1) := by decide +kernel
theorem dX12_opens_59 : decode cX12_opens 59 = .ok (.iadd, 1) := by decide +kernel
theorem dX12_opens_60 : decode cX12_opens 60 = .ok (.putfield 233, 3) := by decide +kernel
theorem dX12_opens_63 : decode cX12_opens 63 = .ok (.iconst 1, 1) := by decide +kernel
theorem dX12_opens_64 : decode cX12_opens 64 = .ok (.ireturn, 1) := by decide +kernel
theorem dX12_top_0 : decode cX12_top 0 = .ok (.aload_n 0, 1) := by decide +kernel
theorem dX12_top_1 : decode cX12_top 1 = .ok (.getfield 264, 3) := by decide +kernel
theorem dX12_top_4 : decode cX12_top 4 = .ok (.ifCond .ne 7, 3) := by decide +kernel
theorem dX12_top_7 : decode cX12_top 7 = .ok (.iconst (-1), 1) := by decide +kernel
theorem dX12_top_8 : decode cX12_top 8 = .ok (.goto 18, 3) := by decide +kernel
theorem dX12_top_11 : decode cX12_top 11 = .ok (.aload_n 0, 1) := by decide +kernel
theorem dX12_top_12 : decode cX12_top 12 = .ok (.getfield 59, 3) := by decide +kernel
theorem dX12_top_15 : decode cX12_top 15 = .ok (.aload_n 0, 1) := by decide +kernel
theorem dX12_top_16 : decode cX12_top 16 = .ok (.getfield 264, 3) := by decide +kernel
theorem dX12_top_19 : decode cX12_top 19 = .ok (.iconst 1, 1) := by decide +kernel
theorem dX12_top_20 : decode cX12_top 20 = .ok (.isub, 1) := by decide +kernel
theorem dX12_top_21 : decode cX12_top 21 = .ok (.iaload, 1) := by decide +kernel
theorem dX12_top_22 : decode cX12_top 22 = .ok (.ldc_w 260, 3) := by decide +kernel
theorem dX12_top_25 : decode cX12_top 25 = .ok (.idiv, 1) := by decide +kernel
theorem dX12_top_26 : decode cX12_top 26 = .ok (.ireturn, 1) := by decide +kernel
theorem dX12_factOf_0 : decode cX12_factOf 0 = .ok (.iload_n 0, 1) := by decide +kernel
theorem dX12_factOf_1 : decode cX12_factOf 1 = .ok (.tableswitch 134 97 119 #[111, 134, 134, 113, 134, 109, 117, 134, 134, 134, 119, 134, 122, 131, 128, 134, 107, 134, 125, 134, 134, 134, 115], 107) := by decide +kernel
theorem dX12_factOf_108 : decode cX12_factOf 108 = .ok (.iconst 0, 1) := by decide +kernel
theorem dX12_factOf_109 : decode cX12_factOf 109 = .ok (.ireturn, 1) := by decide +kernel
theorem dX12_factOf_110 : decode cX12_factOf 110 = .ok (.iconst 1, 1) := by decide +kernel
theorem dX12_factOf_111 : decode cX12_factOf 111 = .ok (.ireturn, 1) := by decide +kernel
theorem dX12_factOf_112 : decode cX12_factOf 112 = .ok (.iconst 2, 1) := by decide +kernel
theorem dX12_factOf_113 : decode cX12_factOf 113 = .ok (.ireturn, 1) := by decide +kernel
theorem dX12_factOf_114 : decode cX12_factOf 114 = .ok (.iconst 3, 1) := by decide +kernel
theorem dX12_factOf_115 : decode cX12_factOf 115 = .ok (.ireturn, 1) := by decide +kernel
theorem dX12_factOf_116 : decode cX12_factOf 116 = .ok (.iconst 4, 1) := by decide +kernel
theorem dX12_factOf_117 : decode cX12_factOf 117 = .ok (.ireturn, 1) := by decide +kernel
theorem dX12_factOf_118 : decode cX12_factOf 118 = .ok (.iconst 5, 1) := by decide +kernel
theorem dX12_factOf_119 : decode cX12_factOf 119 = .ok (.ireturn, 1) := by decide +kernel
theorem dX12_factOf_120 : decode cX12_factOf 120 = .ok (.bipush 6, 2) := by decide +kernel
theorem dX12_factOf_122 : decode cX12_factOf 122 = .ok (.ireturn, 1) := by decide +kernel
theorem dX12_factOf_123 : decode cX12_factOf 123 = .ok (.bipush 7, 2) := by decide +kernel
theorem dX12_factOf_125 : decode cX12_factOf 125 = .ok (.ireturn, 1) := by decide +kernel
theorem dX12_factOf_126 : decode cX12_factOf 126 = .ok (.bipush 8, 2) := by decide +kernel
theorem dX12_factOf_128 : decode cX12_factOf 128 = .ok (.ireturn, 1) := by decide +kernel
theorem dX12_factOf_129 : decode cX12_factOf 129 = .ok (.bipush 9, 2) := by decide +kernel
theorem dX12_factOf_131 : decode cX12_factOf 131 = .ok (.ireturn, 1) := by decide +kernel
theorem dX12_factOf_132 : decode cX12_factOf 132 = .ok (.bipush 10, 2) := by decide +kernel
theorem dX12_factOf_134 : decode cX12_factOf 134 = .ok (.ireturn, 1) := by decide +kernel
theorem dX12_factOf_135 : decode cX12_factOf 135 = .ok (.iconst (-1), 1) := by decide +kernel
theorem dX12_factOf_136 : decode cX12_factOf 136 = .ok (.ireturn, 1) := by decide +kernel
theorem dX12_sumSign_0 : decode cX12_sumSign 0 = .ok (.iload_n 0, 1) := by decide +kernel
theorem dX12_sumSign_1 : decode cX12_sumSign 1 = .ok (.bipush 43, 2) := by decide +kernel
theorem dX12_sumSign_3 : decode cX12_sumSign 3 = .ok (.if_icmp .ne 7, 3) := by decide +kernel
theorem dX12_sumSign_6 : decode cX12_sumSign 6 = .ok (.iconst 2, 1) := by decide +kernel
theorem dX12_sumSign_7 : decode cX12_sumSign 7 = .ok (.goto 45, 3) := by decide +kernel
theorem dX12_sumSign_10 : decode cX12_sumSign 10 = .ok (.iload_n 0, 1) := by decide +kernel
theorem dX12_sumSign_11 : decode cX12_sumSign 11 = .ok (.bipush 45, 2) := by decide +kernel
theorem dX12_sumSign_13 : decode cX12_sumSign 13 = .ok (.if_icmp .ne 7, 3) := by decide +kernel
theorem dX12_sumSign_16 : decode cX12_sumSign 16 = .ok (.iconst 3, 1) := by decide +kernel
theorem dX12_sumSign_17 : decode cX12_sumSign 17 = .ok (.goto 35, 3) := by decide +kernel
theorem dX12_sumSign_20 : decode cX12_sumSign 20 = .ok (.iload_n 0, 1) := by decide +kernel
theorem dX12_sumSign_21 : decode cX12_sumSign 21 = .ok (.bipush 42, 2) := by decide +kernel
theorem dX12_sumSign_23 : decode cX12_sumSign 23 = .ok (.if_icmp .ne 7, 3) := by decide +kernel
theorem dX12_sumSign_26 : decode cX12_sumSign 26 = .ok (.iconst 4, 1) := by decide +kernel
theorem dX12_sumSign_27 : decode cX12_sumSign 27 = .ok (.goto 25, 3) := by decide +kernel
theorem dX12_sumSign_30 : decode cX12_sumSign 30 = .ok (.iload_n 0, 1) := by decide +kernel
theorem dX12_sumSign_31 : decode cX12_sumSign 31 = .ok (.bipush 47, 2) := by decide +kernel
theorem dX12_sumSign_33 : decode cX12_sumSign 33 = .ok (.if_icmp .ne 7, 3) := by decide +kernel
theorem dX12_sumSign_36 : decode cX12_sumSign 36 = .ok (.iconst 5, 1) := by decide +kernel
theorem dX12_sumSign_37 : decode cX12_sumSign 37 = .ok (.goto 15, 3) := by decide +kernel
theorem dX12_sumSign_40 : decode cX12_sumSign 40 = .ok (.iload_n 0, 1) := by decide +kernel
theorem dX12_sumSign_41 : decode cX12_sumSign 41 = .ok (.bipush 37, 2) := by decide +kernel
theorem dX12_sumSign_43 : decode cX12_sumSign 43 = .ok (.if_icmp .ne 8, 3) := by decide +kernel
theorem dX12_sumSign_46 : decode cX12_sumSign 46 = .ok (.bipush 6, 2) := by decide +kernel
theorem dX12_sumSign_48 : decode cX12_sumSign 48 = .ok (.goto 4, 3) := by decide +kernel
theorem dX12_sumSign_51 : decode cX12_sumSign 51 = .ok (.iconst (-1), 1) := by decide +kernel
theorem dX12_sumSign_52 : decode cX12_sumSign 52 = .ok (.ireturn, 1) := by decide +kernel
theorem dX12_closesSums_0 : decode cX12_closesSums 0 = .ok (.aload_n 0, 1) := by decide +kernel
theorem dX12_closesSums_1 : decode cX12_closesSums 1 = .ok (.invokevirtual 267, 3) := by decide +kernel
theorem dX12_closesSums_4 : decode cX12_closesSums 4 = .ok (.iconst 4, 1) := by decide +kernel
theorem dX12_closesSums_5 : decode cX12_closesSums 5 = .ok (.if_icmp .lt 12, 3) := by decide +kernel
theorem dX12_closesSums_8 : decode cX12_closesSums 8 = .ok (.aload_n 0, 1) := by decide +kernel
theorem dX12_closesSums_9 : decode cX12_closesSums 9 = .ok (.invokevirtual 267, 3) := by decide +kernel
theorem dX12_closesSums_12 : decode cX12_closesSums 12 = .ok (.bipush 6, 2) := by decide +kernel
theorem dX12_closesSums_14 : decode cX12_closesSums 14 = .ok (.if_icmp .le 23, 3) := by decide +kernel
theorem dX12_closesSums_17 : decode cX12_closesSums 17 = .ok (.iload_n 1, 1) := by decide +kernel
theorem dX12_closesSums_18 : decode cX12_closesSums 18 = .ok (.ifCond .eq 41, 3) := by decide +kernel
theorem dX12_closesSums_21 : decode cX12_closesSums 21 = .ok (.aload_n 0, 1) := by decide +kernel
theorem dX12_closesSums_22 : decode cX12_closesSums 22 = .ok (.invokevirtual 267, 3) := by decide +kernel
theorem dX12_closesSums_25 : decode cX12_closesSums 25 = .ok (.iconst 2, 1) := by decide +kernel
theorem dX12_closesSums_26 : decode cX12_closesSums 26 = .ok (.if_icmp .eq 11, 3) := by decide +kernel
theorem dX12_closesSums_29 : decode cX12_closesSums 29 = .ok (.aload_n 0, 1) := by decide +kernel
theorem dX12_closesSums_30 : decode cX12_closesSums 30 = .ok (.invokevirtual 267, 3) := by decide +kernel
theorem dX12_closesSums_33 : decode cX12_closesSums 33 = .ok (.iconst 3, 1) := by decide +kernel
theorem dX12_closesSums_34 : decode cX12_closesSums 34 = .ok (.if_icmp .ne 25, 3) := by decide +kernel
theorem dX12_closesSums_37 : decode cX12_closesSums 37 = .ok (.aload_n 0, 1) := by decide +kernel
theorem dX12_closesSums_38 : decode cX12_closesSums 38 = .ok (.aload_n 0, 1) := by decide +kernel
theorem dX12_closesSums_39 : decode cX12_closesSums 39 = .ok (.invokevirtual 267, 3) := by decide +kernel
theorem dX12_closesSums_42 : decode cX12_closesSums 42 = .ok (.iconst 0, 1) := by decide +kernel
theorem dX12_closesSums_43 : decode cX12_closesSums 43 = .ok (.invokevirtual 270, 3) := by decide +kernel
theorem dX12_closesSums_46 : decode cX12_closesSums 46 = .ok (.aload_n 0, 1) := by decide +kernel
theorem dX12_closesSums_47 : decode cX12_closesSums 47 = .ok (.aload_n 0, 1) := by decide +kernel
theorem dX12_closesSums_48 : decode cX12_closesSums 48 = .ok (.getfield 264, 3) := by decide +kernel
theorem dX12_closesSums_51 : decode cX12_closesSums 51 = .ok (.iconst 1, 1) := by decide +kernel
theorem dX12_closesSums_52 : decode cX12_closesSums 52 = .ok (.isub, 1) := by decide +kernel
theorem dX12_closesSums_53 : decode cX12_closesSums 53 = .ok (.putfield 264, 3) := by decide +kernel
theorem dX12_closesSums_56 : decode cX12_closesSums 56 = .ok (.goto (-56), 3) := by decide +kernel
theorem dX12_closesSums_59 : decode cX12_closesSums 59 = .ok (.return_, 1) := by decide +kernel
theorem dX12_readsFactor_0 : decode cX12_readsFactor 0 = .ok (.aload_n 0, 1) := by decide +kernel
theorem dX12_readsFactor_1 : decode cX12_readsFactor 1 = .ok (.invokevirtual 239, 3) := by decide +kernel
theorem dX12_readsFactor_4 : decode cX12_readsFactor 4 = .ok (.bipush 91, 2) := by decide +kernel
theorem dX12_readsFactor_6 : decode cX12_readsFactor 6 = .ok (.if_icmp .ne 14, 3) := by decide +kernel
theorem dX12_readsFactor_9 : decode cX12_readsFactor 9 = .ok (.aload_n 0, 1) := by decide +kernel
theorem dX12_readsFactor_10 : decode cX12_readsFactor 10 = .ok (.bipush 14, 2) := by decide +kernel
theorem dX12_readsFactor_12 : decode cX12_readsFactor 12 = .ok (.invokevirtual 274, 3) := by decide +kernel
theorem dX12_readsFactor_15 : decode cX12_readsFactor 15 = .ok (.ifCond .ne (-15), 3) := by decide +kernel
theorem dX12_readsFactor_18 : decode cX12_readsFactor 18 = .ok (.iconst 0, 1) := by decide +kernel
theorem dX12_readsFactor_19 : decode cX12_readsFactor 19 = .ok (.ireturn, 1) := by decide +kernel
theorem dX12_readsFactor_20 : decode cX12_readsFactor 20 = .ok (.aload_n 0, 1) := by decide +kernel
theorem dX12_readsFactor_21 : decode cX12_readsFactor 21 = .ok (.invokevirtual 253, 3) := by decide +kernel
theorem dX12_readsFactor_24 : decode cX12_readsFactor 24 = .ok (.ifCond .eq 23, 3) := by decide +kernel
theorem dX12_readsFactor_27 : decode cX12_readsFactor 27 = .ok (.aload_n 0, 1) := by decide +kernel
theorem dX12_readsFactor_28 : decode cX12_readsFactor 28 = .ok (.invokevirtual 277, 3) := by decide +kernel
theorem dX12_readsFactor_31 : decode cX12_readsFactor 31 = .ok (.ifCond .ne 5, 3) := by decide +kernel
theorem dX12_readsFactor_34 : decode cX12_readsFactor 34 = .ok (.iconst 0, 1) := by decide +kernel
theorem dX12_readsFactor_35 : decode cX12_readsFactor 35 = .ok (.ireturn, 1) := by decide +kernel
theorem dX12_readsFactor_36 : decode cX12_readsFactor 36 = .ok (.aload_n 0, 1) := by decide +kernel
theorem dX12_readsFactor_37 : decode cX12_readsFactor 37 = .ok (.iconst 0, 1) := by decide +kernel
theorem dX12_readsFactor_38 : decode cX12_readsFactor 38 = .ok (.aload_n 0, 1) := by decide +kernel
theorem dX12_readsFactor_39 : decode cX12_readsFactor 39 = .ok (.getfield 250, 3) := by decide +kernel
theorem dX12_readsFactor_42 : decode cX12_readsFactor 42 = .ok (.invokevirtual 270, 3) := by decide +kernel
theorem dX12_readsFactor_45 : decode cX12_readsFactor 45 = .ok (.iconst 1, 1) := by decide +kernel
theorem dX12_readsFactor_46 : decode cX12_readsFactor 46 = .ok (.ireturn, 1) := by decide +kernel
theorem dX12_readsFactor_47 : decode cX12_readsFactor 47 = .ok (.aload_n 0, 1) := by decide +kernel
theorem dX12_readsFactor_48 : decode cX12_readsFactor 48 = .ok (.invokevirtual 239, 3) := by decide +kernel
theorem dX12_readsFactor_51 : decode cX12_readsFactor 51 = .ok (.invokestatic 280, 3) := by decide +kernel
theorem dX12_readsFactor_54 : decode cX12_readsFactor 54 = .ok (.istore_n 1, 1) := by decide +kernel
theorem dX12_readsFactor_55 : decode cX12_readsFactor 55 = .ok (.iload_n 1, 1) := by decide +kernel
theorem dX12_readsFactor_56 : decode cX12_readsFactor 56 = .ok (.iconst (-1), 1) := by decide +kernel
theorem dX12_readsFactor_57 : decode cX12_readsFactor 57 = .ok (.if_icmp .ne 13, 3) := by decide +kernel
theorem dX12_readsFactor_60 : decode cX12_readsFactor 60 = .ok (.aload_n 0, 1) := by decide +kernel
theorem dX12_readsFactor_61 : decode cX12_readsFactor 61 = .ok (.iconst 1, 1) := by decide +kernel
theorem dX12_readsFactor_62 : decode cX12_readsFactor 62 = .ok (.aload_n 0, 1) := by decide +kernel
theorem dX12_readsFactor_63 : decode cX12_readsFactor 63 = .ok (.getfield 233, 3) := by decide +kernel
theorem dX12_readsFactor_66 : decode cX12_readsFactor 66 = .ok (.invokevirtual 246, 3) := by decide +kernel
theorem dX12_readsFactor_69 : decode cX12_readsFactor 69 = .ok (.ireturn, 1) := by decide +kernel
theorem dX12_readsFactor_70 : decode cX12_readsFactor 70 = .ok (.aload_n 0, 1) := by decide +kernel
theorem dX12_readsFactor_71 : decode cX12_readsFactor 71 = .ok (.iconst 1, 1) := by decide +kernel
theorem dX12_readsFactor_72 : decode cX12_readsFactor 72 = .ok (.iload_n 1, 1) := by decide +kernel
theorem dX12_readsFactor_73 : decode cX12_readsFactor 73 = .ok (.invokevirtual 270, 3) := by decide +kernel
theorem dX12_readsFactor_76 : decode cX12_readsFactor 76 = .ok (.aload_n 0, 1) := by decide +kernel
theorem dX12_readsFactor_77 : decode cX12_readsFactor 77 = .ok (.aload_n 0, 1) := by decide +kernel
theorem dX12_readsFactor_78 : decode cX12_readsFactor 78 = .ok (.getfield 233, 3) := by decide +kernel
theorem dX12_readsFactor_81 : decode cX12_readsFactor 81 = .ok (.iconst 1, 1) := by decide +kernel
theorem dX12_readsFactor_82 : decode cX12_readsFactor 82 = .ok (.iadd, 1) := by decide +kernel
theorem dX12_readsFactor_83 : decode cX12_readsFactor 83 = .ok (.putfield 233, 3) := by decide +kernel
theorem dX12_readsFactor_86 : decode cX12_readsFactor 86 = .ok (.iconst 1, 1) := by decide +kernel
theorem dX12_readsFactor_87 : decode cX12_readsFactor 87 = .ok (.ireturn, 1) := by decide +kernel
theorem dX12_hasOpenSum_0 : decode cX12_hasOpenSum 0 = .ok (.iload_n 1, 1) := by decide +kernel
theorem dX12_hasOpenSum_1 : decode cX12_hasOpenSum 1 = .ok (.istore_n 2, 1) := by decide +kernel
theorem dX12_hasOpenSum_2 : decode cX12_hasOpenSum 2 = .ok (.iload_n 2, 1) := by decide +kernel
theorem dX12_hasOpenSum_3 : decode cX12_hasOpenSum 3 = .ok (.aload_n 0, 1) := by decide +kernel
theorem dX12_hasOpenSum_4 : decode cX12_hasOpenSum 4 = .ok (.getfield 264, 3) := by decide +kernel
theorem dX12_hasOpenSum_7 : decode cX12_hasOpenSum 7 = .ok (.if_icmp .ge 26, 3) := by decide +kernel
theorem dX12_hasOpenSum_10 : decode cX12_hasOpenSum 10 = .ok (.aload_n 0, 1) := by decide +kernel
theorem dX12_hasOpenSum_11 : decode cX12_hasOpenSum 11 = .ok (.getfield 59, 3) := by decide +kernel
theorem dX12_hasOpenSum_14 : decode cX12_hasOpenSum 14 = .ok (.iload_n 2, 1) := by decide +kernel
theorem dX12_hasOpenSum_15 : decode cX12_hasOpenSum 15 = .ok (.iaload, 1) := by decide +kernel
theorem dX12_hasOpenSum_16 : decode cX12_hasOpenSum 16 = .ok (.ldc_w 260, 3) := by decide +kernel
theorem dX12_hasOpenSum_19 : decode cX12_hasOpenSum 19 = .ok (.idiv, 1) := by decide +kernel
theorem dX12_hasOpenSum_20 : decode cX12_hasOpenSum 20 = .ok (.bipush 14, 2) := by decide +kernel
theorem dX12_hasOpenSum_22 : decode cX12_hasOpenSum 22 = .ok (.if_icmp .ne 5, 3) := by decide +kernel
theorem dX12_hasOpenSum_25 : decode cX12_hasOpenSum 25 = .ok (.iconst 1, 1) := by decide +kernel
theorem dX12_hasOpenSum_26 : decode cX12_hasOpenSum 26 = .ok (.ireturn, 1) := by decide +kernel
theorem dX12_hasOpenSum_27 : decode cX12_hasOpenSum 27 = .ok (.iinc 2 1, 3) := by decide +kernel
theorem dX12_hasOpenSum_30 : decode cX12_hasOpenSum 30 = .ok (.goto (-28), 3) := by decide +kernel
theorem dX12_hasOpenSum_33 : decode cX12_hasOpenSum 33 = .ok (.iconst 0, 1) := by decide +kernel
theorem dX12_hasOpenSum_34 : decode cX12_hasOpenSum 34 = .ok (.ireturn, 1) := by decide +kernel
theorem dX12_readsSum_0 : decode cX12_readsSum 0 = .ok (.aload_n 0, 1) := by decide +kernel
theorem dX12_readsSum_1 : decode cX12_readsSum 1 = .ok (.getfield 264, 3) := by decide +kernel
theorem dX12_readsSum_4 : decode cX12_readsSum 4 = .ok (.istore_n 1, 1) := by decide +kernel
theorem dX12_readsSum_5 : decode cX12_readsSum 5 = .ok (.aload_n 0, 1) := by decide +kernel
theorem dX12_readsSum_6 : decode cX12_readsSum 6 = .ok (.invokevirtual 284, 3) := by decide +kernel
theorem dX12_readsSum_9 : decode cX12_readsSum 9 = .ok (.ifCond .ne 5, 3) := by decide +kernel
theorem dX12_readsSum_12 : decode cX12_readsSum 12 = .ok (.iconst 0, 1) := by decide +kernel
theorem dX12_readsSum_13 : decode cX12_readsSum 13 = .ok (.ireturn, 1) := by decide +kernel
theorem dX12_readsSum_14 : decode cX12_readsSum 14 = .ok (.aload_n 0, 1) := by decide +kernel
theorem dX12_readsSum_15 : decode cX12_readsSum 15 = .ok (.invokevirtual 239, 3) := by decide +kernel
theorem dX12_readsSum_18 : decode cX12_readsSum 18 = .ok (.invokestatic 287, 3) := by decide +kernel
theorem dX12_readsSum_21 : decode cX12_readsSum 21 = .ok (.istore_n 2, 1) := by decide +kernel
theorem dX12_readsSum_22 : decode cX12_readsSum 22 = .ok (.iload_n 2, 1) := by decide +kernel
theorem dX12_readsSum_23 : decode cX12_readsSum 23 = .ok (.iconst (-1), 1) := by decide +kernel
theorem dX12_readsSum_24 : decode cX12_readsSum 24 = .ok (.if_icmp .eq 60, 3) := by decide +kernel
theorem dX12_readsSum_27 : decode cX12_readsSum 27 = .ok (.aload_n 0, 1) := by decide +kernel
theorem dX12_readsSum_28 : decode cX12_readsSum 28 = .ok (.iload_n 2, 1) := by decide +kernel
theorem dX12_readsSum_29 : decode cX12_readsSum 29 = .ok (.iconst 4, 1) := by decide +kernel
theorem dX12_readsSum_30 : decode cX12_readsSum 30 = .ok (.if_icmp .ge 7, 3) := by decide +kernel
theorem dX12_readsSum_33 : decode cX12_readsSum 33 = .ok (.iconst 1, 1) := by decide +kernel
theorem dX12_readsSum_34 : decode cX12_readsSum 34 = .ok (.goto 4, 3) := by decide +kernel
theorem dX12_readsSum_37 : decode cX12_readsSum 37 = .ok (.iconst 0, 1) := by decide +kernel
theorem dX12_readsSum_38 : decode cX12_readsSum 38 = .ok (.invokevirtual 290, 3) := by decide +kernel
theorem dX12_readsSum_41 : decode cX12_readsSum 41 = .ok (.aload_n 0, 1) := by decide +kernel
theorem dX12_readsSum_42 : decode cX12_readsSum 42 = .ok (.getfield 59, 3) := by decide +kernel
theorem dX12_readsSum_45 : decode cX12_readsSum 45 = .ok (.aload_n 0, 1) := by decide +kernel
theorem dX12_readsSum_46 : decode cX12_readsSum 46 = .ok (.getfield 264, 3) := by decide +kernel
theorem dX12_readsSum_49 : decode cX12_readsSum 49 = .ok (.ldc_w 260, 3) := by decide +kernel
theorem dX12_readsSum_52 : decode cX12_readsSum 52 = .ok (.iload_n 2, 1) := by decide +kernel
theorem dX12_readsSum_53 : decode cX12_readsSum 53 = .ok (.imul, 1) := by decide +kernel
theorem dX12_readsSum_54 : decode cX12_readsSum 54 = .ok (.iastore, 1) := by decide +kernel
theorem dX12_readsSum_55 : decode cX12_readsSum 55 = .ok (.aload_n 0, 1) := by decide +kernel
theorem dX12_readsSum_56 : decode cX12_readsSum 56 = .ok (.aload_n 0, 1) := by decide +kernel
theorem dX12_readsSum_57 : decode cX12_readsSum 57 = .ok (.getfield 264, 3) := by decide +kernel
theorem dX12_readsSum_60 : decode cX12_readsSum 60 = .ok (.iconst 1, 1) := by decide +kernel
theorem dX12_readsSum_61 : decode cX12_readsSum 61 = .ok (.iadd, 1) := by decide +kernel
theorem dX12_readsSum_62 : decode cX12_readsSum 62 = .ok (.putfield 264, 3) := by decide +kernel
theorem dX12_readsSum_65 : decode cX12_readsSum 65 = .ok (.aload_n 0, 1) := by decide +kernel
theorem dX12_readsSum_66 : decode cX12_readsSum 66 = .ok (.aload_n 0, 1) := by decide +kernel
theorem dX12_readsSum_67 : decode cX12_readsSum 67 = .ok (.getfield 233, 3) := by decide +kernel
theorem dX12_readsSum_70 : decode cX12_readsSum 70 = .ok (.iconst 1, 1) := by decide +kernel
theorem dX12_readsSum_71 : decode cX12_readsSum 71 = .ok (.iadd, 1) := by decide +kernel
theorem dX12_readsSum_72 : decode cX12_readsSum 72 = .ok (.putfield 233, 3) := by decide +kernel
theorem dX12_readsSum_75 : decode cX12_readsSum 75 = .ok (.aload_n 0, 1) := by decide +kernel
theorem dX12_readsSum_76 : decode cX12_readsSum 76 = .ok (.invokevirtual 284, 3) := by decide +kernel
theorem dX12_readsSum_79 : decode cX12_readsSum 79 = .ok (.ifCond .ne 85, 3) := by decide +kernel
theorem dX12_readsSum_82 : decode cX12_readsSum 82 = .ok (.iconst 0, 1) := by decide +kernel
theorem dX12_readsSum_83 : decode cX12_readsSum 83 = .ok (.ireturn, 1) := by decide +kernel
theorem dX12_readsSum_84 : decode cX12_readsSum 84 = .ok (.aload_n 0, 1) := by decide +kernel
theorem dX12_readsSum_85 : decode cX12_readsSum 85 = .ok (.invokevirtual 239, 3) := by decide +kernel
theorem dX12_readsSum_88 : decode cX12_readsSum 88 = .ok (.bipush 93, 2) := by decide +kernel
theorem dX12_readsSum_90 : decode cX12_readsSum 90 = .ok (.if_icmp .ne 49, 3) := by decide +kernel
theorem dX12_readsSum_93 : decode cX12_readsSum 93 = .ok (.aload_n 0, 1) := by decide +kernel
theorem dX12_readsSum_94 : decode cX12_readsSum 94 = .ok (.iload_n 1, 1) := by decide +kernel
theorem dX12_readsSum_95 : decode cX12_readsSum 95 = .ok (.invokevirtual 294, 3) := by decide +kernel
theorem dX12_readsSum_98 : decode cX12_readsSum 98 = .ok (.ifCond .eq 41, 3) := by decide +kernel
theorem dX12_readsSum_101 : decode cX12_readsSum 101 = .ok (.aload_n 0, 1) := by decide +kernel
theorem dX12_readsSum_102 : decode cX12_readsSum 102 = .ok (.iconst 1, 1) := by decide +kernel
theorem dX12_readsSum_103 : decode cX12_readsSum 103 = .ok (.invokevirtual 290, 3) := by decide +kernel
theorem dX12_readsSum_106 : decode cX12_readsSum 106 = .ok (.aload_n 0, 1) := by decide +kernel
theorem dX12_readsSum_107 : decode cX12_readsSum 107 = .ok (.aload_n 0, 1) := by decide +kernel
theorem dX12_readsSum_108 : decode cX12_readsSum 108 = .ok (.getfield 264, 3) := by decide +kernel
theorem dX12_readsSum_111 : decode cX12_readsSum 111 = .ok (.iconst 1, 1) := by decide +kernel
theorem dX12_readsSum_112 : decode cX12_readsSum 112 = .ok (.isub, 1) := by decide +kernel
theorem dX12_readsSum_113 : decode cX12_readsSum 113 = .ok (.putfield 264, 3) := by decide +kernel
theorem dX12_readsSum_116 : decode cX12_readsSum 116 = .ok (.aload_n 0, 1) := by decide +kernel
theorem dX12_readsSum_117 : decode cX12_readsSum 117 = .ok (.aload_n 0, 1) := by decide +kernel
theorem dX12_readsSum_118 : decode cX12_readsSum 118 = .ok (.getfield 261, 3) := by decide +kernel
theorem dX12_readsSum_121 : decode cX12_readsSum 121 = .ok (.iconst 1, 1) := by decide +kernel
theorem dX12_readsSum_122 : decode cX12_readsSum 122 = .ok (.isub, 1) := by decide +kernel
theorem dX12_readsSum_123 : decode cX12_readsSum 123 = .ok (.putfield 261, 3) := by decide +kernel
theorem dX12_readsSum_126 : decode cX12_readsSum 126 = .ok (.aload_n 0, 1) := by decide +kernel
theorem dX12_readsSum_127 : decode cX12_readsSum 127 = .ok (.aload_n 0, 1) := by decide +kernel
theorem dX12_readsSum_128 : decode cX12_readsSum 128 = .ok (.getfield 233, 3) := by decide +kernel
theorem dX12_readsSum_131 : decode cX12_readsSum 131 = .ok (.iconst 1, 1) := by decide +kernel
theorem dX12_readsSum_132 : decode cX12_readsSum 132 = .ok (.iadd, 1) := by decide +kernel
theorem dX12_readsSum_133 : decode cX12_readsSum 133 = .ok (.putfield 233, 3) := by decide +kernel
theorem dX12_readsSum_136 : decode cX12_readsSum 136 = .ok (.goto 28, 3) := by decide +kernel
theorem dX12_readsSum_139 : decode cX12_readsSum 139 = .ok (.aload_n 0, 1) := by decide +kernel
theorem dX12_readsSum_140 : decode cX12_readsSum 140 = .ok (.iload_n 1, 1) := by decide +kernel
theorem dX12_readsSum_141 : decode cX12_readsSum 141 = .ok (.invokevirtual 294, 3) := by decide +kernel
theorem dX12_readsSum_144 : decode cX12_readsSum 144 = .ok (.ifCond .eq 13, 3) := by decide +kernel
theorem dX12_readsSum_147 : decode cX12_readsSum 147 = .ok (.aload_n 0, 1) := by decide +kernel
theorem dX12_readsSum_148 : decode cX12_readsSum 148 = .ok (.iconst 1, 1) := by decide +kernel
theorem dX12_readsSum_149 : decode cX12_readsSum 149 = .ok (.aload_n 0, 1) := by decide +kernel
theorem dX12_readsSum_150 : decode cX12_readsSum 150 = .ok (.getfield 233, 3) := by decide +kernel
theorem dX12_readsSum_153 : decode cX12_readsSum 153 = .ok (.invokevirtual 246, 3) := by decide +kernel
theorem dX12_readsSum_156 : decode cX12_readsSum 156 = .ok (.ireturn, 1) := by decide +kernel
theorem dX12_readsSum_157 : decode cX12_readsSum 157 = .ok (.aload_n 0, 1) := by decide +kernel
theorem dX12_readsSum_158 : decode cX12_readsSum 158 = .ok (.iconst 1, 1) := by decide +kernel
theorem dX12_readsSum_159 : decode cX12_readsSum 159 = .ok (.invokevirtual 290, 3) := by decide +kernel
theorem dX12_readsSum_162 : decode cX12_readsSum 162 = .ok (.iconst 1, 1) := by decide +kernel
theorem dX12_readsSum_163 : decode cX12_readsSum 163 = .ok (.ireturn, 1) := by decide +kernel
theorem dX12_readsSum_164 : decode cX12_readsSum 164 = .ok (.goto (-150), 3) := by decide +kernel
theorem dX12_endsPiece_0 : decode cX12_endsPiece 0 = .ok (.aload_n 0, 1) := by decide +kernel
theorem dX12_endsPiece_1 : decode cX12_endsPiece 1 = .ok (.invokevirtual 267, 3) := by decide +kernel
theorem dX12_endsPiece_4 : decode cX12_endsPiece 4 = .ok (.bipush 10, 2) := by decide +kernel
theorem dX12_endsPiece_6 : decode cX12_endsPiece 6 = .ok (.if_icmp .ne 33, 3) := by decide +kernel
theorem dX12_endsPiece_9 : decode cX12_endsPiece 9 = .ok (.aload_n 0, 1) := by decide +kernel
theorem dX12_endsPiece_10 : decode cX12_endsPiece 10 = .ok (.bipush 10, 2) := by decide +kernel
theorem dX12_endsPiece_12 : decode cX12_endsPiece 12 = .ok (.iconst 0, 1) := by decide +kernel
theorem dX12_endsPiece_13 : decode cX12_endsPiece 13 = .ok (.invokevirtual 270, 3) := by decide +kernel
theorem dX12_endsPiece_16 : decode cX12_endsPiece 16 = .ok (.aload_n 0, 1) := by decide +kernel
theorem dX12_endsPiece_17 : decode cX12_endsPiece 17 = .ok (.aload_n 0, 1) := by decide +kernel
theorem dX12_endsPiece_18 : decode cX12_endsPiece 18 = .ok (.getfield 264, 3) := by decide +kernel
theorem dX12_endsPiece_21 : decode cX12_endsPiece 21 = .ok (.iconst 1, 1) := by decide +kernel
theorem dX12_endsPiece_22 : decode cX12_endsPiece 22 = .ok (.isub, 1) := by decide +kernel
theorem dX12_endsPiece_23 : decode cX12_endsPiece 23 = .ok (.putfield 264, 3) := by decide +kernel
theorem dX12_endsPiece_26 : decode cX12_endsPiece 26 = .ok (.aload_n 0, 1) := by decide +kernel
theorem dX12_endsPiece_27 : decode cX12_endsPiece 27 = .ok (.aload_n 0, 1) := by decide +kernel
theorem dX12_endsPiece_28 : decode cX12_endsPiece 28 = .ok (.getfield 261, 3) := by decide +kernel
theorem dX12_endsPiece_31 : decode cX12_endsPiece 31 = .ok (.iconst 1, 1) := by decide +kernel
theorem dX12_endsPiece_32 : decode cX12_endsPiece 32 = .ok (.isub, 1) := by decide +kernel
theorem dX12_endsPiece_33 : decode cX12_endsPiece 33 = .ok (.putfield 261, 3) := by decide +kernel
theorem dX12_endsPiece_36 : decode cX12_endsPiece 36 = .ok (.goto (-36), 3) := by decide +kernel
theorem dX12_endsPiece_39 : decode cX12_endsPiece 39 = .ok (.return_, 1) := by decide +kernel
theorem dX12_lands_0 : decode cX12_lands 0 = .ok (.aload_n 0, 1) := by decide +kernel
theorem dX12_lands_1 : decode cX12_lands 1 = .ok (.invokevirtual 267, 3) := by decide +kernel
theorem dX12_lands_4 : decode cX12_lands 4 = .ok (.bipush 11, 2) := by decide +kernel
theorem dX12_lands_6 : decode cX12_lands 6 = .ok (.if_icmp .eq 16, 3) := by decide +kernel
theorem dX12_lands_9 : decode cX12_lands 9 = .ok (.iload_n 1, 1) := by decide +kernel
theorem dX12_lands_10 : decode cX12_lands 10 = .ok (.ifCond .eq 66, 3) := by decide +kernel
theorem dX12_lands_13 : decode cX12_lands 13 = .ok (.aload_n 0, 1) := by decide +kernel
theorem dX12_lands_14 : decode cX12_lands 14 = .ok (.invokevirtual 267, 3) := by decide +kernel
theorem dX12_lands_17 : decode cX12_lands 17 = .ok (.bipush 12, 2) := by decide +kernel
theorem dX12_lands_19 : decode cX12_lands 19 = .ok (.if_icmp .ne 57, 3) := by decide +kernel
theorem dX12_lands_22 : decode cX12_lands 22 = .ok (.aload_n 0, 1) := by decide +kernel
theorem dX12_lands_23 : decode cX12_lands 23 = .ok (.getfield 59, 3) := by decide +kernel
theorem dX12_lands_26 : decode cX12_lands 26 = .ok (.aload_n 0, 1) := by decide +kernel
theorem dX12_lands_27 : decode cX12_lands 27 = .ok (.getfield 264, 3) := by decide +kernel
theorem dX12_lands_30 : decode cX12_lands 30 = .ok (.iconst 1, 1) := by decide +kernel
theorem dX12_lands_31 : decode cX12_lands 31 = .ok (.isub, 1) := by decide +kernel
theorem dX12_lands_32 : decode cX12_lands 32 = .ok (.iaload, 1) := by decide +kernel
theorem dX12_lands_33 : decode cX12_lands 33 = .ok (.ldc_w 260, 3) := by decide +kernel
theorem dX12_lands_36 : decode cX12_lands 36 = .ok (.irem, 1) := by decide +kernel
theorem dX12_lands_37 : decode cX12_lands 37 = .ok (.istore_n 2, 1) := by decide +kernel
theorem dX12_lands_38 : decode cX12_lands 38 = .ok (.aload_n 0, 1) := by decide +kernel
theorem dX12_lands_39 : decode cX12_lands 39 = .ok (.getfield 56, 3) := by decide +kernel
theorem dX12_lands_42 : decode cX12_lands 42 = .ok (.iload_n 2, 1) := by decide +kernel
theorem dX12_lands_43 : decode cX12_lands 43 = .ok (.ldc_w 260, 3) := by decide +kernel
theorem dX12_lands_46 : decode cX12_lands 46 = .ok (.aload_n 0, 1) := by decide +kernel
theorem dX12_lands_47 : decode cX12_lands 47 = .ok (.getfield 56, 3) := by decide +kernel
theorem dX12_lands_50 : decode cX12_lands 50 = .ok (.iload_n 2, 1) := by decide +kernel
theorem dX12_lands_51 : decode cX12_lands 51 = .ok (.iaload, 1) := by decide +kernel
theorem dX12_lands_52 : decode cX12_lands 52 = .ok (.ldc_w 260, 3) := by decide +kernel
theorem dX12_lands_55 : decode cX12_lands 55 = .ok (.idiv, 1) := by decide +kernel
theorem dX12_lands_56 : decode cX12_lands 56 = .ok (.imul, 1) := by decide +kernel
theorem dX12_lands_57 : decode cX12_lands 57 = .ok (.aload_n 0, 1) := by decide +kernel
theorem dX12_lands_58 : decode cX12_lands 58 = .ok (.getfield 257, 3) := by decide +kernel
theorem dX12_lands_61 : decode cX12_lands 61 = .ok (.iadd, 1) := by decide +kernel
theorem dX12_lands_62 : decode cX12_lands 62 = .ok (.iastore, 1) := by decide +kernel
theorem dX12_lands_63 : decode cX12_lands 63 = .ok (.aload_n 0, 1) := by decide +kernel
theorem dX12_lands_64 : decode cX12_lands 64 = .ok (.aload_n 0, 1) := by decide +kernel
theorem dX12_lands_65 : decode cX12_lands 65 = .ok (.getfield 264, 3) := by decide +kernel
theorem dX12_lands_68 : decode cX12_lands 68 = .ok (.iconst 1, 1) := by decide +kernel
theorem dX12_lands_69 : decode cX12_lands 69 = .ok (.isub, 1) := by decide +kernel
theorem dX12_lands_70 : decode cX12_lands 70 = .ok (.putfield 264, 3) := by decide +kernel
theorem dX12_lands_73 : decode cX12_lands 73 = .ok (.goto (-73), 3) := by decide +kernel
theorem dX12_lands_76 : decode cX12_lands 76 = .ok (.return_, 1) := by decide +kernel
theorem dX12_jumps_0 : decode cX12_jumps 0 = .ok (.aload_n 0, 1) := by decide +kernel
theorem dX12_jumps_1 : decode cX12_jumps 1 = .ok (.getfield 59, 3) := by decide +kernel
theorem dX12_jumps_4 : decode cX12_jumps 4 = .ok (.aload_n 0, 1) := by decide +kernel
theorem dX12_jumps_5 : decode cX12_jumps 5 = .ok (.getfield 264, 3) := by decide +kernel
theorem dX12_jumps_8 : decode cX12_jumps 8 = .ok (.ldc_w 260, 3) := by decide +kernel
theorem dX12_jumps_11 : decode cX12_jumps 11 = .ok (.iload_n 1, 1) := by decide +kernel
theorem dX12_jumps_12 : decode cX12_jumps 12 = .ok (.imul, 1) := by decide +kernel
theorem dX12_jumps_13 : decode cX12_jumps 13 = .ok (.aload_n 0, 1) := by decide +kernel
theorem dX12_jumps_14 : decode cX12_jumps 14 = .ok (.getfield 257, 3) := by decide +kernel
theorem dX12_jumps_17 : decode cX12_jumps 17 = .ok (.iadd, 1) := by decide +kernel
theorem dX12_jumps_18 : decode cX12_jumps 18 = .ok (.iastore, 1) := by decide +kernel
theorem dX12_jumps_19 : decode cX12_jumps 19 = .ok (.aload_n 0, 1) := by decide +kernel
theorem dX12_jumps_20 : decode cX12_jumps 20 = .ok (.aload_n 0, 1) := by decide +kernel
theorem dX12_jumps_21 : decode cX12_jumps 21 = .ok (.getfield 264, 3) := by decide +kernel
theorem dX12_jumps_24 : decode cX12_jumps 24 = .ok (.iconst 1, 1) := by decide +kernel
theorem dX12_jumps_25 : decode cX12_jumps 25 = .ok (.iadd, 1) := by decide +kernel
theorem dX12_jumps_26 : decode cX12_jumps 26 = .ok (.putfield 264, 3) := by decide +kernel
theorem dX12_jumps_29 : decode cX12_jumps 29 = .ok (.aload_n 0, 1) := by decide +kernel
theorem dX12_jumps_30 : decode cX12_jumps 30 = .ok (.iload_n 1, 1) := by decide +kernel
theorem dX12_jumps_31 : decode cX12_jumps 31 = .ok (.iconst 0, 1) := by decide +kernel
theorem dX12_jumps_32 : decode cX12_jumps 32 = .ok (.invokevirtual 270, 3) := by decide +kernel
theorem dX12_jumps_35 : decode cX12_jumps 35 = .ok (.aload_n 0, 1) := by decide +kernel
theorem dX12_jumps_36 : decode cX12_jumps 36 = .ok (.aload_n 0, 1) := by decide +kernel
theorem dX12_jumps_37 : decode cX12_jumps 37 = .ok (.getfield 233, 3) := by decide +kernel
theorem dX12_jumps_40 : decode cX12_jumps 40 = .ok (.iconst 1, 1) := by decide +kernel
theorem dX12_jumps_41 : decode cX12_jumps 41 = .ok (.iadd, 1) := by decide +kernel
theorem dX12_jumps_42 : decode cX12_jumps 42 = .ok (.putfield 233, 3) := by decide +kernel
theorem dX12_jumps_45 : decode cX12_jumps 45 = .ok (.return_, 1) := by decide +kernel
theorem dX12_readsCompared_0 : decode cX12_readsCompared 0 = .ok (.aload_n 0, 1) := by decide +kernel
theorem dX12_readsCompared_1 : decode cX12_readsCompared 1 = .ok (.invokevirtual 297, 3) := by decide +kernel
theorem dX12_readsCompared_4 : decode cX12_readsCompared 4 = .ok (.ifCond .ne 5, 3) := by decide +kernel
theorem dX12_readsCompared_7 : decode cX12_readsCompared 7 = .ok (.iconst 0, 1) := by decide +kernel
theorem dX12_readsCompared_8 : decode cX12_readsCompared 8 = .ok (.ireturn, 1) := by decide +kernel
theorem dX12_readsCompared_9 : decode cX12_readsCompared 9 = .ok (.aload_n 0, 1) := by decide +kernel
theorem dX12_readsCompared_10 : decode cX12_readsCompared 10 = .ok (.invokevirtual 239, 3) := by decide +kernel
theorem dX12_readsCompared_13 : decode cX12_readsCompared 13 = .ok (.bipush 60, 2) := by decide +kernel
theorem dX12_readsCompared_15 : decode cX12_readsCompared 15 = .ok (.if_icmp .ne 8, 3) := by decide +kernel
theorem dX12_readsCompared_18 : decode cX12_readsCompared 18 = .ok (.bipush 7, 2) := by decide +kernel
theorem dX12_readsCompared_20 : decode cX12_readsCompared 20 = .ok (.goto 32, 3) := by decide +kernel
theorem dX12_readsCompared_23 : decode cX12_readsCompared 23 = .ok (.aload_n 0, 1) := by decide +kernel
theorem dX12_readsCompared_24 : decode cX12_readsCompared 24 = .ok (.invokevirtual 239, 3) := by decide +kernel
theorem dX12_readsCompared_27 : decode cX12_readsCompared 27 = .ok (.bipush 62, 2) := by decide +kernel
theorem dX12_readsCompared_29 : decode cX12_readsCompared 29 = .ok (.if_icmp .ne 8, 3) := by decide +kernel
theorem dX12_readsCompared_32 : decode cX12_readsCompared 32 = .ok (.bipush 8, 2) := by decide +kernel
theorem dX12_readsCompared_34 : decode cX12_readsCompared 34 = .ok (.goto 18, 3) := by decide +kernel
theorem dX12_readsCompared_37 : decode cX12_readsCompared 37 = .ok (.aload_n 0, 1) := by decide +kernel
theorem dX12_readsCompared_38 : decode cX12_readsCompared 38 = .ok (.invokevirtual 239, 3) := by decide +kernel
theorem dX12_readsCompared_41 : decode cX12_readsCompared 41 = .ok (.bipush 61, 2) := by decide +kernel
theorem dX12_readsCompared_43 : decode cX12_readsCompared 43 = .ok (.if_icmp .ne 8, 3) := by decide +kernel
theorem dX12_readsCompared_46 : decode cX12_readsCompared 46 = .ok (.bipush 9, 2) := by decide +kernel
theorem dX12_readsCompared_48 : decode cX12_readsCompared 48 = .ok (.goto 4, 3) := by decide +kernel
theorem dX12_readsCompared_51 : decode cX12_readsCompared 51 = .ok (.iconst (-1), 1) := by decide +kernel
theorem dX12_readsCompared_52 : decode cX12_readsCompared 52 = .ok (.istore_n 1, 1) := by decide +kernel
theorem dX12_readsCompared_53 : decode cX12_readsCompared 53 = .ok (.iload_n 1, 1) := by decide +kernel
theorem dX12_readsCompared_54 : decode cX12_readsCompared 54 = .ok (.iconst (-1), 1) := by decide +kernel
theorem dX12_readsCompared_55 : decode cX12_readsCompared 55 = .ok (.if_icmp .ne 13, 3) := by decide +kernel
theorem dX12_readsCompared_58 : decode cX12_readsCompared 58 = .ok (.aload_n 0, 1) := by decide +kernel
theorem dX12_readsCompared_59 : decode cX12_readsCompared 59 = .ok (.iconst 1, 1) := by decide +kernel
theorem dX12_readsCompared_60 : decode cX12_readsCompared 60 = .ok (.aload_n 0, 1) := by decide +kernel
theorem dX12_readsCompared_61 : decode cX12_readsCompared 61 = .ok (.getfield 233, 3) := by decide +kernel
theorem dX12_readsCompared_64 : decode cX12_readsCompared 64 = .ok (.invokevirtual 246, 3) := by decide +kernel
theorem dX12_readsCompared_67 : decode cX12_readsCompared 67 = .ok (.ireturn, 1) := by decide +kernel
theorem dX12_readsCompared_68 : decode cX12_readsCompared 68 = .ok (.aload_n 0, 1) := by decide +kernel
theorem dX12_readsCompared_69 : decode cX12_readsCompared 69 = .ok (.aload_n 0, 1) := by decide +kernel
theorem dX12_readsCompared_70 : decode cX12_readsCompared 70 = .ok (.getfield 233, 3) := by decide +kernel
theorem dX12_readsCompared_73 : decode cX12_readsCompared 73 = .ok (.iconst 1, 1) := by decide +kernel
theorem dX12_readsCompared_74 : decode cX12_readsCompared 74 = .ok (.iadd, 1) := by decide +kernel
theorem dX12_readsCompared_75 : decode cX12_readsCompared 75 = .ok (.putfield 233, 3) := by decide +kernel
theorem dX12_readsCompared_78 : decode cX12_readsCompared 78 = .ok (.aload_n 0, 1) := by decide +kernel
theorem dX12_readsCompared_79 : decode cX12_readsCompared 79 = .ok (.invokevirtual 297, 3) := by decide +kernel
theorem dX12_readsCompared_82 : decode cX12_readsCompared 82 = .ok (.ifCond .ne 5, 3) := by decide +kernel
theorem dX12_readsCompared_85 : decode cX12_readsCompared 85 = .ok (.iconst 0, 1) := by decide +kernel
theorem dX12_readsCompared_86 : decode cX12_readsCompared 86 = .ok (.ireturn, 1) := by decide +kernel
theorem dX12_readsCompared_87 : decode cX12_readsCompared 87 = .ok (.aload_n 0, 1) := by decide +kernel
theorem dX12_readsCompared_88 : decode cX12_readsCompared 88 = .ok (.iload_n 1, 1) := by decide +kernel
theorem dX12_readsCompared_89 : decode cX12_readsCompared 89 = .ok (.iconst 0, 1) := by decide +kernel
theorem dX12_readsCompared_90 : decode cX12_readsCompared 90 = .ok (.invokevirtual 270, 3) := by decide +kernel
theorem dX12_readsCompared_93 : decode cX12_readsCompared 93 = .ok (.aload_n 0, 1) := by decide +kernel
theorem dX12_readsCompared_94 : decode cX12_readsCompared 94 = .ok (.invokevirtual 300, 3) := by decide +kernel
theorem dX12_readsCompared_97 : decode cX12_readsCompared 97 = .ok (.iconst 1, 1) := by decide +kernel
theorem dX12_readsCompared_98 : decode cX12_readsCompared 98 = .ok (.ireturn, 1) := by decide +kernel
theorem dX12_readsCondition_0 : decode cX12_readsCondition 0 = .ok (.aload_n 0, 1) := by decide +kernel
theorem dX12_readsCondition_1 : decode cX12_readsCondition 1 = .ok (.invokevirtual 239, 3) := by decide +kernel
theorem dX12_readsCondition_4 : decode cX12_readsCondition 4 = .ok (.bipush 40, 2) := by decide +kernel
theorem dX12_readsCondition_6 : decode cX12_readsCondition 6 = .ok (.if_icmp .eq 13, 3) := by decide +kernel
theorem dX12_readsCondition_9 : decode cX12_readsCondition 9 = .ok (.aload_n 0, 1) := by decide +kernel
theorem dX12_readsCondition_10 : decode cX12_readsCondition 10 = .ok (.iconst 1, 1) := by decide +kernel
theorem dX12_readsCondition_11 : decode cX12_readsCondition 11 = .ok (.aload_n 0, 1) := by decide +kernel
theorem dX12_readsCondition_12 : decode cX12_readsCondition 12 = .ok (.getfield 233, 3) := by decide +kernel
theorem dX12_readsCondition_15 : decode cX12_readsCondition 15 = .ok (.invokevirtual 246, 3) := by decide +kernel
theorem dX12_readsCondition_18 : decode cX12_readsCondition 18 = .ok (.ireturn, 1) := by decide +kernel
theorem dX12_readsCondition_19 : decode cX12_readsCondition 19 = .ok (.aload_n 0, 1) := by decide +kernel
theorem dX12_readsCondition_20 : decode cX12_readsCondition 20 = .ok (.iconst 0, 1) := by decide +kernel
theorem dX12_readsCondition_21 : decode cX12_readsCondition 21 = .ok (.putfield 261, 3) := by decide +kernel
theorem dX12_readsCondition_24 : decode cX12_readsCondition 24 = .ok (.aload_n 0, 1) := by decide +kernel
theorem dX12_readsCondition_25 : decode cX12_readsCondition 25 = .ok (.iconst 0, 1) := by decide +kernel
theorem dX12_readsCondition_26 : decode cX12_readsCondition 26 = .ok (.putfield 264, 3) := by decide +kernel
theorem dX12_readsCondition_29 : decode cX12_readsCondition 29 = .ok (.aload_n 0, 1) := by decide +kernel
theorem dX12_readsCondition_30 : decode cX12_readsCondition 30 = .ok (.bipush 13, 2) := by decide +kernel
theorem dX12_readsCondition_32 : decode cX12_readsCondition 32 = .ok (.invokevirtual 274, 3) := by decide +kernel
theorem dX12_readsCondition_35 : decode cX12_readsCondition 35 = .ok (.ifCond .ne 5, 3) := by decide +kernel
theorem dX12_readsCondition_38 : decode cX12_readsCondition 38 = .ok (.iconst 0, 1) := by decide +kernel
theorem dX12_readsCondition_39 : decode cX12_readsCondition 39 = .ok (.ireturn, 1) := by decide +kernel
theorem dX12_readsCondition_40 : decode cX12_readsCondition 40 = .ok (.aload_n 0, 1) := by decide +kernel
theorem dX12_readsCondition_41 : decode cX12_readsCondition 41 = .ok (.invokevirtual 239, 3) := by decide +kernel
theorem dX12_readsCondition_44 : decode cX12_readsCondition 44 = .ok (.bipush 33, 2) := by decide +kernel
theorem dX12_readsCondition_46 : decode cX12_readsCondition 46 = .ok (.if_icmp .eq 12, 3) := by decide +kernel
theorem dX12_readsCondition_49 : decode cX12_readsCondition 49 = .ok (.aload_n 0, 1) := by decide +kernel
theorem dX12_readsCondition_50 : decode cX12_readsCondition 50 = .ok (.invokevirtual 239, 3) := by decide +kernel
theorem dX12_readsCondition_53 : decode cX12_readsCondition 53 = .ok (.bipush 40, 2) := by decide +kernel
theorem dX12_readsCondition_55 : decode cX12_readsCondition 55 = .ok (.if_icmp .ne 28, 3) := by decide +kernel
theorem dX12_readsCondition_58 : decode cX12_readsCondition 58 = .ok (.aload_n 0, 1) := by decide +kernel
theorem dX12_readsCondition_59 : decode cX12_readsCondition 59 = .ok (.aload_n 0, 1) := by decide +kernel
theorem dX12_readsCondition_60 : decode cX12_readsCondition 60 = .ok (.invokevirtual 239, 3) := by decide +kernel
theorem dX12_readsCondition_63 : decode cX12_readsCondition 63 = .ok (.bipush 33, 2) := by decide +kernel
theorem dX12_readsCondition_65 : decode cX12_readsCondition 65 = .ok (.if_icmp .ne 8, 3) := by decide +kernel
theorem dX12_readsCondition_68 : decode cX12_readsCondition 68 = .ok (.bipush 10, 2) := by decide +kernel
theorem dX12_readsCondition_70 : decode cX12_readsCondition 70 = .ok (.goto 5, 3) := by decide +kernel
theorem dX12_readsCondition_73 : decode cX12_readsCondition 73 = .ok (.bipush 13, 2) := by decide +kernel
theorem dX12_readsCondition_75 : decode cX12_readsCondition 75 = .ok (.invokevirtual 274, 3) := by decide +kernel
theorem dX12_readsCondition_78 : decode cX12_readsCondition 78 = .ok (.ifCond .ne (-38), 3) := by decide +kernel
theorem dX12_readsCondition_81 : decode cX12_readsCondition 81 = .ok (.iconst 0, 1) := by decide +kernel
theorem dX12_readsCondition_82 : decode cX12_readsCondition 82 = .ok (.ireturn, 1) := by decide +kernel
theorem dX12_readsCondition_83 : decode cX12_readsCondition 83 = .ok (.aload_n 0, 1) := by decide +kernel
theorem dX12_readsCondition_84 : decode cX12_readsCondition 84 = .ok (.invokevirtual 303, 3) := by decide +kernel
theorem dX12_readsCondition_87 : decode cX12_readsCondition 87 = .ok (.ifCond .ne 5, 3) := by decide +kernel
theorem dX12_readsCondition_90 : decode cX12_readsCondition 90 = .ok (.iconst 0, 1) := by decide +kernel
theorem dX12_readsCondition_91 : decode cX12_readsCondition 91 = .ok (.ireturn, 1) := by decide +kernel
theorem dX12_readsCondition_92 : decode cX12_readsCondition 92 = .ok (.aload_n 0, 1) := by decide +kernel
theorem dX12_readsCondition_93 : decode cX12_readsCondition 93 = .ok (.invokevirtual 239, 3) := by decide +kernel
theorem dX12_readsCondition_96 : decode cX12_readsCondition 96 = .ok (.bipush 41, 2) := by decide +kernel
theorem dX12_readsCondition_98 : decode cX12_readsCondition 98 = .ok (.if_icmp .ne 54, 3) := by decide +kernel
theorem dX12_readsCondition_101 : decode cX12_readsCondition 101 = .ok (.aload_n 0, 1) := by decide +kernel
theorem dX12_readsCondition_102 : decode cX12_readsCondition 102 = .ok (.iconst 1, 1) := by decide +kernel
theorem dX12_readsCondition_103 : decode cX12_readsCondition 103 = .ok (.invokevirtual 306, 3) := by decide +kernel
theorem dX12_readsCondition_106 : decode cX12_readsCondition 106 = .ok (.aload_n 0, 1) := by decide +kernel
theorem dX12_readsCondition_107 : decode cX12_readsCondition 107 = .ok (.aload_n 0, 1) := by decide +kernel
theorem dX12_readsCondition_108 : decode cX12_readsCondition 108 = .ok (.getfield 264, 3) := by decide +kernel
theorem dX12_readsCondition_111 : decode cX12_readsCondition 111 = .ok (.iconst 1, 1) := by decide +kernel
theorem dX12_readsCondition_112 : decode cX12_readsCondition 112 = .ok (.isub, 1) := by decide +kernel
theorem dX12_readsCondition_113 : decode cX12_readsCondition 113 = .ok (.putfield 264, 3) := by decide +kernel
theorem dX12_readsCondition_116 : decode cX12_readsCondition 116 = .ok (.aload_n 0, 1) := by decide +kernel
theorem dX12_readsCondition_117 : decode cX12_readsCondition 117 = .ok (.aload_n 0, 1) := by decide +kernel
theorem dX12_readsCondition_118 : decode cX12_readsCondition 118 = .ok (.getfield 261, 3) := by decide +kernel
theorem dX12_readsCondition_121 : decode cX12_readsCondition 121 = .ok (.iconst 1, 1) := by decide +kernel
theorem dX12_readsCondition_122 : decode cX12_readsCondition 122 = .ok (.isub, 1) := by decide +kernel
theorem dX12_readsCondition_123 : decode cX12_readsCondition 123 = .ok (.putfield 261, 3) := by decide +kernel
theorem dX12_readsCondition_126 : decode cX12_readsCondition 126 = .ok (.aload_n 0, 1) := by decide +kernel
theorem dX12_readsCondition_127 : decode cX12_readsCondition 127 = .ok (.aload_n 0, 1) := by decide +kernel
theorem dX12_readsCondition_128 : decode cX12_readsCondition 128 = .ok (.getfield 233, 3) := by decide +kernel
theorem dX12_readsCondition_131 : decode cX12_readsCondition 131 = .ok (.iconst 1, 1) := by decide +kernel
theorem dX12_readsCondition_132 : decode cX12_readsCondition 132 = .ok (.iadd, 1) := by decide +kernel
theorem dX12_readsCondition_133 : decode cX12_readsCondition 133 = .ok (.putfield 233, 3) := by decide +kernel
theorem dX12_readsCondition_136 : decode cX12_readsCondition 136 = .ok (.aload_n 0, 1) := by decide +kernel
theorem dX12_readsCondition_137 : decode cX12_readsCondition 137 = .ok (.getfield 264, 3) := by decide +kernel
theorem dX12_readsCondition_140 : decode cX12_readsCondition 140 = .ok (.ifCond .ne 5, 3) := by decide +kernel
theorem dX12_readsCondition_143 : decode cX12_readsCondition 143 = .ok (.iconst 1, 1) := by decide +kernel
theorem dX12_readsCondition_144 : decode cX12_readsCondition 144 = .ok (.ireturn, 1) := by decide +kernel
theorem dX12_readsCondition_145 : decode cX12_readsCondition 145 = .ok (.aload_n 0, 1) := by decide +kernel
theorem dX12_readsCondition_146 : decode cX12_readsCondition 146 = .ok (.invokevirtual 300, 3) := by decide +kernel
theorem dX12_readsCondition_149 : decode cX12_readsCondition 149 = .ok (.goto (-57), 3) := by decide +kernel
theorem dX12_readsCondition_152 : decode cX12_readsCondition 152 = .ok (.aload_n 0, 1) := by decide +kernel
theorem dX12_readsCondition_153 : decode cX12_readsCondition 153 = .ok (.invokevirtual 239, 3) := by decide +kernel
theorem dX12_readsCondition_156 : decode cX12_readsCondition 156 = .ok (.bipush 38, 2) := by decide +kernel
theorem dX12_readsCondition_158 : decode cX12_readsCondition 158 = .ok (.if_icmp .eq 22, 3) := by decide +kernel
theorem dX12_readsCondition_161 : decode cX12_readsCondition 161 = .ok (.aload_n 0, 1) := by decide +kernel
theorem dX12_readsCondition_162 : decode cX12_readsCondition 162 = .ok (.invokevirtual 239, 3) := by decide +kernel
theorem dX12_readsCondition_165 : decode cX12_readsCondition 165 = .ok (.bipush 124, 2) := by decide +kernel
theorem dX12_readsCondition_167 : decode cX12_readsCondition 167 = .ok (.if_icmp .eq 13, 3) := by decide +kernel
theorem dX12_readsCondition_170 : decode cX12_readsCondition 170 = .ok (.aload_n 0, 1) := by decide +kernel
theorem dX12_readsCondition_171 : decode cX12_readsCondition 171 = .ok (.iconst 1, 1) := by decide +kernel
theorem dX12_readsCondition_172 : decode cX12_readsCondition 172 = .ok (.aload_n 0, 1) := by decide +kernel
theorem dX12_readsCondition_173 : decode cX12_readsCondition 173 = .ok (.getfield 233, 3) := by decide +kernel
theorem dX12_readsCondition_176 : decode cX12_readsCondition 176 = .ok (.invokevirtual 246, 3) := by decide +kernel
theorem dX12_readsCondition_179 : decode cX12_readsCondition 179 = .ok (.ireturn, 1) := by decide +kernel
theorem dX12_readsCondition_180 : decode cX12_readsCondition 180 = .ok (.aload_n 0, 1) := by decide +kernel
theorem dX12_readsCondition_181 : decode cX12_readsCondition 181 = .ok (.aload_n 0, 1) := by decide +kernel
theorem dX12_readsCondition_182 : decode cX12_readsCondition 182 = .ok (.invokevirtual 239, 3) := by decide +kernel
theorem dX12_readsCondition_185 : decode cX12_readsCondition 185 = .ok (.bipush 124, 2) := by decide +kernel
theorem dX12_readsCondition_187 : decode cX12_readsCondition 187 = .ok (.if_icmp .ne 7, 3) := by decide +kernel
theorem dX12_readsCondition_190 : decode cX12_readsCondition 190 = .ok (.iconst 1, 1) := by decide +kernel
theorem dX12_readsCondition_191 : decode cX12_readsCondition 191 = .ok (.goto 4, 3) := by decide +kernel
theorem dX12_readsCondition_194 : decode cX12_readsCondition 194 = .ok (.iconst 0, 1) := by decide +kernel
theorem dX12_readsCondition_195 : decode cX12_readsCondition 195 = .ok (.invokevirtual 306, 3) := by decide +kernel
theorem dX12_readsCondition_198 : decode cX12_readsCondition 198 = .ok (.aload_n 0, 1) := by decide +kernel
theorem dX12_readsCondition_199 : decode cX12_readsCondition 199 = .ok (.aload_n 0, 1) := by decide +kernel
theorem dX12_readsCondition_200 : decode cX12_readsCondition 200 = .ok (.invokevirtual 239, 3) := by decide +kernel
theorem dX12_readsCondition_203 : decode cX12_readsCondition 203 = .ok (.bipush 38, 2) := by decide +kernel
theorem dX12_readsCondition_205 : decode cX12_readsCondition 205 = .ok (.if_icmp .ne 8, 3) := by decide +kernel
theorem dX12_readsCondition_208 : decode cX12_readsCondition 208 = .ok (.bipush 11, 2) := by decide +kernel
theorem dX12_readsCondition_210 : decode cX12_readsCondition 210 = .ok (.goto 5, 3) := by decide +kernel
theorem dX12_readsCondition_213 : decode cX12_readsCondition 213 = .ok (.bipush 12, 2) := by decide +kernel
theorem dX12_readsCondition_215 : decode cX12_readsCondition 215 = .ok (.invokevirtual 309, 3) := by decide +kernel
theorem dX12_readsCondition_218 : decode cX12_readsCondition 218 = .ok (.goto (-178), 3) := by decide +kernel
theorem dX12_readsClause_0 : decode cX12_readsClause 0 = .ok (.aload_n 0, 1) := by decide +kernel
theorem dX12_readsClause_1 : decode cX12_readsClause 1 = .ok (.invokevirtual 239, 3) := by decide +kernel
theorem dX12_readsClause_4 : decode cX12_readsClause 4 = .ok (.iload_n 1, 1) := by decide +kernel
theorem dX12_readsClause_5 : decode cX12_readsClause 5 = .ok (.ifCond .eq 8, 3) := by decide +kernel
theorem dX12_readsClause_8 : decode cX12_readsClause 8 = .ok (.bipush 108, 2) := by decide +kernel
theorem dX12_readsClause_10 : decode cX12_readsClause 10 = .ok (.goto 5, 3) := by decide +kernel
theorem dX12_readsClause_13 : decode cX12_readsClause 13 = .ok (.bipush 112, 2) := by decide +kernel
theorem dX12_readsClause_15 : decode cX12_readsClause 15 = .ok (.if_icmp .eq 13, 3) := by decide +kernel
theorem dX12_readsClause_18 : decode cX12_readsClause 18 = .ok (.aload_n 0, 1) := by decide +kernel
theorem dX12_readsClause_19 : decode cX12_readsClause 19 = .ok (.iconst 1, 1) := by decide +kernel
theorem dX12_readsClause_20 : decode cX12_readsClause 20 = .ok (.aload_n 0, 1) := by decide +kernel
theorem dX12_readsClause_21 : decode cX12_readsClause 21 = .ok (.getfield 233, 3) := by decide +kernel
theorem dX12_readsClause_24 : decode cX12_readsClause 24 = .ok (.invokevirtual 246, 3) := by decide +kernel
theorem dX12_readsClause_27 : decode cX12_readsClause 27 = .ok (.ireturn, 1) := by decide +kernel
theorem dX12_readsClause_28 : decode cX12_readsClause 28 = .ok (.aload_n 0, 1) := by decide +kernel
theorem dX12_readsClause_29 : decode cX12_readsClause 29 = .ok (.getfield 312, 3) := by decide +kernel
theorem dX12_readsClause_32 : decode cX12_readsClause 32 = .ok (.bipush 12, 2) := by decide +kernel
theorem dX12_readsClause_34 : decode cX12_readsClause 34 = .ok (.if_icmp .ne 13, 3) := by decide +kernel
theorem dX12_readsClause_37 : decode cX12_readsClause 37 = .ok (.aload_n 0, 1) := by decide +kernel
theorem dX12_readsClause_38 : decode cX12_readsClause 38 = .ok (.iconst 4, 1) := by decide +kernel
theorem dX12_readsClause_39 : decode cX12_readsClause 39 = .ok (.aload_n 0, 1) := by decide +kernel
theorem dX12_readsClause_40 : decode cX12_readsClause 40 = .ok (.getfield 233, 3) := by decide +kernel
theorem dX12_readsClause_43 : decode cX12_readsClause 43 = .ok (.invokevirtual 246, 3) := by decide +kernel
theorem dX12_readsClause_46 : decode cX12_readsClause 46 = .ok (.ireturn, 1) := by decide +kernel
theorem dX12_readsClause_47 : decode cX12_readsClause 47 = .ok (.aload_n 0, 1) := by decide +kernel
theorem dX12_readsClause_48 : decode cX12_readsClause 48 = .ok (.aload_n 0, 1) := by decide +kernel
theorem dX12_readsClause_49 : decode cX12_readsClause 49 = .ok (.getfield 233, 3) := by decide +kernel
theorem dX12_readsClause_52 : decode cX12_readsClause 52 = .ok (.iconst 1, 1) := by decide +kernel
theorem dX12_readsClause_53 : decode cX12_readsClause 53 = .ok (.iadd, 1) := by decide +kernel
theorem dX12_readsClause_54 : decode cX12_readsClause 54 = .ok (.putfield 233, 3) := by decide +kernel
theorem dX12_readsClause_57 : decode cX12_readsClause 57 = .ok (.aload_n 0, 1) := by decide +kernel
theorem dX12_readsClause_58 : decode cX12_readsClause 58 = .ok (.getfield 62, 3) := by decide +kernel
theorem dX12_readsClause_61 : decode cX12_readsClause 61 = .ok (.aload_n 0, 1) := by decide +kernel
theorem dX12_readsClause_62 : decode cX12_readsClause 62 = .ok (.getfield 312, 3) := by decide +kernel
theorem dX12_readsClause_65 : decode cX12_readsClause 65 = .ok (.aload_n 0, 1) := by decide +kernel
theorem dX12_readsClause_66 : decode cX12_readsClause 66 = .ok (.getfield 257, 3) := by decide +kernel
theorem dX12_readsClause_69 : decode cX12_readsClause 69 = .ok (.iastore, 1) := by decide +kernel
theorem dX12_readsClause_70 : decode cX12_readsClause 70 = .ok (.aload_n 0, 1) := by decide +kernel
theorem dX12_readsClause_71 : decode cX12_readsClause 71 = .ok (.iconst 0, 1) := by decide +kernel
theorem dX12_readsClause_72 : decode cX12_readsClause 72 = .ok (.putfield 261, 3) := by decide +kernel
theorem dX12_readsClause_75 : decode cX12_readsClause 75 = .ok (.aload_n 0, 1) := by decide +kernel
theorem dX12_readsClause_76 : decode cX12_readsClause 76 = .ok (.iconst 0, 1) := by decide +kernel
theorem dX12_readsClause_77 : decode cX12_readsClause 77 = .ok (.putfield 264, 3) := by decide +kernel
theorem dX12_readsClause_80 : decode cX12_readsClause 80 = .ok (.iload_n 1, 1) := by decide +kernel
theorem dX12_readsClause_81 : decode cX12_readsClause 81 = .ok (.ifCond .ne 12, 3) := by decide +kernel
theorem dX12_readsClause_84 : decode cX12_readsClause 84 = .ok (.aload_n 0, 1) := by decide +kernel
theorem dX12_readsClause_85 : decode cX12_readsClause 85 = .ok (.invokevirtual 297, 3) := by decide +kernel
theorem dX12_readsClause_88 : decode cX12_readsClause 88 = .ok (.ifCond .ne 5, 3) := by decide +kernel
theorem dX12_readsClause_91 : decode cX12_readsClause 91 = .ok (.iconst 0, 1) := by decide +kernel
theorem dX12_readsClause_92 : decode cX12_readsClause 92 = .ok (.ireturn, 1) := by decide +kernel
theorem dX12_readsClause_93 : decode cX12_readsClause 93 = .ok (.aload_n 0, 1) := by decide +kernel
theorem dX12_readsClause_94 : decode cX12_readsClause 94 = .ok (.getfield 65, 3) := by decide +kernel
theorem dX12_readsClause_97 : decode cX12_readsClause 97 = .ok (.aload_n 0, 1) := by decide +kernel
theorem dX12_readsClause_98 : decode cX12_readsClause 98 = .ok (.getfield 312, 3) := by decide +kernel
theorem dX12_readsClause_101 : decode cX12_readsClause 101 = .ok (.aload_n 0, 1) := by decide +kernel
theorem dX12_readsClause_102 : decode cX12_readsClause 102 = .ok (.getfield 257, 3) := by decide +kernel
theorem dX12_readsClause_105 : decode cX12_readsClause 105 = .ok (.iastore, 1) := by decide +kernel
theorem dX12_readsClause_106 : decode cX12_readsClause 106 = .ok (.aload_n 0, 1) := by decide +kernel
theorem dX12_readsClause_107 : decode cX12_readsClause 107 = .ok (.invokevirtual 315, 3) := by decide +kernel
theorem dX12_readsClause_110 : decode cX12_readsClause 110 = .ok (.ifCond .ne 5, 3) := by decide +kernel
theorem dX12_readsClause_113 : decode cX12_readsClause 113 = .ok (.iconst 0, 1) := by decide +kernel
theorem dX12_readsClause_114 : decode cX12_readsClause 114 = .ok (.ireturn, 1) := by decide +kernel
theorem dX12_readsClause_115 : decode cX12_readsClause 115 = .ok (.aload_n 0, 1) := by decide +kernel
theorem dX12_readsClause_116 : decode cX12_readsClause 116 = .ok (.getfield 68, 3) := by decide +kernel
theorem dX12_readsClause_119 : decode cX12_readsClause 119 = .ok (.aload_n 0, 1) := by decide +kernel
theorem dX12_readsClause_120 : decode cX12_readsClause 120 = .ok (.getfield 312, 3) := by decide +kernel
theorem dX12_readsClause_123 : decode cX12_readsClause 123 = .ok (.aload_n 0, 1) := by decide +kernel
theorem dX12_readsClause_124 : decode cX12_readsClause 124 = .ok (.getfield 257, 3) := by decide +kernel
theorem dX12_readsClause_127 : decode cX12_readsClause 127 = .ok (.iastore, 1) := by decide +kernel
theorem dX12_readsClause_128 : decode cX12_readsClause 128 = .ok (.aload_n 0, 1) := by decide +kernel
theorem dX12_readsClause_129 : decode cX12_readsClause 129 = .ok (.aload_n 0, 1) := by decide +kernel
theorem dX12_readsClause_130 : decode cX12_readsClause 130 = .ok (.getfield 312, 3) := by decide +kernel
theorem dX12_readsClause_133 : decode cX12_readsClause 133 = .ok (.iconst 1, 1) := by decide +kernel
theorem dX12_readsClause_134 : decode cX12_readsClause 134 = .ok (.iadd, 1) := by decide +kernel
theorem dX12_readsClause_135 : decode cX12_readsClause 135 = .ok (.putfield 312, 3) := by decide +kernel
theorem dX12_readsClause_138 : decode cX12_readsClause 138 = .ok (.iconst 1, 1) := by decide +kernel
theorem dX12_readsClause_139 : decode cX12_readsClause 139 = .ok (.ireturn, 1) := by decide +kernel
theorem dX12_reads_0 : decode cX12_reads 0 = .ok (.aload_n 0, 1) := by decide +kernel
theorem dX12_reads_1 : decode cX12_reads 1 = .ok (.iconst 0, 1) := by decide +kernel
theorem dX12_reads_2 : decode cX12_reads 2 = .ok (.putfield 233, 3) := by decide +kernel
theorem dX12_reads_5 : decode cX12_reads 5 = .ok (.aload_n 0, 1) := by decide +kernel
theorem dX12_reads_6 : decode cX12_reads 6 = .ok (.iload_n 2, 1) := by decide +kernel
theorem dX12_reads_7 : decode cX12_reads 7 = .ok (.putfield 236, 3) := by decide +kernel
theorem dX12_reads_10 : decode cX12_reads 10 = .ok (.aload_n 0, 1) := by decide +kernel
theorem dX12_reads_11 : decode cX12_reads 11 = .ok (.iconst 0, 1) := by decide +kernel
theorem dX12_reads_12 : decode cX12_reads 12 = .ok (.putfield 257, 3) := by decide +kernel
theorem dX12_reads_15 : decode cX12_reads 15 = .ok (.aload_n 0, 1) := by decide +kernel
theorem dX12_reads_16 : decode cX12_reads 16 = .ok (.iconst 0, 1) := by decide +kernel
theorem dX12_reads_17 : decode cX12_reads 17 = .ok (.putfield 312, 3) := by decide +kernel
theorem dX12_reads_20 : decode cX12_reads 20 = .ok (.aload_n 0, 1) := by decide +kernel
theorem dX12_reads_21 : decode cX12_reads 21 = .ok (.iload_n 1, 1) := by decide +kernel
theorem dX12_reads_22 : decode cX12_reads 22 = .ok (.bipush 10, 2) := by decide +kernel
theorem dX12_reads_24 : decode cX12_reads 24 = .ok (.if_icmp .ne 7, 3) := by decide +kernel
theorem dX12_reads_27 : decode cX12_reads 27 = .ok (.iconst 1, 1) := by decide +kernel
theorem dX12_reads_28 : decode cX12_reads 28 = .ok (.goto 4, 3) := by decide +kernel
theorem dX12_reads_31 : decode cX12_reads 31 = .ok (.iconst 0, 1) := by decide +kernel
theorem dX12_reads_32 : decode cX12_reads 32 = .ok (.invokevirtual 318, 3) := by decide +kernel
theorem dX12_reads_35 : decode cX12_reads 35 = .ok (.istore_n 3, 1) := by decide +kernel
theorem dX12_reads_36 : decode cX12_reads 36 = .ok (.iload_n 3, 1) := by decide +kernel
theorem dX12_reads_37 : decode cX12_reads 37 = .ok (.ifCond .eq 50, 3) := by decide +kernel
theorem dX12_reads_40 : decode cX12_reads 40 = .ok (.aload_n 0, 1) := by decide +kernel
theorem dX12_reads_41 : decode cX12_reads 41 = .ok (.getfield 233, 3) := by decide +kernel
theorem dX12_reads_44 : decode cX12_reads 44 = .ok (.aload_n 0, 1) := by decide +kernel
theorem dX12_reads_45 : decode cX12_reads 45 = .ok (.getfield 236, 3) := by decide +kernel
theorem dX12_reads_48 : decode cX12_reads 48 = .ok (.if_icmp .ge 39, 3) := by decide +kernel
theorem dX12_reads_51 : decode cX12_reads 51 = .ok (.aload_n 0, 1) := by decide +kernel
theorem dX12_reads_52 : decode cX12_reads 52 = .ok (.bipush 59, 2) := by decide +kernel
theorem dX12_reads_54 : decode cX12_reads 54 = .ok (.invokevirtual 322, 3) := by decide +kernel
theorem dX12_reads_57 : decode cX12_reads 57 = .ok (.ifCond .eq 25, 3) := by decide +kernel
theorem dX12_reads_60 : decode cX12_reads 60 = .ok (.aload_n 0, 1) := by decide +kernel
theorem dX12_reads_61 : decode cX12_reads 61 = .ok (.iload_n 1, 1) := by decide +kernel
theorem dX12_reads_62 : decode cX12_reads 62 = .ok (.bipush 10, 2) := by decide +kernel
theorem dX12_reads_64 : decode cX12_reads 64 = .ok (.if_icmp .ne 7, 3) := by decide +kernel
theorem dX12_reads_67 : decode cX12_reads 67 = .ok (.iconst 1, 1) := by decide +kernel
theorem dX12_reads_68 : decode cX12_reads 68 = .ok (.goto 4, 3) := by decide +kernel
theorem dX12_reads_71 : decode cX12_reads 71 = .ok (.iconst 0, 1) := by decide +kernel
theorem dX12_reads_72 : decode cX12_reads 72 = .ok (.invokevirtual 318, 3) := by decide +kernel
theorem dX12_reads_75 : decode cX12_reads 75 = .ok (.ifCond .eq 7, 3) := by decide +kernel
theorem dX12_reads_78 : decode cX12_reads 78 = .ok (.iconst 1, 1) := by decide +kernel
theorem dX12_reads_79 : decode cX12_reads 79 = .ok (.goto 4, 3) := by decide +kernel
theorem dX12_reads_82 : decode cX12_reads 82 = .ok (.iconst 0, 1) := by decide +kernel
theorem dX12_reads_83 : decode cX12_reads 83 = .ok (.istore_n 3, 1) := by decide +kernel
theorem dX12_reads_84 : decode cX12_reads 84 = .ok (.goto (-48), 3) := by decide +kernel
theorem dX12_reads_87 : decode cX12_reads 87 = .ok (.aload_n 0, 1) := by decide +kernel
theorem dX12_reads_88 : decode cX12_reads 88 = .ok (.iconst 0, 1) := by decide +kernel
theorem dX12_reads_89 : decode cX12_reads 89 = .ok (.putfield 226, 3) := by decide +kernel
theorem dX12_reads_92 : decode cX12_reads 92 = .ok (.iload_n 3, 1) := by decide +kernel
theorem dX12_reads_93 : decode cX12_reads 93 = .ok (.ifCond .ne 8, 3) := by decide +kernel
theorem dX12_reads_96 : decode cX12_reads 96 = .ok (.aload_n 0, 1) := by decide +kernel
theorem dX12_reads_97 : decode cX12_reads 97 = .ok (.getfield 243, 3) := by decide +kernel
theorem dX12_reads_100 : decode cX12_reads 100 = .ok (.ireturn, 1) := by decide +kernel
theorem dX12_reads_101 : decode cX12_reads 101 = .ok (.aload_n 0, 1) := by decide +kernel
theorem dX12_reads_102 : decode cX12_reads 102 = .ok (.getfield 74, 3) := by decide +kernel
theorem dX12_reads_105 : decode cX12_reads 105 = .ok (.iload_n 1, 1) := by decide +kernel
theorem dX12_reads_106 : decode cX12_reads 106 = .ok (.aload_n 0, 1) := by decide +kernel
theorem dX12_reads_107 : decode cX12_reads 107 = .ok (.getfield 312, 3) := by decide +kernel
theorem dX12_reads_110 : decode cX12_reads 110 = .ok (.iastore, 1) := by decide +kernel
theorem dX12_reads_111 : decode cX12_reads 111 = .ok (.iconst 0, 1) := by decide +kernel
theorem dX12_reads_112 : decode cX12_reads 112 = .ok (.istore 4, 2) := by decide +kernel
theorem dX12_reads_114 : decode cX12_reads 114 = .ok (.iload 4, 2) := by decide +kernel
theorem dX12_reads_116 : decode cX12_reads 116 = .ok (.aload_n 0, 1) := by decide +kernel
theorem dX12_reads_117 : decode cX12_reads 117 = .ok (.getfield 257, 3) := by decide +kernel
theorem dX12_reads_120 : decode cX12_reads 120 = .ok (.if_icmp .ge 29, 3) := by decide +kernel
theorem dX12_reads_123 : decode cX12_reads 123 = .ok (.aload_n 0, 1) := by decide +kernel
theorem dX12_reads_124 : decode cX12_reads 124 = .ok (.getfield 71, 3) := by decide +kernel
theorem dX12_reads_127 : decode cX12_reads 127 = .ok (.sipush 180, 3) := by decide +kernel
theorem dX12_reads_130 : decode cX12_reads 130 = .ok (.iload_n 1, 1) := by decide +kernel
theorem dX12_reads_131 : decode cX12_reads 131 = .ok (.imul, 1) := by decide +kernel
theorem dX12_reads_132 : decode cX12_reads 132 = .ok (.iload 4, 2) := by decide +kernel
theorem dX12_reads_134 : decode cX12_reads 134 = .ok (.iadd, 1) := by decide +kernel
theorem dX12_reads_135 : decode cX12_reads 135 = .ok (.aload_n 0, 1) := by decide +kernel
theorem dX12_reads_136 : decode cX12_reads 136 = .ok (.getfield 56, 3) := by decide +kernel
theorem dX12_reads_139 : decode cX12_reads 139 = .ok (.iload 4, 2) := by decide +kernel
theorem dX12_reads_141 : decode cX12_reads 141 = .ok (.iaload, 1) := by decide +kernel
theorem dX12_reads_142 : decode cX12_reads 142 = .ok (.iastore, 1) := by decide +kernel
theorem dX12_reads_143 : decode cX12_reads 143 = .ok (.iinc 4 1, 3) := by decide +kernel
theorem dX12_reads_146 : decode cX12_reads 146 = .ok (.goto (-32), 3) := by decide +kernel
theorem dX12_reads_149 : decode cX12_reads 149 = .ok (.iconst 0, 1) := by decide +kernel
theorem dX12_reads_150 : decode cX12_reads 150 = .ok (.istore 4, 2) := by decide +kernel
theorem dX12_reads_152 : decode cX12_reads 152 = .ok (.iload 4, 2) := by decide +kernel
theorem dX12_reads_154 : decode cX12_reads 154 = .ok (.aload_n 0, 1) := by decide +kernel
theorem dX12_reads_155 : decode cX12_reads 155 = .ok (.getfield 312, 3) := by decide +kernel
theorem dX12_reads_158 : decode cX12_reads 158 = .ok (.if_icmp .ge 78, 3) := by decide +kernel
theorem dX12_reads_161 : decode cX12_reads 161 = .ok (.bipush 12, 2) := by decide +kernel
theorem dX12_reads_163 : decode cX12_reads 163 = .ok (.iload_n 1, 1) := by decide +kernel
theorem dX12_reads_164 : decode cX12_reads 164 = .ok (.imul, 1) := by decide +kernel
theorem dX12_reads_165 : decode cX12_reads 165 = .ok (.iload 4, 2) := by decide +kernel
theorem dX12_reads_167 : decode cX12_reads 167 = .ok (.iadd, 1) := by decide +kernel
theorem dX12_reads_168 : decode cX12_reads 168 = .ok (.istore 5, 2) := by decide +kernel
theorem dX12_reads_170 : decode cX12_reads 170 = .ok (.aload_n 0, 1) := by decide +kernel
theorem dX12_reads_171 : decode cX12_reads 171 = .ok (.getfield 77, 3) := by decide +kernel
theorem dX12_reads_174 : decode cX12_reads 174 = .ok (.iload 5, 2) := by decide +kernel
theorem dX12_reads_176 : decode cX12_reads 176 = .ok (.sipush 180, 3) := by decide +kernel
theorem dX12_reads_179 : decode cX12_reads 179 = .ok (.iload_n 1, 1) := by decide +kernel
theorem dX12_reads_180 : decode cX12_reads 180 = .ok (.imul, 1) := by decide +kernel
theorem dX12_reads_181 : decode cX12_reads 181 = .ok (.aload_n 0, 1) := by decide +kernel
theorem dX12_reads_182 : decode cX12_reads 182 = .ok (.getfield 62, 3) := by decide +kernel
theorem dX12_reads_185 : decode cX12_reads 185 = .ok (.iload 4, 2) := by decide +kernel
theorem dX12_reads_187 : decode cX12_reads 187 = .ok (.iaload, 1) := by decide +kernel
theorem dX12_reads_188 : decode cX12_reads 188 = .ok (.iadd, 1) := by decide +kernel
theorem dX12_reads_189 : decode cX12_reads 189 = .ok (.iastore, 1) := by decide +kernel
theorem dX12_reads_190 : decode cX12_reads 190 = .ok (.aload_n 0, 1) := by decide +kernel
theorem dX12_reads_191 : decode cX12_reads 191 = .ok (.getfield 80, 3) := by decide +kernel
theorem dX12_reads_194 : decode cX12_reads 194 = .ok (.iload 5, 2) := by decide +kernel
theorem dX12_reads_196 : decode cX12_reads 196 = .ok (.sipush 180, 3) := by decide +kernel
theorem dX12_reads_199 : decode cX12_reads 199 = .ok (.iload_n 1, 1) := by decide +kernel
theorem dX12_reads_200 : decode cX12_reads 200 = .ok (.imul, 1) := by decide +kernel
theorem dX12_reads_201 : decode cX12_reads 201 = .ok (.aload_n 0, 1) := by decide +kernel
theorem dX12_reads_202 : decode cX12_reads 202 = .ok (.getfield 65, 3) := by decide +kernel
theorem dX12_reads_205 : decode cX12_reads 205 = .ok (.iload 4, 2) := by decide +kernel
theorem dX12_reads_207 : decode cX12_reads 207 = .ok (.iaload, 1) := by decide +kernel
theorem dX12_reads_208 : decode cX12_reads 208 = .ok (.iadd, 1) := by decide +kernel
theorem dX12_reads_209 : decode cX12_reads 209 = .ok (.iastore, 1) := by decide +kernel
theorem dX12_reads_210 : decode cX12_reads 210 = .ok (.aload_n 0, 1) := by decide +kernel
theorem dX12_reads_211 : decode cX12_reads 211 = .ok (.getfield 83, 3) := by decide +kernel
theorem dX12_reads_214 : decode cX12_reads 214 = .ok (.iload 5, 2) := by decide +kernel
theorem dX12_reads_216 : decode cX12_reads 216 = .ok (.sipush 180, 3) := by decide +kernel
theorem dX12_reads_219 : decode cX12_reads 219 = .ok (.iload_n 1, 1) := by decide +kernel
theorem dX12_reads_220 : decode cX12_reads 220 = .ok (.imul, 1) := by decide +kernel
theorem dX12_reads_221 : decode cX12_reads 221 = .ok (.aload_n 0, 1) := by decide +kernel
theorem dX12_reads_222 : decode cX12_reads 222 = .ok (.getfield 68, 3) := by decide +kernel
theorem dX12_reads_225 : decode cX12_reads 225 = .ok (.iload 4, 2) := by decide +kernel
theorem dX12_reads_227 : decode cX12_reads 227 = .ok (.iaload, 1) := by decide +kernel
theorem dX12_reads_228 : decode cX12_reads 228 = .ok (.iadd, 1) := by decide +kernel
theorem dX12_reads_229 : decode cX12_reads 229 = .ok (.iastore, 1) := by decide +kernel
theorem dX12_reads_230 : decode cX12_reads 230 = .ok (.iinc 4 1, 3) := by decide +kernel
theorem dX12_reads_233 : decode cX12_reads 233 = .ok (.goto (-81), 3) := by decide +kernel
theorem dX12_reads_236 : decode cX12_reads 236 = .ok (.aload_n 0, 1) := by decide +kernel
theorem dX12_reads_237 : decode cX12_reads 237 = .ok (.getfield 312, 3) := by decide +kernel
theorem dX12_reads_240 : decode cX12_reads 240 = .ok (.ireturn, 1) := by decide +kernel
theorem dX12_contract_0 : decode cX12_contract 0 = .ok (.aload_n 0, 1) := by decide +kernel
theorem dX12_contract_1 : decode cX12_contract 1 = .ok (.iload_n 1, 1) := by decide +kernel
theorem dX12_contract_2 : decode cX12_contract 2 = .ok (.invokevirtual 218, 3) := by decide +kernel
theorem dX12_contract_5 : decode cX12_contract 5 = .ok (.ifCond .eq 22, 3) := by decide +kernel
theorem dX12_contract_8 : decode cX12_contract 8 = .ok (.iload_n 2, 1) := by decide +kernel
theorem dX12_contract_9 : decode cX12_contract 9 = .ok (.iconst 1, 1) := by decide +kernel
theorem dX12_contract_10 : decode cX12_contract 10 = .ok (.sipush 160, 3) := by decide +kernel
theorem dX12_contract_13 : decode cX12_contract 13 = .ok (.invokestatic 214, 3) := by decide +kernel
theorem dX12_contract_16 : decode cX12_contract 16 = .ok (.ifCond .eq 11, 3) := by decide +kernel
theorem dX12_contract_19 : decode cX12_contract 19 = .ok (.iload_n 2, 1) := by decide +kernel
theorem dX12_contract_20 : decode cX12_contract 20 = .ok (.aload_n 0, 1) := by decide +kernel
theorem dX12_contract_21 : decode cX12_contract 21 = .ok (.getfield 226, 3) := by decide +kernel
theorem dX12_contract_24 : decode cX12_contract 24 = .ok (.if_icmp .le 7, 3) := by decide +kernel
theorem dX12_contract_27 : decode cX12_contract 27 = .ok (.iconst (-1), 1) := by decide +kernel
theorem dX12_contract_28 : decode cX12_contract 28 = .ok (.goto 9, 3) := by decide +kernel
theorem dX12_contract_31 : decode cX12_contract 31 = .ok (.aload_n 0, 1) := by decide +kernel
theorem dX12_contract_32 : decode cX12_contract 32 = .ok (.iload_n 1, 1) := by decide +kernel
theorem dX12_contract_33 : decode cX12_contract 33 = .ok (.iload_n 2, 1) := by decide +kernel
theorem dX12_contract_34 : decode cX12_contract 34 = .ok (.invokevirtual 324, 3) := by decide +kernel
theorem dX12_contract_37 : decode cX12_contract 37 = .ok (.ireturn, 1) := by decide +kernel
theorem dX12_law_0 : decode cX12_law 0 = .ok (.iload_n 1, 1) := by decide +kernel
theorem dX12_law_1 : decode cX12_law 1 = .ok (.iconst 1, 1) := by decide +kernel
theorem dX12_law_2 : decode cX12_law 2 = .ok (.sipush 160, 3) := by decide +kernel
theorem dX12_law_5 : decode cX12_law 5 = .ok (.invokestatic 214, 3) := by decide +kernel
theorem dX12_law_8 : decode cX12_law 8 = .ok (.ifCond .eq 11, 3) := by decide +kernel
theorem dX12_law_11 : decode cX12_law 11 = .ok (.iload_n 1, 1) := by decide +kernel
theorem dX12_law_12 : decode cX12_law 12 = .ok (.aload_n 0, 1) := by decide +kernel
theorem dX12_law_13 : decode cX12_law 13 = .ok (.getfield 226, 3) := by decide +kernel
theorem dX12_law_16 : decode cX12_law 16 = .ok (.if_icmp .le 7, 3) := by decide +kernel
theorem dX12_law_19 : decode cX12_law 19 = .ok (.iconst (-1), 1) := by decide +kernel
theorem dX12_law_20 : decode cX12_law 20 = .ok (.goto 10, 3) := by decide +kernel
theorem dX12_law_23 : decode cX12_law 23 = .ok (.aload_n 0, 1) := by decide +kernel
theorem dX12_law_24 : decode cX12_law 24 = .ok (.bipush 10, 2) := by decide +kernel
theorem dX12_law_26 : decode cX12_law 26 = .ok (.iload_n 1, 1) := by decide +kernel
theorem dX12_law_27 : decode cX12_law 27 = .ok (.invokevirtual 324, 3) := by decide +kernel
theorem dX12_law_30 : decode cX12_law 30 = .ok (.ireturn, 1) := by decide +kernel
theorem dX12_reckon_0 : decode cX12_reckon 0 = .ok (.iload_n 0, 1) := by decide +kernel
theorem dX12_reckon_1 : decode cX12_reckon 1 = .ok (.tableswitch 85 2 8 #[43, 47, 51, 55, 59, 63, 74], 43) := by decide +kernel
theorem dX12_reckon_44 : decode cX12_reckon 44 = .ok (.iload_n 1, 1) := by decide +kernel
theorem dX12_reckon_45 : decode cX12_reckon 45 = .ok (.iload_n 2, 1) := by decide +kernel
theorem dX12_reckon_46 : decode cX12_reckon 46 = .ok (.iadd, 1) := by decide +kernel
theorem dX12_reckon_47 : decode cX12_reckon 47 = .ok (.ireturn, 1) := by decide +kernel
theorem dX12_reckon_48 : decode cX12_reckon 48 = .ok (.iload_n 1, 1) := by decide +kernel
theorem dX12_reckon_49 : decode cX12_reckon 49 = .ok (.iload_n 2, 1) := by decide +kernel
theorem dX12_reckon_50 : decode cX12_reckon 50 = .ok (.isub, 1) := by decide +kernel
theorem dX12_reckon_51 : decode cX12_reckon 51 = .ok (.ireturn, 1) := by decide +kernel
theorem dX12_reckon_52 : decode cX12_reckon 52 = .ok (.iload_n 1, 1) := by decide +kernel
theorem dX12_reckon_53 : decode cX12_reckon 53 = .ok (.iload_n 2, 1) := by decide +kernel
theorem dX12_reckon_54 : decode cX12_reckon 54 = .ok (.imul, 1) := by decide +kernel
theorem dX12_reckon_55 : decode cX12_reckon 55 = .ok (.ireturn, 1) := by decide +kernel
theorem dX12_reckon_56 : decode cX12_reckon 56 = .ok (.iload_n 1, 1) := by decide +kernel
theorem dX12_reckon_57 : decode cX12_reckon 57 = .ok (.iload_n 2, 1) := by decide +kernel
theorem dX12_reckon_58 : decode cX12_reckon 58 = .ok (.idiv, 1) := by decide +kernel
theorem dX12_reckon_59 : decode cX12_reckon 59 = .ok (.ireturn, 1) := by decide +kernel
theorem dX12_reckon_60 : decode cX12_reckon 60 = .ok (.iload_n 1, 1) := by decide +kernel
theorem dX12_reckon_61 : decode cX12_reckon 61 = .ok (.iload_n 2, 1) := by decide +kernel
theorem dX12_reckon_62 : decode cX12_reckon 62 = .ok (.irem, 1) := by decide +kernel
theorem dX12_reckon_63 : decode cX12_reckon 63 = .ok (.ireturn, 1) := by decide +kernel
theorem dX12_reckon_64 : decode cX12_reckon 64 = .ok (.iload_n 1, 1) := by decide +kernel
theorem dX12_reckon_65 : decode cX12_reckon 65 = .ok (.iload_n 2, 1) := by decide +kernel
theorem dX12_reckon_66 : decode cX12_reckon 66 = .ok (.if_icmp .ge 7, 3) := by decide +kernel
theorem dX12_reckon_69 : decode cX12_reckon 69 = .ok (.iconst 1, 1) := by decide +kernel
theorem dX12_reckon_70 : decode cX12_reckon 70 = .ok (.goto 4, 3) := by decide +kernel
theorem dX12_reckon_73 : decode cX12_reckon 73 = .ok (.iconst 0, 1) := by decide +kernel
theorem dX12_reckon_74 : decode cX12_reckon 74 = .ok (.ireturn, 1) := by decide +kernel
theorem dX12_reckon_75 : decode cX12_reckon 75 = .ok (.iload_n 1, 1) := by decide +kernel
theorem dX12_reckon_76 : decode cX12_reckon 76 = .ok (.iload_n 2, 1) := by decide +kernel
theorem dX12_reckon_77 : decode cX12_reckon 77 = .ok (.if_icmp .le 7, 3) := by decide +kernel
theorem dX12_reckon_80 : decode cX12_reckon 80 = .ok (.iconst 1, 1) := by decide +kernel
theorem dX12_reckon_81 : decode cX12_reckon 81 = .ok (.goto 4, 3) := by decide +kernel
theorem dX12_reckon_84 : decode cX12_reckon 84 = .ok (.iconst 0, 1) := by decide +kernel
theorem dX12_reckon_85 : decode cX12_reckon 85 = .ok (.ireturn, 1) := by decide +kernel
theorem dX12_reckon_86 : decode cX12_reckon 86 = .ok (.iload_n 1, 1) := by decide +kernel
theorem dX12_reckon_87 : decode cX12_reckon 87 = .ok (.iload_n 2, 1) := by decide +kernel
theorem dX12_reckon_88 : decode cX12_reckon 88 = .ok (.if_icmp .ne 7, 3) := by decide +kernel
theorem dX12_reckon_91 : decode cX12_reckon 91 = .ok (.iconst 1, 1) := by decide +kernel
theorem dX12_reckon_92 : decode cX12_reckon 92 = .ok (.goto 4, 3) := by decide +kernel
theorem dX12_reckon_95 : decode cX12_reckon 95 = .ok (.iconst 0, 1) := by decide +kernel
theorem dX12_reckon_96 : decode cX12_reckon 96 = .ok (.ireturn, 1) := by decide +kernel
theorem dX12_comesTo_0 : decode cX12_comesTo 0 = .ok (.iconst 0, 1) := by decide +kernel
theorem dX12_comesTo_1 : decode cX12_comesTo 1 = .ok (.istore_n 3, 1) := by decide +kernel
theorem dX12_comesTo_2 : decode cX12_comesTo 2 = .ok (.sipush 180, 3) := by decide +kernel
theorem dX12_comesTo_5 : decode cX12_comesTo 5 = .ok (.iload_n 1, 1) := by decide +kernel
theorem dX12_comesTo_6 : decode cX12_comesTo 6 = .ok (.sipush 180, 3) := by decide +kernel
theorem dX12_comesTo_9 : decode cX12_comesTo 9 = .ok (.idiv, 1) := by decide +kernel
theorem dX12_comesTo_10 : decode cX12_comesTo 10 = .ok (.imul, 1) := by decide +kernel
theorem dX12_comesTo_11 : decode cX12_comesTo 11 = .ok (.istore 4, 2) := by decide +kernel
theorem dX12_comesTo_13 : decode cX12_comesTo 13 = .ok (.iload_n 1, 1) := by decide +kernel
theorem dX12_comesTo_14 : decode cX12_comesTo 14 = .ok (.istore 5, 2) := by decide +kernel
theorem dX12_comesTo_16 : decode cX12_comesTo 16 = .ok (.iload 5, 2) := by decide +kernel
theorem dX12_comesTo_18 : decode cX12_comesTo 18 = .ok (.iload_n 2, 1) := by decide +kernel
theorem dX12_comesTo_19 : decode cX12_comesTo 19 = .ok (.if_icmp .ge 216, 3) := by decide +kernel
theorem dX12_comesTo_22 : decode cX12_comesTo 22 = .ok (.aload_n 0, 1) := by decide +kernel
theorem dX12_comesTo_23 : decode cX12_comesTo 23 = .ok (.getfield 71, 3) := by decide +kernel
theorem dX12_comesTo_26 : decode cX12_comesTo 26 = .ok (.iload 5, 2) := by decide +kernel
theorem dX12_comesTo_28 : decode cX12_comesTo 28 = .ok (.iaload, 1) := by decide +kernel
theorem dX12_comesTo_29 : decode cX12_comesTo 29 = .ok (.ldc_w 260, 3) := by decide +kernel
theorem dX12_comesTo_32 : decode cX12_comesTo 32 = .ok (.idiv, 1) := by decide +kernel
theorem dX12_comesTo_33 : decode cX12_comesTo 33 = .ok (.istore 6, 2) := by decide +kernel
theorem dX12_comesTo_35 : decode cX12_comesTo 35 = .ok (.aload_n 0, 1) := by decide +kernel
theorem dX12_comesTo_36 : decode cX12_comesTo 36 = .ok (.getfield 71, 3) := by decide +kernel
theorem dX12_comesTo_39 : decode cX12_comesTo 39 = .ok (.iload 5, 2) := by decide +kernel
theorem dX12_comesTo_41 : decode cX12_comesTo 41 = .ok (.iaload, 1) := by decide +kernel
theorem dX12_comesTo_42 : decode cX12_comesTo 42 = .ok (.ldc_w 260, 3) := by decide +kernel
theorem dX12_comesTo_45 : decode cX12_comesTo 45 = .ok (.irem, 1) := by decide +kernel
theorem dX12_comesTo_46 : decode cX12_comesTo 46 = .ok (.istore 7, 2) := by decide +kernel
theorem dX12_comesTo_48 : decode cX12_comesTo 48 = .ok (.iload 5, 2) := by decide +kernel
theorem dX12_comesTo_50 : decode cX12_comesTo 50 = .ok (.iconst 1, 1) := by decide +kernel
theorem dX12_comesTo_51 : decode cX12_comesTo 51 = .ok (.iadd, 1) := by decide +kernel
theorem dX12_comesTo_52 : decode cX12_comesTo 52 = .ok (.istore 5, 2) := by decide +kernel
theorem dX12_comesTo_54 : decode cX12_comesTo 54 = .ok (.iload 6, 2) := by decide +kernel
theorem dX12_comesTo_56 : decode cX12_comesTo 56 = .ok (.ifCond .eq 9, 3) := by decide +kernel
theorem dX12_comesTo_59 : decode cX12_comesTo 59 = .ok (.iload 6, 2) := by decide +kernel
theorem dX12_comesTo_61 : decode cX12_comesTo 61 = .ok (.iconst 1, 1) := by decide +kernel
theorem dX12_comesTo_62 : decode cX12_comesTo 62 = .ok (.if_icmp .ne 33, 3) := by decide +kernel
theorem dX12_comesTo_65 : decode cX12_comesTo 65 = .ok (.aload_n 0, 1) := by decide +kernel
theorem dX12_comesTo_66 : decode cX12_comesTo 66 = .ok (.getfield 86, 3) := by decide +kernel
theorem dX12_comesTo_69 : decode cX12_comesTo 69 = .ok (.iload_n 3, 1) := by decide +kernel
theorem dX12_comesTo_70 : decode cX12_comesTo 70 = .ok (.iload 6, 2) := by decide +kernel
theorem dX12_comesTo_72 : decode cX12_comesTo 72 = .ok (.ifCond .ne 8, 3) := by decide +kernel
theorem dX12_comesTo_75 : decode cX12_comesTo 75 = .ok (.iload 7, 2) := by decide +kernel
theorem dX12_comesTo_77 : decode cX12_comesTo 77 = .ok (.goto 10, 3) := by decide +kernel
theorem dX12_comesTo_80 : decode cX12_comesTo 80 = .ok (.aload_n 0, 1) := by decide +kernel
theorem dX12_comesTo_81 : decode cX12_comesTo 81 = .ok (.getfield 89, 3) := by decide +kernel
theorem dX12_comesTo_84 : decode cX12_comesTo 84 = .ok (.iload 7, 2) := by decide +kernel
theorem dX12_comesTo_86 : decode cX12_comesTo 86 = .ok (.iaload, 1) := by decide +kernel
theorem dX12_comesTo_87 : decode cX12_comesTo 87 = .ok (.iastore, 1) := by decide +kernel
theorem dX12_comesTo_88 : decode cX12_comesTo 88 = .ok (.iload_n 3, 1) := by decide +kernel
theorem dX12_comesTo_89 : decode cX12_comesTo 89 = .ok (.iconst 1, 1) := by decide +kernel
theorem dX12_comesTo_90 : decode cX12_comesTo 90 = .ok (.iadd, 1) := by decide +kernel
theorem dX12_comesTo_91 : decode cX12_comesTo 91 = .ok (.istore_n 3, 1) := by decide +kernel
theorem dX12_comesTo_92 : decode cX12_comesTo 92 = .ok (.goto 140, 3) := by decide +kernel
theorem dX12_comesTo_95 : decode cX12_comesTo 95 = .ok (.iload 6, 2) := by decide +kernel
theorem dX12_comesTo_97 : decode cX12_comesTo 97 = .ok (.bipush 10, 2) := by decide +kernel
theorem dX12_comesTo_99 : decode cX12_comesTo 99 = .ok (.if_icmp .ne 24, 3) := by decide +kernel
theorem dX12_comesTo_102 : decode cX12_comesTo 102 = .ok (.aload_n 0, 1) := by decide +kernel
theorem dX12_comesTo_103 : decode cX12_comesTo 103 = .ok (.getfield 86, 3) := by decide +kernel
theorem dX12_comesTo_106 : decode cX12_comesTo 106 = .ok (.iload_n 3, 1) := by decide +kernel
theorem dX12_comesTo_107 : decode cX12_comesTo 107 = .ok (.iconst 1, 1) := by decide +kernel
theorem dX12_comesTo_108 : decode cX12_comesTo 108 = .ok (.isub, 1) := by decide +kernel
theorem dX12_comesTo_109 : decode cX12_comesTo 109 = .ok (.iconst 1, 1) := by decide +kernel
theorem dX12_comesTo_110 : decode cX12_comesTo 110 = .ok (.aload_n 0, 1) := by decide +kernel
theorem dX12_comesTo_111 : decode cX12_comesTo 111 = .ok (.getfield 86, 3) := by decide +kernel
theorem dX12_comesTo_114 : decode cX12_comesTo 114 = .ok (.iload_n 3, 1) := by decide +kernel
theorem dX12_comesTo_115 : decode cX12_comesTo 115 = .ok (.iconst 1, 1) := by decide +kernel
theorem dX12_comesTo_116 : decode cX12_comesTo 116 = .ok (.isub, 1) := by decide +kernel
theorem dX12_comesTo_117 : decode cX12_comesTo 117 = .ok (.iaload, 1) := by decide +kernel
theorem dX12_comesTo_118 : decode cX12_comesTo 118 = .ok (.isub, 1) := by decide +kernel
theorem dX12_comesTo_119 : decode cX12_comesTo 119 = .ok (.iastore, 1) := by decide +kernel
theorem dX12_comesTo_120 : decode cX12_comesTo 120 = .ok (.goto 112, 3) := by decide +kernel
theorem dX12_comesTo_123 : decode cX12_comesTo 123 = .ok (.iload 6, 2) := by decide +kernel
theorem dX12_comesTo_125 : decode cX12_comesTo 125 = .ok (.bipush 11, 2) := by decide +kernel
theorem dX12_comesTo_127 : decode cX12_comesTo 127 = .ok (.if_icmp .eq 10, 3) := by decide +kernel
theorem dX12_comesTo_130 : decode cX12_comesTo 130 = .ok (.iload 6, 2) := by decide +kernel
theorem dX12_comesTo_132 : decode cX12_comesTo 132 = .ok (.bipush 12, 2) := by decide +kernel
theorem dX12_comesTo_134 : decode cX12_comesTo 134 = .ok (.if_icmp .ne 43, 3) := by decide +kernel
theorem dX12_comesTo_137 : decode cX12_comesTo 137 = .ok (.aload_n 0, 1) := by decide +kernel
theorem dX12_comesTo_138 : decode cX12_comesTo 138 = .ok (.getfield 86, 3) := by decide +kernel
theorem dX12_comesTo_141 : decode cX12_comesTo 141 = .ok (.iload_n 3, 1) := by decide +kernel
theorem dX12_comesTo_142 : decode cX12_comesTo 142 = .ok (.iconst 1, 1) := by decide +kernel
theorem dX12_comesTo_143 : decode cX12_comesTo 143 = .ok (.isub, 1) := by decide +kernel
theorem dX12_comesTo_144 : decode cX12_comesTo 144 = .ok (.iaload, 1) := by decide +kernel
theorem dX12_comesTo_145 : decode cX12_comesTo 145 = .ok (.iload 6, 2) := by decide +kernel
theorem dX12_comesTo_147 : decode cX12_comesTo 147 = .ok (.bipush 12, 2) := by decide +kernel
theorem dX12_comesTo_149 : decode cX12_comesTo 149 = .ok (.if_icmp .ne 7, 3) := by decide +kernel
theorem dX12_comesTo_152 : decode cX12_comesTo 152 = .ok (.iconst 1, 1) := by decide +kernel
theorem dX12_comesTo_153 : decode cX12_comesTo 153 = .ok (.goto 4, 3) := by decide +kernel
theorem dX12_comesTo_156 : decode cX12_comesTo 156 = .ok (.iconst 0, 1) := by decide +kernel
theorem dX12_comesTo_157 : decode cX12_comesTo 157 = .ok (.if_icmp .ne 13, 3) := by decide +kernel
theorem dX12_comesTo_160 : decode cX12_comesTo 160 = .ok (.iload 4, 2) := by decide +kernel
theorem dX12_comesTo_162 : decode cX12_comesTo 162 = .ok (.iload 7, 2) := by decide +kernel
theorem dX12_comesTo_164 : decode cX12_comesTo 164 = .ok (.iadd, 1) := by decide +kernel
theorem dX12_comesTo_165 : decode cX12_comesTo 165 = .ok (.istore 5, 2) := by decide +kernel
theorem dX12_comesTo_167 : decode cX12_comesTo 167 = .ok (.goto 65, 3) := by decide +kernel
theorem dX12_comesTo_170 : decode cX12_comesTo 170 = .ok (.iload_n 3, 1) := by decide +kernel
theorem dX12_comesTo_171 : decode cX12_comesTo 171 = .ok (.iconst 1, 1) := by decide +kernel
theorem dX12_comesTo_172 : decode cX12_comesTo 172 = .ok (.isub, 1) := by decide +kernel
theorem dX12_comesTo_173 : decode cX12_comesTo 173 = .ok (.istore_n 3, 1) := by decide +kernel
theorem dX12_comesTo_174 : decode cX12_comesTo 174 = .ok (.goto 58, 3) := by decide +kernel
theorem dX12_comesTo_177 : decode cX12_comesTo 177 = .ok (.iload_n 3, 1) := by decide +kernel
theorem dX12_comesTo_178 : decode cX12_comesTo 178 = .ok (.iconst 1, 1) := by decide +kernel
theorem dX12_comesTo_179 : decode cX12_comesTo 179 = .ok (.isub, 1) := by decide +kernel
theorem dX12_comesTo_180 : decode cX12_comesTo 180 = .ok (.istore_n 3, 1) := by decide +kernel
theorem dX12_comesTo_181 : decode cX12_comesTo 181 = .ok (.iload 6, 2) := by decide +kernel
theorem dX12_comesTo_183 : decode cX12_comesTo 183 = .ok (.iconst 5, 1) := by decide +kernel
theorem dX12_comesTo_184 : decode cX12_comesTo 184 = .ok (.if_icmp .eq 10, 3) := by decide +kernel
theorem dX12_comesTo_187 : decode cX12_comesTo 187 = .ok (.iload 6, 2) := by decide +kernel
theorem dX12_comesTo_189 : decode cX12_comesTo 189 = .ok (.bipush 6, 2) := by decide +kernel
theorem dX12_comesTo_191 : decode cX12_comesTo 191 = .ok (.if_icmp .ne 14, 3) := by decide +kernel
theorem dX12_comesTo_194 : decode cX12_comesTo 194 = .ok (.aload_n 0, 1) := by decide +kernel
theorem dX12_comesTo_195 : decode cX12_comesTo 195 = .ok (.getfield 86, 3) := by decide +kernel
theorem dX12_comesTo_198 : decode cX12_comesTo 198 = .ok (.iload_n 3, 1) := by decide +kernel
theorem dX12_comesTo_199 : decode cX12_comesTo 199 = .ok (.iaload, 1) := by decide +kernel
theorem dX12_comesTo_200 : decode cX12_comesTo 200 = .ok (.ifCond .ne 5, 3) := by decide +kernel
theorem dX12_comesTo_203 : decode cX12_comesTo 203 = .ok (.iconst 0, 1) := by decide +kernel
theorem dX12_comesTo_204 : decode cX12_comesTo 204 = .ok (.ireturn, 1) := by decide +kernel
theorem dX12_comesTo_205 : decode cX12_comesTo 205 = .ok (.aload_n 0, 1) := by decide +kernel
theorem dX12_comesTo_206 : decode cX12_comesTo 206 = .ok (.getfield 86, 3) := by decide +kernel
theorem dX12_comesTo_209 : decode cX12_comesTo 209 = .ok (.iload_n 3, 1) := by decide +kernel
theorem dX12_comesTo_210 : decode cX12_comesTo 210 = .ok (.iconst 1, 1) := by decide +kernel
theorem dX12_comesTo_211 : decode cX12_comesTo 211 = .ok (.isub, 1) := by decide +kernel
theorem dX12_comesTo_212 : decode cX12_comesTo 212 = .ok (.iload 6, 2) := by decide +kernel
theorem dX12_comesTo_214 : decode cX12_comesTo 214 = .ok (.aload_n 0, 1) := by decide +kernel
theorem dX12_comesTo_215 : decode cX12_comesTo 215 = .ok (.getfield 86, 3) := by decide +kernel
theorem dX12_comesTo_218 : decode cX12_comesTo 218 = .ok (.iload_n 3, 1) := by decide +kernel
theorem dX12_comesTo_219 : decode cX12_comesTo 219 = .ok (.iconst 1, 1) := by decide +kernel
theorem dX12_comesTo_220 : decode cX12_comesTo 220 = .ok (.isub, 1) := by decide +kernel
theorem dX12_comesTo_221 : decode cX12_comesTo 221 = .ok (.iaload, 1) := by decide +kernel
theorem dX12_comesTo_222 : decode cX12_comesTo 222 = .ok (.aload_n 0, 1) := by decide +kernel
theorem dX12_comesTo_223 : decode cX12_comesTo 223 = .ok (.getfield 86, 3) := by decide +kernel
theorem dX12_comesTo_226 : decode cX12_comesTo 226 = .ok (.iload_n 3, 1) := by decide +kernel
theorem dX12_comesTo_227 : decode cX12_comesTo 227 = .ok (.iaload, 1) := by decide +kernel
theorem dX12_comesTo_228 : decode cX12_comesTo 228 = .ok (.invokestatic 327, 3) := by decide +kernel
theorem dX12_comesTo_231 : decode cX12_comesTo 231 = .ok (.iastore, 1) := by decide +kernel
theorem dX12_comesTo_232 : decode cX12_comesTo 232 = .ok (.goto (-216), 3) := by decide +kernel
theorem dX12_comesTo_235 : decode cX12_comesTo 235 = .ok (.aload_n 0, 1) := by decide +kernel
theorem dX12_comesTo_236 : decode cX12_comesTo 236 = .ok (.getfield 86, 3) := by decide +kernel
theorem dX12_comesTo_239 : decode cX12_comesTo 239 = .ok (.iconst 0, 1) := by decide +kernel
theorem dX12_comesTo_240 : decode cX12_comesTo 240 = .ok (.iaload, 1) := by decide +kernel
theorem dX12_comesTo_241 : decode cX12_comesTo 241 = .ok (.ireturn, 1) := by decide +kernel
theorem dX12_price_0 : decode cX12_price 0 = .ok (.iload_n 1, 1) := by decide +kernel
theorem dX12_price_1 : decode cX12_price 1 = .ok (.iconst 0, 1) := by decide +kernel
theorem dX12_price_2 : decode cX12_price 2 = .ok (.bipush 57, 2) := by decide +kernel
theorem dX12_price_4 : decode cX12_price 4 = .ok (.invokestatic 214, 3) := by decide +kernel
theorem dX12_price_7 : decode cX12_price 7 = .ok (.ifCond .eq 14, 3) := by decide +kernel
theorem dX12_price_10 : decode cX12_price 10 = .ok (.iload_n 2, 1) := by decide +kernel
theorem dX12_price_11 : decode cX12_price 11 = .ok (.iconst 0, 1) := by decide +kernel
theorem dX12_price_12 : decode cX12_price 12 = .ok (.sipush 1000, 3) := by decide +kernel
theorem dX12_price_15 : decode cX12_price 15 = .ok (.invokestatic 214, 3) := by decide +kernel
theorem dX12_price_18 : decode cX12_price 18 = .ok (.ifCond .ne 5, 3) := by decide +kernel
theorem dX12_price_21 : decode cX12_price 21 = .ok (.iconst 0, 1) := by decide +kernel
theorem dX12_price_22 : decode cX12_price 22 = .ok (.ireturn, 1) := by decide +kernel
theorem dX12_price_23 : decode cX12_price 23 = .ok (.aload_n 0, 1) := by decide +kernel
theorem dX12_price_24 : decode cX12_price 24 = .ok (.getfield 92, 3) := by decide +kernel
theorem dX12_price_27 : decode cX12_price 27 = .ok (.iload_n 1, 1) := by decide +kernel
theorem dX12_price_28 : decode cX12_price 28 = .ok (.iload_n 2, 1) := by decide +kernel
theorem dX12_price_29 : decode cX12_price 29 = .ok (.iastore, 1) := by decide +kernel
theorem dX12_price_30 : decode cX12_price 30 = .ok (.iconst 1, 1) := by decide +kernel
theorem dX12_price_31 : decode cX12_price 31 = .ok (.ireturn, 1) := by decide +kernel
theorem dX12_penceFor_0 : decode cX12_penceFor 0 = .ok (.aload_n 0, 1) := by decide +kernel
theorem dX12_penceFor_1 : decode cX12_penceFor 1 = .ok (.getfield 25, 3) := by decide +kernel
theorem dX12_penceFor_4 : decode cX12_penceFor 4 = .ok (.iload_n 1, 1) := by decide +kernel
theorem dX12_penceFor_5 : decode cX12_penceFor 5 = .ok (.iaload, 1) := by decide +kernel
theorem dX12_penceFor_6 : decode cX12_penceFor 6 = .ok (.istore_n 3, 1) := by decide +kernel
theorem dX12_penceFor_7 : decode cX12_penceFor 7 = .ok (.iconst 0, 1) := by decide +kernel
theorem dX12_penceFor_8 : decode cX12_penceFor 8 = .ok (.istore 4, 2) := by decide +kernel
theorem dX12_penceFor_10 : decode cX12_penceFor 10 = .ok (.iconst 0, 1) := by decide +kernel
theorem dX12_penceFor_11 : decode cX12_penceFor 11 = .ok (.istore 5, 2) := by decide +kernel
theorem dX12_penceFor_13 : decode cX12_penceFor 13 = .ok (.iload 5, 2) := by decide +kernel
theorem dX12_penceFor_15 : decode cX12_penceFor 15 = .ok (.iload_n 1, 1) := by decide +kernel
theorem dX12_penceFor_16 : decode cX12_penceFor 16 = .ok (.if_icmp .ge 36, 3) := by decide +kernel
theorem dX12_penceFor_19 : decode cX12_penceFor 19 = .ok (.iload 4, 2) := by decide +kernel
theorem dX12_penceFor_21 : decode cX12_penceFor 21 = .ok (.aload_n 0, 1) := by decide +kernel
theorem dX12_penceFor_22 : decode cX12_penceFor 22 = .ok (.getfield 25, 3) := by decide +kernel
theorem dX12_penceFor_25 : decode cX12_penceFor 25 = .ok (.iload 5, 2) := by decide +kernel
theorem dX12_penceFor_27 : decode cX12_penceFor 27 = .ok (.iaload, 1) := by decide +kernel
theorem dX12_penceFor_28 : decode cX12_penceFor 28 = .ok (.iload_n 3, 1) := by decide +kernel
theorem dX12_penceFor_29 : decode cX12_penceFor 29 = .ok (.if_icmp .ne 13, 3) := by decide +kernel
theorem dX12_penceFor_32 : decode cX12_penceFor 32 = .ok (.aload_n 0, 1) := by decide +kernel
theorem dX12_penceFor_33 : decode cX12_penceFor 33 = .ok (.getfield 31, 3) := by decide +kernel
theorem dX12_penceFor_36 : decode cX12_penceFor 36 = .ok (.iload 5, 2) := by decide +kernel
theorem dX12_penceFor_38 : decode cX12_penceFor 38 = .ok (.iaload, 1) := by decide +kernel
theorem dX12_penceFor_39 : decode cX12_penceFor 39 = .ok (.goto 4, 3) := by decide +kernel
theorem dX12_penceFor_42 : decode cX12_penceFor 42 = .ok (.iconst 0, 1) := by decide +kernel
theorem dX12_penceFor_43 : decode cX12_penceFor 43 = .ok (.iadd, 1) := by decide +kernel
theorem dX12_penceFor_44 : decode cX12_penceFor 44 = .ok (.istore 4, 2) := by decide +kernel
theorem dX12_penceFor_46 : decode cX12_penceFor 46 = .ok (.iinc 5 1, 3) := by decide +kernel
theorem dX12_penceFor_49 : decode cX12_penceFor 49 = .ok (.goto (-36), 3) := by decide +kernel
theorem dX12_penceFor_52 : decode cX12_penceFor 52 = .ok (.aload_n 0, 1) := by decide +kernel
theorem dX12_penceFor_53 : decode cX12_penceFor 53 = .ok (.getfield 89, 3) := by decide +kernel
theorem dX12_penceFor_56 : decode cX12_penceFor 56 = .ok (.iconst 0, 1) := by decide +kernel
theorem dX12_penceFor_57 : decode cX12_penceFor 57 = .ok (.aload_n 0, 1) := by decide +kernel
theorem dX12_penceFor_58 : decode cX12_penceFor 58 = .ok (.getfield 31, 3) := by decide +kernel
theorem dX12_penceFor_61 : decode cX12_penceFor 61 = .ok (.iload_n 1, 1) := by decide +kernel
theorem dX12_penceFor_62 : decode cX12_penceFor 62 = .ok (.iaload, 1) := by decide +kernel
theorem dX12_penceFor_63 : decode cX12_penceFor 63 = .ok (.iastore, 1) := by decide +kernel
theorem dX12_penceFor_64 : decode cX12_penceFor 64 = .ok (.aload_n 0, 1) := by decide +kernel
theorem dX12_penceFor_65 : decode cX12_penceFor 65 = .ok (.getfield 89, 3) := by decide +kernel
theorem dX12_penceFor_68 : decode cX12_penceFor 68 = .ok (.iconst 1, 1) := by decide +kernel
theorem dX12_penceFor_69 : decode cX12_penceFor 69 = .ok (.aload_n 0, 1) := by decide +kernel
theorem dX12_penceFor_70 : decode cX12_penceFor 70 = .ok (.getfield 34, 3) := by decide +kernel
theorem dX12_penceFor_73 : decode cX12_penceFor 73 = .ok (.iload_n 1, 1) := by decide +kernel
theorem dX12_penceFor_74 : decode cX12_penceFor 74 = .ok (.iaload, 1) := by decide +kernel
theorem dX12_penceFor_75 : decode cX12_penceFor 75 = .ok (.iastore, 1) := by decide +kernel
theorem dX12_penceFor_76 : decode cX12_penceFor 76 = .ok (.aload_n 0, 1) := by decide +kernel
theorem dX12_penceFor_77 : decode cX12_penceFor 77 = .ok (.getfield 89, 3) := by decide +kernel
theorem dX12_penceFor_80 : decode cX12_penceFor 80 = .ok (.iconst 2, 1) := by decide +kernel
theorem dX12_penceFor_81 : decode cX12_penceFor 81 = .ok (.aload_n 0, 1) := by decide +kernel
theorem dX12_penceFor_82 : decode cX12_penceFor 82 = .ok (.getfield 37, 3) := by decide +kernel
theorem dX12_penceFor_85 : decode cX12_penceFor 85 = .ok (.iload_n 1, 1) := by decide +kernel
theorem dX12_penceFor_86 : decode cX12_penceFor 86 = .ok (.iaload, 1) := by decide +kernel
theorem dX12_penceFor_87 : decode cX12_penceFor 87 = .ok (.iastore, 1) := by decide +kernel
theorem dX12_penceFor_88 : decode cX12_penceFor 88 = .ok (.aload_n 0, 1) := by decide +kernel
theorem dX12_penceFor_89 : decode cX12_penceFor 89 = .ok (.getfield 89, 3) := by decide +kernel
theorem dX12_penceFor_92 : decode cX12_penceFor 92 = .ok (.iconst 3, 1) := by decide +kernel
theorem dX12_penceFor_93 : decode cX12_penceFor 93 = .ok (.aload_n 0, 1) := by decide +kernel
theorem dX12_penceFor_94 : decode cX12_penceFor 94 = .ok (.getfield 28, 3) := by decide +kernel
theorem dX12_penceFor_97 : decode cX12_penceFor 97 = .ok (.iload_n 1, 1) := by decide +kernel
theorem dX12_penceFor_98 : decode cX12_penceFor 98 = .ok (.iaload, 1) := by decide +kernel
theorem dX12_penceFor_99 : decode cX12_penceFor 99 = .ok (.iastore, 1) := by decide +kernel
theorem dX12_penceFor_100 : decode cX12_penceFor 100 = .ok (.aload_n 0, 1) := by decide +kernel
theorem dX12_penceFor_101 : decode cX12_penceFor 101 = .ok (.getfield 89, 3) := by decide +kernel
theorem dX12_penceFor_104 : decode cX12_penceFor 104 = .ok (.iconst 4, 1) := by decide +kernel
theorem dX12_penceFor_105 : decode cX12_penceFor 105 = .ok (.aload_n 0, 1) := by decide +kernel
theorem dX12_penceFor_106 : decode cX12_penceFor 106 = .ok (.getfield 28, 3) := by decide +kernel
theorem dX12_penceFor_109 : decode cX12_penceFor 109 = .ok (.iload_n 1, 1) := by decide +kernel
theorem dX12_penceFor_110 : decode cX12_penceFor 110 = .ok (.iaload, 1) := by decide +kernel
theorem dX12_penceFor_111 : decode cX12_penceFor 111 = .ok (.bipush 7, 2) := by decide +kernel
theorem dX12_penceFor_113 : decode cX12_penceFor 113 = .ok (.idiv, 1) := by decide +kernel
theorem dX12_penceFor_114 : decode cX12_penceFor 114 = .ok (.iastore, 1) := by decide +kernel
theorem dX12_penceFor_115 : decode cX12_penceFor 115 = .ok (.aload_n 0, 1) := by decide +kernel
theorem dX12_penceFor_116 : decode cX12_penceFor 116 = .ok (.getfield 89, 3) := by decide +kernel
theorem dX12_penceFor_119 : decode cX12_penceFor 119 = .ok (.iconst 5, 1) := by decide +kernel
theorem dX12_penceFor_120 : decode cX12_penceFor 120 = .ok (.aload_n 0, 1) := by decide +kernel
theorem dX12_penceFor_121 : decode cX12_penceFor 121 = .ok (.getfield 28, 3) := by decide +kernel
theorem dX12_penceFor_124 : decode cX12_penceFor 124 = .ok (.iload_n 1, 1) := by decide +kernel
theorem dX12_penceFor_125 : decode cX12_penceFor 125 = .ok (.iaload, 1) := by decide +kernel
theorem dX12_penceFor_126 : decode cX12_penceFor 126 = .ok (.bipush 7, 2) := by decide +kernel
theorem dX12_penceFor_128 : decode cX12_penceFor 128 = .ok (.irem, 1) := by decide +kernel
theorem dX12_penceFor_129 : decode cX12_penceFor 129 = .ok (.iastore, 1) := by decide +kernel
theorem dX12_penceFor_130 : decode cX12_penceFor 130 = .ok (.aload_n 0, 1) := by decide +kernel
theorem dX12_penceFor_131 : decode cX12_penceFor 131 = .ok (.getfield 89, 3) := by decide +kernel
theorem dX12_penceFor_134 : decode cX12_penceFor 134 = .ok (.bipush 6, 2) := by decide +kernel
theorem dX12_penceFor_136 : decode cX12_penceFor 136 = .ok (.iload_n 3, 1) := by decide +kernel
theorem dX12_penceFor_137 : decode cX12_penceFor 137 = .ok (.iastore, 1) := by decide +kernel
theorem dX12_penceFor_138 : decode cX12_penceFor 138 = .ok (.aload_n 0, 1) := by decide +kernel
theorem dX12_penceFor_139 : decode cX12_penceFor 139 = .ok (.getfield 89, 3) := by decide +kernel
theorem dX12_penceFor_142 : decode cX12_penceFor 142 = .ok (.bipush 7, 2) := by decide +kernel
theorem dX12_penceFor_144 : decode cX12_penceFor 144 = .ok (.aload_n 0, 1) := by decide +kernel
theorem dX12_penceFor_145 : decode cX12_penceFor 145 = .ok (.getfield 43, 3) := by decide +kernel
theorem dX12_penceFor_148 : decode cX12_penceFor 148 = .ok (.iload_n 1, 1) := by decide +kernel
theorem dX12_penceFor_149 : decode cX12_penceFor 149 = .ok (.iaload, 1) := by decide +kernel
theorem dX12_penceFor_150 : decode cX12_penceFor 150 = .ok (.iastore, 1) := by decide +kernel
theorem dX12_penceFor_151 : decode cX12_penceFor 151 = .ok (.aload_n 0, 1) := by decide +kernel
theorem dX12_penceFor_152 : decode cX12_penceFor 152 = .ok (.getfield 89, 3) := by decide +kernel
theorem dX12_penceFor_155 : decode cX12_penceFor 155 = .ok (.bipush 8, 2) := by decide +kernel
theorem dX12_penceFor_157 : decode cX12_penceFor 157 = .ok (.iload 4, 2) := by decide +kernel
theorem dX12_penceFor_159 : decode cX12_penceFor 159 = .ok (.iastore, 1) := by decide +kernel
theorem dX12_penceFor_160 : decode cX12_penceFor 160 = .ok (.aload_n 0, 1) := by decide +kernel
theorem dX12_penceFor_161 : decode cX12_penceFor 161 = .ok (.getfield 89, 3) := by decide +kernel
theorem dX12_penceFor_164 : decode cX12_penceFor 164 = .ok (.bipush 9, 2) := by decide +kernel
theorem dX12_penceFor_166 : decode cX12_penceFor 166 = .ok (.aload_n 0, 1) := by decide +kernel
theorem dX12_penceFor_167 : decode cX12_penceFor 167 = .ok (.getfield 92, 3) := by decide +kernel
theorem dX12_penceFor_170 : decode cX12_penceFor 170 = .ok (.aload_n 0, 1) := by decide +kernel
theorem dX12_penceFor_171 : decode cX12_penceFor 171 = .ok (.getfield 28, 3) := by decide +kernel
theorem dX12_penceFor_174 : decode cX12_penceFor 174 = .ok (.iload_n 1, 1) := by decide +kernel
theorem dX12_penceFor_175 : decode cX12_penceFor 175 = .ok (.iaload, 1) := by decide +kernel
theorem dX12_penceFor_176 : decode cX12_penceFor 176 = .ok (.bipush 7, 2) := by decide +kernel
theorem dX12_penceFor_178 : decode cX12_penceFor 178 = .ok (.idiv, 1) := by decide +kernel
theorem dX12_penceFor_179 : decode cX12_penceFor 179 = .ok (.iaload, 1) := by decide +kernel
theorem dX12_penceFor_180 : decode cX12_penceFor 180 = .ok (.iastore, 1) := by decide +kernel
theorem dX12_penceFor_181 : decode cX12_penceFor 181 = .ok (.aload_n 0, 1) := by decide +kernel
theorem dX12_penceFor_182 : decode cX12_penceFor 182 = .ok (.getfield 89, 3) := by decide +kernel
theorem dX12_penceFor_185 : decode cX12_penceFor 185 = .ok (.bipush 10, 2) := by decide +kernel
theorem dX12_penceFor_187 : decode cX12_penceFor 187 = .ok (.iconst 0, 1) := by decide +kernel
theorem dX12_penceFor_188 : decode cX12_penceFor 188 = .ok (.iastore, 1) := by decide +kernel
theorem dX12_penceFor_189 : decode cX12_penceFor 189 = .ok (.bipush 12, 2) := by decide +kernel
theorem dX12_penceFor_191 : decode cX12_penceFor 191 = .ok (.iload_n 2, 1) := by decide +kernel
theorem dX12_penceFor_192 : decode cX12_penceFor 192 = .ok (.imul, 1) := by decide +kernel
theorem dX12_penceFor_193 : decode cX12_penceFor 193 = .ok (.istore 5, 2) := by decide +kernel
theorem dX12_penceFor_195 : decode cX12_penceFor 195 = .ok (.iload 5, 2) := by decide +kernel
theorem dX12_penceFor_197 : decode cX12_penceFor 197 = .ok (.bipush 12, 2) := by decide +kernel
theorem dX12_penceFor_199 : decode cX12_penceFor 199 = .ok (.iload_n 2, 1) := by decide +kernel
theorem dX12_penceFor_200 : decode cX12_penceFor 200 = .ok (.imul, 1) := by decide +kernel
theorem dX12_penceFor_201 : decode cX12_penceFor 201 = .ok (.aload_n 0, 1) := by decide +kernel
theorem dX12_penceFor_202 : decode cX12_penceFor 202 = .ok (.getfield 74, 3) := by decide +kernel
theorem dX12_penceFor_205 : decode cX12_penceFor 205 = .ok (.iload_n 2, 1) := by decide +kernel
theorem dX12_penceFor_206 : decode cX12_penceFor 206 = .ok (.iaload, 1) := by decide +kernel
theorem dX12_penceFor_207 : decode cX12_penceFor 207 = .ok (.iadd, 1) := by decide +kernel
theorem dX12_penceFor_208 : decode cX12_penceFor 208 = .ok (.if_icmp .ge 80, 3) := by decide +kernel
theorem dX12_penceFor_211 : decode cX12_penceFor 211 = .ok (.aload_n 0, 1) := by decide +kernel
theorem dX12_penceFor_212 : decode cX12_penceFor 212 = .ok (.aload_n 0, 1) := by decide +kernel
theorem dX12_penceFor_213 : decode cX12_penceFor 213 = .ok (.getfield 80, 3) := by decide +kernel
theorem dX12_penceFor_216 : decode cX12_penceFor 216 = .ok (.iload 5, 2) := by decide +kernel
theorem dX12_penceFor_218 : decode cX12_penceFor 218 = .ok (.iaload, 1) := by decide +kernel
theorem dX12_penceFor_219 : decode cX12_penceFor 219 = .ok (.aload_n 0, 1) := by decide +kernel
theorem dX12_penceFor_220 : decode cX12_penceFor 220 = .ok (.getfield 83, 3) := by decide +kernel
theorem dX12_penceFor_223 : decode cX12_penceFor 223 = .ok (.iload 5, 2) := by decide +kernel
theorem dX12_penceFor_225 : decode cX12_penceFor 225 = .ok (.iaload, 1) := by decide +kernel
theorem dX12_penceFor_226 : decode cX12_penceFor 226 = .ok (.invokevirtual 331, 3) := by decide +kernel
theorem dX12_penceFor_229 : decode cX12_penceFor 229 = .ok (.iconst 1, 1) := by decide +kernel
theorem dX12_penceFor_230 : decode cX12_penceFor 230 = .ok (.if_icmp .eq 6, 3) := by decide +kernel
theorem dX12_penceFor_233 : decode cX12_penceFor 233 = .ok (.goto 49, 3) := by decide +kernel
theorem dX12_penceFor_236 : decode cX12_penceFor 236 = .ok (.aload_n 0, 1) := by decide +kernel
theorem dX12_penceFor_237 : decode cX12_penceFor 237 = .ok (.aload_n 0, 1) := by decide +kernel
theorem dX12_penceFor_238 : decode cX12_penceFor 238 = .ok (.getfield 77, 3) := by decide +kernel
theorem dX12_penceFor_241 : decode cX12_penceFor 241 = .ok (.iload 5, 2) := by decide +kernel
theorem dX12_penceFor_243 : decode cX12_penceFor 243 = .ok (.iaload, 1) := by decide +kernel
theorem dX12_penceFor_244 : decode cX12_penceFor 244 = .ok (.aload_n 0, 1) := by decide +kernel
theorem dX12_penceFor_245 : decode cX12_penceFor 245 = .ok (.getfield 80, 3) := by decide +kernel
theorem dX12_penceFor_248 : decode cX12_penceFor 248 = .ok (.iload 5, 2) := by decide +kernel
theorem dX12_penceFor_250 : decode cX12_penceFor 250 = .ok (.iaload, 1) := by decide +kernel
theorem dX12_penceFor_251 : decode cX12_penceFor 251 = .ok (.invokevirtual 331, 3) := by decide +kernel
theorem dX12_penceFor_254 : decode cX12_penceFor 254 = .ok (.istore 6, 2) := by decide +kernel
theorem dX12_penceFor_256 : decode cX12_penceFor 256 = .ok (.iload 6, 2) := by decide +kernel
theorem dX12_penceFor_258 : decode cX12_penceFor 258 = .ok (.ifCond .ge 7, 3) := by decide +kernel
theorem dX12_penceFor_261 : decode cX12_penceFor 261 = .ok (.iconst 0, 1) := by decide +kernel
theorem dX12_penceFor_262 : decode cX12_penceFor 262 = .ok (.goto 19, 3) := by decide +kernel
theorem dX12_penceFor_265 : decode cX12_penceFor 265 = .ok (.iload 6, 2) := by decide +kernel
theorem dX12_penceFor_267 : decode cX12_penceFor 267 = .ok (.ldc_w 334, 3) := by decide +kernel
theorem dX12_penceFor_270 : decode cX12_penceFor 270 = .ok (.if_icmp .le 9, 3) := by decide +kernel
theorem dX12_penceFor_273 : decode cX12_penceFor 273 = .ok (.ldc_w 334, 3) := by decide +kernel
theorem dX12_penceFor_276 : decode cX12_penceFor 276 = .ok (.goto 5, 3) := by decide +kernel
theorem dX12_penceFor_279 : decode cX12_penceFor 279 = .ok (.iload 6, 2) := by decide +kernel
theorem dX12_penceFor_281 : decode cX12_penceFor 281 = .ok (.ireturn, 1) := by decide +kernel
theorem dX12_penceFor_282 : decode cX12_penceFor 282 = .ok (.iinc 5 1, 3) := by decide +kernel
theorem dX12_penceFor_285 : decode cX12_penceFor 285 = .ok (.goto (-90), 3) := by decide +kernel
theorem dX12_penceFor_288 : decode cX12_penceFor 288 = .ok (.iconst 0, 1) := by decide +kernel
theorem dX12_penceFor_289 : decode cX12_penceFor 289 = .ok (.ireturn, 1) := by decide +kernel
theorem dX12_pence_0 : decode cX12_pence 0 = .ok (.aload_n 0, 1) := by decide +kernel
theorem dX12_pence_1 : decode cX12_pence 1 = .ok (.iload_n 1, 1) := by decide +kernel
theorem dX12_pence_2 : decode cX12_pence 2 = .ok (.invokevirtual 335, 3) := by decide +kernel
theorem dX12_pence_5 : decode cX12_pence 5 = .ok (.ifCond .eq 17, 3) := by decide +kernel
theorem dX12_pence_8 : decode cX12_pence 8 = .ok (.aload_n 0, 1) := by decide +kernel
theorem dX12_pence_9 : decode cX12_pence 9 = .ok (.iload_n 1, 1) := by decide +kernel
theorem dX12_pence_10 : decode cX12_pence 10 = .ok (.aload_n 0, 1) := by decide +kernel
theorem dX12_pence_11 : decode cX12_pence 11 = .ok (.getfield 25, 3) := by decide +kernel
theorem dX12_pence_14 : decode cX12_pence 14 = .ok (.iload_n 1, 1) := by decide +kernel
theorem dX12_pence_15 : decode cX12_pence 15 = .ok (.iaload, 1) := by decide +kernel
theorem dX12_pence_16 : decode cX12_pence 16 = .ok (.invokevirtual 338, 3) := by decide +kernel
theorem dX12_pence_19 : decode cX12_pence 19 = .ok (.goto 4, 3) := by decide +kernel
theorem dX12_pence_22 : decode cX12_pence 22 = .ok (.iconst (-1), 1) := by decide +kernel
theorem dX12_pence_23 : decode cX12_pence 23 = .ok (.ireturn, 1) := by decide +kernel
theorem dX12_paid_0 : decode cX12_paid 0 = .ok (.aload_n 0, 1) := by decide +kernel
theorem dX12_paid_1 : decode cX12_paid 1 = .ok (.iload_n 1, 1) := by decide +kernel
theorem dX12_paid_2 : decode cX12_paid 2 = .ok (.invokevirtual 218, 3) := by decide +kernel
theorem dX12_paid_5 : decode cX12_paid 5 = .ok (.ifCond .eq 10, 3) := by decide +kernel
theorem dX12_paid_8 : decode cX12_paid 8 = .ok (.iload_n 2, 1) := by decide +kernel
theorem dX12_paid_9 : decode cX12_paid 9 = .ok (.invokestatic 341, 3) := by decide +kernel
theorem dX12_paid_12 : decode cX12_paid 12 = .ok (.ifCond .ne 5, 3) := by decide +kernel
theorem dX12_paid_15 : decode cX12_paid 15 = .ok (.iconst (-1), 1) := by decide +kernel
theorem dX12_paid_16 : decode cX12_paid 16 = .ok (.ireturn, 1) := by decide +kernel
theorem dX12_paid_17 : decode cX12_paid 17 = .ok (.iconst 0, 1) := by decide +kernel
theorem dX12_paid_18 : decode cX12_paid 18 = .ok (.istore_n 3, 1) := by decide +kernel
theorem dX12_paid_19 : decode cX12_paid 19 = .ok (.iconst 0, 1) := by decide +kernel
theorem dX12_paid_20 : decode cX12_paid 20 = .ok (.istore 4, 2) := by decide +kernel
theorem dX12_paid_22 : decode cX12_paid 22 = .ok (.iload 4, 2) := by decide +kernel
theorem dX12_paid_24 : decode cX12_paid 24 = .ok (.aload_n 0, 1) := by decide +kernel
theorem dX12_paid_25 : decode cX12_paid 25 = .ok (.getfield 208, 3) := by decide +kernel
theorem dX12_paid_28 : decode cX12_paid 28 = .ok (.if_icmp .ge 45, 3) := by decide +kernel
theorem dX12_paid_31 : decode cX12_paid 31 = .ok (.iload_n 3, 1) := by decide +kernel
theorem dX12_paid_32 : decode cX12_paid 32 = .ok (.aload_n 0, 1) := by decide +kernel
theorem dX12_paid_33 : decode cX12_paid 33 = .ok (.getfield 25, 3) := by decide +kernel
theorem dX12_paid_36 : decode cX12_paid 36 = .ok (.iload 4, 2) := by decide +kernel
theorem dX12_paid_38 : decode cX12_paid 38 = .ok (.iaload, 1) := by decide +kernel
theorem dX12_paid_39 : decode cX12_paid 39 = .ok (.iload_n 1, 1) := by decide +kernel
theorem dX12_paid_40 : decode cX12_paid 40 = .ok (.if_icmp .ne 24, 3) := by decide +kernel
theorem dX12_paid_43 : decode cX12_paid 43 = .ok (.aload_n 0, 1) := by decide +kernel
theorem dX12_paid_44 : decode cX12_paid 44 = .ok (.getfield 40, 3) := by decide +kernel
theorem dX12_paid_47 : decode cX12_paid 47 = .ok (.iload 4, 2) := by decide +kernel
theorem dX12_paid_49 : decode cX12_paid 49 = .ok (.iaload, 1) := by decide +kernel
theorem dX12_paid_50 : decode cX12_paid 50 = .ok (.iload_n 2, 1) := by decide +kernel
theorem dX12_paid_51 : decode cX12_paid 51 = .ok (.if_icmp .gt 13, 3) := by decide +kernel
theorem dX12_paid_54 : decode cX12_paid 54 = .ok (.aload_n 0, 1) := by decide +kernel
theorem dX12_paid_55 : decode cX12_paid 55 = .ok (.iload 4, 2) := by decide +kernel
theorem dX12_paid_57 : decode cX12_paid 57 = .ok (.iload_n 1, 1) := by decide +kernel
theorem dX12_paid_58 : decode cX12_paid 58 = .ok (.invokevirtual 338, 3) := by decide +kernel
theorem dX12_paid_61 : decode cX12_paid 61 = .ok (.goto 4, 3) := by decide +kernel
theorem dX12_paid_64 : decode cX12_paid 64 = .ok (.iconst 0, 1) := by decide +kernel
theorem dX12_paid_65 : decode cX12_paid 65 = .ok (.iadd, 1) := by decide +kernel
theorem dX12_paid_66 : decode cX12_paid 66 = .ok (.istore_n 3, 1) := by decide +kernel
theorem dX12_paid_67 : decode cX12_paid 67 = .ok (.iinc 4 1, 3) := by decide +kernel
theorem dX12_paid_70 : decode cX12_paid 70 = .ok (.goto (-48), 3) := by decide +kernel
theorem dX12_paid_73 : decode cX12_paid 73 = .ok (.iload_n 3, 1) := by decide +kernel
theorem dX12_paid_74 : decode cX12_paid 74 = .ok (.ireturn, 1) := by decide +kernel
theorem dX12_asIf_0 : decode cX12_asIf 0 = .ok (.aload_n 0, 1) := by decide +kernel
theorem dX12_asIf_1 : decode cX12_asIf 1 = .ok (.iload_n 1, 1) := by decide +kernel
theorem dX12_asIf_2 : decode cX12_asIf 2 = .ok (.invokevirtual 218, 3) := by decide +kernel
theorem dX12_asIf_5 : decode cX12_asIf 5 = .ok (.ifCond .eq 11, 3) := by decide +kernel
theorem dX12_asIf_8 : decode cX12_asIf 8 = .ok (.aload_n 0, 1) := by decide +kernel
theorem dX12_asIf_9 : decode cX12_asIf 9 = .ok (.iload_n 2, 1) := by decide +kernel
theorem dX12_asIf_10 : decode cX12_asIf 10 = .ok (.invokevirtual 218, 3) := by decide +kernel
theorem dX12_asIf_13 : decode cX12_asIf 13 = .ok (.ifCond .ne 5, 3) := by decide +kernel
theorem dX12_asIf_16 : decode cX12_asIf 16 = .ok (.iconst (-1), 1) := by decide +kernel
theorem dX12_asIf_17 : decode cX12_asIf 17 = .ok (.ireturn, 1) := by decide +kernel
theorem dX12_asIf_18 : decode cX12_asIf 18 = .ok (.iconst 0, 1) := by decide +kernel
theorem dX12_asIf_19 : decode cX12_asIf 19 = .ok (.istore_n 3, 1) := by decide +kernel
theorem dX12_asIf_20 : decode cX12_asIf 20 = .ok (.iconst 0, 1) := by decide +kernel
theorem dX12_asIf_21 : decode cX12_asIf 21 = .ok (.istore 4, 2) := by decide +kernel
theorem dX12_asIf_23 : decode cX12_asIf 23 = .ok (.iload 4, 2) := by decide +kernel
theorem dX12_asIf_25 : decode cX12_asIf 25 = .ok (.aload_n 0, 1) := by decide +kernel
theorem dX12_asIf_26 : decode cX12_asIf 26 = .ok (.getfield 208, 3) := by decide +kernel
theorem dX12_asIf_29 : decode cX12_asIf 29 = .ok (.if_icmp .ge 34, 3) := by decide +kernel
theorem dX12_asIf_32 : decode cX12_asIf 32 = .ok (.iload_n 3, 1) := by decide +kernel
theorem dX12_asIf_33 : decode cX12_asIf 33 = .ok (.aload_n 0, 1) := by decide +kernel
theorem dX12_asIf_34 : decode cX12_asIf 34 = .ok (.getfield 25, 3) := by decide +kernel
theorem dX12_asIf_37 : decode cX12_asIf 37 = .ok (.iload 4, 2) := by decide +kernel
theorem dX12_asIf_39 : decode cX12_asIf 39 = .ok (.iaload, 1) := by decide +kernel
theorem dX12_asIf_40 : decode cX12_asIf 40 = .ok (.iload_n 1, 1) := by decide +kernel
theorem dX12_asIf_41 : decode cX12_asIf 41 = .ok (.if_icmp .ne 13, 3) := by decide +kernel
theorem dX12_asIf_44 : decode cX12_asIf 44 = .ok (.aload_n 0, 1) := by decide +kernel
theorem dX12_asIf_45 : decode cX12_asIf 45 = .ok (.iload 4, 2) := by decide +kernel
theorem dX12_asIf_47 : decode cX12_asIf 47 = .ok (.iload_n 2, 1) := by decide +kernel
theorem dX12_asIf_48 : decode cX12_asIf 48 = .ok (.invokevirtual 338, 3) := by decide +kernel
theorem dX12_asIf_51 : decode cX12_asIf 51 = .ok (.goto 4, 3) := by decide +kernel
theorem dX12_asIf_54 : decode cX12_asIf 54 = .ok (.iconst 0, 1) := by decide +kernel
theorem dX12_asIf_55 : decode cX12_asIf 55 = .ok (.iadd, 1) := by decide +kernel
theorem dX12_asIf_56 : decode cX12_asIf 56 = .ok (.istore_n 3, 1) := by decide +kernel
theorem dX12_asIf_57 : decode cX12_asIf 57 = .ok (.iinc 4 1, 3) := by decide +kernel
theorem dX12_asIf_60 : decode cX12_asIf 60 = .ok (.goto (-37), 3) := by decide +kernel
theorem dX12_asIf_63 : decode cX12_asIf 63 = .ok (.iload_n 3, 1) := by decide +kernel
theorem dX12_asIf_64 : decode cX12_asIf 64 = .ok (.ireturn, 1) := by decide +kernel
theorem dX12_missing_0 : decode cX12_missing 0 = .ok (.aload_n 0, 1) := by decide +kernel
theorem dX12_missing_1 : decode cX12_missing 1 = .ok (.iload_n 1, 1) := by decide +kernel
theorem dX12_missing_2 : decode cX12_missing 2 = .ok (.invokevirtual 335, 3) := by decide +kernel
theorem dX12_missing_5 : decode cX12_missing 5 = .ok (.ifCond .eq 12, 3) := by decide +kernel
theorem dX12_missing_8 : decode cX12_missing 8 = .ok (.aload_n 0, 1) := by decide +kernel
theorem dX12_missing_9 : decode cX12_missing 9 = .ok (.getfield 43, 3) := by decide +kernel
theorem dX12_missing_12 : decode cX12_missing 12 = .ok (.iload_n 1, 1) := by decide +kernel
theorem dX12_missing_13 : decode cX12_missing 13 = .ok (.iaload, 1) := by decide +kernel
theorem dX12_missing_14 : decode cX12_missing 14 = .ok (.goto 4, 3) := by decide +kernel
theorem dX12_missing_17 : decode cX12_missing 17 = .ok (.iconst (-1), 1) := by decide +kernel
theorem dX12_missing_18 : decode cX12_missing 18 = .ok (.ireturn, 1) := by decide +kernel
theorem dX12_choose_0 : decode cX12_choose 0 = .ok (.iload_n 1, 1) := by decide +kernel
theorem dX12_choose_1 : decode cX12_choose 1 = .ok (.ifCond .lt 8, 3) := by decide +kernel
theorem dX12_choose_4 : decode cX12_choose 4 = .ok (.iload_n 1, 1) := by decide +kernel
theorem dX12_choose_5 : decode cX12_choose 5 = .ok (.iload_n 0, 1) := by decide +kernel
theorem dX12_choose_6 : decode cX12_choose 6 = .ok (.if_icmp .le 5, 3) := by decide +kernel
theorem dX12_choose_9 : decode cX12_choose 9 = .ok (.lconst 0, 1) := by decide +kernel
theorem dX12_choose_10 : decode cX12_choose 10 = .ok (.lreturn, 1) := by decide +kernel
theorem dX12_choose_11 : decode cX12_choose 11 = .ok (.lconst 1, 1) := by decide +kernel
theorem dX12_choose_12 : decode cX12_choose 12 = .ok (.lstore_n 2, 1) := by decide +kernel
theorem dX12_choose_13 : decode cX12_choose 13 = .ok (.iconst 1, 1) := by decide +kernel
theorem dX12_choose_14 : decode cX12_choose 14 = .ok (.istore 4, 2) := by decide +kernel
theorem dX12_choose_16 : decode cX12_choose 16 = .ok (.iload 4, 2) := by decide +kernel
theorem dX12_choose_18 : decode cX12_choose 18 = .ok (.iload_n 1, 1) := by decide +kernel
theorem dX12_choose_19 : decode cX12_choose 19 = .ok (.if_icmp .gt 23, 3) := by decide +kernel
theorem dX12_choose_22 : decode cX12_choose 22 = .ok (.lload_n 2, 1) := by decide +kernel
theorem dX12_choose_23 : decode cX12_choose 23 = .ok (.iload_n 0, 1) := by decide +kernel
theorem dX12_choose_24 : decode cX12_choose 24 = .ok (.iload_n 1, 1) := by decide +kernel
theorem dX12_choose_25 : decode cX12_choose 25 = .ok (.isub, 1) := by decide +kernel
theorem dX12_choose_26 : decode cX12_choose 26 = .ok (.iload 4, 2) := by decide +kernel
theorem dX12_choose_28 : decode cX12_choose 28 = .ok (.iadd, 1) := by decide +kernel
theorem dX12_choose_29 : decode cX12_choose 29 = .ok (.i2l, 1) := by decide +kernel
theorem dX12_choose_30 : decode cX12_choose 30 = .ok (.lmul, 1) := by decide +kernel
theorem dX12_choose_31 : decode cX12_choose 31 = .ok (.iload 4, 2) := by decide +kernel
theorem dX12_choose_33 : decode cX12_choose 33 = .ok (.i2l, 1) := by decide +kernel
theorem dX12_choose_34 : decode cX12_choose 34 = .ok (.ldiv, 1) := by decide +kernel
theorem dX12_choose_35 : decode cX12_choose 35 = .ok (.lstore_n 2, 1) := by decide +kernel
theorem dX12_choose_36 : decode cX12_choose 36 = .ok (.iinc 4 1, 3) := by decide +kernel
theorem dX12_choose_39 : decode cX12_choose 39 = .ok (.goto (-23), 3) := by decide +kernel
theorem dX12_choose_42 : decode cX12_choose 42 = .ok (.lload_n 2, 1) := by decide +kernel
theorem dX12_choose_43 : decode cX12_choose 43 = .ok (.lreturn, 1) := by decide +kernel
theorem dX12_byLot_0 : decode cX12_byLot 0 = .ok (.iload 4, 2) := by decide +kernel
theorem dX12_byLot_2 : decode cX12_byLot 2 = .ok (.iconst 2, 1) := by decide +kernel
theorem dX12_byLot_3 : decode cX12_byLot 3 = .ok (.if_icmp .ne 6, 3) := by decide +kernel
theorem dX12_byLot_6 : decode cX12_byLot 6 = .ok (.iload_n 3, 1) := by decide +kernel
theorem dX12_byLot_7 : decode cX12_byLot 7 = .ok (.i2l, 1) := by decide +kernel
theorem dX12_byLot_8 : decode cX12_byLot 8 = .ok (.lreturn, 1) := by decide +kernel
theorem dX12_byLot_9 : decode cX12_byLot 9 = .ok (.lconst 0, 1) := by decide +kernel
theorem dX12_byLot_10 : decode cX12_byLot 10 = .ok (.lstore 5, 2) := by decide +kernel
theorem dX12_byLot_12 : decode cX12_byLot 12 = .ok (.iload_n 3, 1) := by decide +kernel
theorem dX12_byLot_13 : decode cX12_byLot 13 = .ok (.istore 7, 2) := by decide +kernel
theorem dX12_byLot_15 : decode cX12_byLot 15 = .ok (.iload 7, 2) := by decide +kernel
theorem dX12_byLot_17 : decode cX12_byLot 17 = .ok (.iload_n 2, 1) := by decide +kernel
theorem dX12_byLot_18 : decode cX12_byLot 18 = .ok (.if_icmp .gt 34, 3) := by decide +kernel
theorem dX12_byLot_21 : decode cX12_byLot 21 = .ok (.lload 5, 2) := by decide +kernel
theorem dX12_byLot_23 : decode cX12_byLot 23 = .ok (.iload_n 2, 1) := by decide +kernel
theorem dX12_byLot_24 : decode cX12_byLot 24 = .ok (.iload 7, 2) := by decide +kernel
theorem dX12_byLot_26 : decode cX12_byLot 26 = .ok (.invokestatic 344, 3) := by decide +kernel
theorem dX12_byLot_29 : decode cX12_byLot 29 = .ok (.aload_n 0, 1) := by decide +kernel
theorem dX12_byLot_30 : decode cX12_byLot 30 = .ok (.getfield 208, 3) := by decide +kernel
theorem dX12_byLot_33 : decode cX12_byLot 33 = .ok (.iload_n 2, 1) := by decide +kernel
theorem dX12_byLot_34 : decode cX12_byLot 34 = .ok (.isub, 1) := by decide +kernel
theorem dX12_byLot_35 : decode cX12_byLot 35 = .ok (.iload_n 1, 1) := by decide +kernel
theorem dX12_byLot_36 : decode cX12_byLot 36 = .ok (.iload 7, 2) := by decide +kernel
theorem dX12_byLot_38 : decode cX12_byLot 38 = .ok (.isub, 1) := by decide +kernel
theorem dX12_byLot_39 : decode cX12_byLot 39 = .ok (.invokestatic 344, 3) := by decide +kernel
theorem dX12_byLot_42 : decode cX12_byLot 42 = .ok (.lmul, 1) := by decide +kernel
theorem dX12_byLot_43 : decode cX12_byLot 43 = .ok (.ladd, 1) := by decide +kernel
theorem dX12_byLot_44 : decode cX12_byLot 44 = .ok (.lstore 5, 2) := by decide +kernel
theorem dX12_byLot_46 : decode cX12_byLot 46 = .ok (.iinc 7 1, 3) := by decide +kernel
theorem dX12_byLot_49 : decode cX12_byLot 49 = .ok (.goto (-34), 3) := by decide +kernel
theorem dX12_byLot_52 : decode cX12_byLot 52 = .ok (.aload_n 0, 1) := by decide +kernel
theorem dX12_byLot_53 : decode cX12_byLot 53 = .ok (.getfield 208, 3) := by decide +kernel
theorem dX12_byLot_56 : decode cX12_byLot 56 = .ok (.iload_n 1, 1) := by decide +kernel
theorem dX12_byLot_57 : decode cX12_byLot 57 = .ok (.invokestatic 344, 3) := by decide +kernel
theorem dX12_byLot_60 : decode cX12_byLot 60 = .ok (.lstore 7, 2) := by decide +kernel
theorem dX12_byLot_62 : decode cX12_byLot 62 = .ok (.lload 5, 2) := by decide +kernel
theorem dX12_byLot_64 : decode cX12_byLot 64 = .ok (.lstore 9, 2) := by decide +kernel
theorem dX12_byLot_66 : decode cX12_byLot 66 = .ok (.lload 7, 2) := by decide +kernel
theorem dX12_byLot_68 : decode cX12_byLot 68 = .ok (.lstore 11, 2) := by decide +kernel
theorem dX12_byLot_70 : decode cX12_byLot 70 = .ok (.lload 11, 2) := by decide +kernel
theorem dX12_byLot_72 : decode cX12_byLot 72 = .ok (.lconst 0, 1) := by decide +kernel
theorem dX12_byLot_73 : decode cX12_byLot 73 = .ok (.lcmp, 1) := by decide +kernel
theorem dX12_byLot_74 : decode cX12_byLot 74 = .ok (.ifCond .eq 21, 3) := by decide +kernel
theorem dX12_byLot_77 : decode cX12_byLot 77 = .ok (.lload 9, 2) := by decide +kernel
theorem dX12_byLot_79 : decode cX12_byLot 79 = .ok (.lload 11, 2) := by decide +kernel
theorem dX12_byLot_81 : decode cX12_byLot 81 = .ok (.lrem, 1) := by decide +kernel
theorem dX12_byLot_82 : decode cX12_byLot 82 = .ok (.lstore 13, 2) := by decide +kernel
theorem dX12_byLot_84 : decode cX12_byLot 84 = .ok (.lload 11, 2) := by decide +kernel
theorem dX12_byLot_86 : decode cX12_byLot 86 = .ok (.lstore 9, 2) := by decide +kernel
theorem dX12_byLot_88 : decode cX12_byLot 88 = .ok (.lload 13, 2) := by decide +kernel
theorem dX12_byLot_90 : decode cX12_byLot 90 = .ok (.lstore 11, 2) := by decide +kernel
theorem dX12_byLot_92 : decode cX12_byLot 92 = .ok (.goto (-22), 3) := by decide +kernel
theorem dX12_byLot_95 : decode cX12_byLot 95 = .ok (.iload 4, 2) := by decide +kernel
theorem dX12_byLot_97 : decode cX12_byLot 97 = .ok (.ifCond .ne 11, 3) := by decide +kernel
theorem dX12_byLot_100 : decode cX12_byLot 100 = .ok (.lload 5, 2) := by decide +kernel
theorem dX12_byLot_102 : decode cX12_byLot 102 = .ok (.lload 9, 2) := by decide +kernel
theorem dX12_byLot_104 : decode cX12_byLot 104 = .ok (.ldiv, 1) := by decide +kernel
theorem dX12_byLot_105 : decode cX12_byLot 105 = .ok (.goto 8, 3) := by decide +kernel
theorem dX12_byLot_108 : decode cX12_byLot 108 = .ok (.lload 7, 2) := by decide +kernel
theorem dX12_byLot_110 : decode cX12_byLot 110 = .ok (.lload 9, 2) := by decide +kernel
theorem dX12_byLot_112 : decode cX12_byLot 112 = .ok (.ldiv, 1) := by decide +kernel
theorem dX12_byLot_113 : decode cX12_byLot 113 = .ok (.lreturn, 1) := by decide +kernel
theorem dX12_lacking_0 : decode cX12_lacking 0 = .ok (.iconst 0, 1) := by decide +kernel
theorem dX12_lacking_1 : decode cX12_lacking 1 = .ok (.istore_n 1, 1) := by decide +kernel
theorem dX12_lacking_2 : decode cX12_lacking 2 = .ok (.iconst 0, 1) := by decide +kernel
theorem dX12_lacking_3 : decode cX12_lacking 3 = .ok (.istore_n 2, 1) := by decide +kernel
theorem dX12_lacking_4 : decode cX12_lacking 4 = .ok (.iload_n 2, 1) := by decide +kernel
theorem dX12_lacking_5 : decode cX12_lacking 5 = .ok (.aload_n 0, 1) := by decide +kernel
theorem dX12_lacking_6 : decode cX12_lacking 6 = .ok (.getfield 208, 3) := by decide +kernel
theorem dX12_lacking_9 : decode cX12_lacking 9 = .ok (.if_icmp .ge 26, 3) := by decide +kernel
theorem dX12_lacking_12 : decode cX12_lacking 12 = .ok (.iload_n 1, 1) := by decide +kernel
theorem dX12_lacking_13 : decode cX12_lacking 13 = .ok (.aload_n 0, 1) := by decide +kernel
theorem dX12_lacking_14 : decode cX12_lacking 14 = .ok (.getfield 43, 3) := by decide +kernel
theorem dX12_lacking_17 : decode cX12_lacking 17 = .ok (.iload_n 2, 1) := by decide +kernel
theorem dX12_lacking_18 : decode cX12_lacking 18 = .ok (.iaload, 1) := by decide +kernel
theorem dX12_lacking_19 : decode cX12_lacking 19 = .ok (.ifCond .le 7, 3) := by decide +kernel
theorem dX12_lacking_22 : decode cX12_lacking 22 = .ok (.iconst 1, 1) := by decide +kernel
theorem dX12_lacking_23 : decode cX12_lacking 23 = .ok (.goto 4, 3) := by decide +kernel
theorem dX12_lacking_26 : decode cX12_lacking 26 = .ok (.iconst 0, 1) := by decide +kernel
theorem dX12_lacking_27 : decode cX12_lacking 27 = .ok (.iadd, 1) := by decide +kernel
theorem dX12_lacking_28 : decode cX12_lacking 28 = .ok (.istore_n 1, 1) := by decide +kernel
theorem dX12_lacking_29 : decode cX12_lacking 29 = .ok (.iinc 2 1, 3) := by decide +kernel
theorem dX12_lacking_32 : decode cX12_lacking 32 = .ok (.goto (-28), 3) := by decide +kernel
theorem dX12_lacking_35 : decode cX12_lacking 35 = .ok (.iload_n 1, 1) := by decide +kernel
theorem dX12_lacking_36 : decode cX12_lacking 36 = .ok (.ireturn, 1) := by decide +kernel
theorem dX12_beyond_0 : decode cX12_beyond 0 = .ok (.iload_n 1, 1) := by decide +kernel
theorem dX12_beyond_1 : decode cX12_beyond 1 = .ok (.iconst 0, 1) := by decide +kernel
theorem dX12_beyond_2 : decode cX12_beyond 2 = .ok (.bipush 6, 2) := by decide +kernel
theorem dX12_beyond_4 : decode cX12_beyond 4 = .ok (.invokestatic 214, 3) := by decide +kernel
theorem dX12_beyond_7 : decode cX12_beyond 7 = .ok (.ifCond .eq 12, 3) := by decide +kernel
theorem dX12_beyond_10 : decode cX12_beyond 10 = .ok (.iload_n 2, 1) := by decide +kernel
theorem dX12_beyond_11 : decode cX12_beyond 11 = .ok (.iconst 0, 1) := by decide +kernel
theorem dX12_beyond_12 : decode cX12_beyond 12 = .ok (.iconst 2, 1) := by decide +kernel
theorem dX12_beyond_13 : decode cX12_beyond 13 = .ok (.invokestatic 214, 3) := by decide +kernel
theorem dX12_beyond_16 : decode cX12_beyond 16 = .ok (.ifCond .ne 7, 3) := by decide +kernel
theorem dX12_beyond_19 : decode cX12_beyond 19 = .ok (.ldc2_w 348, 3) := by decide +kernel
theorem dX12_beyond_22 : decode cX12_beyond 22 = .ok (.lreturn, 1) := by decide +kernel
theorem dX12_beyond_23 : decode cX12_beyond 23 = .ok (.iconst 0, 1) := by decide +kernel
theorem dX12_beyond_24 : decode cX12_beyond 24 = .ok (.istore_n 3, 1) := by decide +kernel
theorem dX12_beyond_25 : decode cX12_beyond 25 = .ok (.iconst 0, 1) := by decide +kernel
theorem dX12_beyond_26 : decode cX12_beyond 26 = .ok (.istore 4, 2) := by decide +kernel
theorem dX12_beyond_28 : decode cX12_beyond 28 = .ok (.iconst 0, 1) := by decide +kernel
theorem dX12_beyond_29 : decode cX12_beyond 29 = .ok (.istore 5, 2) := by decide +kernel
theorem dX12_beyond_31 : decode cX12_beyond 31 = .ok (.iload 5, 2) := by decide +kernel
theorem dX12_beyond_33 : decode cX12_beyond 33 = .ok (.aload_n 0, 1) := by decide +kernel
theorem dX12_beyond_34 : decode cX12_beyond 34 = .ok (.getfield 208, 3) := by decide +kernel
theorem dX12_beyond_37 : decode cX12_beyond 37 = .ok (.if_icmp .ge 50, 3) := by decide +kernel
theorem dX12_beyond_40 : decode cX12_beyond 40 = .ok (.aload_n 0, 1) := by decide +kernel
theorem dX12_beyond_41 : decode cX12_beyond 41 = .ok (.getfield 28, 3) := by decide +kernel
theorem dX12_beyond_44 : decode cX12_beyond 44 = .ok (.iload 5, 2) := by decide +kernel
theorem dX12_beyond_46 : decode cX12_beyond 46 = .ok (.iaload, 1) := by decide +kernel
theorem dX12_beyond_47 : decode cX12_beyond 47 = .ok (.bipush 7, 2) := by decide +kernel
theorem dX12_beyond_49 : decode cX12_beyond 49 = .ok (.irem, 1) := by decide +kernel
theorem dX12_beyond_50 : decode cX12_beyond 50 = .ok (.iload_n 1, 1) := by decide +kernel
theorem dX12_beyond_51 : decode cX12_beyond 51 = .ok (.if_icmp .eq 6, 3) := by decide +kernel
theorem dX12_beyond_54 : decode cX12_beyond 54 = .ok (.goto 27, 3) := by decide +kernel
theorem dX12_beyond_57 : decode cX12_beyond 57 = .ok (.iload_n 3, 1) := by decide +kernel
theorem dX12_beyond_58 : decode cX12_beyond 58 = .ok (.iconst 1, 1) := by decide +kernel
theorem dX12_beyond_59 : decode cX12_beyond 59 = .ok (.iadd, 1) := by decide +kernel
theorem dX12_beyond_60 : decode cX12_beyond 60 = .ok (.istore_n 3, 1) := by decide +kernel
theorem dX12_beyond_61 : decode cX12_beyond 61 = .ok (.iload 4, 2) := by decide +kernel
theorem dX12_beyond_63 : decode cX12_beyond 63 = .ok (.aload_n 0, 1) := by decide +kernel
theorem dX12_beyond_64 : decode cX12_beyond 64 = .ok (.getfield 43, 3) := by decide +kernel
theorem dX12_beyond_67 : decode cX12_beyond 67 = .ok (.iload 5, 2) := by decide +kernel
theorem dX12_beyond_69 : decode cX12_beyond 69 = .ok (.iaload, 1) := by decide +kernel
theorem dX12_beyond_70 : decode cX12_beyond 70 = .ok (.ifCond .le 7, 3) := by decide +kernel
theorem dX12_beyond_73 : decode cX12_beyond 73 = .ok (.iconst 1, 1) := by decide +kernel
theorem dX12_beyond_74 : decode cX12_beyond 74 = .ok (.goto 4, 3) := by decide +kernel
theorem dX12_beyond_77 : decode cX12_beyond 77 = .ok (.iconst 0, 1) := by decide +kernel
theorem dX12_beyond_78 : decode cX12_beyond 78 = .ok (.iadd, 1) := by decide +kernel
theorem dX12_beyond_79 : decode cX12_beyond 79 = .ok (.istore 4, 2) := by decide +kernel
theorem dX12_beyond_81 : decode cX12_beyond 81 = .ok (.iinc 5 1, 3) := by decide +kernel
theorem dX12_beyond_84 : decode cX12_beyond 84 = .ok (.goto (-53), 3) := by decide +kernel
theorem dX12_beyond_87 : decode cX12_beyond 87 = .ok (.aload_n 0, 1) := by decide +kernel
theorem dX12_beyond_88 : decode cX12_beyond 88 = .ok (.aload_n 0, 1) := by decide +kernel
theorem dX12_beyond_89 : decode cX12_beyond 89 = .ok (.invokevirtual 350, 3) := by decide +kernel
theorem dX12_beyond_92 : decode cX12_beyond 92 = .ok (.iload_n 3, 1) := by decide +kernel
theorem dX12_beyond_93 : decode cX12_beyond 93 = .ok (.iload 4, 2) := by decide +kernel
theorem dX12_beyond_95 : decode cX12_beyond 95 = .ok (.iload_n 2, 1) := by decide +kernel
theorem dX12_beyond_96 : decode cX12_beyond 96 = .ok (.invokevirtual 353, 3) := by decide +kernel
theorem dX12_beyond_99 : decode cX12_beyond 99 = .ok (.lreturn, 1) := by decide +kernel
theorem dX12_street_0 : decode cX12_street 0 = .ok (.aload_n 0, 1) := by decide +kernel
theorem dX12_street_1 : decode cX12_street 1 = .ok (.iload_n 1, 1) := by decide +kernel
theorem dX12_street_2 : decode cX12_street 2 = .ok (.invokevirtual 218, 3) := by decide +kernel
theorem dX12_street_5 : decode cX12_street 5 = .ok (.ifCond .eq 13, 3) := by decide +kernel
theorem dX12_street_8 : decode cX12_street 8 = .ok (.iload_n 2, 1) := by decide +kernel
theorem dX12_street_9 : decode cX12_street 9 = .ok (.iconst 0, 1) := by decide +kernel
theorem dX12_street_10 : decode cX12_street 10 = .ok (.bipush 9, 2) := by decide +kernel
theorem dX12_street_12 : decode cX12_street 12 = .ok (.invokestatic 214, 3) := by decide +kernel
theorem dX12_street_15 : decode cX12_street 15 = .ok (.ifCond .ne 5, 3) := by decide +kernel
theorem dX12_street_18 : decode cX12_street 18 = .ok (.iconst 0, 1) := by decide +kernel
theorem dX12_street_19 : decode cX12_street 19 = .ok (.ireturn, 1) := by decide +kernel
theorem dX12_street_20 : decode cX12_street 20 = .ok (.aload_n 0, 1) := by decide +kernel
theorem dX12_street_21 : decode cX12_street 21 = .ok (.getfield 95, 3) := by decide +kernel
theorem dX12_street_24 : decode cX12_street 24 = .ok (.iload_n 1, 1) := by decide +kernel
theorem dX12_street_25 : decode cX12_street 25 = .ok (.iload_n 2, 1) := by decide +kernel
theorem dX12_street_26 : decode cX12_street 26 = .ok (.iastore, 1) := by decide +kernel
theorem dX12_street_27 : decode cX12_street 27 = .ok (.iconst 1, 1) := by decide +kernel
theorem dX12_street_28 : decode cX12_street 28 = .ok (.ireturn, 1) := by decide +kernel
theorem dX12_streets_0 : decode cX12_streets 0 = .ok (.iload_n 1, 1) := by decide +kernel
theorem dX12_streets_1 : decode cX12_streets 1 = .ok (.iconst 0, 1) := by decide +kernel
theorem dX12_streets_2 : decode cX12_streets 2 = .ok (.bipush 9, 2) := by decide +kernel
theorem dX12_streets_4 : decode cX12_streets 4 = .ok (.invokestatic 214, 3) := by decide +kernel
theorem dX12_streets_7 : decode cX12_streets 7 = .ok (.ifCond .eq 12, 3) := by decide +kernel
theorem dX12_streets_10 : decode cX12_streets 10 = .ok (.iload_n 2, 1) := by decide +kernel
theorem dX12_streets_11 : decode cX12_streets 11 = .ok (.iconst 0, 1) := by decide +kernel
theorem dX12_streets_12 : decode cX12_streets 12 = .ok (.iconst 2, 1) := by decide +kernel
theorem dX12_streets_13 : decode cX12_streets 13 = .ok (.invokestatic 214, 3) := by decide +kernel
theorem dX12_streets_16 : decode cX12_streets 16 = .ok (.ifCond .ne 7, 3) := by decide +kernel
theorem dX12_streets_19 : decode cX12_streets 19 = .ok (.ldc2_w 348, 3) := by decide +kernel
theorem dX12_streets_22 : decode cX12_streets 22 = .ok (.lreturn, 1) := by decide +kernel
theorem dX12_streets_23 : decode cX12_streets 23 = .ok (.iconst 0, 1) := by decide +kernel
theorem dX12_streets_24 : decode cX12_streets 24 = .ok (.istore_n 3, 1) := by decide +kernel
theorem dX12_streets_25 : decode cX12_streets 25 = .ok (.iconst 0, 1) := by decide +kernel
theorem dX12_streets_26 : decode cX12_streets 26 = .ok (.istore 4, 2) := by decide +kernel
theorem dX12_streets_28 : decode cX12_streets 28 = .ok (.iconst 0, 1) := by decide +kernel
theorem dX12_streets_29 : decode cX12_streets 29 = .ok (.istore 5, 2) := by decide +kernel
theorem dX12_streets_31 : decode cX12_streets 31 = .ok (.iload 5, 2) := by decide +kernel
theorem dX12_streets_33 : decode cX12_streets 33 = .ok (.aload_n 0, 1) := by decide +kernel
theorem dX12_streets_34 : decode cX12_streets 34 = .ok (.getfield 208, 3) := by decide +kernel
theorem dX12_streets_37 : decode cX12_streets 37 = .ok (.if_icmp .ge 52, 3) := by decide +kernel
theorem dX12_streets_40 : decode cX12_streets 40 = .ok (.aload_n 0, 1) := by decide +kernel
theorem dX12_streets_41 : decode cX12_streets 41 = .ok (.getfield 95, 3) := by decide +kernel
theorem dX12_streets_44 : decode cX12_streets 44 = .ok (.aload_n 0, 1) := by decide +kernel
theorem dX12_streets_45 : decode cX12_streets 45 = .ok (.getfield 25, 3) := by decide +kernel
theorem dX12_streets_48 : decode cX12_streets 48 = .ok (.iload 5, 2) := by decide +kernel
theorem dX12_streets_50 : decode cX12_streets 50 = .ok (.iaload, 1) := by decide +kernel
theorem dX12_streets_51 : decode cX12_streets 51 = .ok (.iaload, 1) := by decide +kernel
theorem dX12_streets_52 : decode cX12_streets 52 = .ok (.iload_n 1, 1) := by decide +kernel
theorem dX12_streets_53 : decode cX12_streets 53 = .ok (.if_icmp .eq 6, 3) := by decide +kernel
theorem dX12_streets_56 : decode cX12_streets 56 = .ok (.goto 27, 3) := by decide +kernel
theorem dX12_streets_59 : decode cX12_streets 59 = .ok (.iload_n 3, 1) := by decide +kernel
theorem dX12_streets_60 : decode cX12_streets 60 = .ok (.iconst 1, 1) := by decide +kernel
theorem dX12_streets_61 : decode cX12_streets 61 = .ok (.iadd, 1) := by decide +kernel
theorem dX12_streets_62 : decode cX12_streets 62 = .ok (.istore_n 3, 1) := by decide +kernel
theorem dX12_streets_63 : decode cX12_streets 63 = .ok (.iload 4, 2) := by decide +kernel
theorem dX12_streets_65 : decode cX12_streets 65 = .ok (.aload_n 0, 1) := by decide +kernel
theorem dX12_streets_66 : decode cX12_streets 66 = .ok (.getfield 43, 3) := by decide +kernel
theorem dX12_streets_69 : decode cX12_streets 69 = .ok (.iload 5, 2) := by decide +kernel
theorem dX12_streets_71 : decode cX12_streets 71 = .ok (.iaload, 1) := by decide +kernel
theorem dX12_streets_72 : decode cX12_streets 72 = .ok (.ifCond .le 7, 3) := by decide +kernel
theorem dX12_streets_75 : decode cX12_streets 75 = .ok (.iconst 1, 1) := by decide +kernel
theorem dX12_streets_76 : decode cX12_streets 76 = .ok (.goto 4, 3) := by decide +kernel
theorem dX12_streets_79 : decode cX12_streets 79 = .ok (.iconst 0, 1) := by decide +kernel
theorem dX12_streets_80 : decode cX12_streets 80 = .ok (.iadd, 1) := by decide +kernel
theorem dX12_streets_81 : decode cX12_streets 81 = .ok (.istore 4, 2) := by decide +kernel
theorem dX12_streets_83 : decode cX12_streets 83 = .ok (.iinc 5 1, 3) := by decide +kernel
theorem dX12_streets_86 : decode cX12_streets 86 = .ok (.goto (-55), 3) := by decide +kernel
theorem dX12_streets_89 : decode cX12_streets 89 = .ok (.aload_n 0, 1) := by decide +kernel
theorem dX12_streets_90 : decode cX12_streets 90 = .ok (.aload_n 0, 1) := by decide +kernel
theorem dX12_streets_91 : decode cX12_streets 91 = .ok (.invokevirtual 350, 3) := by decide +kernel
theorem dX12_streets_94 : decode cX12_streets 94 = .ok (.iload_n 3, 1) := by decide +kernel
theorem dX12_streets_95 : decode cX12_streets 95 = .ok (.iload 4, 2) := by decide +kernel
theorem dX12_streets_97 : decode cX12_streets 97 = .ok (.iload_n 2, 1) := by decide +kernel
theorem dX12_streets_98 : decode cX12_streets 98 = .ok (.invokevirtual 353, 3) := by decide +kernel
theorem dX12_streets_101 : decode cX12_streets 101 = .ok (.lreturn, 1) := by decide +kernel
theorem dX12_cheat_0 : decode cX12_cheat 0 = .ok (.aload_n 0, 1) := by decide +kernel
theorem dX12_cheat_1 : decode cX12_cheat 1 = .ok (.iload_n 1, 1) := by decide +kernel
theorem dX12_cheat_2 : decode cX12_cheat 2 = .ok (.invokevirtual 218, 3) := by decide +kernel
theorem dX12_cheat_5 : decode cX12_cheat 5 = .ok (.ifCond .eq 23, 3) := by decide +kernel
theorem dX12_cheat_8 : decode cX12_cheat 8 = .ok (.iload_n 2, 1) := by decide +kernel
theorem dX12_cheat_9 : decode cX12_cheat 9 = .ok (.iconst 0, 1) := by decide +kernel
theorem dX12_cheat_10 : decode cX12_cheat 10 = .ok (.sipush 1000, 3) := by decide +kernel
theorem dX12_cheat_13 : decode cX12_cheat 13 = .ok (.invokestatic 214, 3) := by decide +kernel
theorem dX12_cheat_16 : decode cX12_cheat 16 = .ok (.ifCond .eq 12, 3) := by decide +kernel
theorem dX12_cheat_19 : decode cX12_cheat 19 = .ok (.iload_n 3, 1) := by decide +kernel
theorem dX12_cheat_20 : decode cX12_cheat 20 = .ok (.iconst 0, 1) := by decide +kernel
theorem dX12_cheat_21 : decode cX12_cheat 21 = .ok (.iconst 2, 1) := by decide +kernel
theorem dX12_cheat_22 : decode cX12_cheat 22 = .ok (.invokestatic 214, 3) := by decide +kernel
theorem dX12_cheat_25 : decode cX12_cheat 25 = .ok (.ifCond .ne 7, 3) := by decide +kernel
theorem dX12_cheat_28 : decode cX12_cheat 28 = .ok (.ldc2_w 348, 3) := by decide +kernel
theorem dX12_cheat_31 : decode cX12_cheat 31 = .ok (.lreturn, 1) := by decide +kernel
theorem dX12_cheat_32 : decode cX12_cheat 32 = .ok (.iconst 0, 1) := by decide +kernel
theorem dX12_cheat_33 : decode cX12_cheat 33 = .ok (.istore 4, 2) := by decide +kernel
theorem dX12_cheat_35 : decode cX12_cheat 35 = .ok (.iconst 0, 1) := by decide +kernel
theorem dX12_cheat_36 : decode cX12_cheat 36 = .ok (.istore 5, 2) := by decide +kernel
theorem dX12_cheat_38 : decode cX12_cheat 38 = .ok (.iconst 0, 1) := by decide +kernel
theorem dX12_cheat_39 : decode cX12_cheat 39 = .ok (.istore 6, 2) := by decide +kernel
theorem dX12_cheat_41 : decode cX12_cheat 41 = .ok (.iconst 0, 1) := by decide +kernel
theorem dX12_cheat_42 : decode cX12_cheat 42 = .ok (.istore 7, 2) := by decide +kernel
theorem dX12_cheat_44 : decode cX12_cheat 44 = .ok (.iload 7, 2) := by decide +kernel
theorem dX12_cheat_46 : decode cX12_cheat 46 = .ok (.aload_n 0, 1) := by decide +kernel
theorem dX12_cheat_47 : decode cX12_cheat 47 = .ok (.getfield 208, 3) := by decide +kernel
theorem dX12_cheat_50 : decode cX12_cheat 50 = .ok (.if_icmp .ge 89, 3) := by decide +kernel
theorem dX12_cheat_53 : decode cX12_cheat 53 = .ok (.aload_n 0, 1) := by decide +kernel
theorem dX12_cheat_54 : decode cX12_cheat 54 = .ok (.getfield 34, 3) := by decide +kernel
theorem dX12_cheat_57 : decode cX12_cheat 57 = .ok (.iload 7, 2) := by decide +kernel
theorem dX12_cheat_59 : decode cX12_cheat 59 = .ok (.iaload, 1) := by decide +kernel
theorem dX12_cheat_60 : decode cX12_cheat 60 = .ok (.iload_n 2, 1) := by decide +kernel
theorem dX12_cheat_61 : decode cX12_cheat 61 = .ok (.if_icmp .lt 7, 3) := by decide +kernel
theorem dX12_cheat_64 : decode cX12_cheat 64 = .ok (.iconst 1, 1) := by decide +kernel
theorem dX12_cheat_65 : decode cX12_cheat 65 = .ok (.goto 4, 3) := by decide +kernel
theorem dX12_cheat_68 : decode cX12_cheat 68 = .ok (.iconst 0, 1) := by decide +kernel
theorem dX12_cheat_69 : decode cX12_cheat 69 = .ok (.istore 8, 2) := by decide +kernel
theorem dX12_cheat_71 : decode cX12_cheat 71 = .ok (.iload 4, 2) := by decide +kernel
theorem dX12_cheat_73 : decode cX12_cheat 73 = .ok (.iload 8, 2) := by decide +kernel
theorem dX12_cheat_75 : decode cX12_cheat 75 = .ok (.ifCond .eq 7, 3) := by decide +kernel
theorem dX12_cheat_78 : decode cX12_cheat 78 = .ok (.iconst 1, 1) := by decide +kernel
theorem dX12_cheat_79 : decode cX12_cheat 79 = .ok (.goto 4, 3) := by decide +kernel
theorem dX12_cheat_82 : decode cX12_cheat 82 = .ok (.iconst 0, 1) := by decide +kernel
theorem dX12_cheat_83 : decode cX12_cheat 83 = .ok (.iadd, 1) := by decide +kernel
theorem dX12_cheat_84 : decode cX12_cheat 84 = .ok (.istore 4, 2) := by decide +kernel
theorem dX12_cheat_86 : decode cX12_cheat 86 = .ok (.iload 5, 2) := by decide +kernel
theorem dX12_cheat_88 : decode cX12_cheat 88 = .ok (.aload_n 0, 1) := by decide +kernel
theorem dX12_cheat_89 : decode cX12_cheat 89 = .ok (.getfield 25, 3) := by decide +kernel
theorem dX12_cheat_92 : decode cX12_cheat 92 = .ok (.iload 7, 2) := by decide +kernel
theorem dX12_cheat_94 : decode cX12_cheat 94 = .ok (.iaload, 1) := by decide +kernel
theorem dX12_cheat_95 : decode cX12_cheat 95 = .ok (.iload_n 1, 1) := by decide +kernel
theorem dX12_cheat_96 : decode cX12_cheat 96 = .ok (.if_icmp .ne 7, 3) := by decide +kernel
theorem dX12_cheat_99 : decode cX12_cheat 99 = .ok (.iconst 1, 1) := by decide +kernel
theorem dX12_cheat_100 : decode cX12_cheat 100 = .ok (.goto 4, 3) := by decide +kernel
theorem dX12_cheat_103 : decode cX12_cheat 103 = .ok (.iconst 0, 1) := by decide +kernel
theorem dX12_cheat_104 : decode cX12_cheat 104 = .ok (.iadd, 1) := by decide +kernel
theorem dX12_cheat_105 : decode cX12_cheat 105 = .ok (.istore 5, 2) := by decide +kernel
theorem dX12_cheat_107 : decode cX12_cheat 107 = .ok (.iload 6, 2) := by decide +kernel
theorem dX12_cheat_109 : decode cX12_cheat 109 = .ok (.iload 8, 2) := by decide +kernel
theorem dX12_cheat_111 : decode cX12_cheat 111 = .ok (.ifCond .eq 18, 3) := by decide +kernel
theorem dX12_cheat_114 : decode cX12_cheat 114 = .ok (.aload_n 0, 1) := by decide +kernel
theorem dX12_cheat_115 : decode cX12_cheat 115 = .ok (.getfield 25, 3) := by decide +kernel
theorem dX12_cheat_118 : decode cX12_cheat 118 = .ok (.iload 7, 2) := by decide +kernel
theorem dX12_cheat_120 : decode cX12_cheat 120 = .ok (.iaload, 1) := by decide +kernel
theorem dX12_cheat_121 : decode cX12_cheat 121 = .ok (.iload_n 1, 1) := by decide +kernel
theorem dX12_cheat_122 : decode cX12_cheat 122 = .ok (.if_icmp .ne 7, 3) := by decide +kernel
theorem dX12_cheat_125 : decode cX12_cheat 125 = .ok (.iconst 1, 1) := by decide +kernel
theorem dX12_cheat_126 : decode cX12_cheat 126 = .ok (.goto 4, 3) := by decide +kernel
theorem dX12_cheat_129 : decode cX12_cheat 129 = .ok (.iconst 0, 1) := by decide +kernel
theorem dX12_cheat_130 : decode cX12_cheat 130 = .ok (.iadd, 1) := by decide +kernel
theorem dX12_cheat_131 : decode cX12_cheat 131 = .ok (.istore 6, 2) := by decide +kernel
theorem dX12_cheat_133 : decode cX12_cheat 133 = .ok (.iinc 7 1, 3) := by decide +kernel
theorem dX12_cheat_136 : decode cX12_cheat 136 = .ok (.goto (-92), 3) := by decide +kernel
theorem dX12_cheat_139 : decode cX12_cheat 139 = .ok (.aload_n 0, 1) := by decide +kernel
theorem dX12_cheat_140 : decode cX12_cheat 140 = .ok (.iload 4, 2) := by decide +kernel
theorem dX12_cheat_142 : decode cX12_cheat 142 = .ok (.iload 5, 2) := by decide +kernel
theorem dX12_cheat_144 : decode cX12_cheat 144 = .ok (.iload 6, 2) := by decide +kernel
theorem dX12_cheat_146 : decode cX12_cheat 146 = .ok (.iload_n 3, 1) := by decide +kernel
theorem dX12_cheat_147 : decode cX12_cheat 147 = .ok (.invokevirtual 353, 3) := by decide +kernel
theorem dX12_cheat_150 : decode cX12_cheat 150 = .ok (.lreturn, 1) := by decide +kernel
theorem dX12_feast_0 : decode cX12_feast 0 = .ok (.iload_n 1, 1) := by decide +kernel
theorem dX12_feast_1 : decode cX12_feast 1 = .ok (.invokestatic 341, 3) := by decide +kernel
theorem dX12_feast_4 : decode cX12_feast 4 = .ok (.ifCond .eq 14, 3) := by decide +kernel
theorem dX12_feast_7 : decode cX12_feast 7 = .ok (.iload_n 2, 1) := by decide +kernel
theorem dX12_feast_8 : decode cX12_feast 8 = .ok (.iconst 0, 1) := by decide +kernel
theorem dX12_feast_9 : decode cX12_feast 9 = .ok (.sipush 300, 3) := by decide +kernel
theorem dX12_feast_12 : decode cX12_feast 12 = .ok (.invokestatic 214, 3) := by decide +kernel
theorem dX12_feast_15 : decode cX12_feast 15 = .ok (.ifCond .ne 5, 3) := by decide +kernel
theorem dX12_feast_18 : decode cX12_feast 18 = .ok (.iconst 0, 1) := by decide +kernel
theorem dX12_feast_19 : decode cX12_feast 19 = .ok (.ireturn, 1) := by decide +kernel
theorem dX12_feast_20 : decode cX12_feast 20 = .ok (.aload_n 0, 1) := by decide +kernel
theorem dX12_feast_21 : decode cX12_feast 21 = .ok (.getfield 98, 3) := by decide +kernel
theorem dX12_feast_24 : decode cX12_feast 24 = .ok (.iload_n 1, 1) := by decide +kernel
theorem dX12_feast_25 : decode cX12_feast 25 = .ok (.iload_n 2, 1) := by decide +kernel
theorem dX12_feast_26 : decode cX12_feast 26 = .ok (.iastore, 1) := by decide +kernel
theorem dX12_feast_27 : decode cX12_feast 27 = .ok (.iconst 1, 1) := by decide +kernel
theorem dX12_feast_28 : decode cX12_feast 28 = .ok (.ireturn, 1) := by decide +kernel
theorem dX12_feastedOf_0 : decode cX12_feastedOf 0 = .ok (.aload_n 0, 1) := by decide +kernel
theorem dX12_feastedOf_1 : decode cX12_feastedOf 1 = .ok (.getfield 25, 3) := by decide +kernel
theorem dX12_feastedOf_4 : decode cX12_feastedOf 4 = .ok (.iload_n 1, 1) := by decide +kernel
theorem dX12_feastedOf_5 : decode cX12_feastedOf 5 = .ok (.iaload, 1) := by decide +kernel
theorem dX12_feastedOf_6 : decode cX12_feastedOf 6 = .ok (.istore_n 2, 1) := by decide +kernel
theorem dX12_feastedOf_7 : decode cX12_feastedOf 7 = .ok (.iconst 0, 1) := by decide +kernel
theorem dX12_feastedOf_8 : decode cX12_feastedOf 8 = .ok (.istore_n 3, 1) := by decide +kernel
theorem dX12_feastedOf_9 : decode cX12_feastedOf 9 = .ok (.aload_n 0, 1) := by decide +kernel
theorem dX12_feastedOf_10 : decode cX12_feastedOf 10 = .ok (.getfield 49, 3) := by decide +kernel
theorem dX12_feastedOf_13 : decode cX12_feastedOf 13 = .ok (.iload_n 1, 1) := by decide +kernel
theorem dX12_feastedOf_14 : decode cX12_feastedOf 14 = .ok (.iaload, 1) := by decide +kernel
theorem dX12_feastedOf_15 : decode cX12_feastedOf 15 = .ok (.iconst 1, 1) := by decide +kernel
theorem dX12_feastedOf_16 : decode cX12_feastedOf 16 = .ok (.iadd, 1) := by decide +kernel
theorem dX12_feastedOf_17 : decode cX12_feastedOf 17 = .ok (.istore 4, 2) := by decide +kernel
theorem dX12_feastedOf_19 : decode cX12_feastedOf 19 = .ok (.iload 4, 2) := by decide +kernel
theorem dX12_feastedOf_21 : decode cX12_feastedOf 21 = .ok (.aload_n 0, 1) := by decide +kernel
theorem dX12_feastedOf_22 : decode cX12_feastedOf 22 = .ok (.getfield 28, 3) := by decide +kernel
theorem dX12_feastedOf_25 : decode cX12_feastedOf 25 = .ok (.iload_n 1, 1) := by decide +kernel
theorem dX12_feastedOf_26 : decode cX12_feastedOf 26 = .ok (.iaload, 1) := by decide +kernel
theorem dX12_feastedOf_27 : decode cX12_feastedOf 27 = .ok (.if_icmp .gt 32, 3) := by decide +kernel
theorem dX12_feastedOf_30 : decode cX12_feastedOf 30 = .ok (.iload_n 3, 1) := by decide +kernel
theorem dX12_feastedOf_31 : decode cX12_feastedOf 31 = .ok (.aload_n 0, 1) := by decide +kernel
theorem dX12_feastedOf_32 : decode cX12_feastedOf 32 = .ok (.getfield 16, 3) := by decide +kernel
theorem dX12_feastedOf_35 : decode cX12_feastedOf 35 = .ok (.iload_n 2, 1) := by decide +kernel
theorem dX12_feastedOf_36 : decode cX12_feastedOf 36 = .ok (.iaload, 1) := by decide +kernel
theorem dX12_feastedOf_37 : decode cX12_feastedOf 37 = .ok (.bipush 100, 2) := by decide +kernel
theorem dX12_feastedOf_39 : decode cX12_feastedOf 39 = .ok (.aload_n 0, 1) := by decide +kernel
theorem dX12_feastedOf_40 : decode cX12_feastedOf 40 = .ok (.getfield 98, 3) := by decide +kernel
theorem dX12_feastedOf_43 : decode cX12_feastedOf 43 = .ok (.iload 4, 2) := by decide +kernel
theorem dX12_feastedOf_45 : decode cX12_feastedOf 45 = .ok (.iaload, 1) := by decide +kernel
theorem dX12_feastedOf_46 : decode cX12_feastedOf 46 = .ok (.iadd, 1) := by decide +kernel
theorem dX12_feastedOf_47 : decode cX12_feastedOf 47 = .ok (.imul, 1) := by decide +kernel
theorem dX12_feastedOf_48 : decode cX12_feastedOf 48 = .ok (.bipush 100, 2) := by decide +kernel
theorem dX12_feastedOf_50 : decode cX12_feastedOf 50 = .ok (.idiv, 1) := by decide +kernel
theorem dX12_feastedOf_51 : decode cX12_feastedOf 51 = .ok (.iadd, 1) := by decide +kernel
theorem dX12_feastedOf_52 : decode cX12_feastedOf 52 = .ok (.istore_n 3, 1) := by decide +kernel
theorem dX12_feastedOf_53 : decode cX12_feastedOf 53 = .ok (.iinc 4 1, 3) := by decide +kernel
theorem dX12_feastedOf_56 : decode cX12_feastedOf 56 = .ok (.goto (-37), 3) := by decide +kernel
theorem dX12_feastedOf_59 : decode cX12_feastedOf 59 = .ok (.iload_n 3, 1) := by decide +kernel
theorem dX12_feastedOf_60 : decode cX12_feastedOf 60 = .ok (.aload_n 0, 1) := by decide +kernel
theorem dX12_feastedOf_61 : decode cX12_feastedOf 61 = .ok (.getfield 19, 3) := by decide +kernel
theorem dX12_feastedOf_64 : decode cX12_feastedOf 64 = .ok (.iload_n 2, 1) := by decide +kernel
theorem dX12_feastedOf_65 : decode cX12_feastedOf 65 = .ok (.iaload, 1) := by decide +kernel
theorem dX12_feastedOf_66 : decode cX12_feastedOf 66 = .ok (.if_icmp .ge 7, 3) := by decide +kernel
theorem dX12_feastedOf_69 : decode cX12_feastedOf 69 = .ok (.iload_n 3, 1) := by decide +kernel
theorem dX12_feastedOf_70 : decode cX12_feastedOf 70 = .ok (.goto 9, 3) := by decide +kernel
theorem dX12_feastedOf_73 : decode cX12_feastedOf 73 = .ok (.aload_n 0, 1) := by decide +kernel
theorem dX12_feastedOf_74 : decode cX12_feastedOf 74 = .ok (.getfield 19, 3) := by decide +kernel
theorem dX12_feastedOf_77 : decode cX12_feastedOf 77 = .ok (.iload_n 2, 1) := by decide +kernel
theorem dX12_feastedOf_78 : decode cX12_feastedOf 78 = .ok (.iaload, 1) := by decide +kernel
theorem dX12_feastedOf_79 : decode cX12_feastedOf 79 = .ok (.ireturn, 1) := by decide +kernel
theorem dX12_feasted_0 : decode cX12_feasted 0 = .ok (.aload_n 0, 1) := by decide +kernel
theorem dX12_feasted_1 : decode cX12_feasted 1 = .ok (.iload_n 1, 1) := by decide +kernel
theorem dX12_feasted_2 : decode cX12_feasted 2 = .ok (.invokevirtual 335, 3) := by decide +kernel
theorem dX12_feasted_5 : decode cX12_feasted 5 = .ok (.ifCond .eq 12, 3) := by decide +kernel
theorem dX12_feasted_8 : decode cX12_feasted 8 = .ok (.iload_n 2, 1) := by decide +kernel
theorem dX12_feasted_9 : decode cX12_feasted 9 = .ok (.iconst 0, 1) := by decide +kernel
theorem dX12_feasted_10 : decode cX12_feasted 10 = .ok (.iconst 1, 1) := by decide +kernel
theorem dX12_feasted_11 : decode cX12_feasted 11 = .ok (.invokestatic 214, 3) := by decide +kernel
theorem dX12_feasted_14 : decode cX12_feasted 14 = .ok (.ifCond .ne 5, 3) := by decide +kernel
theorem dX12_feasted_17 : decode cX12_feasted 17 = .ok (.iconst (-1), 1) := by decide +kernel
theorem dX12_feasted_18 : decode cX12_feasted 18 = .ok (.ireturn, 1) := by decide +kernel
theorem dX12_feasted_19 : decode cX12_feasted 19 = .ok (.aload_n 0, 1) := by decide +kernel
theorem dX12_feasted_20 : decode cX12_feasted 20 = .ok (.iload_n 1, 1) := by decide +kernel
theorem dX12_feasted_21 : decode cX12_feasted 21 = .ok (.invokevirtual 357, 3) := by decide +kernel
theorem dX12_feasted_24 : decode cX12_feasted 24 = .ok (.istore_n 3, 1) := by decide +kernel
theorem dX12_feasted_25 : decode cX12_feasted 25 = .ok (.iload_n 3, 1) := by decide +kernel
theorem dX12_feasted_26 : decode cX12_feasted 26 = .ok (.aload_n 0, 1) := by decide +kernel
theorem dX12_feasted_27 : decode cX12_feasted 27 = .ok (.getfield 31, 3) := by decide +kernel
theorem dX12_feasted_30 : decode cX12_feasted 30 = .ok (.iload_n 1, 1) := by decide +kernel
theorem dX12_feasted_31 : decode cX12_feasted 31 = .ok (.iaload, 1) := by decide +kernel
theorem dX12_feasted_32 : decode cX12_feasted 32 = .ok (.isub, 1) := by decide +kernel
theorem dX12_feasted_33 : decode cX12_feasted 33 = .ok (.iload_n 3, 1) := by decide +kernel
theorem dX12_feasted_34 : decode cX12_feasted 34 = .ok (.bipush 10, 2) := by decide +kernel
theorem dX12_feasted_36 : decode cX12_feasted 36 = .ok (.idiv, 1) := by decide +kernel
theorem dX12_feasted_37 : decode cX12_feasted 37 = .ok (.isub, 1) := by decide +kernel
theorem dX12_feasted_38 : decode cX12_feasted 38 = .ok (.istore 4, 2) := by decide +kernel
theorem dX12_feasted_40 : decode cX12_feasted 40 = .ok (.iload_n 2, 1) := by decide +kernel
theorem dX12_feasted_41 : decode cX12_feasted 41 = .ok (.ifCond .ne 7, 3) := by decide +kernel
theorem dX12_feasted_44 : decode cX12_feasted 44 = .ok (.iload_n 3, 1) := by decide +kernel
theorem dX12_feasted_45 : decode cX12_feasted 45 = .ok (.goto 14, 3) := by decide +kernel
theorem dX12_feasted_48 : decode cX12_feasted 48 = .ok (.iload 4, 2) := by decide +kernel
theorem dX12_feasted_50 : decode cX12_feasted 50 = .ok (.ifCond .le 8, 3) := by decide +kernel
theorem dX12_feasted_53 : decode cX12_feasted 53 = .ok (.iload 4, 2) := by decide +kernel
theorem dX12_feasted_55 : decode cX12_feasted 55 = .ok (.goto 4, 3) := by decide +kernel
theorem dX12_feasted_58 : decode cX12_feasted 58 = .ok (.iconst 0, 1) := by decide +kernel
theorem dX12_feasted_59 : decode cX12_feasted 59 = .ok (.ireturn, 1) := by decide +kernel
theorem dX12_apart_0 : decode cX12_apart 0 = .ok (.iload_n 0, 1) := by decide +kernel
theorem dX12_apart_1 : decode cX12_apart 1 = .ok (.iload_n 2, 1) := by decide +kernel
theorem dX12_apart_2 : decode cX12_apart 2 = .ok (.if_icmp .ge 9, 3) := by decide +kernel
theorem dX12_apart_5 : decode cX12_apart 5 = .ok (.iload_n 2, 1) := by decide +kernel
theorem dX12_apart_6 : decode cX12_apart 6 = .ok (.iload_n 0, 1) := by decide +kernel
theorem dX12_apart_7 : decode cX12_apart 7 = .ok (.isub, 1) := by decide +kernel
theorem dX12_apart_8 : decode cX12_apart 8 = .ok (.goto 6, 3) := by decide +kernel
theorem dX12_apart_11 : decode cX12_apart 11 = .ok (.iload_n 0, 1) := by decide +kernel
theorem dX12_apart_12 : decode cX12_apart 12 = .ok (.iload_n 2, 1) := by decide +kernel
theorem dX12_apart_13 : decode cX12_apart 13 = .ok (.isub, 1) := by decide +kernel
theorem dX12_apart_14 : decode cX12_apart 14 = .ok (.iload_n 1, 1) := by decide +kernel
theorem dX12_apart_15 : decode cX12_apart 15 = .ok (.iload_n 3, 1) := by decide +kernel
theorem dX12_apart_16 : decode cX12_apart 16 = .ok (.if_icmp .ge 9, 3) := by decide +kernel
theorem dX12_apart_19 : decode cX12_apart 19 = .ok (.iload_n 3, 1) := by decide +kernel
theorem dX12_apart_20 : decode cX12_apart 20 = .ok (.iload_n 1, 1) := by decide +kernel
theorem dX12_apart_21 : decode cX12_apart 21 = .ok (.isub, 1) := by decide +kernel
theorem dX12_apart_22 : decode cX12_apart 22 = .ok (.goto 6, 3) := by decide +kernel
theorem dX12_apart_25 : decode cX12_apart 25 = .ok (.iload_n 1, 1) := by decide +kernel
theorem dX12_apart_26 : decode cX12_apart 26 = .ok (.iload_n 3, 1) := by decide +kernel
theorem dX12_apart_27 : decode cX12_apart 27 = .ok (.isub, 1) := by decide +kernel
theorem dX12_apart_28 : decode cX12_apart 28 = .ok (.iadd, 1) := by decide +kernel
theorem dX12_apart_29 : decode cX12_apart 29 = .ok (.ireturn, 1) := by decide +kernel
theorem dX12_toDepot_0 : decode cX12_toDepot 0 = .ok (.aload_n 0, 1) := by decide +kernel
theorem dX12_toDepot_1 : decode cX12_toDepot 1 = .ok (.getfield 7, 3) := by decide +kernel
theorem dX12_toDepot_4 : decode cX12_toDepot 4 = .ok (.iload_n 1, 1) := by decide +kernel
theorem dX12_toDepot_5 : decode cX12_toDepot 5 = .ok (.iaload, 1) := by decide +kernel
theorem dX12_toDepot_6 : decode cX12_toDepot 6 = .ok (.aload_n 0, 1) := by decide +kernel
theorem dX12_toDepot_7 : decode cX12_toDepot 7 = .ok (.getfield 13, 3) := by decide +kernel
theorem dX12_toDepot_10 : decode cX12_toDepot 10 = .ok (.iload_n 1, 1) := by decide +kernel
theorem dX12_toDepot_11 : decode cX12_toDepot 11 = .ok (.iaload, 1) := by decide +kernel
theorem dX12_toDepot_12 : decode cX12_toDepot 12 = .ok (.iadd, 1) := by decide +kernel
theorem dX12_toDepot_13 : decode cX12_toDepot 13 = .ok (.ireturn, 1) := by decide +kernel
theorem dX12_way_0 : decode cX12_way 0 = .ok (.aload_n 0, 1) := by decide +kernel
theorem dX12_way_1 : decode cX12_way 1 = .ok (.getfield 7, 3) := by decide +kernel
theorem dX12_way_4 : decode cX12_way 4 = .ok (.iload_n 1, 1) := by decide +kernel
theorem dX12_way_5 : decode cX12_way 5 = .ok (.iaload, 1) := by decide +kernel
theorem dX12_way_6 : decode cX12_way 6 = .ok (.aload_n 0, 1) := by decide +kernel
theorem dX12_way_7 : decode cX12_way 7 = .ok (.getfield 13, 3) := by decide +kernel
theorem dX12_way_10 : decode cX12_way 10 = .ok (.iload_n 1, 1) := by decide +kernel
theorem dX12_way_11 : decode cX12_way 11 = .ok (.iaload, 1) := by decide +kernel
theorem dX12_way_12 : decode cX12_way 12 = .ok (.aload_n 0, 1) := by decide +kernel
theorem dX12_way_13 : decode cX12_way 13 = .ok (.getfield 7, 3) := by decide +kernel
theorem dX12_way_16 : decode cX12_way 16 = .ok (.iload_n 2, 1) := by decide +kernel
theorem dX12_way_17 : decode cX12_way 17 = .ok (.iaload, 1) := by decide +kernel
theorem dX12_way_18 : decode cX12_way 18 = .ok (.aload_n 0, 1) := by decide +kernel
theorem dX12_way_19 : decode cX12_way 19 = .ok (.getfield 13, 3) := by decide +kernel
theorem dX12_way_22 : decode cX12_way 22 = .ok (.iload_n 2, 1) := by decide +kernel
theorem dX12_way_23 : decode cX12_way 23 = .ok (.iaload, 1) := by decide +kernel
theorem dX12_way_24 : decode cX12_way 24 = .ok (.invokestatic 360, 3) := by decide +kernel
theorem dX12_way_27 : decode cX12_way 27 = .ok (.ireturn, 1) := by decide +kernel
theorem dX12_goes_0 : decode cX12_goes 0 = .ok (.iconst 1, 1) := by decide +kernel
theorem dX12_goes_1 : decode cX12_goes 1 = .ok (.aload_n 0, 1) := by decide +kernel
theorem dX12_goes_2 : decode cX12_goes 2 = .ok (.getfield 364, 3) := by decide +kernel
theorem dX12_goes_5 : decode cX12_goes 5 = .ok (.ishl, 1) := by decide +kernel
theorem dX12_goes_6 : decode cX12_goes 6 = .ok (.iconst 1, 1) := by decide +kernel
theorem dX12_goes_7 : decode cX12_goes 7 = .ok (.isub, 1) := by decide +kernel
theorem dX12_goes_8 : decode cX12_goes 8 = .ok (.istore_n 1, 1) := by decide +kernel
theorem dX12_goes_9 : decode cX12_goes 9 = .ok (.iconst 0, 1) := by decide +kernel
theorem dX12_goes_10 : decode cX12_goes 10 = .ok (.istore_n 2, 1) := by decide +kernel
theorem dX12_goes_11 : decode cX12_goes 11 = .ok (.iload_n 2, 1) := by decide +kernel
theorem dX12_goes_12 : decode cX12_goes 12 = .ok (.iload_n 1, 1) := by decide +kernel
theorem dX12_goes_13 : decode cX12_goes 13 = .ok (.if_icmp .gt 145, 3) := by decide +kernel
theorem dX12_goes_16 : decode cX12_goes 16 = .ok (.iconst 0, 1) := by decide +kernel
theorem dX12_goes_17 : decode cX12_goes 17 = .ok (.istore_n 3, 1) := by decide +kernel
theorem dX12_goes_18 : decode cX12_goes 18 = .ok (.iload_n 3, 1) := by decide +kernel
theorem dX12_goes_19 : decode cX12_goes 19 = .ok (.aload_n 0, 1) := by decide +kernel
theorem dX12_goes_20 : decode cX12_goes 20 = .ok (.getfield 364, 3) := by decide +kernel
theorem dX12_goes_23 : decode cX12_goes 23 = .ok (.if_icmp .ge 129, 3) := by decide +kernel
theorem dX12_goes_26 : decode cX12_goes 26 = .ok (.iload_n 2, 1) := by decide +kernel
theorem dX12_goes_27 : decode cX12_goes 27 = .ok (.ifCond .ne 16, 3) := by decide +kernel
theorem dX12_goes_30 : decode cX12_goes 30 = .ok (.aload_n 0, 1) := by decide +kernel
theorem dX12_goes_31 : decode cX12_goes 31 = .ok (.aload_n 0, 1) := by decide +kernel
theorem dX12_goes_32 : decode cX12_goes 32 = .ok (.getfield 101, 3) := by decide +kernel
theorem dX12_goes_35 : decode cX12_goes 35 = .ok (.iload_n 3, 1) := by decide +kernel
theorem dX12_goes_36 : decode cX12_goes 36 = .ok (.iaload, 1) := by decide +kernel
theorem dX12_goes_37 : decode cX12_goes 37 = .ok (.invokevirtual 367, 3) := by decide +kernel
theorem dX12_goes_40 : decode cX12_goes 40 = .ok (.goto 6, 3) := by decide +kernel
theorem dX12_goes_43 : decode cX12_goes 43 = .ok (.ldc_w 370, 3) := by decide +kernel
theorem dX12_goes_46 : decode cX12_goes 46 = .ok (.istore 4, 2) := by decide +kernel
theorem dX12_goes_48 : decode cX12_goes 48 = .ok (.iconst 0, 1) := by decide +kernel
theorem dX12_goes_49 : decode cX12_goes 49 = .ok (.istore 5, 2) := by decide +kernel
theorem dX12_goes_51 : decode cX12_goes 51 = .ok (.iload 5, 2) := by decide +kernel
theorem dX12_goes_53 : decode cX12_goes 53 = .ok (.aload_n 0, 1) := by decide +kernel
theorem dX12_goes_54 : decode cX12_goes 54 = .ok (.getfield 364, 3) := by decide +kernel
theorem dX12_goes_57 : decode cX12_goes 57 = .ok (.if_icmp .ge 76, 3) := by decide +kernel
theorem dX12_goes_60 : decode cX12_goes 60 = .ok (.iload_n 2, 1) := by decide +kernel
theorem dX12_goes_61 : decode cX12_goes 61 = .ok (.iload 5, 2) := by decide +kernel
theorem dX12_goes_63 : decode cX12_goes 63 = .ok (.ishr, 1) := by decide +kernel
theorem dX12_goes_64 : decode cX12_goes 64 = .ok (.iconst 1, 1) := by decide +kernel
theorem dX12_goes_65 : decode cX12_goes 65 = .ok (.iand, 1) := by decide +kernel
theorem dX12_goes_66 : decode cX12_goes 66 = .ok (.ifCond .ne 6, 3) := by decide +kernel
theorem dX12_goes_69 : decode cX12_goes 69 = .ok (.goto 58, 3) := by decide +kernel
theorem dX12_goes_72 : decode cX12_goes 72 = .ok (.aload_n 0, 1) := by decide +kernel
theorem dX12_goes_73 : decode cX12_goes 73 = .ok (.aload_n 0, 1) := by decide +kernel
theorem dX12_goes_74 : decode cX12_goes 74 = .ok (.getfield 101, 3) := by decide +kernel
theorem dX12_goes_77 : decode cX12_goes 77 = .ok (.iload_n 3, 1) := by decide +kernel
theorem dX12_goes_78 : decode cX12_goes 78 = .ok (.iaload, 1) := by decide +kernel
theorem dX12_goes_79 : decode cX12_goes 79 = .ok (.aload_n 0, 1) := by decide +kernel
theorem dX12_goes_80 : decode cX12_goes 80 = .ok (.getfield 101, 3) := by decide +kernel
theorem dX12_goes_83 : decode cX12_goes 83 = .ok (.iload 5, 2) := by decide +kernel
theorem dX12_goes_85 : decode cX12_goes 85 = .ok (.iaload, 1) := by decide +kernel
theorem dX12_goes_86 : decode cX12_goes 86 = .ok (.invokevirtual 371, 3) := by decide +kernel
theorem dX12_goes_89 : decode cX12_goes 89 = .ok (.aload_n 0, 1) := by decide +kernel
theorem dX12_goes_90 : decode cX12_goes 90 = .ok (.getfield 104, 3) := by decide +kernel
theorem dX12_goes_93 : decode cX12_goes 93 = .ok (.bipush 8, 2) := by decide +kernel
theorem dX12_goes_95 : decode cX12_goes 95 = .ok (.iload_n 2, 1) := by decide +kernel
theorem dX12_goes_96 : decode cX12_goes 96 = .ok (.iconst 1, 1) := by decide +kernel
theorem dX12_goes_97 : decode cX12_goes 97 = .ok (.iload 5, 2) := by decide +kernel
theorem dX12_goes_99 : decode cX12_goes 99 = .ok (.ishl, 1) := by decide +kernel
theorem dX12_goes_100 : decode cX12_goes 100 = .ok (.iconst (-1), 1) := by decide +kernel
theorem dX12_goes_101 : decode cX12_goes 101 = .ok (.ixor, 1) := by decide +kernel
theorem dX12_goes_102 : decode cX12_goes 102 = .ok (.iand, 1) := by decide +kernel
theorem dX12_goes_103 : decode cX12_goes 103 = .ok (.imul, 1) := by decide +kernel
theorem dX12_goes_104 : decode cX12_goes 104 = .ok (.iload 5, 2) := by decide +kernel
theorem dX12_goes_106 : decode cX12_goes 106 = .ok (.iadd, 1) := by decide +kernel
theorem dX12_goes_107 : decode cX12_goes 107 = .ok (.iaload, 1) := by decide +kernel
theorem dX12_goes_108 : decode cX12_goes 108 = .ok (.iadd, 1) := by decide +kernel
theorem dX12_goes_109 : decode cX12_goes 109 = .ok (.istore 6, 2) := by decide +kernel
theorem dX12_goes_111 : decode cX12_goes 111 = .ok (.iload 6, 2) := by decide +kernel
theorem dX12_goes_113 : decode cX12_goes 113 = .ok (.iload 4, 2) := by decide +kernel
theorem dX12_goes_115 : decode cX12_goes 115 = .ok (.if_icmp .ge 8, 3) := by decide +kernel
theorem dX12_goes_118 : decode cX12_goes 118 = .ok (.iload 6, 2) := by decide +kernel
theorem dX12_goes_120 : decode cX12_goes 120 = .ok (.goto 5, 3) := by decide +kernel
theorem dX12_goes_123 : decode cX12_goes 123 = .ok (.iload 4, 2) := by decide +kernel
theorem dX12_goes_125 : decode cX12_goes 125 = .ok (.istore 4, 2) := by decide +kernel
theorem dX12_goes_127 : decode cX12_goes 127 = .ok (.iinc 5 1, 3) := by decide +kernel
theorem dX12_goes_130 : decode cX12_goes 130 = .ok (.goto (-79), 3) := by decide +kernel
theorem dX12_goes_133 : decode cX12_goes 133 = .ok (.aload_n 0, 1) := by decide +kernel
theorem dX12_goes_134 : decode cX12_goes 134 = .ok (.getfield 104, 3) := by decide +kernel
theorem dX12_goes_137 : decode cX12_goes 137 = .ok (.bipush 8, 2) := by decide +kernel
theorem dX12_goes_139 : decode cX12_goes 139 = .ok (.iload_n 2, 1) := by decide +kernel
theorem dX12_goes_140 : decode cX12_goes 140 = .ok (.imul, 1) := by decide +kernel
theorem dX12_goes_141 : decode cX12_goes 141 = .ok (.iload_n 3, 1) := by decide +kernel
theorem dX12_goes_142 : decode cX12_goes 142 = .ok (.iadd, 1) := by decide +kernel
theorem dX12_goes_143 : decode cX12_goes 143 = .ok (.iload 4, 2) := by decide +kernel
theorem dX12_goes_145 : decode cX12_goes 145 = .ok (.iastore, 1) := by decide +kernel
theorem dX12_goes_146 : decode cX12_goes 146 = .ok (.iinc 3 1, 3) := by decide +kernel
theorem dX12_goes_149 : decode cX12_goes 149 = .ok (.goto (-131), 3) := by decide +kernel
theorem dX12_goes_152 : decode cX12_goes 152 = .ok (.iinc 2 1, 3) := by decide +kernel
theorem dX12_goes_155 : decode cX12_goes 155 = .ok (.goto (-144), 3) := by decide +kernel
theorem dX12_goes_158 : decode cX12_goes 158 = .ok (.return_, 1) := by decide +kernel
theorem dX12_nextOf_0 : decode cX12_nextOf 0 = .ok (.iconst (-1), 1) := by decide +kernel
theorem dX12_nextOf_1 : decode cX12_nextOf 1 = .ok (.istore_n 3, 1) := by decide +kernel
theorem dX12_nextOf_2 : decode cX12_nextOf 2 = .ok (.iconst 0, 1) := by decide +kernel
theorem dX12_nextOf_3 : decode cX12_nextOf 3 = .ok (.istore 4, 2) := by decide +kernel
theorem dX12_nextOf_5 : decode cX12_nextOf 5 = .ok (.iconst 0, 1) := by decide +kernel
theorem dX12_nextOf_6 : decode cX12_nextOf 6 = .ok (.istore 5, 2) := by decide +kernel
theorem dX12_nextOf_8 : decode cX12_nextOf 8 = .ok (.iload 5, 2) := by decide +kernel
theorem dX12_nextOf_10 : decode cX12_nextOf 10 = .ok (.aload_n 0, 1) := by decide +kernel
theorem dX12_nextOf_11 : decode cX12_nextOf 11 = .ok (.getfield 364, 3) := by decide +kernel
theorem dX12_nextOf_14 : decode cX12_nextOf 14 = .ok (.if_icmp .ge 101, 3) := by decide +kernel
theorem dX12_nextOf_17 : decode cX12_nextOf 17 = .ok (.iload_n 2, 1) := by decide +kernel
theorem dX12_nextOf_18 : decode cX12_nextOf 18 = .ok (.iload 5, 2) := by decide +kernel
theorem dX12_nextOf_20 : decode cX12_nextOf 20 = .ok (.ishr, 1) := by decide +kernel
theorem dX12_nextOf_21 : decode cX12_nextOf 21 = .ok (.iconst 1, 1) := by decide +kernel
theorem dX12_nextOf_22 : decode cX12_nextOf 22 = .ok (.iand, 1) := by decide +kernel
theorem dX12_nextOf_23 : decode cX12_nextOf 23 = .ok (.ifCond .ne 6, 3) := by decide +kernel
theorem dX12_nextOf_26 : decode cX12_nextOf 26 = .ok (.goto 83, 3) := by decide +kernel
theorem dX12_nextOf_29 : decode cX12_nextOf 29 = .ok (.iload_n 1, 1) := by decide +kernel
theorem dX12_nextOf_30 : decode cX12_nextOf 30 = .ok (.iconst (-1), 1) := by decide +kernel
theorem dX12_nextOf_31 : decode cX12_nextOf 31 = .ok (.if_icmp .ne 17, 3) := by decide +kernel
theorem dX12_nextOf_34 : decode cX12_nextOf 34 = .ok (.aload_n 0, 1) := by decide +kernel
theorem dX12_nextOf_35 : decode cX12_nextOf 35 = .ok (.aload_n 0, 1) := by decide +kernel
theorem dX12_nextOf_36 : decode cX12_nextOf 36 = .ok (.getfield 101, 3) := by decide +kernel
theorem dX12_nextOf_39 : decode cX12_nextOf 39 = .ok (.iload 5, 2) := by decide +kernel
theorem dX12_nextOf_41 : decode cX12_nextOf 41 = .ok (.iaload, 1) := by decide +kernel
theorem dX12_nextOf_42 : decode cX12_nextOf 42 = .ok (.invokevirtual 367, 3) := by decide +kernel
theorem dX12_nextOf_45 : decode cX12_nextOf 45 = .ok (.goto 20, 3) := by decide +kernel
theorem dX12_nextOf_48 : decode cX12_nextOf 48 = .ok (.aload_n 0, 1) := by decide +kernel
theorem dX12_nextOf_49 : decode cX12_nextOf 49 = .ok (.aload_n 0, 1) := by decide +kernel
theorem dX12_nextOf_50 : decode cX12_nextOf 50 = .ok (.getfield 101, 3) := by decide +kernel
theorem dX12_nextOf_53 : decode cX12_nextOf 53 = .ok (.iload_n 1, 1) := by decide +kernel
theorem dX12_nextOf_54 : decode cX12_nextOf 54 = .ok (.iaload, 1) := by decide +kernel
theorem dX12_nextOf_55 : decode cX12_nextOf 55 = .ok (.aload_n 0, 1) := by decide +kernel
theorem dX12_nextOf_56 : decode cX12_nextOf 56 = .ok (.getfield 101, 3) := by decide +kernel
theorem dX12_nextOf_59 : decode cX12_nextOf 59 = .ok (.iload 5, 2) := by decide +kernel
theorem dX12_nextOf_61 : decode cX12_nextOf 61 = .ok (.iaload, 1) := by decide +kernel
theorem dX12_nextOf_62 : decode cX12_nextOf 62 = .ok (.invokevirtual 371, 3) := by decide +kernel
theorem dX12_nextOf_65 : decode cX12_nextOf 65 = .ok (.aload_n 0, 1) := by decide +kernel
theorem dX12_nextOf_66 : decode cX12_nextOf 66 = .ok (.getfield 104, 3) := by decide +kernel
theorem dX12_nextOf_69 : decode cX12_nextOf 69 = .ok (.bipush 8, 2) := by decide +kernel
theorem dX12_nextOf_71 : decode cX12_nextOf 71 = .ok (.iload_n 2, 1) := by decide +kernel
theorem dX12_nextOf_72 : decode cX12_nextOf 72 = .ok (.iconst 1, 1) := by decide +kernel
theorem dX12_nextOf_73 : decode cX12_nextOf 73 = .ok (.iload 5, 2) := by decide +kernel
theorem dX12_nextOf_75 : decode cX12_nextOf 75 = .ok (.ishl, 1) := by decide +kernel
theorem dX12_nextOf_76 : decode cX12_nextOf 76 = .ok (.iconst (-1), 1) := by decide +kernel
theorem dX12_nextOf_77 : decode cX12_nextOf 77 = .ok (.ixor, 1) := by decide +kernel
theorem dX12_nextOf_78 : decode cX12_nextOf 78 = .ok (.iand, 1) := by decide +kernel
theorem dX12_nextOf_79 : decode cX12_nextOf 79 = .ok (.imul, 1) := by decide +kernel
theorem dX12_nextOf_80 : decode cX12_nextOf 80 = .ok (.iload 5, 2) := by decide +kernel
theorem dX12_nextOf_82 : decode cX12_nextOf 82 = .ok (.iadd, 1) := by decide +kernel
theorem dX12_nextOf_83 : decode cX12_nextOf 83 = .ok (.iaload, 1) := by decide +kernel
theorem dX12_nextOf_84 : decode cX12_nextOf 84 = .ok (.iadd, 1) := by decide +kernel
theorem dX12_nextOf_85 : decode cX12_nextOf 85 = .ok (.istore 6, 2) := by decide +kernel
theorem dX12_nextOf_87 : decode cX12_nextOf 87 = .ok (.iload_n 3, 1) := by decide +kernel
theorem dX12_nextOf_88 : decode cX12_nextOf 88 = .ok (.iconst (-1), 1) := by decide +kernel
theorem dX12_nextOf_89 : decode cX12_nextOf 89 = .ok (.if_icmp .eq 13, 3) := by decide +kernel
theorem dX12_nextOf_92 : decode cX12_nextOf 92 = .ok (.iload 6, 2) := by decide +kernel
theorem dX12_nextOf_94 : decode cX12_nextOf 94 = .ok (.iload 4, 2) := by decide +kernel
theorem dX12_nextOf_96 : decode cX12_nextOf 96 = .ok (.if_icmp .lt 6, 3) := by decide +kernel
theorem dX12_nextOf_99 : decode cX12_nextOf 99 = .ok (.goto 10, 3) := by decide +kernel
theorem dX12_nextOf_102 : decode cX12_nextOf 102 = .ok (.iload 5, 2) := by decide +kernel
theorem dX12_nextOf_104 : decode cX12_nextOf 104 = .ok (.istore_n 3, 1) := by decide +kernel
theorem dX12_nextOf_105 : decode cX12_nextOf 105 = .ok (.iload 6, 2) := by decide +kernel
theorem dX12_nextOf_107 : decode cX12_nextOf 107 = .ok (.istore 4, 2) := by decide +kernel
theorem dX12_nextOf_109 : decode cX12_nextOf 109 = .ok (.iinc 5 1, 3) := by decide +kernel
theorem dX12_nextOf_112 : decode cX12_nextOf 112 = .ok (.goto (-104), 3) := by decide +kernel
theorem dX12_nextOf_115 : decode cX12_nextOf 115 = .ok (.aload_n 0, 1) := by decide +kernel
theorem dX12_nextOf_116 : decode cX12_nextOf 116 = .ok (.iload_n 3, 1) := by decide +kernel
theorem dX12_nextOf_117 : decode cX12_nextOf 117 = .ok (.iconst (-1), 1) := by decide +kernel
theorem dX12_nextOf_118 : decode cX12_nextOf 118 = .ok (.if_icmp .ne 7, 3) := by decide +kernel
theorem dX12_nextOf_121 : decode cX12_nextOf 121 = .ok (.iconst 0, 1) := by decide +kernel
theorem dX12_nextOf_122 : decode cX12_nextOf 122 = .ok (.goto 5, 3) := by decide +kernel
theorem dX12_nextOf_125 : decode cX12_nextOf 125 = .ok (.iload 4, 2) := by decide +kernel
theorem dX12_nextOf_127 : decode cX12_nextOf 127 = .ok (.putfield 374, 3) := by decide +kernel
theorem dX12_nextOf_130 : decode cX12_nextOf 130 = .ok (.iload_n 3, 1) := by decide +kernel
theorem dX12_nextOf_131 : decode cX12_nextOf 131 = .ok (.ireturn, 1) := by decide +kernel
theorem dX12_lays_0 : decode cX12_lays 0 = .ok (.aload_n 0, 1) := by decide +kernel
theorem dX12_lays_1 : decode cX12_lays 1 = .ok (.iconst 0, 1) := by decide +kernel
theorem dX12_lays_2 : decode cX12_lays 2 = .ok (.putfield 364, 3) := by decide +kernel
theorem dX12_lays_5 : decode cX12_lays 5 = .ok (.iconst 0, 1) := by decide +kernel
theorem dX12_lays_6 : decode cX12_lays 6 = .ok (.istore 4, 2) := by decide +kernel
theorem dX12_lays_8 : decode cX12_lays 8 = .ok (.iload 4, 2) := by decide +kernel
theorem dX12_lays_10 : decode cX12_lays 10 = .ok (.aload_n 0, 1) := by decide +kernel
theorem dX12_lays_11 : decode cX12_lays 11 = .ok (.getfield 204, 3) := by decide +kernel
theorem dX12_lays_14 : decode cX12_lays 14 = .ok (.if_icmp .ge 57, 3) := by decide +kernel
theorem dX12_lays_17 : decode cX12_lays 17 = .ok (.aload_n 0, 1) := by decide +kernel
theorem dX12_lays_18 : decode cX12_lays 18 = .ok (.getfield 22, 3) := by decide +kernel
theorem dX12_lays_21 : decode cX12_lays 21 = .ok (.iload 4, 2) := by decide +kernel
theorem dX12_lays_23 : decode cX12_lays 23 = .ok (.iaload, 1) := by decide +kernel
theorem dX12_lays_24 : decode cX12_lays 24 = .ok (.iload_n 1, 1) := by decide +kernel
theorem dX12_lays_25 : decode cX12_lays 25 = .ok (.if_icmp .le 5, 3) := by decide +kernel
theorem dX12_lays_28 : decode cX12_lays 28 = .ok (.iconst 0, 1) := by decide +kernel
theorem dX12_lays_29 : decode cX12_lays 29 = .ok (.ireturn, 1) := by decide +kernel
theorem dX12_lays_30 : decode cX12_lays 30 = .ok (.aload_n 0, 1) := by decide +kernel
theorem dX12_lays_31 : decode cX12_lays 31 = .ok (.iload 4, 2) := by decide +kernel
theorem dX12_lays_33 : decode cX12_lays 33 = .ok (.iload_n 1, 1) := by decide +kernel
theorem dX12_lays_34 : decode cX12_lays 34 = .ok (.invokevirtual 222, 3) := by decide +kernel
theorem dX12_lays_37 : decode cX12_lays 37 = .ok (.iload_n 2, 1) := by decide +kernel
theorem dX12_lays_38 : decode cX12_lays 38 = .ok (.if_icmp .ge 6, 3) := by decide +kernel
theorem dX12_lays_41 : decode cX12_lays 41 = .ok (.goto 24, 3) := by decide +kernel
theorem dX12_lays_44 : decode cX12_lays 44 = .ok (.aload_n 0, 1) := by decide +kernel
theorem dX12_lays_45 : decode cX12_lays 45 = .ok (.getfield 101, 3) := by decide +kernel
theorem dX12_lays_48 : decode cX12_lays 48 = .ok (.aload_n 0, 1) := by decide +kernel
theorem dX12_lays_49 : decode cX12_lays 49 = .ok (.getfield 364, 3) := by decide +kernel
theorem dX12_lays_52 : decode cX12_lays 52 = .ok (.iload 4, 2) := by decide +kernel
theorem dX12_lays_54 : decode cX12_lays 54 = .ok (.iastore, 1) := by decide +kernel
theorem dX12_lays_55 : decode cX12_lays 55 = .ok (.aload_n 0, 1) := by decide +kernel
theorem dX12_lays_56 : decode cX12_lays 56 = .ok (.aload_n 0, 1) := by decide +kernel
theorem dX12_lays_57 : decode cX12_lays 57 = .ok (.getfield 364, 3) := by decide +kernel
theorem dX12_lays_60 : decode cX12_lays 60 = .ok (.iconst 1, 1) := by decide +kernel
theorem dX12_lays_61 : decode cX12_lays 61 = .ok (.iadd, 1) := by decide +kernel
theorem dX12_lays_62 : decode cX12_lays 62 = .ok (.putfield 364, 3) := by decide +kernel
theorem dX12_lays_65 : decode cX12_lays 65 = .ok (.iinc 4 1, 3) := by decide +kernel
theorem dX12_lays_68 : decode cX12_lays 68 = .ok (.goto (-60), 3) := by decide +kernel
theorem dX12_lays_71 : decode cX12_lays 71 = .ok (.aload_n 0, 1) := by decide +kernel
theorem dX12_lays_72 : decode cX12_lays 72 = .ok (.getfield 364, 3) := by decide +kernel
theorem dX12_lays_75 : decode cX12_lays 75 = .ok (.iload_n 3, 1) := by decide +kernel
theorem dX12_lays_76 : decode cX12_lays 76 = .ok (.if_icmp .le 5, 3) := by decide +kernel
theorem dX12_lays_79 : decode cX12_lays 79 = .ok (.iconst 0, 1) := by decide +kernel
theorem dX12_lays_80 : decode cX12_lays 80 = .ok (.ireturn, 1) := by decide +kernel
theorem dX12_lays_81 : decode cX12_lays 81 = .ok (.aload_n 0, 1) := by decide +kernel
theorem dX12_lays_82 : decode cX12_lays 82 = .ok (.invokevirtual 377, 3) := by decide +kernel
theorem dX12_lays_85 : decode cX12_lays 85 = .ok (.iconst 1, 1) := by decide +kernel
theorem dX12_lays_86 : decode cX12_lays 86 = .ok (.ireturn, 1) := by decide +kernel
theorem dX12_round_0 : decode cX12_round 0 = .ok (.iload_n 1, 1) := by decide +kernel
theorem dX12_round_1 : decode cX12_round 1 = .ok (.invokestatic 341, 3) := by decide +kernel
theorem dX12_round_4 : decode cX12_round 4 = .ok (.ifCond .eq 19, 3) := by decide +kernel
theorem dX12_round_7 : decode cX12_round 7 = .ok (.iload_n 2, 1) := by decide +kernel
theorem dX12_round_8 : decode cX12_round 8 = .ok (.iconst 1, 1) := by decide +kernel
theorem dX12_round_9 : decode cX12_round 9 = .ok (.sipush 400, 3) := by decide +kernel
theorem dX12_round_12 : decode cX12_round 12 = .ok (.invokestatic 214, 3) := by decide +kernel
theorem dX12_round_15 : decode cX12_round 15 = .ok (.ifCond .eq 8, 3) := by decide +kernel
theorem dX12_round_18 : decode cX12_round 18 = .ok (.iload_n 3, 1) := by decide +kernel
theorem dX12_round_19 : decode cX12_round 19 = .ok (.iconst (-1), 1) := by decide +kernel
theorem dX12_round_20 : decode cX12_round 20 = .ok (.if_icmp .ge 5, 3) := by decide +kernel
theorem dX12_round_23 : decode cX12_round 23 = .ok (.iconst (-1), 1) := by decide +kernel
theorem dX12_round_24 : decode cX12_round 24 = .ok (.ireturn, 1) := by decide +kernel
theorem dX12_round_25 : decode cX12_round 25 = .ok (.aload_n 0, 1) := by decide +kernel
theorem dX12_round_26 : decode cX12_round 26 = .ok (.iload_n 1, 1) := by decide +kernel
theorem dX12_round_27 : decode cX12_round 27 = .ok (.iload_n 2, 1) := by decide +kernel
theorem dX12_round_28 : decode cX12_round 28 = .ok (.bipush 8, 2) := by decide +kernel
theorem dX12_round_30 : decode cX12_round 30 = .ok (.invokevirtual 380, 3) := by decide +kernel
theorem dX12_round_33 : decode cX12_round 33 = .ok (.ifCond .ne 6, 3) := by decide +kernel
theorem dX12_round_36 : decode cX12_round 36 = .ok (.bipush (-2), 2) := by decide +kernel
theorem dX12_round_38 : decode cX12_round 38 = .ok (.ireturn, 1) := by decide +kernel
theorem dX12_round_39 : decode cX12_round 39 = .ok (.aload_n 0, 1) := by decide +kernel
theorem dX12_round_40 : decode cX12_round 40 = .ok (.getfield 364, 3) := by decide +kernel
theorem dX12_round_43 : decode cX12_round 43 = .ok (.istore 4, 2) := by decide +kernel
theorem dX12_round_45 : decode cX12_round 45 = .ok (.iconst 1, 1) := by decide +kernel
theorem dX12_round_46 : decode cX12_round 46 = .ok (.iload 4, 2) := by decide +kernel
theorem dX12_round_48 : decode cX12_round 48 = .ok (.ishl, 1) := by decide +kernel
theorem dX12_round_49 : decode cX12_round 49 = .ok (.iconst 1, 1) := by decide +kernel
theorem dX12_round_50 : decode cX12_round 50 = .ok (.isub, 1) := by decide +kernel
theorem dX12_round_51 : decode cX12_round 51 = .ok (.istore 5, 2) := by decide +kernel
theorem dX12_round_53 : decode cX12_round 53 = .ok (.aload_n 0, 1) := by decide +kernel
theorem dX12_round_54 : decode cX12_round 54 = .ok (.iconst (-1), 1) := by decide +kernel
theorem dX12_round_55 : decode cX12_round 55 = .ok (.iload 5, 2) := by decide +kernel
theorem dX12_round_57 : decode cX12_round 57 = .ok (.invokevirtual 383, 3) := by decide +kernel
theorem dX12_round_60 : decode cX12_round 60 = .ok (.istore 6, 2) := by decide +kernel
theorem dX12_round_62 : decode cX12_round 62 = .ok (.iload_n 3, 1) := by decide +kernel
theorem dX12_round_63 : decode cX12_round 63 = .ok (.iconst (-1), 1) := by decide +kernel
theorem dX12_round_64 : decode cX12_round 64 = .ok (.if_icmp .ne 8, 3) := by decide +kernel
theorem dX12_round_67 : decode cX12_round 67 = .ok (.aload_n 0, 1) := by decide +kernel
theorem dX12_round_68 : decode cX12_round 68 = .ok (.getfield 374, 3) := by decide +kernel
theorem dX12_round_71 : decode cX12_round 71 = .ok (.ireturn, 1) := by decide +kernel
theorem dX12_round_72 : decode cX12_round 72 = .ok (.iload_n 3, 1) := by decide +kernel
theorem dX12_round_73 : decode cX12_round 73 = .ok (.iload 4, 2) := by decide +kernel
theorem dX12_round_75 : decode cX12_round 75 = .ok (.if_icmp .lt 5, 3) := by decide +kernel
theorem dX12_round_78 : decode cX12_round 78 = .ok (.iconst (-1), 1) := by decide +kernel
theorem dX12_round_79 : decode cX12_round 79 = .ok (.ireturn, 1) := by decide +kernel
theorem dX12_round_80 : decode cX12_round 80 = .ok (.iconst 0, 1) := by decide +kernel
theorem dX12_round_81 : decode cX12_round 81 = .ok (.istore 7, 2) := by decide +kernel
theorem dX12_round_83 : decode cX12_round 83 = .ok (.iload 7, 2) := by decide +kernel
theorem dX12_round_85 : decode cX12_round 85 = .ok (.iload_n 3, 1) := by decide +kernel
theorem dX12_round_86 : decode cX12_round 86 = .ok (.if_icmp .ge 30, 3) := by decide +kernel
theorem dX12_round_89 : decode cX12_round 89 = .ok (.iload 5, 2) := by decide +kernel
theorem dX12_round_91 : decode cX12_round 91 = .ok (.iconst 1, 1) := by decide +kernel
theorem dX12_round_92 : decode cX12_round 92 = .ok (.iload 6, 2) := by decide +kernel
theorem dX12_round_94 : decode cX12_round 94 = .ok (.ishl, 1) := by decide +kernel
theorem dX12_round_95 : decode cX12_round 95 = .ok (.iconst (-1), 1) := by decide +kernel
theorem dX12_round_96 : decode cX12_round 96 = .ok (.ixor, 1) := by decide +kernel
theorem dX12_round_97 : decode cX12_round 97 = .ok (.iand, 1) := by decide +kernel
theorem dX12_round_98 : decode cX12_round 98 = .ok (.istore 5, 2) := by decide +kernel
theorem dX12_round_100 : decode cX12_round 100 = .ok (.aload_n 0, 1) := by decide +kernel
theorem dX12_round_101 : decode cX12_round 101 = .ok (.iload 6, 2) := by decide +kernel
theorem dX12_round_103 : decode cX12_round 103 = .ok (.iload 5, 2) := by decide +kernel
theorem dX12_round_105 : decode cX12_round 105 = .ok (.invokevirtual 383, 3) := by decide +kernel
theorem dX12_round_108 : decode cX12_round 108 = .ok (.istore 6, 2) := by decide +kernel
theorem dX12_round_110 : decode cX12_round 110 = .ok (.iinc 7 1, 3) := by decide +kernel
theorem dX12_round_113 : decode cX12_round 113 = .ok (.goto (-30), 3) := by decide +kernel
theorem dX12_round_116 : decode cX12_round 116 = .ok (.aload_n 0, 1) := by decide +kernel
theorem dX12_round_117 : decode cX12_round 117 = .ok (.getfield 101, 3) := by decide +kernel
theorem dX12_round_120 : decode cX12_round 120 = .ok (.iload 6, 2) := by decide +kernel
theorem dX12_round_122 : decode cX12_round 122 = .ok (.iaload, 1) := by decide +kernel
theorem dX12_round_123 : decode cX12_round 123 = .ok (.ireturn, 1) := by decide +kernel
