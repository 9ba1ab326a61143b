noncomputable def sxX12_lorry_49 : List UInt8 := []
noncomputable def sxX12_lorry_48 : List UInt8 := 172 :: sxX12_lorry_49
noncomputable def sxX12_lorry_47 : List UInt8 := 100 :: sxX12_lorry_48
noncomputable def sxX12_lorry_46 : List UInt8 := 4 :: sxX12_lorry_47
noncomputable def sxX12_lorry_43 : List UInt8 := 180 :: 1 :: 130 :: sxX12_lorry_46
noncomputable def sxX12_lorry_42 : List UInt8 := 42 :: sxX12_lorry_43
noncomputable def sxX12_lorry_39 : List UInt8 := 181 :: 1 :: 130 :: sxX12_lorry_42
noncomputable def sxX12_lorry_38 : List UInt8 := 96 :: sxX12_lorry_39
noncomputable def sxX12_lorry_37 : List UInt8 := 4 :: sxX12_lorry_38
noncomputable def sxX12_lorry_34 : List UInt8 := 180 :: 1 :: 130 :: sxX12_lorry_37
noncomputable def sxX12_lorry_33 : List UInt8 := 42 :: sxX12_lorry_34
noncomputable def sxX12_lorry_32 : List UInt8 := 42 :: sxX12_lorry_33
noncomputable def sxX12_lorry_31 : List UInt8 := 79 :: sxX12_lorry_32
noncomputable def sxX12_lorry_30 : List UInt8 := 27 :: sxX12_lorry_31
noncomputable def sxX12_lorry_27 : List UInt8 := 180 :: 1 :: 130 :: sxX12_lorry_30
noncomputable def sxX12_lorry_26 : List UInt8 := 42 :: sxX12_lorry_27
noncomputable def sxX12_lorry_23 : List UInt8 := 180 :: 0 :: 107 :: sxX12_lorry_26
noncomputable def sxX12_lorry_22 : List UInt8 := 42 :: sxX12_lorry_23
noncomputable def sxX12_lorry_21 : List UInt8 := 172 :: sxX12_lorry_22
noncomputable def sxX12_lorry_20 : List UInt8 := 2 :: sxX12_lorry_21
noncomputable def sxX12_lorry_17 : List UInt8 := 160 :: 0 :: 5 :: sxX12_lorry_20
noncomputable def sxX12_lorry_16 : List UInt8 := 6 :: sxX12_lorry_17
noncomputable def sxX12_lorry_13 : List UInt8 := 180 :: 1 :: 130 :: sxX12_lorry_16
noncomputable def sxX12_lorry_12 : List UInt8 := 42 :: sxX12_lorry_13
noncomputable def sxX12_lorry_9 : List UInt8 := 153 :: 0 :: 11 :: sxX12_lorry_12
noncomputable def sxX12_lorry_6 : List UInt8 := 184 :: 0 :: 214 :: sxX12_lorry_9
noncomputable def sxX12_lorry_3 : List UInt8 := 17 :: 7 :: 208 :: sxX12_lorry_6
noncomputable def sxX12_lorry_1 : List UInt8 := 16 :: 20 :: sxX12_lorry_3
noncomputable def sxX12_lorry_0 : List UInt8 := 27 :: sxX12_lorry_1
theorem shX12_lorry_0 : cX12_lorry.data.toList.drop 0 = sxX12_lorry_0 := rfl
theorem shX12_lorry_1 : cX12_lorry.data.toList.drop 1 = sxX12_lorry_1 := dSn 1 shX12_lorry_0
theorem shX12_lorry_3 : cX12_lorry.data.toList.drop 3 = sxX12_lorry_3 := dSn 2 shX12_lorry_1
theorem shX12_lorry_6 : cX12_lorry.data.toList.drop 6 = sxX12_lorry_6 := dSn 3 shX12_lorry_3
theorem shX12_lorry_9 : cX12_lorry.data.toList.drop 9 = sxX12_lorry_9 := dSn 3 shX12_lorry_6
theorem shX12_lorry_12 : cX12_lorry.data.toList.drop 12 = sxX12_lorry_12 := dSn 3 shX12_lorry_9
theorem shX12_lorry_13 : cX12_lorry.data.toList.drop 13 = sxX12_lorry_13 := dSn 1 shX12_lorry_12
theorem shX12_lorry_16 : cX12_lorry.data.toList.drop 16 = sxX12_lorry_16 := dSn 3 shX12_lorry_13
theorem shX12_lorry_17 : cX12_lorry.data.toList.drop 17 = sxX12_lorry_17 := dSn 1 shX12_lorry_16
theorem shX12_lorry_20 : cX12_lorry.data.toList.drop 20 = sxX12_lorry_20 := dSn 3 shX12_lorry_17
theorem shX12_lorry_21 : cX12_lorry.data.toList.drop 21 = sxX12_lorry_21 := dSn 1 shX12_lorry_20
theorem shX12_lorry_22 : cX12_lorry.data.toList.drop 22 = sxX12_lorry_22 := dSn 1 shX12_lorry_21
theorem shX12_lorry_23 : cX12_lorry.data.toList.drop 23 = sxX12_lorry_23 := dSn 1 shX12_lorry_22
theorem shX12_lorry_26 : cX12_lorry.data.toList.drop 26 = sxX12_lorry_26 := dSn 3 shX12_lorry_23
theorem shX12_lorry_27 : cX12_lorry.data.toList.drop 27 = sxX12_lorry_27 := dSn 1 shX12_lorry_26
theorem shX12_lorry_30 : cX12_lorry.data.toList.drop 30 = sxX12_lorry_30 := dSn 3 shX12_lorry_27
theorem shX12_lorry_31 : cX12_lorry.data.toList.drop 31 = sxX12_lorry_31 := dSn 1 shX12_lorry_30
theorem shX12_lorry_32 : cX12_lorry.data.toList.drop 32 = sxX12_lorry_32 := dSn 1 shX12_lorry_31
theorem shX12_lorry_33 : cX12_lorry.data.toList.drop 33 = sxX12_lorry_33 := dSn 1 shX12_lorry_32
theorem shX12_lorry_34 : cX12_lorry.data.toList.drop 34 = sxX12_lorry_34 := dSn 1 shX12_lorry_33
theorem shX12_lorry_37 : cX12_lorry.data.toList.drop 37 = sxX12_lorry_37 := dSn 3 shX12_lorry_34
theorem shX12_lorry_38 : cX12_lorry.data.toList.drop 38 = sxX12_lorry_38 := dSn 1 shX12_lorry_37
theorem shX12_lorry_39 : cX12_lorry.data.toList.drop 39 = sxX12_lorry_39 := dSn 1 shX12_lorry_38
theorem shX12_lorry_42 : cX12_lorry.data.toList.drop 42 = sxX12_lorry_42 := dSn 3 shX12_lorry_39
theorem shX12_lorry_43 : cX12_lorry.data.toList.drop 43 = sxX12_lorry_43 := dSn 1 shX12_lorry_42
theorem shX12_lorry_46 : cX12_lorry.data.toList.drop 46 = sxX12_lorry_46 := dSn 3 shX12_lorry_43
theorem shX12_lorry_47 : cX12_lorry.data.toList.drop 47 = sxX12_lorry_47 := dSn 1 shX12_lorry_46
theorem shX12_lorry_48 : cX12_lorry.data.toList.drop 48 = sxX12_lorry_48 := dSn 1 shX12_lorry_47
theorem dX12_lorry_0 : decode cX12_lorry 0 = .ok (.iload_n 1, 1) := oc_27 shX12_lorry_0
theorem dX12_lorry_1 : decode cX12_lorry 1 = .ok (.bipush 20, 2) := oc_16 shX12_lorry_1 sgb_20
theorem dX12_lorry_3 : decode cX12_lorry 3 = .ok (.sipush 2000, 3) := oc_17 shX12_lorry_3 sgw_7_208
theorem dX12_lorry_6 : decode cX12_lorry 6 = .ok (.invokestatic 214, 3) := oc_184 shX12_lorry_6
theorem dX12_lorry_9 : decode cX12_lorry 9 = .ok (.ifCond .eq 11, 3) := oc_153 shX12_lorry_9 sgw_0_11
theorem dX12_lorry_12 : decode cX12_lorry 12 = .ok (.aload_n 0, 1) := oc_42 shX12_lorry_12
theorem dX12_lorry_13 : decode cX12_lorry 13 = .ok (.getfield 386, 3) := oc_180 shX12_lorry_13
theorem dX12_lorry_16 : decode cX12_lorry 16 = .ok (.iconst 3, 1) := oc_6 shX12_lorry_16
theorem dX12_lorry_17 : decode cX12_lorry 17 = .ok (.if_icmp .ne 5, 3) := oc_160 shX12_lorry_17 sgw_0_5
theorem dX12_lorry_20 : decode cX12_lorry 20 = .ok (.iconst (-1), 1) := oc_2 shX12_lorry_20
theorem dX12_lorry_21 : decode cX12_lorry 21 = .ok (.ireturn, 1) := oc_172 shX12_lorry_21
theorem dX12_lorry_22 : decode cX12_lorry 22 = .ok (.aload_n 0, 1) := oc_42 shX12_lorry_22
theorem dX12_lorry_23 : decode cX12_lorry 23 = .ok (.getfield 107, 3) := oc_180 shX12_lorry_23
theorem dX12_lorry_26 : decode cX12_lorry 26 = .ok (.aload_n 0, 1) := oc_42 shX12_lorry_26
theorem dX12_lorry_27 : decode cX12_lorry 27 = .ok (.getfield 386, 3) := oc_180 shX12_lorry_27
theorem dX12_lorry_30 : decode cX12_lorry 30 = .ok (.iload_n 1, 1) := oc_27 shX12_lorry_30
theorem dX12_lorry_31 : decode cX12_lorry 31 = .ok (.iastore, 1) := oc_79 shX12_lorry_31
theorem dX12_lorry_32 : decode cX12_lorry 32 = .ok (.aload_n 0, 1) := oc_42 shX12_lorry_32
theorem dX12_lorry_33 : decode cX12_lorry 33 = .ok (.aload_n 0, 1) := oc_42 shX12_lorry_33
theorem dX12_lorry_34 : decode cX12_lorry 34 = .ok (.getfield 386, 3) := oc_180 shX12_lorry_34
theorem dX12_lorry_37 : decode cX12_lorry 37 = .ok (.iconst 1, 1) := oc_4 shX12_lorry_37
theorem dX12_lorry_38 : decode cX12_lorry 38 = .ok (.iadd, 1) := oc_96 shX12_lorry_38
theorem dX12_lorry_39 : decode cX12_lorry 39 = .ok (.putfield 386, 3) := oc_181 shX12_lorry_39
theorem dX12_lorry_42 : decode cX12_lorry 42 = .ok (.aload_n 0, 1) := oc_42 shX12_lorry_42
theorem dX12_lorry_43 : decode cX12_lorry 43 = .ok (.getfield 386, 3) := oc_180 shX12_lorry_43
theorem dX12_lorry_46 : decode cX12_lorry 46 = .ok (.iconst 1, 1) := oc_4 shX12_lorry_46
theorem dX12_lorry_47 : decode cX12_lorry 47 = .ok (.isub, 1) := oc_100 shX12_lorry_47
theorem dX12_lorry_48 : decode cX12_lorry 48 = .ok (.ireturn, 1) := oc_172 shX12_lorry_48
noncomputable def sxX12_off_52 : List UInt8 := []
noncomputable def sxX12_off_51 : List UInt8 := 172 :: sxX12_off_52
noncomputable def sxX12_off_50 : List UInt8 := 4 :: sxX12_off_51
noncomputable def sxX12_off_49 : List UInt8 := 84 :: sxX12_off_50
noncomputable def sxX12_off_48 : List UInt8 := 29 :: sxX12_off_49
noncomputable def sxX12_off_47 : List UInt8 := 96 :: sxX12_off_48
noncomputable def sxX12_off_46 : List UInt8 := 28 :: sxX12_off_47
noncomputable def sxX12_off_45 : List UInt8 := 104 :: sxX12_off_46
noncomputable def sxX12_off_44 : List UInt8 := 27 :: sxX12_off_45
noncomputable def sxX12_off_41 : List UInt8 := 17 :: 1 :: 144 :: sxX12_off_44
noncomputable def sxX12_off_38 : List UInt8 := 180 :: 0 :: 125 :: sxX12_off_41
noncomputable def sxX12_off_37 : List UInt8 := 42 :: sxX12_off_38
noncomputable def sxX12_off_36 : List UInt8 := 172 :: sxX12_off_37
noncomputable def sxX12_off_35 : List UInt8 := 3 :: sxX12_off_36
noncomputable def sxX12_off_32 : List UInt8 := 160 :: 0 :: 5 :: sxX12_off_35
noncomputable def sxX12_off_31 : List UInt8 := 29 :: sxX12_off_32
noncomputable def sxX12_off_30 : List UInt8 := 51 :: sxX12_off_31
noncomputable def sxX12_off_29 : List UInt8 := 96 :: sxX12_off_30
noncomputable def sxX12_off_28 : List UInt8 := 28 :: sxX12_off_29
noncomputable def sxX12_off_27 : List UInt8 := 104 :: sxX12_off_28
noncomputable def sxX12_off_26 : List UInt8 := 27 :: sxX12_off_27
noncomputable def sxX12_off_23 : List UInt8 := 17 :: 1 :: 144 :: sxX12_off_26
noncomputable def sxX12_off_20 : List UInt8 := 180 :: 0 :: 125 :: sxX12_off_23
noncomputable def sxX12_off_19 : List UInt8 := 42 :: sxX12_off_20
noncomputable def sxX12_off_16 : List UInt8 := 153 :: 0 :: 19 :: sxX12_off_19
noncomputable def sxX12_off_13 : List UInt8 := 184 :: 1 :: 85 :: sxX12_off_16
noncomputable def sxX12_off_12 : List UInt8 := 28 :: sxX12_off_13
noncomputable def sxX12_off_9 : List UInt8 := 162 :: 0 :: 26 :: sxX12_off_12
noncomputable def sxX12_off_6 : List UInt8 := 180 :: 1 :: 130 :: sxX12_off_9
noncomputable def sxX12_off_5 : List UInt8 := 42 :: sxX12_off_6
noncomputable def sxX12_off_4 : List UInt8 := 27 :: sxX12_off_5
noncomputable def sxX12_off_1 : List UInt8 := 155 :: 0 :: 34 :: sxX12_off_4
noncomputable def sxX12_off_0 : List UInt8 := 27 :: sxX12_off_1
theorem shX12_off_0 : cX12_off.data.toList.drop 0 = sxX12_off_0 := rfl
theorem shX12_off_1 : cX12_off.data.toList.drop 1 = sxX12_off_1 := dSn 1 shX12_off_0
theorem shX12_off_4 : cX12_off.data.toList.drop 4 = sxX12_off_4 := dSn 3 shX12_off_1
theorem shX12_off_5 : cX12_off.data.toList.drop 5 = sxX12_off_5 := dSn 1 shX12_off_4
theorem shX12_off_6 : cX12_off.data.toList.drop 6 = sxX12_off_6 := dSn 1 shX12_off_5
theorem shX12_off_9 : cX12_off.data.toList.drop 9 = sxX12_off_9 := dSn 3 shX12_off_6
theorem shX12_off_12 : cX12_off.data.toList.drop 12 = sxX12_off_12 := dSn 3 shX12_off_9
theorem shX12_off_13 : cX12_off.data.toList.drop 13 = sxX12_off_13 := dSn 1 shX12_off_12
theorem shX12_off_16 : cX12_off.data.toList.drop 16 = sxX12_off_16 := dSn 3 shX12_off_13
theorem shX12_off_19 : cX12_off.data.toList.drop 19 = sxX12_off_19 := dSn 3 shX12_off_16
theorem shX12_off_20 : cX12_off.data.toList.drop 20 = sxX12_off_20 := dSn 1 shX12_off_19
theorem shX12_off_23 : cX12_off.data.toList.drop 23 = sxX12_off_23 := dSn 3 shX12_off_20
theorem shX12_off_26 : cX12_off.data.toList.drop 26 = sxX12_off_26 := dSn 3 shX12_off_23
theorem shX12_off_27 : cX12_off.data.toList.drop 27 = sxX12_off_27 := dSn 1 shX12_off_26
theorem shX12_off_28 : cX12_off.data.toList.drop 28 = sxX12_off_28 := dSn 1 shX12_off_27
theorem shX12_off_29 : cX12_off.data.toList.drop 29 = sxX12_off_29 := dSn 1 shX12_off_28
theorem shX12_off_30 : cX12_off.data.toList.drop 30 = sxX12_off_30 := dSn 1 shX12_off_29
theorem shX12_off_31 : cX12_off.data.toList.drop 31 = sxX12_off_31 := dSn 1 shX12_off_30
theorem shX12_off_32 : cX12_off.data.toList.drop 32 = sxX12_off_32 := dSn 1 shX12_off_31
theorem shX12_off_35 : cX12_off.data.toList.drop 35 = sxX12_off_35 := dSn 3 shX12_off_32
theorem shX12_off_36 : cX12_off.data.toList.drop 36 = sxX12_off_36 := dSn 1 shX12_off_35
theorem shX12_off_37 : cX12_off.data.toList.drop 37 = sxX12_off_37 := dSn 1 shX12_off_36
theorem shX12_off_38 : cX12_off.data.toList.drop 38 = sxX12_off_38 := dSn 1 shX12_off_37
theorem shX12_off_41 : cX12_off.data.toList.drop 41 = sxX12_off_41 := dSn 3 shX12_off_38
theorem shX12_off_44 : cX12_off.data.toList.drop 44 = sxX12_off_44 := dSn 3 shX12_off_41
theorem shX12_off_45 : cX12_off.data.toList.drop 45 = sxX12_off_45 := dSn 1 shX12_off_44
theorem shX12_off_46 : cX12_off.data.toList.drop 46 = sxX12_off_46 := dSn 1 shX12_off_45
theorem shX12_off_47 : cX12_off.data.toList.drop 47 = sxX12_off_47 := dSn 1 shX12_off_46
theorem shX12_off_48 : cX12_off.data.toList.drop 48 = sxX12_off_48 := dSn 1 shX12_off_47
theorem shX12_off_49 : cX12_off.data.toList.drop 49 = sxX12_off_49 := dSn 1 shX12_off_48
theorem shX12_off_50 : cX12_off.data.toList.drop 50 = sxX12_off_50 := dSn 1 shX12_off_49
theorem shX12_off_51 : cX12_off.data.toList.drop 51 = sxX12_off_51 := dSn 1 shX12_off_50
theorem dX12_off_0 : decode cX12_off 0 = .ok (.iload_n 1, 1) := oc_27 shX12_off_0
theorem dX12_off_1 : decode cX12_off 1 = .ok (.ifCond .lt 34, 3) := oc_155 shX12_off_1 sgw_0_34
theorem dX12_off_4 : decode cX12_off 4 = .ok (.iload_n 1, 1) := oc_27 shX12_off_4
theorem dX12_off_5 : decode cX12_off 5 = .ok (.aload_n 0, 1) := oc_42 shX12_off_5
theorem dX12_off_6 : decode cX12_off 6 = .ok (.getfield 386, 3) := oc_180 shX12_off_6
theorem dX12_off_9 : decode cX12_off 9 = .ok (.if_icmp .ge 26, 3) := oc_162 shX12_off_9 sgw_0_26
theorem dX12_off_12 : decode cX12_off 12 = .ok (.iload_n 2, 1) := oc_28 shX12_off_12
theorem dX12_off_13 : decode cX12_off 13 = .ok (.invokestatic 341, 3) := oc_184 shX12_off_13
theorem dX12_off_16 : decode cX12_off 16 = .ok (.ifCond .eq 19, 3) := oc_153 shX12_off_16 sgw_0_19
theorem dX12_off_19 : decode cX12_off 19 = .ok (.aload_n 0, 1) := oc_42 shX12_off_19
theorem dX12_off_20 : decode cX12_off 20 = .ok (.getfield 125, 3) := oc_180 shX12_off_20
theorem dX12_off_23 : decode cX12_off 23 = .ok (.sipush 400, 3) := oc_17 shX12_off_23 sgw_1_144
theorem dX12_off_26 : decode cX12_off 26 = .ok (.iload_n 1, 1) := oc_27 shX12_off_26
theorem dX12_off_27 : decode cX12_off 27 = .ok (.imul, 1) := oc_104 shX12_off_27
theorem dX12_off_28 : decode cX12_off 28 = .ok (.iload_n 2, 1) := oc_28 shX12_off_28
theorem dX12_off_29 : decode cX12_off 29 = .ok (.iadd, 1) := oc_96 shX12_off_29
theorem dX12_off_30 : decode cX12_off 30 = .ok (.baload, 1) := oc_51 shX12_off_30
theorem dX12_off_31 : decode cX12_off 31 = .ok (.iload_n 3, 1) := oc_29 shX12_off_31
theorem dX12_off_32 : decode cX12_off 32 = .ok (.if_icmp .ne 5, 3) := oc_160 shX12_off_32 sgw_0_5
theorem dX12_off_35 : decode cX12_off 35 = .ok (.iconst 0, 1) := oc_3 shX12_off_35
theorem dX12_off_36 : decode cX12_off 36 = .ok (.ireturn, 1) := oc_172 shX12_off_36
theorem dX12_off_37 : decode cX12_off 37 = .ok (.aload_n 0, 1) := oc_42 shX12_off_37
theorem dX12_off_38 : decode cX12_off 38 = .ok (.getfield 125, 3) := oc_180 shX12_off_38
theorem dX12_off_41 : decode cX12_off 41 = .ok (.sipush 400, 3) := oc_17 shX12_off_41 sgw_1_144
theorem dX12_off_44 : decode cX12_off 44 = .ok (.iload_n 1, 1) := oc_27 shX12_off_44
theorem dX12_off_45 : decode cX12_off 45 = .ok (.imul, 1) := oc_104 shX12_off_45
theorem dX12_off_46 : decode cX12_off 46 = .ok (.iload_n 2, 1) := oc_28 shX12_off_46
theorem dX12_off_47 : decode cX12_off 47 = .ok (.iadd, 1) := oc_96 shX12_off_47
theorem dX12_off_48 : decode cX12_off 48 = .ok (.iload_n 3, 1) := oc_29 shX12_off_48
theorem dX12_off_49 : decode cX12_off 49 = .ok (.bastore, 1) := oc_84 shX12_off_49
theorem dX12_off_50 : decode cX12_off 50 = .ok (.iconst 1, 1) := oc_4 shX12_off_50
theorem dX12_off_51 : decode cX12_off 51 = .ok (.ireturn, 1) := oc_172 shX12_off_51
noncomputable def sxX12_roundTo_84 : List UInt8 := []
noncomputable def sxX12_roundTo_83 : List UInt8 := 172 :: sxX12_roundTo_84
noncomputable def sxX12_roundTo_82 : List UInt8 := 28 :: sxX12_roundTo_83
noncomputable def sxX12_roundTo_79 : List UInt8 := 167 :: 255 :: 191 :: sxX12_roundTo_82
noncomputable def sxX12_roundTo_76 : List UInt8 := 132 :: 3 :: 1 :: sxX12_roundTo_79
noncomputable def sxX12_roundTo_75 : List UInt8 := 61 :: sxX12_roundTo_76
noncomputable def sxX12_roundTo_74 : List UInt8 := 28 :: sxX12_roundTo_75
noncomputable def sxX12_roundTo_71 : List UInt8 := 167 :: 0 :: 4 :: sxX12_roundTo_74
noncomputable def sxX12_roundTo_69 : List UInt8 := 21 :: 4 :: sxX12_roundTo_71
noncomputable def sxX12_roundTo_66 : List UInt8 := 162 :: 0 :: 8 :: sxX12_roundTo_69
noncomputable def sxX12_roundTo_65 : List UInt8 := 28 :: sxX12_roundTo_66
noncomputable def sxX12_roundTo_63 : List UInt8 := 21 :: 4 :: sxX12_roundTo_65
noncomputable def sxX12_roundTo_61 : List UInt8 := 54 :: 4 :: sxX12_roundTo_63
noncomputable def sxX12_roundTo_60 : List UInt8 := 96 :: sxX12_roundTo_61
noncomputable def sxX12_roundTo_59 : List UInt8 := 46 :: sxX12_roundTo_60
noncomputable def sxX12_roundTo_58 : List UInt8 := 96 :: sxX12_roundTo_59
noncomputable def sxX12_roundTo_57 : List UInt8 := 29 :: sxX12_roundTo_58
noncomputable def sxX12_roundTo_56 : List UInt8 := 104 :: sxX12_roundTo_57
noncomputable def sxX12_roundTo_55 : List UInt8 := 126 :: sxX12_roundTo_56
noncomputable def sxX12_roundTo_54 : List UInt8 := 130 :: sxX12_roundTo_55
noncomputable def sxX12_roundTo_53 : List UInt8 := 2 :: sxX12_roundTo_54
noncomputable def sxX12_roundTo_52 : List UInt8 := 120 :: sxX12_roundTo_53
noncomputable def sxX12_roundTo_51 : List UInt8 := 29 :: sxX12_roundTo_52
noncomputable def sxX12_roundTo_50 : List UInt8 := 4 :: sxX12_roundTo_51
noncomputable def sxX12_roundTo_49 : List UInt8 := 27 :: sxX12_roundTo_50
noncomputable def sxX12_roundTo_47 : List UInt8 := 16 :: 8 :: sxX12_roundTo_49
noncomputable def sxX12_roundTo_44 : List UInt8 := 180 :: 0 :: 104 :: sxX12_roundTo_47
noncomputable def sxX12_roundTo_43 : List UInt8 := 42 :: sxX12_roundTo_44
noncomputable def sxX12_roundTo_40 : List UInt8 := 182 :: 1 :: 111 :: sxX12_roundTo_43
noncomputable def sxX12_roundTo_39 : List UInt8 := 46 :: sxX12_roundTo_40
noncomputable def sxX12_roundTo_38 : List UInt8 := 29 :: sxX12_roundTo_39
noncomputable def sxX12_roundTo_35 : List UInt8 := 180 :: 0 :: 101 :: sxX12_roundTo_38
noncomputable def sxX12_roundTo_34 : List UInt8 := 42 :: sxX12_roundTo_35
noncomputable def sxX12_roundTo_33 : List UInt8 := 42 :: sxX12_roundTo_34
noncomputable def sxX12_roundTo_30 : List UInt8 := 167 :: 0 :: 46 :: sxX12_roundTo_33
noncomputable def sxX12_roundTo_27 : List UInt8 := 154 :: 0 :: 6 :: sxX12_roundTo_30
noncomputable def sxX12_roundTo_26 : List UInt8 := 126 :: sxX12_roundTo_27
noncomputable def sxX12_roundTo_25 : List UInt8 := 4 :: sxX12_roundTo_26
noncomputable def sxX12_roundTo_24 : List UInt8 := 122 :: sxX12_roundTo_25
noncomputable def sxX12_roundTo_23 : List UInt8 := 29 :: sxX12_roundTo_24
noncomputable def sxX12_roundTo_22 : List UInt8 := 27 :: sxX12_roundTo_23
noncomputable def sxX12_roundTo_19 : List UInt8 := 162 :: 0 :: 63 :: sxX12_roundTo_22
noncomputable def sxX12_roundTo_16 : List UInt8 := 180 :: 1 :: 108 :: sxX12_roundTo_19
noncomputable def sxX12_roundTo_15 : List UInt8 := 42 :: sxX12_roundTo_16
noncomputable def sxX12_roundTo_14 : List UInt8 := 29 :: sxX12_roundTo_15
noncomputable def sxX12_roundTo_13 : List UInt8 := 62 :: sxX12_roundTo_14
noncomputable def sxX12_roundTo_12 : List UInt8 := 3 :: sxX12_roundTo_13
noncomputable def sxX12_roundTo_11 : List UInt8 := 61 :: sxX12_roundTo_12
noncomputable def sxX12_roundTo_8 : List UInt8 := 19 :: 1 :: 114 :: sxX12_roundTo_11
noncomputable def sxX12_roundTo_5 : List UInt8 := 167 :: 0 :: 6 :: sxX12_roundTo_8
noncomputable def sxX12_roundTo_4 : List UInt8 := 3 :: sxX12_roundTo_5
noncomputable def sxX12_roundTo_1 : List UInt8 := 154 :: 0 :: 7 :: sxX12_roundTo_4
noncomputable def sxX12_roundTo_0 : List UInt8 := 27 :: sxX12_roundTo_1
theorem shX12_roundTo_0 : cX12_roundTo.data.toList.drop 0 = sxX12_roundTo_0 := rfl
theorem shX12_roundTo_1 : cX12_roundTo.data.toList.drop 1 = sxX12_roundTo_1 := dSn 1 shX12_roundTo_0
theorem shX12_roundTo_4 : cX12_roundTo.data.toList.drop 4 = sxX12_roundTo_4 := dSn 3 shX12_roundTo_1
theorem shX12_roundTo_5 : cX12_roundTo.data.toList.drop 5 = sxX12_roundTo_5 := dSn 1 shX12_roundTo_4
theorem shX12_roundTo_8 : cX12_roundTo.data.toList.drop 8 = sxX12_roundTo_8 := dSn 3 shX12_roundTo_5
theorem shX12_roundTo_11 : cX12_roundTo.data.toList.drop 11 = sxX12_roundTo_11 := dSn 3 shX12_roundTo_8
theorem shX12_roundTo_12 : cX12_roundTo.data.toList.drop 12 = sxX12_roundTo_12 := dSn 1 shX12_roundTo_11
theorem shX12_roundTo_13 : cX12_roundTo.data.toList.drop 13 = sxX12_roundTo_13 := dSn 1 shX12_roundTo_12
theorem shX12_roundTo_14 : cX12_roundTo.data.toList.drop 14 = sxX12_roundTo_14 := dSn 1 shX12_roundTo_13
theorem shX12_roundTo_15 : cX12_roundTo.data.toList.drop 15 = sxX12_roundTo_15 := dSn 1 shX12_roundTo_14
theorem shX12_roundTo_16 : cX12_roundTo.data.toList.drop 16 = sxX12_roundTo_16 := dSn 1 shX12_roundTo_15
theorem shX12_roundTo_19 : cX12_roundTo.data.toList.drop 19 = sxX12_roundTo_19 := dSn 3 shX12_roundTo_16
theorem shX12_roundTo_22 : cX12_roundTo.data.toList.drop 22 = sxX12_roundTo_22 := dSn 3 shX12_roundTo_19
theorem shX12_roundTo_23 : cX12_roundTo.data.toList.drop 23 = sxX12_roundTo_23 := dSn 1 shX12_roundTo_22
theorem shX12_roundTo_24 : cX12_roundTo.data.toList.drop 24 = sxX12_roundTo_24 := dSn 1 shX12_roundTo_23
theorem shX12_roundTo_25 : cX12_roundTo.data.toList.drop 25 = sxX12_roundTo_25 := dSn 1 shX12_roundTo_24
theorem shX12_roundTo_26 : cX12_roundTo.data.toList.drop 26 = sxX12_roundTo_26 := dSn 1 shX12_roundTo_25
theorem shX12_roundTo_27 : cX12_roundTo.data.toList.drop 27 = sxX12_roundTo_27 := dSn 1 shX12_roundTo_26
theorem shX12_roundTo_30 : cX12_roundTo.data.toList.drop 30 = sxX12_roundTo_30 := dSn 3 shX12_roundTo_27
theorem shX12_roundTo_33 : cX12_roundTo.data.toList.drop 33 = sxX12_roundTo_33 := dSn 3 shX12_roundTo_30
theorem shX12_roundTo_34 : cX12_roundTo.data.toList.drop 34 = sxX12_roundTo_34 := dSn 1 shX12_roundTo_33
theorem shX12_roundTo_35 : cX12_roundTo.data.toList.drop 35 = sxX12_roundTo_35 := dSn 1 shX12_roundTo_34
theorem shX12_roundTo_38 : cX12_roundTo.data.toList.drop 38 = sxX12_roundTo_38 := dSn 3 shX12_roundTo_35
theorem shX12_roundTo_39 : cX12_roundTo.data.toList.drop 39 = sxX12_roundTo_39 := dSn 1 shX12_roundTo_38
theorem shX12_roundTo_40 : cX12_roundTo.data.toList.drop 40 = sxX12_roundTo_40 := dSn 1 shX12_roundTo_39
theorem shX12_roundTo_43 : cX12_roundTo.data.toList.drop 43 = sxX12_roundTo_43 := dSn 3 shX12_roundTo_40
theorem shX12_roundTo_44 : cX12_roundTo.data.toList.drop 44 = sxX12_roundTo_44 := dSn 1 shX12_roundTo_43
theorem shX12_roundTo_47 : cX12_roundTo.data.toList.drop 47 = sxX12_roundTo_47 := dSn 3 shX12_roundTo_44
theorem shX12_roundTo_49 : cX12_roundTo.data.toList.drop 49 = sxX12_roundTo_49 := dSn 2 shX12_roundTo_47
theorem shX12_roundTo_50 : cX12_roundTo.data.toList.drop 50 = sxX12_roundTo_50 := dSn 1 shX12_roundTo_49
theorem shX12_roundTo_51 : cX12_roundTo.data.toList.drop 51 = sxX12_roundTo_51 := dSn 1 shX12_roundTo_50
theorem shX12_roundTo_52 : cX12_roundTo.data.toList.drop 52 = sxX12_roundTo_52 := dSn 1 shX12_roundTo_51
theorem shX12_roundTo_53 : cX12_roundTo.data.toList.drop 53 = sxX12_roundTo_53 := dSn 1 shX12_roundTo_52
theorem shX12_roundTo_54 : cX12_roundTo.data.toList.drop 54 = sxX12_roundTo_54 := dSn 1 shX12_roundTo_53
theorem shX12_roundTo_55 : cX12_roundTo.data.toList.drop 55 = sxX12_roundTo_55 := dSn 1 shX12_roundTo_54
theorem shX12_roundTo_56 : cX12_roundTo.data.toList.drop 56 = sxX12_roundTo_56 := dSn 1 shX12_roundTo_55
theorem shX12_roundTo_57 : cX12_roundTo.data.toList.drop 57 = sxX12_roundTo_57 := dSn 1 shX12_roundTo_56
theorem shX12_roundTo_58 : cX12_roundTo.data.toList.drop 58 = sxX12_roundTo_58 := dSn 1 shX12_roundTo_57
theorem shX12_roundTo_59 : cX12_roundTo.data.toList.drop 59 = sxX12_roundTo_59 := dSn 1 shX12_roundTo_58
theorem shX12_roundTo_60 : cX12_roundTo.data.toList.drop 60 = sxX12_roundTo_60 := dSn 1 shX12_roundTo_59
theorem shX12_roundTo_61 : cX12_roundTo.data.toList.drop 61 = sxX12_roundTo_61 := dSn 1 shX12_roundTo_60
theorem shX12_roundTo_63 : cX12_roundTo.data.toList.drop 63 = sxX12_roundTo_63 := dSn 2 shX12_roundTo_61
theorem shX12_roundTo_65 : cX12_roundTo.data.toList.drop 65 = sxX12_roundTo_65 := dSn 2 shX12_roundTo_63
theorem shX12_roundTo_66 : cX12_roundTo.data.toList.drop 66 = sxX12_roundTo_66 := dSn 1 shX12_roundTo_65
theorem shX12_roundTo_69 : cX12_roundTo.data.toList.drop 69 = sxX12_roundTo_69 := dSn 3 shX12_roundTo_66
theorem shX12_roundTo_71 : cX12_roundTo.data.toList.drop 71 = sxX12_roundTo_71 := dSn 2 shX12_roundTo_69
theorem shX12_roundTo_74 : cX12_roundTo.data.toList.drop 74 = sxX12_roundTo_74 := dSn 3 shX12_roundTo_71
theorem shX12_roundTo_75 : cX12_roundTo.data.toList.drop 75 = sxX12_roundTo_75 := dSn 1 shX12_roundTo_74
theorem shX12_roundTo_76 : cX12_roundTo.data.toList.drop 76 = sxX12_roundTo_76 := dSn 1 shX12_roundTo_75
theorem shX12_roundTo_79 : cX12_roundTo.data.toList.drop 79 = sxX12_roundTo_79 := dSn 3 shX12_roundTo_76
theorem shX12_roundTo_82 : cX12_roundTo.data.toList.drop 82 = sxX12_roundTo_82 := dSn 3 shX12_roundTo_79
theorem shX12_roundTo_83 : cX12_roundTo.data.toList.drop 83 = sxX12_roundTo_83 := dSn 1 shX12_roundTo_82
theorem dX12_roundTo_0 : decode cX12_roundTo 0 = .ok (.iload_n 1, 1) := oc_27 shX12_roundTo_0
theorem dX12_roundTo_1 : decode cX12_roundTo 1 = .ok (.ifCond .ne 7, 3) := oc_154 shX12_roundTo_1 sgw_0_7
theorem dX12_roundTo_4 : decode cX12_roundTo 4 = .ok (.iconst 0, 1) := oc_3 shX12_roundTo_4
theorem dX12_roundTo_5 : decode cX12_roundTo 5 = .ok (.goto 6, 3) := oc_167 shX12_roundTo_5 sgw_0_6
theorem dX12_roundTo_8 : decode cX12_roundTo 8 = .ok (.ldc_w 370, 3) := oc_19 shX12_roundTo_8
theorem dX12_roundTo_11 : decode cX12_roundTo 11 = .ok (.istore_n 2, 1) := oc_61 shX12_roundTo_11
theorem dX12_roundTo_12 : decode cX12_roundTo 12 = .ok (.iconst 0, 1) := oc_3 shX12_roundTo_12
theorem dX12_roundTo_13 : decode cX12_roundTo 13 = .ok (.istore_n 3, 1) := oc_62 shX12_roundTo_13
theorem dX12_roundTo_14 : decode cX12_roundTo 14 = .ok (.iload_n 3, 1) := oc_29 shX12_roundTo_14
theorem dX12_roundTo_15 : decode cX12_roundTo 15 = .ok (.aload_n 0, 1) := oc_42 shX12_roundTo_15
theorem dX12_roundTo_16 : decode cX12_roundTo 16 = .ok (.getfield 364, 3) := oc_180 shX12_roundTo_16
theorem dX12_roundTo_19 : decode cX12_roundTo 19 = .ok (.if_icmp .ge 63, 3) := oc_162 shX12_roundTo_19 sgw_0_63
theorem dX12_roundTo_22 : decode cX12_roundTo 22 = .ok (.iload_n 1, 1) := oc_27 shX12_roundTo_22
theorem dX12_roundTo_23 : decode cX12_roundTo 23 = .ok (.iload_n 3, 1) := oc_29 shX12_roundTo_23
theorem dX12_roundTo_24 : decode cX12_roundTo 24 = .ok (.ishr, 1) := oc_122 shX12_roundTo_24
theorem dX12_roundTo_25 : decode cX12_roundTo 25 = .ok (.iconst 1, 1) := oc_4 shX12_roundTo_25
theorem dX12_roundTo_26 : decode cX12_roundTo 26 = .ok (.iand, 1) := oc_126 shX12_roundTo_26
theorem dX12_roundTo_27 : decode cX12_roundTo 27 = .ok (.ifCond .ne 6, 3) := oc_154 shX12_roundTo_27 sgw_0_6
theorem dX12_roundTo_30 : decode cX12_roundTo 30 = .ok (.goto 46, 3) := oc_167 shX12_roundTo_30 sgw_0_46
theorem dX12_roundTo_33 : decode cX12_roundTo 33 = .ok (.aload_n 0, 1) := oc_42 shX12_roundTo_33
theorem dX12_roundTo_34 : decode cX12_roundTo 34 = .ok (.aload_n 0, 1) := oc_42 shX12_roundTo_34
theorem dX12_roundTo_35 : decode cX12_roundTo 35 = .ok (.getfield 101, 3) := oc_180 shX12_roundTo_35
theorem dX12_roundTo_38 : decode cX12_roundTo 38 = .ok (.iload_n 3, 1) := oc_29 shX12_roundTo_38
theorem dX12_roundTo_39 : decode cX12_roundTo 39 = .ok (.iaload, 1) := oc_46 shX12_roundTo_39
theorem dX12_roundTo_40 : decode cX12_roundTo 40 = .ok (.invokevirtual 367, 3) := oc_182 shX12_roundTo_40
theorem dX12_roundTo_43 : decode cX12_roundTo 43 = .ok (.aload_n 0, 1) := oc_42 shX12_roundTo_43
theorem dX12_roundTo_44 : decode cX12_roundTo 44 = .ok (.getfield 104, 3) := oc_180 shX12_roundTo_44
theorem dX12_roundTo_47 : decode cX12_roundTo 47 = .ok (.bipush 8, 2) := oc_16 shX12_roundTo_47 sgb_8
theorem dX12_roundTo_49 : decode cX12_roundTo 49 = .ok (.iload_n 1, 1) := oc_27 shX12_roundTo_49
theorem dX12_roundTo_50 : decode cX12_roundTo 50 = .ok (.iconst 1, 1) := oc_4 shX12_roundTo_50
theorem dX12_roundTo_51 : decode cX12_roundTo 51 = .ok (.iload_n 3, 1) := oc_29 shX12_roundTo_51
theorem dX12_roundTo_52 : decode cX12_roundTo 52 = .ok (.ishl, 1) := oc_120 shX12_roundTo_52
theorem dX12_roundTo_53 : decode cX12_roundTo 53 = .ok (.iconst (-1), 1) := oc_2 shX12_roundTo_53
theorem dX12_roundTo_54 : decode cX12_roundTo 54 = .ok (.ixor, 1) := oc_130 shX12_roundTo_54
theorem dX12_roundTo_55 : decode cX12_roundTo 55 = .ok (.iand, 1) := oc_126 shX12_roundTo_55
theorem dX12_roundTo_56 : decode cX12_roundTo 56 = .ok (.imul, 1) := oc_104 shX12_roundTo_56
theorem dX12_roundTo_57 : decode cX12_roundTo 57 = .ok (.iload_n 3, 1) := oc_29 shX12_roundTo_57
theorem dX12_roundTo_58 : decode cX12_roundTo 58 = .ok (.iadd, 1) := oc_96 shX12_roundTo_58
theorem dX12_roundTo_59 : decode cX12_roundTo 59 = .ok (.iaload, 1) := oc_46 shX12_roundTo_59
theorem dX12_roundTo_60 : decode cX12_roundTo 60 = .ok (.iadd, 1) := oc_96 shX12_roundTo_60
theorem dX12_roundTo_61 : decode cX12_roundTo 61 = .ok (.istore 4, 2) := oc_54 shX12_roundTo_61
theorem dX12_roundTo_63 : decode cX12_roundTo 63 = .ok (.iload 4, 2) := oc_21 shX12_roundTo_63
theorem dX12_roundTo_65 : decode cX12_roundTo 65 = .ok (.iload_n 2, 1) := oc_28 shX12_roundTo_65
theorem dX12_roundTo_66 : decode cX12_roundTo 66 = .ok (.if_icmp .ge 8, 3) := oc_162 shX12_roundTo_66 sgw_0_8
theorem dX12_roundTo_69 : decode cX12_roundTo 69 = .ok (.iload 4, 2) := oc_21 shX12_roundTo_69
theorem dX12_roundTo_71 : decode cX12_roundTo 71 = .ok (.goto 4, 3) := oc_167 shX12_roundTo_71 sgw_0_4
theorem dX12_roundTo_74 : decode cX12_roundTo 74 = .ok (.iload_n 2, 1) := oc_28 shX12_roundTo_74
theorem dX12_roundTo_75 : decode cX12_roundTo 75 = .ok (.istore_n 2, 1) := oc_61 shX12_roundTo_75
theorem dX12_roundTo_76 : decode cX12_roundTo 76 = .ok (.iinc 3 1, 3) := oc_132 shX12_roundTo_76 sgb_1
theorem dX12_roundTo_79 : decode cX12_roundTo 79 = .ok (.goto (-65), 3) := oc_167 shX12_roundTo_79 sgw_255_191
theorem dX12_roundTo_82 : decode cX12_roundTo 82 = .ok (.iload_n 2, 1) := oc_28 shX12_roundTo_82
theorem dX12_roundTo_83 : decode cX12_roundTo 83 = .ok (.ireturn, 1) := oc_172 shX12_roundTo_83
noncomputable def sxX12_sharedBy_157 : List UInt8 := []
noncomputable def sxX12_sharedBy_156 : List UInt8 := 172 :: sxX12_sharedBy_157
noncomputable def sxX12_sharedBy_155 : List UInt8 := 28 :: sxX12_sharedBy_156
noncomputable def sxX12_sharedBy_152 : List UInt8 := 167 :: 255 :: 215 :: sxX12_sharedBy_155
noncomputable def sxX12_sharedBy_149 : List UInt8 := 132 :: 3 :: 1 :: sxX12_sharedBy_152
noncomputable def sxX12_sharedBy_148 : List UInt8 := 61 :: sxX12_sharedBy_149
noncomputable def sxX12_sharedBy_147 : List UInt8 := 96 :: sxX12_sharedBy_148
noncomputable def sxX12_sharedBy_144 : List UInt8 := 182 :: 1 :: 133 :: sxX12_sharedBy_147
noncomputable def sxX12_sharedBy_143 : List UInt8 := 46 :: sxX12_sharedBy_144
noncomputable def sxX12_sharedBy_142 : List UInt8 := 29 :: sxX12_sharedBy_143
noncomputable def sxX12_sharedBy_139 : List UInt8 := 180 :: 0 :: 113 :: sxX12_sharedBy_142
noncomputable def sxX12_sharedBy_138 : List UInt8 := 42 :: sxX12_sharedBy_139
noncomputable def sxX12_sharedBy_137 : List UInt8 := 42 :: sxX12_sharedBy_138
noncomputable def sxX12_sharedBy_136 : List UInt8 := 28 :: sxX12_sharedBy_137
noncomputable def sxX12_sharedBy_135 : List UInt8 := 172 :: sxX12_sharedBy_136
noncomputable def sxX12_sharedBy_134 : List UInt8 := 2 :: sxX12_sharedBy_135
noncomputable def sxX12_sharedBy_131 : List UInt8 := 164 :: 0 :: 5 :: sxX12_sharedBy_134
noncomputable def sxX12_sharedBy_130 : List UInt8 := 46 :: sxX12_sharedBy_131
noncomputable def sxX12_sharedBy_129 : List UInt8 := 29 :: sxX12_sharedBy_130
noncomputable def sxX12_sharedBy_126 : List UInt8 := 180 :: 0 :: 107 :: sxX12_sharedBy_129
noncomputable def sxX12_sharedBy_125 : List UInt8 := 42 :: sxX12_sharedBy_126
noncomputable def sxX12_sharedBy_124 : List UInt8 := 46 :: sxX12_sharedBy_125
noncomputable def sxX12_sharedBy_123 : List UInt8 := 29 :: sxX12_sharedBy_124
noncomputable def sxX12_sharedBy_120 : List UInt8 := 180 :: 0 :: 110 :: sxX12_sharedBy_123
noncomputable def sxX12_sharedBy_119 : List UInt8 := 42 :: sxX12_sharedBy_120
noncomputable def sxX12_sharedBy_116 : List UInt8 := 162 :: 0 :: 39 :: sxX12_sharedBy_119
noncomputable def sxX12_sharedBy_113 : List UInt8 := 180 :: 1 :: 130 :: sxX12_sharedBy_116
noncomputable def sxX12_sharedBy_112 : List UInt8 := 42 :: sxX12_sharedBy_113
noncomputable def sxX12_sharedBy_111 : List UInt8 := 29 :: sxX12_sharedBy_112
noncomputable def sxX12_sharedBy_110 : List UInt8 := 62 :: sxX12_sharedBy_111
noncomputable def sxX12_sharedBy_109 : List UInt8 := 3 :: sxX12_sharedBy_110
noncomputable def sxX12_sharedBy_108 : List UInt8 := 61 :: sxX12_sharedBy_109
noncomputable def sxX12_sharedBy_107 : List UInt8 := 3 :: sxX12_sharedBy_108
noncomputable def sxX12_sharedBy_104 : List UInt8 := 167 :: 255 :: 181 :: sxX12_sharedBy_107
noncomputable def sxX12_sharedBy_101 : List UInt8 := 132 :: 2 :: 1 :: sxX12_sharedBy_104
noncomputable def sxX12_sharedBy_100 : List UInt8 := 79 :: sxX12_sharedBy_101
noncomputable def sxX12_sharedBy_99 : List UInt8 := 128 :: sxX12_sharedBy_100
noncomputable def sxX12_sharedBy_98 : List UInt8 := 120 :: sxX12_sharedBy_99
noncomputable def sxX12_sharedBy_97 : List UInt8 := 28 :: sxX12_sharedBy_98
noncomputable def sxX12_sharedBy_96 : List UInt8 := 4 :: sxX12_sharedBy_97
noncomputable def sxX12_sharedBy_95 : List UInt8 := 46 :: sxX12_sharedBy_96
noncomputable def sxX12_sharedBy_94 : List UInt8 := 29 :: sxX12_sharedBy_95
noncomputable def sxX12_sharedBy_91 : List UInt8 := 180 :: 0 :: 113 :: sxX12_sharedBy_94
noncomputable def sxX12_sharedBy_90 : List UInt8 := 42 :: sxX12_sharedBy_91
noncomputable def sxX12_sharedBy_89 : List UInt8 := 29 :: sxX12_sharedBy_90
noncomputable def sxX12_sharedBy_86 : List UInt8 := 180 :: 0 :: 113 :: sxX12_sharedBy_89
noncomputable def sxX12_sharedBy_85 : List UInt8 := 42 :: sxX12_sharedBy_86
noncomputable def sxX12_sharedBy_84 : List UInt8 := 79 :: sxX12_sharedBy_85
noncomputable def sxX12_sharedBy_83 : List UInt8 := 96 :: sxX12_sharedBy_84
noncomputable def sxX12_sharedBy_80 : List UInt8 := 182 :: 0 :: 222 :: sxX12_sharedBy_83
noncomputable def sxX12_sharedBy_79 : List UInt8 := 27 :: sxX12_sharedBy_80
noncomputable def sxX12_sharedBy_78 : List UInt8 := 46 :: sxX12_sharedBy_79
noncomputable def sxX12_sharedBy_77 : List UInt8 := 28 :: sxX12_sharedBy_78
noncomputable def sxX12_sharedBy_74 : List UInt8 := 180 :: 0 :: 101 :: sxX12_sharedBy_77
noncomputable def sxX12_sharedBy_73 : List UInt8 := 42 :: sxX12_sharedBy_74
noncomputable def sxX12_sharedBy_72 : List UInt8 := 42 :: sxX12_sharedBy_73
noncomputable def sxX12_sharedBy_71 : List UInt8 := 46 :: sxX12_sharedBy_72
noncomputable def sxX12_sharedBy_70 : List UInt8 := 29 :: sxX12_sharedBy_71
noncomputable def sxX12_sharedBy_67 : List UInt8 := 180 :: 0 :: 110 :: sxX12_sharedBy_70
noncomputable def sxX12_sharedBy_66 : List UInt8 := 42 :: sxX12_sharedBy_67
noncomputable def sxX12_sharedBy_65 : List UInt8 := 29 :: sxX12_sharedBy_66
noncomputable def sxX12_sharedBy_62 : List UInt8 := 180 :: 0 :: 110 :: sxX12_sharedBy_65
noncomputable def sxX12_sharedBy_61 : List UInt8 := 42 :: sxX12_sharedBy_62
noncomputable def sxX12_sharedBy_60 : List UInt8 := 172 :: sxX12_sharedBy_61
noncomputable def sxX12_sharedBy_59 : List UInt8 := 2 :: sxX12_sharedBy_60
noncomputable def sxX12_sharedBy_56 : List UInt8 := 153 :: 0 :: 5 :: sxX12_sharedBy_59
noncomputable def sxX12_sharedBy_55 : List UInt8 := 51 :: sxX12_sharedBy_56
noncomputable def sxX12_sharedBy_54 : List UInt8 := 96 :: sxX12_sharedBy_55
noncomputable def sxX12_sharedBy_53 : List UInt8 := 27 :: sxX12_sharedBy_54
noncomputable def sxX12_sharedBy_52 : List UInt8 := 104 :: sxX12_sharedBy_53
noncomputable def sxX12_sharedBy_51 : List UInt8 := 29 :: sxX12_sharedBy_52
noncomputable def sxX12_sharedBy_48 : List UInt8 := 17 :: 1 :: 144 :: sxX12_sharedBy_51
noncomputable def sxX12_sharedBy_45 : List UInt8 := 180 :: 0 :: 125 :: sxX12_sharedBy_48
noncomputable def sxX12_sharedBy_44 : List UInt8 := 42 :: sxX12_sharedBy_45
noncomputable def sxX12_sharedBy_43 : List UInt8 := 62 :: sxX12_sharedBy_44
noncomputable def sxX12_sharedBy_42 : List UInt8 := 46 :: sxX12_sharedBy_43
noncomputable def sxX12_sharedBy_41 : List UInt8 := 28 :: sxX12_sharedBy_42
noncomputable def sxX12_sharedBy_38 : List UInt8 := 180 :: 0 :: 116 :: sxX12_sharedBy_41
noncomputable def sxX12_sharedBy_37 : List UInt8 := 42 :: sxX12_sharedBy_38
noncomputable def sxX12_sharedBy_34 : List UInt8 := 162 :: 0 :: 73 :: sxX12_sharedBy_37
noncomputable def sxX12_sharedBy_31 : List UInt8 := 180 :: 1 :: 108 :: sxX12_sharedBy_34
noncomputable def sxX12_sharedBy_30 : List UInt8 := 42 :: sxX12_sharedBy_31
noncomputable def sxX12_sharedBy_29 : List UInt8 := 28 :: sxX12_sharedBy_30
noncomputable def sxX12_sharedBy_28 : List UInt8 := 61 :: sxX12_sharedBy_29
noncomputable def sxX12_sharedBy_27 : List UInt8 := 3 :: sxX12_sharedBy_28
noncomputable def sxX12_sharedBy_24 : List UInt8 := 167 :: 255 :: 234 :: sxX12_sharedBy_27
noncomputable def sxX12_sharedBy_21 : List UInt8 := 132 :: 2 :: 1 :: sxX12_sharedBy_24
noncomputable def sxX12_sharedBy_20 : List UInt8 := 79 :: sxX12_sharedBy_21
noncomputable def sxX12_sharedBy_19 : List UInt8 := 3 :: sxX12_sharedBy_20
noncomputable def sxX12_sharedBy_18 : List UInt8 := 28 :: sxX12_sharedBy_19
noncomputable def sxX12_sharedBy_15 : List UInt8 := 180 :: 0 :: 113 :: sxX12_sharedBy_18
noncomputable def sxX12_sharedBy_14 : List UInt8 := 42 :: sxX12_sharedBy_15
noncomputable def sxX12_sharedBy_13 : List UInt8 := 79 :: sxX12_sharedBy_14
noncomputable def sxX12_sharedBy_12 : List UInt8 := 3 :: sxX12_sharedBy_13
noncomputable def sxX12_sharedBy_11 : List UInt8 := 28 :: sxX12_sharedBy_12
noncomputable def sxX12_sharedBy_8 : List UInt8 := 180 :: 0 :: 110 :: sxX12_sharedBy_11
noncomputable def sxX12_sharedBy_7 : List UInt8 := 42 :: sxX12_sharedBy_8
noncomputable def sxX12_sharedBy_4 : List UInt8 := 162 :: 0 :: 23 :: sxX12_sharedBy_7
noncomputable def sxX12_sharedBy_3 : List UInt8 := 6 :: sxX12_sharedBy_4
noncomputable def sxX12_sharedBy_2 : List UInt8 := 28 :: sxX12_sharedBy_3
noncomputable def sxX12_sharedBy_1 : List UInt8 := 61 :: sxX12_sharedBy_2
noncomputable def sxX12_sharedBy_0 : List UInt8 := 3 :: sxX12_sharedBy_1
theorem shX12_sharedBy_0 : cX12_sharedBy.data.toList.drop 0 = sxX12_sharedBy_0 := rfl
theorem shX12_sharedBy_1 : cX12_sharedBy.data.toList.drop 1 = sxX12_sharedBy_1 := dSn 1 shX12_sharedBy_0
theorem shX12_sharedBy_2 : cX12_sharedBy.data.toList.drop 2 = sxX12_sharedBy_2 := dSn 1 shX12_sharedBy_1
theorem shX12_sharedBy_3 : cX12_sharedBy.data.toList.drop 3 = sxX12_sharedBy_3 := dSn 1 shX12_sharedBy_2
theorem shX12_sharedBy_4 : cX12_sharedBy.data.toList.drop 4 = sxX12_sharedBy_4 := dSn 1 shX12_sharedBy_3
theorem shX12_sharedBy_7 : cX12_sharedBy.data.toList.drop 7 = sxX12_sharedBy_7 := dSn 3 shX12_sharedBy_4
theorem shX12_sharedBy_8 : cX12_sharedBy.data.toList.drop 8 = sxX12_sharedBy_8 := dSn 1 shX12_sharedBy_7
theorem shX12_sharedBy_11 : cX12_sharedBy.data.toList.drop 11 = sxX12_sharedBy_11 := dSn 3 shX12_sharedBy_8
theorem shX12_sharedBy_12 : cX12_sharedBy.data.toList.drop 12 = sxX12_sharedBy_12 := dSn 1 shX12_sharedBy_11
theorem shX12_sharedBy_13 : cX12_sharedBy.data.toList.drop 13 = sxX12_sharedBy_13 := dSn 1 shX12_sharedBy_12
theorem shX12_sharedBy_14 : cX12_sharedBy.data.toList.drop 14 = sxX12_sharedBy_14 := dSn 1 shX12_sharedBy_13
theorem shX12_sharedBy_15 : cX12_sharedBy.data.toList.drop 15 = sxX12_sharedBy_15 := dSn 1 shX12_sharedBy_14
theorem shX12_sharedBy_18 : cX12_sharedBy.data.toList.drop 18 = sxX12_sharedBy_18 := dSn 3 shX12_sharedBy_15
theorem shX12_sharedBy_19 : cX12_sharedBy.data.toList.drop 19 = sxX12_sharedBy_19 := dSn 1 shX12_sharedBy_18
theorem shX12_sharedBy_20 : cX12_sharedBy.data.toList.drop 20 = sxX12_sharedBy_20 := dSn 1 shX12_sharedBy_19
theorem shX12_sharedBy_21 : cX12_sharedBy.data.toList.drop 21 = sxX12_sharedBy_21 := dSn 1 shX12_sharedBy_20
theorem shX12_sharedBy_24 : cX12_sharedBy.data.toList.drop 24 = sxX12_sharedBy_24 := dSn 3 shX12_sharedBy_21
theorem shX12_sharedBy_27 : cX12_sharedBy.data.toList.drop 27 = sxX12_sharedBy_27 := dSn 3 shX12_sharedBy_24
theorem shX12_sharedBy_28 : cX12_sharedBy.data.toList.drop 28 = sxX12_sharedBy_28 := dSn 1 shX12_sharedBy_27
theorem shX12_sharedBy_29 : cX12_sharedBy.data.toList.drop 29 = sxX12_sharedBy_29 := dSn 1 shX12_sharedBy_28
theorem shX12_sharedBy_30 : cX12_sharedBy.data.toList.drop 30 = sxX12_sharedBy_30 := dSn 1 shX12_sharedBy_29
theorem shX12_sharedBy_31 : cX12_sharedBy.data.toList.drop 31 = sxX12_sharedBy_31 := dSn 1 shX12_sharedBy_30
theorem shX12_sharedBy_34 : cX12_sharedBy.data.toList.drop 34 = sxX12_sharedBy_34 := dSn 3 shX12_sharedBy_31
theorem shX12_sharedBy_37 : cX12_sharedBy.data.toList.drop 37 = sxX12_sharedBy_37 := dSn 3 shX12_sharedBy_34
theorem shX12_sharedBy_38 : cX12_sharedBy.data.toList.drop 38 = sxX12_sharedBy_38 := dSn 1 shX12_sharedBy_37
theorem shX12_sharedBy_41 : cX12_sharedBy.data.toList.drop 41 = sxX12_sharedBy_41 := dSn 3 shX12_sharedBy_38
theorem shX12_sharedBy_42 : cX12_sharedBy.data.toList.drop 42 = sxX12_sharedBy_42 := dSn 1 shX12_sharedBy_41
theorem shX12_sharedBy_43 : cX12_sharedBy.data.toList.drop 43 = sxX12_sharedBy_43 := dSn 1 shX12_sharedBy_42
theorem shX12_sharedBy_44 : cX12_sharedBy.data.toList.drop 44 = sxX12_sharedBy_44 := dSn 1 shX12_sharedBy_43
theorem shX12_sharedBy_45 : cX12_sharedBy.data.toList.drop 45 = sxX12_sharedBy_45 := dSn 1 shX12_sharedBy_44
theorem shX12_sharedBy_48 : cX12_sharedBy.data.toList.drop 48 = sxX12_sharedBy_48 := dSn 3 shX12_sharedBy_45
theorem shX12_sharedBy_51 : cX12_sharedBy.data.toList.drop 51 = sxX12_sharedBy_51 := dSn 3 shX12_sharedBy_48
theorem shX12_sharedBy_52 : cX12_sharedBy.data.toList.drop 52 = sxX12_sharedBy_52 := dSn 1 shX12_sharedBy_51
theorem shX12_sharedBy_53 : cX12_sharedBy.data.toList.drop 53 = sxX12_sharedBy_53 := dSn 1 shX12_sharedBy_52
theorem shX12_sharedBy_54 : cX12_sharedBy.data.toList.drop 54 = sxX12_sharedBy_54 := dSn 1 shX12_sharedBy_53
theorem shX12_sharedBy_55 : cX12_sharedBy.data.toList.drop 55 = sxX12_sharedBy_55 := dSn 1 shX12_sharedBy_54
theorem shX12_sharedBy_56 : cX12_sharedBy.data.toList.drop 56 = sxX12_sharedBy_56 := dSn 1 shX12_sharedBy_55
theorem shX12_sharedBy_59 : cX12_sharedBy.data.toList.drop 59 = sxX12_sharedBy_59 := dSn 3 shX12_sharedBy_56
theorem shX12_sharedBy_60 : cX12_sharedBy.data.toList.drop 60 = sxX12_sharedBy_60 := dSn 1 shX12_sharedBy_59
theorem shX12_sharedBy_61 : cX12_sharedBy.data.toList.drop 61 = sxX12_sharedBy_61 := dSn 1 shX12_sharedBy_60
theorem shX12_sharedBy_62 : cX12_sharedBy.data.toList.drop 62 = sxX12_sharedBy_62 := dSn 1 shX12_sharedBy_61
theorem shX12_sharedBy_65 : cX12_sharedBy.data.toList.drop 65 = sxX12_sharedBy_65 := dSn 3 shX12_sharedBy_62
theorem shX12_sharedBy_66 : cX12_sharedBy.data.toList.drop 66 = sxX12_sharedBy_66 := dSn 1 shX12_sharedBy_65
theorem shX12_sharedBy_67 : cX12_sharedBy.data.toList.drop 67 = sxX12_sharedBy_67 := dSn 1 shX12_sharedBy_66
theorem shX12_sharedBy_70 : cX12_sharedBy.data.toList.drop 70 = sxX12_sharedBy_70 := dSn 3 shX12_sharedBy_67
theorem shX12_sharedBy_71 : cX12_sharedBy.data.toList.drop 71 = sxX12_sharedBy_71 := dSn 1 shX12_sharedBy_70
theorem shX12_sharedBy_72 : cX12_sharedBy.data.toList.drop 72 = sxX12_sharedBy_72 := dSn 1 shX12_sharedBy_71
theorem shX12_sharedBy_73 : cX12_sharedBy.data.toList.drop 73 = sxX12_sharedBy_73 := dSn 1 shX12_sharedBy_72
theorem shX12_sharedBy_74 : cX12_sharedBy.data.toList.drop 74 = sxX12_sharedBy_74 := dSn 1 shX12_sharedBy_73
theorem shX12_sharedBy_77 : cX12_sharedBy.data.toList.drop 77 = sxX12_sharedBy_77 := dSn 3 shX12_sharedBy_74
theorem shX12_sharedBy_78 : cX12_sharedBy.data.toList.drop 78 = sxX12_sharedBy_78 := dSn 1 shX12_sharedBy_77
theorem shX12_sharedBy_79 : cX12_sharedBy.data.toList.drop 79 = sxX12_sharedBy_79 := dSn 1 shX12_sharedBy_78
theorem shX12_sharedBy_80 : cX12_sharedBy.data.toList.drop 80 = sxX12_sharedBy_80 := dSn 1 shX12_sharedBy_79
theorem shX12_sharedBy_83 : cX12_sharedBy.data.toList.drop 83 = sxX12_sharedBy_83 := dSn 3 shX12_sharedBy_80
theorem shX12_sharedBy_84 : cX12_sharedBy.data.toList.drop 84 = sxX12_sharedBy_84 := dSn 1 shX12_sharedBy_83
theorem shX12_sharedBy_85 : cX12_sharedBy.data.toList.drop 85 = sxX12_sharedBy_85 := dSn 1 shX12_sharedBy_84
theorem shX12_sharedBy_86 : cX12_sharedBy.data.toList.drop 86 = sxX12_sharedBy_86 := dSn 1 shX12_sharedBy_85
theorem shX12_sharedBy_89 : cX12_sharedBy.data.toList.drop 89 = sxX12_sharedBy_89 := dSn 3 shX12_sharedBy_86
theorem shX12_sharedBy_90 : cX12_sharedBy.data.toList.drop 90 = sxX12_sharedBy_90 := dSn 1 shX12_sharedBy_89
theorem shX12_sharedBy_91 : cX12_sharedBy.data.toList.drop 91 = sxX12_sharedBy_91 := dSn 1 shX12_sharedBy_90
theorem shX12_sharedBy_94 : cX12_sharedBy.data.toList.drop 94 = sxX12_sharedBy_94 := dSn 3 shX12_sharedBy_91
theorem shX12_sharedBy_95 : cX12_sharedBy.data.toList.drop 95 = sxX12_sharedBy_95 := dSn 1 shX12_sharedBy_94
theorem shX12_sharedBy_96 : cX12_sharedBy.data.toList.drop 96 = sxX12_sharedBy_96 := dSn 1 shX12_sharedBy_95
theorem shX12_sharedBy_97 : cX12_sharedBy.data.toList.drop 97 = sxX12_sharedBy_97 := dSn 1 shX12_sharedBy_96
theorem shX12_sharedBy_98 : cX12_sharedBy.data.toList.drop 98 = sxX12_sharedBy_98 := dSn 1 shX12_sharedBy_97
theorem shX12_sharedBy_99 : cX12_sharedBy.data.toList.drop 99 = sxX12_sharedBy_99 := dSn 1 shX12_sharedBy_98
theorem shX12_sharedBy_100 : cX12_sharedBy.data.toList.drop 100 = sxX12_sharedBy_100 := dSn 1 shX12_sharedBy_99
theorem shX12_sharedBy_101 : cX12_sharedBy.data.toList.drop 101 = sxX12_sharedBy_101 := dSn 1 shX12_sharedBy_100
theorem shX12_sharedBy_104 : cX12_sharedBy.data.toList.drop 104 = sxX12_sharedBy_104 := dSn 3 shX12_sharedBy_101
theorem shX12_sharedBy_107 : cX12_sharedBy.data.toList.drop 107 = sxX12_sharedBy_107 := dSn 3 shX12_sharedBy_104
theorem shX12_sharedBy_108 : cX12_sharedBy.data.toList.drop 108 = sxX12_sharedBy_108 := dSn 1 shX12_sharedBy_107
theorem shX12_sharedBy_109 : cX12_sharedBy.data.toList.drop 109 = sxX12_sharedBy_109 := dSn 1 shX12_sharedBy_108
theorem shX12_sharedBy_110 : cX12_sharedBy.data.toList.drop 110 = sxX12_sharedBy_110 := dSn 1 shX12_sharedBy_109
theorem shX12_sharedBy_111 : cX12_sharedBy.data.toList.drop 111 = sxX12_sharedBy_111 := dSn 1 shX12_sharedBy_110
theorem shX12_sharedBy_112 : cX12_sharedBy.data.toList.drop 112 = sxX12_sharedBy_112 := dSn 1 shX12_sharedBy_111
theorem shX12_sharedBy_113 : cX12_sharedBy.data.toList.drop 113 = sxX12_sharedBy_113 := dSn 1 shX12_sharedBy_112
theorem shX12_sharedBy_116 : cX12_sharedBy.data.toList.drop 116 = sxX12_sharedBy_116 := dSn 3 shX12_sharedBy_113
theorem shX12_sharedBy_119 : cX12_sharedBy.data.toList.drop 119 = sxX12_sharedBy_119 := dSn 3 shX12_sharedBy_116
theorem shX12_sharedBy_120 : cX12_sharedBy.data.toList.drop 120 = sxX12_sharedBy_120 := dSn 1 shX12_sharedBy_119
theorem shX12_sharedBy_123 : cX12_sharedBy.data.toList.drop 123 = sxX12_sharedBy_123 := dSn 3 shX12_sharedBy_120
theorem shX12_sharedBy_124 : cX12_sharedBy.data.toList.drop 124 = sxX12_sharedBy_124 := dSn 1 shX12_sharedBy_123
theorem shX12_sharedBy_125 : cX12_sharedBy.data.toList.drop 125 = sxX12_sharedBy_125 := dSn 1 shX12_sharedBy_124
theorem shX12_sharedBy_126 : cX12_sharedBy.data.toList.drop 126 = sxX12_sharedBy_126 := dSn 1 shX12_sharedBy_125
theorem shX12_sharedBy_129 : cX12_sharedBy.data.toList.drop 129 = sxX12_sharedBy_129 := dSn 3 shX12_sharedBy_126
theorem shX12_sharedBy_130 : cX12_sharedBy.data.toList.drop 130 = sxX12_sharedBy_130 := dSn 1 shX12_sharedBy_129
theorem shX12_sharedBy_131 : cX12_sharedBy.data.toList.drop 131 = sxX12_sharedBy_131 := dSn 1 shX12_sharedBy_130
theorem shX12_sharedBy_134 : cX12_sharedBy.data.toList.drop 134 = sxX12_sharedBy_134 := dSn 3 shX12_sharedBy_131
theorem shX12_sharedBy_135 : cX12_sharedBy.data.toList.drop 135 = sxX12_sharedBy_135 := dSn 1 shX12_sharedBy_134
theorem shX12_sharedBy_136 : cX12_sharedBy.data.toList.drop 136 = sxX12_sharedBy_136 := dSn 1 shX12_sharedBy_135
theorem shX12_sharedBy_137 : cX12_sharedBy.data.toList.drop 137 = sxX12_sharedBy_137 := dSn 1 shX12_sharedBy_136
theorem shX12_sharedBy_138 : cX12_sharedBy.data.toList.drop 138 = sxX12_sharedBy_138 := dSn 1 shX12_sharedBy_137
theorem shX12_sharedBy_139 : cX12_sharedBy.data.toList.drop 139 = sxX12_sharedBy_139 := dSn 1 shX12_sharedBy_138
theorem shX12_sharedBy_142 : cX12_sharedBy.data.toList.drop 142 = sxX12_sharedBy_142 := dSn 3 shX12_sharedBy_139
theorem shX12_sharedBy_143 : cX12_sharedBy.data.toList.drop 143 = sxX12_sharedBy_143 := dSn 1 shX12_sharedBy_142
theorem shX12_sharedBy_144 : cX12_sharedBy.data.toList.drop 144 = sxX12_sharedBy_144 := dSn 1 shX12_sharedBy_143
theorem shX12_sharedBy_147 : cX12_sharedBy.data.toList.drop 147 = sxX12_sharedBy_147 := dSn 3 shX12_sharedBy_144
theorem shX12_sharedBy_148 : cX12_sharedBy.data.toList.drop 148 = sxX12_sharedBy_148 := dSn 1 shX12_sharedBy_147
theorem shX12_sharedBy_149 : cX12_sharedBy.data.toList.drop 149 = sxX12_sharedBy_149 := dSn 1 shX12_sharedBy_148
theorem shX12_sharedBy_152 : cX12_sharedBy.data.toList.drop 152 = sxX12_sharedBy_152 := dSn 3 shX12_sharedBy_149
theorem shX12_sharedBy_155 : cX12_sharedBy.data.toList.drop 155 = sxX12_sharedBy_155 := dSn 3 shX12_sharedBy_152
theorem shX12_sharedBy_156 : cX12_sharedBy.data.toList.drop 156 = sxX12_sharedBy_156 := dSn 1 shX12_sharedBy_155
theorem dX12_sharedBy_0 : decode cX12_sharedBy 0 = .ok (.iconst 0, 1) := oc_3 shX12_sharedBy_0
theorem dX12_sharedBy_1 : decode cX12_sharedBy 1 = .ok (.istore_n 2, 1) := oc_61 shX12_sharedBy_1
theorem dX12_sharedBy_2 : decode cX12_sharedBy 2 = .ok (.iload_n 2, 1) := oc_28 shX12_sharedBy_2
theorem dX12_sharedBy_3 : decode cX12_sharedBy 3 = .ok (.iconst 3, 1) := oc_6 shX12_sharedBy_3
theorem dX12_sharedBy_4 : decode cX12_sharedBy 4 = .ok (.if_icmp .ge 23, 3) := oc_162 shX12_sharedBy_4 sgw_0_23
theorem dX12_sharedBy_7 : decode cX12_sharedBy 7 = .ok (.aload_n 0, 1) := oc_42 shX12_sharedBy_7
theorem dX12_sharedBy_8 : decode cX12_sharedBy 8 = .ok (.getfield 110, 3) := oc_180 shX12_sharedBy_8
theorem dX12_sharedBy_11 : decode cX12_sharedBy 11 = .ok (.iload_n 2, 1) := oc_28 shX12_sharedBy_11
theorem dX12_sharedBy_12 : decode cX12_sharedBy 12 = .ok (.iconst 0, 1) := oc_3 shX12_sharedBy_12
theorem dX12_sharedBy_13 : decode cX12_sharedBy 13 = .ok (.iastore, 1) := oc_79 shX12_sharedBy_13
theorem dX12_sharedBy_14 : decode cX12_sharedBy 14 = .ok (.aload_n 0, 1) := oc_42 shX12_sharedBy_14
theorem dX12_sharedBy_15 : decode cX12_sharedBy 15 = .ok (.getfield 113, 3) := oc_180 shX12_sharedBy_15
theorem dX12_sharedBy_18 : decode cX12_sharedBy 18 = .ok (.iload_n 2, 1) := oc_28 shX12_sharedBy_18
theorem dX12_sharedBy_19 : decode cX12_sharedBy 19 = .ok (.iconst 0, 1) := oc_3 shX12_sharedBy_19
theorem dX12_sharedBy_20 : decode cX12_sharedBy 20 = .ok (.iastore, 1) := oc_79 shX12_sharedBy_20
theorem dX12_sharedBy_21 : decode cX12_sharedBy 21 = .ok (.iinc 2 1, 3) := oc_132 shX12_sharedBy_21 sgb_1
theorem dX12_sharedBy_24 : decode cX12_sharedBy 24 = .ok (.goto (-22), 3) := oc_167 shX12_sharedBy_24 sgw_255_234
theorem dX12_sharedBy_27 : decode cX12_sharedBy 27 = .ok (.iconst 0, 1) := oc_3 shX12_sharedBy_27
theorem dX12_sharedBy_28 : decode cX12_sharedBy 28 = .ok (.istore_n 2, 1) := oc_61 shX12_sharedBy_28
theorem dX12_sharedBy_29 : decode cX12_sharedBy 29 = .ok (.iload_n 2, 1) := oc_28 shX12_sharedBy_29
theorem dX12_sharedBy_30 : decode cX12_sharedBy 30 = .ok (.aload_n 0, 1) := oc_42 shX12_sharedBy_30
theorem dX12_sharedBy_31 : decode cX12_sharedBy 31 = .ok (.getfield 364, 3) := oc_180 shX12_sharedBy_31
theorem dX12_sharedBy_34 : decode cX12_sharedBy 34 = .ok (.if_icmp .ge 73, 3) := oc_162 shX12_sharedBy_34 sgw_0_73
theorem dX12_sharedBy_37 : decode cX12_sharedBy 37 = .ok (.aload_n 0, 1) := oc_42 shX12_sharedBy_37
theorem dX12_sharedBy_38 : decode cX12_sharedBy 38 = .ok (.getfield 116, 3) := oc_180 shX12_sharedBy_38
theorem dX12_sharedBy_41 : decode cX12_sharedBy 41 = .ok (.iload_n 2, 1) := oc_28 shX12_sharedBy_41
theorem dX12_sharedBy_42 : decode cX12_sharedBy 42 = .ok (.iaload, 1) := oc_46 shX12_sharedBy_42
theorem dX12_sharedBy_43 : decode cX12_sharedBy 43 = .ok (.istore_n 3, 1) := oc_62 shX12_sharedBy_43
theorem dX12_sharedBy_44 : decode cX12_sharedBy 44 = .ok (.aload_n 0, 1) := oc_42 shX12_sharedBy_44
theorem dX12_sharedBy_45 : decode cX12_sharedBy 45 = .ok (.getfield 125, 3) := oc_180 shX12_sharedBy_45
theorem dX12_sharedBy_48 : decode cX12_sharedBy 48 = .ok (.sipush 400, 3) := oc_17 shX12_sharedBy_48 sgw_1_144
theorem dX12_sharedBy_51 : decode cX12_sharedBy 51 = .ok (.iload_n 3, 1) := oc_29 shX12_sharedBy_51
theorem dX12_sharedBy_52 : decode cX12_sharedBy 52 = .ok (.imul, 1) := oc_104 shX12_sharedBy_52
theorem dX12_sharedBy_53 : decode cX12_sharedBy 53 = .ok (.iload_n 1, 1) := oc_27 shX12_sharedBy_53
theorem dX12_sharedBy_54 : decode cX12_sharedBy 54 = .ok (.iadd, 1) := oc_96 shX12_sharedBy_54
theorem dX12_sharedBy_55 : decode cX12_sharedBy 55 = .ok (.baload, 1) := oc_51 shX12_sharedBy_55
theorem dX12_sharedBy_56 : decode cX12_sharedBy 56 = .ok (.ifCond .eq 5, 3) := oc_153 shX12_sharedBy_56 sgw_0_5
theorem dX12_sharedBy_59 : decode cX12_sharedBy 59 = .ok (.iconst (-1), 1) := oc_2 shX12_sharedBy_59
theorem dX12_sharedBy_60 : decode cX12_sharedBy 60 = .ok (.ireturn, 1) := oc_172 shX12_sharedBy_60
theorem dX12_sharedBy_61 : decode cX12_sharedBy 61 = .ok (.aload_n 0, 1) := oc_42 shX12_sharedBy_61
theorem dX12_sharedBy_62 : decode cX12_sharedBy 62 = .ok (.getfield 110, 3) := oc_180 shX12_sharedBy_62
theorem dX12_sharedBy_65 : decode cX12_sharedBy 65 = .ok (.iload_n 3, 1) := oc_29 shX12_sharedBy_65
theorem dX12_sharedBy_66 : decode cX12_sharedBy 66 = .ok (.aload_n 0, 1) := oc_42 shX12_sharedBy_66
theorem dX12_sharedBy_67 : decode cX12_sharedBy 67 = .ok (.getfield 110, 3) := oc_180 shX12_sharedBy_67
theorem dX12_sharedBy_70 : decode cX12_sharedBy 70 = .ok (.iload_n 3, 1) := oc_29 shX12_sharedBy_70
theorem dX12_sharedBy_71 : decode cX12_sharedBy 71 = .ok (.iaload, 1) := oc_46 shX12_sharedBy_71
theorem dX12_sharedBy_72 : decode cX12_sharedBy 72 = .ok (.aload_n 0, 1) := oc_42 shX12_sharedBy_72
theorem dX12_sharedBy_73 : decode cX12_sharedBy 73 = .ok (.aload_n 0, 1) := oc_42 shX12_sharedBy_73
theorem dX12_sharedBy_74 : decode cX12_sharedBy 74 = .ok (.getfield 101, 3) := oc_180 shX12_sharedBy_74
theorem dX12_sharedBy_77 : decode cX12_sharedBy 77 = .ok (.iload_n 2, 1) := oc_28 shX12_sharedBy_77
theorem dX12_sharedBy_78 : decode cX12_sharedBy 78 = .ok (.iaload, 1) := oc_46 shX12_sharedBy_78
theorem dX12_sharedBy_79 : decode cX12_sharedBy 79 = .ok (.iload_n 1, 1) := oc_27 shX12_sharedBy_79
theorem dX12_sharedBy_80 : decode cX12_sharedBy 80 = .ok (.invokevirtual 222, 3) := oc_182 shX12_sharedBy_80
theorem dX12_sharedBy_83 : decode cX12_sharedBy 83 = .ok (.iadd, 1) := oc_96 shX12_sharedBy_83
theorem dX12_sharedBy_84 : decode cX12_sharedBy 84 = .ok (.iastore, 1) := oc_79 shX12_sharedBy_84
theorem dX12_sharedBy_85 : decode cX12_sharedBy 85 = .ok (.aload_n 0, 1) := oc_42 shX12_sharedBy_85
theorem dX12_sharedBy_86 : decode cX12_sharedBy 86 = .ok (.getfield 113, 3) := oc_180 shX12_sharedBy_86
theorem dX12_sharedBy_89 : decode cX12_sharedBy 89 = .ok (.iload_n 3, 1) := oc_29 shX12_sharedBy_89
theorem dX12_sharedBy_90 : decode cX12_sharedBy 90 = .ok (.aload_n 0, 1) := oc_42 shX12_sharedBy_90
theorem dX12_sharedBy_91 : decode cX12_sharedBy 91 = .ok (.getfield 113, 3) := oc_180 shX12_sharedBy_91
theorem dX12_sharedBy_94 : decode cX12_sharedBy 94 = .ok (.iload_n 3, 1) := oc_29 shX12_sharedBy_94
theorem dX12_sharedBy_95 : decode cX12_sharedBy 95 = .ok (.iaload, 1) := oc_46 shX12_sharedBy_95
theorem dX12_sharedBy_96 : decode cX12_sharedBy 96 = .ok (.iconst 1, 1) := oc_4 shX12_sharedBy_96
theorem dX12_sharedBy_97 : decode cX12_sharedBy 97 = .ok (.iload_n 2, 1) := oc_28 shX12_sharedBy_97
theorem dX12_sharedBy_98 : decode cX12_sharedBy 98 = .ok (.ishl, 1) := oc_120 shX12_sharedBy_98
theorem dX12_sharedBy_99 : decode cX12_sharedBy 99 = .ok (.ior, 1) := oc_128 shX12_sharedBy_99
theorem dX12_sharedBy_100 : decode cX12_sharedBy 100 = .ok (.iastore, 1) := oc_79 shX12_sharedBy_100
theorem dX12_sharedBy_101 : decode cX12_sharedBy 101 = .ok (.iinc 2 1, 3) := oc_132 shX12_sharedBy_101 sgb_1
theorem dX12_sharedBy_104 : decode cX12_sharedBy 104 = .ok (.goto (-75), 3) := oc_167 shX12_sharedBy_104 sgw_255_181
theorem dX12_sharedBy_107 : decode cX12_sharedBy 107 = .ok (.iconst 0, 1) := oc_3 shX12_sharedBy_107
theorem dX12_sharedBy_108 : decode cX12_sharedBy 108 = .ok (.istore_n 2, 1) := oc_61 shX12_sharedBy_108
theorem dX12_sharedBy_109 : decode cX12_sharedBy 109 = .ok (.iconst 0, 1) := oc_3 shX12_sharedBy_109
theorem dX12_sharedBy_110 : decode cX12_sharedBy 110 = .ok (.istore_n 3, 1) := oc_62 shX12_sharedBy_110
theorem dX12_sharedBy_111 : decode cX12_sharedBy 111 = .ok (.iload_n 3, 1) := oc_29 shX12_sharedBy_111
theorem dX12_sharedBy_112 : decode cX12_sharedBy 112 = .ok (.aload_n 0, 1) := oc_42 shX12_sharedBy_112
theorem dX12_sharedBy_113 : decode cX12_sharedBy 113 = .ok (.getfield 386, 3) := oc_180 shX12_sharedBy_113
theorem dX12_sharedBy_116 : decode cX12_sharedBy 116 = .ok (.if_icmp .ge 39, 3) := oc_162 shX12_sharedBy_116 sgw_0_39
theorem dX12_sharedBy_119 : decode cX12_sharedBy 119 = .ok (.aload_n 0, 1) := oc_42 shX12_sharedBy_119
theorem dX12_sharedBy_120 : decode cX12_sharedBy 120 = .ok (.getfield 110, 3) := oc_180 shX12_sharedBy_120
theorem dX12_sharedBy_123 : decode cX12_sharedBy 123 = .ok (.iload_n 3, 1) := oc_29 shX12_sharedBy_123
theorem dX12_sharedBy_124 : decode cX12_sharedBy 124 = .ok (.iaload, 1) := oc_46 shX12_sharedBy_124
theorem dX12_sharedBy_125 : decode cX12_sharedBy 125 = .ok (.aload_n 0, 1) := oc_42 shX12_sharedBy_125
theorem dX12_sharedBy_126 : decode cX12_sharedBy 126 = .ok (.getfield 107, 3) := oc_180 shX12_sharedBy_126
theorem dX12_sharedBy_129 : decode cX12_sharedBy 129 = .ok (.iload_n 3, 1) := oc_29 shX12_sharedBy_129
theorem dX12_sharedBy_130 : decode cX12_sharedBy 130 = .ok (.iaload, 1) := oc_46 shX12_sharedBy_130
theorem dX12_sharedBy_131 : decode cX12_sharedBy 131 = .ok (.if_icmp .le 5, 3) := oc_164 shX12_sharedBy_131 sgw_0_5
theorem dX12_sharedBy_134 : decode cX12_sharedBy 134 = .ok (.iconst (-1), 1) := oc_2 shX12_sharedBy_134
theorem dX12_sharedBy_135 : decode cX12_sharedBy 135 = .ok (.ireturn, 1) := oc_172 shX12_sharedBy_135
theorem dX12_sharedBy_136 : decode cX12_sharedBy 136 = .ok (.iload_n 2, 1) := oc_28 shX12_sharedBy_136
theorem dX12_sharedBy_137 : decode cX12_sharedBy 137 = .ok (.aload_n 0, 1) := oc_42 shX12_sharedBy_137
theorem dX12_sharedBy_138 : decode cX12_sharedBy 138 = .ok (.aload_n 0, 1) := oc_42 shX12_sharedBy_138
theorem dX12_sharedBy_139 : decode cX12_sharedBy 139 = .ok (.getfield 113, 3) := oc_180 shX12_sharedBy_139
theorem dX12_sharedBy_142 : decode cX12_sharedBy 142 = .ok (.iload_n 3, 1) := oc_29 shX12_sharedBy_142
theorem dX12_sharedBy_143 : decode cX12_sharedBy 143 = .ok (.iaload, 1) := oc_46 shX12_sharedBy_143
theorem dX12_sharedBy_144 : decode cX12_sharedBy 144 = .ok (.invokevirtual 389, 3) := oc_182 shX12_sharedBy_144
theorem dX12_sharedBy_147 : decode cX12_sharedBy 147 = .ok (.iadd, 1) := oc_96 shX12_sharedBy_147
theorem dX12_sharedBy_148 : decode cX12_sharedBy 148 = .ok (.istore_n 2, 1) := oc_61 shX12_sharedBy_148
theorem dX12_sharedBy_149 : decode cX12_sharedBy 149 = .ok (.iinc 3 1, 3) := oc_132 shX12_sharedBy_149 sgb_1
theorem dX12_sharedBy_152 : decode cX12_sharedBy 152 = .ok (.goto (-41), 3) := oc_167 shX12_sharedBy_152 sgw_255_215
theorem dX12_sharedBy_155 : decode cX12_sharedBy 155 = .ok (.iload_n 2, 1) := oc_28 shX12_sharedBy_155
theorem dX12_sharedBy_156 : decode cX12_sharedBy 156 = .ok (.ireturn, 1) := oc_172 shX12_sharedBy_156
noncomputable def sxX12_shared_263 : List UInt8 := []
noncomputable def sxX12_shared_262 : List UInt8 := 172 :: sxX12_shared_263
noncomputable def sxX12_shared_261 : List UInt8 := 2 :: sxX12_shared_262
noncomputable def sxX12_shared_258 : List UInt8 := 167 :: 255 :: 225 :: sxX12_shared_261
noncomputable def sxX12_shared_255 : List UInt8 := 132 :: 6 :: 1 :: sxX12_shared_258
noncomputable def sxX12_shared_254 : List UInt8 := 172 :: sxX12_shared_255
noncomputable def sxX12_shared_253 : List UInt8 := 46 :: sxX12_shared_254
noncomputable def sxX12_shared_251 : List UInt8 := 21 :: 6 :: sxX12_shared_253
noncomputable def sxX12_shared_248 : List UInt8 := 180 :: 0 :: 119 :: sxX12_shared_251
noncomputable def sxX12_shared_247 : List UInt8 := 42 :: sxX12_shared_248
noncomputable def sxX12_shared_244 : List UInt8 := 160 :: 0 :: 11 :: sxX12_shared_247
noncomputable def sxX12_shared_243 : List UInt8 := 29 :: sxX12_shared_244
noncomputable def sxX12_shared_242 : List UInt8 := 46 :: sxX12_shared_243
noncomputable def sxX12_shared_240 : List UInt8 := 21 :: 6 :: sxX12_shared_242
noncomputable def sxX12_shared_237 : List UInt8 := 180 :: 0 :: 101 :: sxX12_shared_240
noncomputable def sxX12_shared_236 : List UInt8 := 42 :: sxX12_shared_237
noncomputable def sxX12_shared_233 : List UInt8 := 162 :: 0 :: 28 :: sxX12_shared_236
noncomputable def sxX12_shared_230 : List UInt8 := 180 :: 1 :: 108 :: sxX12_shared_233
noncomputable def sxX12_shared_229 : List UInt8 := 42 :: sxX12_shared_230
noncomputable def sxX12_shared_227 : List UInt8 := 21 :: 6 :: sxX12_shared_229
noncomputable def sxX12_shared_225 : List UInt8 := 54 :: 6 :: sxX12_shared_227
noncomputable def sxX12_shared_224 : List UInt8 := 3 :: sxX12_shared_225
noncomputable def sxX12_shared_223 : List UInt8 := 172 :: sxX12_shared_224
noncomputable def sxX12_shared_221 : List UInt8 := 21 :: 5 :: sxX12_shared_223
noncomputable def sxX12_shared_218 : List UInt8 := 160 :: 0 :: 6 :: sxX12_shared_221
noncomputable def sxX12_shared_217 : List UInt8 := 2 :: sxX12_shared_218
noncomputable def sxX12_shared_216 : List UInt8 := 29 :: sxX12_shared_217
noncomputable def sxX12_shared_215 : List UInt8 := 172 :: sxX12_shared_216
noncomputable def sxX12_shared_213 : List UInt8 := 16 :: 254 :: sxX12_shared_215
noncomputable def sxX12_shared_210 : List UInt8 := 160 :: 0 :: 6 :: sxX12_shared_213
noncomputable def sxX12_shared_209 : List UInt8 := 2 :: sxX12_shared_210
noncomputable def sxX12_shared_207 : List UInt8 := 21 :: 5 :: sxX12_shared_209
noncomputable def sxX12_shared_204 : List UInt8 := 167 :: 255 :: 135 :: sxX12_shared_207
noncomputable def sxX12_shared_201 : List UInt8 := 132 :: 6 :: 1 :: sxX12_shared_204
noncomputable def sxX12_shared_198 : List UInt8 := 167 :: 255 :: 230 :: sxX12_shared_201
noncomputable def sxX12_shared_195 : List UInt8 := 132 :: 9 :: 1 :: sxX12_shared_198
noncomputable def sxX12_shared_194 : List UInt8 := 79 :: sxX12_shared_195
noncomputable def sxX12_shared_193 : List UInt8 := 46 :: sxX12_shared_194
noncomputable def sxX12_shared_191 : List UInt8 := 21 :: 9 :: sxX12_shared_193
noncomputable def sxX12_shared_188 : List UInt8 := 180 :: 0 :: 116 :: sxX12_shared_191
noncomputable def sxX12_shared_187 : List UInt8 := 42 :: sxX12_shared_188
noncomputable def sxX12_shared_185 : List UInt8 := 21 :: 9 :: sxX12_shared_187
noncomputable def sxX12_shared_182 : List UInt8 := 180 :: 0 :: 119 :: sxX12_shared_185
noncomputable def sxX12_shared_181 : List UInt8 := 42 :: sxX12_shared_182
noncomputable def sxX12_shared_178 : List UInt8 := 162 :: 0 :: 23 :: sxX12_shared_181
noncomputable def sxX12_shared_175 : List UInt8 := 180 :: 1 :: 108 :: sxX12_shared_178
noncomputable def sxX12_shared_174 : List UInt8 := 42 :: sxX12_shared_175
noncomputable def sxX12_shared_172 : List UInt8 := 21 :: 9 :: sxX12_shared_174
noncomputable def sxX12_shared_170 : List UInt8 := 54 :: 9 :: sxX12_shared_172
noncomputable def sxX12_shared_169 : List UInt8 := 3 :: sxX12_shared_170
noncomputable def sxX12_shared_167 : List UInt8 := 54 :: 5 :: sxX12_shared_169
noncomputable def sxX12_shared_165 : List UInt8 := 21 :: 8 :: sxX12_shared_167
noncomputable def sxX12_shared_162 : List UInt8 := 167 :: 0 :: 39 :: sxX12_shared_165
noncomputable def sxX12_shared_159 : List UInt8 := 161 :: 0 :: 6 :: sxX12_shared_162
noncomputable def sxX12_shared_157 : List UInt8 := 21 :: 5 :: sxX12_shared_159
noncomputable def sxX12_shared_155 : List UInt8 := 21 :: 8 :: sxX12_shared_157
noncomputable def sxX12_shared_152 : List UInt8 := 159 :: 0 :: 13 :: sxX12_shared_155
noncomputable def sxX12_shared_151 : List UInt8 := 2 :: sxX12_shared_152
noncomputable def sxX12_shared_149 : List UInt8 := 21 :: 5 :: sxX12_shared_151
noncomputable def sxX12_shared_146 : List UInt8 := 159 :: 0 :: 55 :: sxX12_shared_149
noncomputable def sxX12_shared_145 : List UInt8 := 2 :: sxX12_shared_146
noncomputable def sxX12_shared_143 : List UInt8 := 21 :: 8 :: sxX12_shared_145
noncomputable def sxX12_shared_141 : List UInt8 := 54 :: 8 :: sxX12_shared_143
noncomputable def sxX12_shared_138 : List UInt8 := 182 :: 1 :: 136 :: sxX12_shared_141
noncomputable def sxX12_shared_137 : List UInt8 := 27 :: sxX12_shared_138
noncomputable def sxX12_shared_136 : List UInt8 := 42 :: sxX12_shared_137
noncomputable def sxX12_shared_133 : List UInt8 := 167 :: 255 :: 225 :: sxX12_shared_136
noncomputable def sxX12_shared_130 : List UInt8 := 132 :: 8 :: 255 :: sxX12_shared_133
noncomputable def sxX12_shared_128 : List UInt8 := 54 :: 7 :: sxX12_shared_130
noncomputable def sxX12_shared_127 : List UInt8 := 108 :: sxX12_shared_128
noncomputable def sxX12_shared_124 : List UInt8 := 180 :: 1 :: 130 :: sxX12_shared_127
noncomputable def sxX12_shared_123 : List UInt8 := 42 :: sxX12_shared_124
noncomputable def sxX12_shared_121 : List UInt8 := 21 :: 7 :: sxX12_shared_123
noncomputable def sxX12_shared_120 : List UInt8 := 79 :: sxX12_shared_121
noncomputable def sxX12_shared_119 : List UInt8 := 112 :: sxX12_shared_120
noncomputable def sxX12_shared_116 : List UInt8 := 180 :: 1 :: 130 :: sxX12_shared_119
noncomputable def sxX12_shared_115 : List UInt8 := 42 :: sxX12_shared_116
noncomputable def sxX12_shared_113 : List UInt8 := 21 :: 7 :: sxX12_shared_115
noncomputable def sxX12_shared_111 : List UInt8 := 21 :: 8 :: sxX12_shared_113
noncomputable def sxX12_shared_108 : List UInt8 := 180 :: 0 :: 116 :: sxX12_shared_111
noncomputable def sxX12_shared_107 : List UInt8 := 42 :: sxX12_shared_108
noncomputable def sxX12_shared_104 : List UInt8 := 155 :: 0 :: 32 :: sxX12_shared_107
noncomputable def sxX12_shared_102 : List UInt8 := 21 :: 8 :: sxX12_shared_104
noncomputable def sxX12_shared_100 : List UInt8 := 54 :: 8 :: sxX12_shared_102
noncomputable def sxX12_shared_99 : List UInt8 := 100 :: sxX12_shared_100
noncomputable def sxX12_shared_98 : List UInt8 := 4 :: sxX12_shared_99
noncomputable def sxX12_shared_95 : List UInt8 := 180 :: 1 :: 108 :: sxX12_shared_98
noncomputable def sxX12_shared_94 : List UInt8 := 42 :: sxX12_shared_95
noncomputable def sxX12_shared_92 : List UInt8 := 54 :: 7 :: sxX12_shared_94
noncomputable def sxX12_shared_90 : List UInt8 := 21 :: 6 :: sxX12_shared_92
noncomputable def sxX12_shared_87 : List UInt8 := 162 :: 0 :: 120 :: sxX12_shared_90
noncomputable def sxX12_shared_85 : List UInt8 := 21 :: 4 :: sxX12_shared_87
noncomputable def sxX12_shared_83 : List UInt8 := 21 :: 6 :: sxX12_shared_85
noncomputable def sxX12_shared_81 : List UInt8 := 54 :: 6 :: sxX12_shared_83
noncomputable def sxX12_shared_80 : List UInt8 := 3 :: sxX12_shared_81
noncomputable def sxX12_shared_78 : List UInt8 := 54 :: 5 :: sxX12_shared_80
noncomputable def sxX12_shared_77 : List UInt8 := 2 :: sxX12_shared_78
noncomputable def sxX12_shared_74 : List UInt8 := 167 :: 255 :: 235 :: sxX12_shared_77
noncomputable def sxX12_shared_71 : List UInt8 := 132 :: 5 :: 1 :: sxX12_shared_74
noncomputable def sxX12_shared_69 : List UInt8 := 54 :: 4 :: sxX12_shared_71
noncomputable def sxX12_shared_68 : List UInt8 := 104 :: sxX12_shared_69
noncomputable def sxX12_shared_65 : List UInt8 := 180 :: 1 :: 130 :: sxX12_shared_68
noncomputable def sxX12_shared_64 : List UInt8 := 42 :: sxX12_shared_65
noncomputable def sxX12_shared_62 : List UInt8 := 21 :: 4 :: sxX12_shared_64
noncomputable def sxX12_shared_59 : List UInt8 := 162 :: 0 :: 18 :: sxX12_shared_62
noncomputable def sxX12_shared_56 : List UInt8 := 180 :: 1 :: 108 :: sxX12_shared_59
noncomputable def sxX12_shared_55 : List UInt8 := 42 :: sxX12_shared_56
noncomputable def sxX12_shared_53 : List UInt8 := 21 :: 5 :: sxX12_shared_55
noncomputable def sxX12_shared_51 : List UInt8 := 54 :: 5 :: sxX12_shared_53
noncomputable def sxX12_shared_50 : List UInt8 := 3 :: sxX12_shared_51
noncomputable def sxX12_shared_48 : List UInt8 := 54 :: 4 :: sxX12_shared_50
noncomputable def sxX12_shared_47 : List UInt8 := 4 :: sxX12_shared_48
noncomputable def sxX12_shared_46 : List UInt8 := 172 :: sxX12_shared_47
noncomputable def sxX12_shared_44 : List UInt8 := 16 :: 254 :: sxX12_shared_46
noncomputable def sxX12_shared_41 : List UInt8 := 154 :: 0 :: 6 :: sxX12_shared_44
noncomputable def sxX12_shared_38 : List UInt8 := 182 :: 1 :: 124 :: sxX12_shared_41
noncomputable def sxX12_shared_36 : List UInt8 := 16 :: 6 :: sxX12_shared_38
noncomputable def sxX12_shared_35 : List UInt8 := 28 :: sxX12_shared_36
noncomputable def sxX12_shared_34 : List UInt8 := 27 :: sxX12_shared_35
noncomputable def sxX12_shared_33 : List UInt8 := 42 :: sxX12_shared_34
noncomputable def sxX12_shared_32 : List UInt8 := 172 :: sxX12_shared_33
noncomputable def sxX12_shared_31 : List UInt8 := 2 :: sxX12_shared_32
noncomputable def sxX12_shared_28 : List UInt8 := 154 :: 0 :: 5 :: sxX12_shared_31
noncomputable def sxX12_shared_25 : List UInt8 := 182 :: 0 :: 218 :: sxX12_shared_28
noncomputable def sxX12_shared_24 : List UInt8 := 29 :: sxX12_shared_25
noncomputable def sxX12_shared_23 : List UInt8 := 42 :: sxX12_shared_24
noncomputable def sxX12_shared_20 : List UInt8 := 159 :: 0 :: 13 :: sxX12_shared_23
noncomputable def sxX12_shared_19 : List UInt8 := 2 :: sxX12_shared_20
noncomputable def sxX12_shared_18 : List UInt8 := 29 :: sxX12_shared_19
noncomputable def sxX12_shared_15 : List UInt8 := 153 :: 0 :: 16 :: sxX12_shared_18
noncomputable def sxX12_shared_12 : List UInt8 := 184 :: 0 :: 214 :: sxX12_shared_15
noncomputable def sxX12_shared_9 : List UInt8 := 17 :: 1 :: 144 :: sxX12_shared_12
noncomputable def sxX12_shared_8 : List UInt8 := 4 :: sxX12_shared_9
noncomputable def sxX12_shared_7 : List UInt8 := 28 :: sxX12_shared_8
noncomputable def sxX12_shared_4 : List UInt8 := 153 :: 0 :: 27 :: sxX12_shared_7
noncomputable def sxX12_shared_1 : List UInt8 := 184 :: 1 :: 85 :: sxX12_shared_4
noncomputable def sxX12_shared_0 : List UInt8 := 27 :: sxX12_shared_1
theorem shX12_shared_0 : cX12_shared.data.toList.drop 0 = sxX12_shared_0 := rfl
theorem shX12_shared_1 : cX12_shared.data.toList.drop 1 = sxX12_shared_1 := dSn 1 shX12_shared_0
theorem shX12_shared_4 : cX12_shared.data.toList.drop 4 = sxX12_shared_4 := dSn 3 shX12_shared_1
theorem shX12_shared_7 : cX12_shared.data.toList.drop 7 = sxX12_shared_7 := dSn 3 shX12_shared_4
theorem shX12_shared_8 : cX12_shared.data.toList.drop 8 = sxX12_shared_8 := dSn 1 shX12_shared_7
theorem shX12_shared_9 : cX12_shared.data.toList.drop 9 = sxX12_shared_9 := dSn 1 shX12_shared_8
theorem shX12_shared_12 : cX12_shared.data.toList.drop 12 = sxX12_shared_12 := dSn 3 shX12_shared_9
theorem shX12_shared_15 : cX12_shared.data.toList.drop 15 = sxX12_shared_15 := dSn 3 shX12_shared_12
theorem shX12_shared_18 : cX12_shared.data.toList.drop 18 = sxX12_shared_18 := dSn 3 shX12_shared_15
theorem shX12_shared_19 : cX12_shared.data.toList.drop 19 = sxX12_shared_19 := dSn 1 shX12_shared_18
theorem shX12_shared_20 : cX12_shared.data.toList.drop 20 = sxX12_shared_20 := dSn 1 shX12_shared_19
theorem shX12_shared_23 : cX12_shared.data.toList.drop 23 = sxX12_shared_23 := dSn 3 shX12_shared_20
theorem shX12_shared_24 : cX12_shared.data.toList.drop 24 = sxX12_shared_24 := dSn 1 shX12_shared_23
theorem shX12_shared_25 : cX12_shared.data.toList.drop 25 = sxX12_shared_25 := dSn 1 shX12_shared_24
theorem shX12_shared_28 : cX12_shared.data.toList.drop 28 = sxX12_shared_28 := dSn 3 shX12_shared_25
theorem shX12_shared_31 : cX12_shared.data.toList.drop 31 = sxX12_shared_31 := dSn 3 shX12_shared_28
theorem shX12_shared_32 : cX12_shared.data.toList.drop 32 = sxX12_shared_32 := dSn 1 shX12_shared_31
theorem shX12_shared_33 : cX12_shared.data.toList.drop 33 = sxX12_shared_33 := dSn 1 shX12_shared_32
theorem shX12_shared_34 : cX12_shared.data.toList.drop 34 = sxX12_shared_34 := dSn 1 shX12_shared_33
theorem shX12_shared_35 : cX12_shared.data.toList.drop 35 = sxX12_shared_35 := dSn 1 shX12_shared_34
theorem shX12_shared_36 : cX12_shared.data.toList.drop 36 = sxX12_shared_36 := dSn 1 shX12_shared_35
theorem shX12_shared_38 : cX12_shared.data.toList.drop 38 = sxX12_shared_38 := dSn 2 shX12_shared_36
theorem shX12_shared_41 : cX12_shared.data.toList.drop 41 = sxX12_shared_41 := dSn 3 shX12_shared_38
theorem shX12_shared_44 : cX12_shared.data.toList.drop 44 = sxX12_shared_44 := dSn 3 shX12_shared_41
theorem shX12_shared_46 : cX12_shared.data.toList.drop 46 = sxX12_shared_46 := dSn 2 shX12_shared_44
theorem shX12_shared_47 : cX12_shared.data.toList.drop 47 = sxX12_shared_47 := dSn 1 shX12_shared_46
theorem shX12_shared_48 : cX12_shared.data.toList.drop 48 = sxX12_shared_48 := dSn 1 shX12_shared_47
theorem shX12_shared_50 : cX12_shared.data.toList.drop 50 = sxX12_shared_50 := dSn 2 shX12_shared_48
theorem shX12_shared_51 : cX12_shared.data.toList.drop 51 = sxX12_shared_51 := dSn 1 shX12_shared_50
theorem shX12_shared_53 : cX12_shared.data.toList.drop 53 = sxX12_shared_53 := dSn 2 shX12_shared_51
theorem shX12_shared_55 : cX12_shared.data.toList.drop 55 = sxX12_shared_55 := dSn 2 shX12_shared_53
theorem shX12_shared_56 : cX12_shared.data.toList.drop 56 = sxX12_shared_56 := dSn 1 shX12_shared_55
theorem shX12_shared_59 : cX12_shared.data.toList.drop 59 = sxX12_shared_59 := dSn 3 shX12_shared_56
theorem shX12_shared_62 : cX12_shared.data.toList.drop 62 = sxX12_shared_62 := dSn 3 shX12_shared_59
theorem shX12_shared_64 : cX12_shared.data.toList.drop 64 = sxX12_shared_64 := dSn 2 shX12_shared_62
theorem shX12_shared_65 : cX12_shared.data.toList.drop 65 = sxX12_shared_65 := dSn 1 shX12_shared_64
theorem shX12_shared_68 : cX12_shared.data.toList.drop 68 = sxX12_shared_68 := dSn 3 shX12_shared_65
theorem shX12_shared_69 : cX12_shared.data.toList.drop 69 = sxX12_shared_69 := dSn 1 shX12_shared_68
theorem shX12_shared_71 : cX12_shared.data.toList.drop 71 = sxX12_shared_71 := dSn 2 shX12_shared_69
theorem shX12_shared_74 : cX12_shared.data.toList.drop 74 = sxX12_shared_74 := dSn 3 shX12_shared_71
theorem shX12_shared_77 : cX12_shared.data.toList.drop 77 = sxX12_shared_77 := dSn 3 shX12_shared_74
theorem shX12_shared_78 : cX12_shared.data.toList.drop 78 = sxX12_shared_78 := dSn 1 shX12_shared_77
theorem shX12_shared_80 : cX12_shared.data.toList.drop 80 = sxX12_shared_80 := dSn 2 shX12_shared_78
theorem shX12_shared_81 : cX12_shared.data.toList.drop 81 = sxX12_shared_81 := dSn 1 shX12_shared_80
theorem shX12_shared_83 : cX12_shared.data.toList.drop 83 = sxX12_shared_83 := dSn 2 shX12_shared_81
theorem shX12_shared_85 : cX12_shared.data.toList.drop 85 = sxX12_shared_85 := dSn 2 shX12_shared_83
theorem shX12_shared_87 : cX12_shared.data.toList.drop 87 = sxX12_shared_87 := dSn 2 shX12_shared_85
theorem shX12_shared_90 : cX12_shared.data.toList.drop 90 = sxX12_shared_90 := dSn 3 shX12_shared_87
theorem shX12_shared_92 : cX12_shared.data.toList.drop 92 = sxX12_shared_92 := dSn 2 shX12_shared_90
theorem shX12_shared_94 : cX12_shared.data.toList.drop 94 = sxX12_shared_94 := dSn 2 shX12_shared_92
theorem shX12_shared_95 : cX12_shared.data.toList.drop 95 = sxX12_shared_95 := dSn 1 shX12_shared_94
theorem shX12_shared_98 : cX12_shared.data.toList.drop 98 = sxX12_shared_98 := dSn 3 shX12_shared_95
theorem shX12_shared_99 : cX12_shared.data.toList.drop 99 = sxX12_shared_99 := dSn 1 shX12_shared_98
theorem shX12_shared_100 : cX12_shared.data.toList.drop 100 = sxX12_shared_100 := dSn 1 shX12_shared_99
theorem shX12_shared_102 : cX12_shared.data.toList.drop 102 = sxX12_shared_102 := dSn 2 shX12_shared_100
theorem shX12_shared_104 : cX12_shared.data.toList.drop 104 = sxX12_shared_104 := dSn 2 shX12_shared_102
theorem shX12_shared_107 : cX12_shared.data.toList.drop 107 = sxX12_shared_107 := dSn 3 shX12_shared_104
theorem shX12_shared_108 : cX12_shared.data.toList.drop 108 = sxX12_shared_108 := dSn 1 shX12_shared_107
theorem shX12_shared_111 : cX12_shared.data.toList.drop 111 = sxX12_shared_111 := dSn 3 shX12_shared_108
theorem shX12_shared_113 : cX12_shared.data.toList.drop 113 = sxX12_shared_113 := dSn 2 shX12_shared_111
theorem shX12_shared_115 : cX12_shared.data.toList.drop 115 = sxX12_shared_115 := dSn 2 shX12_shared_113
theorem shX12_shared_116 : cX12_shared.data.toList.drop 116 = sxX12_shared_116 := dSn 1 shX12_shared_115
theorem shX12_shared_119 : cX12_shared.data.toList.drop 119 = sxX12_shared_119 := dSn 3 shX12_shared_116
theorem shX12_shared_120 : cX12_shared.data.toList.drop 120 = sxX12_shared_120 := dSn 1 shX12_shared_119
theorem shX12_shared_121 : cX12_shared.data.toList.drop 121 = sxX12_shared_121 := dSn 1 shX12_shared_120
theorem shX12_shared_123 : cX12_shared.data.toList.drop 123 = sxX12_shared_123 := dSn 2 shX12_shared_121
theorem shX12_shared_124 : cX12_shared.data.toList.drop 124 = sxX12_shared_124 := dSn 1 shX12_shared_123
theorem shX12_shared_127 : cX12_shared.data.toList.drop 127 = sxX12_shared_127 := dSn 3 shX12_shared_124
theorem shX12_shared_128 : cX12_shared.data.toList.drop 128 = sxX12_shared_128 := dSn 1 shX12_shared_127
theorem shX12_shared_130 : cX12_shared.data.toList.drop 130 = sxX12_shared_130 := dSn 2 shX12_shared_128
theorem shX12_shared_133 : cX12_shared.data.toList.drop 133 = sxX12_shared_133 := dSn 3 shX12_shared_130
theorem shX12_shared_136 : cX12_shared.data.toList.drop 136 = sxX12_shared_136 := dSn 3 shX12_shared_133
theorem shX12_shared_137 : cX12_shared.data.toList.drop 137 = sxX12_shared_137 := dSn 1 shX12_shared_136
theorem shX12_shared_138 : cX12_shared.data.toList.drop 138 = sxX12_shared_138 := dSn 1 shX12_shared_137
theorem shX12_shared_141 : cX12_shared.data.toList.drop 141 = sxX12_shared_141 := dSn 3 shX12_shared_138
theorem shX12_shared_143 : cX12_shared.data.toList.drop 143 = sxX12_shared_143 := dSn 2 shX12_shared_141
theorem shX12_shared_145 : cX12_shared.data.toList.drop 145 = sxX12_shared_145 := dSn 2 shX12_shared_143
theorem shX12_shared_146 : cX12_shared.data.toList.drop 146 = sxX12_shared_146 := dSn 1 shX12_shared_145
theorem shX12_shared_149 : cX12_shared.data.toList.drop 149 = sxX12_shared_149 := dSn 3 shX12_shared_146
theorem shX12_shared_151 : cX12_shared.data.toList.drop 151 = sxX12_shared_151 := dSn 2 shX12_shared_149
theorem shX12_shared_152 : cX12_shared.data.toList.drop 152 = sxX12_shared_152 := dSn 1 shX12_shared_151
theorem shX12_shared_155 : cX12_shared.data.toList.drop 155 = sxX12_shared_155 := dSn 3 shX12_shared_152
theorem shX12_shared_157 : cX12_shared.data.toList.drop 157 = sxX12_shared_157 := dSn 2 shX12_shared_155
theorem shX12_shared_159 : cX12_shared.data.toList.drop 159 = sxX12_shared_159 := dSn 2 shX12_shared_157
theorem shX12_shared_162 : cX12_shared.data.toList.drop 162 = sxX12_shared_162 := dSn 3 shX12_shared_159
theorem shX12_shared_165 : cX12_shared.data.toList.drop 165 = sxX12_shared_165 := dSn 3 shX12_shared_162
theorem shX12_shared_167 : cX12_shared.data.toList.drop 167 = sxX12_shared_167 := dSn 2 shX12_shared_165
theorem shX12_shared_169 : cX12_shared.data.toList.drop 169 = sxX12_shared_169 := dSn 2 shX12_shared_167
theorem shX12_shared_170 : cX12_shared.data.toList.drop 170 = sxX12_shared_170 := dSn 1 shX12_shared_169
theorem shX12_shared_172 : cX12_shared.data.toList.drop 172 = sxX12_shared_172 := dSn 2 shX12_shared_170
theorem shX12_shared_174 : cX12_shared.data.toList.drop 174 = sxX12_shared_174 := dSn 2 shX12_shared_172
theorem shX12_shared_175 : cX12_shared.data.toList.drop 175 = sxX12_shared_175 := dSn 1 shX12_shared_174
theorem shX12_shared_178 : cX12_shared.data.toList.drop 178 = sxX12_shared_178 := dSn 3 shX12_shared_175
theorem shX12_shared_181 : cX12_shared.data.toList.drop 181 = sxX12_shared_181 := dSn 3 shX12_shared_178
theorem shX12_shared_182 : cX12_shared.data.toList.drop 182 = sxX12_shared_182 := dSn 1 shX12_shared_181
theorem shX12_shared_185 : cX12_shared.data.toList.drop 185 = sxX12_shared_185 := dSn 3 shX12_shared_182
theorem shX12_shared_187 : cX12_shared.data.toList.drop 187 = sxX12_shared_187 := dSn 2 shX12_shared_185
theorem shX12_shared_188 : cX12_shared.data.toList.drop 188 = sxX12_shared_188 := dSn 1 shX12_shared_187
theorem shX12_shared_191 : cX12_shared.data.toList.drop 191 = sxX12_shared_191 := dSn 3 shX12_shared_188
theorem shX12_shared_193 : cX12_shared.data.toList.drop 193 = sxX12_shared_193 := dSn 2 shX12_shared_191
theorem shX12_shared_194 : cX12_shared.data.toList.drop 194 = sxX12_shared_194 := dSn 1 shX12_shared_193
theorem shX12_shared_195 : cX12_shared.data.toList.drop 195 = sxX12_shared_195 := dSn 1 shX12_shared_194
theorem shX12_shared_198 : cX12_shared.data.toList.drop 198 = sxX12_shared_198 := dSn 3 shX12_shared_195
theorem shX12_shared_201 : cX12_shared.data.toList.drop 201 = sxX12_shared_201 := dSn 3 shX12_shared_198
theorem shX12_shared_204 : cX12_shared.data.toList.drop 204 = sxX12_shared_204 := dSn 3 shX12_shared_201
theorem shX12_shared_207 : cX12_shared.data.toList.drop 207 = sxX12_shared_207 := dSn 3 shX12_shared_204
theorem shX12_shared_209 : cX12_shared.data.toList.drop 209 = sxX12_shared_209 := dSn 2 shX12_shared_207
theorem shX12_shared_210 : cX12_shared.data.toList.drop 210 = sxX12_shared_210 := dSn 1 shX12_shared_209
theorem shX12_shared_213 : cX12_shared.data.toList.drop 213 = sxX12_shared_213 := dSn 3 shX12_shared_210
theorem shX12_shared_215 : cX12_shared.data.toList.drop 215 = sxX12_shared_215 := dSn 2 shX12_shared_213
theorem shX12_shared_216 : cX12_shared.data.toList.drop 216 = sxX12_shared_216 := dSn 1 shX12_shared_215
theorem shX12_shared_217 : cX12_shared.data.toList.drop 217 = sxX12_shared_217 := dSn 1 shX12_shared_216
theorem shX12_shared_218 : cX12_shared.data.toList.drop 218 = sxX12_shared_218 := dSn 1 shX12_shared_217
theorem shX12_shared_221 : cX12_shared.data.toList.drop 221 = sxX12_shared_221 := dSn 3 shX12_shared_218
theorem shX12_shared_223 : cX12_shared.data.toList.drop 223 = sxX12_shared_223 := dSn 2 shX12_shared_221
theorem shX12_shared_224 : cX12_shared.data.toList.drop 224 = sxX12_shared_224 := dSn 1 shX12_shared_223
theorem shX12_shared_225 : cX12_shared.data.toList.drop 225 = sxX12_shared_225 := dSn 1 shX12_shared_224
theorem shX12_shared_227 : cX12_shared.data.toList.drop 227 = sxX12_shared_227 := dSn 2 shX12_shared_225
theorem shX12_shared_229 : cX12_shared.data.toList.drop 229 = sxX12_shared_229 := dSn 2 shX12_shared_227
theorem shX12_shared_230 : cX12_shared.data.toList.drop 230 = sxX12_shared_230 := dSn 1 shX12_shared_229
theorem shX12_shared_233 : cX12_shared.data.toList.drop 233 = sxX12_shared_233 := dSn 3 shX12_shared_230
theorem shX12_shared_236 : cX12_shared.data.toList.drop 236 = sxX12_shared_236 := dSn 3 shX12_shared_233
theorem shX12_shared_237 : cX12_shared.data.toList.drop 237 = sxX12_shared_237 := dSn 1 shX12_shared_236
theorem shX12_shared_240 : cX12_shared.data.toList.drop 240 = sxX12_shared_240 := dSn 3 shX12_shared_237
theorem shX12_shared_242 : cX12_shared.data.toList.drop 242 = sxX12_shared_242 := dSn 2 shX12_shared_240
theorem shX12_shared_243 : cX12_shared.data.toList.drop 243 = sxX12_shared_243 := dSn 1 shX12_shared_242
theorem shX12_shared_244 : cX12_shared.data.toList.drop 244 = sxX12_shared_244 := dSn 1 shX12_shared_243
theorem shX12_shared_247 : cX12_shared.data.toList.drop 247 = sxX12_shared_247 := dSn 3 shX12_shared_244
theorem shX12_shared_248 : cX12_shared.data.toList.drop 248 = sxX12_shared_248 := dSn 1 shX12_shared_247
theorem shX12_shared_251 : cX12_shared.data.toList.drop 251 = sxX12_shared_251 := dSn 3 shX12_shared_248
theorem shX12_shared_253 : cX12_shared.data.toList.drop 253 = sxX12_shared_253 := dSn 2 shX12_shared_251
theorem shX12_shared_254 : cX12_shared.data.toList.drop 254 = sxX12_shared_254 := dSn 1 shX12_shared_253
theorem shX12_shared_255 : cX12_shared.data.toList.drop 255 = sxX12_shared_255 := dSn 1 shX12_shared_254
theorem shX12_shared_258 : cX12_shared.data.toList.drop 258 = sxX12_shared_258 := dSn 3 shX12_shared_255
theorem shX12_shared_261 : cX12_shared.data.toList.drop 261 = sxX12_shared_261 := dSn 3 shX12_shared_258
theorem shX12_shared_262 : cX12_shared.data.toList.drop 262 = sxX12_shared_262 := dSn 1 shX12_shared_261
theorem dX12_shared_0 : decode cX12_shared 0 = .ok (.iload_n 1, 1) := oc_27 shX12_shared_0
theorem dX12_shared_1 : decode cX12_shared 1 = .ok (.invokestatic 341, 3) := oc_184 shX12_shared_1
theorem dX12_shared_4 : decode cX12_shared 4 = .ok (.ifCond .eq 27, 3) := oc_153 shX12_shared_4 sgw_0_27
theorem dX12_shared_7 : decode cX12_shared 7 = .ok (.iload_n 2, 1) := oc_28 shX12_shared_7
theorem dX12_shared_8 : decode cX12_shared 8 = .ok (.iconst 1, 1) := oc_4 shX12_shared_8
theorem dX12_shared_9 : decode cX12_shared 9 = .ok (.sipush 400, 3) := oc_17 shX12_shared_9 sgw_1_144
theorem dX12_shared_12 : decode cX12_shared 12 = .ok (.invokestatic 214, 3) := oc_184 shX12_shared_12
theorem dX12_shared_15 : decode cX12_shared 15 = .ok (.ifCond .eq 16, 3) := oc_153 shX12_shared_15 sgw_0_16
theorem dX12_shared_18 : decode cX12_shared 18 = .ok (.iload_n 3, 1) := oc_29 shX12_shared_18
theorem dX12_shared_19 : decode cX12_shared 19 = .ok (.iconst (-1), 1) := oc_2 shX12_shared_19
theorem dX12_shared_20 : decode cX12_shared 20 = .ok (.if_icmp .eq 13, 3) := oc_159 shX12_shared_20 sgw_0_13
theorem dX12_shared_23 : decode cX12_shared 23 = .ok (.aload_n 0, 1) := oc_42 shX12_shared_23
theorem dX12_shared_24 : decode cX12_shared 24 = .ok (.iload_n 3, 1) := oc_29 shX12_shared_24
theorem dX12_shared_25 : decode cX12_shared 25 = .ok (.invokevirtual 218, 3) := oc_182 shX12_shared_25
theorem dX12_shared_28 : decode cX12_shared 28 = .ok (.ifCond .ne 5, 3) := oc_154 shX12_shared_28 sgw_0_5
theorem dX12_shared_31 : decode cX12_shared 31 = .ok (.iconst (-1), 1) := oc_2 shX12_shared_31
theorem dX12_shared_32 : decode cX12_shared 32 = .ok (.ireturn, 1) := oc_172 shX12_shared_32
theorem dX12_shared_33 : decode cX12_shared 33 = .ok (.aload_n 0, 1) := oc_42 shX12_shared_33
theorem dX12_shared_34 : decode cX12_shared 34 = .ok (.iload_n 1, 1) := oc_27 shX12_shared_34
theorem dX12_shared_35 : decode cX12_shared 35 = .ok (.iload_n 2, 1) := oc_28 shX12_shared_35
theorem dX12_shared_36 : decode cX12_shared 36 = .ok (.bipush 6, 2) := oc_16 shX12_shared_36 sgb_6
theorem dX12_shared_38 : decode cX12_shared 38 = .ok (.invokevirtual 380, 3) := oc_182 shX12_shared_38
theorem dX12_shared_41 : decode cX12_shared 41 = .ok (.ifCond .ne 6, 3) := oc_154 shX12_shared_41 sgw_0_6
theorem dX12_shared_44 : decode cX12_shared 44 = .ok (.bipush (-2), 2) := oc_16 shX12_shared_44 sgb_254
theorem dX12_shared_46 : decode cX12_shared 46 = .ok (.ireturn, 1) := oc_172 shX12_shared_46
theorem dX12_shared_47 : decode cX12_shared 47 = .ok (.iconst 1, 1) := oc_4 shX12_shared_47
theorem dX12_shared_48 : decode cX12_shared 48 = .ok (.istore 4, 2) := oc_54 shX12_shared_48
theorem dX12_shared_50 : decode cX12_shared 50 = .ok (.iconst 0, 1) := oc_3 shX12_shared_50
theorem dX12_shared_51 : decode cX12_shared 51 = .ok (.istore 5, 2) := oc_54 shX12_shared_51
theorem dX12_shared_53 : decode cX12_shared 53 = .ok (.iload 5, 2) := oc_21 shX12_shared_53
theorem dX12_shared_55 : decode cX12_shared 55 = .ok (.aload_n 0, 1) := oc_42 shX12_shared_55
theorem dX12_shared_56 : decode cX12_shared 56 = .ok (.getfield 364, 3) := oc_180 shX12_shared_56
theorem dX12_shared_59 : decode cX12_shared 59 = .ok (.if_icmp .ge 18, 3) := oc_162 shX12_shared_59 sgw_0_18
theorem dX12_shared_62 : decode cX12_shared 62 = .ok (.iload 4, 2) := oc_21 shX12_shared_62
theorem dX12_shared_64 : decode cX12_shared 64 = .ok (.aload_n 0, 1) := oc_42 shX12_shared_64
theorem dX12_shared_65 : decode cX12_shared 65 = .ok (.getfield 386, 3) := oc_180 shX12_shared_65
theorem dX12_shared_68 : decode cX12_shared 68 = .ok (.imul, 1) := oc_104 shX12_shared_68
theorem dX12_shared_69 : decode cX12_shared 69 = .ok (.istore 4, 2) := oc_54 shX12_shared_69
theorem dX12_shared_71 : decode cX12_shared 71 = .ok (.iinc 5 1, 3) := oc_132 shX12_shared_71 sgb_1
theorem dX12_shared_74 : decode cX12_shared 74 = .ok (.goto (-21), 3) := oc_167 shX12_shared_74 sgw_255_235
theorem dX12_shared_77 : decode cX12_shared 77 = .ok (.iconst (-1), 1) := oc_2 shX12_shared_77
theorem dX12_shared_78 : decode cX12_shared 78 = .ok (.istore 5, 2) := oc_54 shX12_shared_78
theorem dX12_shared_80 : decode cX12_shared 80 = .ok (.iconst 0, 1) := oc_3 shX12_shared_80
theorem dX12_shared_81 : decode cX12_shared 81 = .ok (.istore 6, 2) := oc_54 shX12_shared_81
theorem dX12_shared_83 : decode cX12_shared 83 = .ok (.iload 6, 2) := oc_21 shX12_shared_83
theorem dX12_shared_85 : decode cX12_shared 85 = .ok (.iload 4, 2) := oc_21 shX12_shared_85
theorem dX12_shared_87 : decode cX12_shared 87 = .ok (.if_icmp .ge 120, 3) := oc_162 shX12_shared_87 sgw_0_120
theorem dX12_shared_90 : decode cX12_shared 90 = .ok (.iload 6, 2) := oc_21 shX12_shared_90
theorem dX12_shared_92 : decode cX12_shared 92 = .ok (.istore 7, 2) := oc_54 shX12_shared_92
theorem dX12_shared_94 : decode cX12_shared 94 = .ok (.aload_n 0, 1) := oc_42 shX12_shared_94
theorem dX12_shared_95 : decode cX12_shared 95 = .ok (.getfield 364, 3) := oc_180 shX12_shared_95
theorem dX12_shared_98 : decode cX12_shared 98 = .ok (.iconst 1, 1) := oc_4 shX12_shared_98
theorem dX12_shared_99 : decode cX12_shared 99 = .ok (.isub, 1) := oc_100 shX12_shared_99
theorem dX12_shared_100 : decode cX12_shared 100 = .ok (.istore 8, 2) := oc_54 shX12_shared_100
theorem dX12_shared_102 : decode cX12_shared 102 = .ok (.iload 8, 2) := oc_21 shX12_shared_102
theorem dX12_shared_104 : decode cX12_shared 104 = .ok (.ifCond .lt 32, 3) := oc_155 shX12_shared_104 sgw_0_32
theorem dX12_shared_107 : decode cX12_shared 107 = .ok (.aload_n 0, 1) := oc_42 shX12_shared_107
theorem dX12_shared_108 : decode cX12_shared 108 = .ok (.getfield 116, 3) := oc_180 shX12_shared_108
theorem dX12_shared_111 : decode cX12_shared 111 = .ok (.iload 8, 2) := oc_21 shX12_shared_111
theorem dX12_shared_113 : decode cX12_shared 113 = .ok (.iload 7, 2) := oc_21 shX12_shared_113
theorem dX12_shared_115 : decode cX12_shared 115 = .ok (.aload_n 0, 1) := oc_42 shX12_shared_115
theorem dX12_shared_116 : decode cX12_shared 116 = .ok (.getfield 386, 3) := oc_180 shX12_shared_116
theorem dX12_shared_119 : decode cX12_shared 119 = .ok (.irem, 1) := oc_112 shX12_shared_119
theorem dX12_shared_120 : decode cX12_shared 120 = .ok (.iastore, 1) := oc_79 shX12_shared_120
theorem dX12_shared_121 : decode cX12_shared 121 = .ok (.iload 7, 2) := oc_21 shX12_shared_121
theorem dX12_shared_123 : decode cX12_shared 123 = .ok (.aload_n 0, 1) := oc_42 shX12_shared_123
theorem dX12_shared_124 : decode cX12_shared 124 = .ok (.getfield 386, 3) := oc_180 shX12_shared_124
theorem dX12_shared_127 : decode cX12_shared 127 = .ok (.idiv, 1) := oc_108 shX12_shared_127
theorem dX12_shared_128 : decode cX12_shared 128 = .ok (.istore 7, 2) := oc_54 shX12_shared_128
theorem dX12_shared_130 : decode cX12_shared 130 = .ok (.iinc 8 (-1), 3) := oc_132 shX12_shared_130 sgb_255
theorem dX12_shared_133 : decode cX12_shared 133 = .ok (.goto (-31), 3) := oc_167 shX12_shared_133 sgw_255_225
theorem dX12_shared_136 : decode cX12_shared 136 = .ok (.aload_n 0, 1) := oc_42 shX12_shared_136
theorem dX12_shared_137 : decode cX12_shared 137 = .ok (.iload_n 1, 1) := oc_27 shX12_shared_137
theorem dX12_shared_138 : decode cX12_shared 138 = .ok (.invokevirtual 392, 3) := oc_182 shX12_shared_138
theorem dX12_shared_141 : decode cX12_shared 141 = .ok (.istore 8, 2) := oc_54 shX12_shared_141
theorem dX12_shared_143 : decode cX12_shared 143 = .ok (.iload 8, 2) := oc_21 shX12_shared_143
theorem dX12_shared_145 : decode cX12_shared 145 = .ok (.iconst (-1), 1) := oc_2 shX12_shared_145
theorem dX12_shared_146 : decode cX12_shared 146 = .ok (.if_icmp .eq 55, 3) := oc_159 shX12_shared_146 sgw_0_55
theorem dX12_shared_149 : decode cX12_shared 149 = .ok (.iload 5, 2) := oc_21 shX12_shared_149
theorem dX12_shared_151 : decode cX12_shared 151 = .ok (.iconst (-1), 1) := oc_2 shX12_shared_151
theorem dX12_shared_152 : decode cX12_shared 152 = .ok (.if_icmp .eq 13, 3) := oc_159 shX12_shared_152 sgw_0_13
theorem dX12_shared_155 : decode cX12_shared 155 = .ok (.iload 8, 2) := oc_21 shX12_shared_155
theorem dX12_shared_157 : decode cX12_shared 157 = .ok (.iload 5, 2) := oc_21 shX12_shared_157
theorem dX12_shared_159 : decode cX12_shared 159 = .ok (.if_icmp .lt 6, 3) := oc_161 shX12_shared_159 sgw_0_6
theorem dX12_shared_162 : decode cX12_shared 162 = .ok (.goto 39, 3) := oc_167 shX12_shared_162 sgw_0_39
theorem dX12_shared_165 : decode cX12_shared 165 = .ok (.iload 8, 2) := oc_21 shX12_shared_165
theorem dX12_shared_167 : decode cX12_shared 167 = .ok (.istore 5, 2) := oc_54 shX12_shared_167
theorem dX12_shared_169 : decode cX12_shared 169 = .ok (.iconst 0, 1) := oc_3 shX12_shared_169
theorem dX12_shared_170 : decode cX12_shared 170 = .ok (.istore 9, 2) := oc_54 shX12_shared_170
theorem dX12_shared_172 : decode cX12_shared 172 = .ok (.iload 9, 2) := oc_21 shX12_shared_172
theorem dX12_shared_174 : decode cX12_shared 174 = .ok (.aload_n 0, 1) := oc_42 shX12_shared_174
theorem dX12_shared_175 : decode cX12_shared 175 = .ok (.getfield 364, 3) := oc_180 shX12_shared_175
theorem dX12_shared_178 : decode cX12_shared 178 = .ok (.if_icmp .ge 23, 3) := oc_162 shX12_shared_178 sgw_0_23
theorem dX12_shared_181 : decode cX12_shared 181 = .ok (.aload_n 0, 1) := oc_42 shX12_shared_181
theorem dX12_shared_182 : decode cX12_shared 182 = .ok (.getfield 119, 3) := oc_180 shX12_shared_182
theorem dX12_shared_185 : decode cX12_shared 185 = .ok (.iload 9, 2) := oc_21 shX12_shared_185
theorem dX12_shared_187 : decode cX12_shared 187 = .ok (.aload_n 0, 1) := oc_42 shX12_shared_187
theorem dX12_shared_188 : decode cX12_shared 188 = .ok (.getfield 116, 3) := oc_180 shX12_shared_188
theorem dX12_shared_191 : decode cX12_shared 191 = .ok (.iload 9, 2) := oc_21 shX12_shared_191
theorem dX12_shared_193 : decode cX12_shared 193 = .ok (.iaload, 1) := oc_46 shX12_shared_193
theorem dX12_shared_194 : decode cX12_shared 194 = .ok (.iastore, 1) := oc_79 shX12_shared_194
theorem dX12_shared_195 : decode cX12_shared 195 = .ok (.iinc 9 1, 3) := oc_132 shX12_shared_195 sgb_1
theorem dX12_shared_198 : decode cX12_shared 198 = .ok (.goto (-26), 3) := oc_167 shX12_shared_198 sgw_255_230
theorem dX12_shared_201 : decode cX12_shared 201 = .ok (.iinc 6 1, 3) := oc_132 shX12_shared_201 sgb_1
theorem dX12_shared_204 : decode cX12_shared 204 = .ok (.goto (-121), 3) := oc_167 shX12_shared_204 sgw_255_135
theorem dX12_shared_207 : decode cX12_shared 207 = .ok (.iload 5, 2) := oc_21 shX12_shared_207
theorem dX12_shared_209 : decode cX12_shared 209 = .ok (.iconst (-1), 1) := oc_2 shX12_shared_209
theorem dX12_shared_210 : decode cX12_shared 210 = .ok (.if_icmp .ne 6, 3) := oc_160 shX12_shared_210 sgw_0_6
theorem dX12_shared_213 : decode cX12_shared 213 = .ok (.bipush (-2), 2) := oc_16 shX12_shared_213 sgb_254
theorem dX12_shared_215 : decode cX12_shared 215 = .ok (.ireturn, 1) := oc_172 shX12_shared_215
theorem dX12_shared_216 : decode cX12_shared 216 = .ok (.iload_n 3, 1) := oc_29 shX12_shared_216
theorem dX12_shared_217 : decode cX12_shared 217 = .ok (.iconst (-1), 1) := oc_2 shX12_shared_217
theorem dX12_shared_218 : decode cX12_shared 218 = .ok (.if_icmp .ne 6, 3) := oc_160 shX12_shared_218 sgw_0_6
theorem dX12_shared_221 : decode cX12_shared 221 = .ok (.iload 5, 2) := oc_21 shX12_shared_221
theorem dX12_shared_223 : decode cX12_shared 223 = .ok (.ireturn, 1) := oc_172 shX12_shared_223
theorem dX12_shared_224 : decode cX12_shared 224 = .ok (.iconst 0, 1) := oc_3 shX12_shared_224
theorem dX12_shared_225 : decode cX12_shared 225 = .ok (.istore 6, 2) := oc_54 shX12_shared_225
theorem dX12_shared_227 : decode cX12_shared 227 = .ok (.iload 6, 2) := oc_21 shX12_shared_227
theorem dX12_shared_229 : decode cX12_shared 229 = .ok (.aload_n 0, 1) := oc_42 shX12_shared_229
theorem dX12_shared_230 : decode cX12_shared 230 = .ok (.getfield 364, 3) := oc_180 shX12_shared_230
theorem dX12_shared_233 : decode cX12_shared 233 = .ok (.if_icmp .ge 28, 3) := oc_162 shX12_shared_233 sgw_0_28
theorem dX12_shared_236 : decode cX12_shared 236 = .ok (.aload_n 0, 1) := oc_42 shX12_shared_236
theorem dX12_shared_237 : decode cX12_shared 237 = .ok (.getfield 101, 3) := oc_180 shX12_shared_237
theorem dX12_shared_240 : decode cX12_shared 240 = .ok (.iload 6, 2) := oc_21 shX12_shared_240
theorem dX12_shared_242 : decode cX12_shared 242 = .ok (.iaload, 1) := oc_46 shX12_shared_242
theorem dX12_shared_243 : decode cX12_shared 243 = .ok (.iload_n 3, 1) := oc_29 shX12_shared_243
theorem dX12_shared_244 : decode cX12_shared 244 = .ok (.if_icmp .ne 11, 3) := oc_160 shX12_shared_244 sgw_0_11
theorem dX12_shared_247 : decode cX12_shared 247 = .ok (.aload_n 0, 1) := oc_42 shX12_shared_247
theorem dX12_shared_248 : decode cX12_shared 248 = .ok (.getfield 119, 3) := oc_180 shX12_shared_248
theorem dX12_shared_251 : decode cX12_shared 251 = .ok (.iload 6, 2) := oc_21 shX12_shared_251
theorem dX12_shared_253 : decode cX12_shared 253 = .ok (.iaload, 1) := oc_46 shX12_shared_253
theorem dX12_shared_254 : decode cX12_shared 254 = .ok (.ireturn, 1) := oc_172 shX12_shared_254
theorem dX12_shared_255 : decode cX12_shared 255 = .ok (.iinc 6 1, 3) := oc_132 shX12_shared_255 sgb_1
theorem dX12_shared_258 : decode cX12_shared 258 = .ok (.goto (-31), 3) := oc_167 shX12_shared_258 sgw_255_225
theorem dX12_shared_261 : decode cX12_shared 261 = .ok (.iconst (-1), 1) := oc_2 shX12_shared_261
theorem dX12_shared_262 : decode cX12_shared 262 = .ok (.ireturn, 1) := oc_172 shX12_shared_262
noncomputable def sxX12_goNights_133 : List UInt8 := []
noncomputable def sxX12_goNights_132 : List UInt8 := 172 :: sxX12_goNights_133
noncomputable def sxX12_goNights_131 : List UInt8 := 4 :: sxX12_goNights_132
noncomputable def sxX12_goNights_128 : List UInt8 := 167 :: 255 :: 146 :: sxX12_goNights_131
noncomputable def sxX12_goNights_125 : List UInt8 := 132 :: 4 :: 1 :: sxX12_goNights_128
noncomputable def sxX12_goNights_122 : List UInt8 := 167 :: 255 :: 198 :: sxX12_goNights_125
noncomputable def sxX12_goNights_119 : List UInt8 := 132 :: 5 :: 1 :: sxX12_goNights_122
noncomputable def sxX12_goNights_118 : List UInt8 := 79 :: sxX12_goNights_119
noncomputable def sxX12_goNights_116 : List UInt8 := 21 :: 4 :: sxX12_goNights_118
noncomputable def sxX12_goNights_115 : List UInt8 := 46 :: sxX12_goNights_116
noncomputable def sxX12_goNights_113 : List UInt8 := 21 :: 5 :: sxX12_goNights_115
noncomputable def sxX12_goNights_110 : List UInt8 := 180 :: 0 :: 101 :: sxX12_goNights_113
noncomputable def sxX12_goNights_109 : List UInt8 := 42 :: sxX12_goNights_110
noncomputable def sxX12_goNights_106 : List UInt8 := 180 :: 0 :: 22 :: sxX12_goNights_109
noncomputable def sxX12_goNights_105 : List UInt8 := 42 :: sxX12_goNights_106
noncomputable def sxX12_goNights_102 : List UInt8 := 181 :: 1 :: 145 :: sxX12_goNights_105
noncomputable def sxX12_goNights_101 : List UInt8 := 96 :: sxX12_goNights_102
noncomputable def sxX12_goNights_100 : List UInt8 := 4 :: sxX12_goNights_101
noncomputable def sxX12_goNights_97 : List UInt8 := 180 :: 1 :: 145 :: sxX12_goNights_100
noncomputable def sxX12_goNights_96 : List UInt8 := 42 :: sxX12_goNights_97
noncomputable def sxX12_goNights_95 : List UInt8 := 42 :: sxX12_goNights_96
noncomputable def sxX12_goNights_92 : List UInt8 := 181 :: 1 :: 142 :: sxX12_goNights_95
noncomputable def sxX12_goNights_91 : List UInt8 := 96 :: sxX12_goNights_92
noncomputable def sxX12_goNights_88 : List UInt8 := 182 :: 0 :: 222 :: sxX12_goNights_91
noncomputable def sxX12_goNights_86 : List UInt8 := 21 :: 4 :: sxX12_goNights_88
noncomputable def sxX12_goNights_85 : List UInt8 := 46 :: sxX12_goNights_86
noncomputable def sxX12_goNights_83 : List UInt8 := 21 :: 5 :: sxX12_goNights_85
noncomputable def sxX12_goNights_80 : List UInt8 := 180 :: 0 :: 101 :: sxX12_goNights_83
noncomputable def sxX12_goNights_79 : List UInt8 := 42 :: sxX12_goNights_80
noncomputable def sxX12_goNights_78 : List UInt8 := 42 :: sxX12_goNights_79
noncomputable def sxX12_goNights_75 : List UInt8 := 180 :: 1 :: 142 :: sxX12_goNights_78
noncomputable def sxX12_goNights_74 : List UInt8 := 42 :: sxX12_goNights_75
noncomputable def sxX12_goNights_73 : List UInt8 := 42 :: sxX12_goNights_74
noncomputable def sxX12_goNights_70 : List UInt8 := 162 :: 0 :: 55 :: sxX12_goNights_73
noncomputable def sxX12_goNights_67 : List UInt8 := 180 :: 1 :: 108 :: sxX12_goNights_70
noncomputable def sxX12_goNights_66 : List UInt8 := 42 :: sxX12_goNights_67
noncomputable def sxX12_goNights_64 : List UInt8 := 21 :: 5 :: sxX12_goNights_66
noncomputable def sxX12_goNights_62 : List UInt8 := 54 :: 5 :: sxX12_goNights_64
noncomputable def sxX12_goNights_61 : List UInt8 := 3 :: sxX12_goNights_62
noncomputable def sxX12_goNights_58 : List UInt8 := 181 :: 1 :: 139 :: sxX12_goNights_61
noncomputable def sxX12_goNights_57 : List UInt8 := 96 :: sxX12_goNights_58
noncomputable def sxX12_goNights_54 : List UInt8 := 182 :: 1 :: 133 :: sxX12_goNights_57
noncomputable def sxX12_goNights_53 : List UInt8 := 100 :: sxX12_goNights_54
noncomputable def sxX12_goNights_52 : List UInt8 := 4 :: sxX12_goNights_53
noncomputable def sxX12_goNights_51 : List UInt8 := 120 :: sxX12_goNights_52
noncomputable def sxX12_goNights_48 : List UInt8 := 180 :: 1 :: 108 :: sxX12_goNights_51
noncomputable def sxX12_goNights_47 : List UInt8 := 42 :: sxX12_goNights_48
noncomputable def sxX12_goNights_46 : List UInt8 := 4 :: sxX12_goNights_47
noncomputable def sxX12_goNights_45 : List UInt8 := 42 :: sxX12_goNights_46
noncomputable def sxX12_goNights_42 : List UInt8 := 180 :: 1 :: 139 :: sxX12_goNights_45
noncomputable def sxX12_goNights_41 : List UInt8 := 42 :: sxX12_goNights_42
noncomputable def sxX12_goNights_40 : List UInt8 := 42 :: sxX12_goNights_41
noncomputable def sxX12_goNights_39 : List UInt8 := 172 :: sxX12_goNights_40
noncomputable def sxX12_goNights_38 : List UInt8 := 3 :: sxX12_goNights_39
noncomputable def sxX12_goNights_35 : List UInt8 := 154 :: 0 :: 5 :: sxX12_goNights_38
noncomputable def sxX12_goNights_32 : List UInt8 := 182 :: 1 :: 124 :: sxX12_goNights_35
noncomputable def sxX12_goNights_30 : List UInt8 := 16 :: 8 :: sxX12_goNights_32
noncomputable def sxX12_goNights_29 : List UInt8 := 29 :: sxX12_goNights_30
noncomputable def sxX12_goNights_27 : List UInt8 := 21 :: 4 :: sxX12_goNights_29
noncomputable def sxX12_goNights_26 : List UInt8 := 42 :: sxX12_goNights_27
noncomputable def sxX12_goNights_23 : List UInt8 := 162 :: 0 :: 108 :: sxX12_goNights_26
noncomputable def sxX12_goNights_22 : List UInt8 := 96 :: sxX12_goNights_23
noncomputable def sxX12_goNights_21 : List UInt8 := 28 :: sxX12_goNights_22
noncomputable def sxX12_goNights_20 : List UInt8 := 27 :: sxX12_goNights_21
noncomputable def sxX12_goNights_18 : List UInt8 := 21 :: 4 :: sxX12_goNights_20
noncomputable def sxX12_goNights_16 : List UInt8 := 54 :: 4 :: sxX12_goNights_18
noncomputable def sxX12_goNights_15 : List UInt8 := 27 :: sxX12_goNights_16
noncomputable def sxX12_goNights_12 : List UInt8 := 181 :: 1 :: 145 :: sxX12_goNights_15
noncomputable def sxX12_goNights_11 : List UInt8 := 3 :: sxX12_goNights_12
noncomputable def sxX12_goNights_10 : List UInt8 := 42 :: sxX12_goNights_11
noncomputable def sxX12_goNights_7 : List UInt8 := 181 :: 1 :: 142 :: sxX12_goNights_10
noncomputable def sxX12_goNights_6 : List UInt8 := 3 :: sxX12_goNights_7
noncomputable def sxX12_goNights_5 : List UInt8 := 42 :: sxX12_goNights_6
noncomputable def sxX12_goNights_2 : List UInt8 := 181 :: 1 :: 139 :: sxX12_goNights_5
noncomputable def sxX12_goNights_1 : List UInt8 := 3 :: sxX12_goNights_2
noncomputable def sxX12_goNights_0 : List UInt8 := 42 :: sxX12_goNights_1
theorem shX12_goNights_0 : cX12_goNights.data.toList.drop 0 = sxX12_goNights_0 := rfl
theorem shX12_goNights_1 : cX12_goNights.data.toList.drop 1 = sxX12_goNights_1 := dSn 1 shX12_goNights_0
theorem shX12_goNights_2 : cX12_goNights.data.toList.drop 2 = sxX12_goNights_2 := dSn 1 shX12_goNights_1
theorem shX12_goNights_5 : cX12_goNights.data.toList.drop 5 = sxX12_goNights_5 := dSn 3 shX12_goNights_2
theorem shX12_goNights_6 : cX12_goNights.data.toList.drop 6 = sxX12_goNights_6 := dSn 1 shX12_goNights_5
theorem shX12_goNights_7 : cX12_goNights.data.toList.drop 7 = sxX12_goNights_7 := dSn 1 shX12_goNights_6
theorem shX12_goNights_10 : cX12_goNights.data.toList.drop 10 = sxX12_goNights_10 := dSn 3 shX12_goNights_7
theorem shX12_goNights_11 : cX12_goNights.data.toList.drop 11 = sxX12_goNights_11 := dSn 1 shX12_goNights_10
theorem shX12_goNights_12 : cX12_goNights.data.toList.drop 12 = sxX12_goNights_12 := dSn 1 shX12_goNights_11
theorem shX12_goNights_15 : cX12_goNights.data.toList.drop 15 = sxX12_goNights_15 := dSn 3 shX12_goNights_12
theorem shX12_goNights_16 : cX12_goNights.data.toList.drop 16 = sxX12_goNights_16 := dSn 1 shX12_goNights_15
theorem shX12_goNights_18 : cX12_goNights.data.toList.drop 18 = sxX12_goNights_18 := dSn 2 shX12_goNights_16
theorem shX12_goNights_20 : cX12_goNights.data.toList.drop 20 = sxX12_goNights_20 := dSn 2 shX12_goNights_18
theorem shX12_goNights_21 : cX12_goNights.data.toList.drop 21 = sxX12_goNights_21 := dSn 1 shX12_goNights_20
theorem shX12_goNights_22 : cX12_goNights.data.toList.drop 22 = sxX12_goNights_22 := dSn 1 shX12_goNights_21
theorem shX12_goNights_23 : cX12_goNights.data.toList.drop 23 = sxX12_goNights_23 := dSn 1 shX12_goNights_22
theorem shX12_goNights_26 : cX12_goNights.data.toList.drop 26 = sxX12_goNights_26 := dSn 3 shX12_goNights_23
theorem shX12_goNights_27 : cX12_goNights.data.toList.drop 27 = sxX12_goNights_27 := dSn 1 shX12_goNights_26
theorem shX12_goNights_29 : cX12_goNights.data.toList.drop 29 = sxX12_goNights_29 := dSn 2 shX12_goNights_27
theorem shX12_goNights_30 : cX12_goNights.data.toList.drop 30 = sxX12_goNights_30 := dSn 1 shX12_goNights_29
theorem shX12_goNights_32 : cX12_goNights.data.toList.drop 32 = sxX12_goNights_32 := dSn 2 shX12_goNights_30
theorem shX12_goNights_35 : cX12_goNights.data.toList.drop 35 = sxX12_goNights_35 := dSn 3 shX12_goNights_32
theorem shX12_goNights_38 : cX12_goNights.data.toList.drop 38 = sxX12_goNights_38 := dSn 3 shX12_goNights_35
theorem shX12_goNights_39 : cX12_goNights.data.toList.drop 39 = sxX12_goNights_39 := dSn 1 shX12_goNights_38
theorem shX12_goNights_40 : cX12_goNights.data.toList.drop 40 = sxX12_goNights_40 := dSn 1 shX12_goNights_39
theorem shX12_goNights_41 : cX12_goNights.data.toList.drop 41 = sxX12_goNights_41 := dSn 1 shX12_goNights_40
theorem shX12_goNights_42 : cX12_goNights.data.toList.drop 42 = sxX12_goNights_42 := dSn 1 shX12_goNights_41
theorem shX12_goNights_45 : cX12_goNights.data.toList.drop 45 = sxX12_goNights_45 := dSn 3 shX12_goNights_42
theorem shX12_goNights_46 : cX12_goNights.data.toList.drop 46 = sxX12_goNights_46 := dSn 1 shX12_goNights_45
theorem shX12_goNights_47 : cX12_goNights.data.toList.drop 47 = sxX12_goNights_47 := dSn 1 shX12_goNights_46
theorem shX12_goNights_48 : cX12_goNights.data.toList.drop 48 = sxX12_goNights_48 := dSn 1 shX12_goNights_47
theorem shX12_goNights_51 : cX12_goNights.data.toList.drop 51 = sxX12_goNights_51 := dSn 3 shX12_goNights_48
theorem shX12_goNights_52 : cX12_goNights.data.toList.drop 52 = sxX12_goNights_52 := dSn 1 shX12_goNights_51
theorem shX12_goNights_53 : cX12_goNights.data.toList.drop 53 = sxX12_goNights_53 := dSn 1 shX12_goNights_52
theorem shX12_goNights_54 : cX12_goNights.data.toList.drop 54 = sxX12_goNights_54 := dSn 1 shX12_goNights_53
theorem shX12_goNights_57 : cX12_goNights.data.toList.drop 57 = sxX12_goNights_57 := dSn 3 shX12_goNights_54
theorem shX12_goNights_58 : cX12_goNights.data.toList.drop 58 = sxX12_goNights_58 := dSn 1 shX12_goNights_57
theorem shX12_goNights_61 : cX12_goNights.data.toList.drop 61 = sxX12_goNights_61 := dSn 3 shX12_goNights_58
theorem shX12_goNights_62 : cX12_goNights.data.toList.drop 62 = sxX12_goNights_62 := dSn 1 shX12_goNights_61
theorem shX12_goNights_64 : cX12_goNights.data.toList.drop 64 = sxX12_goNights_64 := dSn 2 shX12_goNights_62
theorem shX12_goNights_66 : cX12_goNights.data.toList.drop 66 = sxX12_goNights_66 := dSn 2 shX12_goNights_64
theorem shX12_goNights_67 : cX12_goNights.data.toList.drop 67 = sxX12_goNights_67 := dSn 1 shX12_goNights_66
theorem shX12_goNights_70 : cX12_goNights.data.toList.drop 70 = sxX12_goNights_70 := dSn 3 shX12_goNights_67
theorem shX12_goNights_73 : cX12_goNights.data.toList.drop 73 = sxX12_goNights_73 := dSn 3 shX12_goNights_70
theorem shX12_goNights_74 : cX12_goNights.data.toList.drop 74 = sxX12_goNights_74 := dSn 1 shX12_goNights_73
theorem shX12_goNights_75 : cX12_goNights.data.toList.drop 75 = sxX12_goNights_75 := dSn 1 shX12_goNights_74
theorem shX12_goNights_78 : cX12_goNights.data.toList.drop 78 = sxX12_goNights_78 := dSn 3 shX12_goNights_75
theorem shX12_goNights_79 : cX12_goNights.data.toList.drop 79 = sxX12_goNights_79 := dSn 1 shX12_goNights_78
theorem shX12_goNights_80 : cX12_goNights.data.toList.drop 80 = sxX12_goNights_80 := dSn 1 shX12_goNights_79
theorem shX12_goNights_83 : cX12_goNights.data.toList.drop 83 = sxX12_goNights_83 := dSn 3 shX12_goNights_80
theorem shX12_goNights_85 : cX12_goNights.data.toList.drop 85 = sxX12_goNights_85 := dSn 2 shX12_goNights_83
theorem shX12_goNights_86 : cX12_goNights.data.toList.drop 86 = sxX12_goNights_86 := dSn 1 shX12_goNights_85
theorem shX12_goNights_88 : cX12_goNights.data.toList.drop 88 = sxX12_goNights_88 := dSn 2 shX12_goNights_86
theorem shX12_goNights_91 : cX12_goNights.data.toList.drop 91 = sxX12_goNights_91 := dSn 3 shX12_goNights_88
theorem shX12_goNights_92 : cX12_goNights.data.toList.drop 92 = sxX12_goNights_92 := dSn 1 shX12_goNights_91
theorem shX12_goNights_95 : cX12_goNights.data.toList.drop 95 = sxX12_goNights_95 := dSn 3 shX12_goNights_92
theorem shX12_goNights_96 : cX12_goNights.data.toList.drop 96 = sxX12_goNights_96 := dSn 1 shX12_goNights_95
theorem shX12_goNights_97 : cX12_goNights.data.toList.drop 97 = sxX12_goNights_97 := dSn 1 shX12_goNights_96
theorem shX12_goNights_100 : cX12_goNights.data.toList.drop 100 = sxX12_goNights_100 := dSn 3 shX12_goNights_97
theorem shX12_goNights_101 : cX12_goNights.data.toList.drop 101 = sxX12_goNights_101 := dSn 1 shX12_goNights_100
theorem shX12_goNights_102 : cX12_goNights.data.toList.drop 102 = sxX12_goNights_102 := dSn 1 shX12_goNights_101
theorem shX12_goNights_105 : cX12_goNights.data.toList.drop 105 = sxX12_goNights_105 := dSn 3 shX12_goNights_102
theorem shX12_goNights_106 : cX12_goNights.data.toList.drop 106 = sxX12_goNights_106 := dSn 1 shX12_goNights_105
theorem shX12_goNights_109 : cX12_goNights.data.toList.drop 109 = sxX12_goNights_109 := dSn 3 shX12_goNights_106
theorem shX12_goNights_110 : cX12_goNights.data.toList.drop 110 = sxX12_goNights_110 := dSn 1 shX12_goNights_109
theorem shX12_goNights_113 : cX12_goNights.data.toList.drop 113 = sxX12_goNights_113 := dSn 3 shX12_goNights_110
theorem shX12_goNights_115 : cX12_goNights.data.toList.drop 115 = sxX12_goNights_115 := dSn 2 shX12_goNights_113
theorem shX12_goNights_116 : cX12_goNights.data.toList.drop 116 = sxX12_goNights_116 := dSn 1 shX12_goNights_115
theorem shX12_goNights_118 : cX12_goNights.data.toList.drop 118 = sxX12_goNights_118 := dSn 2 shX12_goNights_116
theorem shX12_goNights_119 : cX12_goNights.data.toList.drop 119 = sxX12_goNights_119 := dSn 1 shX12_goNights_118
theorem shX12_goNights_122 : cX12_goNights.data.toList.drop 122 = sxX12_goNights_122 := dSn 3 shX12_goNights_119
theorem shX12_goNights_125 : cX12_goNights.data.toList.drop 125 = sxX12_goNights_125 := dSn 3 shX12_goNights_122
theorem shX12_goNights_128 : cX12_goNights.data.toList.drop 128 = sxX12_goNights_128 := dSn 3 shX12_goNights_125
theorem shX12_goNights_131 : cX12_goNights.data.toList.drop 131 = sxX12_goNights_131 := dSn 3 shX12_goNights_128
theorem shX12_goNights_132 : cX12_goNights.data.toList.drop 132 = sxX12_goNights_132 := dSn 1 shX12_goNights_131
theorem dX12_goNights_0 : decode cX12_goNights 0 = .ok (.aload_n 0, 1) := oc_42 shX12_goNights_0
theorem dX12_goNights_1 : decode cX12_goNights 1 = .ok (.iconst 0, 1) := oc_3 shX12_goNights_1
theorem dX12_goNights_2 : decode cX12_goNights 2 = .ok (.putfield 395, 3) := oc_181 shX12_goNights_2
theorem dX12_goNights_5 : decode cX12_goNights 5 = .ok (.aload_n 0, 1) := oc_42 shX12_goNights_5
theorem dX12_goNights_6 : decode cX12_goNights 6 = .ok (.iconst 0, 1) := oc_3 shX12_goNights_6
theorem dX12_goNights_7 : decode cX12_goNights 7 = .ok (.putfield 398, 3) := oc_181 shX12_goNights_7
theorem dX12_goNights_10 : decode cX12_goNights 10 = .ok (.aload_n 0, 1) := oc_42 shX12_goNights_10
theorem dX12_goNights_11 : decode cX12_goNights 11 = .ok (.iconst 0, 1) := oc_3 shX12_goNights_11
theorem dX12_goNights_12 : decode cX12_goNights 12 = .ok (.putfield 401, 3) := oc_181 shX12_goNights_12
theorem dX12_goNights_15 : decode cX12_goNights 15 = .ok (.iload_n 1, 1) := oc_27 shX12_goNights_15
theorem dX12_goNights_16 : decode cX12_goNights 16 = .ok (.istore 4, 2) := oc_54 shX12_goNights_16
theorem dX12_goNights_18 : decode cX12_goNights 18 = .ok (.iload 4, 2) := oc_21 shX12_goNights_18
theorem dX12_goNights_20 : decode cX12_goNights 20 = .ok (.iload_n 1, 1) := oc_27 shX12_goNights_20
theorem dX12_goNights_21 : decode cX12_goNights 21 = .ok (.iload_n 2, 1) := oc_28 shX12_goNights_21
theorem dX12_goNights_22 : decode cX12_goNights 22 = .ok (.iadd, 1) := oc_96 shX12_goNights_22
theorem dX12_goNights_23 : decode cX12_goNights 23 = .ok (.if_icmp .ge 108, 3) := oc_162 shX12_goNights_23 sgw_0_108
theorem dX12_goNights_26 : decode cX12_goNights 26 = .ok (.aload_n 0, 1) := oc_42 shX12_goNights_26
theorem dX12_goNights_27 : decode cX12_goNights 27 = .ok (.iload 4, 2) := oc_21 shX12_goNights_27
theorem dX12_goNights_29 : decode cX12_goNights 29 = .ok (.iload_n 3, 1) := oc_29 shX12_goNights_29
theorem dX12_goNights_30 : decode cX12_goNights 30 = .ok (.bipush 8, 2) := oc_16 shX12_goNights_30 sgb_8
theorem dX12_goNights_32 : decode cX12_goNights 32 = .ok (.invokevirtual 380, 3) := oc_182 shX12_goNights_32
theorem dX12_goNights_35 : decode cX12_goNights 35 = .ok (.ifCond .ne 5, 3) := oc_154 shX12_goNights_35 sgw_0_5
theorem dX12_goNights_38 : decode cX12_goNights 38 = .ok (.iconst 0, 1) := oc_3 shX12_goNights_38
theorem dX12_goNights_39 : decode cX12_goNights 39 = .ok (.ireturn, 1) := oc_172 shX12_goNights_39
theorem dX12_goNights_40 : decode cX12_goNights 40 = .ok (.aload_n 0, 1) := oc_42 shX12_goNights_40
theorem dX12_goNights_41 : decode cX12_goNights 41 = .ok (.aload_n 0, 1) := oc_42 shX12_goNights_41
theorem dX12_goNights_42 : decode cX12_goNights 42 = .ok (.getfield 395, 3) := oc_180 shX12_goNights_42
theorem dX12_goNights_45 : decode cX12_goNights 45 = .ok (.aload_n 0, 1) := oc_42 shX12_goNights_45
theorem dX12_goNights_46 : decode cX12_goNights 46 = .ok (.iconst 1, 1) := oc_4 shX12_goNights_46
theorem dX12_goNights_47 : decode cX12_goNights 47 = .ok (.aload_n 0, 1) := oc_42 shX12_goNights_47
theorem dX12_goNights_48 : decode cX12_goNights 48 = .ok (.getfield 364, 3) := oc_180 shX12_goNights_48
theorem dX12_goNights_51 : decode cX12_goNights 51 = .ok (.ishl, 1) := oc_120 shX12_goNights_51
theorem dX12_goNights_52 : decode cX12_goNights 52 = .ok (.iconst 1, 1) := oc_4 shX12_goNights_52
theorem dX12_goNights_53 : decode cX12_goNights 53 = .ok (.isub, 1) := oc_100 shX12_goNights_53
theorem dX12_goNights_54 : decode cX12_goNights 54 = .ok (.invokevirtual 389, 3) := oc_182 shX12_goNights_54
theorem dX12_goNights_57 : decode cX12_goNights 57 = .ok (.iadd, 1) := oc_96 shX12_goNights_57
theorem dX12_goNights_58 : decode cX12_goNights 58 = .ok (.putfield 395, 3) := oc_181 shX12_goNights_58
theorem dX12_goNights_61 : decode cX12_goNights 61 = .ok (.iconst 0, 1) := oc_3 shX12_goNights_61
theorem dX12_goNights_62 : decode cX12_goNights 62 = .ok (.istore 5, 2) := oc_54 shX12_goNights_62
theorem dX12_goNights_64 : decode cX12_goNights 64 = .ok (.iload 5, 2) := oc_21 shX12_goNights_64
theorem dX12_goNights_66 : decode cX12_goNights 66 = .ok (.aload_n 0, 1) := oc_42 shX12_goNights_66
theorem dX12_goNights_67 : decode cX12_goNights 67 = .ok (.getfield 364, 3) := oc_180 shX12_goNights_67
theorem dX12_goNights_70 : decode cX12_goNights 70 = .ok (.if_icmp .ge 55, 3) := oc_162 shX12_goNights_70 sgw_0_55
theorem dX12_goNights_73 : decode cX12_goNights 73 = .ok (.aload_n 0, 1) := oc_42 shX12_goNights_73
theorem dX12_goNights_74 : decode cX12_goNights 74 = .ok (.aload_n 0, 1) := oc_42 shX12_goNights_74
theorem dX12_goNights_75 : decode cX12_goNights 75 = .ok (.getfield 398, 3) := oc_180 shX12_goNights_75
theorem dX12_goNights_78 : decode cX12_goNights 78 = .ok (.aload_n 0, 1) := oc_42 shX12_goNights_78
theorem dX12_goNights_79 : decode cX12_goNights 79 = .ok (.aload_n 0, 1) := oc_42 shX12_goNights_79
theorem dX12_goNights_80 : decode cX12_goNights 80 = .ok (.getfield 101, 3) := oc_180 shX12_goNights_80
theorem dX12_goNights_83 : decode cX12_goNights 83 = .ok (.iload 5, 2) := oc_21 shX12_goNights_83
theorem dX12_goNights_85 : decode cX12_goNights 85 = .ok (.iaload, 1) := oc_46 shX12_goNights_85
theorem dX12_goNights_86 : decode cX12_goNights 86 = .ok (.iload 4, 2) := oc_21 shX12_goNights_86
theorem dX12_goNights_88 : decode cX12_goNights 88 = .ok (.invokevirtual 222, 3) := oc_182 shX12_goNights_88
theorem dX12_goNights_91 : decode cX12_goNights 91 = .ok (.iadd, 1) := oc_96 shX12_goNights_91
theorem dX12_goNights_92 : decode cX12_goNights 92 = .ok (.putfield 398, 3) := oc_181 shX12_goNights_92
theorem dX12_goNights_95 : decode cX12_goNights 95 = .ok (.aload_n 0, 1) := oc_42 shX12_goNights_95
theorem dX12_goNights_96 : decode cX12_goNights 96 = .ok (.aload_n 0, 1) := oc_42 shX12_goNights_96
theorem dX12_goNights_97 : decode cX12_goNights 97 = .ok (.getfield 401, 3) := oc_180 shX12_goNights_97
theorem dX12_goNights_100 : decode cX12_goNights 100 = .ok (.iconst 1, 1) := oc_4 shX12_goNights_100
theorem dX12_goNights_101 : decode cX12_goNights 101 = .ok (.iadd, 1) := oc_96 shX12_goNights_101
theorem dX12_goNights_102 : decode cX12_goNights 102 = .ok (.putfield 401, 3) := oc_181 shX12_goNights_102
theorem dX12_goNights_105 : decode cX12_goNights 105 = .ok (.aload_n 0, 1) := oc_42 shX12_goNights_105
theorem dX12_goNights_106 : decode cX12_goNights 106 = .ok (.getfield 22, 3) := oc_180 shX12_goNights_106
theorem dX12_goNights_109 : decode cX12_goNights 109 = .ok (.aload_n 0, 1) := oc_42 shX12_goNights_109
theorem dX12_goNights_110 : decode cX12_goNights 110 = .ok (.getfield 101, 3) := oc_180 shX12_goNights_110
theorem dX12_goNights_113 : decode cX12_goNights 113 = .ok (.iload 5, 2) := oc_21 shX12_goNights_113
theorem dX12_goNights_115 : decode cX12_goNights 115 = .ok (.iaload, 1) := oc_46 shX12_goNights_115
theorem dX12_goNights_116 : decode cX12_goNights 116 = .ok (.iload 4, 2) := oc_21 shX12_goNights_116
theorem dX12_goNights_118 : decode cX12_goNights 118 = .ok (.iastore, 1) := oc_79 shX12_goNights_118
theorem dX12_goNights_119 : decode cX12_goNights 119 = .ok (.iinc 5 1, 3) := oc_132 shX12_goNights_119 sgb_1
theorem dX12_goNights_122 : decode cX12_goNights 122 = .ok (.goto (-58), 3) := oc_167 shX12_goNights_122 sgw_255_198
theorem dX12_goNights_125 : decode cX12_goNights 125 = .ok (.iinc 4 1, 3) := oc_132 shX12_goNights_125 sgb_1
theorem dX12_goNights_128 : decode cX12_goNights 128 = .ok (.goto (-110), 3) := oc_167 shX12_goNights_128 sgw_255_146
theorem dX12_goNights_131 : decode cX12_goNights 131 = .ok (.iconst 1, 1) := oc_4 shX12_goNights_131
theorem dX12_goNights_132 : decode cX12_goNights 132 = .ok (.ireturn, 1) := oc_172 shX12_goNights_132
noncomputable def sxX12_nights_164 : List UInt8 := []
noncomputable def sxX12_nights_163 : List UInt8 := 172 :: sxX12_nights_164
noncomputable def sxX12_nights_160 : List UInt8 := 180 :: 1 :: 145 :: sxX12_nights_163
noncomputable def sxX12_nights_159 : List UInt8 := 42 :: sxX12_nights_160
noncomputable def sxX12_nights_156 : List UInt8 := 167 :: 0 :: 7 :: sxX12_nights_159
noncomputable def sxX12_nights_153 : List UInt8 := 180 :: 1 :: 142 :: sxX12_nights_156
noncomputable def sxX12_nights_152 : List UInt8 := 42 :: sxX12_nights_153
noncomputable def sxX12_nights_149 : List UInt8 := 160 :: 0 :: 10 :: sxX12_nights_152
noncomputable def sxX12_nights_148 : List UInt8 := 4 :: sxX12_nights_149
noncomputable def sxX12_nights_146 : List UInt8 := 21 :: 4 :: sxX12_nights_148
noncomputable def sxX12_nights_143 : List UInt8 := 167 :: 0 :: 20 :: sxX12_nights_146
noncomputable def sxX12_nights_140 : List UInt8 := 180 :: 1 :: 139 :: sxX12_nights_143
noncomputable def sxX12_nights_139 : List UInt8 := 42 :: sxX12_nights_140
noncomputable def sxX12_nights_136 : List UInt8 := 154 :: 0 :: 10 :: sxX12_nights_139
noncomputable def sxX12_nights_134 : List UInt8 := 21 :: 4 :: sxX12_nights_136
noncomputable def sxX12_nights_131 : List UInt8 := 167 :: 0 :: 32 :: sxX12_nights_134
noncomputable def sxX12_nights_129 : List UInt8 := 16 :: 254 :: sxX12_nights_131
noncomputable def sxX12_nights_126 : List UInt8 := 154 :: 0 :: 8 :: sxX12_nights_129
noncomputable def sxX12_nights_124 : List UInt8 := 21 :: 5 :: sxX12_nights_126
noncomputable def sxX12_nights_121 : List UInt8 := 167 :: 255 :: 230 :: sxX12_nights_124
noncomputable def sxX12_nights_118 : List UInt8 := 132 :: 6 :: 1 :: sxX12_nights_121
noncomputable def sxX12_nights_117 : List UInt8 := 79 :: sxX12_nights_118
noncomputable def sxX12_nights_116 : List UInt8 := 46 :: sxX12_nights_117
noncomputable def sxX12_nights_114 : List UInt8 := 21 :: 6 :: sxX12_nights_116
noncomputable def sxX12_nights_111 : List UInt8 := 180 :: 0 :: 122 :: sxX12_nights_114
noncomputable def sxX12_nights_110 : List UInt8 := 42 :: sxX12_nights_111
noncomputable def sxX12_nights_108 : List UInt8 := 21 :: 6 :: sxX12_nights_110
noncomputable def sxX12_nights_105 : List UInt8 := 180 :: 0 :: 22 :: sxX12_nights_108
noncomputable def sxX12_nights_104 : List UInt8 := 42 :: sxX12_nights_105
noncomputable def sxX12_nights_101 : List UInt8 := 162 :: 0 :: 23 :: sxX12_nights_104
noncomputable def sxX12_nights_98 : List UInt8 := 180 :: 0 :: 204 :: sxX12_nights_101
noncomputable def sxX12_nights_97 : List UInt8 := 42 :: sxX12_nights_98
noncomputable def sxX12_nights_95 : List UInt8 := 21 :: 6 :: sxX12_nights_97
noncomputable def sxX12_nights_93 : List UInt8 := 54 :: 6 :: sxX12_nights_95
noncomputable def sxX12_nights_92 : List UInt8 := 3 :: sxX12_nights_93
noncomputable def sxX12_nights_90 : List UInt8 := 54 :: 5 :: sxX12_nights_92
noncomputable def sxX12_nights_87 : List UInt8 := 182 :: 1 :: 148 :: sxX12_nights_90
noncomputable def sxX12_nights_86 : List UInt8 := 29 :: sxX12_nights_87
noncomputable def sxX12_nights_85 : List UInt8 := 28 :: sxX12_nights_86
noncomputable def sxX12_nights_84 : List UInt8 := 27 :: sxX12_nights_85
noncomputable def sxX12_nights_83 : List UInt8 := 42 :: sxX12_nights_84
noncomputable def sxX12_nights_80 : List UInt8 := 167 :: 255 :: 230 :: sxX12_nights_83
noncomputable def sxX12_nights_77 : List UInt8 := 132 :: 5 :: 1 :: sxX12_nights_80
noncomputable def sxX12_nights_76 : List UInt8 := 79 :: sxX12_nights_77
noncomputable def sxX12_nights_75 : List UInt8 := 46 :: sxX12_nights_76
noncomputable def sxX12_nights_73 : List UInt8 := 21 :: 5 :: sxX12_nights_75
noncomputable def sxX12_nights_70 : List UInt8 := 180 :: 0 :: 22 :: sxX12_nights_73
noncomputable def sxX12_nights_69 : List UInt8 := 42 :: sxX12_nights_70
noncomputable def sxX12_nights_67 : List UInt8 := 21 :: 5 :: sxX12_nights_69
noncomputable def sxX12_nights_64 : List UInt8 := 180 :: 0 :: 122 :: sxX12_nights_67
noncomputable def sxX12_nights_63 : List UInt8 := 42 :: sxX12_nights_64
noncomputable def sxX12_nights_60 : List UInt8 := 162 :: 0 :: 23 :: sxX12_nights_63
noncomputable def sxX12_nights_57 : List UInt8 := 180 :: 0 :: 204 :: sxX12_nights_60
noncomputable def sxX12_nights_56 : List UInt8 := 42 :: sxX12_nights_57
noncomputable def sxX12_nights_54 : List UInt8 := 21 :: 5 :: sxX12_nights_56
noncomputable def sxX12_nights_52 : List UInt8 := 54 :: 5 :: sxX12_nights_54
noncomputable def sxX12_nights_51 : List UInt8 := 3 :: sxX12_nights_52
noncomputable def sxX12_nights_50 : List UInt8 := 172 :: sxX12_nights_51
noncomputable def sxX12_nights_49 : List UInt8 := 2 :: sxX12_nights_50
noncomputable def sxX12_nights_46 : List UInt8 := 154 :: 0 :: 5 :: sxX12_nights_49
noncomputable def sxX12_nights_43 : List UInt8 := 184 :: 0 :: 214 :: sxX12_nights_46
noncomputable def sxX12_nights_42 : List UInt8 := 5 :: sxX12_nights_43
noncomputable def sxX12_nights_41 : List UInt8 := 3 :: sxX12_nights_42
noncomputable def sxX12_nights_39 : List UInt8 := 21 :: 4 :: sxX12_nights_41
noncomputable def sxX12_nights_36 : List UInt8 := 153 :: 0 :: 13 :: sxX12_nights_39
noncomputable def sxX12_nights_33 : List UInt8 := 184 :: 0 :: 214 :: sxX12_nights_36
noncomputable def sxX12_nights_30 : List UInt8 := 17 :: 1 :: 144 :: sxX12_nights_33
noncomputable def sxX12_nights_29 : List UInt8 := 4 :: sxX12_nights_30
noncomputable def sxX12_nights_28 : List UInt8 := 29 :: sxX12_nights_29
noncomputable def sxX12_nights_25 : List UInt8 := 163 :: 0 :: 24 :: sxX12_nights_28
noncomputable def sxX12_nights_22 : List UInt8 := 17 :: 1 :: 143 :: sxX12_nights_25
noncomputable def sxX12_nights_21 : List UInt8 := 100 :: sxX12_nights_22
noncomputable def sxX12_nights_20 : List UInt8 := 4 :: sxX12_nights_21
noncomputable def sxX12_nights_19 : List UInt8 := 96 :: sxX12_nights_20
noncomputable def sxX12_nights_18 : List UInt8 := 28 :: sxX12_nights_19
noncomputable def sxX12_nights_17 : List UInt8 := 27 :: sxX12_nights_18
noncomputable def sxX12_nights_14 : List UInt8 := 153 :: 0 :: 35 :: sxX12_nights_17
noncomputable def sxX12_nights_11 : List UInt8 := 184 :: 0 :: 214 :: sxX12_nights_14
noncomputable def sxX12_nights_9 : List UInt8 := 16 :: 7 :: sxX12_nights_11
noncomputable def sxX12_nights_8 : List UInt8 := 4 :: sxX12_nights_9
noncomputable def sxX12_nights_7 : List UInt8 := 28 :: sxX12_nights_8
noncomputable def sxX12_nights_4 : List UInt8 := 153 :: 0 :: 45 :: sxX12_nights_7
noncomputable def sxX12_nights_1 : List UInt8 := 184 :: 1 :: 85 :: sxX12_nights_4
noncomputable def sxX12_nights_0 : List UInt8 := 27 :: sxX12_nights_1
theorem shX12_nights_0 : cX12_nights.data.toList.drop 0 = sxX12_nights_0 := rfl
theorem shX12_nights_1 : cX12_nights.data.toList.drop 1 = sxX12_nights_1 := dSn 1 shX12_nights_0
theorem shX12_nights_4 : cX12_nights.data.toList.drop 4 = sxX12_nights_4 := dSn 3 shX12_nights_1
theorem shX12_nights_7 : cX12_nights.data.toList.drop 7 = sxX12_nights_7 := dSn 3 shX12_nights_4
theorem shX12_nights_8 : cX12_nights.data.toList.drop 8 = sxX12_nights_8 := dSn 1 shX12_nights_7
theorem shX12_nights_9 : cX12_nights.data.toList.drop 9 = sxX12_nights_9 := dSn 1 shX12_nights_8
theorem shX12_nights_11 : cX12_nights.data.toList.drop 11 = sxX12_nights_11 := dSn 2 shX12_nights_9
theorem shX12_nights_14 : cX12_nights.data.toList.drop 14 = sxX12_nights_14 := dSn 3 shX12_nights_11
theorem shX12_nights_17 : cX12_nights.data.toList.drop 17 = sxX12_nights_17 := dSn 3 shX12_nights_14
theorem shX12_nights_18 : cX12_nights.data.toList.drop 18 = sxX12_nights_18 := dSn 1 shX12_nights_17
theorem shX12_nights_19 : cX12_nights.data.toList.drop 19 = sxX12_nights_19 := dSn 1 shX12_nights_18
theorem shX12_nights_20 : cX12_nights.data.toList.drop 20 = sxX12_nights_20 := dSn 1 shX12_nights_19
theorem shX12_nights_21 : cX12_nights.data.toList.drop 21 = sxX12_nights_21 := dSn 1 shX12_nights_20
theorem shX12_nights_22 : cX12_nights.data.toList.drop 22 = sxX12_nights_22 := dSn 1 shX12_nights_21
theorem shX12_nights_25 : cX12_nights.data.toList.drop 25 = sxX12_nights_25 := dSn 3 shX12_nights_22
theorem shX12_nights_28 : cX12_nights.data.toList.drop 28 = sxX12_nights_28 := dSn 3 shX12_nights_25
theorem shX12_nights_29 : cX12_nights.data.toList.drop 29 = sxX12_nights_29 := dSn 1 shX12_nights_28
theorem shX12_nights_30 : cX12_nights.data.toList.drop 30 = sxX12_nights_30 := dSn 1 shX12_nights_29
theorem shX12_nights_33 : cX12_nights.data.toList.drop 33 = sxX12_nights_33 := dSn 3 shX12_nights_30
theorem shX12_nights_36 : cX12_nights.data.toList.drop 36 = sxX12_nights_36 := dSn 3 shX12_nights_33
theorem shX12_nights_39 : cX12_nights.data.toList.drop 39 = sxX12_nights_39 := dSn 3 shX12_nights_36
theorem shX12_nights_41 : cX12_nights.data.toList.drop 41 = sxX12_nights_41 := dSn 2 shX12_nights_39
theorem shX12_nights_42 : cX12_nights.data.toList.drop 42 = sxX12_nights_42 := dSn 1 shX12_nights_41
theorem shX12_nights_43 : cX12_nights.data.toList.drop 43 = sxX12_nights_43 := dSn 1 shX12_nights_42
theorem shX12_nights_46 : cX12_nights.data.toList.drop 46 = sxX12_nights_46 := dSn 3 shX12_nights_43
theorem shX12_nights_49 : cX12_nights.data.toList.drop 49 = sxX12_nights_49 := dSn 3 shX12_nights_46
theorem shX12_nights_50 : cX12_nights.data.toList.drop 50 = sxX12_nights_50 := dSn 1 shX12_nights_49
theorem shX12_nights_51 : cX12_nights.data.toList.drop 51 = sxX12_nights_51 := dSn 1 shX12_nights_50
theorem shX12_nights_52 : cX12_nights.data.toList.drop 52 = sxX12_nights_52 := dSn 1 shX12_nights_51
theorem shX12_nights_54 : cX12_nights.data.toList.drop 54 = sxX12_nights_54 := dSn 2 shX12_nights_52
theorem shX12_nights_56 : cX12_nights.data.toList.drop 56 = sxX12_nights_56 := dSn 2 shX12_nights_54
theorem shX12_nights_57 : cX12_nights.data.toList.drop 57 = sxX12_nights_57 := dSn 1 shX12_nights_56
theorem shX12_nights_60 : cX12_nights.data.toList.drop 60 = sxX12_nights_60 := dSn 3 shX12_nights_57
theorem shX12_nights_63 : cX12_nights.data.toList.drop 63 = sxX12_nights_63 := dSn 3 shX12_nights_60
theorem shX12_nights_64 : cX12_nights.data.toList.drop 64 = sxX12_nights_64 := dSn 1 shX12_nights_63
theorem shX12_nights_67 : cX12_nights.data.toList.drop 67 = sxX12_nights_67 := dSn 3 shX12_nights_64
theorem shX12_nights_69 : cX12_nights.data.toList.drop 69 = sxX12_nights_69 := dSn 2 shX12_nights_67
theorem shX12_nights_70 : cX12_nights.data.toList.drop 70 = sxX12_nights_70 := dSn 1 shX12_nights_69
theorem shX12_nights_73 : cX12_nights.data.toList.drop 73 = sxX12_nights_73 := dSn 3 shX12_nights_70
theorem shX12_nights_75 : cX12_nights.data.toList.drop 75 = sxX12_nights_75 := dSn 2 shX12_nights_73
theorem shX12_nights_76 : cX12_nights.data.toList.drop 76 = sxX12_nights_76 := dSn 1 shX12_nights_75
theorem shX12_nights_77 : cX12_nights.data.toList.drop 77 = sxX12_nights_77 := dSn 1 shX12_nights_76
theorem shX12_nights_80 : cX12_nights.data.toList.drop 80 = sxX12_nights_80 := dSn 3 shX12_nights_77
theorem shX12_nights_83 : cX12_nights.data.toList.drop 83 = sxX12_nights_83 := dSn 3 shX12_nights_80
theorem shX12_nights_84 : cX12_nights.data.toList.drop 84 = sxX12_nights_84 := dSn 1 shX12_nights_83
theorem shX12_nights_85 : cX12_nights.data.toList.drop 85 = sxX12_nights_85 := dSn 1 shX12_nights_84
theorem shX12_nights_86 : cX12_nights.data.toList.drop 86 = sxX12_nights_86 := dSn 1 shX12_nights_85
theorem shX12_nights_87 : cX12_nights.data.toList.drop 87 = sxX12_nights_87 := dSn 1 shX12_nights_86
theorem shX12_nights_90 : cX12_nights.data.toList.drop 90 = sxX12_nights_90 := dSn 3 shX12_nights_87
theorem shX12_nights_92 : cX12_nights.data.toList.drop 92 = sxX12_nights_92 := dSn 2 shX12_nights_90
theorem shX12_nights_93 : cX12_nights.data.toList.drop 93 = sxX12_nights_93 := dSn 1 shX12_nights_92
theorem shX12_nights_95 : cX12_nights.data.toList.drop 95 = sxX12_nights_95 := dSn 2 shX12_nights_93
theorem shX12_nights_97 : cX12_nights.data.toList.drop 97 = sxX12_nights_97 := dSn 2 shX12_nights_95
theorem shX12_nights_98 : cX12_nights.data.toList.drop 98 = sxX12_nights_98 := dSn 1 shX12_nights_97
theorem shX12_nights_101 : cX12_nights.data.toList.drop 101 = sxX12_nights_101 := dSn 3 shX12_nights_98
theorem shX12_nights_104 : cX12_nights.data.toList.drop 104 = sxX12_nights_104 := dSn 3 shX12_nights_101
theorem shX12_nights_105 : cX12_nights.data.toList.drop 105 = sxX12_nights_105 := dSn 1 shX12_nights_104
theorem shX12_nights_108 : cX12_nights.data.toList.drop 108 = sxX12_nights_108 := dSn 3 shX12_nights_105
theorem shX12_nights_110 : cX12_nights.data.toList.drop 110 = sxX12_nights_110 := dSn 2 shX12_nights_108
theorem shX12_nights_111 : cX12_nights.data.toList.drop 111 = sxX12_nights_111 := dSn 1 shX12_nights_110
theorem shX12_nights_114 : cX12_nights.data.toList.drop 114 = sxX12_nights_114 := dSn 3 shX12_nights_111
theorem shX12_nights_116 : cX12_nights.data.toList.drop 116 = sxX12_nights_116 := dSn 2 shX12_nights_114
theorem shX12_nights_117 : cX12_nights.data.toList.drop 117 = sxX12_nights_117 := dSn 1 shX12_nights_116
theorem shX12_nights_118 : cX12_nights.data.toList.drop 118 = sxX12_nights_118 := dSn 1 shX12_nights_117
theorem shX12_nights_121 : cX12_nights.data.toList.drop 121 = sxX12_nights_121 := dSn 3 shX12_nights_118
theorem shX12_nights_124 : cX12_nights.data.toList.drop 124 = sxX12_nights_124 := dSn 3 shX12_nights_121
theorem shX12_nights_126 : cX12_nights.data.toList.drop 126 = sxX12_nights_126 := dSn 2 shX12_nights_124
theorem shX12_nights_129 : cX12_nights.data.toList.drop 129 = sxX12_nights_129 := dSn 3 shX12_nights_126
theorem shX12_nights_131 : cX12_nights.data.toList.drop 131 = sxX12_nights_131 := dSn 2 shX12_nights_129
theorem shX12_nights_134 : cX12_nights.data.toList.drop 134 = sxX12_nights_134 := dSn 3 shX12_nights_131
theorem shX12_nights_136 : cX12_nights.data.toList.drop 136 = sxX12_nights_136 := dSn 2 shX12_nights_134
theorem shX12_nights_139 : cX12_nights.data.toList.drop 139 = sxX12_nights_139 := dSn 3 shX12_nights_136
theorem shX12_nights_140 : cX12_nights.data.toList.drop 140 = sxX12_nights_140 := dSn 1 shX12_nights_139
theorem shX12_nights_143 : cX12_nights.data.toList.drop 143 = sxX12_nights_143 := dSn 3 shX12_nights_140
theorem shX12_nights_146 : cX12_nights.data.toList.drop 146 = sxX12_nights_146 := dSn 3 shX12_nights_143
theorem shX12_nights_148 : cX12_nights.data.toList.drop 148 = sxX12_nights_148 := dSn 2 shX12_nights_146
theorem shX12_nights_149 : cX12_nights.data.toList.drop 149 = sxX12_nights_149 := dSn 1 shX12_nights_148
theorem shX12_nights_152 : cX12_nights.data.toList.drop 152 = sxX12_nights_152 := dSn 3 shX12_nights_149
theorem shX12_nights_153 : cX12_nights.data.toList.drop 153 = sxX12_nights_153 := dSn 1 shX12_nights_152
theorem shX12_nights_156 : cX12_nights.data.toList.drop 156 = sxX12_nights_156 := dSn 3 shX12_nights_153
theorem shX12_nights_159 : cX12_nights.data.toList.drop 159 = sxX12_nights_159 := dSn 3 shX12_nights_156
theorem shX12_nights_160 : cX12_nights.data.toList.drop 160 = sxX12_nights_160 := dSn 1 shX12_nights_159
theorem shX12_nights_163 : cX12_nights.data.toList.drop 163 = sxX12_nights_163 := dSn 3 shX12_nights_160
theorem dX12_nights_0 : decode cX12_nights 0 = .ok (.iload_n 1, 1) := oc_27 shX12_nights_0
theorem dX12_nights_1 : decode cX12_nights 1 = .ok (.invokestatic 341, 3) := oc_184 shX12_nights_1
theorem dX12_nights_4 : decode cX12_nights 4 = .ok (.ifCond .eq 45, 3) := oc_153 shX12_nights_4 sgw_0_45
theorem dX12_nights_7 : decode cX12_nights 7 = .ok (.iload_n 2, 1) := oc_28 shX12_nights_7
theorem dX12_nights_8 : decode cX12_nights 8 = .ok (.iconst 1, 1) := oc_4 shX12_nights_8
theorem dX12_nights_9 : decode cX12_nights 9 = .ok (.bipush 7, 2) := oc_16 shX12_nights_9 sgb_7
theorem dX12_nights_11 : decode cX12_nights 11 = .ok (.invokestatic 214, 3) := oc_184 shX12_nights_11
theorem dX12_nights_14 : decode cX12_nights 14 = .ok (.ifCond .eq 35, 3) := oc_153 shX12_nights_14 sgw_0_35
theorem dX12_nights_17 : decode cX12_nights 17 = .ok (.iload_n 1, 1) := oc_27 shX12_nights_17
theorem dX12_nights_18 : decode cX12_nights 18 = .ok (.iload_n 2, 1) := oc_28 shX12_nights_18
theorem dX12_nights_19 : decode cX12_nights 19 = .ok (.iadd, 1) := oc_96 shX12_nights_19
theorem dX12_nights_20 : decode cX12_nights 20 = .ok (.iconst 1, 1) := oc_4 shX12_nights_20
theorem dX12_nights_21 : decode cX12_nights 21 = .ok (.isub, 1) := oc_100 shX12_nights_21
theorem dX12_nights_22 : decode cX12_nights 22 = .ok (.sipush 399, 3) := oc_17 shX12_nights_22 sgw_1_143
theorem dX12_nights_25 : decode cX12_nights 25 = .ok (.if_icmp .gt 24, 3) := oc_163 shX12_nights_25 sgw_0_24
theorem dX12_nights_28 : decode cX12_nights 28 = .ok (.iload_n 3, 1) := oc_29 shX12_nights_28
theorem dX12_nights_29 : decode cX12_nights 29 = .ok (.iconst 1, 1) := oc_4 shX12_nights_29
theorem dX12_nights_30 : decode cX12_nights 30 = .ok (.sipush 400, 3) := oc_17 shX12_nights_30 sgw_1_144
theorem dX12_nights_33 : decode cX12_nights 33 = .ok (.invokestatic 214, 3) := oc_184 shX12_nights_33
theorem dX12_nights_36 : decode cX12_nights 36 = .ok (.ifCond .eq 13, 3) := oc_153 shX12_nights_36 sgw_0_13
theorem dX12_nights_39 : decode cX12_nights 39 = .ok (.iload 4, 2) := oc_21 shX12_nights_39
theorem dX12_nights_41 : decode cX12_nights 41 = .ok (.iconst 0, 1) := oc_3 shX12_nights_41
theorem dX12_nights_42 : decode cX12_nights 42 = .ok (.iconst 2, 1) := oc_5 shX12_nights_42
theorem dX12_nights_43 : decode cX12_nights 43 = .ok (.invokestatic 214, 3) := oc_184 shX12_nights_43
theorem dX12_nights_46 : decode cX12_nights 46 = .ok (.ifCond .ne 5, 3) := oc_154 shX12_nights_46 sgw_0_5
theorem dX12_nights_49 : decode cX12_nights 49 = .ok (.iconst (-1), 1) := oc_2 shX12_nights_49
theorem dX12_nights_50 : decode cX12_nights 50 = .ok (.ireturn, 1) := oc_172 shX12_nights_50
theorem dX12_nights_51 : decode cX12_nights 51 = .ok (.iconst 0, 1) := oc_3 shX12_nights_51
theorem dX12_nights_52 : decode cX12_nights 52 = .ok (.istore 5, 2) := oc_54 shX12_nights_52
theorem dX12_nights_54 : decode cX12_nights 54 = .ok (.iload 5, 2) := oc_21 shX12_nights_54
theorem dX12_nights_56 : decode cX12_nights 56 = .ok (.aload_n 0, 1) := oc_42 shX12_nights_56
theorem dX12_nights_57 : decode cX12_nights 57 = .ok (.getfield 204, 3) := oc_180 shX12_nights_57
theorem dX12_nights_60 : decode cX12_nights 60 = .ok (.if_icmp .ge 23, 3) := oc_162 shX12_nights_60 sgw_0_23
theorem dX12_nights_63 : decode cX12_nights 63 = .ok (.aload_n 0, 1) := oc_42 shX12_nights_63
theorem dX12_nights_64 : decode cX12_nights 64 = .ok (.getfield 122, 3) := oc_180 shX12_nights_64
theorem dX12_nights_67 : decode cX12_nights 67 = .ok (.iload 5, 2) := oc_21 shX12_nights_67
theorem dX12_nights_69 : decode cX12_nights 69 = .ok (.aload_n 0, 1) := oc_42 shX12_nights_69
theorem dX12_nights_70 : decode cX12_nights 70 = .ok (.getfield 22, 3) := oc_180 shX12_nights_70
theorem dX12_nights_73 : decode cX12_nights 73 = .ok (.iload 5, 2) := oc_21 shX12_nights_73
theorem dX12_nights_75 : decode cX12_nights 75 = .ok (.iaload, 1) := oc_46 shX12_nights_75
theorem dX12_nights_76 : decode cX12_nights 76 = .ok (.iastore, 1) := oc_79 shX12_nights_76
theorem dX12_nights_77 : decode cX12_nights 77 = .ok (.iinc 5 1, 3) := oc_132 shX12_nights_77 sgb_1
theorem dX12_nights_80 : decode cX12_nights 80 = .ok (.goto (-26), 3) := oc_167 shX12_nights_80 sgw_255_230
theorem dX12_nights_83 : decode cX12_nights 83 = .ok (.aload_n 0, 1) := oc_42 shX12_nights_83
theorem dX12_nights_84 : decode cX12_nights 84 = .ok (.iload_n 1, 1) := oc_27 shX12_nights_84
theorem dX12_nights_85 : decode cX12_nights 85 = .ok (.iload_n 2, 1) := oc_28 shX12_nights_85
theorem dX12_nights_86 : decode cX12_nights 86 = .ok (.iload_n 3, 1) := oc_29 shX12_nights_86
theorem dX12_nights_87 : decode cX12_nights 87 = .ok (.invokevirtual 404, 3) := oc_182 shX12_nights_87
theorem dX12_nights_90 : decode cX12_nights 90 = .ok (.istore 5, 2) := oc_54 shX12_nights_90
theorem dX12_nights_92 : decode cX12_nights 92 = .ok (.iconst 0, 1) := oc_3 shX12_nights_92
theorem dX12_nights_93 : decode cX12_nights 93 = .ok (.istore 6, 2) := oc_54 shX12_nights_93
theorem dX12_nights_95 : decode cX12_nights 95 = .ok (.iload 6, 2) := oc_21 shX12_nights_95
theorem dX12_nights_97 : decode cX12_nights 97 = .ok (.aload_n 0, 1) := oc_42 shX12_nights_97
theorem dX12_nights_98 : decode cX12_nights 98 = .ok (.getfield 204, 3) := oc_180 shX12_nights_98
theorem dX12_nights_101 : decode cX12_nights 101 = .ok (.if_icmp .ge 23, 3) := oc_162 shX12_nights_101 sgw_0_23
theorem dX12_nights_104 : decode cX12_nights 104 = .ok (.aload_n 0, 1) := oc_42 shX12_nights_104
theorem dX12_nights_105 : decode cX12_nights 105 = .ok (.getfield 22, 3) := oc_180 shX12_nights_105
theorem dX12_nights_108 : decode cX12_nights 108 = .ok (.iload 6, 2) := oc_21 shX12_nights_108
theorem dX12_nights_110 : decode cX12_nights 110 = .ok (.aload_n 0, 1) := oc_42 shX12_nights_110
theorem dX12_nights_111 : decode cX12_nights 111 = .ok (.getfield 122, 3) := oc_180 shX12_nights_111
theorem dX12_nights_114 : decode cX12_nights 114 = .ok (.iload 6, 2) := oc_21 shX12_nights_114
theorem dX12_nights_116 : decode cX12_nights 116 = .ok (.iaload, 1) := oc_46 shX12_nights_116
theorem dX12_nights_117 : decode cX12_nights 117 = .ok (.iastore, 1) := oc_79 shX12_nights_117
theorem dX12_nights_118 : decode cX12_nights 118 = .ok (.iinc 6 1, 3) := oc_132 shX12_nights_118 sgb_1
theorem dX12_nights_121 : decode cX12_nights 121 = .ok (.goto (-26), 3) := oc_167 shX12_nights_121 sgw_255_230
theorem dX12_nights_124 : decode cX12_nights 124 = .ok (.iload 5, 2) := oc_21 shX12_nights_124
theorem dX12_nights_126 : decode cX12_nights 126 = .ok (.ifCond .ne 8, 3) := oc_154 shX12_nights_126 sgw_0_8
theorem dX12_nights_129 : decode cX12_nights 129 = .ok (.bipush (-2), 2) := oc_16 shX12_nights_129 sgb_254
theorem dX12_nights_131 : decode cX12_nights 131 = .ok (.goto 32, 3) := oc_167 shX12_nights_131 sgw_0_32
theorem dX12_nights_134 : decode cX12_nights 134 = .ok (.iload 4, 2) := oc_21 shX12_nights_134
theorem dX12_nights_136 : decode cX12_nights 136 = .ok (.ifCond .ne 10, 3) := oc_154 shX12_nights_136 sgw_0_10
theorem dX12_nights_139 : decode cX12_nights 139 = .ok (.aload_n 0, 1) := oc_42 shX12_nights_139
theorem dX12_nights_140 : decode cX12_nights 140 = .ok (.getfield 395, 3) := oc_180 shX12_nights_140
theorem dX12_nights_143 : decode cX12_nights 143 = .ok (.goto 20, 3) := oc_167 shX12_nights_143 sgw_0_20
theorem dX12_nights_146 : decode cX12_nights 146 = .ok (.iload 4, 2) := oc_21 shX12_nights_146
theorem dX12_nights_148 : decode cX12_nights 148 = .ok (.iconst 1, 1) := oc_4 shX12_nights_148
theorem dX12_nights_149 : decode cX12_nights 149 = .ok (.if_icmp .ne 10, 3) := oc_160 shX12_nights_149 sgw_0_10
theorem dX12_nights_152 : decode cX12_nights 152 = .ok (.aload_n 0, 1) := oc_42 shX12_nights_152
theorem dX12_nights_153 : decode cX12_nights 153 = .ok (.getfield 398, 3) := oc_180 shX12_nights_153
theorem dX12_nights_156 : decode cX12_nights 156 = .ok (.goto 7, 3) := oc_167 shX12_nights_156 sgw_0_7
theorem dX12_nights_159 : decode cX12_nights 159 = .ok (.aload_n 0, 1) := oc_42 shX12_nights_159
theorem dX12_nights_160 : decode cX12_nights 160 = .ok (.getfield 401, 3) := oc_180 shX12_nights_160
theorem dX12_nights_163 : decode cX12_nights 163 = .ok (.ireturn, 1) := oc_172 shX12_nights_163
noncomputable def sxX12_drum_28 : List UInt8 := []
noncomputable def sxX12_drum_27 : List UInt8 := 172 :: sxX12_drum_28
noncomputable def sxX12_drum_26 : List UInt8 := 100 :: sxX12_drum_27
noncomputable def sxX12_drum_25 : List UInt8 := 4 :: sxX12_drum_26
noncomputable def sxX12_drum_22 : List UInt8 := 180 :: 1 :: 151 :: sxX12_drum_25
noncomputable def sxX12_drum_21 : List UInt8 := 42 :: sxX12_drum_22
noncomputable def sxX12_drum_18 : List UInt8 := 181 :: 1 :: 151 :: sxX12_drum_21
noncomputable def sxX12_drum_17 : List UInt8 := 96 :: sxX12_drum_18
noncomputable def sxX12_drum_16 : List UInt8 := 4 :: sxX12_drum_17
noncomputable def sxX12_drum_13 : List UInt8 := 180 :: 1 :: 151 :: sxX12_drum_16
noncomputable def sxX12_drum_12 : List UInt8 := 42 :: sxX12_drum_13
noncomputable def sxX12_drum_11 : List UInt8 := 42 :: sxX12_drum_12
noncomputable def sxX12_drum_10 : List UInt8 := 172 :: sxX12_drum_11
noncomputable def sxX12_drum_9 : List UInt8 := 2 :: sxX12_drum_10
noncomputable def sxX12_drum_6 : List UInt8 := 160 :: 0 :: 5 :: sxX12_drum_9
noncomputable def sxX12_drum_4 : List UInt8 := 16 :: 20 :: sxX12_drum_6
noncomputable def sxX12_drum_1 : List UInt8 := 180 :: 1 :: 151 :: sxX12_drum_4
noncomputable def sxX12_drum_0 : List UInt8 := 42 :: sxX12_drum_1
theorem shX12_drum_0 : cX12_drum.data.toList.drop 0 = sxX12_drum_0 := rfl
theorem shX12_drum_1 : cX12_drum.data.toList.drop 1 = sxX12_drum_1 := dSn 1 shX12_drum_0
theorem shX12_drum_4 : cX12_drum.data.toList.drop 4 = sxX12_drum_4 := dSn 3 shX12_drum_1
theorem shX12_drum_6 : cX12_drum.data.toList.drop 6 = sxX12_drum_6 := dSn 2 shX12_drum_4
theorem shX12_drum_9 : cX12_drum.data.toList.drop 9 = sxX12_drum_9 := dSn 3 shX12_drum_6
theorem shX12_drum_10 : cX12_drum.data.toList.drop 10 = sxX12_drum_10 := dSn 1 shX12_drum_9
theorem shX12_drum_11 : cX12_drum.data.toList.drop 11 = sxX12_drum_11 := dSn 1 shX12_drum_10
theorem shX12_drum_12 : cX12_drum.data.toList.drop 12 = sxX12_drum_12 := dSn 1 shX12_drum_11
theorem shX12_drum_13 : cX12_drum.data.toList.drop 13 = sxX12_drum_13 := dSn 1 shX12_drum_12
theorem shX12_drum_16 : cX12_drum.data.toList.drop 16 = sxX12_drum_16 := dSn 3 shX12_drum_13
theorem shX12_drum_17 : cX12_drum.data.toList.drop 17 = sxX12_drum_17 := dSn 1 shX12_drum_16
theorem shX12_drum_18 : cX12_drum.data.toList.drop 18 = sxX12_drum_18 := dSn 1 shX12_drum_17
theorem shX12_drum_21 : cX12_drum.data.toList.drop 21 = sxX12_drum_21 := dSn 3 shX12_drum_18
theorem shX12_drum_22 : cX12_drum.data.toList.drop 22 = sxX12_drum_22 := dSn 1 shX12_drum_21
theorem shX12_drum_25 : cX12_drum.data.toList.drop 25 = sxX12_drum_25 := dSn 3 shX12_drum_22
theorem shX12_drum_26 : cX12_drum.data.toList.drop 26 = sxX12_drum_26 := dSn 1 shX12_drum_25
theorem shX12_drum_27 : cX12_drum.data.toList.drop 27 = sxX12_drum_27 := dSn 1 shX12_drum_26
theorem dX12_drum_0 : decode cX12_drum 0 = .ok (.aload_n 0, 1) := oc_42 shX12_drum_0
theorem dX12_drum_1 : decode cX12_drum 1 = .ok (.getfield 407, 3) := oc_180 shX12_drum_1
theorem dX12_drum_4 : decode cX12_drum 4 = .ok (.bipush 20, 2) := oc_16 shX12_drum_4 sgb_20
theorem dX12_drum_6 : decode cX12_drum 6 = .ok (.if_icmp .ne 5, 3) := oc_160 shX12_drum_6 sgw_0_5
theorem dX12_drum_9 : decode cX12_drum 9 = .ok (.iconst (-1), 1) := oc_2 shX12_drum_9
theorem dX12_drum_10 : decode cX12_drum 10 = .ok (.ireturn, 1) := oc_172 shX12_drum_10
theorem dX12_drum_11 : decode cX12_drum 11 = .ok (.aload_n 0, 1) := oc_42 shX12_drum_11
theorem dX12_drum_12 : decode cX12_drum 12 = .ok (.aload_n 0, 1) := oc_42 shX12_drum_12
theorem dX12_drum_13 : decode cX12_drum 13 = .ok (.getfield 407, 3) := oc_180 shX12_drum_13
theorem dX12_drum_16 : decode cX12_drum 16 = .ok (.iconst 1, 1) := oc_4 shX12_drum_16
theorem dX12_drum_17 : decode cX12_drum 17 = .ok (.iadd, 1) := oc_96 shX12_drum_17
theorem dX12_drum_18 : decode cX12_drum 18 = .ok (.putfield 407, 3) := oc_181 shX12_drum_18
theorem dX12_drum_21 : decode cX12_drum 21 = .ok (.aload_n 0, 1) := oc_42 shX12_drum_21
theorem dX12_drum_22 : decode cX12_drum 22 = .ok (.getfield 407, 3) := oc_180 shX12_drum_22
theorem dX12_drum_25 : decode cX12_drum 25 = .ok (.iconst 1, 1) := oc_4 shX12_drum_25
theorem dX12_drum_26 : decode cX12_drum 26 = .ok (.isub, 1) := oc_100 shX12_drum_26
theorem dX12_drum_27 : decode cX12_drum 27 = .ok (.ireturn, 1) := oc_172 shX12_drum_27
noncomputable def sxX12_isDrum_18 : List UInt8 := []
noncomputable def sxX12_isDrum_17 : List UInt8 := 172 :: sxX12_isDrum_18
noncomputable def sxX12_isDrum_16 : List UInt8 := 3 :: sxX12_isDrum_17
noncomputable def sxX12_isDrum_13 : List UInt8 := 167 :: 0 :: 4 :: sxX12_isDrum_16
noncomputable def sxX12_isDrum_12 : List UInt8 := 4 :: sxX12_isDrum_13
noncomputable def sxX12_isDrum_9 : List UInt8 := 162 :: 0 :: 7 :: sxX12_isDrum_12
noncomputable def sxX12_isDrum_6 : List UInt8 := 180 :: 1 :: 151 :: sxX12_isDrum_9
noncomputable def sxX12_isDrum_5 : List UInt8 := 42 :: sxX12_isDrum_6
noncomputable def sxX12_isDrum_4 : List UInt8 := 27 :: sxX12_isDrum_5
noncomputable def sxX12_isDrum_1 : List UInt8 := 155 :: 0 :: 15 :: sxX12_isDrum_4
noncomputable def sxX12_isDrum_0 : List UInt8 := 27 :: sxX12_isDrum_1
theorem shX12_isDrum_0 : cX12_isDrum.data.toList.drop 0 = sxX12_isDrum_0 := rfl
theorem shX12_isDrum_1 : cX12_isDrum.data.toList.drop 1 = sxX12_isDrum_1 := dSn 1 shX12_isDrum_0
theorem shX12_isDrum_4 : cX12_isDrum.data.toList.drop 4 = sxX12_isDrum_4 := dSn 3 shX12_isDrum_1
theorem shX12_isDrum_5 : cX12_isDrum.data.toList.drop 5 = sxX12_isDrum_5 := dSn 1 shX12_isDrum_4
theorem shX12_isDrum_6 : cX12_isDrum.data.toList.drop 6 = sxX12_isDrum_6 := dSn 1 shX12_isDrum_5
theorem shX12_isDrum_9 : cX12_isDrum.data.toList.drop 9 = sxX12_isDrum_9 := dSn 3 shX12_isDrum_6
theorem shX12_isDrum_12 : cX12_isDrum.data.toList.drop 12 = sxX12_isDrum_12 := dSn 3 shX12_isDrum_9
theorem shX12_isDrum_13 : cX12_isDrum.data.toList.drop 13 = sxX12_isDrum_13 := dSn 1 shX12_isDrum_12
theorem shX12_isDrum_16 : cX12_isDrum.data.toList.drop 16 = sxX12_isDrum_16 := dSn 3 shX12_isDrum_13
theorem shX12_isDrum_17 : cX12_isDrum.data.toList.drop 17 = sxX12_isDrum_17 := dSn 1 shX12_isDrum_16
theorem dX12_isDrum_0 : decode cX12_isDrum 0 = .ok (.iload_n 1, 1) := oc_27 shX12_isDrum_0
theorem dX12_isDrum_1 : decode cX12_isDrum 1 = .ok (.ifCond .lt 15, 3) := oc_155 shX12_isDrum_1 sgw_0_15
theorem dX12_isDrum_4 : decode cX12_isDrum 4 = .ok (.iload_n 1, 1) := oc_27 shX12_isDrum_4
theorem dX12_isDrum_5 : decode cX12_isDrum 5 = .ok (.aload_n 0, 1) := oc_42 shX12_isDrum_5
theorem dX12_isDrum_6 : decode cX12_isDrum 6 = .ok (.getfield 407, 3) := oc_180 shX12_isDrum_6
theorem dX12_isDrum_9 : decode cX12_isDrum 9 = .ok (.if_icmp .ge 7, 3) := oc_162 shX12_isDrum_9 sgw_0_7
theorem dX12_isDrum_12 : decode cX12_isDrum 12 = .ok (.iconst 1, 1) := oc_4 shX12_isDrum_12
theorem dX12_isDrum_13 : decode cX12_isDrum 13 = .ok (.goto 4, 3) := oc_167 shX12_isDrum_13 sgw_0_4
theorem dX12_isDrum_16 : decode cX12_isDrum 16 = .ok (.iconst 0, 1) := oc_3 shX12_isDrum_16
theorem dX12_isDrum_17 : decode cX12_isDrum 17 = .ok (.ireturn, 1) := oc_172 shX12_isDrum_17
noncomputable def sxX12_latest_47 : List UInt8 := []
noncomputable def sxX12_latest_46 : List UInt8 := 172 :: sxX12_latest_47
noncomputable def sxX12_latest_45 : List UInt8 := 29 :: sxX12_latest_46
noncomputable def sxX12_latest_42 : List UInt8 := 167 :: 255 :: 219 :: sxX12_latest_45
noncomputable def sxX12_latest_39 : List UInt8 := 132 :: 4 :: 1 :: sxX12_latest_42
noncomputable def sxX12_latest_38 : List UInt8 := 62 :: sxX12_latest_39
noncomputable def sxX12_latest_36 : List UInt8 := 21 :: 4 :: sxX12_latest_38
noncomputable def sxX12_latest_33 : List UInt8 := 163 :: 0 :: 6 :: sxX12_latest_36
noncomputable def sxX12_latest_32 : List UInt8 := 28 :: sxX12_latest_33
noncomputable def sxX12_latest_31 : List UInt8 := 46 :: sxX12_latest_32
noncomputable def sxX12_latest_29 : List UInt8 := 21 :: 4 :: sxX12_latest_31
noncomputable def sxX12_latest_26 : List UInt8 := 180 :: 0 :: 135 :: sxX12_latest_29
noncomputable def sxX12_latest_25 : List UInt8 := 42 :: sxX12_latest_26
noncomputable def sxX12_latest_22 : List UInt8 := 160 :: 0 :: 17 :: sxX12_latest_25
noncomputable def sxX12_latest_21 : List UInt8 := 27 :: sxX12_latest_22
noncomputable def sxX12_latest_20 : List UInt8 := 46 :: sxX12_latest_21
noncomputable def sxX12_latest_18 : List UInt8 := 21 :: 4 :: sxX12_latest_20
noncomputable def sxX12_latest_15 : List UInt8 := 180 :: 0 :: 129 :: sxX12_latest_18
noncomputable def sxX12_latest_14 : List UInt8 := 42 :: sxX12_latest_15
noncomputable def sxX12_latest_11 : List UInt8 := 162 :: 0 :: 34 :: sxX12_latest_14
noncomputable def sxX12_latest_8 : List UInt8 := 180 :: 1 :: 154 :: sxX12_latest_11
noncomputable def sxX12_latest_7 : List UInt8 := 42 :: sxX12_latest_8
noncomputable def sxX12_latest_5 : List UInt8 := 21 :: 4 :: sxX12_latest_7
noncomputable def sxX12_latest_3 : List UInt8 := 54 :: 4 :: sxX12_latest_5
noncomputable def sxX12_latest_2 : List UInt8 := 3 :: sxX12_latest_3
noncomputable def sxX12_latest_1 : List UInt8 := 62 :: sxX12_latest_2
noncomputable def sxX12_latest_0 : List UInt8 := 2 :: sxX12_latest_1
theorem shX12_latest_0 : cX12_latest.data.toList.drop 0 = sxX12_latest_0 := rfl
theorem shX12_latest_1 : cX12_latest.data.toList.drop 1 = sxX12_latest_1 := dSn 1 shX12_latest_0
theorem shX12_latest_2 : cX12_latest.data.toList.drop 2 = sxX12_latest_2 := dSn 1 shX12_latest_1
theorem shX12_latest_3 : cX12_latest.data.toList.drop 3 = sxX12_latest_3 := dSn 1 shX12_latest_2
theorem shX12_latest_5 : cX12_latest.data.toList.drop 5 = sxX12_latest_5 := dSn 2 shX12_latest_3
theorem shX12_latest_7 : cX12_latest.data.toList.drop 7 = sxX12_latest_7 := dSn 2 shX12_latest_5
theorem shX12_latest_8 : cX12_latest.data.toList.drop 8 = sxX12_latest_8 := dSn 1 shX12_latest_7
theorem shX12_latest_11 : cX12_latest.data.toList.drop 11 = sxX12_latest_11 := dSn 3 shX12_latest_8
theorem shX12_latest_14 : cX12_latest.data.toList.drop 14 = sxX12_latest_14 := dSn 3 shX12_latest_11
theorem shX12_latest_15 : cX12_latest.data.toList.drop 15 = sxX12_latest_15 := dSn 1 shX12_latest_14
theorem shX12_latest_18 : cX12_latest.data.toList.drop 18 = sxX12_latest_18 := dSn 3 shX12_latest_15
theorem shX12_latest_20 : cX12_latest.data.toList.drop 20 = sxX12_latest_20 := dSn 2 shX12_latest_18
theorem shX12_latest_21 : cX12_latest.data.toList.drop 21 = sxX12_latest_21 := dSn 1 shX12_latest_20
theorem shX12_latest_22 : cX12_latest.data.toList.drop 22 = sxX12_latest_22 := dSn 1 shX12_latest_21
theorem shX12_latest_25 : cX12_latest.data.toList.drop 25 = sxX12_latest_25 := dSn 3 shX12_latest_22
theorem shX12_latest_26 : cX12_latest.data.toList.drop 26 = sxX12_latest_26 := dSn 1 shX12_latest_25
theorem shX12_latest_29 : cX12_latest.data.toList.drop 29 = sxX12_latest_29 := dSn 3 shX12_latest_26
theorem shX12_latest_31 : cX12_latest.data.toList.drop 31 = sxX12_latest_31 := dSn 2 shX12_latest_29
theorem shX12_latest_32 : cX12_latest.data.toList.drop 32 = sxX12_latest_32 := dSn 1 shX12_latest_31
theorem shX12_latest_33 : cX12_latest.data.toList.drop 33 = sxX12_latest_33 := dSn 1 shX12_latest_32
theorem shX12_latest_36 : cX12_latest.data.toList.drop 36 = sxX12_latest_36 := dSn 3 shX12_latest_33
theorem shX12_latest_38 : cX12_latest.data.toList.drop 38 = sxX12_latest_38 := dSn 2 shX12_latest_36
theorem shX12_latest_39 : cX12_latest.data.toList.drop 39 = sxX12_latest_39 := dSn 1 shX12_latest_38
theorem shX12_latest_42 : cX12_latest.data.toList.drop 42 = sxX12_latest_42 := dSn 3 shX12_latest_39
theorem shX12_latest_45 : cX12_latest.data.toList.drop 45 = sxX12_latest_45 := dSn 3 shX12_latest_42
theorem shX12_latest_46 : cX12_latest.data.toList.drop 46 = sxX12_latest_46 := dSn 1 shX12_latest_45
theorem dX12_latest_0 : decode cX12_latest 0 = .ok (.iconst (-1), 1) := oc_2 shX12_latest_0
theorem dX12_latest_1 : decode cX12_latest 1 = .ok (.istore_n 3, 1) := oc_62 shX12_latest_1
theorem dX12_latest_2 : decode cX12_latest 2 = .ok (.iconst 0, 1) := oc_3 shX12_latest_2
theorem dX12_latest_3 : decode cX12_latest 3 = .ok (.istore 4, 2) := oc_54 shX12_latest_3
theorem dX12_latest_5 : decode cX12_latest 5 = .ok (.iload 4, 2) := oc_21 shX12_latest_5
theorem dX12_latest_7 : decode cX12_latest 7 = .ok (.aload_n 0, 1) := oc_42 shX12_latest_7
theorem dX12_latest_8 : decode cX12_latest 8 = .ok (.getfield 410, 3) := oc_180 shX12_latest_8
theorem dX12_latest_11 : decode cX12_latest 11 = .ok (.if_icmp .ge 34, 3) := oc_162 shX12_latest_11 sgw_0_34
theorem dX12_latest_14 : decode cX12_latest 14 = .ok (.aload_n 0, 1) := oc_42 shX12_latest_14
theorem dX12_latest_15 : decode cX12_latest 15 = .ok (.getfield 129, 3) := oc_180 shX12_latest_15
theorem dX12_latest_18 : decode cX12_latest 18 = .ok (.iload 4, 2) := oc_21 shX12_latest_18
theorem dX12_latest_20 : decode cX12_latest 20 = .ok (.iaload, 1) := oc_46 shX12_latest_20
theorem dX12_latest_21 : decode cX12_latest 21 = .ok (.iload_n 1, 1) := oc_27 shX12_latest_21
theorem dX12_latest_22 : decode cX12_latest 22 = .ok (.if_icmp .ne 17, 3) := oc_160 shX12_latest_22 sgw_0_17
theorem dX12_latest_25 : decode cX12_latest 25 = .ok (.aload_n 0, 1) := oc_42 shX12_latest_25
theorem dX12_latest_26 : decode cX12_latest 26 = .ok (.getfield 135, 3) := oc_180 shX12_latest_26
theorem dX12_latest_29 : decode cX12_latest 29 = .ok (.iload 4, 2) := oc_21 shX12_latest_29
theorem dX12_latest_31 : decode cX12_latest 31 = .ok (.iaload, 1) := oc_46 shX12_latest_31
theorem dX12_latest_32 : decode cX12_latest 32 = .ok (.iload_n 2, 1) := oc_28 shX12_latest_32
theorem dX12_latest_33 : decode cX12_latest 33 = .ok (.if_icmp .gt 6, 3) := oc_163 shX12_latest_33 sgw_0_6
theorem dX12_latest_36 : decode cX12_latest 36 = .ok (.iload 4, 2) := oc_21 shX12_latest_36
theorem dX12_latest_38 : decode cX12_latest 38 = .ok (.istore_n 3, 1) := oc_62 shX12_latest_38
theorem dX12_latest_39 : decode cX12_latest 39 = .ok (.iinc 4 1, 3) := oc_132 shX12_latest_39 sgb_1
theorem dX12_latest_42 : decode cX12_latest 42 = .ok (.goto (-37), 3) := oc_167 shX12_latest_42 sgw_255_219
theorem dX12_latest_45 : decode cX12_latest 45 = .ok (.iload_n 3, 1) := oc_29 shX12_latest_45
theorem dX12_latest_46 : decode cX12_latest 46 = .ok (.ireturn, 1) := oc_172 shX12_latest_46
noncomputable def sxX12_moves_115 : List UInt8 := []
noncomputable def sxX12_moves_114 : List UInt8 := 172 :: sxX12_moves_115
noncomputable def sxX12_moves_113 : List UInt8 := 4 :: sxX12_moves_114
noncomputable def sxX12_moves_110 : List UInt8 := 181 :: 1 :: 154 :: sxX12_moves_113
noncomputable def sxX12_moves_109 : List UInt8 := 96 :: sxX12_moves_110
noncomputable def sxX12_moves_108 : List UInt8 := 4 :: sxX12_moves_109
noncomputable def sxX12_moves_105 : List UInt8 := 180 :: 1 :: 154 :: sxX12_moves_108
noncomputable def sxX12_moves_104 : List UInt8 := 42 :: sxX12_moves_105
noncomputable def sxX12_moves_103 : List UInt8 := 42 :: sxX12_moves_104
noncomputable def sxX12_moves_102 : List UInt8 := 79 :: sxX12_moves_103
noncomputable def sxX12_moves_101 : List UInt8 := 29 :: sxX12_moves_102
noncomputable def sxX12_moves_98 : List UInt8 := 180 :: 1 :: 154 :: sxX12_moves_101
noncomputable def sxX12_moves_97 : List UInt8 := 42 :: sxX12_moves_98
noncomputable def sxX12_moves_94 : List UInt8 := 180 :: 0 :: 135 :: sxX12_moves_97
noncomputable def sxX12_moves_93 : List UInt8 := 42 :: sxX12_moves_94
noncomputable def sxX12_moves_92 : List UInt8 := 79 :: sxX12_moves_93
noncomputable def sxX12_moves_91 : List UInt8 := 28 :: sxX12_moves_92
noncomputable def sxX12_moves_88 : List UInt8 := 180 :: 1 :: 154 :: sxX12_moves_91
noncomputable def sxX12_moves_87 : List UInt8 := 42 :: sxX12_moves_88
noncomputable def sxX12_moves_84 : List UInt8 := 180 :: 0 :: 132 :: sxX12_moves_87
noncomputable def sxX12_moves_83 : List UInt8 := 42 :: sxX12_moves_84
noncomputable def sxX12_moves_82 : List UInt8 := 79 :: sxX12_moves_83
noncomputable def sxX12_moves_81 : List UInt8 := 27 :: sxX12_moves_82
noncomputable def sxX12_moves_78 : List UInt8 := 180 :: 1 :: 154 :: sxX12_moves_81
noncomputable def sxX12_moves_77 : List UInt8 := 42 :: sxX12_moves_78
noncomputable def sxX12_moves_74 : List UInt8 := 180 :: 0 :: 129 :: sxX12_moves_77
noncomputable def sxX12_moves_73 : List UInt8 := 42 :: sxX12_moves_74
noncomputable def sxX12_moves_72 : List UInt8 := 172 :: sxX12_moves_73
noncomputable def sxX12_moves_71 : List UInt8 := 3 :: sxX12_moves_72
noncomputable def sxX12_moves_68 : List UInt8 := 164 :: 0 :: 5 :: sxX12_moves_71
noncomputable def sxX12_moves_67 : List UInt8 := 29 :: sxX12_moves_68
noncomputable def sxX12_moves_66 : List UInt8 := 46 :: sxX12_moves_67
noncomputable def sxX12_moves_64 : List UInt8 := 21 :: 4 :: sxX12_moves_66
noncomputable def sxX12_moves_61 : List UInt8 := 180 :: 0 :: 135 :: sxX12_moves_64
noncomputable def sxX12_moves_60 : List UInt8 := 42 :: sxX12_moves_61
noncomputable def sxX12_moves_57 : List UInt8 := 159 :: 0 :: 16 :: sxX12_moves_60
noncomputable def sxX12_moves_56 : List UInt8 := 2 :: sxX12_moves_57
noncomputable def sxX12_moves_54 : List UInt8 := 21 :: 4 :: sxX12_moves_56
noncomputable def sxX12_moves_52 : List UInt8 := 54 :: 4 :: sxX12_moves_54
noncomputable def sxX12_moves_49 : List UInt8 := 182 :: 1 :: 160 :: sxX12_moves_52
noncomputable def sxX12_moves_46 : List UInt8 := 17 :: 1 :: 143 :: sxX12_moves_49
noncomputable def sxX12_moves_45 : List UInt8 := 27 :: sxX12_moves_46
noncomputable def sxX12_moves_44 : List UInt8 := 42 :: sxX12_moves_45
noncomputable def sxX12_moves_43 : List UInt8 := 172 :: sxX12_moves_44
noncomputable def sxX12_moves_42 : List UInt8 := 3 :: sxX12_moves_43
noncomputable def sxX12_moves_39 : List UInt8 := 160 :: 0 :: 5 :: sxX12_moves_42
noncomputable def sxX12_moves_37 : List UInt8 := 16 :: 60 :: sxX12_moves_39
noncomputable def sxX12_moves_34 : List UInt8 := 180 :: 1 :: 154 :: sxX12_moves_37
noncomputable def sxX12_moves_33 : List UInt8 := 42 :: sxX12_moves_34
noncomputable def sxX12_moves_30 : List UInt8 := 153 :: 0 :: 12 :: sxX12_moves_33
noncomputable def sxX12_moves_27 : List UInt8 := 184 :: 0 :: 214 :: sxX12_moves_30
noncomputable def sxX12_moves_24 : List UInt8 := 180 :: 0 :: 211 :: sxX12_moves_27
noncomputable def sxX12_moves_23 : List UInt8 := 42 :: sxX12_moves_24
noncomputable def sxX12_moves_22 : List UInt8 := 3 :: sxX12_moves_23
noncomputable def sxX12_moves_21 : List UInt8 := 29 :: sxX12_moves_22
noncomputable def sxX12_moves_18 : List UInt8 := 153 :: 0 :: 24 :: sxX12_moves_21
noncomputable def sxX12_moves_15 : List UInt8 := 182 :: 0 :: 218 :: sxX12_moves_18
noncomputable def sxX12_moves_14 : List UInt8 := 28 :: sxX12_moves_15
noncomputable def sxX12_moves_13 : List UInt8 := 42 :: sxX12_moves_14
noncomputable def sxX12_moves_10 : List UInt8 := 159 :: 0 :: 11 :: sxX12_moves_13
noncomputable def sxX12_moves_9 : List UInt8 := 2 :: sxX12_moves_10
noncomputable def sxX12_moves_8 : List UInt8 := 28 :: sxX12_moves_9
noncomputable def sxX12_moves_5 : List UInt8 := 153 :: 0 :: 37 :: sxX12_moves_8
noncomputable def sxX12_moves_2 : List UInt8 := 182 :: 1 :: 157 :: sxX12_moves_5
noncomputable def sxX12_moves_1 : List UInt8 := 27 :: sxX12_moves_2
noncomputable def sxX12_moves_0 : List UInt8 := 42 :: sxX12_moves_1
theorem shX12_moves_0 : cX12_moves.data.toList.drop 0 = sxX12_moves_0 := rfl
theorem shX12_moves_1 : cX12_moves.data.toList.drop 1 = sxX12_moves_1 := dSn 1 shX12_moves_0
theorem shX12_moves_2 : cX12_moves.data.toList.drop 2 = sxX12_moves_2 := dSn 1 shX12_moves_1
theorem shX12_moves_5 : cX12_moves.data.toList.drop 5 = sxX12_moves_5 := dSn 3 shX12_moves_2
theorem shX12_moves_8 : cX12_moves.data.toList.drop 8 = sxX12_moves_8 := dSn 3 shX12_moves_5
theorem shX12_moves_9 : cX12_moves.data.toList.drop 9 = sxX12_moves_9 := dSn 1 shX12_moves_8
theorem shX12_moves_10 : cX12_moves.data.toList.drop 10 = sxX12_moves_10 := dSn 1 shX12_moves_9
theorem shX12_moves_13 : cX12_moves.data.toList.drop 13 = sxX12_moves_13 := dSn 3 shX12_moves_10
theorem shX12_moves_14 : cX12_moves.data.toList.drop 14 = sxX12_moves_14 := dSn 1 shX12_moves_13
theorem shX12_moves_15 : cX12_moves.data.toList.drop 15 = sxX12_moves_15 := dSn 1 shX12_moves_14
theorem shX12_moves_18 : cX12_moves.data.toList.drop 18 = sxX12_moves_18 := dSn 3 shX12_moves_15
theorem shX12_moves_21 : cX12_moves.data.toList.drop 21 = sxX12_moves_21 := dSn 3 shX12_moves_18
theorem shX12_moves_22 : cX12_moves.data.toList.drop 22 = sxX12_moves_22 := dSn 1 shX12_moves_21
theorem shX12_moves_23 : cX12_moves.data.toList.drop 23 = sxX12_moves_23 := dSn 1 shX12_moves_22
theorem shX12_moves_24 : cX12_moves.data.toList.drop 24 = sxX12_moves_24 := dSn 1 shX12_moves_23
theorem shX12_moves_27 : cX12_moves.data.toList.drop 27 = sxX12_moves_27 := dSn 3 shX12_moves_24
theorem shX12_moves_30 : cX12_moves.data.toList.drop 30 = sxX12_moves_30 := dSn 3 shX12_moves_27
theorem shX12_moves_33 : cX12_moves.data.toList.drop 33 = sxX12_moves_33 := dSn 3 shX12_moves_30
theorem shX12_moves_34 : cX12_moves.data.toList.drop 34 = sxX12_moves_34 := dSn 1 shX12_moves_33
theorem shX12_moves_37 : cX12_moves.data.toList.drop 37 = sxX12_moves_37 := dSn 3 shX12_moves_34
theorem shX12_moves_39 : cX12_moves.data.toList.drop 39 = sxX12_moves_39 := dSn 2 shX12_moves_37
theorem shX12_moves_42 : cX12_moves.data.toList.drop 42 = sxX12_moves_42 := dSn 3 shX12_moves_39
theorem shX12_moves_43 : cX12_moves.data.toList.drop 43 = sxX12_moves_43 := dSn 1 shX12_moves_42
theorem shX12_moves_44 : cX12_moves.data.toList.drop 44 = sxX12_moves_44 := dSn 1 shX12_moves_43
theorem shX12_moves_45 : cX12_moves.data.toList.drop 45 = sxX12_moves_45 := dSn 1 shX12_moves_44
theorem shX12_moves_46 : cX12_moves.data.toList.drop 46 = sxX12_moves_46 := dSn 1 shX12_moves_45
theorem shX12_moves_49 : cX12_moves.data.toList.drop 49 = sxX12_moves_49 := dSn 3 shX12_moves_46
theorem shX12_moves_52 : cX12_moves.data.toList.drop 52 = sxX12_moves_52 := dSn 3 shX12_moves_49
theorem shX12_moves_54 : cX12_moves.data.toList.drop 54 = sxX12_moves_54 := dSn 2 shX12_moves_52
theorem shX12_moves_56 : cX12_moves.data.toList.drop 56 = sxX12_moves_56 := dSn 2 shX12_moves_54
theorem shX12_moves_57 : cX12_moves.data.toList.drop 57 = sxX12_moves_57 := dSn 1 shX12_moves_56
theorem shX12_moves_60 : cX12_moves.data.toList.drop 60 = sxX12_moves_60 := dSn 3 shX12_moves_57
theorem shX12_moves_61 : cX12_moves.data.toList.drop 61 = sxX12_moves_61 := dSn 1 shX12_moves_60
theorem shX12_moves_64 : cX12_moves.data.toList.drop 64 = sxX12_moves_64 := dSn 3 shX12_moves_61
theorem shX12_moves_66 : cX12_moves.data.toList.drop 66 = sxX12_moves_66 := dSn 2 shX12_moves_64
theorem shX12_moves_67 : cX12_moves.data.toList.drop 67 = sxX12_moves_67 := dSn 1 shX12_moves_66
theorem shX12_moves_68 : cX12_moves.data.toList.drop 68 = sxX12_moves_68 := dSn 1 shX12_moves_67
theorem shX12_moves_71 : cX12_moves.data.toList.drop 71 = sxX12_moves_71 := dSn 3 shX12_moves_68
theorem shX12_moves_72 : cX12_moves.data.toList.drop 72 = sxX12_moves_72 := dSn 1 shX12_moves_71
theorem shX12_moves_73 : cX12_moves.data.toList.drop 73 = sxX12_moves_73 := dSn 1 shX12_moves_72
theorem shX12_moves_74 : cX12_moves.data.toList.drop 74 = sxX12_moves_74 := dSn 1 shX12_moves_73
theorem shX12_moves_77 : cX12_moves.data.toList.drop 77 = sxX12_moves_77 := dSn 3 shX12_moves_74
theorem shX12_moves_78 : cX12_moves.data.toList.drop 78 = sxX12_moves_78 := dSn 1 shX12_moves_77
theorem shX12_moves_81 : cX12_moves.data.toList.drop 81 = sxX12_moves_81 := dSn 3 shX12_moves_78
theorem shX12_moves_82 : cX12_moves.data.toList.drop 82 = sxX12_moves_82 := dSn 1 shX12_moves_81
theorem shX12_moves_83 : cX12_moves.data.toList.drop 83 = sxX12_moves_83 := dSn 1 shX12_moves_82
theorem shX12_moves_84 : cX12_moves.data.toList.drop 84 = sxX12_moves_84 := dSn 1 shX12_moves_83
theorem shX12_moves_87 : cX12_moves.data.toList.drop 87 = sxX12_moves_87 := dSn 3 shX12_moves_84
theorem shX12_moves_88 : cX12_moves.data.toList.drop 88 = sxX12_moves_88 := dSn 1 shX12_moves_87
theorem shX12_moves_91 : cX12_moves.data.toList.drop 91 = sxX12_moves_91 := dSn 3 shX12_moves_88
theorem shX12_moves_92 : cX12_moves.data.toList.drop 92 = sxX12_moves_92 := dSn 1 shX12_moves_91
theorem shX12_moves_93 : cX12_moves.data.toList.drop 93 = sxX12_moves_93 := dSn 1 shX12_moves_92
theorem shX12_moves_94 : cX12_moves.data.toList.drop 94 = sxX12_moves_94 := dSn 1 shX12_moves_93
theorem shX12_moves_97 : cX12_moves.data.toList.drop 97 = sxX12_moves_97 := dSn 3 shX12_moves_94
theorem shX12_moves_98 : cX12_moves.data.toList.drop 98 = sxX12_moves_98 := dSn 1 shX12_moves_97
theorem shX12_moves_101 : cX12_moves.data.toList.drop 101 = sxX12_moves_101 := dSn 3 shX12_moves_98
theorem shX12_moves_102 : cX12_moves.data.toList.drop 102 = sxX12_moves_102 := dSn 1 shX12_moves_101
theorem shX12_moves_103 : cX12_moves.data.toList.drop 103 = sxX12_moves_103 := dSn 1 shX12_moves_102
theorem shX12_moves_104 : cX12_moves.data.toList.drop 104 = sxX12_moves_104 := dSn 1 shX12_moves_103
theorem shX12_moves_105 : cX12_moves.data.toList.drop 105 = sxX12_moves_105 := dSn 1 shX12_moves_104
theorem shX12_moves_108 : cX12_moves.data.toList.drop 108 = sxX12_moves_108 := dSn 3 shX12_moves_105
theorem shX12_moves_109 : cX12_moves.data.toList.drop 109 = sxX12_moves_109 := dSn 1 shX12_moves_108
theorem shX12_moves_110 : cX12_moves.data.toList.drop 110 = sxX12_moves_110 := dSn 1 shX12_moves_109
theorem shX12_moves_113 : cX12_moves.data.toList.drop 113 = sxX12_moves_113 := dSn 3 shX12_moves_110
theorem shX12_moves_114 : cX12_moves.data.toList.drop 114 = sxX12_moves_114 := dSn 1 shX12_moves_113
theorem dX12_moves_0 : decode cX12_moves 0 = .ok (.aload_n 0, 1) := oc_42 shX12_moves_0
theorem dX12_moves_1 : decode cX12_moves 1 = .ok (.iload_n 1, 1) := oc_27 shX12_moves_1
theorem dX12_moves_2 : decode cX12_moves 2 = .ok (.invokevirtual 413, 3) := oc_182 shX12_moves_2
theorem dX12_moves_5 : decode cX12_moves 5 = .ok (.ifCond .eq 37, 3) := oc_153 shX12_moves_5 sgw_0_37
theorem dX12_moves_8 : decode cX12_moves 8 = .ok (.iload_n 2, 1) := oc_28 shX12_moves_8
theorem dX12_moves_9 : decode cX12_moves 9 = .ok (.iconst (-1), 1) := oc_2 shX12_moves_9
theorem dX12_moves_10 : decode cX12_moves 10 = .ok (.if_icmp .eq 11, 3) := oc_159 shX12_moves_10 sgw_0_11
theorem dX12_moves_13 : decode cX12_moves 13 = .ok (.aload_n 0, 1) := oc_42 shX12_moves_13
theorem dX12_moves_14 : decode cX12_moves 14 = .ok (.iload_n 2, 1) := oc_28 shX12_moves_14
theorem dX12_moves_15 : decode cX12_moves 15 = .ok (.invokevirtual 218, 3) := oc_182 shX12_moves_15
theorem dX12_moves_18 : decode cX12_moves 18 = .ok (.ifCond .eq 24, 3) := oc_153 shX12_moves_18 sgw_0_24
theorem dX12_moves_21 : decode cX12_moves 21 = .ok (.iload_n 3, 1) := oc_29 shX12_moves_21
theorem dX12_moves_22 : decode cX12_moves 22 = .ok (.iconst 0, 1) := oc_3 shX12_moves_22
theorem dX12_moves_23 : decode cX12_moves 23 = .ok (.aload_n 0, 1) := oc_42 shX12_moves_23
theorem dX12_moves_24 : decode cX12_moves 24 = .ok (.getfield 211, 3) := oc_180 shX12_moves_24
theorem dX12_moves_27 : decode cX12_moves 27 = .ok (.invokestatic 214, 3) := oc_184 shX12_moves_27
theorem dX12_moves_30 : decode cX12_moves 30 = .ok (.ifCond .eq 12, 3) := oc_153 shX12_moves_30 sgw_0_12
theorem dX12_moves_33 : decode cX12_moves 33 = .ok (.aload_n 0, 1) := oc_42 shX12_moves_33
theorem dX12_moves_34 : decode cX12_moves 34 = .ok (.getfield 410, 3) := oc_180 shX12_moves_34
theorem dX12_moves_37 : decode cX12_moves 37 = .ok (.bipush 60, 2) := oc_16 shX12_moves_37 sgb_60
theorem dX12_moves_39 : decode cX12_moves 39 = .ok (.if_icmp .ne 5, 3) := oc_160 shX12_moves_39 sgw_0_5
theorem dX12_moves_42 : decode cX12_moves 42 = .ok (.iconst 0, 1) := oc_3 shX12_moves_42
theorem dX12_moves_43 : decode cX12_moves 43 = .ok (.ireturn, 1) := oc_172 shX12_moves_43
theorem dX12_moves_44 : decode cX12_moves 44 = .ok (.aload_n 0, 1) := oc_42 shX12_moves_44
theorem dX12_moves_45 : decode cX12_moves 45 = .ok (.iload_n 1, 1) := oc_27 shX12_moves_45
theorem dX12_moves_46 : decode cX12_moves 46 = .ok (.sipush 399, 3) := oc_17 shX12_moves_46 sgw_1_143
theorem dX12_moves_49 : decode cX12_moves 49 = .ok (.invokevirtual 416, 3) := oc_182 shX12_moves_49
theorem dX12_moves_52 : decode cX12_moves 52 = .ok (.istore 4, 2) := oc_54 shX12_moves_52
theorem dX12_moves_54 : decode cX12_moves 54 = .ok (.iload 4, 2) := oc_21 shX12_moves_54
theorem dX12_moves_56 : decode cX12_moves 56 = .ok (.iconst (-1), 1) := oc_2 shX12_moves_56
theorem dX12_moves_57 : decode cX12_moves 57 = .ok (.if_icmp .eq 16, 3) := oc_159 shX12_moves_57 sgw_0_16
theorem dX12_moves_60 : decode cX12_moves 60 = .ok (.aload_n 0, 1) := oc_42 shX12_moves_60
theorem dX12_moves_61 : decode cX12_moves 61 = .ok (.getfield 135, 3) := oc_180 shX12_moves_61
theorem dX12_moves_64 : decode cX12_moves 64 = .ok (.iload 4, 2) := oc_21 shX12_moves_64
theorem dX12_moves_66 : decode cX12_moves 66 = .ok (.iaload, 1) := oc_46 shX12_moves_66
theorem dX12_moves_67 : decode cX12_moves 67 = .ok (.iload_n 3, 1) := oc_29 shX12_moves_67
theorem dX12_moves_68 : decode cX12_moves 68 = .ok (.if_icmp .le 5, 3) := oc_164 shX12_moves_68 sgw_0_5
theorem dX12_moves_71 : decode cX12_moves 71 = .ok (.iconst 0, 1) := oc_3 shX12_moves_71
theorem dX12_moves_72 : decode cX12_moves 72 = .ok (.ireturn, 1) := oc_172 shX12_moves_72
theorem dX12_moves_73 : decode cX12_moves 73 = .ok (.aload_n 0, 1) := oc_42 shX12_moves_73
theorem dX12_moves_74 : decode cX12_moves 74 = .ok (.getfield 129, 3) := oc_180 shX12_moves_74
theorem dX12_moves_77 : decode cX12_moves 77 = .ok (.aload_n 0, 1) := oc_42 shX12_moves_77
theorem dX12_moves_78 : decode cX12_moves 78 = .ok (.getfield 410, 3) := oc_180 shX12_moves_78
theorem dX12_moves_81 : decode cX12_moves 81 = .ok (.iload_n 1, 1) := oc_27 shX12_moves_81
theorem dX12_moves_82 : decode cX12_moves 82 = .ok (.iastore, 1) := oc_79 shX12_moves_82
theorem dX12_moves_83 : decode cX12_moves 83 = .ok (.aload_n 0, 1) := oc_42 shX12_moves_83
theorem dX12_moves_84 : decode cX12_moves 84 = .ok (.getfield 132, 3) := oc_180 shX12_moves_84
theorem dX12_moves_87 : decode cX12_moves 87 = .ok (.aload_n 0, 1) := oc_42 shX12_moves_87
theorem dX12_moves_88 : decode cX12_moves 88 = .ok (.getfield 410, 3) := oc_180 shX12_moves_88
theorem dX12_moves_91 : decode cX12_moves 91 = .ok (.iload_n 2, 1) := oc_28 shX12_moves_91
theorem dX12_moves_92 : decode cX12_moves 92 = .ok (.iastore, 1) := oc_79 shX12_moves_92
theorem dX12_moves_93 : decode cX12_moves 93 = .ok (.aload_n 0, 1) := oc_42 shX12_moves_93
theorem dX12_moves_94 : decode cX12_moves 94 = .ok (.getfield 135, 3) := oc_180 shX12_moves_94
theorem dX12_moves_97 : decode cX12_moves 97 = .ok (.aload_n 0, 1) := oc_42 shX12_moves_97
theorem dX12_moves_98 : decode cX12_moves 98 = .ok (.getfield 410, 3) := oc_180 shX12_moves_98
theorem dX12_moves_101 : decode cX12_moves 101 = .ok (.iload_n 3, 1) := oc_29 shX12_moves_101
theorem dX12_moves_102 : decode cX12_moves 102 = .ok (.iastore, 1) := oc_79 shX12_moves_102
theorem dX12_moves_103 : decode cX12_moves 103 = .ok (.aload_n 0, 1) := oc_42 shX12_moves_103
theorem dX12_moves_104 : decode cX12_moves 104 = .ok (.aload_n 0, 1) := oc_42 shX12_moves_104
theorem dX12_moves_105 : decode cX12_moves 105 = .ok (.getfield 410, 3) := oc_180 shX12_moves_105
theorem dX12_moves_108 : decode cX12_moves 108 = .ok (.iconst 1, 1) := oc_4 shX12_moves_108
theorem dX12_moves_109 : decode cX12_moves 109 = .ok (.iadd, 1) := oc_96 shX12_moves_109
theorem dX12_moves_110 : decode cX12_moves 110 = .ok (.putfield 410, 3) := oc_181 shX12_moves_110
theorem dX12_moves_113 : decode cX12_moves 113 = .ok (.iconst 1, 1) := oc_4 shX12_moves_113
theorem dX12_moves_114 : decode cX12_moves 114 = .ok (.ireturn, 1) := oc_172 shX12_moves_114
noncomputable def sxX12_stood_51 : List UInt8 := []
noncomputable def sxX12_stood_50 : List UInt8 := 172 :: sxX12_stood_51
noncomputable def sxX12_stood_49 : List UInt8 := 46 :: sxX12_stood_50
noncomputable def sxX12_stood_48 : List UInt8 := 29 :: sxX12_stood_49
noncomputable def sxX12_stood_45 : List UInt8 := 180 :: 0 :: 132 :: sxX12_stood_48
noncomputable def sxX12_stood_44 : List UInt8 := 42 :: sxX12_stood_45
noncomputable def sxX12_stood_41 : List UInt8 := 167 :: 0 :: 9 :: sxX12_stood_44
noncomputable def sxX12_stood_39 : List UInt8 := 16 :: 254 :: sxX12_stood_41
noncomputable def sxX12_stood_36 : List UInt8 := 160 :: 0 :: 8 :: sxX12_stood_39
noncomputable def sxX12_stood_35 : List UInt8 := 2 :: sxX12_stood_36
noncomputable def sxX12_stood_34 : List UInt8 := 46 :: sxX12_stood_35
noncomputable def sxX12_stood_33 : List UInt8 := 29 :: sxX12_stood_34
noncomputable def sxX12_stood_30 : List UInt8 := 180 :: 0 :: 132 :: sxX12_stood_33
noncomputable def sxX12_stood_29 : List UInt8 := 42 :: sxX12_stood_30
noncomputable def sxX12_stood_26 : List UInt8 := 159 :: 0 :: 13 :: sxX12_stood_29
noncomputable def sxX12_stood_25 : List UInt8 := 2 :: sxX12_stood_26
noncomputable def sxX12_stood_24 : List UInt8 := 29 :: sxX12_stood_25
noncomputable def sxX12_stood_23 : List UInt8 := 62 :: sxX12_stood_24
noncomputable def sxX12_stood_20 : List UInt8 := 182 :: 1 :: 160 :: sxX12_stood_23
noncomputable def sxX12_stood_19 : List UInt8 := 28 :: sxX12_stood_20
noncomputable def sxX12_stood_18 : List UInt8 := 27 :: sxX12_stood_19
noncomputable def sxX12_stood_17 : List UInt8 := 42 :: sxX12_stood_18
noncomputable def sxX12_stood_16 : List UInt8 := 172 :: sxX12_stood_17
noncomputable def sxX12_stood_15 : List UInt8 := 2 :: sxX12_stood_16
noncomputable def sxX12_stood_12 : List UInt8 := 154 :: 0 :: 5 :: sxX12_stood_15
noncomputable def sxX12_stood_9 : List UInt8 := 184 :: 1 :: 85 :: sxX12_stood_12
noncomputable def sxX12_stood_8 : List UInt8 := 28 :: sxX12_stood_9
noncomputable def sxX12_stood_5 : List UInt8 := 153 :: 0 :: 10 :: sxX12_stood_8
noncomputable def sxX12_stood_2 : List UInt8 := 182 :: 1 :: 157 :: sxX12_stood_5
noncomputable def sxX12_stood_1 : List UInt8 := 27 :: sxX12_stood_2
noncomputable def sxX12_stood_0 : List UInt8 := 42 :: sxX12_stood_1
theorem shX12_stood_0 : cX12_stood.data.toList.drop 0 = sxX12_stood_0 := rfl
theorem shX12_stood_1 : cX12_stood.data.toList.drop 1 = sxX12_stood_1 := dSn 1 shX12_stood_0
theorem shX12_stood_2 : cX12_stood.data.toList.drop 2 = sxX12_stood_2 := dSn 1 shX12_stood_1
theorem shX12_stood_5 : cX12_stood.data.toList.drop 5 = sxX12_stood_5 := dSn 3 shX12_stood_2
theorem shX12_stood_8 : cX12_stood.data.toList.drop 8 = sxX12_stood_8 := dSn 3 shX12_stood_5
theorem shX12_stood_9 : cX12_stood.data.toList.drop 9 = sxX12_stood_9 := dSn 1 shX12_stood_8
theorem shX12_stood_12 : cX12_stood.data.toList.drop 12 = sxX12_stood_12 := dSn 3 shX12_stood_9
theorem shX12_stood_15 : cX12_stood.data.toList.drop 15 = sxX12_stood_15 := dSn 3 shX12_stood_12
theorem shX12_stood_16 : cX12_stood.data.toList.drop 16 = sxX12_stood_16 := dSn 1 shX12_stood_15
theorem shX12_stood_17 : cX12_stood.data.toList.drop 17 = sxX12_stood_17 := dSn 1 shX12_stood_16
theorem shX12_stood_18 : cX12_stood.data.toList.drop 18 = sxX12_stood_18 := dSn 1 shX12_stood_17
theorem shX12_stood_19 : cX12_stood.data.toList.drop 19 = sxX12_stood_19 := dSn 1 shX12_stood_18
theorem shX12_stood_20 : cX12_stood.data.toList.drop 20 = sxX12_stood_20 := dSn 1 shX12_stood_19
theorem shX12_stood_23 : cX12_stood.data.toList.drop 23 = sxX12_stood_23 := dSn 3 shX12_stood_20
theorem shX12_stood_24 : cX12_stood.data.toList.drop 24 = sxX12_stood_24 := dSn 1 shX12_stood_23
theorem shX12_stood_25 : cX12_stood.data.toList.drop 25 = sxX12_stood_25 := dSn 1 shX12_stood_24
theorem shX12_stood_26 : cX12_stood.data.toList.drop 26 = sxX12_stood_26 := dSn 1 shX12_stood_25
theorem shX12_stood_29 : cX12_stood.data.toList.drop 29 = sxX12_stood_29 := dSn 3 shX12_stood_26
theorem shX12_stood_30 : cX12_stood.data.toList.drop 30 = sxX12_stood_30 := dSn 1 shX12_stood_29
theorem shX12_stood_33 : cX12_stood.data.toList.drop 33 = sxX12_stood_33 := dSn 3 shX12_stood_30
theorem shX12_stood_34 : cX12_stood.data.toList.drop 34 = sxX12_stood_34 := dSn 1 shX12_stood_33
theorem shX12_stood_35 : cX12_stood.data.toList.drop 35 = sxX12_stood_35 := dSn 1 shX12_stood_34
theorem shX12_stood_36 : cX12_stood.data.toList.drop 36 = sxX12_stood_36 := dSn 1 shX12_stood_35
theorem shX12_stood_39 : cX12_stood.data.toList.drop 39 = sxX12_stood_39 := dSn 3 shX12_stood_36
theorem shX12_stood_41 : cX12_stood.data.toList.drop 41 = sxX12_stood_41 := dSn 2 shX12_stood_39
theorem shX12_stood_44 : cX12_stood.data.toList.drop 44 = sxX12_stood_44 := dSn 3 shX12_stood_41
theorem shX12_stood_45 : cX12_stood.data.toList.drop 45 = sxX12_stood_45 := dSn 1 shX12_stood_44
theorem shX12_stood_48 : cX12_stood.data.toList.drop 48 = sxX12_stood_48 := dSn 3 shX12_stood_45
theorem shX12_stood_49 : cX12_stood.data.toList.drop 49 = sxX12_stood_49 := dSn 1 shX12_stood_48
theorem shX12_stood_50 : cX12_stood.data.toList.drop 50 = sxX12_stood_50 := dSn 1 shX12_stood_49
theorem dX12_stood_0 : decode cX12_stood 0 = .ok (.aload_n 0, 1) := oc_42 shX12_stood_0
theorem dX12_stood_1 : decode cX12_stood 1 = .ok (.iload_n 1, 1) := oc_27 shX12_stood_1
theorem dX12_stood_2 : decode cX12_stood 2 = .ok (.invokevirtual 413, 3) := oc_182 shX12_stood_2
theorem dX12_stood_5 : decode cX12_stood 5 = .ok (.ifCond .eq 10, 3) := oc_153 shX12_stood_5 sgw_0_10
theorem dX12_stood_8 : decode cX12_stood 8 = .ok (.iload_n 2, 1) := oc_28 shX12_stood_8
theorem dX12_stood_9 : decode cX12_stood 9 = .ok (.invokestatic 341, 3) := oc_184 shX12_stood_9
theorem dX12_stood_12 : decode cX12_stood 12 = .ok (.ifCond .ne 5, 3) := oc_154 shX12_stood_12 sgw_0_5
theorem dX12_stood_15 : decode cX12_stood 15 = .ok (.iconst (-1), 1) := oc_2 shX12_stood_15
theorem dX12_stood_16 : decode cX12_stood 16 = .ok (.ireturn, 1) := oc_172 shX12_stood_16
theorem dX12_stood_17 : decode cX12_stood 17 = .ok (.aload_n 0, 1) := oc_42 shX12_stood_17
theorem dX12_stood_18 : decode cX12_stood 18 = .ok (.iload_n 1, 1) := oc_27 shX12_stood_18
theorem dX12_stood_19 : decode cX12_stood 19 = .ok (.iload_n 2, 1) := oc_28 shX12_stood_19
theorem dX12_stood_20 : decode cX12_stood 20 = .ok (.invokevirtual 416, 3) := oc_182 shX12_stood_20
theorem dX12_stood_23 : decode cX12_stood 23 = .ok (.istore_n 3, 1) := oc_62 shX12_stood_23
theorem dX12_stood_24 : decode cX12_stood 24 = .ok (.iload_n 3, 1) := oc_29 shX12_stood_24
theorem dX12_stood_25 : decode cX12_stood 25 = .ok (.iconst (-1), 1) := oc_2 shX12_stood_25
theorem dX12_stood_26 : decode cX12_stood 26 = .ok (.if_icmp .eq 13, 3) := oc_159 shX12_stood_26 sgw_0_13
theorem dX12_stood_29 : decode cX12_stood 29 = .ok (.aload_n 0, 1) := oc_42 shX12_stood_29
theorem dX12_stood_30 : decode cX12_stood 30 = .ok (.getfield 132, 3) := oc_180 shX12_stood_30
theorem dX12_stood_33 : decode cX12_stood 33 = .ok (.iload_n 3, 1) := oc_29 shX12_stood_33
theorem dX12_stood_34 : decode cX12_stood 34 = .ok (.iaload, 1) := oc_46 shX12_stood_34
theorem dX12_stood_35 : decode cX12_stood 35 = .ok (.iconst (-1), 1) := oc_2 shX12_stood_35
theorem dX12_stood_36 : decode cX12_stood 36 = .ok (.if_icmp .ne 8, 3) := oc_160 shX12_stood_36 sgw_0_8
theorem dX12_stood_39 : decode cX12_stood 39 = .ok (.bipush (-2), 2) := oc_16 shX12_stood_39 sgb_254
theorem dX12_stood_41 : decode cX12_stood 41 = .ok (.goto 9, 3) := oc_167 shX12_stood_41 sgw_0_9
theorem dX12_stood_44 : decode cX12_stood 44 = .ok (.aload_n 0, 1) := oc_42 shX12_stood_44
theorem dX12_stood_45 : decode cX12_stood 45 = .ok (.getfield 132, 3) := oc_180 shX12_stood_45
theorem dX12_stood_48 : decode cX12_stood 48 = .ok (.iload_n 3, 1) := oc_29 shX12_stood_48
theorem dX12_stood_49 : decode cX12_stood 49 = .ok (.iaload, 1) := oc_46 shX12_stood_49
theorem dX12_stood_50 : decode cX12_stood 50 = .ok (.ireturn, 1) := oc_172 shX12_stood_50
noncomputable def sxX12_stale_79 : List UInt8 := []
noncomputable def sxX12_stale_78 : List UInt8 := 172 :: sxX12_stale_79
noncomputable def sxX12_stale_77 : List UInt8 := 28 :: sxX12_stale_78
noncomputable def sxX12_stale_74 : List UInt8 := 167 :: 255 :: 195 :: sxX12_stale_77
noncomputable def sxX12_stale_71 : List UInt8 := 132 :: 3 :: 1 :: sxX12_stale_74
noncomputable def sxX12_stale_70 : List UInt8 := 61 :: sxX12_stale_71
noncomputable def sxX12_stale_69 : List UInt8 := 128 :: sxX12_stale_70
noncomputable def sxX12_stale_68 : List UInt8 := 120 :: sxX12_stale_69
noncomputable def sxX12_stale_67 : List UInt8 := 29 :: sxX12_stale_68
noncomputable def sxX12_stale_66 : List UInt8 := 4 :: sxX12_stale_67
noncomputable def sxX12_stale_65 : List UInt8 := 28 :: sxX12_stale_66
noncomputable def sxX12_stale_62 : List UInt8 := 161 :: 0 :: 9 :: sxX12_stale_65
noncomputable def sxX12_stale_61 : List UInt8 := 27 :: sxX12_stale_62
noncomputable def sxX12_stale_60 : List UInt8 := 100 :: sxX12_stale_61
noncomputable def sxX12_stale_59 : List UInt8 := 46 :: sxX12_stale_60
noncomputable def sxX12_stale_57 : List UInt8 := 21 :: 4 :: sxX12_stale_59
noncomputable def sxX12_stale_54 : List UInt8 := 180 :: 0 :: 135 :: sxX12_stale_57
noncomputable def sxX12_stale_53 : List UInt8 := 42 :: sxX12_stale_54
noncomputable def sxX12_stale_50 : List UInt8 := 180 :: 0 :: 211 :: sxX12_stale_53
noncomputable def sxX12_stale_49 : List UInt8 := 42 :: sxX12_stale_50
noncomputable def sxX12_stale_46 : List UInt8 := 159 :: 0 :: 25 :: sxX12_stale_49
noncomputable def sxX12_stale_45 : List UInt8 := 2 :: sxX12_stale_46
noncomputable def sxX12_stale_44 : List UInt8 := 46 :: sxX12_stale_45
noncomputable def sxX12_stale_42 : List UInt8 := 21 :: 4 :: sxX12_stale_44
noncomputable def sxX12_stale_39 : List UInt8 := 180 :: 0 :: 132 :: sxX12_stale_42
noncomputable def sxX12_stale_38 : List UInt8 := 42 :: sxX12_stale_39
noncomputable def sxX12_stale_35 : List UInt8 := 159 :: 0 :: 36 :: sxX12_stale_38
noncomputable def sxX12_stale_34 : List UInt8 := 2 :: sxX12_stale_35
noncomputable def sxX12_stale_32 : List UInt8 := 21 :: 4 :: sxX12_stale_34
noncomputable def sxX12_stale_30 : List UInt8 := 54 :: 4 :: sxX12_stale_32
noncomputable def sxX12_stale_27 : List UInt8 := 182 :: 1 :: 160 :: sxX12_stale_30
noncomputable def sxX12_stale_24 : List UInt8 := 180 :: 0 :: 211 :: sxX12_stale_27
noncomputable def sxX12_stale_23 : List UInt8 := 42 :: sxX12_stale_24
noncomputable def sxX12_stale_22 : List UInt8 := 29 :: sxX12_stale_23
noncomputable def sxX12_stale_21 : List UInt8 := 42 :: sxX12_stale_22
noncomputable def sxX12_stale_18 : List UInt8 := 162 :: 0 :: 59 :: sxX12_stale_21
noncomputable def sxX12_stale_15 : List UInt8 := 180 :: 1 :: 151 :: sxX12_stale_18
noncomputable def sxX12_stale_14 : List UInt8 := 42 :: sxX12_stale_15
noncomputable def sxX12_stale_13 : List UInt8 := 29 :: sxX12_stale_14
noncomputable def sxX12_stale_12 : List UInt8 := 62 :: sxX12_stale_13
noncomputable def sxX12_stale_11 : List UInt8 := 3 :: sxX12_stale_12
noncomputable def sxX12_stale_10 : List UInt8 := 61 :: sxX12_stale_11
noncomputable def sxX12_stale_9 : List UInt8 := 3 :: sxX12_stale_10
noncomputable def sxX12_stale_8 : List UInt8 := 172 :: sxX12_stale_9
noncomputable def sxX12_stale_7 : List UInt8 := 2 :: sxX12_stale_8
noncomputable def sxX12_stale_4 : List UInt8 := 154 :: 0 :: 5 :: sxX12_stale_7
noncomputable def sxX12_stale_1 : List UInt8 := 184 :: 1 :: 85 :: sxX12_stale_4
noncomputable def sxX12_stale_0 : List UInt8 := 27 :: sxX12_stale_1
theorem shX12_stale_0 : cX12_stale.data.toList.drop 0 = sxX12_stale_0 := rfl
theorem shX12_stale_1 : cX12_stale.data.toList.drop 1 = sxX12_stale_1 := dSn 1 shX12_stale_0
theorem shX12_stale_4 : cX12_stale.data.toList.drop 4 = sxX12_stale_4 := dSn 3 shX12_stale_1
theorem shX12_stale_7 : cX12_stale.data.toList.drop 7 = sxX12_stale_7 := dSn 3 shX12_stale_4
theorem shX12_stale_8 : cX12_stale.data.toList.drop 8 = sxX12_stale_8 := dSn 1 shX12_stale_7
theorem shX12_stale_9 : cX12_stale.data.toList.drop 9 = sxX12_stale_9 := dSn 1 shX12_stale_8
theorem shX12_stale_10 : cX12_stale.data.toList.drop 10 = sxX12_stale_10 := dSn 1 shX12_stale_9
theorem shX12_stale_11 : cX12_stale.data.toList.drop 11 = sxX12_stale_11 := dSn 1 shX12_stale_10
theorem shX12_stale_12 : cX12_stale.data.toList.drop 12 = sxX12_stale_12 := dSn 1 shX12_stale_11
theorem shX12_stale_13 : cX12_stale.data.toList.drop 13 = sxX12_stale_13 := dSn 1 shX12_stale_12
theorem shX12_stale_14 : cX12_stale.data.toList.drop 14 = sxX12_stale_14 := dSn 1 shX12_stale_13
theorem shX12_stale_15 : cX12_stale.data.toList.drop 15 = sxX12_stale_15 := dSn 1 shX12_stale_14
theorem shX12_stale_18 : cX12_stale.data.toList.drop 18 = sxX12_stale_18 := dSn 3 shX12_stale_15
theorem shX12_stale_21 : cX12_stale.data.toList.drop 21 = sxX12_stale_21 := dSn 3 shX12_stale_18
theorem shX12_stale_22 : cX12_stale.data.toList.drop 22 = sxX12_stale_22 := dSn 1 shX12_stale_21
theorem shX12_stale_23 : cX12_stale.data.toList.drop 23 = sxX12_stale_23 := dSn 1 shX12_stale_22
theorem shX12_stale_24 : cX12_stale.data.toList.drop 24 = sxX12_stale_24 := dSn 1 shX12_stale_23
theorem shX12_stale_27 : cX12_stale.data.toList.drop 27 = sxX12_stale_27 := dSn 3 shX12_stale_24
theorem shX12_stale_30 : cX12_stale.data.toList.drop 30 = sxX12_stale_30 := dSn 3 shX12_stale_27
theorem shX12_stale_32 : cX12_stale.data.toList.drop 32 = sxX12_stale_32 := dSn 2 shX12_stale_30
theorem shX12_stale_34 : cX12_stale.data.toList.drop 34 = sxX12_stale_34 := dSn 2 shX12_stale_32
theorem shX12_stale_35 : cX12_stale.data.toList.drop 35 = sxX12_stale_35 := dSn 1 shX12_stale_34
theorem shX12_stale_38 : cX12_stale.data.toList.drop 38 = sxX12_stale_38 := dSn 3 shX12_stale_35
theorem shX12_stale_39 : cX12_stale.data.toList.drop 39 = sxX12_stale_39 := dSn 1 shX12_stale_38
theorem shX12_stale_42 : cX12_stale.data.toList.drop 42 = sxX12_stale_42 := dSn 3 shX12_stale_39
theorem shX12_stale_44 : cX12_stale.data.toList.drop 44 = sxX12_stale_44 := dSn 2 shX12_stale_42
theorem shX12_stale_45 : cX12_stale.data.toList.drop 45 = sxX12_stale_45 := dSn 1 shX12_stale_44
theorem shX12_stale_46 : cX12_stale.data.toList.drop 46 = sxX12_stale_46 := dSn 1 shX12_stale_45
theorem shX12_stale_49 : cX12_stale.data.toList.drop 49 = sxX12_stale_49 := dSn 3 shX12_stale_46
theorem shX12_stale_50 : cX12_stale.data.toList.drop 50 = sxX12_stale_50 := dSn 1 shX12_stale_49
theorem shX12_stale_53 : cX12_stale.data.toList.drop 53 = sxX12_stale_53 := dSn 3 shX12_stale_50
theorem shX12_stale_54 : cX12_stale.data.toList.drop 54 = sxX12_stale_54 := dSn 1 shX12_stale_53
theorem shX12_stale_57 : cX12_stale.data.toList.drop 57 = sxX12_stale_57 := dSn 3 shX12_stale_54
theorem shX12_stale_59 : cX12_stale.data.toList.drop 59 = sxX12_stale_59 := dSn 2 shX12_stale_57
theorem shX12_stale_60 : cX12_stale.data.toList.drop 60 = sxX12_stale_60 := dSn 1 shX12_stale_59
theorem shX12_stale_61 : cX12_stale.data.toList.drop 61 = sxX12_stale_61 := dSn 1 shX12_stale_60
theorem shX12_stale_62 : cX12_stale.data.toList.drop 62 = sxX12_stale_62 := dSn 1 shX12_stale_61
theorem shX12_stale_65 : cX12_stale.data.toList.drop 65 = sxX12_stale_65 := dSn 3 shX12_stale_62
theorem shX12_stale_66 : cX12_stale.data.toList.drop 66 = sxX12_stale_66 := dSn 1 shX12_stale_65
theorem shX12_stale_67 : cX12_stale.data.toList.drop 67 = sxX12_stale_67 := dSn 1 shX12_stale_66
theorem shX12_stale_68 : cX12_stale.data.toList.drop 68 = sxX12_stale_68 := dSn 1 shX12_stale_67
theorem shX12_stale_69 : cX12_stale.data.toList.drop 69 = sxX12_stale_69 := dSn 1 shX12_stale_68
theorem shX12_stale_70 : cX12_stale.data.toList.drop 70 = sxX12_stale_70 := dSn 1 shX12_stale_69
theorem shX12_stale_71 : cX12_stale.data.toList.drop 71 = sxX12_stale_71 := dSn 1 shX12_stale_70
theorem shX12_stale_74 : cX12_stale.data.toList.drop 74 = sxX12_stale_74 := dSn 3 shX12_stale_71
theorem shX12_stale_77 : cX12_stale.data.toList.drop 77 = sxX12_stale_77 := dSn 3 shX12_stale_74
theorem shX12_stale_78 : cX12_stale.data.toList.drop 78 = sxX12_stale_78 := dSn 1 shX12_stale_77
theorem dX12_stale_0 : decode cX12_stale 0 = .ok (.iload_n 1, 1) := oc_27 shX12_stale_0
theorem dX12_stale_1 : decode cX12_stale 1 = .ok (.invokestatic 341, 3) := oc_184 shX12_stale_1
theorem dX12_stale_4 : decode cX12_stale 4 = .ok (.ifCond .ne 5, 3) := oc_154 shX12_stale_4 sgw_0_5
theorem dX12_stale_7 : decode cX12_stale 7 = .ok (.iconst (-1), 1) := oc_2 shX12_stale_7
theorem dX12_stale_8 : decode cX12_stale 8 = .ok (.ireturn, 1) := oc_172 shX12_stale_8
theorem dX12_stale_9 : decode cX12_stale 9 = .ok (.iconst 0, 1) := oc_3 shX12_stale_9
theorem dX12_stale_10 : decode cX12_stale 10 = .ok (.istore_n 2, 1) := oc_61 shX12_stale_10
theorem dX12_stale_11 : decode cX12_stale 11 = .ok (.iconst 0, 1) := oc_3 shX12_stale_11
theorem dX12_stale_12 : decode cX12_stale 12 = .ok (.istore_n 3, 1) := oc_62 shX12_stale_12
theorem dX12_stale_13 : decode cX12_stale 13 = .ok (.iload_n 3, 1) := oc_29 shX12_stale_13
theorem dX12_stale_14 : decode cX12_stale 14 = .ok (.aload_n 0, 1) := oc_42 shX12_stale_14
theorem dX12_stale_15 : decode cX12_stale 15 = .ok (.getfield 407, 3) := oc_180 shX12_stale_15
theorem dX12_stale_18 : decode cX12_stale 18 = .ok (.if_icmp .ge 59, 3) := oc_162 shX12_stale_18 sgw_0_59
theorem dX12_stale_21 : decode cX12_stale 21 = .ok (.aload_n 0, 1) := oc_42 shX12_stale_21
theorem dX12_stale_22 : decode cX12_stale 22 = .ok (.iload_n 3, 1) := oc_29 shX12_stale_22
theorem dX12_stale_23 : decode cX12_stale 23 = .ok (.aload_n 0, 1) := oc_42 shX12_stale_23
theorem dX12_stale_24 : decode cX12_stale 24 = .ok (.getfield 211, 3) := oc_180 shX12_stale_24
theorem dX12_stale_27 : decode cX12_stale 27 = .ok (.invokevirtual 416, 3) := oc_182 shX12_stale_27
theorem dX12_stale_30 : decode cX12_stale 30 = .ok (.istore 4, 2) := oc_54 shX12_stale_30
theorem dX12_stale_32 : decode cX12_stale 32 = .ok (.iload 4, 2) := oc_21 shX12_stale_32
theorem dX12_stale_34 : decode cX12_stale 34 = .ok (.iconst (-1), 1) := oc_2 shX12_stale_34
theorem dX12_stale_35 : decode cX12_stale 35 = .ok (.if_icmp .eq 36, 3) := oc_159 shX12_stale_35 sgw_0_36
theorem dX12_stale_38 : decode cX12_stale 38 = .ok (.aload_n 0, 1) := oc_42 shX12_stale_38
theorem dX12_stale_39 : decode cX12_stale 39 = .ok (.getfield 132, 3) := oc_180 shX12_stale_39
theorem dX12_stale_42 : decode cX12_stale 42 = .ok (.iload 4, 2) := oc_21 shX12_stale_42
theorem dX12_stale_44 : decode cX12_stale 44 = .ok (.iaload, 1) := oc_46 shX12_stale_44
theorem dX12_stale_45 : decode cX12_stale 45 = .ok (.iconst (-1), 1) := oc_2 shX12_stale_45
theorem dX12_stale_46 : decode cX12_stale 46 = .ok (.if_icmp .eq 25, 3) := oc_159 shX12_stale_46 sgw_0_25
theorem dX12_stale_49 : decode cX12_stale 49 = .ok (.aload_n 0, 1) := oc_42 shX12_stale_49
theorem dX12_stale_50 : decode cX12_stale 50 = .ok (.getfield 211, 3) := oc_180 shX12_stale_50
theorem dX12_stale_53 : decode cX12_stale 53 = .ok (.aload_n 0, 1) := oc_42 shX12_stale_53
theorem dX12_stale_54 : decode cX12_stale 54 = .ok (.getfield 135, 3) := oc_180 shX12_stale_54
theorem dX12_stale_57 : decode cX12_stale 57 = .ok (.iload 4, 2) := oc_21 shX12_stale_57
theorem dX12_stale_59 : decode cX12_stale 59 = .ok (.iaload, 1) := oc_46 shX12_stale_59
theorem dX12_stale_60 : decode cX12_stale 60 = .ok (.isub, 1) := oc_100 shX12_stale_60
theorem dX12_stale_61 : decode cX12_stale 61 = .ok (.iload_n 1, 1) := oc_27 shX12_stale_61
theorem dX12_stale_62 : decode cX12_stale 62 = .ok (.if_icmp .lt 9, 3) := oc_161 shX12_stale_62 sgw_0_9
theorem dX12_stale_65 : decode cX12_stale 65 = .ok (.iload_n 2, 1) := oc_28 shX12_stale_65
theorem dX12_stale_66 : decode cX12_stale 66 = .ok (.iconst 1, 1) := oc_4 shX12_stale_66
theorem dX12_stale_67 : decode cX12_stale 67 = .ok (.iload_n 3, 1) := oc_29 shX12_stale_67
theorem dX12_stale_68 : decode cX12_stale 68 = .ok (.ishl, 1) := oc_120 shX12_stale_68
theorem dX12_stale_69 : decode cX12_stale 69 = .ok (.ior, 1) := oc_128 shX12_stale_69
theorem dX12_stale_70 : decode cX12_stale 70 = .ok (.istore_n 2, 1) := oc_61 shX12_stale_70
theorem dX12_stale_71 : decode cX12_stale 71 = .ok (.iinc 3 1, 3) := oc_132 shX12_stale_71 sgb_1
theorem dX12_stale_74 : decode cX12_stale 74 = .ok (.goto (-61), 3) := oc_167 shX12_stale_74 sgw_255_195
theorem dX12_stale_77 : decode cX12_stale 77 = .ok (.iload_n 2, 1) := oc_28 shX12_stale_77
theorem dX12_stale_78 : decode cX12_stale 78 = .ok (.ireturn, 1) := oc_172 shX12_stale_78
noncomputable def sxX12_driven_118 : List UInt8 := []
noncomputable def sxX12_driven_117 : List UInt8 := 172 :: sxX12_driven_118
noncomputable def sxX12_driven_116 : List UInt8 := 96 :: sxX12_driven_117
noncomputable def sxX12_driven_114 : List UInt8 := 21 :: 4 :: sxX12_driven_116
noncomputable def sxX12_driven_113 : List UInt8 := 96 :: sxX12_driven_114
noncomputable def sxX12_driven_112 : List UInt8 := 29 :: sxX12_driven_113
noncomputable def sxX12_driven_111 : List UInt8 := 28 :: sxX12_driven_112
noncomputable def sxX12_driven_108 : List UInt8 := 167 :: 255 :: 183 :: sxX12_driven_111
noncomputable def sxX12_driven_105 : List UInt8 := 132 :: 5 :: 1 :: sxX12_driven_108
noncomputable def sxX12_driven_103 : List UInt8 := 54 :: 4 :: sxX12_driven_105
noncomputable def sxX12_driven_102 : List UInt8 := 46 :: sxX12_driven_103
noncomputable def sxX12_driven_100 : List UInt8 := 21 :: 6 :: sxX12_driven_102
noncomputable def sxX12_driven_97 : List UInt8 := 180 :: 0 :: 13 :: sxX12_driven_100
noncomputable def sxX12_driven_96 : List UInt8 := 42 :: sxX12_driven_97
noncomputable def sxX12_driven_95 : List UInt8 := 62 :: sxX12_driven_96
noncomputable def sxX12_driven_94 : List UInt8 := 46 :: sxX12_driven_95
noncomputable def sxX12_driven_92 : List UInt8 := 21 :: 6 :: sxX12_driven_94
noncomputable def sxX12_driven_89 : List UInt8 := 180 :: 0 :: 7 :: sxX12_driven_92
noncomputable def sxX12_driven_88 : List UInt8 := 42 :: sxX12_driven_89
noncomputable def sxX12_driven_87 : List UInt8 := 61 :: sxX12_driven_88
noncomputable def sxX12_driven_86 : List UInt8 := 96 :: sxX12_driven_87
noncomputable def sxX12_driven_83 : List UInt8 := 184 :: 1 :: 104 :: sxX12_driven_86
noncomputable def sxX12_driven_82 : List UInt8 := 46 :: sxX12_driven_83
noncomputable def sxX12_driven_80 : List UInt8 := 21 :: 6 :: sxX12_driven_82
noncomputable def sxX12_driven_77 : List UInt8 := 180 :: 0 :: 13 :: sxX12_driven_80
noncomputable def sxX12_driven_76 : List UInt8 := 42 :: sxX12_driven_77
noncomputable def sxX12_driven_75 : List UInt8 := 46 :: sxX12_driven_76
noncomputable def sxX12_driven_73 : List UInt8 := 21 :: 6 :: sxX12_driven_75
noncomputable def sxX12_driven_70 : List UInt8 := 180 :: 0 :: 7 :: sxX12_driven_73
noncomputable def sxX12_driven_69 : List UInt8 := 42 :: sxX12_driven_70
noncomputable def sxX12_driven_67 : List UInt8 := 21 :: 4 :: sxX12_driven_69
noncomputable def sxX12_driven_66 : List UInt8 := 29 :: sxX12_driven_67
noncomputable def sxX12_driven_65 : List UInt8 := 28 :: sxX12_driven_66
noncomputable def sxX12_driven_64 : List UInt8 := 172 :: sxX12_driven_65
noncomputable def sxX12_driven_63 : List UInt8 := 2 :: sxX12_driven_64
noncomputable def sxX12_driven_60 : List UInt8 := 154 :: 0 :: 5 :: sxX12_driven_63
noncomputable def sxX12_driven_57 : List UInt8 := 182 :: 0 :: 218 :: sxX12_driven_60
noncomputable def sxX12_driven_55 : List UInt8 := 21 :: 6 :: sxX12_driven_57
noncomputable def sxX12_driven_54 : List UInt8 := 42 :: sxX12_driven_55
noncomputable def sxX12_driven_52 : List UInt8 := 54 :: 6 :: sxX12_driven_54
noncomputable def sxX12_driven_51 : List UInt8 := 126 :: sxX12_driven_52
noncomputable def sxX12_driven_48 : List UInt8 := 17 :: 0 :: 255 :: sxX12_driven_51
noncomputable def sxX12_driven_47 : List UInt8 := 51 :: sxX12_driven_48
noncomputable def sxX12_driven_45 : List UInt8 := 21 :: 5 :: sxX12_driven_47
noncomputable def sxX12_driven_42 : List UInt8 := 180 :: 0 :: 52 :: sxX12_driven_45
noncomputable def sxX12_driven_41 : List UInt8 := 42 :: sxX12_driven_42
noncomputable def sxX12_driven_38 : List UInt8 := 162 :: 0 :: 73 :: sxX12_driven_41
noncomputable def sxX12_driven_37 : List UInt8 := 27 :: sxX12_driven_38
noncomputable def sxX12_driven_35 : List UInt8 := 21 :: 5 :: sxX12_driven_37
noncomputable def sxX12_driven_33 : List UInt8 := 54 :: 5 :: sxX12_driven_35
noncomputable def sxX12_driven_32 : List UInt8 := 3 :: sxX12_driven_33
noncomputable def sxX12_driven_30 : List UInt8 := 54 :: 4 :: sxX12_driven_32
noncomputable def sxX12_driven_29 : List UInt8 := 3 :: sxX12_driven_30
noncomputable def sxX12_driven_28 : List UInt8 := 62 :: sxX12_driven_29
noncomputable def sxX12_driven_27 : List UInt8 := 3 :: sxX12_driven_28
noncomputable def sxX12_driven_26 : List UInt8 := 61 :: sxX12_driven_27
noncomputable def sxX12_driven_25 : List UInt8 := 3 :: sxX12_driven_26
noncomputable def sxX12_driven_22 : List UInt8 := 181 :: 0 :: 226 :: sxX12_driven_25
noncomputable def sxX12_driven_21 : List UInt8 := 3 :: sxX12_driven_22
noncomputable def sxX12_driven_20 : List UInt8 := 42 :: sxX12_driven_21
noncomputable def sxX12_driven_19 : List UInt8 := 172 :: sxX12_driven_20
noncomputable def sxX12_driven_18 : List UInt8 := 2 :: sxX12_driven_19
noncomputable def sxX12_driven_15 : List UInt8 := 164 :: 0 :: 5 :: sxX12_driven_18
noncomputable def sxX12_driven_12 : List UInt8 := 180 :: 0 :: 226 :: sxX12_driven_15
noncomputable def sxX12_driven_11 : List UInt8 := 42 :: sxX12_driven_12
noncomputable def sxX12_driven_10 : List UInt8 := 27 :: sxX12_driven_11
noncomputable def sxX12_driven_7 : List UInt8 := 153 :: 0 :: 11 :: sxX12_driven_10
noncomputable def sxX12_driven_4 : List UInt8 := 184 :: 0 :: 214 :: sxX12_driven_7
noncomputable def sxX12_driven_2 : List UInt8 := 16 :: 20 :: sxX12_driven_4
noncomputable def sxX12_driven_1 : List UInt8 := 3 :: sxX12_driven_2
noncomputable def sxX12_driven_0 : List UInt8 := 27 :: sxX12_driven_1
theorem shX12_driven_0 : cX12_driven.data.toList.drop 0 = sxX12_driven_0 := rfl
theorem shX12_driven_1 : cX12_driven.data.toList.drop 1 = sxX12_driven_1 := dSn 1 shX12_driven_0
theorem shX12_driven_2 : cX12_driven.data.toList.drop 2 = sxX12_driven_2 := dSn 1 shX12_driven_1
theorem shX12_driven_4 : cX12_driven.data.toList.drop 4 = sxX12_driven_4 := dSn 2 shX12_driven_2
theorem shX12_driven_7 : cX12_driven.data.toList.drop 7 = sxX12_driven_7 := dSn 3 shX12_driven_4
theorem shX12_driven_10 : cX12_driven.data.toList.drop 10 = sxX12_driven_10 := dSn 3 shX12_driven_7
theorem shX12_driven_11 : cX12_driven.data.toList.drop 11 = sxX12_driven_11 := dSn 1 shX12_driven_10
theorem shX12_driven_12 : cX12_driven.data.toList.drop 12 = sxX12_driven_12 := dSn 1 shX12_driven_11
theorem shX12_driven_15 : cX12_driven.data.toList.drop 15 = sxX12_driven_15 := dSn 3 shX12_driven_12
theorem shX12_driven_18 : cX12_driven.data.toList.drop 18 = sxX12_driven_18 := dSn 3 shX12_driven_15
theorem shX12_driven_19 : cX12_driven.data.toList.drop 19 = sxX12_driven_19 := dSn 1 shX12_driven_18
theorem shX12_driven_20 : cX12_driven.data.toList.drop 20 = sxX12_driven_20 := dSn 1 shX12_driven_19
theorem shX12_driven_21 : cX12_driven.data.toList.drop 21 = sxX12_driven_21 := dSn 1 shX12_driven_20
theorem shX12_driven_22 : cX12_driven.data.toList.drop 22 = sxX12_driven_22 := dSn 1 shX12_driven_21
theorem shX12_driven_25 : cX12_driven.data.toList.drop 25 = sxX12_driven_25 := dSn 3 shX12_driven_22
theorem shX12_driven_26 : cX12_driven.data.toList.drop 26 = sxX12_driven_26 := dSn 1 shX12_driven_25
theorem shX12_driven_27 : cX12_driven.data.toList.drop 27 = sxX12_driven_27 := dSn 1 shX12_driven_26
theorem shX12_driven_28 : cX12_driven.data.toList.drop 28 = sxX12_driven_28 := dSn 1 shX12_driven_27
theorem shX12_driven_29 : cX12_driven.data.toList.drop 29 = sxX12_driven_29 := dSn 1 shX12_driven_28
theorem shX12_driven_30 : cX12_driven.data.toList.drop 30 = sxX12_driven_30 := dSn 1 shX12_driven_29
theorem shX12_driven_32 : cX12_driven.data.toList.drop 32 = sxX12_driven_32 := dSn 2 shX12_driven_30
theorem shX12_driven_33 : cX12_driven.data.toList.drop 33 = sxX12_driven_33 := dSn 1 shX12_driven_32
theorem shX12_driven_35 : cX12_driven.data.toList.drop 35 = sxX12_driven_35 := dSn 2 shX12_driven_33
theorem shX12_driven_37 : cX12_driven.data.toList.drop 37 = sxX12_driven_37 := dSn 2 shX12_driven_35
theorem shX12_driven_38 : cX12_driven.data.toList.drop 38 = sxX12_driven_38 := dSn 1 shX12_driven_37
theorem shX12_driven_41 : cX12_driven.data.toList.drop 41 = sxX12_driven_41 := dSn 3 shX12_driven_38
theorem shX12_driven_42 : cX12_driven.data.toList.drop 42 = sxX12_driven_42 := dSn 1 shX12_driven_41
theorem shX12_driven_45 : cX12_driven.data.toList.drop 45 = sxX12_driven_45 := dSn 3 shX12_driven_42
theorem shX12_driven_47 : cX12_driven.data.toList.drop 47 = sxX12_driven_47 := dSn 2 shX12_driven_45
theorem shX12_driven_48 : cX12_driven.data.toList.drop 48 = sxX12_driven_48 := dSn 1 shX12_driven_47
theorem shX12_driven_51 : cX12_driven.data.toList.drop 51 = sxX12_driven_51 := dSn 3 shX12_driven_48
theorem shX12_driven_52 : cX12_driven.data.toList.drop 52 = sxX12_driven_52 := dSn 1 shX12_driven_51
theorem shX12_driven_54 : cX12_driven.data.toList.drop 54 = sxX12_driven_54 := dSn 2 shX12_driven_52
theorem shX12_driven_55 : cX12_driven.data.toList.drop 55 = sxX12_driven_55 := dSn 1 shX12_driven_54
theorem shX12_driven_57 : cX12_driven.data.toList.drop 57 = sxX12_driven_57 := dSn 2 shX12_driven_55
theorem shX12_driven_60 : cX12_driven.data.toList.drop 60 = sxX12_driven_60 := dSn 3 shX12_driven_57
theorem shX12_driven_63 : cX12_driven.data.toList.drop 63 = sxX12_driven_63 := dSn 3 shX12_driven_60
theorem shX12_driven_64 : cX12_driven.data.toList.drop 64 = sxX12_driven_64 := dSn 1 shX12_driven_63
theorem shX12_driven_65 : cX12_driven.data.toList.drop 65 = sxX12_driven_65 := dSn 1 shX12_driven_64
theorem shX12_driven_66 : cX12_driven.data.toList.drop 66 = sxX12_driven_66 := dSn 1 shX12_driven_65
theorem shX12_driven_67 : cX12_driven.data.toList.drop 67 = sxX12_driven_67 := dSn 1 shX12_driven_66
theorem shX12_driven_69 : cX12_driven.data.toList.drop 69 = sxX12_driven_69 := dSn 2 shX12_driven_67
theorem shX12_driven_70 : cX12_driven.data.toList.drop 70 = sxX12_driven_70 := dSn 1 shX12_driven_69
theorem shX12_driven_73 : cX12_driven.data.toList.drop 73 = sxX12_driven_73 := dSn 3 shX12_driven_70
theorem shX12_driven_75 : cX12_driven.data.toList.drop 75 = sxX12_driven_75 := dSn 2 shX12_driven_73
theorem shX12_driven_76 : cX12_driven.data.toList.drop 76 = sxX12_driven_76 := dSn 1 shX12_driven_75
theorem shX12_driven_77 : cX12_driven.data.toList.drop 77 = sxX12_driven_77 := dSn 1 shX12_driven_76
theorem shX12_driven_80 : cX12_driven.data.toList.drop 80 = sxX12_driven_80 := dSn 3 shX12_driven_77
theorem shX12_driven_82 : cX12_driven.data.toList.drop 82 = sxX12_driven_82 := dSn 2 shX12_driven_80
theorem shX12_driven_83 : cX12_driven.data.toList.drop 83 = sxX12_driven_83 := dSn 1 shX12_driven_82
theorem shX12_driven_86 : cX12_driven.data.toList.drop 86 = sxX12_driven_86 := dSn 3 shX12_driven_83
theorem shX12_driven_87 : cX12_driven.data.toList.drop 87 = sxX12_driven_87 := dSn 1 shX12_driven_86
theorem shX12_driven_88 : cX12_driven.data.toList.drop 88 = sxX12_driven_88 := dSn 1 shX12_driven_87
theorem shX12_driven_89 : cX12_driven.data.toList.drop 89 = sxX12_driven_89 := dSn 1 shX12_driven_88
theorem shX12_driven_92 : cX12_driven.data.toList.drop 92 = sxX12_driven_92 := dSn 3 shX12_driven_89
theorem shX12_driven_94 : cX12_driven.data.toList.drop 94 = sxX12_driven_94 := dSn 2 shX12_driven_92
theorem shX12_driven_95 : cX12_driven.data.toList.drop 95 = sxX12_driven_95 := dSn 1 shX12_driven_94
theorem shX12_driven_96 : cX12_driven.data.toList.drop 96 = sxX12_driven_96 := dSn 1 shX12_driven_95
theorem shX12_driven_97 : cX12_driven.data.toList.drop 97 = sxX12_driven_97 := dSn 1 shX12_driven_96
theorem shX12_driven_100 : cX12_driven.data.toList.drop 100 = sxX12_driven_100 := dSn 3 shX12_driven_97
theorem shX12_driven_102 : cX12_driven.data.toList.drop 102 = sxX12_driven_102 := dSn 2 shX12_driven_100
theorem shX12_driven_103 : cX12_driven.data.toList.drop 103 = sxX12_driven_103 := dSn 1 shX12_driven_102
theorem shX12_driven_105 : cX12_driven.data.toList.drop 105 = sxX12_driven_105 := dSn 2 shX12_driven_103
theorem shX12_driven_108 : cX12_driven.data.toList.drop 108 = sxX12_driven_108 := dSn 3 shX12_driven_105
theorem shX12_driven_111 : cX12_driven.data.toList.drop 111 = sxX12_driven_111 := dSn 3 shX12_driven_108
theorem shX12_driven_112 : cX12_driven.data.toList.drop 112 = sxX12_driven_112 := dSn 1 shX12_driven_111
theorem shX12_driven_113 : cX12_driven.data.toList.drop 113 = sxX12_driven_113 := dSn 1 shX12_driven_112
theorem shX12_driven_114 : cX12_driven.data.toList.drop 114 = sxX12_driven_114 := dSn 1 shX12_driven_113
theorem shX12_driven_116 : cX12_driven.data.toList.drop 116 = sxX12_driven_116 := dSn 2 shX12_driven_114
theorem shX12_driven_117 : cX12_driven.data.toList.drop 117 = sxX12_driven_117 := dSn 1 shX12_driven_116
theorem dX12_driven_0 : decode cX12_driven 0 = .ok (.iload_n 1, 1) := oc_27 shX12_driven_0
theorem dX12_driven_1 : decode cX12_driven 1 = .ok (.iconst 0, 1) := oc_3 shX12_driven_1
theorem dX12_driven_2 : decode cX12_driven 2 = .ok (.bipush 20, 2) := oc_16 shX12_driven_2 sgb_20
theorem dX12_driven_4 : decode cX12_driven 4 = .ok (.invokestatic 214, 3) := oc_184 shX12_driven_4
theorem dX12_driven_7 : decode cX12_driven 7 = .ok (.ifCond .eq 11, 3) := oc_153 shX12_driven_7 sgw_0_11
theorem dX12_driven_10 : decode cX12_driven 10 = .ok (.iload_n 1, 1) := oc_27 shX12_driven_10
theorem dX12_driven_11 : decode cX12_driven 11 = .ok (.aload_n 0, 1) := oc_42 shX12_driven_11
theorem dX12_driven_12 : decode cX12_driven 12 = .ok (.getfield 226, 3) := oc_180 shX12_driven_12
theorem dX12_driven_15 : decode cX12_driven 15 = .ok (.if_icmp .le 5, 3) := oc_164 shX12_driven_15 sgw_0_5
theorem dX12_driven_18 : decode cX12_driven 18 = .ok (.iconst (-1), 1) := oc_2 shX12_driven_18
theorem dX12_driven_19 : decode cX12_driven 19 = .ok (.ireturn, 1) := oc_172 shX12_driven_19
theorem dX12_driven_20 : decode cX12_driven 20 = .ok (.aload_n 0, 1) := oc_42 shX12_driven_20
theorem dX12_driven_21 : decode cX12_driven 21 = .ok (.iconst 0, 1) := oc_3 shX12_driven_21
theorem dX12_driven_22 : decode cX12_driven 22 = .ok (.putfield 226, 3) := oc_181 shX12_driven_22
theorem dX12_driven_25 : decode cX12_driven 25 = .ok (.iconst 0, 1) := oc_3 shX12_driven_25
theorem dX12_driven_26 : decode cX12_driven 26 = .ok (.istore_n 2, 1) := oc_61 shX12_driven_26
theorem dX12_driven_27 : decode cX12_driven 27 = .ok (.iconst 0, 1) := oc_3 shX12_driven_27
theorem dX12_driven_28 : decode cX12_driven 28 = .ok (.istore_n 3, 1) := oc_62 shX12_driven_28
theorem dX12_driven_29 : decode cX12_driven 29 = .ok (.iconst 0, 1) := oc_3 shX12_driven_29
theorem dX12_driven_30 : decode cX12_driven 30 = .ok (.istore 4, 2) := oc_54 shX12_driven_30
theorem dX12_driven_32 : decode cX12_driven 32 = .ok (.iconst 0, 1) := oc_3 shX12_driven_32
theorem dX12_driven_33 : decode cX12_driven 33 = .ok (.istore 5, 2) := oc_54 shX12_driven_33
theorem dX12_driven_35 : decode cX12_driven 35 = .ok (.iload 5, 2) := oc_21 shX12_driven_35
theorem dX12_driven_37 : decode cX12_driven 37 = .ok (.iload_n 1, 1) := oc_27 shX12_driven_37
theorem dX12_driven_38 : decode cX12_driven 38 = .ok (.if_icmp .ge 73, 3) := oc_162 shX12_driven_38 sgw_0_73
theorem dX12_driven_41 : decode cX12_driven 41 = .ok (.aload_n 0, 1) := oc_42 shX12_driven_41
theorem dX12_driven_42 : decode cX12_driven 42 = .ok (.getfield 52, 3) := oc_180 shX12_driven_42
theorem dX12_driven_45 : decode cX12_driven 45 = .ok (.iload 5, 2) := oc_21 shX12_driven_45
theorem dX12_driven_47 : decode cX12_driven 47 = .ok (.baload, 1) := oc_51 shX12_driven_47
theorem dX12_driven_48 : decode cX12_driven 48 = .ok (.sipush 255, 3) := oc_17 shX12_driven_48 sgw_0_255
theorem dX12_driven_51 : decode cX12_driven 51 = .ok (.iand, 1) := oc_126 shX12_driven_51
theorem dX12_driven_52 : decode cX12_driven 52 = .ok (.istore 6, 2) := oc_54 shX12_driven_52
theorem dX12_driven_54 : decode cX12_driven 54 = .ok (.aload_n 0, 1) := oc_42 shX12_driven_54
theorem dX12_driven_55 : decode cX12_driven 55 = .ok (.iload 6, 2) := oc_21 shX12_driven_55
theorem dX12_driven_57 : decode cX12_driven 57 = .ok (.invokevirtual 218, 3) := oc_182 shX12_driven_57
theorem dX12_driven_60 : decode cX12_driven 60 = .ok (.ifCond .ne 5, 3) := oc_154 shX12_driven_60 sgw_0_5
theorem dX12_driven_63 : decode cX12_driven 63 = .ok (.iconst (-1), 1) := oc_2 shX12_driven_63
theorem dX12_driven_64 : decode cX12_driven 64 = .ok (.ireturn, 1) := oc_172 shX12_driven_64
theorem dX12_driven_65 : decode cX12_driven 65 = .ok (.iload_n 2, 1) := oc_28 shX12_driven_65
theorem dX12_driven_66 : decode cX12_driven 66 = .ok (.iload_n 3, 1) := oc_29 shX12_driven_66
theorem dX12_driven_67 : decode cX12_driven 67 = .ok (.iload 4, 2) := oc_21 shX12_driven_67
theorem dX12_driven_69 : decode cX12_driven 69 = .ok (.aload_n 0, 1) := oc_42 shX12_driven_69
theorem dX12_driven_70 : decode cX12_driven 70 = .ok (.getfield 7, 3) := oc_180 shX12_driven_70
theorem dX12_driven_73 : decode cX12_driven 73 = .ok (.iload 6, 2) := oc_21 shX12_driven_73
theorem dX12_driven_75 : decode cX12_driven 75 = .ok (.iaload, 1) := oc_46 shX12_driven_75
theorem dX12_driven_76 : decode cX12_driven 76 = .ok (.aload_n 0, 1) := oc_42 shX12_driven_76
theorem dX12_driven_77 : decode cX12_driven 77 = .ok (.getfield 13, 3) := oc_180 shX12_driven_77
theorem dX12_driven_80 : decode cX12_driven 80 = .ok (.iload 6, 2) := oc_21 shX12_driven_80
theorem dX12_driven_82 : decode cX12_driven 82 = .ok (.iaload, 1) := oc_46 shX12_driven_82
theorem dX12_driven_83 : decode cX12_driven 83 = .ok (.invokestatic 360, 3) := oc_184 shX12_driven_83
theorem dX12_driven_86 : decode cX12_driven 86 = .ok (.iadd, 1) := oc_96 shX12_driven_86
theorem dX12_driven_87 : decode cX12_driven 87 = .ok (.istore_n 2, 1) := oc_61 shX12_driven_87
theorem dX12_driven_88 : decode cX12_driven 88 = .ok (.aload_n 0, 1) := oc_42 shX12_driven_88
theorem dX12_driven_89 : decode cX12_driven 89 = .ok (.getfield 7, 3) := oc_180 shX12_driven_89
theorem dX12_driven_92 : decode cX12_driven 92 = .ok (.iload 6, 2) := oc_21 shX12_driven_92
theorem dX12_driven_94 : decode cX12_driven 94 = .ok (.iaload, 1) := oc_46 shX12_driven_94
theorem dX12_driven_95 : decode cX12_driven 95 = .ok (.istore_n 3, 1) := oc_62 shX12_driven_95
theorem dX12_driven_96 : decode cX12_driven 96 = .ok (.aload_n 0, 1) := oc_42 shX12_driven_96
theorem dX12_driven_97 : decode cX12_driven 97 = .ok (.getfield 13, 3) := oc_180 shX12_driven_97
theorem dX12_driven_100 : decode cX12_driven 100 = .ok (.iload 6, 2) := oc_21 shX12_driven_100
theorem dX12_driven_102 : decode cX12_driven 102 = .ok (.iaload, 1) := oc_46 shX12_driven_102
theorem dX12_driven_103 : decode cX12_driven 103 = .ok (.istore 4, 2) := oc_54 shX12_driven_103
theorem dX12_driven_105 : decode cX12_driven 105 = .ok (.iinc 5 1, 3) := oc_132 shX12_driven_105 sgb_1
theorem dX12_driven_108 : decode cX12_driven 108 = .ok (.goto (-73), 3) := oc_167 shX12_driven_108 sgw_255_183
theorem dX12_driven_111 : decode cX12_driven 111 = .ok (.iload_n 2, 1) := oc_28 shX12_driven_111
theorem dX12_driven_112 : decode cX12_driven 112 = .ok (.iload_n 3, 1) := oc_29 shX12_driven_112
theorem dX12_driven_113 : decode cX12_driven 113 = .ok (.iadd, 1) := oc_96 shX12_driven_113
theorem dX12_driven_114 : decode cX12_driven 114 = .ok (.iload 4, 2) := oc_21 shX12_driven_114
theorem dX12_driven_116 : decode cX12_driven 116 = .ok (.iadd, 1) := oc_96 shX12_driven_116
theorem dX12_driven_117 : decode cX12_driven 117 = .ok (.ireturn, 1) := oc_172 shX12_driven_117
noncomputable def sxX12_mixes_132 : List UInt8 := []
noncomputable def sxX12_mixes_131 : List UInt8 := 177 :: sxX12_mixes_132
noncomputable def sxX12_mixes_128 : List UInt8 := 181 :: 1 :: 169 :: sxX12_mixes_131
noncomputable def sxX12_mixes_127 : List UInt8 := 108 :: sxX12_mixes_128
noncomputable def sxX12_mixes_124 : List UInt8 := 180 :: 1 :: 163 :: sxX12_mixes_127
noncomputable def sxX12_mixes_123 : List UInt8 := 42 :: sxX12_mixes_124
noncomputable def sxX12_mixes_122 : List UInt8 := 29 :: sxX12_mixes_123
noncomputable def sxX12_mixes_119 : List UInt8 := 167 :: 0 :: 9 :: sxX12_mixes_122
noncomputable def sxX12_mixes_118 : List UInt8 := 3 :: sxX12_mixes_119
noncomputable def sxX12_mixes_115 : List UInt8 := 154 :: 0 :: 7 :: sxX12_mixes_118
noncomputable def sxX12_mixes_112 : List UInt8 := 180 :: 1 :: 163 :: sxX12_mixes_115
noncomputable def sxX12_mixes_111 : List UInt8 := 42 :: sxX12_mixes_112
noncomputable def sxX12_mixes_110 : List UInt8 := 42 :: sxX12_mixes_111
noncomputable def sxX12_mixes_107 : List UInt8 := 181 :: 1 :: 166 :: sxX12_mixes_110
noncomputable def sxX12_mixes_106 : List UInt8 := 108 :: sxX12_mixes_107
noncomputable def sxX12_mixes_103 : List UInt8 := 180 :: 1 :: 163 :: sxX12_mixes_106
noncomputable def sxX12_mixes_102 : List UInt8 := 42 :: sxX12_mixes_103
noncomputable def sxX12_mixes_101 : List UInt8 := 28 :: sxX12_mixes_102
noncomputable def sxX12_mixes_98 : List UInt8 := 167 :: 0 :: 9 :: sxX12_mixes_101
noncomputable def sxX12_mixes_97 : List UInt8 := 3 :: sxX12_mixes_98
noncomputable def sxX12_mixes_94 : List UInt8 := 154 :: 0 :: 7 :: sxX12_mixes_97
noncomputable def sxX12_mixes_91 : List UInt8 := 180 :: 1 :: 163 :: sxX12_mixes_94
noncomputable def sxX12_mixes_90 : List UInt8 := 42 :: sxX12_mixes_91
noncomputable def sxX12_mixes_89 : List UInt8 := 42 :: sxX12_mixes_90
noncomputable def sxX12_mixes_86 : List UInt8 := 167 :: 255 :: 182 :: sxX12_mixes_89
noncomputable def sxX12_mixes_83 : List UInt8 := 132 :: 4 :: 1 :: sxX12_mixes_86
noncomputable def sxX12_mixes_82 : List UInt8 := 62 :: sxX12_mixes_83
noncomputable def sxX12_mixes_81 : List UInt8 := 96 :: sxX12_mixes_82
noncomputable def sxX12_mixes_80 : List UInt8 := 104 :: sxX12_mixes_81
noncomputable def sxX12_mixes_79 : List UInt8 := 46 :: sxX12_mixes_80
noncomputable def sxX12_mixes_77 : List UInt8 := 21 :: 4 :: sxX12_mixes_79
noncomputable def sxX12_mixes_74 : List UInt8 := 180 :: 0 :: 37 :: sxX12_mixes_77
noncomputable def sxX12_mixes_73 : List UInt8 := 42 :: sxX12_mixes_74
noncomputable def sxX12_mixes_72 : List UInt8 := 46 :: sxX12_mixes_73
noncomputable def sxX12_mixes_70 : List UInt8 := 21 :: 4 :: sxX12_mixes_72
noncomputable def sxX12_mixes_67 : List UInt8 := 180 :: 0 :: 31 :: sxX12_mixes_70
noncomputable def sxX12_mixes_66 : List UInt8 := 42 :: sxX12_mixes_67
noncomputable def sxX12_mixes_65 : List UInt8 := 29 :: sxX12_mixes_66
noncomputable def sxX12_mixes_64 : List UInt8 := 61 :: sxX12_mixes_65
noncomputable def sxX12_mixes_63 : List UInt8 := 96 :: sxX12_mixes_64
noncomputable def sxX12_mixes_62 : List UInt8 := 104 :: sxX12_mixes_63
noncomputable def sxX12_mixes_61 : List UInt8 := 46 :: sxX12_mixes_62
noncomputable def sxX12_mixes_59 : List UInt8 := 21 :: 4 :: sxX12_mixes_61
noncomputable def sxX12_mixes_56 : List UInt8 := 180 :: 0 :: 34 :: sxX12_mixes_59
noncomputable def sxX12_mixes_55 : List UInt8 := 42 :: sxX12_mixes_56
noncomputable def sxX12_mixes_54 : List UInt8 := 46 :: sxX12_mixes_55
noncomputable def sxX12_mixes_52 : List UInt8 := 21 :: 4 :: sxX12_mixes_54
noncomputable def sxX12_mixes_49 : List UInt8 := 180 :: 0 :: 31 :: sxX12_mixes_52
noncomputable def sxX12_mixes_48 : List UInt8 := 42 :: sxX12_mixes_49
noncomputable def sxX12_mixes_47 : List UInt8 := 28 :: sxX12_mixes_48
noncomputable def sxX12_mixes_44 : List UInt8 := 181 :: 1 :: 163 :: sxX12_mixes_47
noncomputable def sxX12_mixes_43 : List UInt8 := 96 :: sxX12_mixes_44
noncomputable def sxX12_mixes_42 : List UInt8 := 46 :: sxX12_mixes_43
noncomputable def sxX12_mixes_40 : List UInt8 := 21 :: 4 :: sxX12_mixes_42
noncomputable def sxX12_mixes_37 : List UInt8 := 180 :: 0 :: 31 :: sxX12_mixes_40
noncomputable def sxX12_mixes_36 : List UInt8 := 42 :: sxX12_mixes_37
noncomputable def sxX12_mixes_33 : List UInt8 := 180 :: 1 :: 163 :: sxX12_mixes_36
noncomputable def sxX12_mixes_32 : List UInt8 := 42 :: sxX12_mixes_33
noncomputable def sxX12_mixes_31 : List UInt8 := 42 :: sxX12_mixes_32
noncomputable def sxX12_mixes_28 : List UInt8 := 167 :: 0 :: 55 :: sxX12_mixes_31
noncomputable def sxX12_mixes_25 : List UInt8 := 154 :: 0 :: 6 :: sxX12_mixes_28
noncomputable def sxX12_mixes_24 : List UInt8 := 126 :: sxX12_mixes_25
noncomputable def sxX12_mixes_23 : List UInt8 := 4 :: sxX12_mixes_24
noncomputable def sxX12_mixes_22 : List UInt8 := 122 :: sxX12_mixes_23
noncomputable def sxX12_mixes_20 : List UInt8 := 21 :: 4 :: sxX12_mixes_22
noncomputable def sxX12_mixes_19 : List UInt8 := 27 :: sxX12_mixes_20
noncomputable def sxX12_mixes_16 : List UInt8 := 162 :: 0 :: 73 :: sxX12_mixes_19
noncomputable def sxX12_mixes_14 : List UInt8 := 16 :: 20 :: sxX12_mixes_16
noncomputable def sxX12_mixes_12 : List UInt8 := 21 :: 4 :: sxX12_mixes_14
noncomputable def sxX12_mixes_10 : List UInt8 := 54 :: 4 :: sxX12_mixes_12
noncomputable def sxX12_mixes_9 : List UInt8 := 3 :: sxX12_mixes_10
noncomputable def sxX12_mixes_6 : List UInt8 := 181 :: 1 :: 163 :: sxX12_mixes_9
noncomputable def sxX12_mixes_5 : List UInt8 := 3 :: sxX12_mixes_6
noncomputable def sxX12_mixes_4 : List UInt8 := 42 :: sxX12_mixes_5
noncomputable def sxX12_mixes_3 : List UInt8 := 62 :: sxX12_mixes_4
noncomputable def sxX12_mixes_2 : List UInt8 := 3 :: sxX12_mixes_3
noncomputable def sxX12_mixes_1 : List UInt8 := 61 :: sxX12_mixes_2
noncomputable def sxX12_mixes_0 : List UInt8 := 3 :: sxX12_mixes_1
theorem shX12_mixes_0 : cX12_mixes.data.toList.drop 0 = sxX12_mixes_0 := rfl
theorem shX12_mixes_1 : cX12_mixes.data.toList.drop 1 = sxX12_mixes_1 := dSn 1 shX12_mixes_0
theorem shX12_mixes_2 : cX12_mixes.data.toList.drop 2 = sxX12_mixes_2 := dSn 1 shX12_mixes_1
theorem shX12_mixes_3 : cX12_mixes.data.toList.drop 3 = sxX12_mixes_3 := dSn 1 shX12_mixes_2
theorem shX12_mixes_4 : cX12_mixes.data.toList.drop 4 = sxX12_mixes_4 := dSn 1 shX12_mixes_3
theorem shX12_mixes_5 : cX12_mixes.data.toList.drop 5 = sxX12_mixes_5 := dSn 1 shX12_mixes_4
theorem shX12_mixes_6 : cX12_mixes.data.toList.drop 6 = sxX12_mixes_6 := dSn 1 shX12_mixes_5
theorem shX12_mixes_9 : cX12_mixes.data.toList.drop 9 = sxX12_mixes_9 := dSn 3 shX12_mixes_6
theorem shX12_mixes_10 : cX12_mixes.data.toList.drop 10 = sxX12_mixes_10 := dSn 1 shX12_mixes_9
theorem shX12_mixes_12 : cX12_mixes.data.toList.drop 12 = sxX12_mixes_12 := dSn 2 shX12_mixes_10
theorem shX12_mixes_14 : cX12_mixes.data.toList.drop 14 = sxX12_mixes_14 := dSn 2 shX12_mixes_12
theorem shX12_mixes_16 : cX12_mixes.data.toList.drop 16 = sxX12_mixes_16 := dSn 2 shX12_mixes_14
theorem shX12_mixes_19 : cX12_mixes.data.toList.drop 19 = sxX12_mixes_19 := dSn 3 shX12_mixes_16
theorem shX12_mixes_20 : cX12_mixes.data.toList.drop 20 = sxX12_mixes_20 := dSn 1 shX12_mixes_19
theorem shX12_mixes_22 : cX12_mixes.data.toList.drop 22 = sxX12_mixes_22 := dSn 2 shX12_mixes_20
theorem shX12_mixes_23 : cX12_mixes.data.toList.drop 23 = sxX12_mixes_23 := dSn 1 shX12_mixes_22
theorem shX12_mixes_24 : cX12_mixes.data.toList.drop 24 = sxX12_mixes_24 := dSn 1 shX12_mixes_23
theorem shX12_mixes_25 : cX12_mixes.data.toList.drop 25 = sxX12_mixes_25 := dSn 1 shX12_mixes_24
theorem shX12_mixes_28 : cX12_mixes.data.toList.drop 28 = sxX12_mixes_28 := dSn 3 shX12_mixes_25
theorem shX12_mixes_31 : cX12_mixes.data.toList.drop 31 = sxX12_mixes_31 := dSn 3 shX12_mixes_28
theorem shX12_mixes_32 : cX12_mixes.data.toList.drop 32 = sxX12_mixes_32 := dSn 1 shX12_mixes_31
theorem shX12_mixes_33 : cX12_mixes.data.toList.drop 33 = sxX12_mixes_33 := dSn 1 shX12_mixes_32
theorem shX12_mixes_36 : cX12_mixes.data.toList.drop 36 = sxX12_mixes_36 := dSn 3 shX12_mixes_33
theorem shX12_mixes_37 : cX12_mixes.data.toList.drop 37 = sxX12_mixes_37 := dSn 1 shX12_mixes_36
theorem shX12_mixes_40 : cX12_mixes.data.toList.drop 40 = sxX12_mixes_40 := dSn 3 shX12_mixes_37
theorem shX12_mixes_42 : cX12_mixes.data.toList.drop 42 = sxX12_mixes_42 := dSn 2 shX12_mixes_40
theorem shX12_mixes_43 : cX12_mixes.data.toList.drop 43 = sxX12_mixes_43 := dSn 1 shX12_mixes_42
theorem shX12_mixes_44 : cX12_mixes.data.toList.drop 44 = sxX12_mixes_44 := dSn 1 shX12_mixes_43
theorem shX12_mixes_47 : cX12_mixes.data.toList.drop 47 = sxX12_mixes_47 := dSn 3 shX12_mixes_44
theorem shX12_mixes_48 : cX12_mixes.data.toList.drop 48 = sxX12_mixes_48 := dSn 1 shX12_mixes_47
theorem shX12_mixes_49 : cX12_mixes.data.toList.drop 49 = sxX12_mixes_49 := dSn 1 shX12_mixes_48
theorem shX12_mixes_52 : cX12_mixes.data.toList.drop 52 = sxX12_mixes_52 := dSn 3 shX12_mixes_49
theorem shX12_mixes_54 : cX12_mixes.data.toList.drop 54 = sxX12_mixes_54 := dSn 2 shX12_mixes_52
theorem shX12_mixes_55 : cX12_mixes.data.toList.drop 55 = sxX12_mixes_55 := dSn 1 shX12_mixes_54
theorem shX12_mixes_56 : cX12_mixes.data.toList.drop 56 = sxX12_mixes_56 := dSn 1 shX12_mixes_55
theorem shX12_mixes_59 : cX12_mixes.data.toList.drop 59 = sxX12_mixes_59 := dSn 3 shX12_mixes_56
theorem shX12_mixes_61 : cX12_mixes.data.toList.drop 61 = sxX12_mixes_61 := dSn 2 shX12_mixes_59
theorem shX12_mixes_62 : cX12_mixes.data.toList.drop 62 = sxX12_mixes_62 := dSn 1 shX12_mixes_61
theorem shX12_mixes_63 : cX12_mixes.data.toList.drop 63 = sxX12_mixes_63 := dSn 1 shX12_mixes_62
theorem shX12_mixes_64 : cX12_mixes.data.toList.drop 64 = sxX12_mixes_64 := dSn 1 shX12_mixes_63
theorem shX12_mixes_65 : cX12_mixes.data.toList.drop 65 = sxX12_mixes_65 := dSn 1 shX12_mixes_64
theorem shX12_mixes_66 : cX12_mixes.data.toList.drop 66 = sxX12_mixes_66 := dSn 1 shX12_mixes_65
theorem shX12_mixes_67 : cX12_mixes.data.toList.drop 67 = sxX12_mixes_67 := dSn 1 shX12_mixes_66
theorem shX12_mixes_70 : cX12_mixes.data.toList.drop 70 = sxX12_mixes_70 := dSn 3 shX12_mixes_67
theorem shX12_mixes_72 : cX12_mixes.data.toList.drop 72 = sxX12_mixes_72 := dSn 2 shX12_mixes_70
theorem shX12_mixes_73 : cX12_mixes.data.toList.drop 73 = sxX12_mixes_73 := dSn 1 shX12_mixes_72
theorem shX12_mixes_74 : cX12_mixes.data.toList.drop 74 = sxX12_mixes_74 := dSn 1 shX12_mixes_73
theorem shX12_mixes_77 : cX12_mixes.data.toList.drop 77 = sxX12_mixes_77 := dSn 3 shX12_mixes_74
theorem shX12_mixes_79 : cX12_mixes.data.toList.drop 79 = sxX12_mixes_79 := dSn 2 shX12_mixes_77
theorem shX12_mixes_80 : cX12_mixes.data.toList.drop 80 = sxX12_mixes_80 := dSn 1 shX12_mixes_79
theorem shX12_mixes_81 : cX12_mixes.data.toList.drop 81 = sxX12_mixes_81 := dSn 1 shX12_mixes_80
theorem shX12_mixes_82 : cX12_mixes.data.toList.drop 82 = sxX12_mixes_82 := dSn 1 shX12_mixes_81
theorem shX12_mixes_83 : cX12_mixes.data.toList.drop 83 = sxX12_mixes_83 := dSn 1 shX12_mixes_82
theorem shX12_mixes_86 : cX12_mixes.data.toList.drop 86 = sxX12_mixes_86 := dSn 3 shX12_mixes_83
theorem shX12_mixes_89 : cX12_mixes.data.toList.drop 89 = sxX12_mixes_89 := dSn 3 shX12_mixes_86
theorem shX12_mixes_90 : cX12_mixes.data.toList.drop 90 = sxX12_mixes_90 := dSn 1 shX12_mixes_89
theorem shX12_mixes_91 : cX12_mixes.data.toList.drop 91 = sxX12_mixes_91 := dSn 1 shX12_mixes_90
theorem shX12_mixes_94 : cX12_mixes.data.toList.drop 94 = sxX12_mixes_94 := dSn 3 shX12_mixes_91
theorem shX12_mixes_97 : cX12_mixes.data.toList.drop 97 = sxX12_mixes_97 := dSn 3 shX12_mixes_94
theorem shX12_mixes_98 : cX12_mixes.data.toList.drop 98 = sxX12_mixes_98 := dSn 1 shX12_mixes_97
theorem shX12_mixes_101 : cX12_mixes.data.toList.drop 101 = sxX12_mixes_101 := dSn 3 shX12_mixes_98
theorem shX12_mixes_102 : cX12_mixes.data.toList.drop 102 = sxX12_mixes_102 := dSn 1 shX12_mixes_101
theorem shX12_mixes_103 : cX12_mixes.data.toList.drop 103 = sxX12_mixes_103 := dSn 1 shX12_mixes_102
theorem shX12_mixes_106 : cX12_mixes.data.toList.drop 106 = sxX12_mixes_106 := dSn 3 shX12_mixes_103
theorem shX12_mixes_107 : cX12_mixes.data.toList.drop 107 = sxX12_mixes_107 := dSn 1 shX12_mixes_106
theorem shX12_mixes_110 : cX12_mixes.data.toList.drop 110 = sxX12_mixes_110 := dSn 3 shX12_mixes_107
theorem shX12_mixes_111 : cX12_mixes.data.toList.drop 111 = sxX12_mixes_111 := dSn 1 shX12_mixes_110
theorem shX12_mixes_112 : cX12_mixes.data.toList.drop 112 = sxX12_mixes_112 := dSn 1 shX12_mixes_111
theorem shX12_mixes_115 : cX12_mixes.data.toList.drop 115 = sxX12_mixes_115 := dSn 3 shX12_mixes_112
theorem shX12_mixes_118 : cX12_mixes.data.toList.drop 118 = sxX12_mixes_118 := dSn 3 shX12_mixes_115
theorem shX12_mixes_119 : cX12_mixes.data.toList.drop 119 = sxX12_mixes_119 := dSn 1 shX12_mixes_118
theorem shX12_mixes_122 : cX12_mixes.data.toList.drop 122 = sxX12_mixes_122 := dSn 3 shX12_mixes_119
theorem shX12_mixes_123 : cX12_mixes.data.toList.drop 123 = sxX12_mixes_123 := dSn 1 shX12_mixes_122
theorem shX12_mixes_124 : cX12_mixes.data.toList.drop 124 = sxX12_mixes_124 := dSn 1 shX12_mixes_123
theorem shX12_mixes_127 : cX12_mixes.data.toList.drop 127 = sxX12_mixes_127 := dSn 3 shX12_mixes_124
theorem shX12_mixes_128 : cX12_mixes.data.toList.drop 128 = sxX12_mixes_128 := dSn 1 shX12_mixes_127
theorem shX12_mixes_131 : cX12_mixes.data.toList.drop 131 = sxX12_mixes_131 := dSn 3 shX12_mixes_128
theorem dX12_mixes_0 : decode cX12_mixes 0 = .ok (.iconst 0, 1) := oc_3 shX12_mixes_0
theorem dX12_mixes_1 : decode cX12_mixes 1 = .ok (.istore_n 2, 1) := oc_61 shX12_mixes_1
theorem dX12_mixes_2 : decode cX12_mixes 2 = .ok (.iconst 0, 1) := oc_3 shX12_mixes_2
theorem dX12_mixes_3 : decode cX12_mixes 3 = .ok (.istore_n 3, 1) := oc_62 shX12_mixes_3
theorem dX12_mixes_4 : decode cX12_mixes 4 = .ok (.aload_n 0, 1) := oc_42 shX12_mixes_4
theorem dX12_mixes_5 : decode cX12_mixes 5 = .ok (.iconst 0, 1) := oc_3 shX12_mixes_5
theorem dX12_mixes_6 : decode cX12_mixes 6 = .ok (.putfield 419, 3) := oc_181 shX12_mixes_6
theorem dX12_mixes_9 : decode cX12_mixes 9 = .ok (.iconst 0, 1) := oc_3 shX12_mixes_9
theorem dX12_mixes_10 : decode cX12_mixes 10 = .ok (.istore 4, 2) := oc_54 shX12_mixes_10
theorem dX12_mixes_12 : decode cX12_mixes 12 = .ok (.iload 4, 2) := oc_21 shX12_mixes_12
theorem dX12_mixes_14 : decode cX12_mixes 14 = .ok (.bipush 20, 2) := oc_16 shX12_mixes_14 sgb_20
theorem dX12_mixes_16 : decode cX12_mixes 16 = .ok (.if_icmp .ge 73, 3) := oc_162 shX12_mixes_16 sgw_0_73
theorem dX12_mixes_19 : decode cX12_mixes 19 = .ok (.iload_n 1, 1) := oc_27 shX12_mixes_19
theorem dX12_mixes_20 : decode cX12_mixes 20 = .ok (.iload 4, 2) := oc_21 shX12_mixes_20
theorem dX12_mixes_22 : decode cX12_mixes 22 = .ok (.ishr, 1) := oc_122 shX12_mixes_22
theorem dX12_mixes_23 : decode cX12_mixes 23 = .ok (.iconst 1, 1) := oc_4 shX12_mixes_23
theorem dX12_mixes_24 : decode cX12_mixes 24 = .ok (.iand, 1) := oc_126 shX12_mixes_24
theorem dX12_mixes_25 : decode cX12_mixes 25 = .ok (.ifCond .ne 6, 3) := oc_154 shX12_mixes_25 sgw_0_6
theorem dX12_mixes_28 : decode cX12_mixes 28 = .ok (.goto 55, 3) := oc_167 shX12_mixes_28 sgw_0_55
theorem dX12_mixes_31 : decode cX12_mixes 31 = .ok (.aload_n 0, 1) := oc_42 shX12_mixes_31
theorem dX12_mixes_32 : decode cX12_mixes 32 = .ok (.aload_n 0, 1) := oc_42 shX12_mixes_32
theorem dX12_mixes_33 : decode cX12_mixes 33 = .ok (.getfield 419, 3) := oc_180 shX12_mixes_33
theorem dX12_mixes_36 : decode cX12_mixes 36 = .ok (.aload_n 0, 1) := oc_42 shX12_mixes_36
theorem dX12_mixes_37 : decode cX12_mixes 37 = .ok (.getfield 31, 3) := oc_180 shX12_mixes_37
theorem dX12_mixes_40 : decode cX12_mixes 40 = .ok (.iload 4, 2) := oc_21 shX12_mixes_40
theorem dX12_mixes_42 : decode cX12_mixes 42 = .ok (.iaload, 1) := oc_46 shX12_mixes_42
theorem dX12_mixes_43 : decode cX12_mixes 43 = .ok (.iadd, 1) := oc_96 shX12_mixes_43
theorem dX12_mixes_44 : decode cX12_mixes 44 = .ok (.putfield 419, 3) := oc_181 shX12_mixes_44
theorem dX12_mixes_47 : decode cX12_mixes 47 = .ok (.iload_n 2, 1) := oc_28 shX12_mixes_47
theorem dX12_mixes_48 : decode cX12_mixes 48 = .ok (.aload_n 0, 1) := oc_42 shX12_mixes_48
theorem dX12_mixes_49 : decode cX12_mixes 49 = .ok (.getfield 31, 3) := oc_180 shX12_mixes_49
theorem dX12_mixes_52 : decode cX12_mixes 52 = .ok (.iload 4, 2) := oc_21 shX12_mixes_52
theorem dX12_mixes_54 : decode cX12_mixes 54 = .ok (.iaload, 1) := oc_46 shX12_mixes_54
theorem dX12_mixes_55 : decode cX12_mixes 55 = .ok (.aload_n 0, 1) := oc_42 shX12_mixes_55
theorem dX12_mixes_56 : decode cX12_mixes 56 = .ok (.getfield 34, 3) := oc_180 shX12_mixes_56
theorem dX12_mixes_59 : decode cX12_mixes 59 = .ok (.iload 4, 2) := oc_21 shX12_mixes_59
theorem dX12_mixes_61 : decode cX12_mixes 61 = .ok (.iaload, 1) := oc_46 shX12_mixes_61
theorem dX12_mixes_62 : decode cX12_mixes 62 = .ok (.imul, 1) := oc_104 shX12_mixes_62
theorem dX12_mixes_63 : decode cX12_mixes 63 = .ok (.iadd, 1) := oc_96 shX12_mixes_63
theorem dX12_mixes_64 : decode cX12_mixes 64 = .ok (.istore_n 2, 1) := oc_61 shX12_mixes_64
theorem dX12_mixes_65 : decode cX12_mixes 65 = .ok (.iload_n 3, 1) := oc_29 shX12_mixes_65
theorem dX12_mixes_66 : decode cX12_mixes 66 = .ok (.aload_n 0, 1) := oc_42 shX12_mixes_66
theorem dX12_mixes_67 : decode cX12_mixes 67 = .ok (.getfield 31, 3) := oc_180 shX12_mixes_67
theorem dX12_mixes_70 : decode cX12_mixes 70 = .ok (.iload 4, 2) := oc_21 shX12_mixes_70
theorem dX12_mixes_72 : decode cX12_mixes 72 = .ok (.iaload, 1) := oc_46 shX12_mixes_72
theorem dX12_mixes_73 : decode cX12_mixes 73 = .ok (.aload_n 0, 1) := oc_42 shX12_mixes_73
theorem dX12_mixes_74 : decode cX12_mixes 74 = .ok (.getfield 37, 3) := oc_180 shX12_mixes_74
theorem dX12_mixes_77 : decode cX12_mixes 77 = .ok (.iload 4, 2) := oc_21 shX12_mixes_77
theorem dX12_mixes_79 : decode cX12_mixes 79 = .ok (.iaload, 1) := oc_46 shX12_mixes_79
theorem dX12_mixes_80 : decode cX12_mixes 80 = .ok (.imul, 1) := oc_104 shX12_mixes_80
theorem dX12_mixes_81 : decode cX12_mixes 81 = .ok (.iadd, 1) := oc_96 shX12_mixes_81
theorem dX12_mixes_82 : decode cX12_mixes 82 = .ok (.istore_n 3, 1) := oc_62 shX12_mixes_82
theorem dX12_mixes_83 : decode cX12_mixes 83 = .ok (.iinc 4 1, 3) := oc_132 shX12_mixes_83 sgb_1
theorem dX12_mixes_86 : decode cX12_mixes 86 = .ok (.goto (-74), 3) := oc_167 shX12_mixes_86 sgw_255_182
theorem dX12_mixes_89 : decode cX12_mixes 89 = .ok (.aload_n 0, 1) := oc_42 shX12_mixes_89
theorem dX12_mixes_90 : decode cX12_mixes 90 = .ok (.aload_n 0, 1) := oc_42 shX12_mixes_90
theorem dX12_mixes_91 : decode cX12_mixes 91 = .ok (.getfield 419, 3) := oc_180 shX12_mixes_91
theorem dX12_mixes_94 : decode cX12_mixes 94 = .ok (.ifCond .ne 7, 3) := oc_154 shX12_mixes_94 sgw_0_7
theorem dX12_mixes_97 : decode cX12_mixes 97 = .ok (.iconst 0, 1) := oc_3 shX12_mixes_97
theorem dX12_mixes_98 : decode cX12_mixes 98 = .ok (.goto 9, 3) := oc_167 shX12_mixes_98 sgw_0_9
theorem dX12_mixes_101 : decode cX12_mixes 101 = .ok (.iload_n 2, 1) := oc_28 shX12_mixes_101
theorem dX12_mixes_102 : decode cX12_mixes 102 = .ok (.aload_n 0, 1) := oc_42 shX12_mixes_102
theorem dX12_mixes_103 : decode cX12_mixes 103 = .ok (.getfield 419, 3) := oc_180 shX12_mixes_103
theorem dX12_mixes_106 : decode cX12_mixes 106 = .ok (.idiv, 1) := oc_108 shX12_mixes_106
theorem dX12_mixes_107 : decode cX12_mixes 107 = .ok (.putfield 422, 3) := oc_181 shX12_mixes_107
theorem dX12_mixes_110 : decode cX12_mixes 110 = .ok (.aload_n 0, 1) := oc_42 shX12_mixes_110
theorem dX12_mixes_111 : decode cX12_mixes 111 = .ok (.aload_n 0, 1) := oc_42 shX12_mixes_111
theorem dX12_mixes_112 : decode cX12_mixes 112 = .ok (.getfield 419, 3) := oc_180 shX12_mixes_112
theorem dX12_mixes_115 : decode cX12_mixes 115 = .ok (.ifCond .ne 7, 3) := oc_154 shX12_mixes_115 sgw_0_7
theorem dX12_mixes_118 : decode cX12_mixes 118 = .ok (.iconst 0, 1) := oc_3 shX12_mixes_118
theorem dX12_mixes_119 : decode cX12_mixes 119 = .ok (.goto 9, 3) := oc_167 shX12_mixes_119 sgw_0_9
theorem dX12_mixes_122 : decode cX12_mixes 122 = .ok (.iload_n 3, 1) := oc_29 shX12_mixes_122
theorem dX12_mixes_123 : decode cX12_mixes 123 = .ok (.aload_n 0, 1) := oc_42 shX12_mixes_123
theorem dX12_mixes_124 : decode cX12_mixes 124 = .ok (.getfield 419, 3) := oc_180 shX12_mixes_124
theorem dX12_mixes_127 : decode cX12_mixes 127 = .ok (.idiv, 1) := oc_108 shX12_mixes_127
theorem dX12_mixes_128 : decode cX12_mixes 128 = .ok (.putfield 425, 3) := oc_181 shX12_mixes_128
theorem dX12_mixes_131 : decode cX12_mixes 131 = .ok (.return_, 1) := oc_177 shX12_mixes_131
noncomputable def sxX12_bits_26 : List UInt8 := []
noncomputable def sxX12_bits_25 : List UInt8 := 172 :: sxX12_bits_26
noncomputable def sxX12_bits_24 : List UInt8 := 27 :: sxX12_bits_25
noncomputable def sxX12_bits_21 : List UInt8 := 167 :: 255 :: 239 :: sxX12_bits_24
noncomputable def sxX12_bits_18 : List UInt8 := 132 :: 2 :: 1 :: sxX12_bits_21
noncomputable def sxX12_bits_17 : List UInt8 := 60 :: sxX12_bits_18
noncomputable def sxX12_bits_16 : List UInt8 := 96 :: sxX12_bits_17
noncomputable def sxX12_bits_15 : List UInt8 := 126 :: sxX12_bits_16
noncomputable def sxX12_bits_14 : List UInt8 := 4 :: sxX12_bits_15
noncomputable def sxX12_bits_13 : List UInt8 := 122 :: sxX12_bits_14
noncomputable def sxX12_bits_12 : List UInt8 := 28 :: sxX12_bits_13
noncomputable def sxX12_bits_11 : List UInt8 := 26 :: sxX12_bits_12
noncomputable def sxX12_bits_10 : List UInt8 := 27 :: sxX12_bits_11
noncomputable def sxX12_bits_7 : List UInt8 := 162 :: 0 :: 17 :: sxX12_bits_10
noncomputable def sxX12_bits_5 : List UInt8 := 16 :: 20 :: sxX12_bits_7
noncomputable def sxX12_bits_4 : List UInt8 := 28 :: sxX12_bits_5
noncomputable def sxX12_bits_3 : List UInt8 := 61 :: sxX12_bits_4
noncomputable def sxX12_bits_2 : List UInt8 := 3 :: sxX12_bits_3
noncomputable def sxX12_bits_1 : List UInt8 := 60 :: sxX12_bits_2
noncomputable def sxX12_bits_0 : List UInt8 := 3 :: sxX12_bits_1
theorem shX12_bits_0 : cX12_bits.data.toList.drop 0 = sxX12_bits_0 := rfl
theorem shX12_bits_1 : cX12_bits.data.toList.drop 1 = sxX12_bits_1 := dSn 1 shX12_bits_0
theorem shX12_bits_2 : cX12_bits.data.toList.drop 2 = sxX12_bits_2 := dSn 1 shX12_bits_1
theorem shX12_bits_3 : cX12_bits.data.toList.drop 3 = sxX12_bits_3 := dSn 1 shX12_bits_2
theorem shX12_bits_4 : cX12_bits.data.toList.drop 4 = sxX12_bits_4 := dSn 1 shX12_bits_3
theorem shX12_bits_5 : cX12_bits.data.toList.drop 5 = sxX12_bits_5 := dSn 1 shX12_bits_4
theorem shX12_bits_7 : cX12_bits.data.toList.drop 7 = sxX12_bits_7 := dSn 2 shX12_bits_5
theorem shX12_bits_10 : cX12_bits.data.toList.drop 10 = sxX12_bits_10 := dSn 3 shX12_bits_7
theorem shX12_bits_11 : cX12_bits.data.toList.drop 11 = sxX12_bits_11 := dSn 1 shX12_bits_10
theorem shX12_bits_12 : cX12_bits.data.toList.drop 12 = sxX12_bits_12 := dSn 1 shX12_bits_11
theorem shX12_bits_13 : cX12_bits.data.toList.drop 13 = sxX12_bits_13 := dSn 1 shX12_bits_12
theorem shX12_bits_14 : cX12_bits.data.toList.drop 14 = sxX12_bits_14 := dSn 1 shX12_bits_13
theorem shX12_bits_15 : cX12_bits.data.toList.drop 15 = sxX12_bits_15 := dSn 1 shX12_bits_14
theorem shX12_bits_16 : cX12_bits.data.toList.drop 16 = sxX12_bits_16 := dSn 1 shX12_bits_15
theorem shX12_bits_17 : cX12_bits.data.toList.drop 17 = sxX12_bits_17 := dSn 1 shX12_bits_16
theorem shX12_bits_18 : cX12_bits.data.toList.drop 18 = sxX12_bits_18 := dSn 1 shX12_bits_17
theorem shX12_bits_21 : cX12_bits.data.toList.drop 21 = sxX12_bits_21 := dSn 3 shX12_bits_18
theorem shX12_bits_24 : cX12_bits.data.toList.drop 24 = sxX12_bits_24 := dSn 3 shX12_bits_21
theorem shX12_bits_25 : cX12_bits.data.toList.drop 25 = sxX12_bits_25 := dSn 1 shX12_bits_24
theorem dX12_bits_0 : decode cX12_bits 0 = .ok (.iconst 0, 1) := oc_3 shX12_bits_0
theorem dX12_bits_1 : decode cX12_bits 1 = .ok (.istore_n 1, 1) := oc_60 shX12_bits_1
theorem dX12_bits_2 : decode cX12_bits 2 = .ok (.iconst 0, 1) := oc_3 shX12_bits_2
theorem dX12_bits_3 : decode cX12_bits 3 = .ok (.istore_n 2, 1) := oc_61 shX12_bits_3
theorem dX12_bits_4 : decode cX12_bits 4 = .ok (.iload_n 2, 1) := oc_28 shX12_bits_4
theorem dX12_bits_5 : decode cX12_bits 5 = .ok (.bipush 20, 2) := oc_16 shX12_bits_5 sgb_20
theorem dX12_bits_7 : decode cX12_bits 7 = .ok (.if_icmp .ge 17, 3) := oc_162 shX12_bits_7 sgw_0_17
theorem dX12_bits_10 : decode cX12_bits 10 = .ok (.iload_n 1, 1) := oc_27 shX12_bits_10
theorem dX12_bits_11 : decode cX12_bits 11 = .ok (.iload_n 0, 1) := oc_26 shX12_bits_11
theorem dX12_bits_12 : decode cX12_bits 12 = .ok (.iload_n 2, 1) := oc_28 shX12_bits_12
theorem dX12_bits_13 : decode cX12_bits 13 = .ok (.ishr, 1) := oc_122 shX12_bits_13
theorem dX12_bits_14 : decode cX12_bits 14 = .ok (.iconst 1, 1) := oc_4 shX12_bits_14
theorem dX12_bits_15 : decode cX12_bits 15 = .ok (.iand, 1) := oc_126 shX12_bits_15
theorem dX12_bits_16 : decode cX12_bits 16 = .ok (.iadd, 1) := oc_96 shX12_bits_16
theorem dX12_bits_17 : decode cX12_bits 17 = .ok (.istore_n 1, 1) := oc_60 shX12_bits_17
theorem dX12_bits_18 : decode cX12_bits 18 = .ok (.iinc 2 1, 3) := oc_132 shX12_bits_18 sgb_1
theorem dX12_bits_21 : decode cX12_bits 21 = .ok (.goto (-17), 3) := oc_167 shX12_bits_21 sgw_255_239
theorem dX12_bits_24 : decode cX12_bits 24 = .ok (.iload_n 1, 1) := oc_27 shX12_bits_24
theorem dX12_bits_25 : decode cX12_bits 25 = .ok (.ireturn, 1) := oc_172 shX12_bits_25
noncomputable def sxX12_whyNot_175 : List UInt8 := []
noncomputable def sxX12_whyNot_174 : List UInt8 := 172 :: sxX12_whyNot_175
noncomputable def sxX12_whyNot_173 : List UInt8 := 2 :: sxX12_whyNot_174
noncomputable def sxX12_whyNot_170 : List UInt8 := 167 :: 255 :: 214 :: sxX12_whyNot_173
noncomputable def sxX12_whyNot_167 : List UInt8 := 132 :: 2 :: 1 :: sxX12_whyNot_170
noncomputable def sxX12_whyNot_166 : List UInt8 := 172 :: sxX12_whyNot_167
noncomputable def sxX12_whyNot_165 : List UInt8 := 100 :: sxX12_whyNot_166
noncomputable def sxX12_whyNot_163 : List UInt8 := 16 :: 120 :: sxX12_whyNot_165
noncomputable def sxX12_whyNot_162 : List UInt8 := 28 :: sxX12_whyNot_163
noncomputable def sxX12_whyNot_159 : List UInt8 := 159 :: 0 :: 8 :: sxX12_whyNot_162
noncomputable def sxX12_whyNot_158 : List UInt8 := 4 :: sxX12_whyNot_159
noncomputable def sxX12_whyNot_155 : List UInt8 := 182 :: 1 :: 75 :: sxX12_whyNot_158
noncomputable def sxX12_whyNot_154 : List UInt8 := 46 :: sxX12_whyNot_155
noncomputable def sxX12_whyNot_153 : List UInt8 := 28 :: sxX12_whyNot_154
noncomputable def sxX12_whyNot_150 : List UInt8 := 180 :: 0 :: 83 :: sxX12_whyNot_153
noncomputable def sxX12_whyNot_149 : List UInt8 := 42 :: sxX12_whyNot_150
noncomputable def sxX12_whyNot_148 : List UInt8 := 46 :: sxX12_whyNot_149
noncomputable def sxX12_whyNot_147 : List UInt8 := 28 :: sxX12_whyNot_148
noncomputable def sxX12_whyNot_144 : List UInt8 := 180 :: 0 :: 80 :: sxX12_whyNot_147
noncomputable def sxX12_whyNot_143 : List UInt8 := 42 :: sxX12_whyNot_144
noncomputable def sxX12_whyNot_142 : List UInt8 := 42 :: sxX12_whyNot_143
noncomputable def sxX12_whyNot_139 : List UInt8 := 162 :: 0 :: 34 :: sxX12_whyNot_142
noncomputable def sxX12_whyNot_138 : List UInt8 := 96 :: sxX12_whyNot_139
noncomputable def sxX12_whyNot_137 : List UInt8 := 46 :: sxX12_whyNot_138
noncomputable def sxX12_whyNot_135 : List UInt8 := 16 :: 10 :: sxX12_whyNot_137
noncomputable def sxX12_whyNot_132 : List UInt8 := 180 :: 0 :: 74 :: sxX12_whyNot_135
noncomputable def sxX12_whyNot_131 : List UInt8 := 42 :: sxX12_whyNot_132
noncomputable def sxX12_whyNot_129 : List UInt8 := 16 :: 120 :: sxX12_whyNot_131
noncomputable def sxX12_whyNot_128 : List UInt8 := 28 :: sxX12_whyNot_129
noncomputable def sxX12_whyNot_127 : List UInt8 := 61 :: sxX12_whyNot_128
noncomputable def sxX12_whyNot_125 : List UInt8 := 16 :: 120 :: sxX12_whyNot_127
noncomputable def sxX12_whyNot_124 : List UInt8 := 79 :: sxX12_whyNot_125
noncomputable def sxX12_whyNot_121 : List UInt8 := 184 :: 1 :: 175 :: sxX12_whyNot_124
noncomputable def sxX12_whyNot_120 : List UInt8 := 27 :: sxX12_whyNot_121
noncomputable def sxX12_whyNot_118 : List UInt8 := 16 :: 10 :: sxX12_whyNot_120
noncomputable def sxX12_whyNot_115 : List UInt8 := 180 :: 0 :: 89 :: sxX12_whyNot_118
noncomputable def sxX12_whyNot_114 : List UInt8 := 42 :: sxX12_whyNot_115
noncomputable def sxX12_whyNot_113 : List UInt8 := 79 :: sxX12_whyNot_114
noncomputable def sxX12_whyNot_112 : List UInt8 := 46 :: sxX12_whyNot_113
noncomputable def sxX12_whyNot_111 : List UInt8 := 108 :: sxX12_whyNot_112
noncomputable def sxX12_whyNot_109 : List UInt8 := 16 :: 7 :: sxX12_whyNot_111
noncomputable def sxX12_whyNot_106 : List UInt8 := 180 :: 0 :: 211 :: sxX12_whyNot_109
noncomputable def sxX12_whyNot_105 : List UInt8 := 42 :: sxX12_whyNot_106
noncomputable def sxX12_whyNot_102 : List UInt8 := 180 :: 0 :: 92 :: sxX12_whyNot_105
noncomputable def sxX12_whyNot_101 : List UInt8 := 42 :: sxX12_whyNot_102
noncomputable def sxX12_whyNot_99 : List UInt8 := 16 :: 9 :: sxX12_whyNot_101
noncomputable def sxX12_whyNot_96 : List UInt8 := 180 :: 0 :: 89 :: sxX12_whyNot_99
noncomputable def sxX12_whyNot_95 : List UInt8 := 42 :: sxX12_whyNot_96
noncomputable def sxX12_whyNot_94 : List UInt8 := 79 :: sxX12_whyNot_95
noncomputable def sxX12_whyNot_93 : List UInt8 := 3 :: sxX12_whyNot_94
noncomputable def sxX12_whyNot_91 : List UInt8 := 16 :: 8 :: sxX12_whyNot_93
noncomputable def sxX12_whyNot_88 : List UInt8 := 180 :: 0 :: 89 :: sxX12_whyNot_91
noncomputable def sxX12_whyNot_87 : List UInt8 := 42 :: sxX12_whyNot_88
noncomputable def sxX12_whyNot_86 : List UInt8 := 79 :: sxX12_whyNot_87
noncomputable def sxX12_whyNot_85 : List UInt8 := 3 :: sxX12_whyNot_86
noncomputable def sxX12_whyNot_83 : List UInt8 := 16 :: 7 :: sxX12_whyNot_85
noncomputable def sxX12_whyNot_80 : List UInt8 := 180 :: 0 :: 89 :: sxX12_whyNot_83
noncomputable def sxX12_whyNot_79 : List UInt8 := 42 :: sxX12_whyNot_80
noncomputable def sxX12_whyNot_78 : List UInt8 := 79 :: sxX12_whyNot_79
noncomputable def sxX12_whyNot_77 : List UInt8 := 3 :: sxX12_whyNot_78
noncomputable def sxX12_whyNot_75 : List UInt8 := 16 :: 6 :: sxX12_whyNot_77
noncomputable def sxX12_whyNot_72 : List UInt8 := 180 :: 0 :: 89 :: sxX12_whyNot_75
noncomputable def sxX12_whyNot_71 : List UInt8 := 42 :: sxX12_whyNot_72
noncomputable def sxX12_whyNot_70 : List UInt8 := 79 :: sxX12_whyNot_71
noncomputable def sxX12_whyNot_69 : List UInt8 := 112 :: sxX12_whyNot_70
noncomputable def sxX12_whyNot_67 : List UInt8 := 16 :: 7 :: sxX12_whyNot_69
noncomputable def sxX12_whyNot_64 : List UInt8 := 180 :: 0 :: 211 :: sxX12_whyNot_67
noncomputable def sxX12_whyNot_63 : List UInt8 := 42 :: sxX12_whyNot_64
noncomputable def sxX12_whyNot_62 : List UInt8 := 8 :: sxX12_whyNot_63
noncomputable def sxX12_whyNot_59 : List UInt8 := 180 :: 0 :: 89 :: sxX12_whyNot_62
noncomputable def sxX12_whyNot_58 : List UInt8 := 42 :: sxX12_whyNot_59
noncomputable def sxX12_whyNot_57 : List UInt8 := 79 :: sxX12_whyNot_58
noncomputable def sxX12_whyNot_56 : List UInt8 := 108 :: sxX12_whyNot_57
noncomputable def sxX12_whyNot_54 : List UInt8 := 16 :: 7 :: sxX12_whyNot_56
noncomputable def sxX12_whyNot_51 : List UInt8 := 180 :: 0 :: 211 :: sxX12_whyNot_54
noncomputable def sxX12_whyNot_50 : List UInt8 := 42 :: sxX12_whyNot_51
noncomputable def sxX12_whyNot_49 : List UInt8 := 7 :: sxX12_whyNot_50
noncomputable def sxX12_whyNot_46 : List UInt8 := 180 :: 0 :: 89 :: sxX12_whyNot_49
noncomputable def sxX12_whyNot_45 : List UInt8 := 42 :: sxX12_whyNot_46
noncomputable def sxX12_whyNot_44 : List UInt8 := 79 :: sxX12_whyNot_45
noncomputable def sxX12_whyNot_41 : List UInt8 := 180 :: 0 :: 211 :: sxX12_whyNot_44
noncomputable def sxX12_whyNot_40 : List UInt8 := 42 :: sxX12_whyNot_41
noncomputable def sxX12_whyNot_39 : List UInt8 := 6 :: sxX12_whyNot_40
noncomputable def sxX12_whyNot_36 : List UInt8 := 180 :: 0 :: 89 :: sxX12_whyNot_39
noncomputable def sxX12_whyNot_35 : List UInt8 := 42 :: sxX12_whyNot_36
noncomputable def sxX12_whyNot_34 : List UInt8 := 79 :: sxX12_whyNot_35
noncomputable def sxX12_whyNot_31 : List UInt8 := 180 :: 1 :: 169 :: sxX12_whyNot_34
noncomputable def sxX12_whyNot_30 : List UInt8 := 42 :: sxX12_whyNot_31
noncomputable def sxX12_whyNot_29 : List UInt8 := 5 :: sxX12_whyNot_30
noncomputable def sxX12_whyNot_26 : List UInt8 := 180 :: 0 :: 89 :: sxX12_whyNot_29
noncomputable def sxX12_whyNot_25 : List UInt8 := 42 :: sxX12_whyNot_26
noncomputable def sxX12_whyNot_24 : List UInt8 := 79 :: sxX12_whyNot_25
noncomputable def sxX12_whyNot_21 : List UInt8 := 180 :: 1 :: 166 :: sxX12_whyNot_24
noncomputable def sxX12_whyNot_20 : List UInt8 := 42 :: sxX12_whyNot_21
noncomputable def sxX12_whyNot_19 : List UInt8 := 4 :: sxX12_whyNot_20
noncomputable def sxX12_whyNot_16 : List UInt8 := 180 :: 0 :: 89 :: sxX12_whyNot_19
noncomputable def sxX12_whyNot_15 : List UInt8 := 42 :: sxX12_whyNot_16
noncomputable def sxX12_whyNot_14 : List UInt8 := 79 :: sxX12_whyNot_15
noncomputable def sxX12_whyNot_11 : List UInt8 := 180 :: 1 :: 163 :: sxX12_whyNot_14
noncomputable def sxX12_whyNot_10 : List UInt8 := 42 :: sxX12_whyNot_11
noncomputable def sxX12_whyNot_9 : List UInt8 := 3 :: sxX12_whyNot_10
noncomputable def sxX12_whyNot_6 : List UInt8 := 180 :: 0 :: 89 :: sxX12_whyNot_9
noncomputable def sxX12_whyNot_5 : List UInt8 := 42 :: sxX12_whyNot_6
noncomputable def sxX12_whyNot_2 : List UInt8 := 182 :: 1 :: 172 :: sxX12_whyNot_5
noncomputable def sxX12_whyNot_1 : List UInt8 := 27 :: sxX12_whyNot_2
noncomputable def sxX12_whyNot_0 : List UInt8 := 42 :: sxX12_whyNot_1
theorem shX12_whyNot_0 : cX12_whyNot.data.toList.drop 0 = sxX12_whyNot_0 := rfl
theorem shX12_whyNot_1 : cX12_whyNot.data.toList.drop 1 = sxX12_whyNot_1 := dSn 1 shX12_whyNot_0
theorem shX12_whyNot_2 : cX12_whyNot.data.toList.drop 2 = sxX12_whyNot_2 := dSn 1 shX12_whyNot_1
theorem shX12_whyNot_5 : cX12_whyNot.data.toList.drop 5 = sxX12_whyNot_5 := dSn 3 shX12_whyNot_2
theorem shX12_whyNot_6 : cX12_whyNot.data.toList.drop 6 = sxX12_whyNot_6 := dSn 1 shX12_whyNot_5
theorem shX12_whyNot_9 : cX12_whyNot.data.toList.drop 9 = sxX12_whyNot_9 := dSn 3 shX12_whyNot_6
theorem shX12_whyNot_10 : cX12_whyNot.data.toList.drop 10 = sxX12_whyNot_10 := dSn 1 shX12_whyNot_9
theorem shX12_whyNot_11 : cX12_whyNot.data.toList.drop 11 = sxX12_whyNot_11 := dSn 1 shX12_whyNot_10
theorem shX12_whyNot_14 : cX12_whyNot.data.toList.drop 14 = sxX12_whyNot_14 := dSn 3 shX12_whyNot_11
theorem shX12_whyNot_15 : cX12_whyNot.data.toList.drop 15 = sxX12_whyNot_15 := dSn 1 shX12_whyNot_14
theorem shX12_whyNot_16 : cX12_whyNot.data.toList.drop 16 = sxX12_whyNot_16 := dSn 1 shX12_whyNot_15
theorem shX12_whyNot_19 : cX12_whyNot.data.toList.drop 19 = sxX12_whyNot_19 := dSn 3 shX12_whyNot_16
theorem shX12_whyNot_20 : cX12_whyNot.data.toList.drop 20 = sxX12_whyNot_20 := dSn 1 shX12_whyNot_19
theorem shX12_whyNot_21 : cX12_whyNot.data.toList.drop 21 = sxX12_whyNot_21 := dSn 1 shX12_whyNot_20
theorem shX12_whyNot_24 : cX12_whyNot.data.toList.drop 24 = sxX12_whyNot_24 := dSn 3 shX12_whyNot_21
theorem shX12_whyNot_25 : cX12_whyNot.data.toList.drop 25 = sxX12_whyNot_25 := dSn 1 shX12_whyNot_24
theorem shX12_whyNot_26 : cX12_whyNot.data.toList.drop 26 = sxX12_whyNot_26 := dSn 1 shX12_whyNot_25
theorem shX12_whyNot_29 : cX12_whyNot.data.toList.drop 29 = sxX12_whyNot_29 := dSn 3 shX12_whyNot_26
theorem shX12_whyNot_30 : cX12_whyNot.data.toList.drop 30 = sxX12_whyNot_30 := dSn 1 shX12_whyNot_29
theorem shX12_whyNot_31 : cX12_whyNot.data.toList.drop 31 = sxX12_whyNot_31 := dSn 1 shX12_whyNot_30
theorem shX12_whyNot_34 : cX12_whyNot.data.toList.drop 34 = sxX12_whyNot_34 := dSn 3 shX12_whyNot_31
theorem shX12_whyNot_35 : cX12_whyNot.data.toList.drop 35 = sxX12_whyNot_35 := dSn 1 shX12_whyNot_34
theorem shX12_whyNot_36 : cX12_whyNot.data.toList.drop 36 = sxX12_whyNot_36 := dSn 1 shX12_whyNot_35
theorem shX12_whyNot_39 : cX12_whyNot.data.toList.drop 39 = sxX12_whyNot_39 := dSn 3 shX12_whyNot_36
theorem shX12_whyNot_40 : cX12_whyNot.data.toList.drop 40 = sxX12_whyNot_40 := dSn 1 shX12_whyNot_39
theorem shX12_whyNot_41 : cX12_whyNot.data.toList.drop 41 = sxX12_whyNot_41 := dSn 1 shX12_whyNot_40
theorem shX12_whyNot_44 : cX12_whyNot.data.toList.drop 44 = sxX12_whyNot_44 := dSn 3 shX12_whyNot_41
theorem shX12_whyNot_45 : cX12_whyNot.data.toList.drop 45 = sxX12_whyNot_45 := dSn 1 shX12_whyNot_44
theorem shX12_whyNot_46 : cX12_whyNot.data.toList.drop 46 = sxX12_whyNot_46 := dSn 1 shX12_whyNot_45
theorem shX12_whyNot_49 : cX12_whyNot.data.toList.drop 49 = sxX12_whyNot_49 := dSn 3 shX12_whyNot_46
theorem shX12_whyNot_50 : cX12_whyNot.data.toList.drop 50 = sxX12_whyNot_50 := dSn 1 shX12_whyNot_49
theorem shX12_whyNot_51 : cX12_whyNot.data.toList.drop 51 = sxX12_whyNot_51 := dSn 1 shX12_whyNot_50
theorem shX12_whyNot_54 : cX12_whyNot.data.toList.drop 54 = sxX12_whyNot_54 := dSn 3 shX12_whyNot_51
theorem shX12_whyNot_56 : cX12_whyNot.data.toList.drop 56 = sxX12_whyNot_56 := dSn 2 shX12_whyNot_54
theorem shX12_whyNot_57 : cX12_whyNot.data.toList.drop 57 = sxX12_whyNot_57 := dSn 1 shX12_whyNot_56
theorem shX12_whyNot_58 : cX12_whyNot.data.toList.drop 58 = sxX12_whyNot_58 := dSn 1 shX12_whyNot_57
theorem shX12_whyNot_59 : cX12_whyNot.data.toList.drop 59 = sxX12_whyNot_59 := dSn 1 shX12_whyNot_58
theorem shX12_whyNot_62 : cX12_whyNot.data.toList.drop 62 = sxX12_whyNot_62 := dSn 3 shX12_whyNot_59
theorem shX12_whyNot_63 : cX12_whyNot.data.toList.drop 63 = sxX12_whyNot_63 := dSn 1 shX12_whyNot_62
theorem shX12_whyNot_64 : cX12_whyNot.data.toList.drop 64 = sxX12_whyNot_64 := dSn 1 shX12_whyNot_63
theorem shX12_whyNot_67 : cX12_whyNot.data.toList.drop 67 = sxX12_whyNot_67 := dSn 3 shX12_whyNot_64
theorem shX12_whyNot_69 : cX12_whyNot.data.toList.drop 69 = sxX12_whyNot_69 := dSn 2 shX12_whyNot_67
theorem shX12_whyNot_70 : cX12_whyNot.data.toList.drop 70 = sxX12_whyNot_70 := dSn 1 shX12_whyNot_69
theorem shX12_whyNot_71 : cX12_whyNot.data.toList.drop 71 = sxX12_whyNot_71 := dSn 1 shX12_whyNot_70
theorem shX12_whyNot_72 : cX12_whyNot.data.toList.drop 72 = sxX12_whyNot_72 := dSn 1 shX12_whyNot_71
theorem shX12_whyNot_75 : cX12_whyNot.data.toList.drop 75 = sxX12_whyNot_75 := dSn 3 shX12_whyNot_72
theorem shX12_whyNot_77 : cX12_whyNot.data.toList.drop 77 = sxX12_whyNot_77 := dSn 2 shX12_whyNot_75
theorem shX12_whyNot_78 : cX12_whyNot.data.toList.drop 78 = sxX12_whyNot_78 := dSn 1 shX12_whyNot_77
theorem shX12_whyNot_79 : cX12_whyNot.data.toList.drop 79 = sxX12_whyNot_79 := dSn 1 shX12_whyNot_78
theorem shX12_whyNot_80 : cX12_whyNot.data.toList.drop 80 = sxX12_whyNot_80 := dSn 1 shX12_whyNot_79
theorem shX12_whyNot_83 : cX12_whyNot.data.toList.drop 83 = sxX12_whyNot_83 := dSn 3 shX12_whyNot_80
theorem shX12_whyNot_85 : cX12_whyNot.data.toList.drop 85 = sxX12_whyNot_85 := dSn 2 shX12_whyNot_83
theorem shX12_whyNot_86 : cX12_whyNot.data.toList.drop 86 = sxX12_whyNot_86 := dSn 1 shX12_whyNot_85
theorem shX12_whyNot_87 : cX12_whyNot.data.toList.drop 87 = sxX12_whyNot_87 := dSn 1 shX12_whyNot_86
theorem shX12_whyNot_88 : cX12_whyNot.data.toList.drop 88 = sxX12_whyNot_88 := dSn 1 shX12_whyNot_87
theorem shX12_whyNot_91 : cX12_whyNot.data.toList.drop 91 = sxX12_whyNot_91 := dSn 3 shX12_whyNot_88
theorem shX12_whyNot_93 : cX12_whyNot.data.toList.drop 93 = sxX12_whyNot_93 := dSn 2 shX12_whyNot_91
theorem shX12_whyNot_94 : cX12_whyNot.data.toList.drop 94 = sxX12_whyNot_94 := dSn 1 shX12_whyNot_93
theorem shX12_whyNot_95 : cX12_whyNot.data.toList.drop 95 = sxX12_whyNot_95 := dSn 1 shX12_whyNot_94
theorem shX12_whyNot_96 : cX12_whyNot.data.toList.drop 96 = sxX12_whyNot_96 := dSn 1 shX12_whyNot_95
theorem shX12_whyNot_99 : cX12_whyNot.data.toList.drop 99 = sxX12_whyNot_99 := dSn 3 shX12_whyNot_96
theorem shX12_whyNot_101 : cX12_whyNot.data.toList.drop 101 = sxX12_whyNot_101 := dSn 2 shX12_whyNot_99
theorem shX12_whyNot_102 : cX12_whyNot.data.toList.drop 102 = sxX12_whyNot_102 := dSn 1 shX12_whyNot_101
theorem shX12_whyNot_105 : cX12_whyNot.data.toList.drop 105 = sxX12_whyNot_105 := dSn 3 shX12_whyNot_102
theorem shX12_whyNot_106 : cX12_whyNot.data.toList.drop 106 = sxX12_whyNot_106 := dSn 1 shX12_whyNot_105
theorem shX12_whyNot_109 : cX12_whyNot.data.toList.drop 109 = sxX12_whyNot_109 := dSn 3 shX12_whyNot_106
theorem shX12_whyNot_111 : cX12_whyNot.data.toList.drop 111 = sxX12_whyNot_111 := dSn 2 shX12_whyNot_109
theorem shX12_whyNot_112 : cX12_whyNot.data.toList.drop 112 = sxX12_whyNot_112 := dSn 1 shX12_whyNot_111
theorem shX12_whyNot_113 : cX12_whyNot.data.toList.drop 113 = sxX12_whyNot_113 := dSn 1 shX12_whyNot_112
theorem shX12_whyNot_114 : cX12_whyNot.data.toList.drop 114 = sxX12_whyNot_114 := dSn 1 shX12_whyNot_113
theorem shX12_whyNot_115 : cX12_whyNot.data.toList.drop 115 = sxX12_whyNot_115 := dSn 1 shX12_whyNot_114
theorem shX12_whyNot_118 : cX12_whyNot.data.toList.drop 118 = sxX12_whyNot_118 := dSn 3 shX12_whyNot_115
theorem shX12_whyNot_120 : cX12_whyNot.data.toList.drop 120 = sxX12_whyNot_120 := dSn 2 shX12_whyNot_118
theorem shX12_whyNot_121 : cX12_whyNot.data.toList.drop 121 = sxX12_whyNot_121 := dSn 1 shX12_whyNot_120
theorem shX12_whyNot_124 : cX12_whyNot.data.toList.drop 124 = sxX12_whyNot_124 := dSn 3 shX12_whyNot_121
theorem shX12_whyNot_125 : cX12_whyNot.data.toList.drop 125 = sxX12_whyNot_125 := dSn 1 shX12_whyNot_124
theorem shX12_whyNot_127 : cX12_whyNot.data.toList.drop 127 = sxX12_whyNot_127 := dSn 2 shX12_whyNot_125
theorem shX12_whyNot_128 : cX12_whyNot.data.toList.drop 128 = sxX12_whyNot_128 := dSn 1 shX12_whyNot_127
theorem shX12_whyNot_129 : cX12_whyNot.data.toList.drop 129 = sxX12_whyNot_129 := dSn 1 shX12_whyNot_128
theorem shX12_whyNot_131 : cX12_whyNot.data.toList.drop 131 = sxX12_whyNot_131 := dSn 2 shX12_whyNot_129
theorem shX12_whyNot_132 : cX12_whyNot.data.toList.drop 132 = sxX12_whyNot_132 := dSn 1 shX12_whyNot_131
theorem shX12_whyNot_135 : cX12_whyNot.data.toList.drop 135 = sxX12_whyNot_135 := dSn 3 shX12_whyNot_132
theorem shX12_whyNot_137 : cX12_whyNot.data.toList.drop 137 = sxX12_whyNot_137 := dSn 2 shX12_whyNot_135
theorem shX12_whyNot_138 : cX12_whyNot.data.toList.drop 138 = sxX12_whyNot_138 := dSn 1 shX12_whyNot_137
theorem shX12_whyNot_139 : cX12_whyNot.data.toList.drop 139 = sxX12_whyNot_139 := dSn 1 shX12_whyNot_138
theorem shX12_whyNot_142 : cX12_whyNot.data.toList.drop 142 = sxX12_whyNot_142 := dSn 3 shX12_whyNot_139
theorem shX12_whyNot_143 : cX12_whyNot.data.toList.drop 143 = sxX12_whyNot_143 := dSn 1 shX12_whyNot_142
theorem shX12_whyNot_144 : cX12_whyNot.data.toList.drop 144 = sxX12_whyNot_144 := dSn 1 shX12_whyNot_143
theorem shX12_whyNot_147 : cX12_whyNot.data.toList.drop 147 = sxX12_whyNot_147 := dSn 3 shX12_whyNot_144
theorem shX12_whyNot_148 : cX12_whyNot.data.toList.drop 148 = sxX12_whyNot_148 := dSn 1 shX12_whyNot_147
theorem shX12_whyNot_149 : cX12_whyNot.data.toList.drop 149 = sxX12_whyNot_149 := dSn 1 shX12_whyNot_148
theorem shX12_whyNot_150 : cX12_whyNot.data.toList.drop 150 = sxX12_whyNot_150 := dSn 1 shX12_whyNot_149
theorem shX12_whyNot_153 : cX12_whyNot.data.toList.drop 153 = sxX12_whyNot_153 := dSn 3 shX12_whyNot_150
theorem shX12_whyNot_154 : cX12_whyNot.data.toList.drop 154 = sxX12_whyNot_154 := dSn 1 shX12_whyNot_153
theorem shX12_whyNot_155 : cX12_whyNot.data.toList.drop 155 = sxX12_whyNot_155 := dSn 1 shX12_whyNot_154
theorem shX12_whyNot_158 : cX12_whyNot.data.toList.drop 158 = sxX12_whyNot_158 := dSn 3 shX12_whyNot_155
theorem shX12_whyNot_159 : cX12_whyNot.data.toList.drop 159 = sxX12_whyNot_159 := dSn 1 shX12_whyNot_158
theorem shX12_whyNot_162 : cX12_whyNot.data.toList.drop 162 = sxX12_whyNot_162 := dSn 3 shX12_whyNot_159
theorem shX12_whyNot_163 : cX12_whyNot.data.toList.drop 163 = sxX12_whyNot_163 := dSn 1 shX12_whyNot_162
theorem shX12_whyNot_165 : cX12_whyNot.data.toList.drop 165 = sxX12_whyNot_165 := dSn 2 shX12_whyNot_163
theorem shX12_whyNot_166 : cX12_whyNot.data.toList.drop 166 = sxX12_whyNot_166 := dSn 1 shX12_whyNot_165
theorem shX12_whyNot_167 : cX12_whyNot.data.toList.drop 167 = sxX12_whyNot_167 := dSn 1 shX12_whyNot_166
theorem shX12_whyNot_170 : cX12_whyNot.data.toList.drop 170 = sxX12_whyNot_170 := dSn 3 shX12_whyNot_167
theorem shX12_whyNot_173 : cX12_whyNot.data.toList.drop 173 = sxX12_whyNot_173 := dSn 3 shX12_whyNot_170
theorem shX12_whyNot_174 : cX12_whyNot.data.toList.drop 174 = sxX12_whyNot_174 := dSn 1 shX12_whyNot_173
theorem dX12_whyNot_0 : decode cX12_whyNot 0 = .ok (.aload_n 0, 1) := oc_42 shX12_whyNot_0
theorem dX12_whyNot_1 : decode cX12_whyNot 1 = .ok (.iload_n 1, 1) := oc_27 shX12_whyNot_1
theorem dX12_whyNot_2 : decode cX12_whyNot 2 = .ok (.invokevirtual 428, 3) := oc_182 shX12_whyNot_2
theorem dX12_whyNot_5 : decode cX12_whyNot 5 = .ok (.aload_n 0, 1) := oc_42 shX12_whyNot_5
theorem dX12_whyNot_6 : decode cX12_whyNot 6 = .ok (.getfield 89, 3) := oc_180 shX12_whyNot_6
theorem dX12_whyNot_9 : decode cX12_whyNot 9 = .ok (.iconst 0, 1) := oc_3 shX12_whyNot_9
theorem dX12_whyNot_10 : decode cX12_whyNot 10 = .ok (.aload_n 0, 1) := oc_42 shX12_whyNot_10
theorem dX12_whyNot_11 : decode cX12_whyNot 11 = .ok (.getfield 419, 3) := oc_180 shX12_whyNot_11
theorem dX12_whyNot_14 : decode cX12_whyNot 14 = .ok (.iastore, 1) := oc_79 shX12_whyNot_14
theorem dX12_whyNot_15 : decode cX12_whyNot 15 = .ok (.aload_n 0, 1) := oc_42 shX12_whyNot_15
theorem dX12_whyNot_16 : decode cX12_whyNot 16 = .ok (.getfield 89, 3) := oc_180 shX12_whyNot_16
theorem dX12_whyNot_19 : decode cX12_whyNot 19 = .ok (.iconst 1, 1) := oc_4 shX12_whyNot_19
theorem dX12_whyNot_20 : decode cX12_whyNot 20 = .ok (.aload_n 0, 1) := oc_42 shX12_whyNot_20
theorem dX12_whyNot_21 : decode cX12_whyNot 21 = .ok (.getfield 422, 3) := oc_180 shX12_whyNot_21
theorem dX12_whyNot_24 : decode cX12_whyNot 24 = .ok (.iastore, 1) := oc_79 shX12_whyNot_24
theorem dX12_whyNot_25 : decode cX12_whyNot 25 = .ok (.aload_n 0, 1) := oc_42 shX12_whyNot_25
theorem dX12_whyNot_26 : decode cX12_whyNot 26 = .ok (.getfield 89, 3) := oc_180 shX12_whyNot_26
theorem dX12_whyNot_29 : decode cX12_whyNot 29 = .ok (.iconst 2, 1) := oc_5 shX12_whyNot_29
theorem dX12_whyNot_30 : decode cX12_whyNot 30 = .ok (.aload_n 0, 1) := oc_42 shX12_whyNot_30
theorem dX12_whyNot_31 : decode cX12_whyNot 31 = .ok (.getfield 425, 3) := oc_180 shX12_whyNot_31
theorem dX12_whyNot_34 : decode cX12_whyNot 34 = .ok (.iastore, 1) := oc_79 shX12_whyNot_34
theorem dX12_whyNot_35 : decode cX12_whyNot 35 = .ok (.aload_n 0, 1) := oc_42 shX12_whyNot_35
theorem dX12_whyNot_36 : decode cX12_whyNot 36 = .ok (.getfield 89, 3) := oc_180 shX12_whyNot_36
theorem dX12_whyNot_39 : decode cX12_whyNot 39 = .ok (.iconst 3, 1) := oc_6 shX12_whyNot_39
theorem dX12_whyNot_40 : decode cX12_whyNot 40 = .ok (.aload_n 0, 1) := oc_42 shX12_whyNot_40
theorem dX12_whyNot_41 : decode cX12_whyNot 41 = .ok (.getfield 211, 3) := oc_180 shX12_whyNot_41
theorem dX12_whyNot_44 : decode cX12_whyNot 44 = .ok (.iastore, 1) := oc_79 shX12_whyNot_44
theorem dX12_whyNot_45 : decode cX12_whyNot 45 = .ok (.aload_n 0, 1) := oc_42 shX12_whyNot_45
theorem dX12_whyNot_46 : decode cX12_whyNot 46 = .ok (.getfield 89, 3) := oc_180 shX12_whyNot_46
theorem dX12_whyNot_49 : decode cX12_whyNot 49 = .ok (.iconst 4, 1) := oc_7 shX12_whyNot_49
theorem dX12_whyNot_50 : decode cX12_whyNot 50 = .ok (.aload_n 0, 1) := oc_42 shX12_whyNot_50
theorem dX12_whyNot_51 : decode cX12_whyNot 51 = .ok (.getfield 211, 3) := oc_180 shX12_whyNot_51
theorem dX12_whyNot_54 : decode cX12_whyNot 54 = .ok (.bipush 7, 2) := oc_16 shX12_whyNot_54 sgb_7
theorem dX12_whyNot_56 : decode cX12_whyNot 56 = .ok (.idiv, 1) := oc_108 shX12_whyNot_56
theorem dX12_whyNot_57 : decode cX12_whyNot 57 = .ok (.iastore, 1) := oc_79 shX12_whyNot_57
theorem dX12_whyNot_58 : decode cX12_whyNot 58 = .ok (.aload_n 0, 1) := oc_42 shX12_whyNot_58
theorem dX12_whyNot_59 : decode cX12_whyNot 59 = .ok (.getfield 89, 3) := oc_180 shX12_whyNot_59
theorem dX12_whyNot_62 : decode cX12_whyNot 62 = .ok (.iconst 5, 1) := oc_8 shX12_whyNot_62
theorem dX12_whyNot_63 : decode cX12_whyNot 63 = .ok (.aload_n 0, 1) := oc_42 shX12_whyNot_63
theorem dX12_whyNot_64 : decode cX12_whyNot 64 = .ok (.getfield 211, 3) := oc_180 shX12_whyNot_64
theorem dX12_whyNot_67 : decode cX12_whyNot 67 = .ok (.bipush 7, 2) := oc_16 shX12_whyNot_67 sgb_7
theorem dX12_whyNot_69 : decode cX12_whyNot 69 = .ok (.irem, 1) := oc_112 shX12_whyNot_69
theorem dX12_whyNot_70 : decode cX12_whyNot 70 = .ok (.iastore, 1) := oc_79 shX12_whyNot_70
theorem dX12_whyNot_71 : decode cX12_whyNot 71 = .ok (.aload_n 0, 1) := oc_42 shX12_whyNot_71
theorem dX12_whyNot_72 : decode cX12_whyNot 72 = .ok (.getfield 89, 3) := oc_180 shX12_whyNot_72
theorem dX12_whyNot_75 : decode cX12_whyNot 75 = .ok (.bipush 6, 2) := oc_16 shX12_whyNot_75 sgb_6
theorem dX12_whyNot_77 : decode cX12_whyNot 77 = .ok (.iconst 0, 1) := oc_3 shX12_whyNot_77
theorem dX12_whyNot_78 : decode cX12_whyNot 78 = .ok (.iastore, 1) := oc_79 shX12_whyNot_78
theorem dX12_whyNot_79 : decode cX12_whyNot 79 = .ok (.aload_n 0, 1) := oc_42 shX12_whyNot_79
theorem dX12_whyNot_80 : decode cX12_whyNot 80 = .ok (.getfield 89, 3) := oc_180 shX12_whyNot_80
theorem dX12_whyNot_83 : decode cX12_whyNot 83 = .ok (.bipush 7, 2) := oc_16 shX12_whyNot_83 sgb_7
theorem dX12_whyNot_85 : decode cX12_whyNot 85 = .ok (.iconst 0, 1) := oc_3 shX12_whyNot_85
theorem dX12_whyNot_86 : decode cX12_whyNot 86 = .ok (.iastore, 1) := oc_79 shX12_whyNot_86
theorem dX12_whyNot_87 : decode cX12_whyNot 87 = .ok (.aload_n 0, 1) := oc_42 shX12_whyNot_87
theorem dX12_whyNot_88 : decode cX12_whyNot 88 = .ok (.getfield 89, 3) := oc_180 shX12_whyNot_88
theorem dX12_whyNot_91 : decode cX12_whyNot 91 = .ok (.bipush 8, 2) := oc_16 shX12_whyNot_91 sgb_8
theorem dX12_whyNot_93 : decode cX12_whyNot 93 = .ok (.iconst 0, 1) := oc_3 shX12_whyNot_93
theorem dX12_whyNot_94 : decode cX12_whyNot 94 = .ok (.iastore, 1) := oc_79 shX12_whyNot_94
theorem dX12_whyNot_95 : decode cX12_whyNot 95 = .ok (.aload_n 0, 1) := oc_42 shX12_whyNot_95
theorem dX12_whyNot_96 : decode cX12_whyNot 96 = .ok (.getfield 89, 3) := oc_180 shX12_whyNot_96
theorem dX12_whyNot_99 : decode cX12_whyNot 99 = .ok (.bipush 9, 2) := oc_16 shX12_whyNot_99 sgb_9
theorem dX12_whyNot_101 : decode cX12_whyNot 101 = .ok (.aload_n 0, 1) := oc_42 shX12_whyNot_101
theorem dX12_whyNot_102 : decode cX12_whyNot 102 = .ok (.getfield 92, 3) := oc_180 shX12_whyNot_102
theorem dX12_whyNot_105 : decode cX12_whyNot 105 = .ok (.aload_n 0, 1) := oc_42 shX12_whyNot_105
theorem dX12_whyNot_106 : decode cX12_whyNot 106 = .ok (.getfield 211, 3) := oc_180 shX12_whyNot_106
theorem dX12_whyNot_109 : decode cX12_whyNot 109 = .ok (.bipush 7, 2) := oc_16 shX12_whyNot_109 sgb_7
theorem dX12_whyNot_111 : decode cX12_whyNot 111 = .ok (.idiv, 1) := oc_108 shX12_whyNot_111
theorem dX12_whyNot_112 : decode cX12_whyNot 112 = .ok (.iaload, 1) := oc_46 shX12_whyNot_112
theorem dX12_whyNot_113 : decode cX12_whyNot 113 = .ok (.iastore, 1) := oc_79 shX12_whyNot_113
theorem dX12_whyNot_114 : decode cX12_whyNot 114 = .ok (.aload_n 0, 1) := oc_42 shX12_whyNot_114
theorem dX12_whyNot_115 : decode cX12_whyNot 115 = .ok (.getfield 89, 3) := oc_180 shX12_whyNot_115
theorem dX12_whyNot_118 : decode cX12_whyNot 118 = .ok (.bipush 10, 2) := oc_16 shX12_whyNot_118 sgb_10
theorem dX12_whyNot_120 : decode cX12_whyNot 120 = .ok (.iload_n 1, 1) := oc_27 shX12_whyNot_120
theorem dX12_whyNot_121 : decode cX12_whyNot 121 = .ok (.invokestatic 431, 3) := oc_184 shX12_whyNot_121
theorem dX12_whyNot_124 : decode cX12_whyNot 124 = .ok (.iastore, 1) := oc_79 shX12_whyNot_124
theorem dX12_whyNot_125 : decode cX12_whyNot 125 = .ok (.bipush 120, 2) := oc_16 shX12_whyNot_125 sgb_120
theorem dX12_whyNot_127 : decode cX12_whyNot 127 = .ok (.istore_n 2, 1) := oc_61 shX12_whyNot_127
theorem dX12_whyNot_128 : decode cX12_whyNot 128 = .ok (.iload_n 2, 1) := oc_28 shX12_whyNot_128
theorem dX12_whyNot_129 : decode cX12_whyNot 129 = .ok (.bipush 120, 2) := oc_16 shX12_whyNot_129 sgb_120
theorem dX12_whyNot_131 : decode cX12_whyNot 131 = .ok (.aload_n 0, 1) := oc_42 shX12_whyNot_131
theorem dX12_whyNot_132 : decode cX12_whyNot 132 = .ok (.getfield 74, 3) := oc_180 shX12_whyNot_132
theorem dX12_whyNot_135 : decode cX12_whyNot 135 = .ok (.bipush 10, 2) := oc_16 shX12_whyNot_135 sgb_10
theorem dX12_whyNot_137 : decode cX12_whyNot 137 = .ok (.iaload, 1) := oc_46 shX12_whyNot_137
theorem dX12_whyNot_138 : decode cX12_whyNot 138 = .ok (.iadd, 1) := oc_96 shX12_whyNot_138
theorem dX12_whyNot_139 : decode cX12_whyNot 139 = .ok (.if_icmp .ge 34, 3) := oc_162 shX12_whyNot_139 sgw_0_34
theorem dX12_whyNot_142 : decode cX12_whyNot 142 = .ok (.aload_n 0, 1) := oc_42 shX12_whyNot_142
theorem dX12_whyNot_143 : decode cX12_whyNot 143 = .ok (.aload_n 0, 1) := oc_42 shX12_whyNot_143
theorem dX12_whyNot_144 : decode cX12_whyNot 144 = .ok (.getfield 80, 3) := oc_180 shX12_whyNot_144
theorem dX12_whyNot_147 : decode cX12_whyNot 147 = .ok (.iload_n 2, 1) := oc_28 shX12_whyNot_147
theorem dX12_whyNot_148 : decode cX12_whyNot 148 = .ok (.iaload, 1) := oc_46 shX12_whyNot_148
theorem dX12_whyNot_149 : decode cX12_whyNot 149 = .ok (.aload_n 0, 1) := oc_42 shX12_whyNot_149
theorem dX12_whyNot_150 : decode cX12_whyNot 150 = .ok (.getfield 83, 3) := oc_180 shX12_whyNot_150
theorem dX12_whyNot_153 : decode cX12_whyNot 153 = .ok (.iload_n 2, 1) := oc_28 shX12_whyNot_153
theorem dX12_whyNot_154 : decode cX12_whyNot 154 = .ok (.iaload, 1) := oc_46 shX12_whyNot_154
theorem dX12_whyNot_155 : decode cX12_whyNot 155 = .ok (.invokevirtual 331, 3) := oc_182 shX12_whyNot_155
theorem dX12_whyNot_158 : decode cX12_whyNot 158 = .ok (.iconst 1, 1) := oc_4 shX12_whyNot_158
theorem dX12_whyNot_159 : decode cX12_whyNot 159 = .ok (.if_icmp .eq 8, 3) := oc_159 shX12_whyNot_159 sgw_0_8
theorem dX12_whyNot_162 : decode cX12_whyNot 162 = .ok (.iload_n 2, 1) := oc_28 shX12_whyNot_162
theorem dX12_whyNot_163 : decode cX12_whyNot 163 = .ok (.bipush 120, 2) := oc_16 shX12_whyNot_163 sgb_120
theorem dX12_whyNot_165 : decode cX12_whyNot 165 = .ok (.isub, 1) := oc_100 shX12_whyNot_165
theorem dX12_whyNot_166 : decode cX12_whyNot 166 = .ok (.ireturn, 1) := oc_172 shX12_whyNot_166
theorem dX12_whyNot_167 : decode cX12_whyNot 167 = .ok (.iinc 2 1, 3) := oc_132 shX12_whyNot_167 sgb_1
theorem dX12_whyNot_170 : decode cX12_whyNot 170 = .ok (.goto (-42), 3) := oc_167 shX12_whyNot_170 sgw_255_214
theorem dX12_whyNot_173 : decode cX12_whyNot 173 = .ok (.iconst (-1), 1) := oc_2 shX12_whyNot_173
theorem dX12_whyNot_174 : decode cX12_whyNot 174 = .ok (.ireturn, 1) := oc_172 shX12_whyNot_174
noncomputable def sxX12_isFree_37 : List UInt8 := []
noncomputable def sxX12_isFree_36 : List UInt8 := 172 :: sxX12_isFree_37
noncomputable def sxX12_isFree_35 : List UInt8 := 3 :: sxX12_isFree_36
noncomputable def sxX12_isFree_32 : List UInt8 := 167 :: 0 :: 4 :: sxX12_isFree_35
noncomputable def sxX12_isFree_31 : List UInt8 := 4 :: sxX12_isFree_32
noncomputable def sxX12_isFree_28 : List UInt8 := 163 :: 0 :: 7 :: sxX12_isFree_31
noncomputable def sxX12_isFree_25 : List UInt8 := 180 :: 0 :: 211 :: sxX12_isFree_28
noncomputable def sxX12_isFree_24 : List UInt8 := 42 :: sxX12_isFree_25
noncomputable def sxX12_isFree_23 : List UInt8 := 46 :: sxX12_isFree_24
noncomputable def sxX12_isFree_22 : List UInt8 := 27 :: sxX12_isFree_23
noncomputable def sxX12_isFree_19 : List UInt8 := 180 :: 0 :: 40 :: sxX12_isFree_22
noncomputable def sxX12_isFree_18 : List UInt8 := 42 :: sxX12_isFree_19
noncomputable def sxX12_isFree_15 : List UInt8 := 160 :: 0 :: 20 :: sxX12_isFree_18
noncomputable def sxX12_isFree_14 : List UInt8 := 2 :: sxX12_isFree_15
noncomputable def sxX12_isFree_13 : List UInt8 := 46 :: sxX12_isFree_14
noncomputable def sxX12_isFree_12 : List UInt8 := 27 :: sxX12_isFree_13
noncomputable def sxX12_isFree_9 : List UInt8 := 180 :: 0 :: 46 :: sxX12_isFree_12
noncomputable def sxX12_isFree_8 : List UInt8 := 42 :: sxX12_isFree_9
noncomputable def sxX12_isFree_5 : List UInt8 := 153 :: 0 :: 30 :: sxX12_isFree_8
noncomputable def sxX12_isFree_2 : List UInt8 := 182 :: 1 :: 79 :: sxX12_isFree_5
noncomputable def sxX12_isFree_1 : List UInt8 := 27 :: sxX12_isFree_2
noncomputable def sxX12_isFree_0 : List UInt8 := 42 :: sxX12_isFree_1
theorem shX12_isFree_0 : cX12_isFree.data.toList.drop 0 = sxX12_isFree_0 := rfl
theorem shX12_isFree_1 : cX12_isFree.data.toList.drop 1 = sxX12_isFree_1 := dSn 1 shX12_isFree_0
theorem shX12_isFree_2 : cX12_isFree.data.toList.drop 2 = sxX12_isFree_2 := dSn 1 shX12_isFree_1
theorem shX12_isFree_5 : cX12_isFree.data.toList.drop 5 = sxX12_isFree_5 := dSn 3 shX12_isFree_2
theorem shX12_isFree_8 : cX12_isFree.data.toList.drop 8 = sxX12_isFree_8 := dSn 3 shX12_isFree_5
theorem shX12_isFree_9 : cX12_isFree.data.toList.drop 9 = sxX12_isFree_9 := dSn 1 shX12_isFree_8
theorem shX12_isFree_12 : cX12_isFree.data.toList.drop 12 = sxX12_isFree_12 := dSn 3 shX12_isFree_9
theorem shX12_isFree_13 : cX12_isFree.data.toList.drop 13 = sxX12_isFree_13 := dSn 1 shX12_isFree_12
theorem shX12_isFree_14 : cX12_isFree.data.toList.drop 14 = sxX12_isFree_14 := dSn 1 shX12_isFree_13
theorem shX12_isFree_15 : cX12_isFree.data.toList.drop 15 = sxX12_isFree_15 := dSn 1 shX12_isFree_14
theorem shX12_isFree_18 : cX12_isFree.data.toList.drop 18 = sxX12_isFree_18 := dSn 3 shX12_isFree_15
theorem shX12_isFree_19 : cX12_isFree.data.toList.drop 19 = sxX12_isFree_19 := dSn 1 shX12_isFree_18
theorem shX12_isFree_22 : cX12_isFree.data.toList.drop 22 = sxX12_isFree_22 := dSn 3 shX12_isFree_19
theorem shX12_isFree_23 : cX12_isFree.data.toList.drop 23 = sxX12_isFree_23 := dSn 1 shX12_isFree_22
theorem shX12_isFree_24 : cX12_isFree.data.toList.drop 24 = sxX12_isFree_24 := dSn 1 shX12_isFree_23
theorem shX12_isFree_25 : cX12_isFree.data.toList.drop 25 = sxX12_isFree_25 := dSn 1 shX12_isFree_24
theorem shX12_isFree_28 : cX12_isFree.data.toList.drop 28 = sxX12_isFree_28 := dSn 3 shX12_isFree_25
theorem shX12_isFree_31 : cX12_isFree.data.toList.drop 31 = sxX12_isFree_31 := dSn 3 shX12_isFree_28
theorem shX12_isFree_32 : cX12_isFree.data.toList.drop 32 = sxX12_isFree_32 := dSn 1 shX12_isFree_31
theorem shX12_isFree_35 : cX12_isFree.data.toList.drop 35 = sxX12_isFree_35 := dSn 3 shX12_isFree_32
theorem shX12_isFree_36 : cX12_isFree.data.toList.drop 36 = sxX12_isFree_36 := dSn 1 shX12_isFree_35
theorem dX12_isFree_0 : decode cX12_isFree 0 = .ok (.aload_n 0, 1) := oc_42 shX12_isFree_0
theorem dX12_isFree_1 : decode cX12_isFree 1 = .ok (.iload_n 1, 1) := oc_27 shX12_isFree_1
theorem dX12_isFree_2 : decode cX12_isFree 2 = .ok (.invokevirtual 335, 3) := oc_182 shX12_isFree_2
theorem dX12_isFree_5 : decode cX12_isFree 5 = .ok (.ifCond .eq 30, 3) := oc_153 shX12_isFree_5 sgw_0_30
theorem dX12_isFree_8 : decode cX12_isFree 8 = .ok (.aload_n 0, 1) := oc_42 shX12_isFree_8
theorem dX12_isFree_9 : decode cX12_isFree 9 = .ok (.getfield 46, 3) := oc_180 shX12_isFree_9
theorem dX12_isFree_12 : decode cX12_isFree 12 = .ok (.iload_n 1, 1) := oc_27 shX12_isFree_12
theorem dX12_isFree_13 : decode cX12_isFree 13 = .ok (.iaload, 1) := oc_46 shX12_isFree_13
theorem dX12_isFree_14 : decode cX12_isFree 14 = .ok (.iconst (-1), 1) := oc_2 shX12_isFree_14
theorem dX12_isFree_15 : decode cX12_isFree 15 = .ok (.if_icmp .ne 20, 3) := oc_160 shX12_isFree_15 sgw_0_20
theorem dX12_isFree_18 : decode cX12_isFree 18 = .ok (.aload_n 0, 1) := oc_42 shX12_isFree_18
theorem dX12_isFree_19 : decode cX12_isFree 19 = .ok (.getfield 40, 3) := oc_180 shX12_isFree_19
theorem dX12_isFree_22 : decode cX12_isFree 22 = .ok (.iload_n 1, 1) := oc_27 shX12_isFree_22
theorem dX12_isFree_23 : decode cX12_isFree 23 = .ok (.iaload, 1) := oc_46 shX12_isFree_23
theorem dX12_isFree_24 : decode cX12_isFree 24 = .ok (.aload_n 0, 1) := oc_42 shX12_isFree_24
theorem dX12_isFree_25 : decode cX12_isFree 25 = .ok (.getfield 211, 3) := oc_180 shX12_isFree_25
theorem dX12_isFree_28 : decode cX12_isFree 28 = .ok (.if_icmp .gt 7, 3) := oc_163 shX12_isFree_28 sgw_0_7
theorem dX12_isFree_31 : decode cX12_isFree 31 = .ok (.iconst 1, 1) := oc_4 shX12_isFree_31
theorem dX12_isFree_32 : decode cX12_isFree 32 = .ok (.goto 4, 3) := oc_167 shX12_isFree_32 sgw_0_4
theorem dX12_isFree_35 : decode cX12_isFree 35 = .ok (.iconst 0, 1) := oc_3 shX12_isFree_35
theorem dX12_isFree_36 : decode cX12_isFree 36 = .ok (.ireturn, 1) := oc_172 shX12_isFree_36
noncomputable def sxX12_batch_144 : List UInt8 := []
noncomputable def sxX12_batch_143 : List UInt8 := 172 :: sxX12_batch_144
noncomputable def sxX12_batch_142 : List UInt8 := 100 :: sxX12_batch_143
noncomputable def sxX12_batch_141 : List UInt8 := 4 :: sxX12_batch_142
noncomputable def sxX12_batch_138 : List UInt8 := 180 :: 1 :: 179 :: sxX12_batch_141
noncomputable def sxX12_batch_137 : List UInt8 := 42 :: sxX12_batch_138
noncomputable def sxX12_batch_134 : List UInt8 := 181 :: 1 :: 179 :: sxX12_batch_137
noncomputable def sxX12_batch_133 : List UInt8 := 96 :: sxX12_batch_134
noncomputable def sxX12_batch_132 : List UInt8 := 4 :: sxX12_batch_133
noncomputable def sxX12_batch_129 : List UInt8 := 180 :: 1 :: 179 :: sxX12_batch_132
noncomputable def sxX12_batch_128 : List UInt8 := 42 :: sxX12_batch_129
noncomputable def sxX12_batch_127 : List UInt8 := 42 :: sxX12_batch_128
noncomputable def sxX12_batch_126 : List UInt8 := 79 :: sxX12_batch_127
noncomputable def sxX12_batch_123 : List UInt8 := 180 :: 0 :: 211 :: sxX12_batch_126
noncomputable def sxX12_batch_122 : List UInt8 := 42 :: sxX12_batch_123
noncomputable def sxX12_batch_119 : List UInt8 := 180 :: 1 :: 179 :: sxX12_batch_122
noncomputable def sxX12_batch_118 : List UInt8 := 42 :: sxX12_batch_119
noncomputable def sxX12_batch_115 : List UInt8 := 180 :: 0 :: 141 :: sxX12_batch_118
noncomputable def sxX12_batch_114 : List UInt8 := 42 :: sxX12_batch_115
noncomputable def sxX12_batch_113 : List UInt8 := 79 :: sxX12_batch_114
noncomputable def sxX12_batch_112 : List UInt8 := 27 :: sxX12_batch_113
noncomputable def sxX12_batch_109 : List UInt8 := 180 :: 1 :: 179 :: sxX12_batch_112
noncomputable def sxX12_batch_108 : List UInt8 := 42 :: sxX12_batch_109
noncomputable def sxX12_batch_105 : List UInt8 := 180 :: 0 :: 138 :: sxX12_batch_108
noncomputable def sxX12_batch_104 : List UInt8 := 42 :: sxX12_batch_105
noncomputable def sxX12_batch_101 : List UInt8 := 167 :: 255 :: 228 :: sxX12_batch_104
noncomputable def sxX12_batch_98 : List UInt8 := 132 :: 3 :: 1 :: sxX12_batch_101
noncomputable def sxX12_batch_97 : List UInt8 := 79 :: sxX12_batch_98
noncomputable def sxX12_batch_94 : List UInt8 := 180 :: 1 :: 179 :: sxX12_batch_97
noncomputable def sxX12_batch_93 : List UInt8 := 42 :: sxX12_batch_94
noncomputable def sxX12_batch_92 : List UInt8 := 29 :: sxX12_batch_93
noncomputable def sxX12_batch_89 : List UInt8 := 180 :: 0 :: 46 :: sxX12_batch_92
noncomputable def sxX12_batch_88 : List UInt8 := 42 :: sxX12_batch_89
noncomputable def sxX12_batch_85 : List UInt8 := 160 :: 0 :: 13 :: sxX12_batch_88
noncomputable def sxX12_batch_84 : List UInt8 := 4 :: sxX12_batch_85
noncomputable def sxX12_batch_83 : List UInt8 := 126 :: sxX12_batch_84
noncomputable def sxX12_batch_82 : List UInt8 := 4 :: sxX12_batch_83
noncomputable def sxX12_batch_81 : List UInt8 := 122 :: sxX12_batch_82
noncomputable def sxX12_batch_80 : List UInt8 := 29 :: sxX12_batch_81
noncomputable def sxX12_batch_79 : List UInt8 := 27 :: sxX12_batch_80
noncomputable def sxX12_batch_76 : List UInt8 := 162 :: 0 :: 28 :: sxX12_batch_79
noncomputable def sxX12_batch_74 : List UInt8 := 16 :: 20 :: sxX12_batch_76
noncomputable def sxX12_batch_73 : List UInt8 := 29 :: sxX12_batch_74
noncomputable def sxX12_batch_72 : List UInt8 := 62 :: sxX12_batch_73
noncomputable def sxX12_batch_71 : List UInt8 := 3 :: sxX12_batch_72
noncomputable def sxX12_batch_70 : List UInt8 := 172 :: sxX12_batch_71
noncomputable def sxX12_batch_69 : List UInt8 := 100 :: sxX12_batch_70
noncomputable def sxX12_batch_68 : List UInt8 := 28 :: sxX12_batch_69
noncomputable def sxX12_batch_66 : List UInt8 := 16 :: 246 :: sxX12_batch_68
noncomputable def sxX12_batch_63 : List UInt8 := 159 :: 0 :: 8 :: sxX12_batch_66
noncomputable def sxX12_batch_62 : List UInt8 := 2 :: sxX12_batch_63
noncomputable def sxX12_batch_61 : List UInt8 := 28 :: sxX12_batch_62
noncomputable def sxX12_batch_60 : List UInt8 := 61 :: sxX12_batch_61
noncomputable def sxX12_batch_57 : List UInt8 := 182 :: 1 :: 185 :: sxX12_batch_60
noncomputable def sxX12_batch_56 : List UInt8 := 27 :: sxX12_batch_57
noncomputable def sxX12_batch_55 : List UInt8 := 42 :: sxX12_batch_56
noncomputable def sxX12_batch_52 : List UInt8 := 167 :: 255 :: 228 :: sxX12_batch_55
noncomputable def sxX12_batch_49 : List UInt8 := 132 :: 2 :: 1 :: sxX12_batch_52
noncomputable def sxX12_batch_48 : List UInt8 := 172 :: sxX12_batch_49
noncomputable def sxX12_batch_47 : List UInt8 := 2 :: sxX12_batch_48
noncomputable def sxX12_batch_44 : List UInt8 := 154 :: 0 :: 5 :: sxX12_batch_47
noncomputable def sxX12_batch_41 : List UInt8 := 182 :: 1 :: 182 :: sxX12_batch_44
noncomputable def sxX12_batch_40 : List UInt8 := 28 :: sxX12_batch_41
noncomputable def sxX12_batch_39 : List UInt8 := 42 :: sxX12_batch_40
noncomputable def sxX12_batch_36 : List UInt8 := 160 :: 0 :: 13 :: sxX12_batch_39
noncomputable def sxX12_batch_35 : List UInt8 := 4 :: sxX12_batch_36
noncomputable def sxX12_batch_34 : List UInt8 := 126 :: sxX12_batch_35
noncomputable def sxX12_batch_33 : List UInt8 := 4 :: sxX12_batch_34
noncomputable def sxX12_batch_32 : List UInt8 := 122 :: sxX12_batch_33
noncomputable def sxX12_batch_31 : List UInt8 := 28 :: sxX12_batch_32
noncomputable def sxX12_batch_30 : List UInt8 := 27 :: sxX12_batch_31
noncomputable def sxX12_batch_27 : List UInt8 := 162 :: 0 :: 28 :: sxX12_batch_30
noncomputable def sxX12_batch_25 : List UInt8 := 16 :: 20 :: sxX12_batch_27
noncomputable def sxX12_batch_24 : List UInt8 := 28 :: sxX12_batch_25
noncomputable def sxX12_batch_23 : List UInt8 := 61 :: sxX12_batch_24
noncomputable def sxX12_batch_22 : List UInt8 := 3 :: sxX12_batch_23
noncomputable def sxX12_batch_21 : List UInt8 := 172 :: sxX12_batch_22
noncomputable def sxX12_batch_20 : List UInt8 := 2 :: sxX12_batch_21
noncomputable def sxX12_batch_17 : List UInt8 := 160 :: 0 :: 5 :: sxX12_batch_20
noncomputable def sxX12_batch_15 : List UInt8 := 16 :: 10 :: sxX12_batch_17
noncomputable def sxX12_batch_12 : List UInt8 := 180 :: 1 :: 179 :: sxX12_batch_15
noncomputable def sxX12_batch_11 : List UInt8 := 42 :: sxX12_batch_12
noncomputable def sxX12_batch_8 : List UInt8 := 153 :: 0 :: 12 :: sxX12_batch_11
noncomputable def sxX12_batch_5 : List UInt8 := 184 :: 0 :: 214 :: sxX12_batch_8
noncomputable def sxX12_batch_2 : List UInt8 := 19 :: 1 :: 178 :: sxX12_batch_5
noncomputable def sxX12_batch_1 : List UInt8 := 4 :: sxX12_batch_2
noncomputable def sxX12_batch_0 : List UInt8 := 27 :: sxX12_batch_1
theorem shX12_batch_0 : cX12_batch.data.toList.drop 0 = sxX12_batch_0 := rfl
theorem shX12_batch_1 : cX12_batch.data.toList.drop 1 = sxX12_batch_1 := dSn 1 shX12_batch_0
theorem shX12_batch_2 : cX12_batch.data.toList.drop 2 = sxX12_batch_2 := dSn 1 shX12_batch_1
theorem shX12_batch_5 : cX12_batch.data.toList.drop 5 = sxX12_batch_5 := dSn 3 shX12_batch_2
theorem shX12_batch_8 : cX12_batch.data.toList.drop 8 = sxX12_batch_8 := dSn 3 shX12_batch_5
theorem shX12_batch_11 : cX12_batch.data.toList.drop 11 = sxX12_batch_11 := dSn 3 shX12_batch_8
theorem shX12_batch_12 : cX12_batch.data.toList.drop 12 = sxX12_batch_12 := dSn 1 shX12_batch_11
theorem shX12_batch_15 : cX12_batch.data.toList.drop 15 = sxX12_batch_15 := dSn 3 shX12_batch_12
theorem shX12_batch_17 : cX12_batch.data.toList.drop 17 = sxX12_batch_17 := dSn 2 shX12_batch_15
theorem shX12_batch_20 : cX12_batch.data.toList.drop 20 = sxX12_batch_20 := dSn 3 shX12_batch_17
theorem shX12_batch_21 : cX12_batch.data.toList.drop 21 = sxX12_batch_21 := dSn 1 shX12_batch_20
theorem shX12_batch_22 : cX12_batch.data.toList.drop 22 = sxX12_batch_22 := dSn 1 shX12_batch_21
theorem shX12_batch_23 : cX12_batch.data.toList.drop 23 = sxX12_batch_23 := dSn 1 shX12_batch_22
theorem shX12_batch_24 : cX12_batch.data.toList.drop 24 = sxX12_batch_24 := dSn 1 shX12_batch_23
theorem shX12_batch_25 : cX12_batch.data.toList.drop 25 = sxX12_batch_25 := dSn 1 shX12_batch_24
theorem shX12_batch_27 : cX12_batch.data.toList.drop 27 = sxX12_batch_27 := dSn 2 shX12_batch_25
theorem shX12_batch_30 : cX12_batch.data.toList.drop 30 = sxX12_batch_30 := dSn 3 shX12_batch_27
theorem shX12_batch_31 : cX12_batch.data.toList.drop 31 = sxX12_batch_31 := dSn 1 shX12_batch_30
theorem shX12_batch_32 : cX12_batch.data.toList.drop 32 = sxX12_batch_32 := dSn 1 shX12_batch_31
theorem shX12_batch_33 : cX12_batch.data.toList.drop 33 = sxX12_batch_33 := dSn 1 shX12_batch_32
theorem shX12_batch_34 : cX12_batch.data.toList.drop 34 = sxX12_batch_34 := dSn 1 shX12_batch_33
theorem shX12_batch_35 : cX12_batch.data.toList.drop 35 = sxX12_batch_35 := dSn 1 shX12_batch_34
theorem shX12_batch_36 : cX12_batch.data.toList.drop 36 = sxX12_batch_36 := dSn 1 shX12_batch_35
theorem shX12_batch_39 : cX12_batch.data.toList.drop 39 = sxX12_batch_39 := dSn 3 shX12_batch_36
theorem shX12_batch_40 : cX12_batch.data.toList.drop 40 = sxX12_batch_40 := dSn 1 shX12_batch_39
theorem shX12_batch_41 : cX12_batch.data.toList.drop 41 = sxX12_batch_41 := dSn 1 shX12_batch_40
theorem shX12_batch_44 : cX12_batch.data.toList.drop 44 = sxX12_batch_44 := dSn 3 shX12_batch_41
theorem shX12_batch_47 : cX12_batch.data.toList.drop 47 = sxX12_batch_47 := dSn 3 shX12_batch_44
theorem shX12_batch_48 : cX12_batch.data.toList.drop 48 = sxX12_batch_48 := dSn 1 shX12_batch_47
theorem shX12_batch_49 : cX12_batch.data.toList.drop 49 = sxX12_batch_49 := dSn 1 shX12_batch_48
theorem shX12_batch_52 : cX12_batch.data.toList.drop 52 = sxX12_batch_52 := dSn 3 shX12_batch_49
theorem shX12_batch_55 : cX12_batch.data.toList.drop 55 = sxX12_batch_55 := dSn 3 shX12_batch_52
theorem shX12_batch_56 : cX12_batch.data.toList.drop 56 = sxX12_batch_56 := dSn 1 shX12_batch_55
theorem shX12_batch_57 : cX12_batch.data.toList.drop 57 = sxX12_batch_57 := dSn 1 shX12_batch_56
theorem shX12_batch_60 : cX12_batch.data.toList.drop 60 = sxX12_batch_60 := dSn 3 shX12_batch_57
theorem shX12_batch_61 : cX12_batch.data.toList.drop 61 = sxX12_batch_61 := dSn 1 shX12_batch_60
theorem shX12_batch_62 : cX12_batch.data.toList.drop 62 = sxX12_batch_62 := dSn 1 shX12_batch_61
theorem shX12_batch_63 : cX12_batch.data.toList.drop 63 = sxX12_batch_63 := dSn 1 shX12_batch_62
theorem shX12_batch_66 : cX12_batch.data.toList.drop 66 = sxX12_batch_66 := dSn 3 shX12_batch_63
theorem shX12_batch_68 : cX12_batch.data.toList.drop 68 = sxX12_batch_68 := dSn 2 shX12_batch_66
theorem shX12_batch_69 : cX12_batch.data.toList.drop 69 = sxX12_batch_69 := dSn 1 shX12_batch_68
theorem shX12_batch_70 : cX12_batch.data.toList.drop 70 = sxX12_batch_70 := dSn 1 shX12_batch_69
theorem shX12_batch_71 : cX12_batch.data.toList.drop 71 = sxX12_batch_71 := dSn 1 shX12_batch_70
theorem shX12_batch_72 : cX12_batch.data.toList.drop 72 = sxX12_batch_72 := dSn 1 shX12_batch_71
theorem shX12_batch_73 : cX12_batch.data.toList.drop 73 = sxX12_batch_73 := dSn 1 shX12_batch_72
theorem shX12_batch_74 : cX12_batch.data.toList.drop 74 = sxX12_batch_74 := dSn 1 shX12_batch_73
theorem shX12_batch_76 : cX12_batch.data.toList.drop 76 = sxX12_batch_76 := dSn 2 shX12_batch_74
theorem shX12_batch_79 : cX12_batch.data.toList.drop 79 = sxX12_batch_79 := dSn 3 shX12_batch_76
theorem shX12_batch_80 : cX12_batch.data.toList.drop 80 = sxX12_batch_80 := dSn 1 shX12_batch_79
theorem shX12_batch_81 : cX12_batch.data.toList.drop 81 = sxX12_batch_81 := dSn 1 shX12_batch_80
theorem shX12_batch_82 : cX12_batch.data.toList.drop 82 = sxX12_batch_82 := dSn 1 shX12_batch_81
theorem shX12_batch_83 : cX12_batch.data.toList.drop 83 = sxX12_batch_83 := dSn 1 shX12_batch_82
theorem shX12_batch_84 : cX12_batch.data.toList.drop 84 = sxX12_batch_84 := dSn 1 shX12_batch_83
theorem shX12_batch_85 : cX12_batch.data.toList.drop 85 = sxX12_batch_85 := dSn 1 shX12_batch_84
theorem shX12_batch_88 : cX12_batch.data.toList.drop 88 = sxX12_batch_88 := dSn 3 shX12_batch_85
theorem shX12_batch_89 : cX12_batch.data.toList.drop 89 = sxX12_batch_89 := dSn 1 shX12_batch_88
theorem shX12_batch_92 : cX12_batch.data.toList.drop 92 = sxX12_batch_92 := dSn 3 shX12_batch_89
theorem shX12_batch_93 : cX12_batch.data.toList.drop 93 = sxX12_batch_93 := dSn 1 shX12_batch_92
theorem shX12_batch_94 : cX12_batch.data.toList.drop 94 = sxX12_batch_94 := dSn 1 shX12_batch_93
theorem shX12_batch_97 : cX12_batch.data.toList.drop 97 = sxX12_batch_97 := dSn 3 shX12_batch_94
theorem shX12_batch_98 : cX12_batch.data.toList.drop 98 = sxX12_batch_98 := dSn 1 shX12_batch_97
theorem shX12_batch_101 : cX12_batch.data.toList.drop 101 = sxX12_batch_101 := dSn 3 shX12_batch_98
theorem shX12_batch_104 : cX12_batch.data.toList.drop 104 = sxX12_batch_104 := dSn 3 shX12_batch_101
theorem shX12_batch_105 : cX12_batch.data.toList.drop 105 = sxX12_batch_105 := dSn 1 shX12_batch_104
theorem shX12_batch_108 : cX12_batch.data.toList.drop 108 = sxX12_batch_108 := dSn 3 shX12_batch_105
theorem shX12_batch_109 : cX12_batch.data.toList.drop 109 = sxX12_batch_109 := dSn 1 shX12_batch_108
theorem shX12_batch_112 : cX12_batch.data.toList.drop 112 = sxX12_batch_112 := dSn 3 shX12_batch_109
theorem shX12_batch_113 : cX12_batch.data.toList.drop 113 = sxX12_batch_113 := dSn 1 shX12_batch_112
theorem shX12_batch_114 : cX12_batch.data.toList.drop 114 = sxX12_batch_114 := dSn 1 shX12_batch_113
theorem shX12_batch_115 : cX12_batch.data.toList.drop 115 = sxX12_batch_115 := dSn 1 shX12_batch_114
theorem shX12_batch_118 : cX12_batch.data.toList.drop 118 = sxX12_batch_118 := dSn 3 shX12_batch_115
theorem shX12_batch_119 : cX12_batch.data.toList.drop 119 = sxX12_batch_119 := dSn 1 shX12_batch_118
theorem shX12_batch_122 : cX12_batch.data.toList.drop 122 = sxX12_batch_122 := dSn 3 shX12_batch_119
theorem shX12_batch_123 : cX12_batch.data.toList.drop 123 = sxX12_batch_123 := dSn 1 shX12_batch_122
theorem shX12_batch_126 : cX12_batch.data.toList.drop 126 = sxX12_batch_126 := dSn 3 shX12_batch_123
theorem shX12_batch_127 : cX12_batch.data.toList.drop 127 = sxX12_batch_127 := dSn 1 shX12_batch_126
theorem shX12_batch_128 : cX12_batch.data.toList.drop 128 = sxX12_batch_128 := dSn 1 shX12_batch_127
theorem shX12_batch_129 : cX12_batch.data.toList.drop 129 = sxX12_batch_129 := dSn 1 shX12_batch_128
theorem shX12_batch_132 : cX12_batch.data.toList.drop 132 = sxX12_batch_132 := dSn 3 shX12_batch_129
theorem shX12_batch_133 : cX12_batch.data.toList.drop 133 = sxX12_batch_133 := dSn 1 shX12_batch_132
theorem shX12_batch_134 : cX12_batch.data.toList.drop 134 = sxX12_batch_134 := dSn 1 shX12_batch_133
theorem shX12_batch_137 : cX12_batch.data.toList.drop 137 = sxX12_batch_137 := dSn 3 shX12_batch_134
theorem shX12_batch_138 : cX12_batch.data.toList.drop 138 = sxX12_batch_138 := dSn 1 shX12_batch_137
theorem shX12_batch_141 : cX12_batch.data.toList.drop 141 = sxX12_batch_141 := dSn 3 shX12_batch_138
theorem shX12_batch_142 : cX12_batch.data.toList.drop 142 = sxX12_batch_142 := dSn 1 shX12_batch_141
theorem shX12_batch_143 : cX12_batch.data.toList.drop 143 = sxX12_batch_143 := dSn 1 shX12_batch_142
theorem dX12_batch_0 : decode cX12_batch 0 = .ok (.iload_n 1, 1) := oc_27 shX12_batch_0
theorem dX12_batch_1 : decode cX12_batch 1 = .ok (.iconst 1, 1) := oc_4 shX12_batch_1
theorem dX12_batch_2 : decode cX12_batch 2 = .ok (.ldc_w 434, 3) := oc_19 shX12_batch_2
theorem dX12_batch_5 : decode cX12_batch 5 = .ok (.invokestatic 214, 3) := oc_184 shX12_batch_5
theorem dX12_batch_8 : decode cX12_batch 8 = .ok (.ifCond .eq 12, 3) := oc_153 shX12_batch_8 sgw_0_12
theorem dX12_batch_11 : decode cX12_batch 11 = .ok (.aload_n 0, 1) := oc_42 shX12_batch_11
theorem dX12_batch_12 : decode cX12_batch 12 = .ok (.getfield 435, 3) := oc_180 shX12_batch_12
theorem dX12_batch_15 : decode cX12_batch 15 = .ok (.bipush 10, 2) := oc_16 shX12_batch_15 sgb_10
theorem dX12_batch_17 : decode cX12_batch 17 = .ok (.if_icmp .ne 5, 3) := oc_160 shX12_batch_17 sgw_0_5
theorem dX12_batch_20 : decode cX12_batch 20 = .ok (.iconst (-1), 1) := oc_2 shX12_batch_20
theorem dX12_batch_21 : decode cX12_batch 21 = .ok (.ireturn, 1) := oc_172 shX12_batch_21
theorem dX12_batch_22 : decode cX12_batch 22 = .ok (.iconst 0, 1) := oc_3 shX12_batch_22
theorem dX12_batch_23 : decode cX12_batch 23 = .ok (.istore_n 2, 1) := oc_61 shX12_batch_23
theorem dX12_batch_24 : decode cX12_batch 24 = .ok (.iload_n 2, 1) := oc_28 shX12_batch_24
theorem dX12_batch_25 : decode cX12_batch 25 = .ok (.bipush 20, 2) := oc_16 shX12_batch_25 sgb_20
theorem dX12_batch_27 : decode cX12_batch 27 = .ok (.if_icmp .ge 28, 3) := oc_162 shX12_batch_27 sgw_0_28
theorem dX12_batch_30 : decode cX12_batch 30 = .ok (.iload_n 1, 1) := oc_27 shX12_batch_30
theorem dX12_batch_31 : decode cX12_batch 31 = .ok (.iload_n 2, 1) := oc_28 shX12_batch_31
theorem dX12_batch_32 : decode cX12_batch 32 = .ok (.ishr, 1) := oc_122 shX12_batch_32
theorem dX12_batch_33 : decode cX12_batch 33 = .ok (.iconst 1, 1) := oc_4 shX12_batch_33
theorem dX12_batch_34 : decode cX12_batch 34 = .ok (.iand, 1) := oc_126 shX12_batch_34
theorem dX12_batch_35 : decode cX12_batch 35 = .ok (.iconst 1, 1) := oc_4 shX12_batch_35
theorem dX12_batch_36 : decode cX12_batch 36 = .ok (.if_icmp .ne 13, 3) := oc_160 shX12_batch_36 sgw_0_13
theorem dX12_batch_39 : decode cX12_batch 39 = .ok (.aload_n 0, 1) := oc_42 shX12_batch_39
theorem dX12_batch_40 : decode cX12_batch 40 = .ok (.iload_n 2, 1) := oc_28 shX12_batch_40
theorem dX12_batch_41 : decode cX12_batch 41 = .ok (.invokevirtual 438, 3) := oc_182 shX12_batch_41
theorem dX12_batch_44 : decode cX12_batch 44 = .ok (.ifCond .ne 5, 3) := oc_154 shX12_batch_44 sgw_0_5
theorem dX12_batch_47 : decode cX12_batch 47 = .ok (.iconst (-1), 1) := oc_2 shX12_batch_47
theorem dX12_batch_48 : decode cX12_batch 48 = .ok (.ireturn, 1) := oc_172 shX12_batch_48
theorem dX12_batch_49 : decode cX12_batch 49 = .ok (.iinc 2 1, 3) := oc_132 shX12_batch_49 sgb_1
theorem dX12_batch_52 : decode cX12_batch 52 = .ok (.goto (-28), 3) := oc_167 shX12_batch_52 sgw_255_228
theorem dX12_batch_55 : decode cX12_batch 55 = .ok (.aload_n 0, 1) := oc_42 shX12_batch_55
theorem dX12_batch_56 : decode cX12_batch 56 = .ok (.iload_n 1, 1) := oc_27 shX12_batch_56
theorem dX12_batch_57 : decode cX12_batch 57 = .ok (.invokevirtual 441, 3) := oc_182 shX12_batch_57
theorem dX12_batch_60 : decode cX12_batch 60 = .ok (.istore_n 2, 1) := oc_61 shX12_batch_60
theorem dX12_batch_61 : decode cX12_batch 61 = .ok (.iload_n 2, 1) := oc_28 shX12_batch_61
theorem dX12_batch_62 : decode cX12_batch 62 = .ok (.iconst (-1), 1) := oc_2 shX12_batch_62
theorem dX12_batch_63 : decode cX12_batch 63 = .ok (.if_icmp .eq 8, 3) := oc_159 shX12_batch_63 sgw_0_8
theorem dX12_batch_66 : decode cX12_batch 66 = .ok (.bipush (-10), 2) := oc_16 shX12_batch_66 sgb_246
theorem dX12_batch_68 : decode cX12_batch 68 = .ok (.iload_n 2, 1) := oc_28 shX12_batch_68
theorem dX12_batch_69 : decode cX12_batch 69 = .ok (.isub, 1) := oc_100 shX12_batch_69
theorem dX12_batch_70 : decode cX12_batch 70 = .ok (.ireturn, 1) := oc_172 shX12_batch_70
theorem dX12_batch_71 : decode cX12_batch 71 = .ok (.iconst 0, 1) := oc_3 shX12_batch_71
theorem dX12_batch_72 : decode cX12_batch 72 = .ok (.istore_n 3, 1) := oc_62 shX12_batch_72
theorem dX12_batch_73 : decode cX12_batch 73 = .ok (.iload_n 3, 1) := oc_29 shX12_batch_73
theorem dX12_batch_74 : decode cX12_batch 74 = .ok (.bipush 20, 2) := oc_16 shX12_batch_74 sgb_20
theorem dX12_batch_76 : decode cX12_batch 76 = .ok (.if_icmp .ge 28, 3) := oc_162 shX12_batch_76 sgw_0_28
theorem dX12_batch_79 : decode cX12_batch 79 = .ok (.iload_n 1, 1) := oc_27 shX12_batch_79
theorem dX12_batch_80 : decode cX12_batch 80 = .ok (.iload_n 3, 1) := oc_29 shX12_batch_80
theorem dX12_batch_81 : decode cX12_batch 81 = .ok (.ishr, 1) := oc_122 shX12_batch_81
theorem dX12_batch_82 : decode cX12_batch 82 = .ok (.iconst 1, 1) := oc_4 shX12_batch_82
theorem dX12_batch_83 : decode cX12_batch 83 = .ok (.iand, 1) := oc_126 shX12_batch_83
theorem dX12_batch_84 : decode cX12_batch 84 = .ok (.iconst 1, 1) := oc_4 shX12_batch_84
theorem dX12_batch_85 : decode cX12_batch 85 = .ok (.if_icmp .ne 13, 3) := oc_160 shX12_batch_85 sgw_0_13
theorem dX12_batch_88 : decode cX12_batch 88 = .ok (.aload_n 0, 1) := oc_42 shX12_batch_88
theorem dX12_batch_89 : decode cX12_batch 89 = .ok (.getfield 46, 3) := oc_180 shX12_batch_89
theorem dX12_batch_92 : decode cX12_batch 92 = .ok (.iload_n 3, 1) := oc_29 shX12_batch_92
theorem dX12_batch_93 : decode cX12_batch 93 = .ok (.aload_n 0, 1) := oc_42 shX12_batch_93
theorem dX12_batch_94 : decode cX12_batch 94 = .ok (.getfield 435, 3) := oc_180 shX12_batch_94
theorem dX12_batch_97 : decode cX12_batch 97 = .ok (.iastore, 1) := oc_79 shX12_batch_97
theorem dX12_batch_98 : decode cX12_batch 98 = .ok (.iinc 3 1, 3) := oc_132 shX12_batch_98 sgb_1
theorem dX12_batch_101 : decode cX12_batch 101 = .ok (.goto (-28), 3) := oc_167 shX12_batch_101 sgw_255_228
theorem dX12_batch_104 : decode cX12_batch 104 = .ok (.aload_n 0, 1) := oc_42 shX12_batch_104
theorem dX12_batch_105 : decode cX12_batch 105 = .ok (.getfield 138, 3) := oc_180 shX12_batch_105
theorem dX12_batch_108 : decode cX12_batch 108 = .ok (.aload_n 0, 1) := oc_42 shX12_batch_108
theorem dX12_batch_109 : decode cX12_batch 109 = .ok (.getfield 435, 3) := oc_180 shX12_batch_109
theorem dX12_batch_112 : decode cX12_batch 112 = .ok (.iload_n 1, 1) := oc_27 shX12_batch_112
theorem dX12_batch_113 : decode cX12_batch 113 = .ok (.iastore, 1) := oc_79 shX12_batch_113
theorem dX12_batch_114 : decode cX12_batch 114 = .ok (.aload_n 0, 1) := oc_42 shX12_batch_114
theorem dX12_batch_115 : decode cX12_batch 115 = .ok (.getfield 141, 3) := oc_180 shX12_batch_115
theorem dX12_batch_118 : decode cX12_batch 118 = .ok (.aload_n 0, 1) := oc_42 shX12_batch_118
theorem dX12_batch_119 : decode cX12_batch 119 = .ok (.getfield 435, 3) := oc_180 shX12_batch_119
theorem dX12_batch_122 : decode cX12_batch 122 = .ok (.aload_n 0, 1) := oc_42 shX12_batch_122
theorem dX12_batch_123 : decode cX12_batch 123 = .ok (.getfield 211, 3) := oc_180 shX12_batch_123
theorem dX12_batch_126 : decode cX12_batch 126 = .ok (.iastore, 1) := oc_79 shX12_batch_126
theorem dX12_batch_127 : decode cX12_batch 127 = .ok (.aload_n 0, 1) := oc_42 shX12_batch_127
theorem dX12_batch_128 : decode cX12_batch 128 = .ok (.aload_n 0, 1) := oc_42 shX12_batch_128
theorem dX12_batch_129 : decode cX12_batch 129 = .ok (.getfield 435, 3) := oc_180 shX12_batch_129
theorem dX12_batch_132 : decode cX12_batch 132 = .ok (.iconst 1, 1) := oc_4 shX12_batch_132
theorem dX12_batch_133 : decode cX12_batch 133 = .ok (.iadd, 1) := oc_96 shX12_batch_133
theorem dX12_batch_134 : decode cX12_batch 134 = .ok (.putfield 435, 3) := oc_181 shX12_batch_134
theorem dX12_batch_137 : decode cX12_batch 137 = .ok (.aload_n 0, 1) := oc_42 shX12_batch_137
theorem dX12_batch_138 : decode cX12_batch 138 = .ok (.getfield 435, 3) := oc_180 shX12_batch_138
theorem dX12_batch_141 : decode cX12_batch 141 = .ok (.iconst 1, 1) := oc_4 shX12_batch_141
theorem dX12_batch_142 : decode cX12_batch 142 = .ok (.isub, 1) := oc_100 shX12_batch_142
theorem dX12_batch_143 : decode cX12_batch 143 = .ok (.ireturn, 1) := oc_172 shX12_batch_143
noncomputable def sxX12_isBatch_18 : List UInt8 := []
noncomputable def sxX12_isBatch_17 : List UInt8 := 172 :: sxX12_isBatch_18
noncomputable def sxX12_isBatch_16 : List UInt8 := 3 :: sxX12_isBatch_17
noncomputable def sxX12_isBatch_13 : List UInt8 := 167 :: 0 :: 4 :: sxX12_isBatch_16
noncomputable def sxX12_isBatch_12 : List UInt8 := 4 :: sxX12_isBatch_13
noncomputable def sxX12_isBatch_9 : List UInt8 := 162 :: 0 :: 7 :: sxX12_isBatch_12
noncomputable def sxX12_isBatch_6 : List UInt8 := 180 :: 1 :: 179 :: sxX12_isBatch_9
noncomputable def sxX12_isBatch_5 : List UInt8 := 42 :: sxX12_isBatch_6
noncomputable def sxX12_isBatch_4 : List UInt8 := 27 :: sxX12_isBatch_5
noncomputable def sxX12_isBatch_1 : List UInt8 := 155 :: 0 :: 15 :: sxX12_isBatch_4
noncomputable def sxX12_isBatch_0 : List UInt8 := 27 :: sxX12_isBatch_1
theorem shX12_isBatch_0 : cX12_isBatch.data.toList.drop 0 = sxX12_isBatch_0 := rfl
theorem shX12_isBatch_1 : cX12_isBatch.data.toList.drop 1 = sxX12_isBatch_1 := dSn 1 shX12_isBatch_0
theorem shX12_isBatch_4 : cX12_isBatch.data.toList.drop 4 = sxX12_isBatch_4 := dSn 3 shX12_isBatch_1
theorem shX12_isBatch_5 : cX12_isBatch.data.toList.drop 5 = sxX12_isBatch_5 := dSn 1 shX12_isBatch_4
theorem shX12_isBatch_6 : cX12_isBatch.data.toList.drop 6 = sxX12_isBatch_6 := dSn 1 shX12_isBatch_5
theorem shX12_isBatch_9 : cX12_isBatch.data.toList.drop 9 = sxX12_isBatch_9 := dSn 3 shX12_isBatch_6
theorem shX12_isBatch_12 : cX12_isBatch.data.toList.drop 12 = sxX12_isBatch_12 := dSn 3 shX12_isBatch_9
theorem shX12_isBatch_13 : cX12_isBatch.data.toList.drop 13 = sxX12_isBatch_13 := dSn 1 shX12_isBatch_12
theorem shX12_isBatch_16 : cX12_isBatch.data.toList.drop 16 = sxX12_isBatch_16 := dSn 3 shX12_isBatch_13
theorem shX12_isBatch_17 : cX12_isBatch.data.toList.drop 17 = sxX12_isBatch_17 := dSn 1 shX12_isBatch_16
theorem dX12_isBatch_0 : decode cX12_isBatch 0 = .ok (.iload_n 1, 1) := oc_27 shX12_isBatch_0
theorem dX12_isBatch_1 : decode cX12_isBatch 1 = .ok (.ifCond .lt 15, 3) := oc_155 shX12_isBatch_1 sgw_0_15
theorem dX12_isBatch_4 : decode cX12_isBatch 4 = .ok (.iload_n 1, 1) := oc_27 shX12_isBatch_4
theorem dX12_isBatch_5 : decode cX12_isBatch 5 = .ok (.aload_n 0, 1) := oc_42 shX12_isBatch_5
theorem dX12_isBatch_6 : decode cX12_isBatch 6 = .ok (.getfield 435, 3) := oc_180 shX12_isBatch_6
theorem dX12_isBatch_9 : decode cX12_isBatch 9 = .ok (.if_icmp .ge 7, 3) := oc_162 shX12_isBatch_9 sgw_0_7
theorem dX12_isBatch_12 : decode cX12_isBatch 12 = .ok (.iconst 1, 1) := oc_4 shX12_isBatch_12
theorem dX12_isBatch_13 : decode cX12_isBatch 13 = .ok (.goto 4, 3) := oc_167 shX12_isBatch_13 sgw_0_4
theorem dX12_isBatch_16 : decode cX12_isBatch 16 = .ok (.iconst 0, 1) := oc_3 shX12_isBatch_16
theorem dX12_isBatch_17 : decode cX12_isBatch 17 = .ok (.ireturn, 1) := oc_172 shX12_isBatch_17
noncomputable def sxX12_litresOf_15 : List UInt8 := []
noncomputable def sxX12_litresOf_14 : List UInt8 := 172 :: sxX12_litresOf_15
noncomputable def sxX12_litresOf_11 : List UInt8 := 180 :: 1 :: 163 :: sxX12_litresOf_14
noncomputable def sxX12_litresOf_10 : List UInt8 := 42 :: sxX12_litresOf_11
noncomputable def sxX12_litresOf_7 : List UInt8 := 182 :: 1 :: 172 :: sxX12_litresOf_10
noncomputable def sxX12_litresOf_6 : List UInt8 := 46 :: sxX12_litresOf_7
noncomputable def sxX12_litresOf_5 : List UInt8 := 27 :: sxX12_litresOf_6
noncomputable def sxX12_litresOf_2 : List UInt8 := 180 :: 0 :: 138 :: sxX12_litresOf_5
noncomputable def sxX12_litresOf_1 : List UInt8 := 42 :: sxX12_litresOf_2
noncomputable def sxX12_litresOf_0 : List UInt8 := 42 :: sxX12_litresOf_1
theorem shX12_litresOf_0 : cX12_litresOf.data.toList.drop 0 = sxX12_litresOf_0 := rfl
theorem shX12_litresOf_1 : cX12_litresOf.data.toList.drop 1 = sxX12_litresOf_1 := dSn 1 shX12_litresOf_0
theorem shX12_litresOf_2 : cX12_litresOf.data.toList.drop 2 = sxX12_litresOf_2 := dSn 1 shX12_litresOf_1
theorem shX12_litresOf_5 : cX12_litresOf.data.toList.drop 5 = sxX12_litresOf_5 := dSn 3 shX12_litresOf_2
theorem shX12_litresOf_6 : cX12_litresOf.data.toList.drop 6 = sxX12_litresOf_6 := dSn 1 shX12_litresOf_5
theorem shX12_litresOf_7 : cX12_litresOf.data.toList.drop 7 = sxX12_litresOf_7 := dSn 1 shX12_litresOf_6
theorem shX12_litresOf_10 : cX12_litresOf.data.toList.drop 10 = sxX12_litresOf_10 := dSn 3 shX12_litresOf_7
theorem shX12_litresOf_11 : cX12_litresOf.data.toList.drop 11 = sxX12_litresOf_11 := dSn 1 shX12_litresOf_10
theorem shX12_litresOf_14 : cX12_litresOf.data.toList.drop 14 = sxX12_litresOf_14 := dSn 3 shX12_litresOf_11
theorem dX12_litresOf_0 : decode cX12_litresOf 0 = .ok (.aload_n 0, 1) := oc_42 shX12_litresOf_0
theorem dX12_litresOf_1 : decode cX12_litresOf 1 = .ok (.aload_n 0, 1) := oc_42 shX12_litresOf_1
theorem dX12_litresOf_2 : decode cX12_litresOf 2 = .ok (.getfield 138, 3) := oc_180 shX12_litresOf_2
theorem dX12_litresOf_5 : decode cX12_litresOf 5 = .ok (.iload_n 1, 1) := oc_27 shX12_litresOf_5
theorem dX12_litresOf_6 : decode cX12_litresOf 6 = .ok (.iaload, 1) := oc_46 shX12_litresOf_6
theorem dX12_litresOf_7 : decode cX12_litresOf 7 = .ok (.invokevirtual 428, 3) := oc_182 shX12_litresOf_7
theorem dX12_litresOf_10 : decode cX12_litresOf 10 = .ok (.aload_n 0, 1) := oc_42 shX12_litresOf_10
theorem dX12_litresOf_11 : decode cX12_litresOf 11 = .ok (.getfield 419, 3) := oc_180 shX12_litresOf_11
theorem dX12_litresOf_14 : decode cX12_litresOf 14 = .ok (.ireturn, 1) := oc_172 shX12_litresOf_14
noncomputable def sxX12_proved_124 : List UInt8 := []
noncomputable def sxX12_proved_123 : List UInt8 := 172 :: sxX12_proved_124
noncomputable def sxX12_proved_122 : List UInt8 := 29 :: sxX12_proved_123
noncomputable def sxX12_proved_119 : List UInt8 := 167 :: 255 :: 149 :: sxX12_proved_122
noncomputable def sxX12_proved_116 : List UInt8 := 132 :: 5 :: 1 :: sxX12_proved_119
noncomputable def sxX12_proved_115 : List UInt8 := 62 :: sxX12_proved_116
noncomputable def sxX12_proved_114 : List UInt8 := 96 :: sxX12_proved_115
noncomputable def sxX12_proved_113 : List UInt8 := 3 :: sxX12_proved_114
noncomputable def sxX12_proved_110 : List UInt8 := 167 :: 0 :: 4 :: sxX12_proved_113
noncomputable def sxX12_proved_109 : List UInt8 := 4 :: sxX12_proved_110
noncomputable def sxX12_proved_106 : List UInt8 := 153 :: 0 :: 7 :: sxX12_proved_109
noncomputable def sxX12_proved_104 : List UInt8 := 21 :: 6 :: sxX12_proved_106
noncomputable def sxX12_proved_103 : List UInt8 := 29 :: sxX12_proved_104
noncomputable def sxX12_proved_100 : List UInt8 := 167 :: 255 :: 181 :: sxX12_proved_103
noncomputable def sxX12_proved_97 : List UInt8 := 132 :: 7 :: 1 :: sxX12_proved_100
noncomputable def sxX12_proved_95 : List UInt8 := 54 :: 6 :: sxX12_proved_97
noncomputable def sxX12_proved_94 : List UInt8 := 3 :: sxX12_proved_95
noncomputable def sxX12_proved_91 : List UInt8 := 167 :: 0 :: 4 :: sxX12_proved_94
noncomputable def sxX12_proved_90 : List UInt8 := 4 :: sxX12_proved_91
noncomputable def sxX12_proved_87 : List UInt8 := 160 :: 0 :: 7 :: sxX12_proved_90
noncomputable def sxX12_proved_86 : List UInt8 := 28 :: sxX12_proved_87
noncomputable def sxX12_proved_85 : List UInt8 := 46 :: sxX12_proved_86
noncomputable def sxX12_proved_83 : List UInt8 := 21 :: 7 :: sxX12_proved_85
noncomputable def sxX12_proved_80 : List UInt8 := 180 :: 0 :: 156 :: sxX12_proved_83
noncomputable def sxX12_proved_79 : List UInt8 := 42 :: sxX12_proved_80
noncomputable def sxX12_proved_76 : List UInt8 := 159 :: 0 :: 14 :: sxX12_proved_79
noncomputable def sxX12_proved_75 : List UInt8 := 2 :: sxX12_proved_76
noncomputable def sxX12_proved_74 : List UInt8 := 28 :: sxX12_proved_75
noncomputable def sxX12_proved_71 : List UInt8 := 162 :: 0 :: 23 :: sxX12_proved_74
noncomputable def sxX12_proved_70 : List UInt8 := 46 :: sxX12_proved_71
noncomputable def sxX12_proved_68 : List UInt8 := 21 :: 7 :: sxX12_proved_70
noncomputable def sxX12_proved_65 : List UInt8 := 180 :: 0 :: 153 :: sxX12_proved_68
noncomputable def sxX12_proved_64 : List UInt8 := 42 :: sxX12_proved_65
noncomputable def sxX12_proved_62 : List UInt8 := 21 :: 5 :: sxX12_proved_64
noncomputable def sxX12_proved_59 : List UInt8 := 161 :: 0 :: 35 :: sxX12_proved_62
noncomputable def sxX12_proved_58 : List UInt8 := 46 :: sxX12_proved_59
noncomputable def sxX12_proved_56 : List UInt8 := 21 :: 7 :: sxX12_proved_58
noncomputable def sxX12_proved_53 : List UInt8 := 180 :: 0 :: 150 :: sxX12_proved_56
noncomputable def sxX12_proved_52 : List UInt8 := 42 :: sxX12_proved_53
noncomputable def sxX12_proved_50 : List UInt8 := 21 :: 5 :: sxX12_proved_52
noncomputable def sxX12_proved_47 : List UInt8 := 160 :: 0 :: 47 :: sxX12_proved_50
noncomputable def sxX12_proved_46 : List UInt8 := 27 :: sxX12_proved_47
noncomputable def sxX12_proved_45 : List UInt8 := 46 :: sxX12_proved_46
noncomputable def sxX12_proved_43 : List UInt8 := 21 :: 7 :: sxX12_proved_45
noncomputable def sxX12_proved_40 : List UInt8 := 180 :: 0 :: 147 :: sxX12_proved_43
noncomputable def sxX12_proved_39 : List UInt8 := 42 :: sxX12_proved_40
noncomputable def sxX12_proved_36 : List UInt8 := 154 :: 0 :: 54 :: sxX12_proved_39
noncomputable def sxX12_proved_34 : List UInt8 := 21 :: 6 :: sxX12_proved_36
noncomputable def sxX12_proved_31 : List UInt8 := 162 :: 0 :: 72 :: sxX12_proved_34
noncomputable def sxX12_proved_28 : List UInt8 := 180 :: 1 :: 191 :: sxX12_proved_31
noncomputable def sxX12_proved_27 : List UInt8 := 42 :: sxX12_proved_28
noncomputable def sxX12_proved_25 : List UInt8 := 21 :: 7 :: sxX12_proved_27
noncomputable def sxX12_proved_23 : List UInt8 := 54 :: 7 :: sxX12_proved_25
noncomputable def sxX12_proved_22 : List UInt8 := 3 :: sxX12_proved_23
noncomputable def sxX12_proved_20 : List UInt8 := 54 :: 6 :: sxX12_proved_22
noncomputable def sxX12_proved_19 : List UInt8 := 3 :: sxX12_proved_20
noncomputable def sxX12_proved_16 : List UInt8 := 162 :: 0 :: 106 :: sxX12_proved_19
noncomputable def sxX12_proved_14 : List UInt8 := 21 :: 4 :: sxX12_proved_16
noncomputable def sxX12_proved_12 : List UInt8 := 21 :: 5 :: sxX12_proved_14
noncomputable def sxX12_proved_10 : List UInt8 := 54 :: 5 :: sxX12_proved_12
noncomputable def sxX12_proved_9 : List UInt8 := 3 :: sxX12_proved_10
noncomputable def sxX12_proved_7 : List UInt8 := 54 :: 4 :: sxX12_proved_9
noncomputable def sxX12_proved_4 : List UInt8 := 182 :: 1 :: 188 :: sxX12_proved_7
noncomputable def sxX12_proved_3 : List UInt8 := 27 :: sxX12_proved_4
noncomputable def sxX12_proved_2 : List UInt8 := 42 :: sxX12_proved_3
noncomputable def sxX12_proved_1 : List UInt8 := 62 :: sxX12_proved_2
noncomputable def sxX12_proved_0 : List UInt8 := 3 :: sxX12_proved_1
theorem shX12_proved_0 : cX12_proved.data.toList.drop 0 = sxX12_proved_0 := rfl
theorem shX12_proved_1 : cX12_proved.data.toList.drop 1 = sxX12_proved_1 := dSn 1 shX12_proved_0
theorem shX12_proved_2 : cX12_proved.data.toList.drop 2 = sxX12_proved_2 := dSn 1 shX12_proved_1
theorem shX12_proved_3 : cX12_proved.data.toList.drop 3 = sxX12_proved_3 := dSn 1 shX12_proved_2
theorem shX12_proved_4 : cX12_proved.data.toList.drop 4 = sxX12_proved_4 := dSn 1 shX12_proved_3
theorem shX12_proved_7 : cX12_proved.data.toList.drop 7 = sxX12_proved_7 := dSn 3 shX12_proved_4
theorem shX12_proved_9 : cX12_proved.data.toList.drop 9 = sxX12_proved_9 := dSn 2 shX12_proved_7
theorem shX12_proved_10 : cX12_proved.data.toList.drop 10 = sxX12_proved_10 := dSn 1 shX12_proved_9
theorem shX12_proved_12 : cX12_proved.data.toList.drop 12 = sxX12_proved_12 := dSn 2 shX12_proved_10
theorem shX12_proved_14 : cX12_proved.data.toList.drop 14 = sxX12_proved_14 := dSn 2 shX12_proved_12
theorem shX12_proved_16 : cX12_proved.data.toList.drop 16 = sxX12_proved_16 := dSn 2 shX12_proved_14
theorem shX12_proved_19 : cX12_proved.data.toList.drop 19 = sxX12_proved_19 := dSn 3 shX12_proved_16
theorem shX12_proved_20 : cX12_proved.data.toList.drop 20 = sxX12_proved_20 := dSn 1 shX12_proved_19
theorem shX12_proved_22 : cX12_proved.data.toList.drop 22 = sxX12_proved_22 := dSn 2 shX12_proved_20
theorem shX12_proved_23 : cX12_proved.data.toList.drop 23 = sxX12_proved_23 := dSn 1 shX12_proved_22
theorem shX12_proved_25 : cX12_proved.data.toList.drop 25 = sxX12_proved_25 := dSn 2 shX12_proved_23
theorem shX12_proved_27 : cX12_proved.data.toList.drop 27 = sxX12_proved_27 := dSn 2 shX12_proved_25
theorem shX12_proved_28 : cX12_proved.data.toList.drop 28 = sxX12_proved_28 := dSn 1 shX12_proved_27
theorem shX12_proved_31 : cX12_proved.data.toList.drop 31 = sxX12_proved_31 := dSn 3 shX12_proved_28
theorem shX12_proved_34 : cX12_proved.data.toList.drop 34 = sxX12_proved_34 := dSn 3 shX12_proved_31
theorem shX12_proved_36 : cX12_proved.data.toList.drop 36 = sxX12_proved_36 := dSn 2 shX12_proved_34
theorem shX12_proved_39 : cX12_proved.data.toList.drop 39 = sxX12_proved_39 := dSn 3 shX12_proved_36
theorem shX12_proved_40 : cX12_proved.data.toList.drop 40 = sxX12_proved_40 := dSn 1 shX12_proved_39
theorem shX12_proved_43 : cX12_proved.data.toList.drop 43 = sxX12_proved_43 := dSn 3 shX12_proved_40
theorem shX12_proved_45 : cX12_proved.data.toList.drop 45 = sxX12_proved_45 := dSn 2 shX12_proved_43
theorem shX12_proved_46 : cX12_proved.data.toList.drop 46 = sxX12_proved_46 := dSn 1 shX12_proved_45
theorem shX12_proved_47 : cX12_proved.data.toList.drop 47 = sxX12_proved_47 := dSn 1 shX12_proved_46
theorem shX12_proved_50 : cX12_proved.data.toList.drop 50 = sxX12_proved_50 := dSn 3 shX12_proved_47
theorem shX12_proved_52 : cX12_proved.data.toList.drop 52 = sxX12_proved_52 := dSn 2 shX12_proved_50
theorem shX12_proved_53 : cX12_proved.data.toList.drop 53 = sxX12_proved_53 := dSn 1 shX12_proved_52
theorem shX12_proved_56 : cX12_proved.data.toList.drop 56 = sxX12_proved_56 := dSn 3 shX12_proved_53
theorem shX12_proved_58 : cX12_proved.data.toList.drop 58 = sxX12_proved_58 := dSn 2 shX12_proved_56
theorem shX12_proved_59 : cX12_proved.data.toList.drop 59 = sxX12_proved_59 := dSn 1 shX12_proved_58
theorem shX12_proved_62 : cX12_proved.data.toList.drop 62 = sxX12_proved_62 := dSn 3 shX12_proved_59
theorem shX12_proved_64 : cX12_proved.data.toList.drop 64 = sxX12_proved_64 := dSn 2 shX12_proved_62
theorem shX12_proved_65 : cX12_proved.data.toList.drop 65 = sxX12_proved_65 := dSn 1 shX12_proved_64
theorem shX12_proved_68 : cX12_proved.data.toList.drop 68 = sxX12_proved_68 := dSn 3 shX12_proved_65
theorem shX12_proved_70 : cX12_proved.data.toList.drop 70 = sxX12_proved_70 := dSn 2 shX12_proved_68
theorem shX12_proved_71 : cX12_proved.data.toList.drop 71 = sxX12_proved_71 := dSn 1 shX12_proved_70
theorem shX12_proved_74 : cX12_proved.data.toList.drop 74 = sxX12_proved_74 := dSn 3 shX12_proved_71
theorem shX12_proved_75 : cX12_proved.data.toList.drop 75 = sxX12_proved_75 := dSn 1 shX12_proved_74
theorem shX12_proved_76 : cX12_proved.data.toList.drop 76 = sxX12_proved_76 := dSn 1 shX12_proved_75
theorem shX12_proved_79 : cX12_proved.data.toList.drop 79 = sxX12_proved_79 := dSn 3 shX12_proved_76
theorem shX12_proved_80 : cX12_proved.data.toList.drop 80 = sxX12_proved_80 := dSn 1 shX12_proved_79
theorem shX12_proved_83 : cX12_proved.data.toList.drop 83 = sxX12_proved_83 := dSn 3 shX12_proved_80
theorem shX12_proved_85 : cX12_proved.data.toList.drop 85 = sxX12_proved_85 := dSn 2 shX12_proved_83
theorem shX12_proved_86 : cX12_proved.data.toList.drop 86 = sxX12_proved_86 := dSn 1 shX12_proved_85
theorem shX12_proved_87 : cX12_proved.data.toList.drop 87 = sxX12_proved_87 := dSn 1 shX12_proved_86
theorem shX12_proved_90 : cX12_proved.data.toList.drop 90 = sxX12_proved_90 := dSn 3 shX12_proved_87
theorem shX12_proved_91 : cX12_proved.data.toList.drop 91 = sxX12_proved_91 := dSn 1 shX12_proved_90
theorem shX12_proved_94 : cX12_proved.data.toList.drop 94 = sxX12_proved_94 := dSn 3 shX12_proved_91
theorem shX12_proved_95 : cX12_proved.data.toList.drop 95 = sxX12_proved_95 := dSn 1 shX12_proved_94
theorem shX12_proved_97 : cX12_proved.data.toList.drop 97 = sxX12_proved_97 := dSn 2 shX12_proved_95
theorem shX12_proved_100 : cX12_proved.data.toList.drop 100 = sxX12_proved_100 := dSn 3 shX12_proved_97
theorem shX12_proved_103 : cX12_proved.data.toList.drop 103 = sxX12_proved_103 := dSn 3 shX12_proved_100
theorem shX12_proved_104 : cX12_proved.data.toList.drop 104 = sxX12_proved_104 := dSn 1 shX12_proved_103
theorem shX12_proved_106 : cX12_proved.data.toList.drop 106 = sxX12_proved_106 := dSn 2 shX12_proved_104
theorem shX12_proved_109 : cX12_proved.data.toList.drop 109 = sxX12_proved_109 := dSn 3 shX12_proved_106
theorem shX12_proved_110 : cX12_proved.data.toList.drop 110 = sxX12_proved_110 := dSn 1 shX12_proved_109
theorem shX12_proved_113 : cX12_proved.data.toList.drop 113 = sxX12_proved_113 := dSn 3 shX12_proved_110
theorem shX12_proved_114 : cX12_proved.data.toList.drop 114 = sxX12_proved_114 := dSn 1 shX12_proved_113
theorem shX12_proved_115 : cX12_proved.data.toList.drop 115 = sxX12_proved_115 := dSn 1 shX12_proved_114
theorem shX12_proved_116 : cX12_proved.data.toList.drop 116 = sxX12_proved_116 := dSn 1 shX12_proved_115
theorem shX12_proved_119 : cX12_proved.data.toList.drop 119 = sxX12_proved_119 := dSn 3 shX12_proved_116
theorem shX12_proved_122 : cX12_proved.data.toList.drop 122 = sxX12_proved_122 := dSn 3 shX12_proved_119
theorem shX12_proved_123 : cX12_proved.data.toList.drop 123 = sxX12_proved_123 := dSn 1 shX12_proved_122
theorem dX12_proved_0 : decode cX12_proved 0 = .ok (.iconst 0, 1) := oc_3 shX12_proved_0
theorem dX12_proved_1 : decode cX12_proved 1 = .ok (.istore_n 3, 1) := oc_62 shX12_proved_1
theorem dX12_proved_2 : decode cX12_proved 2 = .ok (.aload_n 0, 1) := oc_42 shX12_proved_2
theorem dX12_proved_3 : decode cX12_proved 3 = .ok (.iload_n 1, 1) := oc_27 shX12_proved_3
theorem dX12_proved_4 : decode cX12_proved 4 = .ok (.invokevirtual 444, 3) := oc_182 shX12_proved_4
theorem dX12_proved_7 : decode cX12_proved 7 = .ok (.istore 4, 2) := oc_54 shX12_proved_7
theorem dX12_proved_9 : decode cX12_proved 9 = .ok (.iconst 0, 1) := oc_3 shX12_proved_9
theorem dX12_proved_10 : decode cX12_proved 10 = .ok (.istore 5, 2) := oc_54 shX12_proved_10
theorem dX12_proved_12 : decode cX12_proved 12 = .ok (.iload 5, 2) := oc_21 shX12_proved_12
theorem dX12_proved_14 : decode cX12_proved 14 = .ok (.iload 4, 2) := oc_21 shX12_proved_14
theorem dX12_proved_16 : decode cX12_proved 16 = .ok (.if_icmp .ge 106, 3) := oc_162 shX12_proved_16 sgw_0_106
theorem dX12_proved_19 : decode cX12_proved 19 = .ok (.iconst 0, 1) := oc_3 shX12_proved_19
theorem dX12_proved_20 : decode cX12_proved 20 = .ok (.istore 6, 2) := oc_54 shX12_proved_20
theorem dX12_proved_22 : decode cX12_proved 22 = .ok (.iconst 0, 1) := oc_3 shX12_proved_22
theorem dX12_proved_23 : decode cX12_proved 23 = .ok (.istore 7, 2) := oc_54 shX12_proved_23
theorem dX12_proved_25 : decode cX12_proved 25 = .ok (.iload 7, 2) := oc_21 shX12_proved_25
theorem dX12_proved_27 : decode cX12_proved 27 = .ok (.aload_n 0, 1) := oc_42 shX12_proved_27
theorem dX12_proved_28 : decode cX12_proved 28 = .ok (.getfield 447, 3) := oc_180 shX12_proved_28
theorem dX12_proved_31 : decode cX12_proved 31 = .ok (.if_icmp .ge 72, 3) := oc_162 shX12_proved_31 sgw_0_72
theorem dX12_proved_34 : decode cX12_proved 34 = .ok (.iload 6, 2) := oc_21 shX12_proved_34
theorem dX12_proved_36 : decode cX12_proved 36 = .ok (.ifCond .ne 54, 3) := oc_154 shX12_proved_36 sgw_0_54
theorem dX12_proved_39 : decode cX12_proved 39 = .ok (.aload_n 0, 1) := oc_42 shX12_proved_39
theorem dX12_proved_40 : decode cX12_proved 40 = .ok (.getfield 147, 3) := oc_180 shX12_proved_40
theorem dX12_proved_43 : decode cX12_proved 43 = .ok (.iload 7, 2) := oc_21 shX12_proved_43
theorem dX12_proved_45 : decode cX12_proved 45 = .ok (.iaload, 1) := oc_46 shX12_proved_45
theorem dX12_proved_46 : decode cX12_proved 46 = .ok (.iload_n 1, 1) := oc_27 shX12_proved_46
theorem dX12_proved_47 : decode cX12_proved 47 = .ok (.if_icmp .ne 47, 3) := oc_160 shX12_proved_47 sgw_0_47
theorem dX12_proved_50 : decode cX12_proved 50 = .ok (.iload 5, 2) := oc_21 shX12_proved_50
theorem dX12_proved_52 : decode cX12_proved 52 = .ok (.aload_n 0, 1) := oc_42 shX12_proved_52
theorem dX12_proved_53 : decode cX12_proved 53 = .ok (.getfield 150, 3) := oc_180 shX12_proved_53
theorem dX12_proved_56 : decode cX12_proved 56 = .ok (.iload 7, 2) := oc_21 shX12_proved_56
theorem dX12_proved_58 : decode cX12_proved 58 = .ok (.iaload, 1) := oc_46 shX12_proved_58
theorem dX12_proved_59 : decode cX12_proved 59 = .ok (.if_icmp .lt 35, 3) := oc_161 shX12_proved_59 sgw_0_35
theorem dX12_proved_62 : decode cX12_proved 62 = .ok (.iload 5, 2) := oc_21 shX12_proved_62
theorem dX12_proved_64 : decode cX12_proved 64 = .ok (.aload_n 0, 1) := oc_42 shX12_proved_64
theorem dX12_proved_65 : decode cX12_proved 65 = .ok (.getfield 153, 3) := oc_180 shX12_proved_65
theorem dX12_proved_68 : decode cX12_proved 68 = .ok (.iload 7, 2) := oc_21 shX12_proved_68
theorem dX12_proved_70 : decode cX12_proved 70 = .ok (.iaload, 1) := oc_46 shX12_proved_70
theorem dX12_proved_71 : decode cX12_proved 71 = .ok (.if_icmp .ge 23, 3) := oc_162 shX12_proved_71 sgw_0_23
theorem dX12_proved_74 : decode cX12_proved 74 = .ok (.iload_n 2, 1) := oc_28 shX12_proved_74
theorem dX12_proved_75 : decode cX12_proved 75 = .ok (.iconst (-1), 1) := oc_2 shX12_proved_75
theorem dX12_proved_76 : decode cX12_proved 76 = .ok (.if_icmp .eq 14, 3) := oc_159 shX12_proved_76 sgw_0_14
theorem dX12_proved_79 : decode cX12_proved 79 = .ok (.aload_n 0, 1) := oc_42 shX12_proved_79
theorem dX12_proved_80 : decode cX12_proved 80 = .ok (.getfield 156, 3) := oc_180 shX12_proved_80
theorem dX12_proved_83 : decode cX12_proved 83 = .ok (.iload 7, 2) := oc_21 shX12_proved_83
theorem dX12_proved_85 : decode cX12_proved 85 = .ok (.iaload, 1) := oc_46 shX12_proved_85
theorem dX12_proved_86 : decode cX12_proved 86 = .ok (.iload_n 2, 1) := oc_28 shX12_proved_86
theorem dX12_proved_87 : decode cX12_proved 87 = .ok (.if_icmp .ne 7, 3) := oc_160 shX12_proved_87 sgw_0_7
theorem dX12_proved_90 : decode cX12_proved 90 = .ok (.iconst 1, 1) := oc_4 shX12_proved_90
theorem dX12_proved_91 : decode cX12_proved 91 = .ok (.goto 4, 3) := oc_167 shX12_proved_91 sgw_0_4
theorem dX12_proved_94 : decode cX12_proved 94 = .ok (.iconst 0, 1) := oc_3 shX12_proved_94
theorem dX12_proved_95 : decode cX12_proved 95 = .ok (.istore 6, 2) := oc_54 shX12_proved_95
theorem dX12_proved_97 : decode cX12_proved 97 = .ok (.iinc 7 1, 3) := oc_132 shX12_proved_97 sgb_1
theorem dX12_proved_100 : decode cX12_proved 100 = .ok (.goto (-75), 3) := oc_167 shX12_proved_100 sgw_255_181
theorem dX12_proved_103 : decode cX12_proved 103 = .ok (.iload_n 3, 1) := oc_29 shX12_proved_103
theorem dX12_proved_104 : decode cX12_proved 104 = .ok (.iload 6, 2) := oc_21 shX12_proved_104
theorem dX12_proved_106 : decode cX12_proved 106 = .ok (.ifCond .eq 7, 3) := oc_153 shX12_proved_106 sgw_0_7
theorem dX12_proved_109 : decode cX12_proved 109 = .ok (.iconst 1, 1) := oc_4 shX12_proved_109
theorem dX12_proved_110 : decode cX12_proved 110 = .ok (.goto 4, 3) := oc_167 shX12_proved_110 sgw_0_4
theorem dX12_proved_113 : decode cX12_proved 113 = .ok (.iconst 0, 1) := oc_3 shX12_proved_113
theorem dX12_proved_114 : decode cX12_proved 114 = .ok (.iadd, 1) := oc_96 shX12_proved_114
theorem dX12_proved_115 : decode cX12_proved 115 = .ok (.istore_n 3, 1) := oc_62 shX12_proved_115
theorem dX12_proved_116 : decode cX12_proved 116 = .ok (.iinc 5 1, 3) := oc_132 shX12_proved_116 sgb_1
theorem dX12_proved_119 : decode cX12_proved 119 = .ok (.goto (-107), 3) := oc_167 shX12_proved_119 sgw_255_149
theorem dX12_proved_122 : decode cX12_proved 122 = .ok (.iload_n 3, 1) := oc_29 shX12_proved_122
theorem dX12_proved_123 : decode cX12_proved 123 = .ok (.ireturn, 1) := oc_172 shX12_proved_123
noncomputable def sxX12_batchIs_95 : List UInt8 := []
noncomputable def sxX12_batchIs_94 : List UInt8 := 172 :: sxX12_batchIs_95
noncomputable def sxX12_batchIs_93 : List UInt8 := 46 :: sxX12_batchIs_94
noncomputable def sxX12_batchIs_92 : List UInt8 := 27 :: sxX12_batchIs_93
noncomputable def sxX12_batchIs_89 : List UInt8 := 180 :: 0 :: 138 :: sxX12_batchIs_92
noncomputable def sxX12_batchIs_88 : List UInt8 := 42 :: sxX12_batchIs_89
noncomputable def sxX12_batchIs_87 : List UInt8 := 172 :: sxX12_batchIs_88
noncomputable def sxX12_batchIs_86 : List UInt8 := 100 :: sxX12_batchIs_87
noncomputable def sxX12_batchIs_83 : List UInt8 := 182 :: 1 :: 197 :: sxX12_batchIs_86
noncomputable def sxX12_batchIs_82 : List UInt8 := 2 :: sxX12_batchIs_83
noncomputable def sxX12_batchIs_81 : List UInt8 := 27 :: sxX12_batchIs_82
noncomputable def sxX12_batchIs_80 : List UInt8 := 42 :: sxX12_batchIs_81
noncomputable def sxX12_batchIs_77 : List UInt8 := 182 :: 1 :: 188 :: sxX12_batchIs_80
noncomputable def sxX12_batchIs_76 : List UInt8 := 27 :: sxX12_batchIs_77
noncomputable def sxX12_batchIs_75 : List UInt8 := 42 :: sxX12_batchIs_76
noncomputable def sxX12_batchIs_74 : List UInt8 := 172 :: sxX12_batchIs_75
noncomputable def sxX12_batchIs_71 : List UInt8 := 180 :: 1 :: 169 :: sxX12_batchIs_74
noncomputable def sxX12_batchIs_70 : List UInt8 := 42 :: sxX12_batchIs_71
noncomputable def sxX12_batchIs_69 : List UInt8 := 172 :: sxX12_batchIs_70
noncomputable def sxX12_batchIs_66 : List UInt8 := 180 :: 1 :: 166 :: sxX12_batchIs_69
noncomputable def sxX12_batchIs_65 : List UInt8 := 42 :: sxX12_batchIs_66
noncomputable def sxX12_batchIs_64 : List UInt8 := 172 :: sxX12_batchIs_65
noncomputable def sxX12_batchIs_61 : List UInt8 := 180 :: 1 :: 163 :: sxX12_batchIs_64
noncomputable def sxX12_batchIs_60 : List UInt8 := 42 :: sxX12_batchIs_61
noncomputable def sxX12_batchIs_30 : List UInt8 := 170 :: 0 :: 0 :: 0 :: 0 :: 58 :: 0 :: 0 :: 0 :: 0 :: 0 :: 0 :: 0 :: 3 :: 0 :: 0 :: 0 :: 30 :: 0 :: 0 :: 0 :: 35 :: 0 :: 0 :: 0 :: 40 :: 0 :: 0 :: 0 :: 45 :: sxX12_batchIs_60
noncomputable def sxX12_batchIs_29 : List UInt8 := 28 :: sxX12_batchIs_30
noncomputable def sxX12_batchIs_26 : List UInt8 := 182 :: 1 :: 172 :: sxX12_batchIs_29
noncomputable def sxX12_batchIs_25 : List UInt8 := 46 :: sxX12_batchIs_26
noncomputable def sxX12_batchIs_24 : List UInt8 := 27 :: sxX12_batchIs_25
noncomputable def sxX12_batchIs_21 : List UInt8 := 180 :: 0 :: 138 :: sxX12_batchIs_24
noncomputable def sxX12_batchIs_20 : List UInt8 := 42 :: sxX12_batchIs_21
noncomputable def sxX12_batchIs_19 : List UInt8 := 42 :: sxX12_batchIs_20
noncomputable def sxX12_batchIs_18 : List UInt8 := 172 :: sxX12_batchIs_19
noncomputable def sxX12_batchIs_17 : List UInt8 := 2 :: sxX12_batchIs_18
noncomputable def sxX12_batchIs_14 : List UInt8 := 154 :: 0 :: 5 :: sxX12_batchIs_17
noncomputable def sxX12_batchIs_11 : List UInt8 := 184 :: 0 :: 214 :: sxX12_batchIs_14
noncomputable def sxX12_batchIs_10 : List UInt8 := 7 :: sxX12_batchIs_11
noncomputable def sxX12_batchIs_9 : List UInt8 := 3 :: sxX12_batchIs_10
noncomputable def sxX12_batchIs_8 : List UInt8 := 28 :: sxX12_batchIs_9
noncomputable def sxX12_batchIs_5 : List UInt8 := 153 :: 0 :: 12 :: sxX12_batchIs_8
noncomputable def sxX12_batchIs_2 : List UInt8 := 182 :: 1 :: 194 :: sxX12_batchIs_5
noncomputable def sxX12_batchIs_1 : List UInt8 := 27 :: sxX12_batchIs_2
noncomputable def sxX12_batchIs_0 : List UInt8 := 42 :: sxX12_batchIs_1
theorem shX12_batchIs_0 : cX12_batchIs.data.toList.drop 0 = sxX12_batchIs_0 := rfl
theorem shX12_batchIs_1 : cX12_batchIs.data.toList.drop 1 = sxX12_batchIs_1 := dSn 1 shX12_batchIs_0
theorem shX12_batchIs_2 : cX12_batchIs.data.toList.drop 2 = sxX12_batchIs_2 := dSn 1 shX12_batchIs_1
theorem shX12_batchIs_5 : cX12_batchIs.data.toList.drop 5 = sxX12_batchIs_5 := dSn 3 shX12_batchIs_2
theorem shX12_batchIs_8 : cX12_batchIs.data.toList.drop 8 = sxX12_batchIs_8 := dSn 3 shX12_batchIs_5
theorem shX12_batchIs_9 : cX12_batchIs.data.toList.drop 9 = sxX12_batchIs_9 := dSn 1 shX12_batchIs_8
theorem shX12_batchIs_10 : cX12_batchIs.data.toList.drop 10 = sxX12_batchIs_10 := dSn 1 shX12_batchIs_9
theorem shX12_batchIs_11 : cX12_batchIs.data.toList.drop 11 = sxX12_batchIs_11 := dSn 1 shX12_batchIs_10
theorem shX12_batchIs_14 : cX12_batchIs.data.toList.drop 14 = sxX12_batchIs_14 := dSn 3 shX12_batchIs_11
theorem shX12_batchIs_17 : cX12_batchIs.data.toList.drop 17 = sxX12_batchIs_17 := dSn 3 shX12_batchIs_14
theorem shX12_batchIs_18 : cX12_batchIs.data.toList.drop 18 = sxX12_batchIs_18 := dSn 1 shX12_batchIs_17
theorem shX12_batchIs_19 : cX12_batchIs.data.toList.drop 19 = sxX12_batchIs_19 := dSn 1 shX12_batchIs_18
theorem shX12_batchIs_20 : cX12_batchIs.data.toList.drop 20 = sxX12_batchIs_20 := dSn 1 shX12_batchIs_19
theorem shX12_batchIs_21 : cX12_batchIs.data.toList.drop 21 = sxX12_batchIs_21 := dSn 1 shX12_batchIs_20
theorem shX12_batchIs_24 : cX12_batchIs.data.toList.drop 24 = sxX12_batchIs_24 := dSn 3 shX12_batchIs_21
theorem shX12_batchIs_25 : cX12_batchIs.data.toList.drop 25 = sxX12_batchIs_25 := dSn 1 shX12_batchIs_24
theorem shX12_batchIs_26 : cX12_batchIs.data.toList.drop 26 = sxX12_batchIs_26 := dSn 1 shX12_batchIs_25
theorem shX12_batchIs_29 : cX12_batchIs.data.toList.drop 29 = sxX12_batchIs_29 := dSn 3 shX12_batchIs_26
theorem shX12_batchIs_30 : cX12_batchIs.data.toList.drop 30 = sxX12_batchIs_30 := dSn 1 shX12_batchIs_29
theorem shX12_batchIs_60 : cX12_batchIs.data.toList.drop 60 = sxX12_batchIs_60 := dSn 30 shX12_batchIs_30
theorem shX12_batchIs_61 : cX12_batchIs.data.toList.drop 61 = sxX12_batchIs_61 := dSn 1 shX12_batchIs_60
theorem shX12_batchIs_64 : cX12_batchIs.data.toList.drop 64 = sxX12_batchIs_64 := dSn 3 shX12_batchIs_61
theorem shX12_batchIs_65 : cX12_batchIs.data.toList.drop 65 = sxX12_batchIs_65 := dSn 1 shX12_batchIs_64
theorem shX12_batchIs_66 : cX12_batchIs.data.toList.drop 66 = sxX12_batchIs_66 := dSn 1 shX12_batchIs_65
theorem shX12_batchIs_69 : cX12_batchIs.data.toList.drop 69 = sxX12_batchIs_69 := dSn 3 shX12_batchIs_66
theorem shX12_batchIs_70 : cX12_batchIs.data.toList.drop 70 = sxX12_batchIs_70 := dSn 1 shX12_batchIs_69
theorem shX12_batchIs_71 : cX12_batchIs.data.toList.drop 71 = sxX12_batchIs_71 := dSn 1 shX12_batchIs_70
theorem shX12_batchIs_74 : cX12_batchIs.data.toList.drop 74 = sxX12_batchIs_74 := dSn 3 shX12_batchIs_71
theorem shX12_batchIs_75 : cX12_batchIs.data.toList.drop 75 = sxX12_batchIs_75 := dSn 1 shX12_batchIs_74
theorem shX12_batchIs_76 : cX12_batchIs.data.toList.drop 76 = sxX12_batchIs_76 := dSn 1 shX12_batchIs_75
theorem shX12_batchIs_77 : cX12_batchIs.data.toList.drop 77 = sxX12_batchIs_77 := dSn 1 shX12_batchIs_76
theorem shX12_batchIs_80 : cX12_batchIs.data.toList.drop 80 = sxX12_batchIs_80 := dSn 3 shX12_batchIs_77
theorem shX12_batchIs_81 : cX12_batchIs.data.toList.drop 81 = sxX12_batchIs_81 := dSn 1 shX12_batchIs_80
theorem shX12_batchIs_82 : cX12_batchIs.data.toList.drop 82 = sxX12_batchIs_82 := dSn 1 shX12_batchIs_81
theorem shX12_batchIs_83 : cX12_batchIs.data.toList.drop 83 = sxX12_batchIs_83 := dSn 1 shX12_batchIs_82
theorem shX12_batchIs_86 : cX12_batchIs.data.toList.drop 86 = sxX12_batchIs_86 := dSn 3 shX12_batchIs_83
theorem shX12_batchIs_87 : cX12_batchIs.data.toList.drop 87 = sxX12_batchIs_87 := dSn 1 shX12_batchIs_86
theorem shX12_batchIs_88 : cX12_batchIs.data.toList.drop 88 = sxX12_batchIs_88 := dSn 1 shX12_batchIs_87
theorem shX12_batchIs_89 : cX12_batchIs.data.toList.drop 89 = sxX12_batchIs_89 := dSn 1 shX12_batchIs_88
theorem shX12_batchIs_92 : cX12_batchIs.data.toList.drop 92 = sxX12_batchIs_92 := dSn 3 shX12_batchIs_89
theorem shX12_batchIs_93 : cX12_batchIs.data.toList.drop 93 = sxX12_batchIs_93 := dSn 1 shX12_batchIs_92
theorem shX12_batchIs_94 : cX12_batchIs.data.toList.drop 94 = sxX12_batchIs_94 := dSn 1 shX12_batchIs_93
theorem dX12_batchIs_0 : decode cX12_batchIs 0 = .ok (.aload_n 0, 1) := oc_42 shX12_batchIs_0
theorem dX12_batchIs_1 : decode cX12_batchIs 1 = .ok (.iload_n 1, 1) := oc_27 shX12_batchIs_1
theorem dX12_batchIs_2 : decode cX12_batchIs 2 = .ok (.invokevirtual 450, 3) := oc_182 shX12_batchIs_2
theorem dX12_batchIs_5 : decode cX12_batchIs 5 = .ok (.ifCond .eq 12, 3) := oc_153 shX12_batchIs_5 sgw_0_12
theorem dX12_batchIs_8 : decode cX12_batchIs 8 = .ok (.iload_n 2, 1) := oc_28 shX12_batchIs_8
theorem dX12_batchIs_9 : decode cX12_batchIs 9 = .ok (.iconst 0, 1) := oc_3 shX12_batchIs_9
theorem dX12_batchIs_10 : decode cX12_batchIs 10 = .ok (.iconst 4, 1) := oc_7 shX12_batchIs_10
theorem dX12_batchIs_11 : decode cX12_batchIs 11 = .ok (.invokestatic 214, 3) := oc_184 shX12_batchIs_11
theorem dX12_batchIs_14 : decode cX12_batchIs 14 = .ok (.ifCond .ne 5, 3) := oc_154 shX12_batchIs_14 sgw_0_5
theorem dX12_batchIs_17 : decode cX12_batchIs 17 = .ok (.iconst (-1), 1) := oc_2 shX12_batchIs_17
theorem dX12_batchIs_18 : decode cX12_batchIs 18 = .ok (.ireturn, 1) := oc_172 shX12_batchIs_18
theorem dX12_batchIs_19 : decode cX12_batchIs 19 = .ok (.aload_n 0, 1) := oc_42 shX12_batchIs_19
theorem dX12_batchIs_20 : decode cX12_batchIs 20 = .ok (.aload_n 0, 1) := oc_42 shX12_batchIs_20
theorem dX12_batchIs_21 : decode cX12_batchIs 21 = .ok (.getfield 138, 3) := oc_180 shX12_batchIs_21
theorem dX12_batchIs_24 : decode cX12_batchIs 24 = .ok (.iload_n 1, 1) := oc_27 shX12_batchIs_24
theorem dX12_batchIs_25 : decode cX12_batchIs 25 = .ok (.iaload, 1) := oc_46 shX12_batchIs_25
theorem dX12_batchIs_26 : decode cX12_batchIs 26 = .ok (.invokevirtual 428, 3) := oc_182 shX12_batchIs_26
theorem dX12_batchIs_29 : decode cX12_batchIs 29 = .ok (.iload_n 2, 1) := oc_28 shX12_batchIs_29
theorem dX12_batchIs_30 : decode cX12_batchIs 30 = .ok (.tableswitch 58 0 3 #[30, 35, 40, 45], 30) := by decide +kernel
theorem dX12_batchIs_60 : decode cX12_batchIs 60 = .ok (.aload_n 0, 1) := oc_42 shX12_batchIs_60
theorem dX12_batchIs_61 : decode cX12_batchIs 61 = .ok (.getfield 419, 3) := oc_180 shX12_batchIs_61
theorem dX12_batchIs_64 : decode cX12_batchIs 64 = .ok (.ireturn, 1) := oc_172 shX12_batchIs_64
theorem dX12_batchIs_65 : decode cX12_batchIs 65 = .ok (.aload_n 0, 1) := oc_42 shX12_batchIs_65
theorem dX12_batchIs_66 : decode cX12_batchIs 66 = .ok (.getfield 422, 3) := oc_180 shX12_batchIs_66
theorem dX12_batchIs_69 : decode cX12_batchIs 69 = .ok (.ireturn, 1) := oc_172 shX12_batchIs_69
theorem dX12_batchIs_70 : decode cX12_batchIs 70 = .ok (.aload_n 0, 1) := oc_42 shX12_batchIs_70
theorem dX12_batchIs_71 : decode cX12_batchIs 71 = .ok (.getfield 425, 3) := oc_180 shX12_batchIs_71
theorem dX12_batchIs_74 : decode cX12_batchIs 74 = .ok (.ireturn, 1) := oc_172 shX12_batchIs_74
theorem dX12_batchIs_75 : decode cX12_batchIs 75 = .ok (.aload_n 0, 1) := oc_42 shX12_batchIs_75
theorem dX12_batchIs_76 : decode cX12_batchIs 76 = .ok (.iload_n 1, 1) := oc_27 shX12_batchIs_76
theorem dX12_batchIs_77 : decode cX12_batchIs 77 = .ok (.invokevirtual 444, 3) := oc_182 shX12_batchIs_77
theorem dX12_batchIs_80 : decode cX12_batchIs 80 = .ok (.aload_n 0, 1) := oc_42 shX12_batchIs_80
theorem dX12_batchIs_81 : decode cX12_batchIs 81 = .ok (.iload_n 1, 1) := oc_27 shX12_batchIs_81
theorem dX12_batchIs_82 : decode cX12_batchIs 82 = .ok (.iconst (-1), 1) := oc_2 shX12_batchIs_82
theorem dX12_batchIs_83 : decode cX12_batchIs 83 = .ok (.invokevirtual 453, 3) := oc_182 shX12_batchIs_83
theorem dX12_batchIs_86 : decode cX12_batchIs 86 = .ok (.isub, 1) := oc_100 shX12_batchIs_86
theorem dX12_batchIs_87 : decode cX12_batchIs 87 = .ok (.ireturn, 1) := oc_172 shX12_batchIs_87
theorem dX12_batchIs_88 : decode cX12_batchIs 88 = .ok (.aload_n 0, 1) := oc_42 shX12_batchIs_88
theorem dX12_batchIs_89 : decode cX12_batchIs 89 = .ok (.getfield 138, 3) := oc_180 shX12_batchIs_89
theorem dX12_batchIs_92 : decode cX12_batchIs 92 = .ok (.iload_n 1, 1) := oc_27 shX12_batchIs_92
theorem dX12_batchIs_93 : decode cX12_batchIs 93 = .ok (.iaload, 1) := oc_46 shX12_batchIs_93
theorem dX12_batchIs_94 : decode cX12_batchIs 94 = .ok (.ireturn, 1) := oc_172 shX12_batchIs_94
noncomputable def sxX12_blend_168 : List UInt8 := []
noncomputable def sxX12_blend_167 : List UInt8 := 172 :: sxX12_blend_168
noncomputable def sxX12_blend_166 : List UInt8 := 28 :: sxX12_blend_167
noncomputable def sxX12_blend_163 : List UInt8 := 167 :: 255 :: 144 :: sxX12_blend_166
noncomputable def sxX12_blend_160 : List UInt8 := 132 :: 4 :: 1 :: sxX12_blend_163
noncomputable def sxX12_blend_159 : List UInt8 := 62 :: sxX12_blend_160
noncomputable def sxX12_blend_156 : List UInt8 := 180 :: 1 :: 163 :: sxX12_blend_159
noncomputable def sxX12_blend_155 : List UInt8 := 42 :: sxX12_blend_156
noncomputable def sxX12_blend_154 : List UInt8 := 61 :: sxX12_blend_155
noncomputable def sxX12_blend_152 : List UInt8 := 21 :: 5 :: sxX12_blend_154
noncomputable def sxX12_blend_149 : List UInt8 := 167 :: 0 :: 11 :: sxX12_blend_152
noncomputable def sxX12_blend_146 : List UInt8 := 161 :: 0 :: 6 :: sxX12_blend_149
noncomputable def sxX12_blend_143 : List UInt8 := 184 :: 1 :: 175 :: sxX12_blend_146
noncomputable def sxX12_blend_142 : List UInt8 := 28 :: sxX12_blend_143
noncomputable def sxX12_blend_139 : List UInt8 := 184 :: 1 :: 175 :: sxX12_blend_142
noncomputable def sxX12_blend_137 : List UInt8 := 21 :: 5 :: sxX12_blend_139
noncomputable def sxX12_blend_134 : List UInt8 := 160 :: 0 :: 18 :: sxX12_blend_137
noncomputable def sxX12_blend_133 : List UInt8 := 29 :: sxX12_blend_134
noncomputable def sxX12_blend_130 : List UInt8 := 180 :: 1 :: 163 :: sxX12_blend_133
noncomputable def sxX12_blend_129 : List UInt8 := 42 :: sxX12_blend_130
noncomputable def sxX12_blend_126 : List UInt8 := 161 :: 0 :: 34 :: sxX12_blend_129
noncomputable def sxX12_blend_125 : List UInt8 := 29 :: sxX12_blend_126
noncomputable def sxX12_blend_122 : List UInt8 := 180 :: 1 :: 163 :: sxX12_blend_125
noncomputable def sxX12_blend_121 : List UInt8 := 42 :: sxX12_blend_122
noncomputable def sxX12_blend_118 : List UInt8 := 153 :: 0 :: 34 :: sxX12_blend_121
noncomputable def sxX12_blend_117 : List UInt8 := 28 :: sxX12_blend_118
noncomputable def sxX12_blend_114 : List UInt8 := 160 :: 0 :: 46 :: sxX12_blend_117
noncomputable def sxX12_blend_113 : List UInt8 := 2 :: sxX12_blend_114
noncomputable def sxX12_blend_110 : List UInt8 := 182 :: 1 :: 185 :: sxX12_blend_113
noncomputable def sxX12_blend_108 : List UInt8 := 21 :: 5 :: sxX12_blend_110
noncomputable def sxX12_blend_107 : List UInt8 := 42 :: sxX12_blend_108
noncomputable def sxX12_blend_104 : List UInt8 := 167 :: 255 :: 217 :: sxX12_blend_107
noncomputable def sxX12_blend_101 : List UInt8 := 132 :: 6 :: 1 :: sxX12_blend_104
noncomputable def sxX12_blend_99 : List UInt8 := 54 :: 5 :: sxX12_blend_101
noncomputable def sxX12_blend_97 : List UInt8 := 21 :: 5 :: sxX12_blend_99
noncomputable def sxX12_blend_94 : List UInt8 := 167 :: 0 :: 5 :: sxX12_blend_97
noncomputable def sxX12_blend_93 : List UInt8 := 128 :: sxX12_blend_94
noncomputable def sxX12_blend_92 : List UInt8 := 120 :: sxX12_blend_93
noncomputable def sxX12_blend_91 : List UInt8 := 46 :: sxX12_blend_92
noncomputable def sxX12_blend_89 : List UInt8 := 21 :: 6 :: sxX12_blend_91
noncomputable def sxX12_blend_86 : List UInt8 := 180 :: 0 :: 159 :: sxX12_blend_89
noncomputable def sxX12_blend_85 : List UInt8 := 42 :: sxX12_blend_86
noncomputable def sxX12_blend_84 : List UInt8 := 4 :: sxX12_blend_85
noncomputable def sxX12_blend_82 : List UInt8 := 21 :: 5 :: sxX12_blend_84
noncomputable def sxX12_blend_79 : List UInt8 := 160 :: 0 :: 18 :: sxX12_blend_82
noncomputable def sxX12_blend_78 : List UInt8 := 4 :: sxX12_blend_79
noncomputable def sxX12_blend_77 : List UInt8 := 126 :: sxX12_blend_78
noncomputable def sxX12_blend_76 : List UInt8 := 4 :: sxX12_blend_77
noncomputable def sxX12_blend_75 : List UInt8 := 122 :: sxX12_blend_76
noncomputable def sxX12_blend_73 : List UInt8 := 21 :: 6 :: sxX12_blend_75
noncomputable def sxX12_blend_71 : List UInt8 := 21 :: 4 :: sxX12_blend_73
noncomputable def sxX12_blend_68 : List UInt8 := 162 :: 0 :: 39 :: sxX12_blend_71
noncomputable def sxX12_blend_67 : List UInt8 := 27 :: sxX12_blend_68
noncomputable def sxX12_blend_65 : List UInt8 := 21 :: 6 :: sxX12_blend_67
noncomputable def sxX12_blend_63 : List UInt8 := 54 :: 6 :: sxX12_blend_65
noncomputable def sxX12_blend_62 : List UInt8 := 3 :: sxX12_blend_63
noncomputable def sxX12_blend_60 : List UInt8 := 54 :: 5 :: sxX12_blend_62
noncomputable def sxX12_blend_59 : List UInt8 := 3 :: sxX12_blend_60
noncomputable def sxX12_blend_56 : List UInt8 := 162 :: 0 :: 110 :: sxX12_blend_59
noncomputable def sxX12_blend_55 : List UInt8 := 120 :: sxX12_blend_56
noncomputable def sxX12_blend_54 : List UInt8 := 27 :: sxX12_blend_55
noncomputable def sxX12_blend_53 : List UInt8 := 4 :: sxX12_blend_54
noncomputable def sxX12_blend_51 : List UInt8 := 21 :: 4 :: sxX12_blend_53
noncomputable def sxX12_blend_49 : List UInt8 := 54 :: 4 :: sxX12_blend_51
noncomputable def sxX12_blend_48 : List UInt8 := 4 :: sxX12_blend_49
noncomputable def sxX12_blend_47 : List UInt8 := 62 :: sxX12_blend_48
noncomputable def sxX12_blend_46 : List UInt8 := 3 :: sxX12_blend_47
noncomputable def sxX12_blend_45 : List UInt8 := 61 :: sxX12_blend_46
noncomputable def sxX12_blend_44 : List UInt8 := 3 :: sxX12_blend_45
noncomputable def sxX12_blend_41 : List UInt8 := 167 :: 255 :: 219 :: sxX12_blend_44
noncomputable def sxX12_blend_38 : List UInt8 := 132 :: 2 :: 1 :: sxX12_blend_41
noncomputable def sxX12_blend_37 : List UInt8 := 60 :: sxX12_blend_38
noncomputable def sxX12_blend_36 : List UInt8 := 96 :: sxX12_blend_37
noncomputable def sxX12_blend_35 : List UInt8 := 4 :: sxX12_blend_36
noncomputable def sxX12_blend_34 : List UInt8 := 27 :: sxX12_blend_35
noncomputable def sxX12_blend_33 : List UInt8 := 79 :: sxX12_blend_34
noncomputable def sxX12_blend_32 : List UInt8 := 28 :: sxX12_blend_33
noncomputable def sxX12_blend_31 : List UInt8 := 27 :: sxX12_blend_32
noncomputable def sxX12_blend_28 : List UInt8 := 180 :: 0 :: 159 :: sxX12_blend_31
noncomputable def sxX12_blend_27 : List UInt8 := 42 :: sxX12_blend_28
noncomputable def sxX12_blend_24 : List UInt8 := 167 :: 0 :: 14 :: sxX12_blend_27
noncomputable def sxX12_blend_21 : List UInt8 := 154 :: 0 :: 6 :: sxX12_blend_24
noncomputable def sxX12_blend_18 : List UInt8 := 182 :: 1 :: 182 :: sxX12_blend_21
noncomputable def sxX12_blend_17 : List UInt8 := 28 :: sxX12_blend_18
noncomputable def sxX12_blend_16 : List UInt8 := 42 :: sxX12_blend_17
noncomputable def sxX12_blend_13 : List UInt8 := 162 :: 0 :: 31 :: sxX12_blend_16
noncomputable def sxX12_blend_11 : List UInt8 := 16 :: 12 :: sxX12_blend_13
noncomputable def sxX12_blend_10 : List UInt8 := 27 :: sxX12_blend_11
noncomputable def sxX12_blend_7 : List UInt8 := 162 :: 0 :: 37 :: sxX12_blend_10
noncomputable def sxX12_blend_5 : List UInt8 := 16 :: 20 :: sxX12_blend_7
noncomputable def sxX12_blend_4 : List UInt8 := 28 :: sxX12_blend_5
noncomputable def sxX12_blend_3 : List UInt8 := 61 :: sxX12_blend_4
noncomputable def sxX12_blend_2 : List UInt8 := 3 :: sxX12_blend_3
noncomputable def sxX12_blend_1 : List UInt8 := 60 :: sxX12_blend_2
noncomputable def sxX12_blend_0 : List UInt8 := 3 :: sxX12_blend_1
theorem shX12_blend_0 : cX12_blend.data.toList.drop 0 = sxX12_blend_0 := rfl
theorem shX12_blend_1 : cX12_blend.data.toList.drop 1 = sxX12_blend_1 := dSn 1 shX12_blend_0
theorem shX12_blend_2 : cX12_blend.data.toList.drop 2 = sxX12_blend_2 := dSn 1 shX12_blend_1
theorem shX12_blend_3 : cX12_blend.data.toList.drop 3 = sxX12_blend_3 := dSn 1 shX12_blend_2
theorem shX12_blend_4 : cX12_blend.data.toList.drop 4 = sxX12_blend_4 := dSn 1 shX12_blend_3
theorem shX12_blend_5 : cX12_blend.data.toList.drop 5 = sxX12_blend_5 := dSn 1 shX12_blend_4
theorem shX12_blend_7 : cX12_blend.data.toList.drop 7 = sxX12_blend_7 := dSn 2 shX12_blend_5
theorem shX12_blend_10 : cX12_blend.data.toList.drop 10 = sxX12_blend_10 := dSn 3 shX12_blend_7
theorem shX12_blend_11 : cX12_blend.data.toList.drop 11 = sxX12_blend_11 := dSn 1 shX12_blend_10
theorem shX12_blend_13 : cX12_blend.data.toList.drop 13 = sxX12_blend_13 := dSn 2 shX12_blend_11
theorem shX12_blend_16 : cX12_blend.data.toList.drop 16 = sxX12_blend_16 := dSn 3 shX12_blend_13
theorem shX12_blend_17 : cX12_blend.data.toList.drop 17 = sxX12_blend_17 := dSn 1 shX12_blend_16
theorem shX12_blend_18 : cX12_blend.data.toList.drop 18 = sxX12_blend_18 := dSn 1 shX12_blend_17
theorem shX12_blend_21 : cX12_blend.data.toList.drop 21 = sxX12_blend_21 := dSn 3 shX12_blend_18
theorem shX12_blend_24 : cX12_blend.data.toList.drop 24 = sxX12_blend_24 := dSn 3 shX12_blend_21
theorem shX12_blend_27 : cX12_blend.data.toList.drop 27 = sxX12_blend_27 := dSn 3 shX12_blend_24
theorem shX12_blend_28 : cX12_blend.data.toList.drop 28 = sxX12_blend_28 := dSn 1 shX12_blend_27
theorem shX12_blend_31 : cX12_blend.data.toList.drop 31 = sxX12_blend_31 := dSn 3 shX12_blend_28
theorem shX12_blend_32 : cX12_blend.data.toList.drop 32 = sxX12_blend_32 := dSn 1 shX12_blend_31
theorem shX12_blend_33 : cX12_blend.data.toList.drop 33 = sxX12_blend_33 := dSn 1 shX12_blend_32
theorem shX12_blend_34 : cX12_blend.data.toList.drop 34 = sxX12_blend_34 := dSn 1 shX12_blend_33
theorem shX12_blend_35 : cX12_blend.data.toList.drop 35 = sxX12_blend_35 := dSn 1 shX12_blend_34
theorem shX12_blend_36 : cX12_blend.data.toList.drop 36 = sxX12_blend_36 := dSn 1 shX12_blend_35
theorem shX12_blend_37 : cX12_blend.data.toList.drop 37 = sxX12_blend_37 := dSn 1 shX12_blend_36
theorem shX12_blend_38 : cX12_blend.data.toList.drop 38 = sxX12_blend_38 := dSn 1 shX12_blend_37
theorem shX12_blend_41 : cX12_blend.data.toList.drop 41 = sxX12_blend_41 := dSn 3 shX12_blend_38
theorem shX12_blend_44 : cX12_blend.data.toList.drop 44 = sxX12_blend_44 := dSn 3 shX12_blend_41
theorem shX12_blend_45 : cX12_blend.data.toList.drop 45 = sxX12_blend_45 := dSn 1 shX12_blend_44
theorem shX12_blend_46 : cX12_blend.data.toList.drop 46 = sxX12_blend_46 := dSn 1 shX12_blend_45
theorem shX12_blend_47 : cX12_blend.data.toList.drop 47 = sxX12_blend_47 := dSn 1 shX12_blend_46
theorem shX12_blend_48 : cX12_blend.data.toList.drop 48 = sxX12_blend_48 := dSn 1 shX12_blend_47
theorem shX12_blend_49 : cX12_blend.data.toList.drop 49 = sxX12_blend_49 := dSn 1 shX12_blend_48
theorem shX12_blend_51 : cX12_blend.data.toList.drop 51 = sxX12_blend_51 := dSn 2 shX12_blend_49
theorem shX12_blend_53 : cX12_blend.data.toList.drop 53 = sxX12_blend_53 := dSn 2 shX12_blend_51
theorem shX12_blend_54 : cX12_blend.data.toList.drop 54 = sxX12_blend_54 := dSn 1 shX12_blend_53
theorem shX12_blend_55 : cX12_blend.data.toList.drop 55 = sxX12_blend_55 := dSn 1 shX12_blend_54
theorem shX12_blend_56 : cX12_blend.data.toList.drop 56 = sxX12_blend_56 := dSn 1 shX12_blend_55
theorem shX12_blend_59 : cX12_blend.data.toList.drop 59 = sxX12_blend_59 := dSn 3 shX12_blend_56
theorem shX12_blend_60 : cX12_blend.data.toList.drop 60 = sxX12_blend_60 := dSn 1 shX12_blend_59
theorem shX12_blend_62 : cX12_blend.data.toList.drop 62 = sxX12_blend_62 := dSn 2 shX12_blend_60
theorem shX12_blend_63 : cX12_blend.data.toList.drop 63 = sxX12_blend_63 := dSn 1 shX12_blend_62
theorem shX12_blend_65 : cX12_blend.data.toList.drop 65 = sxX12_blend_65 := dSn 2 shX12_blend_63
theorem shX12_blend_67 : cX12_blend.data.toList.drop 67 = sxX12_blend_67 := dSn 2 shX12_blend_65
theorem shX12_blend_68 : cX12_blend.data.toList.drop 68 = sxX12_blend_68 := dSn 1 shX12_blend_67
theorem shX12_blend_71 : cX12_blend.data.toList.drop 71 = sxX12_blend_71 := dSn 3 shX12_blend_68
theorem shX12_blend_73 : cX12_blend.data.toList.drop 73 = sxX12_blend_73 := dSn 2 shX12_blend_71
theorem shX12_blend_75 : cX12_blend.data.toList.drop 75 = sxX12_blend_75 := dSn 2 shX12_blend_73
theorem shX12_blend_76 : cX12_blend.data.toList.drop 76 = sxX12_blend_76 := dSn 1 shX12_blend_75
theorem shX12_blend_77 : cX12_blend.data.toList.drop 77 = sxX12_blend_77 := dSn 1 shX12_blend_76
theorem shX12_blend_78 : cX12_blend.data.toList.drop 78 = sxX12_blend_78 := dSn 1 shX12_blend_77
theorem shX12_blend_79 : cX12_blend.data.toList.drop 79 = sxX12_blend_79 := dSn 1 shX12_blend_78
theorem shX12_blend_82 : cX12_blend.data.toList.drop 82 = sxX12_blend_82 := dSn 3 shX12_blend_79
theorem shX12_blend_84 : cX12_blend.data.toList.drop 84 = sxX12_blend_84 := dSn 2 shX12_blend_82
theorem shX12_blend_85 : cX12_blend.data.toList.drop 85 = sxX12_blend_85 := dSn 1 shX12_blend_84
theorem shX12_blend_86 : cX12_blend.data.toList.drop 86 = sxX12_blend_86 := dSn 1 shX12_blend_85
theorem shX12_blend_89 : cX12_blend.data.toList.drop 89 = sxX12_blend_89 := dSn 3 shX12_blend_86
theorem shX12_blend_91 : cX12_blend.data.toList.drop 91 = sxX12_blend_91 := dSn 2 shX12_blend_89
theorem shX12_blend_92 : cX12_blend.data.toList.drop 92 = sxX12_blend_92 := dSn 1 shX12_blend_91
theorem shX12_blend_93 : cX12_blend.data.toList.drop 93 = sxX12_blend_93 := dSn 1 shX12_blend_92
theorem shX12_blend_94 : cX12_blend.data.toList.drop 94 = sxX12_blend_94 := dSn 1 shX12_blend_93
theorem shX12_blend_97 : cX12_blend.data.toList.drop 97 = sxX12_blend_97 := dSn 3 shX12_blend_94
theorem shX12_blend_99 : cX12_blend.data.toList.drop 99 = sxX12_blend_99 := dSn 2 shX12_blend_97
theorem shX12_blend_101 : cX12_blend.data.toList.drop 101 = sxX12_blend_101 := dSn 2 shX12_blend_99
theorem shX12_blend_104 : cX12_blend.data.toList.drop 104 = sxX12_blend_104 := dSn 3 shX12_blend_101
theorem shX12_blend_107 : cX12_blend.data.toList.drop 107 = sxX12_blend_107 := dSn 3 shX12_blend_104
theorem shX12_blend_108 : cX12_blend.data.toList.drop 108 = sxX12_blend_108 := dSn 1 shX12_blend_107
theorem shX12_blend_110 : cX12_blend.data.toList.drop 110 = sxX12_blend_110 := dSn 2 shX12_blend_108
theorem shX12_blend_113 : cX12_blend.data.toList.drop 113 = sxX12_blend_113 := dSn 3 shX12_blend_110
theorem shX12_blend_114 : cX12_blend.data.toList.drop 114 = sxX12_blend_114 := dSn 1 shX12_blend_113
theorem shX12_blend_117 : cX12_blend.data.toList.drop 117 = sxX12_blend_117 := dSn 3 shX12_blend_114
theorem shX12_blend_118 : cX12_blend.data.toList.drop 118 = sxX12_blend_118 := dSn 1 shX12_blend_117
theorem shX12_blend_121 : cX12_blend.data.toList.drop 121 = sxX12_blend_121 := dSn 3 shX12_blend_118
theorem shX12_blend_122 : cX12_blend.data.toList.drop 122 = sxX12_blend_122 := dSn 1 shX12_blend_121
theorem shX12_blend_125 : cX12_blend.data.toList.drop 125 = sxX12_blend_125 := dSn 3 shX12_blend_122
theorem shX12_blend_126 : cX12_blend.data.toList.drop 126 = sxX12_blend_126 := dSn 1 shX12_blend_125
theorem shX12_blend_129 : cX12_blend.data.toList.drop 129 = sxX12_blend_129 := dSn 3 shX12_blend_126
theorem shX12_blend_130 : cX12_blend.data.toList.drop 130 = sxX12_blend_130 := dSn 1 shX12_blend_129
theorem shX12_blend_133 : cX12_blend.data.toList.drop 133 = sxX12_blend_133 := dSn 3 shX12_blend_130
theorem shX12_blend_134 : cX12_blend.data.toList.drop 134 = sxX12_blend_134 := dSn 1 shX12_blend_133
theorem shX12_blend_137 : cX12_blend.data.toList.drop 137 = sxX12_blend_137 := dSn 3 shX12_blend_134
theorem shX12_blend_139 : cX12_blend.data.toList.drop 139 = sxX12_blend_139 := dSn 2 shX12_blend_137
theorem shX12_blend_142 : cX12_blend.data.toList.drop 142 = sxX12_blend_142 := dSn 3 shX12_blend_139
theorem shX12_blend_143 : cX12_blend.data.toList.drop 143 = sxX12_blend_143 := dSn 1 shX12_blend_142
theorem shX12_blend_146 : cX12_blend.data.toList.drop 146 = sxX12_blend_146 := dSn 3 shX12_blend_143
theorem shX12_blend_149 : cX12_blend.data.toList.drop 149 = sxX12_blend_149 := dSn 3 shX12_blend_146
theorem shX12_blend_152 : cX12_blend.data.toList.drop 152 = sxX12_blend_152 := dSn 3 shX12_blend_149
theorem shX12_blend_154 : cX12_blend.data.toList.drop 154 = sxX12_blend_154 := dSn 2 shX12_blend_152
theorem shX12_blend_155 : cX12_blend.data.toList.drop 155 = sxX12_blend_155 := dSn 1 shX12_blend_154
theorem shX12_blend_156 : cX12_blend.data.toList.drop 156 = sxX12_blend_156 := dSn 1 shX12_blend_155
theorem shX12_blend_159 : cX12_blend.data.toList.drop 159 = sxX12_blend_159 := dSn 3 shX12_blend_156
theorem shX12_blend_160 : cX12_blend.data.toList.drop 160 = sxX12_blend_160 := dSn 1 shX12_blend_159
theorem shX12_blend_163 : cX12_blend.data.toList.drop 163 = sxX12_blend_163 := dSn 3 shX12_blend_160
theorem shX12_blend_166 : cX12_blend.data.toList.drop 166 = sxX12_blend_166 := dSn 3 shX12_blend_163
theorem shX12_blend_167 : cX12_blend.data.toList.drop 167 = sxX12_blend_167 := dSn 1 shX12_blend_166
theorem dX12_blend_0 : decode cX12_blend 0 = .ok (.iconst 0, 1) := oc_3 shX12_blend_0
theorem dX12_blend_1 : decode cX12_blend 1 = .ok (.istore_n 1, 1) := oc_60 shX12_blend_1
theorem dX12_blend_2 : decode cX12_blend 2 = .ok (.iconst 0, 1) := oc_3 shX12_blend_2
theorem dX12_blend_3 : decode cX12_blend 3 = .ok (.istore_n 2, 1) := oc_61 shX12_blend_3
theorem dX12_blend_4 : decode cX12_blend 4 = .ok (.iload_n 2, 1) := oc_28 shX12_blend_4
theorem dX12_blend_5 : decode cX12_blend 5 = .ok (.bipush 20, 2) := oc_16 shX12_blend_5 sgb_20
theorem dX12_blend_7 : decode cX12_blend 7 = .ok (.if_icmp .ge 37, 3) := oc_162 shX12_blend_7 sgw_0_37
theorem dX12_blend_10 : decode cX12_blend 10 = .ok (.iload_n 1, 1) := oc_27 shX12_blend_10
theorem dX12_blend_11 : decode cX12_blend 11 = .ok (.bipush 12, 2) := oc_16 shX12_blend_11 sgb_12
theorem dX12_blend_13 : decode cX12_blend 13 = .ok (.if_icmp .ge 31, 3) := oc_162 shX12_blend_13 sgw_0_31
theorem dX12_blend_16 : decode cX12_blend 16 = .ok (.aload_n 0, 1) := oc_42 shX12_blend_16
theorem dX12_blend_17 : decode cX12_blend 17 = .ok (.iload_n 2, 1) := oc_28 shX12_blend_17
theorem dX12_blend_18 : decode cX12_blend 18 = .ok (.invokevirtual 438, 3) := oc_182 shX12_blend_18
theorem dX12_blend_21 : decode cX12_blend 21 = .ok (.ifCond .ne 6, 3) := oc_154 shX12_blend_21 sgw_0_6
theorem dX12_blend_24 : decode cX12_blend 24 = .ok (.goto 14, 3) := oc_167 shX12_blend_24 sgw_0_14
theorem dX12_blend_27 : decode cX12_blend 27 = .ok (.aload_n 0, 1) := oc_42 shX12_blend_27
theorem dX12_blend_28 : decode cX12_blend 28 = .ok (.getfield 159, 3) := oc_180 shX12_blend_28
theorem dX12_blend_31 : decode cX12_blend 31 = .ok (.iload_n 1, 1) := oc_27 shX12_blend_31
theorem dX12_blend_32 : decode cX12_blend 32 = .ok (.iload_n 2, 1) := oc_28 shX12_blend_32
theorem dX12_blend_33 : decode cX12_blend 33 = .ok (.iastore, 1) := oc_79 shX12_blend_33
theorem dX12_blend_34 : decode cX12_blend 34 = .ok (.iload_n 1, 1) := oc_27 shX12_blend_34
theorem dX12_blend_35 : decode cX12_blend 35 = .ok (.iconst 1, 1) := oc_4 shX12_blend_35
theorem dX12_blend_36 : decode cX12_blend 36 = .ok (.iadd, 1) := oc_96 shX12_blend_36
theorem dX12_blend_37 : decode cX12_blend 37 = .ok (.istore_n 1, 1) := oc_60 shX12_blend_37
theorem dX12_blend_38 : decode cX12_blend 38 = .ok (.iinc 2 1, 3) := oc_132 shX12_blend_38 sgb_1
theorem dX12_blend_41 : decode cX12_blend 41 = .ok (.goto (-37), 3) := oc_167 shX12_blend_41 sgw_255_219
theorem dX12_blend_44 : decode cX12_blend 44 = .ok (.iconst 0, 1) := oc_3 shX12_blend_44
theorem dX12_blend_45 : decode cX12_blend 45 = .ok (.istore_n 2, 1) := oc_61 shX12_blend_45
theorem dX12_blend_46 : decode cX12_blend 46 = .ok (.iconst 0, 1) := oc_3 shX12_blend_46
theorem dX12_blend_47 : decode cX12_blend 47 = .ok (.istore_n 3, 1) := oc_62 shX12_blend_47
theorem dX12_blend_48 : decode cX12_blend 48 = .ok (.iconst 1, 1) := oc_4 shX12_blend_48
theorem dX12_blend_49 : decode cX12_blend 49 = .ok (.istore 4, 2) := oc_54 shX12_blend_49
theorem dX12_blend_51 : decode cX12_blend 51 = .ok (.iload 4, 2) := oc_21 shX12_blend_51
theorem dX12_blend_53 : decode cX12_blend 53 = .ok (.iconst 1, 1) := oc_4 shX12_blend_53
theorem dX12_blend_54 : decode cX12_blend 54 = .ok (.iload_n 1, 1) := oc_27 shX12_blend_54
theorem dX12_blend_55 : decode cX12_blend 55 = .ok (.ishl, 1) := oc_120 shX12_blend_55
theorem dX12_blend_56 : decode cX12_blend 56 = .ok (.if_icmp .ge 110, 3) := oc_162 shX12_blend_56 sgw_0_110
theorem dX12_blend_59 : decode cX12_blend 59 = .ok (.iconst 0, 1) := oc_3 shX12_blend_59
theorem dX12_blend_60 : decode cX12_blend 60 = .ok (.istore 5, 2) := oc_54 shX12_blend_60
theorem dX12_blend_62 : decode cX12_blend 62 = .ok (.iconst 0, 1) := oc_3 shX12_blend_62
theorem dX12_blend_63 : decode cX12_blend 63 = .ok (.istore 6, 2) := oc_54 shX12_blend_63
theorem dX12_blend_65 : decode cX12_blend 65 = .ok (.iload 6, 2) := oc_21 shX12_blend_65
theorem dX12_blend_67 : decode cX12_blend 67 = .ok (.iload_n 1, 1) := oc_27 shX12_blend_67
theorem dX12_blend_68 : decode cX12_blend 68 = .ok (.if_icmp .ge 39, 3) := oc_162 shX12_blend_68 sgw_0_39
theorem dX12_blend_71 : decode cX12_blend 71 = .ok (.iload 4, 2) := oc_21 shX12_blend_71
theorem dX12_blend_73 : decode cX12_blend 73 = .ok (.iload 6, 2) := oc_21 shX12_blend_73
theorem dX12_blend_75 : decode cX12_blend 75 = .ok (.ishr, 1) := oc_122 shX12_blend_75
theorem dX12_blend_76 : decode cX12_blend 76 = .ok (.iconst 1, 1) := oc_4 shX12_blend_76
theorem dX12_blend_77 : decode cX12_blend 77 = .ok (.iand, 1) := oc_126 shX12_blend_77
theorem dX12_blend_78 : decode cX12_blend 78 = .ok (.iconst 1, 1) := oc_4 shX12_blend_78
theorem dX12_blend_79 : decode cX12_blend 79 = .ok (.if_icmp .ne 18, 3) := oc_160 shX12_blend_79 sgw_0_18
theorem dX12_blend_82 : decode cX12_blend 82 = .ok (.iload 5, 2) := oc_21 shX12_blend_82
theorem dX12_blend_84 : decode cX12_blend 84 = .ok (.iconst 1, 1) := oc_4 shX12_blend_84
theorem dX12_blend_85 : decode cX12_blend 85 = .ok (.aload_n 0, 1) := oc_42 shX12_blend_85
theorem dX12_blend_86 : decode cX12_blend 86 = .ok (.getfield 159, 3) := oc_180 shX12_blend_86
theorem dX12_blend_89 : decode cX12_blend 89 = .ok (.iload 6, 2) := oc_21 shX12_blend_89
theorem dX12_blend_91 : decode cX12_blend 91 = .ok (.iaload, 1) := oc_46 shX12_blend_91
theorem dX12_blend_92 : decode cX12_blend 92 = .ok (.ishl, 1) := oc_120 shX12_blend_92
theorem dX12_blend_93 : decode cX12_blend 93 = .ok (.ior, 1) := oc_128 shX12_blend_93
theorem dX12_blend_94 : decode cX12_blend 94 = .ok (.goto 5, 3) := oc_167 shX12_blend_94 sgw_0_5
theorem dX12_blend_97 : decode cX12_blend 97 = .ok (.iload 5, 2) := oc_21 shX12_blend_97
theorem dX12_blend_99 : decode cX12_blend 99 = .ok (.istore 5, 2) := oc_54 shX12_blend_99
theorem dX12_blend_101 : decode cX12_blend 101 = .ok (.iinc 6 1, 3) := oc_132 shX12_blend_101 sgb_1
theorem dX12_blend_104 : decode cX12_blend 104 = .ok (.goto (-39), 3) := oc_167 shX12_blend_104 sgw_255_217
theorem dX12_blend_107 : decode cX12_blend 107 = .ok (.aload_n 0, 1) := oc_42 shX12_blend_107
theorem dX12_blend_108 : decode cX12_blend 108 = .ok (.iload 5, 2) := oc_21 shX12_blend_108
theorem dX12_blend_110 : decode cX12_blend 110 = .ok (.invokevirtual 441, 3) := oc_182 shX12_blend_110
theorem dX12_blend_113 : decode cX12_blend 113 = .ok (.iconst (-1), 1) := oc_2 shX12_blend_113
theorem dX12_blend_114 : decode cX12_blend 114 = .ok (.if_icmp .ne 46, 3) := oc_160 shX12_blend_114 sgw_0_46
theorem dX12_blend_117 : decode cX12_blend 117 = .ok (.iload_n 2, 1) := oc_28 shX12_blend_117
theorem dX12_blend_118 : decode cX12_blend 118 = .ok (.ifCond .eq 34, 3) := oc_153 shX12_blend_118 sgw_0_34
theorem dX12_blend_121 : decode cX12_blend 121 = .ok (.aload_n 0, 1) := oc_42 shX12_blend_121
theorem dX12_blend_122 : decode cX12_blend 122 = .ok (.getfield 419, 3) := oc_180 shX12_blend_122
theorem dX12_blend_125 : decode cX12_blend 125 = .ok (.iload_n 3, 1) := oc_29 shX12_blend_125
theorem dX12_blend_126 : decode cX12_blend 126 = .ok (.if_icmp .lt 34, 3) := oc_161 shX12_blend_126 sgw_0_34
theorem dX12_blend_129 : decode cX12_blend 129 = .ok (.aload_n 0, 1) := oc_42 shX12_blend_129
theorem dX12_blend_130 : decode cX12_blend 130 = .ok (.getfield 419, 3) := oc_180 shX12_blend_130
theorem dX12_blend_133 : decode cX12_blend 133 = .ok (.iload_n 3, 1) := oc_29 shX12_blend_133
theorem dX12_blend_134 : decode cX12_blend 134 = .ok (.if_icmp .ne 18, 3) := oc_160 shX12_blend_134 sgw_0_18
theorem dX12_blend_137 : decode cX12_blend 137 = .ok (.iload 5, 2) := oc_21 shX12_blend_137
theorem dX12_blend_139 : decode cX12_blend 139 = .ok (.invokestatic 431, 3) := oc_184 shX12_blend_139
theorem dX12_blend_142 : decode cX12_blend 142 = .ok (.iload_n 2, 1) := oc_28 shX12_blend_142
theorem dX12_blend_143 : decode cX12_blend 143 = .ok (.invokestatic 431, 3) := oc_184 shX12_blend_143
theorem dX12_blend_146 : decode cX12_blend 146 = .ok (.if_icmp .lt 6, 3) := oc_161 shX12_blend_146 sgw_0_6
theorem dX12_blend_149 : decode cX12_blend 149 = .ok (.goto 11, 3) := oc_167 shX12_blend_149 sgw_0_11
theorem dX12_blend_152 : decode cX12_blend 152 = .ok (.iload 5, 2) := oc_21 shX12_blend_152
theorem dX12_blend_154 : decode cX12_blend 154 = .ok (.istore_n 2, 1) := oc_61 shX12_blend_154
theorem dX12_blend_155 : decode cX12_blend 155 = .ok (.aload_n 0, 1) := oc_42 shX12_blend_155
theorem dX12_blend_156 : decode cX12_blend 156 = .ok (.getfield 419, 3) := oc_180 shX12_blend_156
theorem dX12_blend_159 : decode cX12_blend 159 = .ok (.istore_n 3, 1) := oc_62 shX12_blend_159
theorem dX12_blend_160 : decode cX12_blend 160 = .ok (.iinc 4 1, 3) := oc_132 shX12_blend_160 sgb_1
theorem dX12_blend_163 : decode cX12_blend 163 = .ok (.goto (-112), 3) := oc_167 shX12_blend_163 sgw_255_144
theorem dX12_blend_166 : decode cX12_blend 166 = .ok (.iload_n 2, 1) := oc_28 shX12_blend_166
theorem dX12_blend_167 : decode cX12_blend 167 = .ok (.ireturn, 1) := oc_172 shX12_blend_167
noncomputable def sxX12_proof_119 : List UInt8 := []
noncomputable def sxX12_proof_118 : List UInt8 := 172 :: sxX12_proof_119
noncomputable def sxX12_proof_117 : List UInt8 := 100 :: sxX12_proof_118
noncomputable def sxX12_proof_116 : List UInt8 := 4 :: sxX12_proof_117
noncomputable def sxX12_proof_113 : List UInt8 := 180 :: 1 :: 191 :: sxX12_proof_116
noncomputable def sxX12_proof_112 : List UInt8 := 42 :: sxX12_proof_113
noncomputable def sxX12_proof_109 : List UInt8 := 181 :: 1 :: 191 :: sxX12_proof_112
noncomputable def sxX12_proof_108 : List UInt8 := 96 :: sxX12_proof_109
noncomputable def sxX12_proof_107 : List UInt8 := 4 :: sxX12_proof_108
noncomputable def sxX12_proof_104 : List UInt8 := 180 :: 1 :: 191 :: sxX12_proof_107
noncomputable def sxX12_proof_103 : List UInt8 := 42 :: sxX12_proof_104
noncomputable def sxX12_proof_102 : List UInt8 := 42 :: sxX12_proof_103
noncomputable def sxX12_proof_101 : List UInt8 := 79 :: sxX12_proof_102
noncomputable def sxX12_proof_98 : List UInt8 := 180 :: 0 :: 211 :: sxX12_proof_101
noncomputable def sxX12_proof_97 : List UInt8 := 42 :: sxX12_proof_98
noncomputable def sxX12_proof_94 : List UInt8 := 180 :: 1 :: 191 :: sxX12_proof_97
noncomputable def sxX12_proof_93 : List UInt8 := 42 :: sxX12_proof_94
noncomputable def sxX12_proof_90 : List UInt8 := 180 :: 0 :: 144 :: sxX12_proof_93
noncomputable def sxX12_proof_89 : List UInt8 := 42 :: sxX12_proof_90
noncomputable def sxX12_proof_88 : List UInt8 := 79 :: sxX12_proof_89
noncomputable def sxX12_proof_86 : List UInt8 := 21 :: 4 :: sxX12_proof_88
noncomputable def sxX12_proof_83 : List UInt8 := 180 :: 1 :: 191 :: sxX12_proof_86
noncomputable def sxX12_proof_82 : List UInt8 := 42 :: sxX12_proof_83
noncomputable def sxX12_proof_79 : List UInt8 := 180 :: 0 :: 156 :: sxX12_proof_82
noncomputable def sxX12_proof_78 : List UInt8 := 42 :: sxX12_proof_79
noncomputable def sxX12_proof_77 : List UInt8 := 79 :: sxX12_proof_78
noncomputable def sxX12_proof_76 : List UInt8 := 29 :: sxX12_proof_77
noncomputable def sxX12_proof_73 : List UInt8 := 180 :: 1 :: 191 :: sxX12_proof_76
noncomputable def sxX12_proof_72 : List UInt8 := 42 :: sxX12_proof_73
noncomputable def sxX12_proof_69 : List UInt8 := 180 :: 0 :: 153 :: sxX12_proof_72
noncomputable def sxX12_proof_68 : List UInt8 := 42 :: sxX12_proof_69
noncomputable def sxX12_proof_67 : List UInt8 := 79 :: sxX12_proof_68
noncomputable def sxX12_proof_66 : List UInt8 := 28 :: sxX12_proof_67
noncomputable def sxX12_proof_63 : List UInt8 := 180 :: 1 :: 191 :: sxX12_proof_66
noncomputable def sxX12_proof_62 : List UInt8 := 42 :: sxX12_proof_63
noncomputable def sxX12_proof_59 : List UInt8 := 180 :: 0 :: 150 :: sxX12_proof_62
noncomputable def sxX12_proof_58 : List UInt8 := 42 :: sxX12_proof_59
noncomputable def sxX12_proof_57 : List UInt8 := 79 :: sxX12_proof_58
noncomputable def sxX12_proof_56 : List UInt8 := 27 :: sxX12_proof_57
noncomputable def sxX12_proof_53 : List UInt8 := 180 :: 1 :: 191 :: sxX12_proof_56
noncomputable def sxX12_proof_52 : List UInt8 := 42 :: sxX12_proof_53
noncomputable def sxX12_proof_49 : List UInt8 := 180 :: 0 :: 147 :: sxX12_proof_52
noncomputable def sxX12_proof_48 : List UInt8 := 42 :: sxX12_proof_49
noncomputable def sxX12_proof_47 : List UInt8 := 172 :: sxX12_proof_48
noncomputable def sxX12_proof_46 : List UInt8 := 2 :: sxX12_proof_47
noncomputable def sxX12_proof_43 : List UInt8 := 160 :: 0 :: 5 :: sxX12_proof_46
noncomputable def sxX12_proof_41 : List UInt8 := 16 :: 40 :: sxX12_proof_43
noncomputable def sxX12_proof_38 : List UInt8 := 180 :: 1 :: 191 :: sxX12_proof_41
noncomputable def sxX12_proof_37 : List UInt8 := 42 :: sxX12_proof_38
noncomputable def sxX12_proof_34 : List UInt8 := 153 :: 0 :: 12 :: sxX12_proof_37
noncomputable def sxX12_proof_31 : List UInt8 := 184 :: 0 :: 214 :: sxX12_proof_34
noncomputable def sxX12_proof_29 : List UInt8 := 16 :: 9 :: sxX12_proof_31
noncomputable def sxX12_proof_28 : List UInt8 := 3 :: sxX12_proof_29
noncomputable def sxX12_proof_26 : List UInt8 := 21 :: 4 :: sxX12_proof_28
noncomputable def sxX12_proof_23 : List UInt8 := 163 :: 0 :: 23 :: sxX12_proof_26
noncomputable def sxX12_proof_20 : List UInt8 := 182 :: 1 :: 188 :: sxX12_proof_23
noncomputable def sxX12_proof_19 : List UInt8 := 27 :: sxX12_proof_20
noncomputable def sxX12_proof_18 : List UInt8 := 42 :: sxX12_proof_19
noncomputable def sxX12_proof_17 : List UInt8 := 29 :: sxX12_proof_18
noncomputable def sxX12_proof_14 : List UInt8 := 164 :: 0 :: 32 :: sxX12_proof_17
noncomputable def sxX12_proof_13 : List UInt8 := 28 :: sxX12_proof_14
noncomputable def sxX12_proof_12 : List UInt8 := 29 :: sxX12_proof_13
noncomputable def sxX12_proof_9 : List UInt8 := 155 :: 0 :: 37 :: sxX12_proof_12
noncomputable def sxX12_proof_8 : List UInt8 := 28 :: sxX12_proof_9
noncomputable def sxX12_proof_5 : List UInt8 := 153 :: 0 :: 41 :: sxX12_proof_8
noncomputable def sxX12_proof_2 : List UInt8 := 182 :: 1 :: 194 :: sxX12_proof_5
noncomputable def sxX12_proof_1 : List UInt8 := 27 :: sxX12_proof_2
noncomputable def sxX12_proof_0 : List UInt8 := 42 :: sxX12_proof_1
theorem shX12_proof_0 : cX12_proof.data.toList.drop 0 = sxX12_proof_0 := rfl
theorem shX12_proof_1 : cX12_proof.data.toList.drop 1 = sxX12_proof_1 := dSn 1 shX12_proof_0
theorem shX12_proof_2 : cX12_proof.data.toList.drop 2 = sxX12_proof_2 := dSn 1 shX12_proof_1
theorem shX12_proof_5 : cX12_proof.data.toList.drop 5 = sxX12_proof_5 := dSn 3 shX12_proof_2
theorem shX12_proof_8 : cX12_proof.data.toList.drop 8 = sxX12_proof_8 := dSn 3 shX12_proof_5
theorem shX12_proof_9 : cX12_proof.data.toList.drop 9 = sxX12_proof_9 := dSn 1 shX12_proof_8
theorem shX12_proof_12 : cX12_proof.data.toList.drop 12 = sxX12_proof_12 := dSn 3 shX12_proof_9
theorem shX12_proof_13 : cX12_proof.data.toList.drop 13 = sxX12_proof_13 := dSn 1 shX12_proof_12
theorem shX12_proof_14 : cX12_proof.data.toList.drop 14 = sxX12_proof_14 := dSn 1 shX12_proof_13
theorem shX12_proof_17 : cX12_proof.data.toList.drop 17 = sxX12_proof_17 := dSn 3 shX12_proof_14
theorem shX12_proof_18 : cX12_proof.data.toList.drop 18 = sxX12_proof_18 := dSn 1 shX12_proof_17
theorem shX12_proof_19 : cX12_proof.data.toList.drop 19 = sxX12_proof_19 := dSn 1 shX12_proof_18
theorem shX12_proof_20 : cX12_proof.data.toList.drop 20 = sxX12_proof_20 := dSn 1 shX12_proof_19
theorem shX12_proof_23 : cX12_proof.data.toList.drop 23 = sxX12_proof_23 := dSn 3 shX12_proof_20
theorem shX12_proof_26 : cX12_proof.data.toList.drop 26 = sxX12_proof_26 := dSn 3 shX12_proof_23
theorem shX12_proof_28 : cX12_proof.data.toList.drop 28 = sxX12_proof_28 := dSn 2 shX12_proof_26
theorem shX12_proof_29 : cX12_proof.data.toList.drop 29 = sxX12_proof_29 := dSn 1 shX12_proof_28
theorem shX12_proof_31 : cX12_proof.data.toList.drop 31 = sxX12_proof_31 := dSn 2 shX12_proof_29
theorem shX12_proof_34 : cX12_proof.data.toList.drop 34 = sxX12_proof_34 := dSn 3 shX12_proof_31
theorem shX12_proof_37 : cX12_proof.data.toList.drop 37 = sxX12_proof_37 := dSn 3 shX12_proof_34
theorem shX12_proof_38 : cX12_proof.data.toList.drop 38 = sxX12_proof_38 := dSn 1 shX12_proof_37
theorem shX12_proof_41 : cX12_proof.data.toList.drop 41 = sxX12_proof_41 := dSn 3 shX12_proof_38
theorem shX12_proof_43 : cX12_proof.data.toList.drop 43 = sxX12_proof_43 := dSn 2 shX12_proof_41
theorem shX12_proof_46 : cX12_proof.data.toList.drop 46 = sxX12_proof_46 := dSn 3 shX12_proof_43
theorem shX12_proof_47 : cX12_proof.data.toList.drop 47 = sxX12_proof_47 := dSn 1 shX12_proof_46
theorem shX12_proof_48 : cX12_proof.data.toList.drop 48 = sxX12_proof_48 := dSn 1 shX12_proof_47
theorem shX12_proof_49 : cX12_proof.data.toList.drop 49 = sxX12_proof_49 := dSn 1 shX12_proof_48
theorem shX12_proof_52 : cX12_proof.data.toList.drop 52 = sxX12_proof_52 := dSn 3 shX12_proof_49
theorem shX12_proof_53 : cX12_proof.data.toList.drop 53 = sxX12_proof_53 := dSn 1 shX12_proof_52
theorem shX12_proof_56 : cX12_proof.data.toList.drop 56 = sxX12_proof_56 := dSn 3 shX12_proof_53
theorem shX12_proof_57 : cX12_proof.data.toList.drop 57 = sxX12_proof_57 := dSn 1 shX12_proof_56
theorem shX12_proof_58 : cX12_proof.data.toList.drop 58 = sxX12_proof_58 := dSn 1 shX12_proof_57
theorem shX12_proof_59 : cX12_proof.data.toList.drop 59 = sxX12_proof_59 := dSn 1 shX12_proof_58
theorem shX12_proof_62 : cX12_proof.data.toList.drop 62 = sxX12_proof_62 := dSn 3 shX12_proof_59
theorem shX12_proof_63 : cX12_proof.data.toList.drop 63 = sxX12_proof_63 := dSn 1 shX12_proof_62
theorem shX12_proof_66 : cX12_proof.data.toList.drop 66 = sxX12_proof_66 := dSn 3 shX12_proof_63
theorem shX12_proof_67 : cX12_proof.data.toList.drop 67 = sxX12_proof_67 := dSn 1 shX12_proof_66
theorem shX12_proof_68 : cX12_proof.data.toList.drop 68 = sxX12_proof_68 := dSn 1 shX12_proof_67
theorem shX12_proof_69 : cX12_proof.data.toList.drop 69 = sxX12_proof_69 := dSn 1 shX12_proof_68
theorem shX12_proof_72 : cX12_proof.data.toList.drop 72 = sxX12_proof_72 := dSn 3 shX12_proof_69
theorem shX12_proof_73 : cX12_proof.data.toList.drop 73 = sxX12_proof_73 := dSn 1 shX12_proof_72
theorem shX12_proof_76 : cX12_proof.data.toList.drop 76 = sxX12_proof_76 := dSn 3 shX12_proof_73
theorem shX12_proof_77 : cX12_proof.data.toList.drop 77 = sxX12_proof_77 := dSn 1 shX12_proof_76
theorem shX12_proof_78 : cX12_proof.data.toList.drop 78 = sxX12_proof_78 := dSn 1 shX12_proof_77
theorem shX12_proof_79 : cX12_proof.data.toList.drop 79 = sxX12_proof_79 := dSn 1 shX12_proof_78
theorem shX12_proof_82 : cX12_proof.data.toList.drop 82 = sxX12_proof_82 := dSn 3 shX12_proof_79
theorem shX12_proof_83 : cX12_proof.data.toList.drop 83 = sxX12_proof_83 := dSn 1 shX12_proof_82
theorem shX12_proof_86 : cX12_proof.data.toList.drop 86 = sxX12_proof_86 := dSn 3 shX12_proof_83
theorem shX12_proof_88 : cX12_proof.data.toList.drop 88 = sxX12_proof_88 := dSn 2 shX12_proof_86
theorem shX12_proof_89 : cX12_proof.data.toList.drop 89 = sxX12_proof_89 := dSn 1 shX12_proof_88
theorem shX12_proof_90 : cX12_proof.data.toList.drop 90 = sxX12_proof_90 := dSn 1 shX12_proof_89
theorem shX12_proof_93 : cX12_proof.data.toList.drop 93 = sxX12_proof_93 := dSn 3 shX12_proof_90
theorem shX12_proof_94 : cX12_proof.data.toList.drop 94 = sxX12_proof_94 := dSn 1 shX12_proof_93
theorem shX12_proof_97 : cX12_proof.data.toList.drop 97 = sxX12_proof_97 := dSn 3 shX12_proof_94
theorem shX12_proof_98 : cX12_proof.data.toList.drop 98 = sxX12_proof_98 := dSn 1 shX12_proof_97
theorem shX12_proof_101 : cX12_proof.data.toList.drop 101 = sxX12_proof_101 := dSn 3 shX12_proof_98
theorem shX12_proof_102 : cX12_proof.data.toList.drop 102 = sxX12_proof_102 := dSn 1 shX12_proof_101
theorem shX12_proof_103 : cX12_proof.data.toList.drop 103 = sxX12_proof_103 := dSn 1 shX12_proof_102
theorem shX12_proof_104 : cX12_proof.data.toList.drop 104 = sxX12_proof_104 := dSn 1 shX12_proof_103
theorem shX12_proof_107 : cX12_proof.data.toList.drop 107 = sxX12_proof_107 := dSn 3 shX12_proof_104
theorem shX12_proof_108 : cX12_proof.data.toList.drop 108 = sxX12_proof_108 := dSn 1 shX12_proof_107
theorem shX12_proof_109 : cX12_proof.data.toList.drop 109 = sxX12_proof_109 := dSn 1 shX12_proof_108
theorem shX12_proof_112 : cX12_proof.data.toList.drop 112 = sxX12_proof_112 := dSn 3 shX12_proof_109
theorem shX12_proof_113 : cX12_proof.data.toList.drop 113 = sxX12_proof_113 := dSn 1 shX12_proof_112
theorem shX12_proof_116 : cX12_proof.data.toList.drop 116 = sxX12_proof_116 := dSn 3 shX12_proof_113
theorem shX12_proof_117 : cX12_proof.data.toList.drop 117 = sxX12_proof_117 := dSn 1 shX12_proof_116
theorem shX12_proof_118 : cX12_proof.data.toList.drop 118 = sxX12_proof_118 := dSn 1 shX12_proof_117
theorem dX12_proof_0 : decode cX12_proof 0 = .ok (.aload_n 0, 1) := oc_42 shX12_proof_0
theorem dX12_proof_1 : decode cX12_proof 1 = .ok (.iload_n 1, 1) := oc_27 shX12_proof_1
theorem dX12_proof_2 : decode cX12_proof 2 = .ok (.invokevirtual 450, 3) := oc_182 shX12_proof_2
theorem dX12_proof_5 : decode cX12_proof 5 = .ok (.ifCond .eq 41, 3) := oc_153 shX12_proof_5 sgw_0_41
theorem dX12_proof_8 : decode cX12_proof 8 = .ok (.iload_n 2, 1) := oc_28 shX12_proof_8
theorem dX12_proof_9 : decode cX12_proof 9 = .ok (.ifCond .lt 37, 3) := oc_155 shX12_proof_9 sgw_0_37
theorem dX12_proof_12 : decode cX12_proof 12 = .ok (.iload_n 3, 1) := oc_29 shX12_proof_12
theorem dX12_proof_13 : decode cX12_proof 13 = .ok (.iload_n 2, 1) := oc_28 shX12_proof_13
theorem dX12_proof_14 : decode cX12_proof 14 = .ok (.if_icmp .le 32, 3) := oc_164 shX12_proof_14 sgw_0_32
theorem dX12_proof_17 : decode cX12_proof 17 = .ok (.iload_n 3, 1) := oc_29 shX12_proof_17
theorem dX12_proof_18 : decode cX12_proof 18 = .ok (.aload_n 0, 1) := oc_42 shX12_proof_18
theorem dX12_proof_19 : decode cX12_proof 19 = .ok (.iload_n 1, 1) := oc_27 shX12_proof_19
theorem dX12_proof_20 : decode cX12_proof 20 = .ok (.invokevirtual 444, 3) := oc_182 shX12_proof_20
theorem dX12_proof_23 : decode cX12_proof 23 = .ok (.if_icmp .gt 23, 3) := oc_163 shX12_proof_23 sgw_0_23
theorem dX12_proof_26 : decode cX12_proof 26 = .ok (.iload 4, 2) := oc_21 shX12_proof_26
theorem dX12_proof_28 : decode cX12_proof 28 = .ok (.iconst 0, 1) := oc_3 shX12_proof_28
theorem dX12_proof_29 : decode cX12_proof 29 = .ok (.bipush 9, 2) := oc_16 shX12_proof_29 sgb_9
theorem dX12_proof_31 : decode cX12_proof 31 = .ok (.invokestatic 214, 3) := oc_184 shX12_proof_31
theorem dX12_proof_34 : decode cX12_proof 34 = .ok (.ifCond .eq 12, 3) := oc_153 shX12_proof_34 sgw_0_12
theorem dX12_proof_37 : decode cX12_proof 37 = .ok (.aload_n 0, 1) := oc_42 shX12_proof_37
theorem dX12_proof_38 : decode cX12_proof 38 = .ok (.getfield 447, 3) := oc_180 shX12_proof_38
theorem dX12_proof_41 : decode cX12_proof 41 = .ok (.bipush 40, 2) := oc_16 shX12_proof_41 sgb_40
theorem dX12_proof_43 : decode cX12_proof 43 = .ok (.if_icmp .ne 5, 3) := oc_160 shX12_proof_43 sgw_0_5
theorem dX12_proof_46 : decode cX12_proof 46 = .ok (.iconst (-1), 1) := oc_2 shX12_proof_46
theorem dX12_proof_47 : decode cX12_proof 47 = .ok (.ireturn, 1) := oc_172 shX12_proof_47
theorem dX12_proof_48 : decode cX12_proof 48 = .ok (.aload_n 0, 1) := oc_42 shX12_proof_48
theorem dX12_proof_49 : decode cX12_proof 49 = .ok (.getfield 147, 3) := oc_180 shX12_proof_49
theorem dX12_proof_52 : decode cX12_proof 52 = .ok (.aload_n 0, 1) := oc_42 shX12_proof_52
theorem dX12_proof_53 : decode cX12_proof 53 = .ok (.getfield 447, 3) := oc_180 shX12_proof_53
theorem dX12_proof_56 : decode cX12_proof 56 = .ok (.iload_n 1, 1) := oc_27 shX12_proof_56
theorem dX12_proof_57 : decode cX12_proof 57 = .ok (.iastore, 1) := oc_79 shX12_proof_57
theorem dX12_proof_58 : decode cX12_proof 58 = .ok (.aload_n 0, 1) := oc_42 shX12_proof_58
theorem dX12_proof_59 : decode cX12_proof 59 = .ok (.getfield 150, 3) := oc_180 shX12_proof_59
theorem dX12_proof_62 : decode cX12_proof 62 = .ok (.aload_n 0, 1) := oc_42 shX12_proof_62
theorem dX12_proof_63 : decode cX12_proof 63 = .ok (.getfield 447, 3) := oc_180 shX12_proof_63
theorem dX12_proof_66 : decode cX12_proof 66 = .ok (.iload_n 2, 1) := oc_28 shX12_proof_66
theorem dX12_proof_67 : decode cX12_proof 67 = .ok (.iastore, 1) := oc_79 shX12_proof_67
theorem dX12_proof_68 : decode cX12_proof 68 = .ok (.aload_n 0, 1) := oc_42 shX12_proof_68
theorem dX12_proof_69 : decode cX12_proof 69 = .ok (.getfield 153, 3) := oc_180 shX12_proof_69
theorem dX12_proof_72 : decode cX12_proof 72 = .ok (.aload_n 0, 1) := oc_42 shX12_proof_72
theorem dX12_proof_73 : decode cX12_proof 73 = .ok (.getfield 447, 3) := oc_180 shX12_proof_73
theorem dX12_proof_76 : decode cX12_proof 76 = .ok (.iload_n 3, 1) := oc_29 shX12_proof_76
theorem dX12_proof_77 : decode cX12_proof 77 = .ok (.iastore, 1) := oc_79 shX12_proof_77
theorem dX12_proof_78 : decode cX12_proof 78 = .ok (.aload_n 0, 1) := oc_42 shX12_proof_78
theorem dX12_proof_79 : decode cX12_proof 79 = .ok (.getfield 156, 3) := oc_180 shX12_proof_79
theorem dX12_proof_82 : decode cX12_proof 82 = .ok (.aload_n 0, 1) := oc_42 shX12_proof_82
theorem dX12_proof_83 : decode cX12_proof 83 = .ok (.getfield 447, 3) := oc_180 shX12_proof_83
theorem dX12_proof_86 : decode cX12_proof 86 = .ok (.iload 4, 2) := oc_21 shX12_proof_86
theorem dX12_proof_88 : decode cX12_proof 88 = .ok (.iastore, 1) := oc_79 shX12_proof_88
theorem dX12_proof_89 : decode cX12_proof 89 = .ok (.aload_n 0, 1) := oc_42 shX12_proof_89
theorem dX12_proof_90 : decode cX12_proof 90 = .ok (.getfield 144, 3) := oc_180 shX12_proof_90
theorem dX12_proof_93 : decode cX12_proof 93 = .ok (.aload_n 0, 1) := oc_42 shX12_proof_93
theorem dX12_proof_94 : decode cX12_proof 94 = .ok (.getfield 447, 3) := oc_180 shX12_proof_94
theorem dX12_proof_97 : decode cX12_proof 97 = .ok (.aload_n 0, 1) := oc_42 shX12_proof_97
theorem dX12_proof_98 : decode cX12_proof 98 = .ok (.getfield 211, 3) := oc_180 shX12_proof_98
theorem dX12_proof_101 : decode cX12_proof 101 = .ok (.iastore, 1) := oc_79 shX12_proof_101
theorem dX12_proof_102 : decode cX12_proof 102 = .ok (.aload_n 0, 1) := oc_42 shX12_proof_102
theorem dX12_proof_103 : decode cX12_proof 103 = .ok (.aload_n 0, 1) := oc_42 shX12_proof_103
theorem dX12_proof_104 : decode cX12_proof 104 = .ok (.getfield 447, 3) := oc_180 shX12_proof_104
theorem dX12_proof_107 : decode cX12_proof 107 = .ok (.iconst 1, 1) := oc_4 shX12_proof_107
theorem dX12_proof_108 : decode cX12_proof 108 = .ok (.iadd, 1) := oc_96 shX12_proof_108
theorem dX12_proof_109 : decode cX12_proof 109 = .ok (.putfield 447, 3) := oc_181 shX12_proof_109
theorem dX12_proof_112 : decode cX12_proof 112 = .ok (.aload_n 0, 1) := oc_42 shX12_proof_112
theorem dX12_proof_113 : decode cX12_proof 113 = .ok (.getfield 447, 3) := oc_180 shX12_proof_113
theorem dX12_proof_116 : decode cX12_proof 116 = .ok (.iconst 1, 1) := oc_4 shX12_proof_116
theorem dX12_proof_117 : decode cX12_proof 117 = .ok (.isub, 1) := oc_100 shX12_proof_117
theorem dX12_proof_118 : decode cX12_proof 118 = .ok (.ireturn, 1) := oc_172 shX12_proof_118
noncomputable def sxX12_twice_93 : List UInt8 := []
noncomputable def sxX12_twice_92 : List UInt8 := 172 :: sxX12_twice_93
noncomputable def sxX12_twice_91 : List UInt8 := 2 :: sxX12_twice_92
noncomputable def sxX12_twice_88 : List UInt8 := 167 :: 255 :: 180 :: sxX12_twice_91
noncomputable def sxX12_twice_85 : List UInt8 := 132 :: 2 :: 1 :: sxX12_twice_88
noncomputable def sxX12_twice_82 : List UInt8 := 167 :: 255 :: 196 :: sxX12_twice_85
noncomputable def sxX12_twice_79 : List UInt8 := 132 :: 3 :: 1 :: sxX12_twice_82
noncomputable def sxX12_twice_78 : List UInt8 := 172 :: sxX12_twice_79
noncomputable def sxX12_twice_77 : List UInt8 := 28 :: sxX12_twice_78
noncomputable def sxX12_twice_74 : List UInt8 := 162 :: 0 :: 5 :: sxX12_twice_77
noncomputable def sxX12_twice_73 : List UInt8 := 46 :: sxX12_twice_74
noncomputable def sxX12_twice_72 : List UInt8 := 28 :: sxX12_twice_73
noncomputable def sxX12_twice_69 : List UInt8 := 180 :: 0 :: 153 :: sxX12_twice_72
noncomputable def sxX12_twice_68 : List UInt8 := 42 :: sxX12_twice_69
noncomputable def sxX12_twice_67 : List UInt8 := 46 :: sxX12_twice_68
noncomputable def sxX12_twice_66 : List UInt8 := 29 :: sxX12_twice_67
noncomputable def sxX12_twice_63 : List UInt8 := 180 :: 0 :: 150 :: sxX12_twice_66
noncomputable def sxX12_twice_62 : List UInt8 := 42 :: sxX12_twice_63
noncomputable def sxX12_twice_59 : List UInt8 := 162 :: 0 :: 20 :: sxX12_twice_62
noncomputable def sxX12_twice_58 : List UInt8 := 46 :: sxX12_twice_59
noncomputable def sxX12_twice_57 : List UInt8 := 29 :: sxX12_twice_58
noncomputable def sxX12_twice_54 : List UInt8 := 180 :: 0 :: 153 :: sxX12_twice_57
noncomputable def sxX12_twice_53 : List UInt8 := 42 :: sxX12_twice_54
noncomputable def sxX12_twice_52 : List UInt8 := 46 :: sxX12_twice_53
noncomputable def sxX12_twice_51 : List UInt8 := 28 :: sxX12_twice_52
noncomputable def sxX12_twice_48 : List UInt8 := 180 :: 0 :: 150 :: sxX12_twice_51
noncomputable def sxX12_twice_47 : List UInt8 := 42 :: sxX12_twice_48
noncomputable def sxX12_twice_44 : List UInt8 := 160 :: 0 :: 35 :: sxX12_twice_47
noncomputable def sxX12_twice_43 : List UInt8 := 27 :: sxX12_twice_44
noncomputable def sxX12_twice_42 : List UInt8 := 46 :: sxX12_twice_43
noncomputable def sxX12_twice_41 : List UInt8 := 29 :: sxX12_twice_42
noncomputable def sxX12_twice_38 : List UInt8 := 180 :: 0 :: 147 :: sxX12_twice_41
noncomputable def sxX12_twice_37 : List UInt8 := 42 :: sxX12_twice_38
noncomputable def sxX12_twice_34 : List UInt8 := 160 :: 0 :: 45 :: sxX12_twice_37
noncomputable def sxX12_twice_33 : List UInt8 := 27 :: sxX12_twice_34
noncomputable def sxX12_twice_32 : List UInt8 := 46 :: sxX12_twice_33
noncomputable def sxX12_twice_31 : List UInt8 := 28 :: sxX12_twice_32
noncomputable def sxX12_twice_28 : List UInt8 := 180 :: 0 :: 147 :: sxX12_twice_31
noncomputable def sxX12_twice_27 : List UInt8 := 42 :: sxX12_twice_28
noncomputable def sxX12_twice_24 : List UInt8 := 162 :: 0 :: 61 :: sxX12_twice_27
noncomputable def sxX12_twice_23 : List UInt8 := 28 :: sxX12_twice_24
noncomputable def sxX12_twice_22 : List UInt8 := 29 :: sxX12_twice_23
noncomputable def sxX12_twice_21 : List UInt8 := 62 :: sxX12_twice_22
noncomputable def sxX12_twice_20 : List UInt8 := 3 :: sxX12_twice_21
noncomputable def sxX12_twice_17 : List UInt8 := 162 :: 0 :: 74 :: sxX12_twice_20
noncomputable def sxX12_twice_14 : List UInt8 := 180 :: 1 :: 191 :: sxX12_twice_17
noncomputable def sxX12_twice_13 : List UInt8 := 42 :: sxX12_twice_14
noncomputable def sxX12_twice_12 : List UInt8 := 28 :: sxX12_twice_13
noncomputable def sxX12_twice_11 : List UInt8 := 61 :: sxX12_twice_12
noncomputable def sxX12_twice_10 : List UInt8 := 3 :: sxX12_twice_11
noncomputable def sxX12_twice_9 : List UInt8 := 172 :: sxX12_twice_10
noncomputable def sxX12_twice_8 : List UInt8 := 2 :: sxX12_twice_9
noncomputable def sxX12_twice_5 : List UInt8 := 154 :: 0 :: 5 :: sxX12_twice_8
noncomputable def sxX12_twice_2 : List UInt8 := 182 :: 1 :: 194 :: sxX12_twice_5
noncomputable def sxX12_twice_1 : List UInt8 := 27 :: sxX12_twice_2
noncomputable def sxX12_twice_0 : List UInt8 := 42 :: sxX12_twice_1
theorem shX12_twice_0 : cX12_twice.data.toList.drop 0 = sxX12_twice_0 := rfl
theorem shX12_twice_1 : cX12_twice.data.toList.drop 1 = sxX12_twice_1 := dSn 1 shX12_twice_0
theorem shX12_twice_2 : cX12_twice.data.toList.drop 2 = sxX12_twice_2 := dSn 1 shX12_twice_1
theorem shX12_twice_5 : cX12_twice.data.toList.drop 5 = sxX12_twice_5 := dSn 3 shX12_twice_2
theorem shX12_twice_8 : cX12_twice.data.toList.drop 8 = sxX12_twice_8 := dSn 3 shX12_twice_5
theorem shX12_twice_9 : cX12_twice.data.toList.drop 9 = sxX12_twice_9 := dSn 1 shX12_twice_8
theorem shX12_twice_10 : cX12_twice.data.toList.drop 10 = sxX12_twice_10 := dSn 1 shX12_twice_9
theorem shX12_twice_11 : cX12_twice.data.toList.drop 11 = sxX12_twice_11 := dSn 1 shX12_twice_10
theorem shX12_twice_12 : cX12_twice.data.toList.drop 12 = sxX12_twice_12 := dSn 1 shX12_twice_11
theorem shX12_twice_13 : cX12_twice.data.toList.drop 13 = sxX12_twice_13 := dSn 1 shX12_twice_12
theorem shX12_twice_14 : cX12_twice.data.toList.drop 14 = sxX12_twice_14 := dSn 1 shX12_twice_13
theorem shX12_twice_17 : cX12_twice.data.toList.drop 17 = sxX12_twice_17 := dSn 3 shX12_twice_14
theorem shX12_twice_20 : cX12_twice.data.toList.drop 20 = sxX12_twice_20 := dSn 3 shX12_twice_17
theorem shX12_twice_21 : cX12_twice.data.toList.drop 21 = sxX12_twice_21 := dSn 1 shX12_twice_20
theorem shX12_twice_22 : cX12_twice.data.toList.drop 22 = sxX12_twice_22 := dSn 1 shX12_twice_21
theorem shX12_twice_23 : cX12_twice.data.toList.drop 23 = sxX12_twice_23 := dSn 1 shX12_twice_22
theorem shX12_twice_24 : cX12_twice.data.toList.drop 24 = sxX12_twice_24 := dSn 1 shX12_twice_23
theorem shX12_twice_27 : cX12_twice.data.toList.drop 27 = sxX12_twice_27 := dSn 3 shX12_twice_24
theorem shX12_twice_28 : cX12_twice.data.toList.drop 28 = sxX12_twice_28 := dSn 1 shX12_twice_27
theorem shX12_twice_31 : cX12_twice.data.toList.drop 31 = sxX12_twice_31 := dSn 3 shX12_twice_28
theorem shX12_twice_32 : cX12_twice.data.toList.drop 32 = sxX12_twice_32 := dSn 1 shX12_twice_31
theorem shX12_twice_33 : cX12_twice.data.toList.drop 33 = sxX12_twice_33 := dSn 1 shX12_twice_32
theorem shX12_twice_34 : cX12_twice.data.toList.drop 34 = sxX12_twice_34 := dSn 1 shX12_twice_33
theorem shX12_twice_37 : cX12_twice.data.toList.drop 37 = sxX12_twice_37 := dSn 3 shX12_twice_34
theorem shX12_twice_38 : cX12_twice.data.toList.drop 38 = sxX12_twice_38 := dSn 1 shX12_twice_37
theorem shX12_twice_41 : cX12_twice.data.toList.drop 41 = sxX12_twice_41 := dSn 3 shX12_twice_38
theorem shX12_twice_42 : cX12_twice.data.toList.drop 42 = sxX12_twice_42 := dSn 1 shX12_twice_41
theorem shX12_twice_43 : cX12_twice.data.toList.drop 43 = sxX12_twice_43 := dSn 1 shX12_twice_42
theorem shX12_twice_44 : cX12_twice.data.toList.drop 44 = sxX12_twice_44 := dSn 1 shX12_twice_43
theorem shX12_twice_47 : cX12_twice.data.toList.drop 47 = sxX12_twice_47 := dSn 3 shX12_twice_44
theorem shX12_twice_48 : cX12_twice.data.toList.drop 48 = sxX12_twice_48 := dSn 1 shX12_twice_47
theorem shX12_twice_51 : cX12_twice.data.toList.drop 51 = sxX12_twice_51 := dSn 3 shX12_twice_48
theorem shX12_twice_52 : cX12_twice.data.toList.drop 52 = sxX12_twice_52 := dSn 1 shX12_twice_51
theorem shX12_twice_53 : cX12_twice.data.toList.drop 53 = sxX12_twice_53 := dSn 1 shX12_twice_52
theorem shX12_twice_54 : cX12_twice.data.toList.drop 54 = sxX12_twice_54 := dSn 1 shX12_twice_53
theorem shX12_twice_57 : cX12_twice.data.toList.drop 57 = sxX12_twice_57 := dSn 3 shX12_twice_54
theorem shX12_twice_58 : cX12_twice.data.toList.drop 58 = sxX12_twice_58 := dSn 1 shX12_twice_57
theorem shX12_twice_59 : cX12_twice.data.toList.drop 59 = sxX12_twice_59 := dSn 1 shX12_twice_58
theorem shX12_twice_62 : cX12_twice.data.toList.drop 62 = sxX12_twice_62 := dSn 3 shX12_twice_59
theorem shX12_twice_63 : cX12_twice.data.toList.drop 63 = sxX12_twice_63 := dSn 1 shX12_twice_62
theorem shX12_twice_66 : cX12_twice.data.toList.drop 66 = sxX12_twice_66 := dSn 3 shX12_twice_63
theorem shX12_twice_67 : cX12_twice.data.toList.drop 67 = sxX12_twice_67 := dSn 1 shX12_twice_66
theorem shX12_twice_68 : cX12_twice.data.toList.drop 68 = sxX12_twice_68 := dSn 1 shX12_twice_67
theorem shX12_twice_69 : cX12_twice.data.toList.drop 69 = sxX12_twice_69 := dSn 1 shX12_twice_68
theorem shX12_twice_72 : cX12_twice.data.toList.drop 72 = sxX12_twice_72 := dSn 3 shX12_twice_69
theorem shX12_twice_73 : cX12_twice.data.toList.drop 73 = sxX12_twice_73 := dSn 1 shX12_twice_72
theorem shX12_twice_74 : cX12_twice.data.toList.drop 74 = sxX12_twice_74 := dSn 1 shX12_twice_73
theorem shX12_twice_77 : cX12_twice.data.toList.drop 77 = sxX12_twice_77 := dSn 3 shX12_twice_74
theorem shX12_twice_78 : cX12_twice.data.toList.drop 78 = sxX12_twice_78 := dSn 1 shX12_twice_77
theorem shX12_twice_79 : cX12_twice.data.toList.drop 79 = sxX12_twice_79 := dSn 1 shX12_twice_78
theorem shX12_twice_82 : cX12_twice.data.toList.drop 82 = sxX12_twice_82 := dSn 3 shX12_twice_79
theorem shX12_twice_85 : cX12_twice.data.toList.drop 85 = sxX12_twice_85 := dSn 3 shX12_twice_82
theorem shX12_twice_88 : cX12_twice.data.toList.drop 88 = sxX12_twice_88 := dSn 3 shX12_twice_85
theorem shX12_twice_91 : cX12_twice.data.toList.drop 91 = sxX12_twice_91 := dSn 3 shX12_twice_88
theorem shX12_twice_92 : cX12_twice.data.toList.drop 92 = sxX12_twice_92 := dSn 1 shX12_twice_91
theorem dX12_twice_0 : decode cX12_twice 0 = .ok (.aload_n 0, 1) := oc_42 shX12_twice_0
theorem dX12_twice_1 : decode cX12_twice 1 = .ok (.iload_n 1, 1) := oc_27 shX12_twice_1
theorem dX12_twice_2 : decode cX12_twice 2 = .ok (.invokevirtual 450, 3) := oc_182 shX12_twice_2
theorem dX12_twice_5 : decode cX12_twice 5 = .ok (.ifCond .ne 5, 3) := oc_154 shX12_twice_5 sgw_0_5
theorem dX12_twice_8 : decode cX12_twice 8 = .ok (.iconst (-1), 1) := oc_2 shX12_twice_8
theorem dX12_twice_9 : decode cX12_twice 9 = .ok (.ireturn, 1) := oc_172 shX12_twice_9
theorem dX12_twice_10 : decode cX12_twice 10 = .ok (.iconst 0, 1) := oc_3 shX12_twice_10
theorem dX12_twice_11 : decode cX12_twice 11 = .ok (.istore_n 2, 1) := oc_61 shX12_twice_11
theorem dX12_twice_12 : decode cX12_twice 12 = .ok (.iload_n 2, 1) := oc_28 shX12_twice_12
theorem dX12_twice_13 : decode cX12_twice 13 = .ok (.aload_n 0, 1) := oc_42 shX12_twice_13
theorem dX12_twice_14 : decode cX12_twice 14 = .ok (.getfield 447, 3) := oc_180 shX12_twice_14
theorem dX12_twice_17 : decode cX12_twice 17 = .ok (.if_icmp .ge 74, 3) := oc_162 shX12_twice_17 sgw_0_74
theorem dX12_twice_20 : decode cX12_twice 20 = .ok (.iconst 0, 1) := oc_3 shX12_twice_20
theorem dX12_twice_21 : decode cX12_twice 21 = .ok (.istore_n 3, 1) := oc_62 shX12_twice_21
theorem dX12_twice_22 : decode cX12_twice 22 = .ok (.iload_n 3, 1) := oc_29 shX12_twice_22
theorem dX12_twice_23 : decode cX12_twice 23 = .ok (.iload_n 2, 1) := oc_28 shX12_twice_23
theorem dX12_twice_24 : decode cX12_twice 24 = .ok (.if_icmp .ge 61, 3) := oc_162 shX12_twice_24 sgw_0_61
theorem dX12_twice_27 : decode cX12_twice 27 = .ok (.aload_n 0, 1) := oc_42 shX12_twice_27
theorem dX12_twice_28 : decode cX12_twice 28 = .ok (.getfield 147, 3) := oc_180 shX12_twice_28
theorem dX12_twice_31 : decode cX12_twice 31 = .ok (.iload_n 2, 1) := oc_28 shX12_twice_31
theorem dX12_twice_32 : decode cX12_twice 32 = .ok (.iaload, 1) := oc_46 shX12_twice_32
theorem dX12_twice_33 : decode cX12_twice 33 = .ok (.iload_n 1, 1) := oc_27 shX12_twice_33
theorem dX12_twice_34 : decode cX12_twice 34 = .ok (.if_icmp .ne 45, 3) := oc_160 shX12_twice_34 sgw_0_45
theorem dX12_twice_37 : decode cX12_twice 37 = .ok (.aload_n 0, 1) := oc_42 shX12_twice_37
theorem dX12_twice_38 : decode cX12_twice 38 = .ok (.getfield 147, 3) := oc_180 shX12_twice_38
theorem dX12_twice_41 : decode cX12_twice 41 = .ok (.iload_n 3, 1) := oc_29 shX12_twice_41
theorem dX12_twice_42 : decode cX12_twice 42 = .ok (.iaload, 1) := oc_46 shX12_twice_42
theorem dX12_twice_43 : decode cX12_twice 43 = .ok (.iload_n 1, 1) := oc_27 shX12_twice_43
theorem dX12_twice_44 : decode cX12_twice 44 = .ok (.if_icmp .ne 35, 3) := oc_160 shX12_twice_44 sgw_0_35
theorem dX12_twice_47 : decode cX12_twice 47 = .ok (.aload_n 0, 1) := oc_42 shX12_twice_47
theorem dX12_twice_48 : decode cX12_twice 48 = .ok (.getfield 150, 3) := oc_180 shX12_twice_48
theorem dX12_twice_51 : decode cX12_twice 51 = .ok (.iload_n 2, 1) := oc_28 shX12_twice_51
theorem dX12_twice_52 : decode cX12_twice 52 = .ok (.iaload, 1) := oc_46 shX12_twice_52
theorem dX12_twice_53 : decode cX12_twice 53 = .ok (.aload_n 0, 1) := oc_42 shX12_twice_53
theorem dX12_twice_54 : decode cX12_twice 54 = .ok (.getfield 153, 3) := oc_180 shX12_twice_54
theorem dX12_twice_57 : decode cX12_twice 57 = .ok (.iload_n 3, 1) := oc_29 shX12_twice_57
theorem dX12_twice_58 : decode cX12_twice 58 = .ok (.iaload, 1) := oc_46 shX12_twice_58
theorem dX12_twice_59 : decode cX12_twice 59 = .ok (.if_icmp .ge 20, 3) := oc_162 shX12_twice_59 sgw_0_20
theorem dX12_twice_62 : decode cX12_twice 62 = .ok (.aload_n 0, 1) := oc_42 shX12_twice_62
theorem dX12_twice_63 : decode cX12_twice 63 = .ok (.getfield 150, 3) := oc_180 shX12_twice_63
theorem dX12_twice_66 : decode cX12_twice 66 = .ok (.iload_n 3, 1) := oc_29 shX12_twice_66
theorem dX12_twice_67 : decode cX12_twice 67 = .ok (.iaload, 1) := oc_46 shX12_twice_67
theorem dX12_twice_68 : decode cX12_twice 68 = .ok (.aload_n 0, 1) := oc_42 shX12_twice_68
theorem dX12_twice_69 : decode cX12_twice 69 = .ok (.getfield 153, 3) := oc_180 shX12_twice_69
theorem dX12_twice_72 : decode cX12_twice 72 = .ok (.iload_n 2, 1) := oc_28 shX12_twice_72
theorem dX12_twice_73 : decode cX12_twice 73 = .ok (.iaload, 1) := oc_46 shX12_twice_73
theorem dX12_twice_74 : decode cX12_twice 74 = .ok (.if_icmp .ge 5, 3) := oc_162 shX12_twice_74 sgw_0_5
theorem dX12_twice_77 : decode cX12_twice 77 = .ok (.iload_n 2, 1) := oc_28 shX12_twice_77
theorem dX12_twice_78 : decode cX12_twice 78 = .ok (.ireturn, 1) := oc_172 shX12_twice_78
theorem dX12_twice_79 : decode cX12_twice 79 = .ok (.iinc 3 1, 3) := oc_132 shX12_twice_79 sgb_1
theorem dX12_twice_82 : decode cX12_twice 82 = .ok (.goto (-60), 3) := oc_167 shX12_twice_82 sgw_255_196
theorem dX12_twice_85 : decode cX12_twice 85 = .ok (.iinc 2 1, 3) := oc_132 shX12_twice_85 sgb_1
theorem dX12_twice_88 : decode cX12_twice 88 = .ok (.goto (-76), 3) := oc_167 shX12_twice_88 sgw_255_180
theorem dX12_twice_91 : decode cX12_twice 91 = .ok (.iconst (-1), 1) := oc_2 shX12_twice_91
theorem dX12_twice_92 : decode cX12_twice 92 = .ok (.ireturn, 1) := oc_172 shX12_twice_92
noncomputable def sxX12_bought_29 : List UInt8 := []
noncomputable def sxX12_bought_28 : List UInt8 := 172 :: sxX12_bought_29
noncomputable def sxX12_bought_27 : List UInt8 := 2 :: sxX12_bought_28
noncomputable def sxX12_bought_24 : List UInt8 := 167 :: 0 :: 4 :: sxX12_bought_27
noncomputable def sxX12_bought_21 : List UInt8 := 182 :: 1 :: 197 :: sxX12_bought_24
noncomputable def sxX12_bought_20 : List UInt8 := 28 :: sxX12_bought_21
noncomputable def sxX12_bought_19 : List UInt8 := 27 :: sxX12_bought_20
noncomputable def sxX12_bought_18 : List UInt8 := 42 :: sxX12_bought_19
noncomputable def sxX12_bought_15 : List UInt8 := 153 :: 0 :: 12 :: sxX12_bought_18
noncomputable def sxX12_bought_12 : List UInt8 := 184 :: 0 :: 214 :: sxX12_bought_15
noncomputable def sxX12_bought_10 : List UInt8 := 16 :: 9 :: sxX12_bought_12
noncomputable def sxX12_bought_9 : List UInt8 := 3 :: sxX12_bought_10
noncomputable def sxX12_bought_8 : List UInt8 := 28 :: sxX12_bought_9
noncomputable def sxX12_bought_5 : List UInt8 := 153 :: 0 :: 22 :: sxX12_bought_8
noncomputable def sxX12_bought_2 : List UInt8 := 182 :: 1 :: 194 :: sxX12_bought_5
noncomputable def sxX12_bought_1 : List UInt8 := 27 :: sxX12_bought_2
noncomputable def sxX12_bought_0 : List UInt8 := 42 :: sxX12_bought_1
theorem shX12_bought_0 : cX12_bought.data.toList.drop 0 = sxX12_bought_0 := rfl
theorem shX12_bought_1 : cX12_bought.data.toList.drop 1 = sxX12_bought_1 := dSn 1 shX12_bought_0
theorem shX12_bought_2 : cX12_bought.data.toList.drop 2 = sxX12_bought_2 := dSn 1 shX12_bought_1
theorem shX12_bought_5 : cX12_bought.data.toList.drop 5 = sxX12_bought_5 := dSn 3 shX12_bought_2
theorem shX12_bought_8 : cX12_bought.data.toList.drop 8 = sxX12_bought_8 := dSn 3 shX12_bought_5
theorem shX12_bought_9 : cX12_bought.data.toList.drop 9 = sxX12_bought_9 := dSn 1 shX12_bought_8
theorem shX12_bought_10 : cX12_bought.data.toList.drop 10 = sxX12_bought_10 := dSn 1 shX12_bought_9
theorem shX12_bought_12 : cX12_bought.data.toList.drop 12 = sxX12_bought_12 := dSn 2 shX12_bought_10
theorem shX12_bought_15 : cX12_bought.data.toList.drop 15 = sxX12_bought_15 := dSn 3 shX12_bought_12
theorem shX12_bought_18 : cX12_bought.data.toList.drop 18 = sxX12_bought_18 := dSn 3 shX12_bought_15
theorem shX12_bought_19 : cX12_bought.data.toList.drop 19 = sxX12_bought_19 := dSn 1 shX12_bought_18
theorem shX12_bought_20 : cX12_bought.data.toList.drop 20 = sxX12_bought_20 := dSn 1 shX12_bought_19
theorem shX12_bought_21 : cX12_bought.data.toList.drop 21 = sxX12_bought_21 := dSn 1 shX12_bought_20
theorem shX12_bought_24 : cX12_bought.data.toList.drop 24 = sxX12_bought_24 := dSn 3 shX12_bought_21
theorem shX12_bought_27 : cX12_bought.data.toList.drop 27 = sxX12_bought_27 := dSn 3 shX12_bought_24
theorem shX12_bought_28 : cX12_bought.data.toList.drop 28 = sxX12_bought_28 := dSn 1 shX12_bought_27
theorem dX12_bought_0 : decode cX12_bought 0 = .ok (.aload_n 0, 1) := oc_42 shX12_bought_0
theorem dX12_bought_1 : decode cX12_bought 1 = .ok (.iload_n 1, 1) := oc_27 shX12_bought_1
theorem dX12_bought_2 : decode cX12_bought 2 = .ok (.invokevirtual 450, 3) := oc_182 shX12_bought_2
theorem dX12_bought_5 : decode cX12_bought 5 = .ok (.ifCond .eq 22, 3) := oc_153 shX12_bought_5 sgw_0_22
theorem dX12_bought_8 : decode cX12_bought 8 = .ok (.iload_n 2, 1) := oc_28 shX12_bought_8
theorem dX12_bought_9 : decode cX12_bought 9 = .ok (.iconst 0, 1) := oc_3 shX12_bought_9
theorem dX12_bought_10 : decode cX12_bought 10 = .ok (.bipush 9, 2) := oc_16 shX12_bought_10 sgb_9
theorem dX12_bought_12 : decode cX12_bought 12 = .ok (.invokestatic 214, 3) := oc_184 shX12_bought_12
theorem dX12_bought_15 : decode cX12_bought 15 = .ok (.ifCond .eq 12, 3) := oc_153 shX12_bought_15 sgw_0_12
theorem dX12_bought_18 : decode cX12_bought 18 = .ok (.aload_n 0, 1) := oc_42 shX12_bought_18
theorem dX12_bought_19 : decode cX12_bought 19 = .ok (.iload_n 1, 1) := oc_27 shX12_bought_19
theorem dX12_bought_20 : decode cX12_bought 20 = .ok (.iload_n 2, 1) := oc_28 shX12_bought_20
theorem dX12_bought_21 : decode cX12_bought 21 = .ok (.invokevirtual 453, 3) := oc_182 shX12_bought_21
theorem dX12_bought_24 : decode cX12_bought 24 = .ok (.goto 4, 3) := oc_167 shX12_bought_24 sgw_0_4
theorem dX12_bought_27 : decode cX12_bought 27 = .ok (.iconst (-1), 1) := oc_2 shX12_bought_27
theorem dX12_bought_28 : decode cX12_bought 28 = .ok (.ireturn, 1) := oc_172 shX12_bought_28
noncomputable def sxX12_loadAt_61 : List UInt8 := []
noncomputable def sxX12_loadAt_60 : List UInt8 := 172 :: sxX12_loadAt_61
noncomputable def sxX12_loadAt_59 : List UInt8 := 2 :: sxX12_loadAt_60
noncomputable def sxX12_loadAt_56 : List UInt8 := 167 :: 255 :: 205 :: sxX12_loadAt_59
noncomputable def sxX12_loadAt_53 : List UInt8 := 132 :: 4 :: 1 :: sxX12_loadAt_56
noncomputable def sxX12_loadAt_52 : List UInt8 := 62 :: sxX12_loadAt_53
noncomputable def sxX12_loadAt_51 : List UInt8 := 100 :: sxX12_loadAt_52
noncomputable def sxX12_loadAt_50 : List UInt8 := 46 :: sxX12_loadAt_51
noncomputable def sxX12_loadAt_48 : List UInt8 := 21 :: 4 :: sxX12_loadAt_50
noncomputable def sxX12_loadAt_45 : List UInt8 := 180 :: 0 :: 31 :: sxX12_loadAt_48
noncomputable def sxX12_loadAt_44 : List UInt8 := 42 :: sxX12_loadAt_45
noncomputable def sxX12_loadAt_43 : List UInt8 := 29 :: sxX12_loadAt_44
noncomputable def sxX12_loadAt_42 : List UInt8 := 172 :: sxX12_loadAt_43
noncomputable def sxX12_loadAt_40 : List UInt8 := 21 :: 4 :: sxX12_loadAt_42
noncomputable def sxX12_loadAt_37 : List UInt8 := 162 :: 0 :: 6 :: sxX12_loadAt_40
noncomputable def sxX12_loadAt_36 : List UInt8 := 46 :: sxX12_loadAt_37
noncomputable def sxX12_loadAt_34 : List UInt8 := 21 :: 4 :: sxX12_loadAt_36
noncomputable def sxX12_loadAt_31 : List UInt8 := 180 :: 0 :: 31 :: sxX12_loadAt_34
noncomputable def sxX12_loadAt_30 : List UInt8 := 42 :: sxX12_loadAt_31
noncomputable def sxX12_loadAt_29 : List UInt8 := 29 :: sxX12_loadAt_30
noncomputable def sxX12_loadAt_26 : List UInt8 := 167 :: 0 :: 27 :: sxX12_loadAt_29
noncomputable def sxX12_loadAt_23 : List UInt8 := 154 :: 0 :: 6 :: sxX12_loadAt_26
noncomputable def sxX12_loadAt_22 : List UInt8 := 126 :: sxX12_loadAt_23
noncomputable def sxX12_loadAt_21 : List UInt8 := 4 :: sxX12_loadAt_22
noncomputable def sxX12_loadAt_20 : List UInt8 := 122 :: sxX12_loadAt_21
noncomputable def sxX12_loadAt_18 : List UInt8 := 21 :: 4 :: sxX12_loadAt_20
noncomputable def sxX12_loadAt_17 : List UInt8 := 46 :: sxX12_loadAt_18
noncomputable def sxX12_loadAt_16 : List UInt8 := 27 :: sxX12_loadAt_17
noncomputable def sxX12_loadAt_13 : List UInt8 := 180 :: 0 :: 138 :: sxX12_loadAt_16
noncomputable def sxX12_loadAt_12 : List UInt8 := 42 :: sxX12_loadAt_13
noncomputable def sxX12_loadAt_9 : List UInt8 := 162 :: 0 :: 50 :: sxX12_loadAt_12
noncomputable def sxX12_loadAt_7 : List UInt8 := 16 :: 20 :: sxX12_loadAt_9
noncomputable def sxX12_loadAt_5 : List UInt8 := 21 :: 4 :: sxX12_loadAt_7
noncomputable def sxX12_loadAt_3 : List UInt8 := 54 :: 4 :: sxX12_loadAt_5
noncomputable def sxX12_loadAt_2 : List UInt8 := 3 :: sxX12_loadAt_3
noncomputable def sxX12_loadAt_1 : List UInt8 := 62 :: sxX12_loadAt_2
noncomputable def sxX12_loadAt_0 : List UInt8 := 28 :: sxX12_loadAt_1
theorem shX12_loadAt_0 : cX12_loadAt.data.toList.drop 0 = sxX12_loadAt_0 := rfl
theorem shX12_loadAt_1 : cX12_loadAt.data.toList.drop 1 = sxX12_loadAt_1 := dSn 1 shX12_loadAt_0
theorem shX12_loadAt_2 : cX12_loadAt.data.toList.drop 2 = sxX12_loadAt_2 := dSn 1 shX12_loadAt_1
theorem shX12_loadAt_3 : cX12_loadAt.data.toList.drop 3 = sxX12_loadAt_3 := dSn 1 shX12_loadAt_2
theorem shX12_loadAt_5 : cX12_loadAt.data.toList.drop 5 = sxX12_loadAt_5 := dSn 2 shX12_loadAt_3
theorem shX12_loadAt_7 : cX12_loadAt.data.toList.drop 7 = sxX12_loadAt_7 := dSn 2 shX12_loadAt_5
theorem shX12_loadAt_9 : cX12_loadAt.data.toList.drop 9 = sxX12_loadAt_9 := dSn 2 shX12_loadAt_7
theorem shX12_loadAt_12 : cX12_loadAt.data.toList.drop 12 = sxX12_loadAt_12 := dSn 3 shX12_loadAt_9
theorem shX12_loadAt_13 : cX12_loadAt.data.toList.drop 13 = sxX12_loadAt_13 := dSn 1 shX12_loadAt_12
theorem shX12_loadAt_16 : cX12_loadAt.data.toList.drop 16 = sxX12_loadAt_16 := dSn 3 shX12_loadAt_13
theorem shX12_loadAt_17 : cX12_loadAt.data.toList.drop 17 = sxX12_loadAt_17 := dSn 1 shX12_loadAt_16
theorem shX12_loadAt_18 : cX12_loadAt.data.toList.drop 18 = sxX12_loadAt_18 := dSn 1 shX12_loadAt_17
theorem shX12_loadAt_20 : cX12_loadAt.data.toList.drop 20 = sxX12_loadAt_20 := dSn 2 shX12_loadAt_18
theorem shX12_loadAt_21 : cX12_loadAt.data.toList.drop 21 = sxX12_loadAt_21 := dSn 1 shX12_loadAt_20
theorem shX12_loadAt_22 : cX12_loadAt.data.toList.drop 22 = sxX12_loadAt_22 := dSn 1 shX12_loadAt_21
theorem shX12_loadAt_23 : cX12_loadAt.data.toList.drop 23 = sxX12_loadAt_23 := dSn 1 shX12_loadAt_22
theorem shX12_loadAt_26 : cX12_loadAt.data.toList.drop 26 = sxX12_loadAt_26 := dSn 3 shX12_loadAt_23
theorem shX12_loadAt_29 : cX12_loadAt.data.toList.drop 29 = sxX12_loadAt_29 := dSn 3 shX12_loadAt_26
theorem shX12_loadAt_30 : cX12_loadAt.data.toList.drop 30 = sxX12_loadAt_30 := dSn 1 shX12_loadAt_29
theorem shX12_loadAt_31 : cX12_loadAt.data.toList.drop 31 = sxX12_loadAt_31 := dSn 1 shX12_loadAt_30
theorem shX12_loadAt_34 : cX12_loadAt.data.toList.drop 34 = sxX12_loadAt_34 := dSn 3 shX12_loadAt_31
theorem shX12_loadAt_36 : cX12_loadAt.data.toList.drop 36 = sxX12_loadAt_36 := dSn 2 shX12_loadAt_34
theorem shX12_loadAt_37 : cX12_loadAt.data.toList.drop 37 = sxX12_loadAt_37 := dSn 1 shX12_loadAt_36
theorem shX12_loadAt_40 : cX12_loadAt.data.toList.drop 40 = sxX12_loadAt_40 := dSn 3 shX12_loadAt_37
theorem shX12_loadAt_42 : cX12_loadAt.data.toList.drop 42 = sxX12_loadAt_42 := dSn 2 shX12_loadAt_40
theorem shX12_loadAt_43 : cX12_loadAt.data.toList.drop 43 = sxX12_loadAt_43 := dSn 1 shX12_loadAt_42
theorem shX12_loadAt_44 : cX12_loadAt.data.toList.drop 44 = sxX12_loadAt_44 := dSn 1 shX12_loadAt_43
theorem shX12_loadAt_45 : cX12_loadAt.data.toList.drop 45 = sxX12_loadAt_45 := dSn 1 shX12_loadAt_44
theorem shX12_loadAt_48 : cX12_loadAt.data.toList.drop 48 = sxX12_loadAt_48 := dSn 3 shX12_loadAt_45
theorem shX12_loadAt_50 : cX12_loadAt.data.toList.drop 50 = sxX12_loadAt_50 := dSn 2 shX12_loadAt_48
theorem shX12_loadAt_51 : cX12_loadAt.data.toList.drop 51 = sxX12_loadAt_51 := dSn 1 shX12_loadAt_50
theorem shX12_loadAt_52 : cX12_loadAt.data.toList.drop 52 = sxX12_loadAt_52 := dSn 1 shX12_loadAt_51
theorem shX12_loadAt_53 : cX12_loadAt.data.toList.drop 53 = sxX12_loadAt_53 := dSn 1 shX12_loadAt_52
theorem shX12_loadAt_56 : cX12_loadAt.data.toList.drop 56 = sxX12_loadAt_56 := dSn 3 shX12_loadAt_53
theorem shX12_loadAt_59 : cX12_loadAt.data.toList.drop 59 = sxX12_loadAt_59 := dSn 3 shX12_loadAt_56
theorem shX12_loadAt_60 : cX12_loadAt.data.toList.drop 60 = sxX12_loadAt_60 := dSn 1 shX12_loadAt_59
theorem dX12_loadAt_0 : decode cX12_loadAt 0 = .ok (.iload_n 2, 1) := oc_28 shX12_loadAt_0
theorem dX12_loadAt_1 : decode cX12_loadAt 1 = .ok (.istore_n 3, 1) := oc_62 shX12_loadAt_1
theorem dX12_loadAt_2 : decode cX12_loadAt 2 = .ok (.iconst 0, 1) := oc_3 shX12_loadAt_2
theorem dX12_loadAt_3 : decode cX12_loadAt 3 = .ok (.istore 4, 2) := oc_54 shX12_loadAt_3
theorem dX12_loadAt_5 : decode cX12_loadAt 5 = .ok (.iload 4, 2) := oc_21 shX12_loadAt_5
theorem dX12_loadAt_7 : decode cX12_loadAt 7 = .ok (.bipush 20, 2) := oc_16 shX12_loadAt_7 sgb_20
theorem dX12_loadAt_9 : decode cX12_loadAt 9 = .ok (.if_icmp .ge 50, 3) := oc_162 shX12_loadAt_9 sgw_0_50
theorem dX12_loadAt_12 : decode cX12_loadAt 12 = .ok (.aload_n 0, 1) := oc_42 shX12_loadAt_12
theorem dX12_loadAt_13 : decode cX12_loadAt 13 = .ok (.getfield 138, 3) := oc_180 shX12_loadAt_13
theorem dX12_loadAt_16 : decode cX12_loadAt 16 = .ok (.iload_n 1, 1) := oc_27 shX12_loadAt_16
theorem dX12_loadAt_17 : decode cX12_loadAt 17 = .ok (.iaload, 1) := oc_46 shX12_loadAt_17
theorem dX12_loadAt_18 : decode cX12_loadAt 18 = .ok (.iload 4, 2) := oc_21 shX12_loadAt_18
theorem dX12_loadAt_20 : decode cX12_loadAt 20 = .ok (.ishr, 1) := oc_122 shX12_loadAt_20
theorem dX12_loadAt_21 : decode cX12_loadAt 21 = .ok (.iconst 1, 1) := oc_4 shX12_loadAt_21
theorem dX12_loadAt_22 : decode cX12_loadAt 22 = .ok (.iand, 1) := oc_126 shX12_loadAt_22
theorem dX12_loadAt_23 : decode cX12_loadAt 23 = .ok (.ifCond .ne 6, 3) := oc_154 shX12_loadAt_23 sgw_0_6
theorem dX12_loadAt_26 : decode cX12_loadAt 26 = .ok (.goto 27, 3) := oc_167 shX12_loadAt_26 sgw_0_27
theorem dX12_loadAt_29 : decode cX12_loadAt 29 = .ok (.iload_n 3, 1) := oc_29 shX12_loadAt_29
theorem dX12_loadAt_30 : decode cX12_loadAt 30 = .ok (.aload_n 0, 1) := oc_42 shX12_loadAt_30
theorem dX12_loadAt_31 : decode cX12_loadAt 31 = .ok (.getfield 31, 3) := oc_180 shX12_loadAt_31
theorem dX12_loadAt_34 : decode cX12_loadAt 34 = .ok (.iload 4, 2) := oc_21 shX12_loadAt_34
theorem dX12_loadAt_36 : decode cX12_loadAt 36 = .ok (.iaload, 1) := oc_46 shX12_loadAt_36
theorem dX12_loadAt_37 : decode cX12_loadAt 37 = .ok (.if_icmp .ge 6, 3) := oc_162 shX12_loadAt_37 sgw_0_6
theorem dX12_loadAt_40 : decode cX12_loadAt 40 = .ok (.iload 4, 2) := oc_21 shX12_loadAt_40
theorem dX12_loadAt_42 : decode cX12_loadAt 42 = .ok (.ireturn, 1) := oc_172 shX12_loadAt_42
theorem dX12_loadAt_43 : decode cX12_loadAt 43 = .ok (.iload_n 3, 1) := oc_29 shX12_loadAt_43
theorem dX12_loadAt_44 : decode cX12_loadAt 44 = .ok (.aload_n 0, 1) := oc_42 shX12_loadAt_44
theorem dX12_loadAt_45 : decode cX12_loadAt 45 = .ok (.getfield 31, 3) := oc_180 shX12_loadAt_45
theorem dX12_loadAt_48 : decode cX12_loadAt 48 = .ok (.iload 4, 2) := oc_21 shX12_loadAt_48
theorem dX12_loadAt_50 : decode cX12_loadAt 50 = .ok (.iaload, 1) := oc_46 shX12_loadAt_50
theorem dX12_loadAt_51 : decode cX12_loadAt 51 = .ok (.isub, 1) := oc_100 shX12_loadAt_51
theorem dX12_loadAt_52 : decode cX12_loadAt 52 = .ok (.istore_n 3, 1) := oc_62 shX12_loadAt_52
theorem dX12_loadAt_53 : decode cX12_loadAt 53 = .ok (.iinc 4 1, 3) := oc_132 shX12_loadAt_53 sgb_1
theorem dX12_loadAt_56 : decode cX12_loadAt 56 = .ok (.goto (-51), 3) := oc_167 shX12_loadAt_56 sgw_255_205
theorem dX12_loadAt_59 : decode cX12_loadAt 59 = .ok (.iconst (-1), 1) := oc_2 shX12_loadAt_59
theorem dX12_loadAt_60 : decode cX12_loadAt 60 = .ok (.ireturn, 1) := oc_172 shX12_loadAt_60
noncomputable def sxX12_whence_34 : List UInt8 := []
noncomputable def sxX12_whence_33 : List UInt8 := 172 :: sxX12_whence_34
noncomputable def sxX12_whence_32 : List UInt8 := 2 :: sxX12_whence_33
noncomputable def sxX12_whence_29 : List UInt8 := 167 :: 0 :: 4 :: sxX12_whence_32
noncomputable def sxX12_whence_26 : List UInt8 := 182 :: 1 :: 200 :: sxX12_whence_29
noncomputable def sxX12_whence_25 : List UInt8 := 28 :: sxX12_whence_26
noncomputable def sxX12_whence_24 : List UInt8 := 27 :: sxX12_whence_25
noncomputable def sxX12_whence_23 : List UInt8 := 42 :: sxX12_whence_24
noncomputable def sxX12_whence_20 : List UInt8 := 153 :: 0 :: 12 :: sxX12_whence_23
noncomputable def sxX12_whence_17 : List UInt8 := 184 :: 0 :: 214 :: sxX12_whence_20
noncomputable def sxX12_whence_16 : List UInt8 := 100 :: sxX12_whence_17
noncomputable def sxX12_whence_15 : List UInt8 := 4 :: sxX12_whence_16
noncomputable def sxX12_whence_12 : List UInt8 := 182 :: 1 :: 188 :: sxX12_whence_15
noncomputable def sxX12_whence_11 : List UInt8 := 27 :: sxX12_whence_12
noncomputable def sxX12_whence_10 : List UInt8 := 42 :: sxX12_whence_11
noncomputable def sxX12_whence_9 : List UInt8 := 3 :: sxX12_whence_10
noncomputable def sxX12_whence_8 : List UInt8 := 28 :: sxX12_whence_9
noncomputable def sxX12_whence_5 : List UInt8 := 153 :: 0 :: 27 :: sxX12_whence_8
noncomputable def sxX12_whence_2 : List UInt8 := 182 :: 1 :: 194 :: sxX12_whence_5
noncomputable def sxX12_whence_1 : List UInt8 := 27 :: sxX12_whence_2
noncomputable def sxX12_whence_0 : List UInt8 := 42 :: sxX12_whence_1
theorem shX12_whence_0 : cX12_whence.data.toList.drop 0 = sxX12_whence_0 := rfl
theorem shX12_whence_1 : cX12_whence.data.toList.drop 1 = sxX12_whence_1 := dSn 1 shX12_whence_0
theorem shX12_whence_2 : cX12_whence.data.toList.drop 2 = sxX12_whence_2 := dSn 1 shX12_whence_1
theorem shX12_whence_5 : cX12_whence.data.toList.drop 5 = sxX12_whence_5 := dSn 3 shX12_whence_2
theorem shX12_whence_8 : cX12_whence.data.toList.drop 8 = sxX12_whence_8 := dSn 3 shX12_whence_5
theorem shX12_whence_9 : cX12_whence.data.toList.drop 9 = sxX12_whence_9 := dSn 1 shX12_whence_8
theorem shX12_whence_10 : cX12_whence.data.toList.drop 10 = sxX12_whence_10 := dSn 1 shX12_whence_9
theorem shX12_whence_11 : cX12_whence.data.toList.drop 11 = sxX12_whence_11 := dSn 1 shX12_whence_10
theorem shX12_whence_12 : cX12_whence.data.toList.drop 12 = sxX12_whence_12 := dSn 1 shX12_whence_11
theorem shX12_whence_15 : cX12_whence.data.toList.drop 15 = sxX12_whence_15 := dSn 3 shX12_whence_12
theorem shX12_whence_16 : cX12_whence.data.toList.drop 16 = sxX12_whence_16 := dSn 1 shX12_whence_15
theorem shX12_whence_17 : cX12_whence.data.toList.drop 17 = sxX12_whence_17 := dSn 1 shX12_whence_16
theorem shX12_whence_20 : cX12_whence.data.toList.drop 20 = sxX12_whence_20 := dSn 3 shX12_whence_17
theorem shX12_whence_23 : cX12_whence.data.toList.drop 23 = sxX12_whence_23 := dSn 3 shX12_whence_20
theorem shX12_whence_24 : cX12_whence.data.toList.drop 24 = sxX12_whence_24 := dSn 1 shX12_whence_23
theorem shX12_whence_25 : cX12_whence.data.toList.drop 25 = sxX12_whence_25 := dSn 1 shX12_whence_24
theorem shX12_whence_26 : cX12_whence.data.toList.drop 26 = sxX12_whence_26 := dSn 1 shX12_whence_25
theorem shX12_whence_29 : cX12_whence.data.toList.drop 29 = sxX12_whence_29 := dSn 3 shX12_whence_26
theorem shX12_whence_32 : cX12_whence.data.toList.drop 32 = sxX12_whence_32 := dSn 3 shX12_whence_29
theorem shX12_whence_33 : cX12_whence.data.toList.drop 33 = sxX12_whence_33 := dSn 1 shX12_whence_32
theorem dX12_whence_0 : decode cX12_whence 0 = .ok (.aload_n 0, 1) := oc_42 shX12_whence_0
theorem dX12_whence_1 : decode cX12_whence 1 = .ok (.iload_n 1, 1) := oc_27 shX12_whence_1
theorem dX12_whence_2 : decode cX12_whence 2 = .ok (.invokevirtual 450, 3) := oc_182 shX12_whence_2
theorem dX12_whence_5 : decode cX12_whence 5 = .ok (.ifCond .eq 27, 3) := oc_153 shX12_whence_5 sgw_0_27
theorem dX12_whence_8 : decode cX12_whence 8 = .ok (.iload_n 2, 1) := oc_28 shX12_whence_8
theorem dX12_whence_9 : decode cX12_whence 9 = .ok (.iconst 0, 1) := oc_3 shX12_whence_9
theorem dX12_whence_10 : decode cX12_whence 10 = .ok (.aload_n 0, 1) := oc_42 shX12_whence_10
theorem dX12_whence_11 : decode cX12_whence 11 = .ok (.iload_n 1, 1) := oc_27 shX12_whence_11
theorem dX12_whence_12 : decode cX12_whence 12 = .ok (.invokevirtual 444, 3) := oc_182 shX12_whence_12
theorem dX12_whence_15 : decode cX12_whence 15 = .ok (.iconst 1, 1) := oc_4 shX12_whence_15
theorem dX12_whence_16 : decode cX12_whence 16 = .ok (.isub, 1) := oc_100 shX12_whence_16
theorem dX12_whence_17 : decode cX12_whence 17 = .ok (.invokestatic 214, 3) := oc_184 shX12_whence_17
theorem dX12_whence_20 : decode cX12_whence 20 = .ok (.ifCond .eq 12, 3) := oc_153 shX12_whence_20 sgw_0_12
theorem dX12_whence_23 : decode cX12_whence 23 = .ok (.aload_n 0, 1) := oc_42 shX12_whence_23
theorem dX12_whence_24 : decode cX12_whence 24 = .ok (.iload_n 1, 1) := oc_27 shX12_whence_24
theorem dX12_whence_25 : decode cX12_whence 25 = .ok (.iload_n 2, 1) := oc_28 shX12_whence_25
theorem dX12_whence_26 : decode cX12_whence 26 = .ok (.invokevirtual 456, 3) := oc_182 shX12_whence_26
theorem dX12_whence_29 : decode cX12_whence 29 = .ok (.goto 4, 3) := oc_167 shX12_whence_29 sgw_0_4
theorem dX12_whence_32 : decode cX12_whence 32 = .ok (.iconst (-1), 1) := oc_2 shX12_whence_32
theorem dX12_whence_33 : decode cX12_whence 33 = .ok (.ireturn, 1) := oc_172 shX12_whence_33
noncomputable def sxX12_isProof_18 : List UInt8 := []
noncomputable def sxX12_isProof_17 : List UInt8 := 172 :: sxX12_isProof_18
noncomputable def sxX12_isProof_16 : List UInt8 := 3 :: sxX12_isProof_17
noncomputable def sxX12_isProof_13 : List UInt8 := 167 :: 0 :: 4 :: sxX12_isProof_16
noncomputable def sxX12_isProof_12 : List UInt8 := 4 :: sxX12_isProof_13
noncomputable def sxX12_isProof_9 : List UInt8 := 162 :: 0 :: 7 :: sxX12_isProof_12
noncomputable def sxX12_isProof_6 : List UInt8 := 180 :: 1 :: 191 :: sxX12_isProof_9
noncomputable def sxX12_isProof_5 : List UInt8 := 42 :: sxX12_isProof_6
noncomputable def sxX12_isProof_4 : List UInt8 := 27 :: sxX12_isProof_5
noncomputable def sxX12_isProof_1 : List UInt8 := 155 :: 0 :: 15 :: sxX12_isProof_4
noncomputable def sxX12_isProof_0 : List UInt8 := 27 :: sxX12_isProof_1
theorem shX12_isProof_0 : cX12_isProof.data.toList.drop 0 = sxX12_isProof_0 := rfl
theorem shX12_isProof_1 : cX12_isProof.data.toList.drop 1 = sxX12_isProof_1 := dSn 1 shX12_isProof_0
theorem shX12_isProof_4 : cX12_isProof.data.toList.drop 4 = sxX12_isProof_4 := dSn 3 shX12_isProof_1
theorem shX12_isProof_5 : cX12_isProof.data.toList.drop 5 = sxX12_isProof_5 := dSn 1 shX12_isProof_4
theorem shX12_isProof_6 : cX12_isProof.data.toList.drop 6 = sxX12_isProof_6 := dSn 1 shX12_isProof_5
theorem shX12_isProof_9 : cX12_isProof.data.toList.drop 9 = sxX12_isProof_9 := dSn 3 shX12_isProof_6
theorem shX12_isProof_12 : cX12_isProof.data.toList.drop 12 = sxX12_isProof_12 := dSn 3 shX12_isProof_9
theorem shX12_isProof_13 : cX12_isProof.data.toList.drop 13 = sxX12_isProof_13 := dSn 1 shX12_isProof_12
theorem shX12_isProof_16 : cX12_isProof.data.toList.drop 16 = sxX12_isProof_16 := dSn 3 shX12_isProof_13
theorem shX12_isProof_17 : cX12_isProof.data.toList.drop 17 = sxX12_isProof_17 := dSn 1 shX12_isProof_16
theorem dX12_isProof_0 : decode cX12_isProof 0 = .ok (.iload_n 1, 1) := oc_27 shX12_isProof_0
theorem dX12_isProof_1 : decode cX12_isProof 1 = .ok (.ifCond .lt 15, 3) := oc_155 shX12_isProof_1 sgw_0_15
theorem dX12_isProof_4 : decode cX12_isProof 4 = .ok (.iload_n 1, 1) := oc_27 shX12_isProof_4
theorem dX12_isProof_5 : decode cX12_isProof 5 = .ok (.aload_n 0, 1) := oc_42 shX12_isProof_5
theorem dX12_isProof_6 : decode cX12_isProof 6 = .ok (.getfield 447, 3) := oc_180 shX12_isProof_6
theorem dX12_isProof_9 : decode cX12_isProof 9 = .ok (.if_icmp .ge 7, 3) := oc_162 shX12_isProof_9 sgw_0_7
theorem dX12_isProof_12 : decode cX12_isProof 12 = .ok (.iconst 1, 1) := oc_4 shX12_isProof_12
theorem dX12_isProof_13 : decode cX12_isProof 13 = .ok (.goto 4, 3) := oc_167 shX12_isProof_13 sgw_0_4
theorem dX12_isProof_16 : decode cX12_isProof 16 = .ok (.iconst 0, 1) := oc_3 shX12_isProof_16
theorem dX12_isProof_17 : decode cX12_isProof 17 = .ok (.ireturn, 1) := oc_172 shX12_isProof_17
noncomputable def sxX12_audit_76 : List UInt8 := []
noncomputable def sxX12_audit_75 : List UInt8 := 172 :: sxX12_audit_76
noncomputable def sxX12_audit_74 : List UInt8 := 29 :: sxX12_audit_75
noncomputable def sxX12_audit_71 : List UInt8 := 167 :: 255 :: 213 :: sxX12_audit_74
noncomputable def sxX12_audit_68 : List UInt8 := 132 :: 4 :: 1 :: sxX12_audit_71
noncomputable def sxX12_audit_67 : List UInt8 := 62 :: sxX12_audit_68
noncomputable def sxX12_audit_66 : List UInt8 := 96 :: sxX12_audit_67
noncomputable def sxX12_audit_65 : List UInt8 := 3 :: sxX12_audit_66
noncomputable def sxX12_audit_62 : List UInt8 := 167 :: 0 :: 4 :: sxX12_audit_65
noncomputable def sxX12_audit_61 : List UInt8 := 4 :: sxX12_audit_62
noncomputable def sxX12_audit_58 : List UInt8 := 160 :: 0 :: 7 :: sxX12_audit_61
noncomputable def sxX12_audit_57 : List UInt8 := 28 :: sxX12_audit_58
noncomputable def sxX12_audit_56 : List UInt8 := 46 :: sxX12_audit_57
noncomputable def sxX12_audit_53 : List UInt8 := 182 :: 1 :: 200 :: sxX12_audit_56
noncomputable def sxX12_audit_51 : List UInt8 := 21 :: 4 :: sxX12_audit_53
noncomputable def sxX12_audit_50 : List UInt8 := 46 :: sxX12_audit_51
noncomputable def sxX12_audit_49 : List UInt8 := 27 :: sxX12_audit_50
noncomputable def sxX12_audit_46 : List UInt8 := 180 :: 0 :: 147 :: sxX12_audit_49
noncomputable def sxX12_audit_45 : List UInt8 := 42 :: sxX12_audit_46
noncomputable def sxX12_audit_44 : List UInt8 := 42 :: sxX12_audit_45
noncomputable def sxX12_audit_41 : List UInt8 := 180 :: 0 :: 25 :: sxX12_audit_44
noncomputable def sxX12_audit_40 : List UInt8 := 42 :: sxX12_audit_41
noncomputable def sxX12_audit_39 : List UInt8 := 29 :: sxX12_audit_40
noncomputable def sxX12_audit_36 : List UInt8 := 162 :: 0 :: 38 :: sxX12_audit_39
noncomputable def sxX12_audit_35 : List UInt8 := 46 :: sxX12_audit_36
noncomputable def sxX12_audit_34 : List UInt8 := 27 :: sxX12_audit_35
noncomputable def sxX12_audit_31 : List UInt8 := 180 :: 0 :: 153 :: sxX12_audit_34
noncomputable def sxX12_audit_30 : List UInt8 := 42 :: sxX12_audit_31
noncomputable def sxX12_audit_28 : List UInt8 := 21 :: 4 :: sxX12_audit_30
noncomputable def sxX12_audit_26 : List UInt8 := 54 :: 4 :: sxX12_audit_28
noncomputable def sxX12_audit_25 : List UInt8 := 46 :: sxX12_audit_26
noncomputable def sxX12_audit_24 : List UInt8 := 27 :: sxX12_audit_25
noncomputable def sxX12_audit_21 : List UInt8 := 180 :: 0 :: 150 :: sxX12_audit_24
noncomputable def sxX12_audit_20 : List UInt8 := 42 :: sxX12_audit_21
noncomputable def sxX12_audit_19 : List UInt8 := 62 :: sxX12_audit_20
noncomputable def sxX12_audit_18 : List UInt8 := 3 :: sxX12_audit_19
noncomputable def sxX12_audit_17 : List UInt8 := 172 :: sxX12_audit_18
noncomputable def sxX12_audit_16 : List UInt8 := 2 :: sxX12_audit_17
noncomputable def sxX12_audit_13 : List UInt8 := 154 :: 0 :: 5 :: sxX12_audit_16
noncomputable def sxX12_audit_10 : List UInt8 := 182 :: 0 :: 218 :: sxX12_audit_13
noncomputable def sxX12_audit_9 : List UInt8 := 28 :: sxX12_audit_10
noncomputable def sxX12_audit_8 : List UInt8 := 42 :: sxX12_audit_9
noncomputable def sxX12_audit_5 : List UInt8 := 153 :: 0 :: 11 :: sxX12_audit_8
noncomputable def sxX12_audit_2 : List UInt8 := 182 :: 1 :: 203 :: sxX12_audit_5
noncomputable def sxX12_audit_1 : List UInt8 := 27 :: sxX12_audit_2
noncomputable def sxX12_audit_0 : List UInt8 := 42 :: sxX12_audit_1
theorem shX12_audit_0 : cX12_audit.data.toList.drop 0 = sxX12_audit_0 := rfl
theorem shX12_audit_1 : cX12_audit.data.toList.drop 1 = sxX12_audit_1 := dSn 1 shX12_audit_0
theorem shX12_audit_2 : cX12_audit.data.toList.drop 2 = sxX12_audit_2 := dSn 1 shX12_audit_1
theorem shX12_audit_5 : cX12_audit.data.toList.drop 5 = sxX12_audit_5 := dSn 3 shX12_audit_2
theorem shX12_audit_8 : cX12_audit.data.toList.drop 8 = sxX12_audit_8 := dSn 3 shX12_audit_5
theorem shX12_audit_9 : cX12_audit.data.toList.drop 9 = sxX12_audit_9 := dSn 1 shX12_audit_8
theorem shX12_audit_10 : cX12_audit.data.toList.drop 10 = sxX12_audit_10 := dSn 1 shX12_audit_9
theorem shX12_audit_13 : cX12_audit.data.toList.drop 13 = sxX12_audit_13 := dSn 3 shX12_audit_10
theorem shX12_audit_16 : cX12_audit.data.toList.drop 16 = sxX12_audit_16 := dSn 3 shX12_audit_13
theorem shX12_audit_17 : cX12_audit.data.toList.drop 17 = sxX12_audit_17 := dSn 1 shX12_audit_16
theorem shX12_audit_18 : cX12_audit.data.toList.drop 18 = sxX12_audit_18 := dSn 1 shX12_audit_17
theorem shX12_audit_19 : cX12_audit.data.toList.drop 19 = sxX12_audit_19 := dSn 1 shX12_audit_18
theorem shX12_audit_20 : cX12_audit.data.toList.drop 20 = sxX12_audit_20 := dSn 1 shX12_audit_19
theorem shX12_audit_21 : cX12_audit.data.toList.drop 21 = sxX12_audit_21 := dSn 1 shX12_audit_20
theorem shX12_audit_24 : cX12_audit.data.toList.drop 24 = sxX12_audit_24 := dSn 3 shX12_audit_21
theorem shX12_audit_25 : cX12_audit.data.toList.drop 25 = sxX12_audit_25 := dSn 1 shX12_audit_24
theorem shX12_audit_26 : cX12_audit.data.toList.drop 26 = sxX12_audit_26 := dSn 1 shX12_audit_25
theorem shX12_audit_28 : cX12_audit.data.toList.drop 28 = sxX12_audit_28 := dSn 2 shX12_audit_26
theorem shX12_audit_30 : cX12_audit.data.toList.drop 30 = sxX12_audit_30 := dSn 2 shX12_audit_28
theorem shX12_audit_31 : cX12_audit.data.toList.drop 31 = sxX12_audit_31 := dSn 1 shX12_audit_30
theorem shX12_audit_34 : cX12_audit.data.toList.drop 34 = sxX12_audit_34 := dSn 3 shX12_audit_31
theorem shX12_audit_35 : cX12_audit.data.toList.drop 35 = sxX12_audit_35 := dSn 1 shX12_audit_34
theorem shX12_audit_36 : cX12_audit.data.toList.drop 36 = sxX12_audit_36 := dSn 1 shX12_audit_35
theorem shX12_audit_39 : cX12_audit.data.toList.drop 39 = sxX12_audit_39 := dSn 3 shX12_audit_36
theorem shX12_audit_40 : cX12_audit.data.toList.drop 40 = sxX12_audit_40 := dSn 1 shX12_audit_39
theorem shX12_audit_41 : cX12_audit.data.toList.drop 41 = sxX12_audit_41 := dSn 1 shX12_audit_40
theorem shX12_audit_44 : cX12_audit.data.toList.drop 44 = sxX12_audit_44 := dSn 3 shX12_audit_41
theorem shX12_audit_45 : cX12_audit.data.toList.drop 45 = sxX12_audit_45 := dSn 1 shX12_audit_44
theorem shX12_audit_46 : cX12_audit.data.toList.drop 46 = sxX12_audit_46 := dSn 1 shX12_audit_45
theorem shX12_audit_49 : cX12_audit.data.toList.drop 49 = sxX12_audit_49 := dSn 3 shX12_audit_46
theorem shX12_audit_50 : cX12_audit.data.toList.drop 50 = sxX12_audit_50 := dSn 1 shX12_audit_49
theorem shX12_audit_51 : cX12_audit.data.toList.drop 51 = sxX12_audit_51 := dSn 1 shX12_audit_50
theorem shX12_audit_53 : cX12_audit.data.toList.drop 53 = sxX12_audit_53 := dSn 2 shX12_audit_51
theorem shX12_audit_56 : cX12_audit.data.toList.drop 56 = sxX12_audit_56 := dSn 3 shX12_audit_53
theorem shX12_audit_57 : cX12_audit.data.toList.drop 57 = sxX12_audit_57 := dSn 1 shX12_audit_56
theorem shX12_audit_58 : cX12_audit.data.toList.drop 58 = sxX12_audit_58 := dSn 1 shX12_audit_57
theorem shX12_audit_61 : cX12_audit.data.toList.drop 61 = sxX12_audit_61 := dSn 3 shX12_audit_58
theorem shX12_audit_62 : cX12_audit.data.toList.drop 62 = sxX12_audit_62 := dSn 1 shX12_audit_61
theorem shX12_audit_65 : cX12_audit.data.toList.drop 65 = sxX12_audit_65 := dSn 3 shX12_audit_62
theorem shX12_audit_66 : cX12_audit.data.toList.drop 66 = sxX12_audit_66 := dSn 1 shX12_audit_65
theorem shX12_audit_67 : cX12_audit.data.toList.drop 67 = sxX12_audit_67 := dSn 1 shX12_audit_66
theorem shX12_audit_68 : cX12_audit.data.toList.drop 68 = sxX12_audit_68 := dSn 1 shX12_audit_67
theorem shX12_audit_71 : cX12_audit.data.toList.drop 71 = sxX12_audit_71 := dSn 3 shX12_audit_68
theorem shX12_audit_74 : cX12_audit.data.toList.drop 74 = sxX12_audit_74 := dSn 3 shX12_audit_71
theorem shX12_audit_75 : cX12_audit.data.toList.drop 75 = sxX12_audit_75 := dSn 1 shX12_audit_74
theorem dX12_audit_0 : decode cX12_audit 0 = .ok (.aload_n 0, 1) := oc_42 shX12_audit_0
theorem dX12_audit_1 : decode cX12_audit 1 = .ok (.iload_n 1, 1) := oc_27 shX12_audit_1
theorem dX12_audit_2 : decode cX12_audit 2 = .ok (.invokevirtual 459, 3) := oc_182 shX12_audit_2
theorem dX12_audit_5 : decode cX12_audit 5 = .ok (.ifCond .eq 11, 3) := oc_153 shX12_audit_5 sgw_0_11
theorem dX12_audit_8 : decode cX12_audit 8 = .ok (.aload_n 0, 1) := oc_42 shX12_audit_8
theorem dX12_audit_9 : decode cX12_audit 9 = .ok (.iload_n 2, 1) := oc_28 shX12_audit_9
theorem dX12_audit_10 : decode cX12_audit 10 = .ok (.invokevirtual 218, 3) := oc_182 shX12_audit_10
theorem dX12_audit_13 : decode cX12_audit 13 = .ok (.ifCond .ne 5, 3) := oc_154 shX12_audit_13 sgw_0_5
theorem dX12_audit_16 : decode cX12_audit 16 = .ok (.iconst (-1), 1) := oc_2 shX12_audit_16
theorem dX12_audit_17 : decode cX12_audit 17 = .ok (.ireturn, 1) := oc_172 shX12_audit_17
theorem dX12_audit_18 : decode cX12_audit 18 = .ok (.iconst 0, 1) := oc_3 shX12_audit_18
theorem dX12_audit_19 : decode cX12_audit 19 = .ok (.istore_n 3, 1) := oc_62 shX12_audit_19
theorem dX12_audit_20 : decode cX12_audit 20 = .ok (.aload_n 0, 1) := oc_42 shX12_audit_20
theorem dX12_audit_21 : decode cX12_audit 21 = .ok (.getfield 150, 3) := oc_180 shX12_audit_21
theorem dX12_audit_24 : decode cX12_audit 24 = .ok (.iload_n 1, 1) := oc_27 shX12_audit_24
theorem dX12_audit_25 : decode cX12_audit 25 = .ok (.iaload, 1) := oc_46 shX12_audit_25
theorem dX12_audit_26 : decode cX12_audit 26 = .ok (.istore 4, 2) := oc_54 shX12_audit_26
theorem dX12_audit_28 : decode cX12_audit 28 = .ok (.iload 4, 2) := oc_21 shX12_audit_28
theorem dX12_audit_30 : decode cX12_audit 30 = .ok (.aload_n 0, 1) := oc_42 shX12_audit_30
theorem dX12_audit_31 : decode cX12_audit 31 = .ok (.getfield 153, 3) := oc_180 shX12_audit_31
theorem dX12_audit_34 : decode cX12_audit 34 = .ok (.iload_n 1, 1) := oc_27 shX12_audit_34
theorem dX12_audit_35 : decode cX12_audit 35 = .ok (.iaload, 1) := oc_46 shX12_audit_35
theorem dX12_audit_36 : decode cX12_audit 36 = .ok (.if_icmp .ge 38, 3) := oc_162 shX12_audit_36 sgw_0_38
theorem dX12_audit_39 : decode cX12_audit 39 = .ok (.iload_n 3, 1) := oc_29 shX12_audit_39
theorem dX12_audit_40 : decode cX12_audit 40 = .ok (.aload_n 0, 1) := oc_42 shX12_audit_40
theorem dX12_audit_41 : decode cX12_audit 41 = .ok (.getfield 25, 3) := oc_180 shX12_audit_41
theorem dX12_audit_44 : decode cX12_audit 44 = .ok (.aload_n 0, 1) := oc_42 shX12_audit_44
theorem dX12_audit_45 : decode cX12_audit 45 = .ok (.aload_n 0, 1) := oc_42 shX12_audit_45
theorem dX12_audit_46 : decode cX12_audit 46 = .ok (.getfield 147, 3) := oc_180 shX12_audit_46
theorem dX12_audit_49 : decode cX12_audit 49 = .ok (.iload_n 1, 1) := oc_27 shX12_audit_49
theorem dX12_audit_50 : decode cX12_audit 50 = .ok (.iaload, 1) := oc_46 shX12_audit_50
theorem dX12_audit_51 : decode cX12_audit 51 = .ok (.iload 4, 2) := oc_21 shX12_audit_51
theorem dX12_audit_53 : decode cX12_audit 53 = .ok (.invokevirtual 456, 3) := oc_182 shX12_audit_53
theorem dX12_audit_56 : decode cX12_audit 56 = .ok (.iaload, 1) := oc_46 shX12_audit_56
theorem dX12_audit_57 : decode cX12_audit 57 = .ok (.iload_n 2, 1) := oc_28 shX12_audit_57
theorem dX12_audit_58 : decode cX12_audit 58 = .ok (.if_icmp .ne 7, 3) := oc_160 shX12_audit_58 sgw_0_7
theorem dX12_audit_61 : decode cX12_audit 61 = .ok (.iconst 1, 1) := oc_4 shX12_audit_61
theorem dX12_audit_62 : decode cX12_audit 62 = .ok (.goto 4, 3) := oc_167 shX12_audit_62 sgw_0_4
theorem dX12_audit_65 : decode cX12_audit 65 = .ok (.iconst 0, 1) := oc_3 shX12_audit_65
theorem dX12_audit_66 : decode cX12_audit 66 = .ok (.iadd, 1) := oc_96 shX12_audit_66
theorem dX12_audit_67 : decode cX12_audit 67 = .ok (.istore_n 3, 1) := oc_62 shX12_audit_67
theorem dX12_audit_68 : decode cX12_audit 68 = .ok (.iinc 4 1, 3) := oc_132 shX12_audit_68 sgb_1
theorem dX12_audit_71 : decode cX12_audit 71 = .ok (.goto (-43), 3) := oc_167 shX12_audit_71 sgw_255_213
theorem dX12_audit_74 : decode cX12_audit 74 = .ok (.iload_n 3, 1) := oc_29 shX12_audit_74
theorem dX12_audit_75 : decode cX12_audit 75 = .ok (.ireturn, 1) := oc_172 shX12_audit_75
noncomputable def sxX12_use_30 : List UInt8 := []
noncomputable def sxX12_use_29 : List UInt8 := 172 :: sxX12_use_30
noncomputable def sxX12_use_28 : List UInt8 := 4 :: sxX12_use_29
noncomputable def sxX12_use_27 : List UInt8 := 79 :: sxX12_use_28
noncomputable def sxX12_use_26 : List UInt8 := 28 :: sxX12_use_27
noncomputable def sxX12_use_25 : List UInt8 := 27 :: sxX12_use_26
noncomputable def sxX12_use_22 : List UInt8 := 180 :: 0 :: 162 :: sxX12_use_25
noncomputable def sxX12_use_21 : List UInt8 := 42 :: sxX12_use_22
noncomputable def sxX12_use_20 : List UInt8 := 172 :: sxX12_use_21
noncomputable def sxX12_use_19 : List UInt8 := 3 :: sxX12_use_20
noncomputable def sxX12_use_16 : List UInt8 := 154 :: 0 :: 5 :: sxX12_use_19
noncomputable def sxX12_use_13 : List UInt8 := 184 :: 0 :: 214 :: sxX12_use_16
noncomputable def sxX12_use_12 : List UInt8 := 6 :: sxX12_use_13
noncomputable def sxX12_use_11 : List UInt8 := 3 :: sxX12_use_12
noncomputable def sxX12_use_10 : List UInt8 := 28 :: sxX12_use_11
noncomputable def sxX12_use_7 : List UInt8 := 153 :: 0 :: 12 :: sxX12_use_10
noncomputable def sxX12_use_4 : List UInt8 := 184 :: 0 :: 214 :: sxX12_use_7
noncomputable def sxX12_use_2 : List UInt8 := 16 :: 9 :: sxX12_use_4
noncomputable def sxX12_use_1 : List UInt8 := 3 :: sxX12_use_2
noncomputable def sxX12_use_0 : List UInt8 := 27 :: sxX12_use_1
theorem shX12_use_0 : cX12_use.data.toList.drop 0 = sxX12_use_0 := rfl
theorem shX12_use_1 : cX12_use.data.toList.drop 1 = sxX12_use_1 := dSn 1 shX12_use_0
theorem shX12_use_2 : cX12_use.data.toList.drop 2 = sxX12_use_2 := dSn 1 shX12_use_1
theorem shX12_use_4 : cX12_use.data.toList.drop 4 = sxX12_use_4 := dSn 2 shX12_use_2
theorem shX12_use_7 : cX12_use.data.toList.drop 7 = sxX12_use_7 := dSn 3 shX12_use_4
theorem shX12_use_10 : cX12_use.data.toList.drop 10 = sxX12_use_10 := dSn 3 shX12_use_7
theorem shX12_use_11 : cX12_use.data.toList.drop 11 = sxX12_use_11 := dSn 1 shX12_use_10
theorem shX12_use_12 : cX12_use.data.toList.drop 12 = sxX12_use_12 := dSn 1 shX12_use_11
theorem shX12_use_13 : cX12_use.data.toList.drop 13 = sxX12_use_13 := dSn 1 shX12_use_12
theorem shX12_use_16 : cX12_use.data.toList.drop 16 = sxX12_use_16 := dSn 3 shX12_use_13
theorem shX12_use_19 : cX12_use.data.toList.drop 19 = sxX12_use_19 := dSn 3 shX12_use_16
theorem shX12_use_20 : cX12_use.data.toList.drop 20 = sxX12_use_20 := dSn 1 shX12_use_19
theorem shX12_use_21 : cX12_use.data.toList.drop 21 = sxX12_use_21 := dSn 1 shX12_use_20
theorem shX12_use_22 : cX12_use.data.toList.drop 22 = sxX12_use_22 := dSn 1 shX12_use_21
theorem shX12_use_25 : cX12_use.data.toList.drop 25 = sxX12_use_25 := dSn 3 shX12_use_22
theorem shX12_use_26 : cX12_use.data.toList.drop 26 = sxX12_use_26 := dSn 1 shX12_use_25
theorem shX12_use_27 : cX12_use.data.toList.drop 27 = sxX12_use_27 := dSn 1 shX12_use_26
theorem shX12_use_28 : cX12_use.data.toList.drop 28 = sxX12_use_28 := dSn 1 shX12_use_27
theorem shX12_use_29 : cX12_use.data.toList.drop 29 = sxX12_use_29 := dSn 1 shX12_use_28
theorem dX12_use_0 : decode cX12_use 0 = .ok (.iload_n 1, 1) := oc_27 shX12_use_0
theorem dX12_use_1 : decode cX12_use 1 = .ok (.iconst 0, 1) := oc_3 shX12_use_1
theorem dX12_use_2 : decode cX12_use 2 = .ok (.bipush 9, 2) := oc_16 shX12_use_2 sgb_9
theorem dX12_use_4 : decode cX12_use 4 = .ok (.invokestatic 214, 3) := oc_184 shX12_use_4
theorem dX12_use_7 : decode cX12_use 7 = .ok (.ifCond .eq 12, 3) := oc_153 shX12_use_7 sgw_0_12
theorem dX12_use_10 : decode cX12_use 10 = .ok (.iload_n 2, 1) := oc_28 shX12_use_10
theorem dX12_use_11 : decode cX12_use 11 = .ok (.iconst 0, 1) := oc_3 shX12_use_11
theorem dX12_use_12 : decode cX12_use 12 = .ok (.iconst 3, 1) := oc_6 shX12_use_12
theorem dX12_use_13 : decode cX12_use 13 = .ok (.invokestatic 214, 3) := oc_184 shX12_use_13
theorem dX12_use_16 : decode cX12_use 16 = .ok (.ifCond .ne 5, 3) := oc_154 shX12_use_16 sgw_0_5
theorem dX12_use_19 : decode cX12_use 19 = .ok (.iconst 0, 1) := oc_3 shX12_use_19
theorem dX12_use_20 : decode cX12_use 20 = .ok (.ireturn, 1) := oc_172 shX12_use_20
theorem dX12_use_21 : decode cX12_use 21 = .ok (.aload_n 0, 1) := oc_42 shX12_use_21
theorem dX12_use_22 : decode cX12_use 22 = .ok (.getfield 162, 3) := oc_180 shX12_use_22
theorem dX12_use_25 : decode cX12_use 25 = .ok (.iload_n 1, 1) := oc_27 shX12_use_25
theorem dX12_use_26 : decode cX12_use 26 = .ok (.iload_n 2, 1) := oc_28 shX12_use_26
theorem dX12_use_27 : decode cX12_use 27 = .ok (.iastore, 1) := oc_79 shX12_use_27
theorem dX12_use_28 : decode cX12_use 28 = .ok (.iconst 1, 1) := oc_4 shX12_use_28
theorem dX12_use_29 : decode cX12_use 29 = .ok (.ireturn, 1) := oc_172 shX12_use_29
noncomputable def sxX12_rate_46 : List UInt8 := []
noncomputable def sxX12_rate_45 : List UInt8 := 172 :: sxX12_rate_46
noncomputable def sxX12_rate_44 : List UInt8 := 4 :: sxX12_rate_45
noncomputable def sxX12_rate_43 : List UInt8 := 79 :: sxX12_rate_44
noncomputable def sxX12_rate_42 : List UInt8 := 29 :: sxX12_rate_43
noncomputable def sxX12_rate_41 : List UInt8 := 96 :: sxX12_rate_42
noncomputable def sxX12_rate_40 : List UInt8 := 28 :: sxX12_rate_41
noncomputable def sxX12_rate_39 : List UInt8 := 104 :: sxX12_rate_40
noncomputable def sxX12_rate_38 : List UInt8 := 27 :: sxX12_rate_39
noncomputable def sxX12_rate_36 : List UInt8 := 16 :: 58 :: sxX12_rate_38
noncomputable def sxX12_rate_33 : List UInt8 := 180 :: 0 :: 165 :: sxX12_rate_36
noncomputable def sxX12_rate_32 : List UInt8 := 42 :: sxX12_rate_33
noncomputable def sxX12_rate_31 : List UInt8 := 172 :: sxX12_rate_32
noncomputable def sxX12_rate_30 : List UInt8 := 3 :: sxX12_rate_31
noncomputable def sxX12_rate_27 : List UInt8 := 154 :: 0 :: 5 :: sxX12_rate_30
noncomputable def sxX12_rate_24 : List UInt8 := 184 :: 0 :: 214 :: sxX12_rate_27
noncomputable def sxX12_rate_21 : List UInt8 := 17 :: 3 :: 232 :: sxX12_rate_24
noncomputable def sxX12_rate_20 : List UInt8 := 3 :: sxX12_rate_21
noncomputable def sxX12_rate_19 : List UInt8 := 29 :: sxX12_rate_20
noncomputable def sxX12_rate_16 : List UInt8 := 153 :: 0 :: 14 :: sxX12_rate_19
noncomputable def sxX12_rate_13 : List UInt8 := 184 :: 0 :: 214 :: sxX12_rate_16
noncomputable def sxX12_rate_11 : List UInt8 := 16 :: 57 :: sxX12_rate_13
noncomputable def sxX12_rate_10 : List UInt8 := 3 :: sxX12_rate_11
noncomputable def sxX12_rate_9 : List UInt8 := 28 :: sxX12_rate_10
noncomputable def sxX12_rate_6 : List UInt8 := 153 :: 0 :: 24 :: sxX12_rate_9
noncomputable def sxX12_rate_3 : List UInt8 := 184 :: 0 :: 214 :: sxX12_rate_6
noncomputable def sxX12_rate_2 : List UInt8 := 6 :: sxX12_rate_3
noncomputable def sxX12_rate_1 : List UInt8 := 3 :: sxX12_rate_2
noncomputable def sxX12_rate_0 : List UInt8 := 27 :: sxX12_rate_1
theorem shX12_rate_0 : cX12_rate.data.toList.drop 0 = sxX12_rate_0 := rfl
theorem shX12_rate_1 : cX12_rate.data.toList.drop 1 = sxX12_rate_1 := dSn 1 shX12_rate_0
theorem shX12_rate_2 : cX12_rate.data.toList.drop 2 = sxX12_rate_2 := dSn 1 shX12_rate_1
theorem shX12_rate_3 : cX12_rate.data.toList.drop 3 = sxX12_rate_3 := dSn 1 shX12_rate_2
theorem shX12_rate_6 : cX12_rate.data.toList.drop 6 = sxX12_rate_6 := dSn 3 shX12_rate_3
theorem shX12_rate_9 : cX12_rate.data.toList.drop 9 = sxX12_rate_9 := dSn 3 shX12_rate_6
theorem shX12_rate_10 : cX12_rate.data.toList.drop 10 = sxX12_rate_10 := dSn 1 shX12_rate_9
theorem shX12_rate_11 : cX12_rate.data.toList.drop 11 = sxX12_rate_11 := dSn 1 shX12_rate_10
theorem shX12_rate_13 : cX12_rate.data.toList.drop 13 = sxX12_rate_13 := dSn 2 shX12_rate_11
theorem shX12_rate_16 : cX12_rate.data.toList.drop 16 = sxX12_rate_16 := dSn 3 shX12_rate_13
theorem shX12_rate_19 : cX12_rate.data.toList.drop 19 = sxX12_rate_19 := dSn 3 shX12_rate_16
theorem shX12_rate_20 : cX12_rate.data.toList.drop 20 = sxX12_rate_20 := dSn 1 shX12_rate_19
theorem shX12_rate_21 : cX12_rate.data.toList.drop 21 = sxX12_rate_21 := dSn 1 shX12_rate_20
theorem shX12_rate_24 : cX12_rate.data.toList.drop 24 = sxX12_rate_24 := dSn 3 shX12_rate_21
theorem shX12_rate_27 : cX12_rate.data.toList.drop 27 = sxX12_rate_27 := dSn 3 shX12_rate_24
theorem shX12_rate_30 : cX12_rate.data.toList.drop 30 = sxX12_rate_30 := dSn 3 shX12_rate_27
theorem shX12_rate_31 : cX12_rate.data.toList.drop 31 = sxX12_rate_31 := dSn 1 shX12_rate_30
theorem shX12_rate_32 : cX12_rate.data.toList.drop 32 = sxX12_rate_32 := dSn 1 shX12_rate_31
theorem shX12_rate_33 : cX12_rate.data.toList.drop 33 = sxX12_rate_33 := dSn 1 shX12_rate_32
theorem shX12_rate_36 : cX12_rate.data.toList.drop 36 = sxX12_rate_36 := dSn 3 shX12_rate_33
theorem shX12_rate_38 : cX12_rate.data.toList.drop 38 = sxX12_rate_38 := dSn 2 shX12_rate_36
theorem shX12_rate_39 : cX12_rate.data.toList.drop 39 = sxX12_rate_39 := dSn 1 shX12_rate_38
theorem shX12_rate_40 : cX12_rate.data.toList.drop 40 = sxX12_rate_40 := dSn 1 shX12_rate_39
theorem shX12_rate_41 : cX12_rate.data.toList.drop 41 = sxX12_rate_41 := dSn 1 shX12_rate_40
theorem shX12_rate_42 : cX12_rate.data.toList.drop 42 = sxX12_rate_42 := dSn 1 shX12_rate_41
theorem shX12_rate_43 : cX12_rate.data.toList.drop 43 = sxX12_rate_43 := dSn 1 shX12_rate_42
theorem shX12_rate_44 : cX12_rate.data.toList.drop 44 = sxX12_rate_44 := dSn 1 shX12_rate_43
theorem shX12_rate_45 : cX12_rate.data.toList.drop 45 = sxX12_rate_45 := dSn 1 shX12_rate_44
theorem dX12_rate_0 : decode cX12_rate 0 = .ok (.iload_n 1, 1) := oc_27 shX12_rate_0
theorem dX12_rate_1 : decode cX12_rate 1 = .ok (.iconst 0, 1) := oc_3 shX12_rate_1
theorem dX12_rate_2 : decode cX12_rate 2 = .ok (.iconst 3, 1) := oc_6 shX12_rate_2
theorem dX12_rate_3 : decode cX12_rate 3 = .ok (.invokestatic 214, 3) := oc_184 shX12_rate_3
theorem dX12_rate_6 : decode cX12_rate 6 = .ok (.ifCond .eq 24, 3) := oc_153 shX12_rate_6 sgw_0_24
theorem dX12_rate_9 : decode cX12_rate 9 = .ok (.iload_n 2, 1) := oc_28 shX12_rate_9
theorem dX12_rate_10 : decode cX12_rate 10 = .ok (.iconst 0, 1) := oc_3 shX12_rate_10
theorem dX12_rate_11 : decode cX12_rate 11 = .ok (.bipush 57, 2) := oc_16 shX12_rate_11 sgb_57
theorem dX12_rate_13 : decode cX12_rate 13 = .ok (.invokestatic 214, 3) := oc_184 shX12_rate_13
theorem dX12_rate_16 : decode cX12_rate 16 = .ok (.ifCond .eq 14, 3) := oc_153 shX12_rate_16 sgw_0_14
theorem dX12_rate_19 : decode cX12_rate 19 = .ok (.iload_n 3, 1) := oc_29 shX12_rate_19
theorem dX12_rate_20 : decode cX12_rate 20 = .ok (.iconst 0, 1) := oc_3 shX12_rate_20
theorem dX12_rate_21 : decode cX12_rate 21 = .ok (.sipush 1000, 3) := oc_17 shX12_rate_21 sgw_3_232
theorem dX12_rate_24 : decode cX12_rate 24 = .ok (.invokestatic 214, 3) := oc_184 shX12_rate_24
theorem dX12_rate_27 : decode cX12_rate 27 = .ok (.ifCond .ne 5, 3) := oc_154 shX12_rate_27 sgw_0_5
theorem dX12_rate_30 : decode cX12_rate 30 = .ok (.iconst 0, 1) := oc_3 shX12_rate_30
theorem dX12_rate_31 : decode cX12_rate 31 = .ok (.ireturn, 1) := oc_172 shX12_rate_31
theorem dX12_rate_32 : decode cX12_rate 32 = .ok (.aload_n 0, 1) := oc_42 shX12_rate_32
theorem dX12_rate_33 : decode cX12_rate 33 = .ok (.getfield 165, 3) := oc_180 shX12_rate_33
theorem dX12_rate_36 : decode cX12_rate 36 = .ok (.bipush 58, 2) := oc_16 shX12_rate_36 sgb_58
theorem dX12_rate_38 : decode cX12_rate 38 = .ok (.iload_n 1, 1) := oc_27 shX12_rate_38
theorem dX12_rate_39 : decode cX12_rate 39 = .ok (.imul, 1) := oc_104 shX12_rate_39
theorem dX12_rate_40 : decode cX12_rate 40 = .ok (.iload_n 2, 1) := oc_28 shX12_rate_40
theorem dX12_rate_41 : decode cX12_rate 41 = .ok (.iadd, 1) := oc_96 shX12_rate_41
theorem dX12_rate_42 : decode cX12_rate 42 = .ok (.iload_n 3, 1) := oc_29 shX12_rate_42
theorem dX12_rate_43 : decode cX12_rate 43 = .ok (.iastore, 1) := oc_79 shX12_rate_43
theorem dX12_rate_44 : decode cX12_rate 44 = .ok (.iconst 1, 1) := oc_4 shX12_rate_44
theorem dX12_rate_45 : decode cX12_rate 45 = .ok (.ireturn, 1) := oc_172 shX12_rate_45
noncomputable def sxX12_tax_59 : List UInt8 := []
noncomputable def sxX12_tax_58 : List UInt8 := 172 :: sxX12_tax_59
noncomputable def sxX12_tax_57 : List UInt8 := 2 :: sxX12_tax_58
noncomputable def sxX12_tax_54 : List UInt8 := 167 :: 0 :: 4 :: sxX12_tax_57
noncomputable def sxX12_tax_53 : List UInt8 := 108 :: sxX12_tax_54
noncomputable def sxX12_tax_51 : List UInt8 := 16 :: 100 :: sxX12_tax_53
noncomputable def sxX12_tax_50 : List UInt8 := 104 :: sxX12_tax_51
noncomputable def sxX12_tax_49 : List UInt8 := 46 :: sxX12_tax_50
noncomputable def sxX12_tax_48 : List UInt8 := 96 :: sxX12_tax_49
noncomputable def sxX12_tax_47 : List UInt8 := 108 :: sxX12_tax_48
noncomputable def sxX12_tax_45 : List UInt8 := 16 :: 7 :: sxX12_tax_47
noncomputable def sxX12_tax_44 : List UInt8 := 46 :: sxX12_tax_45
noncomputable def sxX12_tax_43 : List UInt8 := 27 :: sxX12_tax_44
noncomputable def sxX12_tax_40 : List UInt8 := 180 :: 0 :: 144 :: sxX12_tax_43
noncomputable def sxX12_tax_39 : List UInt8 := 42 :: sxX12_tax_40
noncomputable def sxX12_tax_38 : List UInt8 := 104 :: sxX12_tax_39
noncomputable def sxX12_tax_37 : List UInt8 := 46 :: sxX12_tax_38
noncomputable def sxX12_tax_36 : List UInt8 := 46 :: sxX12_tax_37
noncomputable def sxX12_tax_35 : List UInt8 := 27 :: sxX12_tax_36
noncomputable def sxX12_tax_32 : List UInt8 := 180 :: 0 :: 156 :: sxX12_tax_35
noncomputable def sxX12_tax_31 : List UInt8 := 42 :: sxX12_tax_32
noncomputable def sxX12_tax_28 : List UInt8 := 180 :: 0 :: 162 :: sxX12_tax_31
noncomputable def sxX12_tax_27 : List UInt8 := 42 :: sxX12_tax_28
noncomputable def sxX12_tax_25 : List UInt8 := 16 :: 58 :: sxX12_tax_27
noncomputable def sxX12_tax_22 : List UInt8 := 180 :: 0 :: 165 :: sxX12_tax_25
noncomputable def sxX12_tax_21 : List UInt8 := 42 :: sxX12_tax_22
noncomputable def sxX12_tax_20 : List UInt8 := 100 :: sxX12_tax_21
noncomputable def sxX12_tax_19 : List UInt8 := 46 :: sxX12_tax_20
noncomputable def sxX12_tax_18 : List UInt8 := 27 :: sxX12_tax_19
noncomputable def sxX12_tax_15 : List UInt8 := 180 :: 0 :: 150 :: sxX12_tax_18
noncomputable def sxX12_tax_14 : List UInt8 := 42 :: sxX12_tax_15
noncomputable def sxX12_tax_13 : List UInt8 := 46 :: sxX12_tax_14
noncomputable def sxX12_tax_12 : List UInt8 := 27 :: sxX12_tax_13
noncomputable def sxX12_tax_9 : List UInt8 := 180 :: 0 :: 153 :: sxX12_tax_12
noncomputable def sxX12_tax_8 : List UInt8 := 42 :: sxX12_tax_9
noncomputable def sxX12_tax_5 : List UInt8 := 153 :: 0 :: 52 :: sxX12_tax_8
noncomputable def sxX12_tax_2 : List UInt8 := 182 :: 1 :: 203 :: sxX12_tax_5
noncomputable def sxX12_tax_1 : List UInt8 := 27 :: sxX12_tax_2
noncomputable def sxX12_tax_0 : List UInt8 := 42 :: sxX12_tax_1
theorem shX12_tax_0 : cX12_tax.data.toList.drop 0 = sxX12_tax_0 := rfl
theorem shX12_tax_1 : cX12_tax.data.toList.drop 1 = sxX12_tax_1 := dSn 1 shX12_tax_0
theorem shX12_tax_2 : cX12_tax.data.toList.drop 2 = sxX12_tax_2 := dSn 1 shX12_tax_1
theorem shX12_tax_5 : cX12_tax.data.toList.drop 5 = sxX12_tax_5 := dSn 3 shX12_tax_2
theorem shX12_tax_8 : cX12_tax.data.toList.drop 8 = sxX12_tax_8 := dSn 3 shX12_tax_5
theorem shX12_tax_9 : cX12_tax.data.toList.drop 9 = sxX12_tax_9 := dSn 1 shX12_tax_8
theorem shX12_tax_12 : cX12_tax.data.toList.drop 12 = sxX12_tax_12 := dSn 3 shX12_tax_9
theorem shX12_tax_13 : cX12_tax.data.toList.drop 13 = sxX12_tax_13 := dSn 1 shX12_tax_12
theorem shX12_tax_14 : cX12_tax.data.toList.drop 14 = sxX12_tax_14 := dSn 1 shX12_tax_13
theorem shX12_tax_15 : cX12_tax.data.toList.drop 15 = sxX12_tax_15 := dSn 1 shX12_tax_14
theorem shX12_tax_18 : cX12_tax.data.toList.drop 18 = sxX12_tax_18 := dSn 3 shX12_tax_15
theorem shX12_tax_19 : cX12_tax.data.toList.drop 19 = sxX12_tax_19 := dSn 1 shX12_tax_18
theorem shX12_tax_20 : cX12_tax.data.toList.drop 20 = sxX12_tax_20 := dSn 1 shX12_tax_19
theorem shX12_tax_21 : cX12_tax.data.toList.drop 21 = sxX12_tax_21 := dSn 1 shX12_tax_20
theorem shX12_tax_22 : cX12_tax.data.toList.drop 22 = sxX12_tax_22 := dSn 1 shX12_tax_21
theorem shX12_tax_25 : cX12_tax.data.toList.drop 25 = sxX12_tax_25 := dSn 3 shX12_tax_22
theorem shX12_tax_27 : cX12_tax.data.toList.drop 27 = sxX12_tax_27 := dSn 2 shX12_tax_25
theorem shX12_tax_28 : cX12_tax.data.toList.drop 28 = sxX12_tax_28 := dSn 1 shX12_tax_27
theorem shX12_tax_31 : cX12_tax.data.toList.drop 31 = sxX12_tax_31 := dSn 3 shX12_tax_28
theorem shX12_tax_32 : cX12_tax.data.toList.drop 32 = sxX12_tax_32 := dSn 1 shX12_tax_31
theorem shX12_tax_35 : cX12_tax.data.toList.drop 35 = sxX12_tax_35 := dSn 3 shX12_tax_32
theorem shX12_tax_36 : cX12_tax.data.toList.drop 36 = sxX12_tax_36 := dSn 1 shX12_tax_35
theorem shX12_tax_37 : cX12_tax.data.toList.drop 37 = sxX12_tax_37 := dSn 1 shX12_tax_36
theorem shX12_tax_38 : cX12_tax.data.toList.drop 38 = sxX12_tax_38 := dSn 1 shX12_tax_37
theorem shX12_tax_39 : cX12_tax.data.toList.drop 39 = sxX12_tax_39 := dSn 1 shX12_tax_38
theorem shX12_tax_40 : cX12_tax.data.toList.drop 40 = sxX12_tax_40 := dSn 1 shX12_tax_39
theorem shX12_tax_43 : cX12_tax.data.toList.drop 43 = sxX12_tax_43 := dSn 3 shX12_tax_40
theorem shX12_tax_44 : cX12_tax.data.toList.drop 44 = sxX12_tax_44 := dSn 1 shX12_tax_43
theorem shX12_tax_45 : cX12_tax.data.toList.drop 45 = sxX12_tax_45 := dSn 1 shX12_tax_44
theorem shX12_tax_47 : cX12_tax.data.toList.drop 47 = sxX12_tax_47 := dSn 2 shX12_tax_45
theorem shX12_tax_48 : cX12_tax.data.toList.drop 48 = sxX12_tax_48 := dSn 1 shX12_tax_47
theorem shX12_tax_49 : cX12_tax.data.toList.drop 49 = sxX12_tax_49 := dSn 1 shX12_tax_48
theorem shX12_tax_50 : cX12_tax.data.toList.drop 50 = sxX12_tax_50 := dSn 1 shX12_tax_49
theorem shX12_tax_51 : cX12_tax.data.toList.drop 51 = sxX12_tax_51 := dSn 1 shX12_tax_50
theorem shX12_tax_53 : cX12_tax.data.toList.drop 53 = sxX12_tax_53 := dSn 2 shX12_tax_51
theorem shX12_tax_54 : cX12_tax.data.toList.drop 54 = sxX12_tax_54 := dSn 1 shX12_tax_53
theorem shX12_tax_57 : cX12_tax.data.toList.drop 57 = sxX12_tax_57 := dSn 3 shX12_tax_54
theorem shX12_tax_58 : cX12_tax.data.toList.drop 58 = sxX12_tax_58 := dSn 1 shX12_tax_57
theorem dX12_tax_0 : decode cX12_tax 0 = .ok (.aload_n 0, 1) := oc_42 shX12_tax_0
theorem dX12_tax_1 : decode cX12_tax 1 = .ok (.iload_n 1, 1) := oc_27 shX12_tax_1
theorem dX12_tax_2 : decode cX12_tax 2 = .ok (.invokevirtual 459, 3) := oc_182 shX12_tax_2
theorem dX12_tax_5 : decode cX12_tax 5 = .ok (.ifCond .eq 52, 3) := oc_153 shX12_tax_5 sgw_0_52
theorem dX12_tax_8 : decode cX12_tax 8 = .ok (.aload_n 0, 1) := oc_42 shX12_tax_8
theorem dX12_tax_9 : decode cX12_tax 9 = .ok (.getfield 153, 3) := oc_180 shX12_tax_9
theorem dX12_tax_12 : decode cX12_tax 12 = .ok (.iload_n 1, 1) := oc_27 shX12_tax_12
theorem dX12_tax_13 : decode cX12_tax 13 = .ok (.iaload, 1) := oc_46 shX12_tax_13
theorem dX12_tax_14 : decode cX12_tax 14 = .ok (.aload_n 0, 1) := oc_42 shX12_tax_14
theorem dX12_tax_15 : decode cX12_tax 15 = .ok (.getfield 150, 3) := oc_180 shX12_tax_15
theorem dX12_tax_18 : decode cX12_tax 18 = .ok (.iload_n 1, 1) := oc_27 shX12_tax_18
theorem dX12_tax_19 : decode cX12_tax 19 = .ok (.iaload, 1) := oc_46 shX12_tax_19
theorem dX12_tax_20 : decode cX12_tax 20 = .ok (.isub, 1) := oc_100 shX12_tax_20
theorem dX12_tax_21 : decode cX12_tax 21 = .ok (.aload_n 0, 1) := oc_42 shX12_tax_21
theorem dX12_tax_22 : decode cX12_tax 22 = .ok (.getfield 165, 3) := oc_180 shX12_tax_22
theorem dX12_tax_25 : decode cX12_tax 25 = .ok (.bipush 58, 2) := oc_16 shX12_tax_25 sgb_58
theorem dX12_tax_27 : decode cX12_tax 27 = .ok (.aload_n 0, 1) := oc_42 shX12_tax_27
theorem dX12_tax_28 : decode cX12_tax 28 = .ok (.getfield 162, 3) := oc_180 shX12_tax_28
theorem dX12_tax_31 : decode cX12_tax 31 = .ok (.aload_n 0, 1) := oc_42 shX12_tax_31
theorem dX12_tax_32 : decode cX12_tax 32 = .ok (.getfield 156, 3) := oc_180 shX12_tax_32
theorem dX12_tax_35 : decode cX12_tax 35 = .ok (.iload_n 1, 1) := oc_27 shX12_tax_35
theorem dX12_tax_36 : decode cX12_tax 36 = .ok (.iaload, 1) := oc_46 shX12_tax_36
theorem dX12_tax_37 : decode cX12_tax 37 = .ok (.iaload, 1) := oc_46 shX12_tax_37
theorem dX12_tax_38 : decode cX12_tax 38 = .ok (.imul, 1) := oc_104 shX12_tax_38
theorem dX12_tax_39 : decode cX12_tax 39 = .ok (.aload_n 0, 1) := oc_42 shX12_tax_39
theorem dX12_tax_40 : decode cX12_tax 40 = .ok (.getfield 144, 3) := oc_180 shX12_tax_40
theorem dX12_tax_43 : decode cX12_tax 43 = .ok (.iload_n 1, 1) := oc_27 shX12_tax_43
theorem dX12_tax_44 : decode cX12_tax 44 = .ok (.iaload, 1) := oc_46 shX12_tax_44
theorem dX12_tax_45 : decode cX12_tax 45 = .ok (.bipush 7, 2) := oc_16 shX12_tax_45 sgb_7
theorem dX12_tax_47 : decode cX12_tax 47 = .ok (.idiv, 1) := oc_108 shX12_tax_47
theorem dX12_tax_48 : decode cX12_tax 48 = .ok (.iadd, 1) := oc_96 shX12_tax_48
theorem dX12_tax_49 : decode cX12_tax 49 = .ok (.iaload, 1) := oc_46 shX12_tax_49
theorem dX12_tax_50 : decode cX12_tax 50 = .ok (.imul, 1) := oc_104 shX12_tax_50
theorem dX12_tax_51 : decode cX12_tax 51 = .ok (.bipush 100, 2) := oc_16 shX12_tax_51 sgb_100
theorem dX12_tax_53 : decode cX12_tax 53 = .ok (.idiv, 1) := oc_108 shX12_tax_53
theorem dX12_tax_54 : decode cX12_tax 54 = .ok (.goto 4, 3) := oc_167 shX12_tax_54 sgw_0_4
theorem dX12_tax_57 : decode cX12_tax 57 = .ok (.iconst (-1), 1) := oc_2 shX12_tax_57
theorem dX12_tax_58 : decode cX12_tax 58 = .ok (.ireturn, 1) := oc_172 shX12_tax_58
noncomputable def sxX12_most_32 : List UInt8 := []
noncomputable def sxX12_most_31 : List UInt8 := 172 :: sxX12_most_32
noncomputable def sxX12_most_30 : List UInt8 := 4 :: sxX12_most_31
noncomputable def sxX12_most_29 : List UInt8 := 79 :: sxX12_most_30
noncomputable def sxX12_most_28 : List UInt8 := 28 :: sxX12_most_29
noncomputable def sxX12_most_27 : List UInt8 := 27 :: sxX12_most_28
noncomputable def sxX12_most_24 : List UInt8 := 180 :: 0 :: 168 :: sxX12_most_27
noncomputable def sxX12_most_23 : List UInt8 := 42 :: sxX12_most_24
noncomputable def sxX12_most_22 : List UInt8 := 172 :: sxX12_most_23
noncomputable def sxX12_most_21 : List UInt8 := 3 :: sxX12_most_22
noncomputable def sxX12_most_18 : List UInt8 := 154 :: 0 :: 5 :: sxX12_most_21
noncomputable def sxX12_most_15 : List UInt8 := 184 :: 0 :: 214 :: sxX12_most_18
noncomputable def sxX12_most_12 : List UInt8 := 19 :: 1 :: 78 :: sxX12_most_15
noncomputable def sxX12_most_11 : List UInt8 := 3 :: sxX12_most_12
noncomputable def sxX12_most_10 : List UInt8 := 28 :: sxX12_most_11
noncomputable def sxX12_most_7 : List UInt8 := 153 :: 0 :: 14 :: sxX12_most_10
noncomputable def sxX12_most_4 : List UInt8 := 184 :: 0 :: 214 :: sxX12_most_7
noncomputable def sxX12_most_2 : List UInt8 := 16 :: 9 :: sxX12_most_4
noncomputable def sxX12_most_1 : List UInt8 := 3 :: sxX12_most_2
noncomputable def sxX12_most_0 : List UInt8 := 27 :: sxX12_most_1
theorem shX12_most_0 : cX12_most.data.toList.drop 0 = sxX12_most_0 := rfl
theorem shX12_most_1 : cX12_most.data.toList.drop 1 = sxX12_most_1 := dSn 1 shX12_most_0
theorem shX12_most_2 : cX12_most.data.toList.drop 2 = sxX12_most_2 := dSn 1 shX12_most_1
theorem shX12_most_4 : cX12_most.data.toList.drop 4 = sxX12_most_4 := dSn 2 shX12_most_2
theorem shX12_most_7 : cX12_most.data.toList.drop 7 = sxX12_most_7 := dSn 3 shX12_most_4
theorem shX12_most_10 : cX12_most.data.toList.drop 10 = sxX12_most_10 := dSn 3 shX12_most_7
theorem shX12_most_11 : cX12_most.data.toList.drop 11 = sxX12_most_11 := dSn 1 shX12_most_10
theorem shX12_most_12 : cX12_most.data.toList.drop 12 = sxX12_most_12 := dSn 1 shX12_most_11
theorem shX12_most_15 : cX12_most.data.toList.drop 15 = sxX12_most_15 := dSn 3 shX12_most_12
theorem shX12_most_18 : cX12_most.data.toList.drop 18 = sxX12_most_18 := dSn 3 shX12_most_15
theorem shX12_most_21 : cX12_most.data.toList.drop 21 = sxX12_most_21 := dSn 3 shX12_most_18
theorem shX12_most_22 : cX12_most.data.toList.drop 22 = sxX12_most_22 := dSn 1 shX12_most_21
theorem shX12_most_23 : cX12_most.data.toList.drop 23 = sxX12_most_23 := dSn 1 shX12_most_22
theorem shX12_most_24 : cX12_most.data.toList.drop 24 = sxX12_most_24 := dSn 1 shX12_most_23
theorem shX12_most_27 : cX12_most.data.toList.drop 27 = sxX12_most_27 := dSn 3 shX12_most_24
theorem shX12_most_28 : cX12_most.data.toList.drop 28 = sxX12_most_28 := dSn 1 shX12_most_27
theorem shX12_most_29 : cX12_most.data.toList.drop 29 = sxX12_most_29 := dSn 1 shX12_most_28
theorem shX12_most_30 : cX12_most.data.toList.drop 30 = sxX12_most_30 := dSn 1 shX12_most_29
theorem shX12_most_31 : cX12_most.data.toList.drop 31 = sxX12_most_31 := dSn 1 shX12_most_30
theorem dX12_most_0 : decode cX12_most 0 = .ok (.iload_n 1, 1) := oc_27 shX12_most_0
theorem dX12_most_1 : decode cX12_most 1 = .ok (.iconst 0, 1) := oc_3 shX12_most_1
theorem dX12_most_2 : decode cX12_most 2 = .ok (.bipush 9, 2) := oc_16 shX12_most_2 sgb_9
theorem dX12_most_4 : decode cX12_most 4 = .ok (.invokestatic 214, 3) := oc_184 shX12_most_4
theorem dX12_most_7 : decode cX12_most 7 = .ok (.ifCond .eq 14, 3) := oc_153 shX12_most_7 sgw_0_14
theorem dX12_most_10 : decode cX12_most 10 = .ok (.iload_n 2, 1) := oc_28 shX12_most_10
theorem dX12_most_11 : decode cX12_most 11 = .ok (.iconst 0, 1) := oc_3 shX12_most_11
theorem dX12_most_12 : decode cX12_most 12 = .ok (.ldc_w 334, 3) := oc_19 shX12_most_12
theorem dX12_most_15 : decode cX12_most 15 = .ok (.invokestatic 214, 3) := oc_184 shX12_most_15
theorem dX12_most_18 : decode cX12_most 18 = .ok (.ifCond .ne 5, 3) := oc_154 shX12_most_18 sgw_0_5
theorem dX12_most_21 : decode cX12_most 21 = .ok (.iconst 0, 1) := oc_3 shX12_most_21
theorem dX12_most_22 : decode cX12_most 22 = .ok (.ireturn, 1) := oc_172 shX12_most_22
theorem dX12_most_23 : decode cX12_most 23 = .ok (.aload_n 0, 1) := oc_42 shX12_most_23
theorem dX12_most_24 : decode cX12_most 24 = .ok (.getfield 168, 3) := oc_180 shX12_most_24
theorem dX12_most_27 : decode cX12_most 27 = .ok (.iload_n 1, 1) := oc_27 shX12_most_27
theorem dX12_most_28 : decode cX12_most 28 = .ok (.iload_n 2, 1) := oc_28 shX12_most_28
theorem dX12_most_29 : decode cX12_most 29 = .ok (.iastore, 1) := oc_79 shX12_most_29
theorem dX12_most_30 : decode cX12_most 30 = .ok (.iconst 1, 1) := oc_4 shX12_most_30
theorem dX12_most_31 : decode cX12_most 31 = .ok (.ireturn, 1) := oc_172 shX12_most_31
noncomputable def sxX12_overdrawn_121 : List UInt8 := []
noncomputable def sxX12_overdrawn_120 : List UInt8 := 172 :: sxX12_overdrawn_121
noncomputable def sxX12_overdrawn_119 : List UInt8 := 28 :: sxX12_overdrawn_120
noncomputable def sxX12_overdrawn_116 : List UInt8 := 167 :: 255 :: 156 :: sxX12_overdrawn_119
noncomputable def sxX12_overdrawn_113 : List UInt8 := 132 :: 3 :: 1 :: sxX12_overdrawn_116
noncomputable def sxX12_overdrawn_112 : List UInt8 := 61 :: sxX12_overdrawn_113
noncomputable def sxX12_overdrawn_111 : List UInt8 := 28 :: sxX12_overdrawn_112
noncomputable def sxX12_overdrawn_108 : List UInt8 := 167 :: 0 :: 4 :: sxX12_overdrawn_111
noncomputable def sxX12_overdrawn_107 : List UInt8 := 128 :: sxX12_overdrawn_108
noncomputable def sxX12_overdrawn_106 : List UInt8 := 120 :: sxX12_overdrawn_107
noncomputable def sxX12_overdrawn_105 : List UInt8 := 29 :: sxX12_overdrawn_106
noncomputable def sxX12_overdrawn_104 : List UInt8 := 4 :: sxX12_overdrawn_105
noncomputable def sxX12_overdrawn_103 : List UInt8 := 28 :: sxX12_overdrawn_104
noncomputable def sxX12_overdrawn_100 : List UInt8 := 164 :: 0 :: 11 :: sxX12_overdrawn_103
noncomputable def sxX12_overdrawn_99 : List UInt8 := 46 :: sxX12_overdrawn_100
noncomputable def sxX12_overdrawn_98 : List UInt8 := 29 :: sxX12_overdrawn_99
noncomputable def sxX12_overdrawn_95 : List UInt8 := 180 :: 0 :: 168 :: sxX12_overdrawn_98
noncomputable def sxX12_overdrawn_94 : List UInt8 := 42 :: sxX12_overdrawn_95
noncomputable def sxX12_overdrawn_92 : List UInt8 := 21 :: 4 :: sxX12_overdrawn_94
noncomputable def sxX12_overdrawn_89 : List UInt8 := 167 :: 255 :: 195 :: sxX12_overdrawn_92
noncomputable def sxX12_overdrawn_86 : List UInt8 := 132 :: 5 :: 1 :: sxX12_overdrawn_89
noncomputable def sxX12_overdrawn_84 : List UInt8 := 54 :: 4 :: sxX12_overdrawn_86
noncomputable def sxX12_overdrawn_83 : List UInt8 := 96 :: sxX12_overdrawn_84
noncomputable def sxX12_overdrawn_82 : List UInt8 := 3 :: sxX12_overdrawn_83
noncomputable def sxX12_overdrawn_79 : List UInt8 := 167 :: 0 :: 4 :: sxX12_overdrawn_82
noncomputable def sxX12_overdrawn_78 : List UInt8 := 100 :: sxX12_overdrawn_79
noncomputable def sxX12_overdrawn_77 : List UInt8 := 46 :: sxX12_overdrawn_78
noncomputable def sxX12_overdrawn_75 : List UInt8 := 21 :: 5 :: sxX12_overdrawn_77
noncomputable def sxX12_overdrawn_72 : List UInt8 := 180 :: 0 :: 150 :: sxX12_overdrawn_75
noncomputable def sxX12_overdrawn_71 : List UInt8 := 42 :: sxX12_overdrawn_72
noncomputable def sxX12_overdrawn_70 : List UInt8 := 46 :: sxX12_overdrawn_71
noncomputable def sxX12_overdrawn_68 : List UInt8 := 21 :: 5 :: sxX12_overdrawn_70
noncomputable def sxX12_overdrawn_65 : List UInt8 := 180 :: 0 :: 153 :: sxX12_overdrawn_68
noncomputable def sxX12_overdrawn_64 : List UInt8 := 42 :: sxX12_overdrawn_65
noncomputable def sxX12_overdrawn_61 : List UInt8 := 160 :: 0 :: 21 :: sxX12_overdrawn_64
noncomputable def sxX12_overdrawn_60 : List UInt8 := 27 :: sxX12_overdrawn_61
noncomputable def sxX12_overdrawn_59 : List UInt8 := 108 :: sxX12_overdrawn_60
noncomputable def sxX12_overdrawn_57 : List UInt8 := 16 :: 7 :: sxX12_overdrawn_59
noncomputable def sxX12_overdrawn_56 : List UInt8 := 46 :: sxX12_overdrawn_57
noncomputable def sxX12_overdrawn_54 : List UInt8 := 21 :: 5 :: sxX12_overdrawn_56
noncomputable def sxX12_overdrawn_51 : List UInt8 := 180 :: 0 :: 144 :: sxX12_overdrawn_54
noncomputable def sxX12_overdrawn_50 : List UInt8 := 42 :: sxX12_overdrawn_51
noncomputable def sxX12_overdrawn_47 : List UInt8 := 160 :: 0 :: 35 :: sxX12_overdrawn_50
noncomputable def sxX12_overdrawn_46 : List UInt8 := 29 :: sxX12_overdrawn_47
noncomputable def sxX12_overdrawn_45 : List UInt8 := 46 :: sxX12_overdrawn_46
noncomputable def sxX12_overdrawn_43 : List UInt8 := 21 :: 5 :: sxX12_overdrawn_45
noncomputable def sxX12_overdrawn_40 : List UInt8 := 180 :: 0 :: 156 :: sxX12_overdrawn_43
noncomputable def sxX12_overdrawn_39 : List UInt8 := 42 :: sxX12_overdrawn_40
noncomputable def sxX12_overdrawn_37 : List UInt8 := 21 :: 4 :: sxX12_overdrawn_39
noncomputable def sxX12_overdrawn_34 : List UInt8 := 162 :: 0 :: 58 :: sxX12_overdrawn_37
noncomputable def sxX12_overdrawn_31 : List UInt8 := 180 :: 1 :: 191 :: sxX12_overdrawn_34
noncomputable def sxX12_overdrawn_30 : List UInt8 := 42 :: sxX12_overdrawn_31
noncomputable def sxX12_overdrawn_28 : List UInt8 := 21 :: 5 :: sxX12_overdrawn_30
noncomputable def sxX12_overdrawn_26 : List UInt8 := 54 :: 5 :: sxX12_overdrawn_28
noncomputable def sxX12_overdrawn_25 : List UInt8 := 3 :: sxX12_overdrawn_26
noncomputable def sxX12_overdrawn_23 : List UInt8 := 54 :: 4 :: sxX12_overdrawn_25
noncomputable def sxX12_overdrawn_22 : List UInt8 := 3 :: sxX12_overdrawn_23
noncomputable def sxX12_overdrawn_19 : List UInt8 := 162 :: 0 :: 100 :: sxX12_overdrawn_22
noncomputable def sxX12_overdrawn_17 : List UInt8 := 16 :: 10 :: sxX12_overdrawn_19
noncomputable def sxX12_overdrawn_16 : List UInt8 := 29 :: sxX12_overdrawn_17
noncomputable def sxX12_overdrawn_15 : List UInt8 := 62 :: sxX12_overdrawn_16
noncomputable def sxX12_overdrawn_14 : List UInt8 := 3 :: sxX12_overdrawn_15
noncomputable def sxX12_overdrawn_13 : List UInt8 := 61 :: sxX12_overdrawn_14
noncomputable def sxX12_overdrawn_12 : List UInt8 := 3 :: sxX12_overdrawn_13
noncomputable def sxX12_overdrawn_11 : List UInt8 := 172 :: sxX12_overdrawn_12
noncomputable def sxX12_overdrawn_10 : List UInt8 := 2 :: sxX12_overdrawn_11
noncomputable def sxX12_overdrawn_7 : List UInt8 := 154 :: 0 :: 5 :: sxX12_overdrawn_10
noncomputable def sxX12_overdrawn_4 : List UInt8 := 184 :: 0 :: 214 :: sxX12_overdrawn_7
noncomputable def sxX12_overdrawn_2 : List UInt8 := 16 :: 57 :: sxX12_overdrawn_4
noncomputable def sxX12_overdrawn_1 : List UInt8 := 3 :: sxX12_overdrawn_2
noncomputable def sxX12_overdrawn_0 : List UInt8 := 27 :: sxX12_overdrawn_1
theorem shX12_overdrawn_0 : cX12_overdrawn.data.toList.drop 0 = sxX12_overdrawn_0 := rfl
theorem shX12_overdrawn_1 : cX12_overdrawn.data.toList.drop 1 = sxX12_overdrawn_1 := dSn 1 shX12_overdrawn_0
theorem shX12_overdrawn_2 : cX12_overdrawn.data.toList.drop 2 = sxX12_overdrawn_2 := dSn 1 shX12_overdrawn_1
theorem shX12_overdrawn_4 : cX12_overdrawn.data.toList.drop 4 = sxX12_overdrawn_4 := dSn 2 shX12_overdrawn_2
theorem shX12_overdrawn_7 : cX12_overdrawn.data.toList.drop 7 = sxX12_overdrawn_7 := dSn 3 shX12_overdrawn_4
theorem shX12_overdrawn_10 : cX12_overdrawn.data.toList.drop 10 = sxX12_overdrawn_10 := dSn 3 shX12_overdrawn_7
theorem shX12_overdrawn_11 : cX12_overdrawn.data.toList.drop 11 = sxX12_overdrawn_11 := dSn 1 shX12_overdrawn_10
theorem shX12_overdrawn_12 : cX12_overdrawn.data.toList.drop 12 = sxX12_overdrawn_12 := dSn 1 shX12_overdrawn_11
theorem shX12_overdrawn_13 : cX12_overdrawn.data.toList.drop 13 = sxX12_overdrawn_13 := dSn 1 shX12_overdrawn_12
theorem shX12_overdrawn_14 : cX12_overdrawn.data.toList.drop 14 = sxX12_overdrawn_14 := dSn 1 shX12_overdrawn_13
theorem shX12_overdrawn_15 : cX12_overdrawn.data.toList.drop 15 = sxX12_overdrawn_15 := dSn 1 shX12_overdrawn_14
theorem shX12_overdrawn_16 : cX12_overdrawn.data.toList.drop 16 = sxX12_overdrawn_16 := dSn 1 shX12_overdrawn_15
theorem shX12_overdrawn_17 : cX12_overdrawn.data.toList.drop 17 = sxX12_overdrawn_17 := dSn 1 shX12_overdrawn_16
theorem shX12_overdrawn_19 : cX12_overdrawn.data.toList.drop 19 = sxX12_overdrawn_19 := dSn 2 shX12_overdrawn_17
theorem shX12_overdrawn_22 : cX12_overdrawn.data.toList.drop 22 = sxX12_overdrawn_22 := dSn 3 shX12_overdrawn_19
theorem shX12_overdrawn_23 : cX12_overdrawn.data.toList.drop 23 = sxX12_overdrawn_23 := dSn 1 shX12_overdrawn_22
theorem shX12_overdrawn_25 : cX12_overdrawn.data.toList.drop 25 = sxX12_overdrawn_25 := dSn 2 shX12_overdrawn_23
theorem shX12_overdrawn_26 : cX12_overdrawn.data.toList.drop 26 = sxX12_overdrawn_26 := dSn 1 shX12_overdrawn_25
theorem shX12_overdrawn_28 : cX12_overdrawn.data.toList.drop 28 = sxX12_overdrawn_28 := dSn 2 shX12_overdrawn_26
theorem shX12_overdrawn_30 : cX12_overdrawn.data.toList.drop 30 = sxX12_overdrawn_30 := dSn 2 shX12_overdrawn_28
theorem shX12_overdrawn_31 : cX12_overdrawn.data.toList.drop 31 = sxX12_overdrawn_31 := dSn 1 shX12_overdrawn_30
theorem shX12_overdrawn_34 : cX12_overdrawn.data.toList.drop 34 = sxX12_overdrawn_34 := dSn 3 shX12_overdrawn_31
theorem shX12_overdrawn_37 : cX12_overdrawn.data.toList.drop 37 = sxX12_overdrawn_37 := dSn 3 shX12_overdrawn_34
theorem shX12_overdrawn_39 : cX12_overdrawn.data.toList.drop 39 = sxX12_overdrawn_39 := dSn 2 shX12_overdrawn_37
theorem shX12_overdrawn_40 : cX12_overdrawn.data.toList.drop 40 = sxX12_overdrawn_40 := dSn 1 shX12_overdrawn_39
theorem shX12_overdrawn_43 : cX12_overdrawn.data.toList.drop 43 = sxX12_overdrawn_43 := dSn 3 shX12_overdrawn_40
theorem shX12_overdrawn_45 : cX12_overdrawn.data.toList.drop 45 = sxX12_overdrawn_45 := dSn 2 shX12_overdrawn_43
theorem shX12_overdrawn_46 : cX12_overdrawn.data.toList.drop 46 = sxX12_overdrawn_46 := dSn 1 shX12_overdrawn_45
theorem shX12_overdrawn_47 : cX12_overdrawn.data.toList.drop 47 = sxX12_overdrawn_47 := dSn 1 shX12_overdrawn_46
theorem shX12_overdrawn_50 : cX12_overdrawn.data.toList.drop 50 = sxX12_overdrawn_50 := dSn 3 shX12_overdrawn_47
theorem shX12_overdrawn_51 : cX12_overdrawn.data.toList.drop 51 = sxX12_overdrawn_51 := dSn 1 shX12_overdrawn_50
theorem shX12_overdrawn_54 : cX12_overdrawn.data.toList.drop 54 = sxX12_overdrawn_54 := dSn 3 shX12_overdrawn_51
theorem shX12_overdrawn_56 : cX12_overdrawn.data.toList.drop 56 = sxX12_overdrawn_56 := dSn 2 shX12_overdrawn_54
theorem shX12_overdrawn_57 : cX12_overdrawn.data.toList.drop 57 = sxX12_overdrawn_57 := dSn 1 shX12_overdrawn_56
theorem shX12_overdrawn_59 : cX12_overdrawn.data.toList.drop 59 = sxX12_overdrawn_59 := dSn 2 shX12_overdrawn_57
theorem shX12_overdrawn_60 : cX12_overdrawn.data.toList.drop 60 = sxX12_overdrawn_60 := dSn 1 shX12_overdrawn_59
theorem shX12_overdrawn_61 : cX12_overdrawn.data.toList.drop 61 = sxX12_overdrawn_61 := dSn 1 shX12_overdrawn_60
theorem shX12_overdrawn_64 : cX12_overdrawn.data.toList.drop 64 = sxX12_overdrawn_64 := dSn 3 shX12_overdrawn_61
theorem shX12_overdrawn_65 : cX12_overdrawn.data.toList.drop 65 = sxX12_overdrawn_65 := dSn 1 shX12_overdrawn_64
theorem shX12_overdrawn_68 : cX12_overdrawn.data.toList.drop 68 = sxX12_overdrawn_68 := dSn 3 shX12_overdrawn_65
theorem shX12_overdrawn_70 : cX12_overdrawn.data.toList.drop 70 = sxX12_overdrawn_70 := dSn 2 shX12_overdrawn_68
theorem shX12_overdrawn_71 : cX12_overdrawn.data.toList.drop 71 = sxX12_overdrawn_71 := dSn 1 shX12_overdrawn_70
theorem shX12_overdrawn_72 : cX12_overdrawn.data.toList.drop 72 = sxX12_overdrawn_72 := dSn 1 shX12_overdrawn_71
theorem shX12_overdrawn_75 : cX12_overdrawn.data.toList.drop 75 = sxX12_overdrawn_75 := dSn 3 shX12_overdrawn_72
theorem shX12_overdrawn_77 : cX12_overdrawn.data.toList.drop 77 = sxX12_overdrawn_77 := dSn 2 shX12_overdrawn_75
theorem shX12_overdrawn_78 : cX12_overdrawn.data.toList.drop 78 = sxX12_overdrawn_78 := dSn 1 shX12_overdrawn_77
theorem shX12_overdrawn_79 : cX12_overdrawn.data.toList.drop 79 = sxX12_overdrawn_79 := dSn 1 shX12_overdrawn_78
theorem shX12_overdrawn_82 : cX12_overdrawn.data.toList.drop 82 = sxX12_overdrawn_82 := dSn 3 shX12_overdrawn_79
theorem shX12_overdrawn_83 : cX12_overdrawn.data.toList.drop 83 = sxX12_overdrawn_83 := dSn 1 shX12_overdrawn_82
theorem shX12_overdrawn_84 : cX12_overdrawn.data.toList.drop 84 = sxX12_overdrawn_84 := dSn 1 shX12_overdrawn_83
theorem shX12_overdrawn_86 : cX12_overdrawn.data.toList.drop 86 = sxX12_overdrawn_86 := dSn 2 shX12_overdrawn_84
theorem shX12_overdrawn_89 : cX12_overdrawn.data.toList.drop 89 = sxX12_overdrawn_89 := dSn 3 shX12_overdrawn_86
theorem shX12_overdrawn_92 : cX12_overdrawn.data.toList.drop 92 = sxX12_overdrawn_92 := dSn 3 shX12_overdrawn_89
theorem shX12_overdrawn_94 : cX12_overdrawn.data.toList.drop 94 = sxX12_overdrawn_94 := dSn 2 shX12_overdrawn_92
theorem shX12_overdrawn_95 : cX12_overdrawn.data.toList.drop 95 = sxX12_overdrawn_95 := dSn 1 shX12_overdrawn_94
theorem shX12_overdrawn_98 : cX12_overdrawn.data.toList.drop 98 = sxX12_overdrawn_98 := dSn 3 shX12_overdrawn_95
theorem shX12_overdrawn_99 : cX12_overdrawn.data.toList.drop 99 = sxX12_overdrawn_99 := dSn 1 shX12_overdrawn_98
theorem shX12_overdrawn_100 : cX12_overdrawn.data.toList.drop 100 = sxX12_overdrawn_100 := dSn 1 shX12_overdrawn_99
theorem shX12_overdrawn_103 : cX12_overdrawn.data.toList.drop 103 = sxX12_overdrawn_103 := dSn 3 shX12_overdrawn_100
theorem shX12_overdrawn_104 : cX12_overdrawn.data.toList.drop 104 = sxX12_overdrawn_104 := dSn 1 shX12_overdrawn_103
theorem shX12_overdrawn_105 : cX12_overdrawn.data.toList.drop 105 = sxX12_overdrawn_105 := dSn 1 shX12_overdrawn_104
theorem shX12_overdrawn_106 : cX12_overdrawn.data.toList.drop 106 = sxX12_overdrawn_106 := dSn 1 shX12_overdrawn_105
theorem shX12_overdrawn_107 : cX12_overdrawn.data.toList.drop 107 = sxX12_overdrawn_107 := dSn 1 shX12_overdrawn_106
theorem shX12_overdrawn_108 : cX12_overdrawn.data.toList.drop 108 = sxX12_overdrawn_108 := dSn 1 shX12_overdrawn_107
theorem shX12_overdrawn_111 : cX12_overdrawn.data.toList.drop 111 = sxX12_overdrawn_111 := dSn 3 shX12_overdrawn_108
theorem shX12_overdrawn_112 : cX12_overdrawn.data.toList.drop 112 = sxX12_overdrawn_112 := dSn 1 shX12_overdrawn_111
theorem shX12_overdrawn_113 : cX12_overdrawn.data.toList.drop 113 = sxX12_overdrawn_113 := dSn 1 shX12_overdrawn_112
theorem shX12_overdrawn_116 : cX12_overdrawn.data.toList.drop 116 = sxX12_overdrawn_116 := dSn 3 shX12_overdrawn_113
theorem shX12_overdrawn_119 : cX12_overdrawn.data.toList.drop 119 = sxX12_overdrawn_119 := dSn 3 shX12_overdrawn_116
theorem shX12_overdrawn_120 : cX12_overdrawn.data.toList.drop 120 = sxX12_overdrawn_120 := dSn 1 shX12_overdrawn_119
theorem dX12_overdrawn_0 : decode cX12_overdrawn 0 = .ok (.iload_n 1, 1) := oc_27 shX12_overdrawn_0
theorem dX12_overdrawn_1 : decode cX12_overdrawn 1 = .ok (.iconst 0, 1) := oc_3 shX12_overdrawn_1
theorem dX12_overdrawn_2 : decode cX12_overdrawn 2 = .ok (.bipush 57, 2) := oc_16 shX12_overdrawn_2 sgb_57
theorem dX12_overdrawn_4 : decode cX12_overdrawn 4 = .ok (.invokestatic 214, 3) := oc_184 shX12_overdrawn_4
theorem dX12_overdrawn_7 : decode cX12_overdrawn 7 = .ok (.ifCond .ne 5, 3) := oc_154 shX12_overdrawn_7 sgw_0_5
theorem dX12_overdrawn_10 : decode cX12_overdrawn 10 = .ok (.iconst (-1), 1) := oc_2 shX12_overdrawn_10
theorem dX12_overdrawn_11 : decode cX12_overdrawn 11 = .ok (.ireturn, 1) := oc_172 shX12_overdrawn_11
theorem dX12_overdrawn_12 : decode cX12_overdrawn 12 = .ok (.iconst 0, 1) := oc_3 shX12_overdrawn_12
theorem dX12_overdrawn_13 : decode cX12_overdrawn 13 = .ok (.istore_n 2, 1) := oc_61 shX12_overdrawn_13
theorem dX12_overdrawn_14 : decode cX12_overdrawn 14 = .ok (.iconst 0, 1) := oc_3 shX12_overdrawn_14
theorem dX12_overdrawn_15 : decode cX12_overdrawn 15 = .ok (.istore_n 3, 1) := oc_62 shX12_overdrawn_15
theorem dX12_overdrawn_16 : decode cX12_overdrawn 16 = .ok (.iload_n 3, 1) := oc_29 shX12_overdrawn_16
theorem dX12_overdrawn_17 : decode cX12_overdrawn 17 = .ok (.bipush 10, 2) := oc_16 shX12_overdrawn_17 sgb_10
theorem dX12_overdrawn_19 : decode cX12_overdrawn 19 = .ok (.if_icmp .ge 100, 3) := oc_162 shX12_overdrawn_19 sgw_0_100
theorem dX12_overdrawn_22 : decode cX12_overdrawn 22 = .ok (.iconst 0, 1) := oc_3 shX12_overdrawn_22
theorem dX12_overdrawn_23 : decode cX12_overdrawn 23 = .ok (.istore 4, 2) := oc_54 shX12_overdrawn_23
theorem dX12_overdrawn_25 : decode cX12_overdrawn 25 = .ok (.iconst 0, 1) := oc_3 shX12_overdrawn_25
theorem dX12_overdrawn_26 : decode cX12_overdrawn 26 = .ok (.istore 5, 2) := oc_54 shX12_overdrawn_26
theorem dX12_overdrawn_28 : decode cX12_overdrawn 28 = .ok (.iload 5, 2) := oc_21 shX12_overdrawn_28
theorem dX12_overdrawn_30 : decode cX12_overdrawn 30 = .ok (.aload_n 0, 1) := oc_42 shX12_overdrawn_30
theorem dX12_overdrawn_31 : decode cX12_overdrawn 31 = .ok (.getfield 447, 3) := oc_180 shX12_overdrawn_31
theorem dX12_overdrawn_34 : decode cX12_overdrawn 34 = .ok (.if_icmp .ge 58, 3) := oc_162 shX12_overdrawn_34 sgw_0_58
theorem dX12_overdrawn_37 : decode cX12_overdrawn 37 = .ok (.iload 4, 2) := oc_21 shX12_overdrawn_37
theorem dX12_overdrawn_39 : decode cX12_overdrawn 39 = .ok (.aload_n 0, 1) := oc_42 shX12_overdrawn_39
theorem dX12_overdrawn_40 : decode cX12_overdrawn 40 = .ok (.getfield 156, 3) := oc_180 shX12_overdrawn_40
theorem dX12_overdrawn_43 : decode cX12_overdrawn 43 = .ok (.iload 5, 2) := oc_21 shX12_overdrawn_43
theorem dX12_overdrawn_45 : decode cX12_overdrawn 45 = .ok (.iaload, 1) := oc_46 shX12_overdrawn_45
theorem dX12_overdrawn_46 : decode cX12_overdrawn 46 = .ok (.iload_n 3, 1) := oc_29 shX12_overdrawn_46
theorem dX12_overdrawn_47 : decode cX12_overdrawn 47 = .ok (.if_icmp .ne 35, 3) := oc_160 shX12_overdrawn_47 sgw_0_35
theorem dX12_overdrawn_50 : decode cX12_overdrawn 50 = .ok (.aload_n 0, 1) := oc_42 shX12_overdrawn_50
theorem dX12_overdrawn_51 : decode cX12_overdrawn 51 = .ok (.getfield 144, 3) := oc_180 shX12_overdrawn_51
theorem dX12_overdrawn_54 : decode cX12_overdrawn 54 = .ok (.iload 5, 2) := oc_21 shX12_overdrawn_54
theorem dX12_overdrawn_56 : decode cX12_overdrawn 56 = .ok (.iaload, 1) := oc_46 shX12_overdrawn_56
theorem dX12_overdrawn_57 : decode cX12_overdrawn 57 = .ok (.bipush 7, 2) := oc_16 shX12_overdrawn_57 sgb_7
theorem dX12_overdrawn_59 : decode cX12_overdrawn 59 = .ok (.idiv, 1) := oc_108 shX12_overdrawn_59
theorem dX12_overdrawn_60 : decode cX12_overdrawn 60 = .ok (.iload_n 1, 1) := oc_27 shX12_overdrawn_60
theorem dX12_overdrawn_61 : decode cX12_overdrawn 61 = .ok (.if_icmp .ne 21, 3) := oc_160 shX12_overdrawn_61 sgw_0_21
theorem dX12_overdrawn_64 : decode cX12_overdrawn 64 = .ok (.aload_n 0, 1) := oc_42 shX12_overdrawn_64
theorem dX12_overdrawn_65 : decode cX12_overdrawn 65 = .ok (.getfield 153, 3) := oc_180 shX12_overdrawn_65
theorem dX12_overdrawn_68 : decode cX12_overdrawn 68 = .ok (.iload 5, 2) := oc_21 shX12_overdrawn_68
theorem dX12_overdrawn_70 : decode cX12_overdrawn 70 = .ok (.iaload, 1) := oc_46 shX12_overdrawn_70
theorem dX12_overdrawn_71 : decode cX12_overdrawn 71 = .ok (.aload_n 0, 1) := oc_42 shX12_overdrawn_71
theorem dX12_overdrawn_72 : decode cX12_overdrawn 72 = .ok (.getfield 150, 3) := oc_180 shX12_overdrawn_72
theorem dX12_overdrawn_75 : decode cX12_overdrawn 75 = .ok (.iload 5, 2) := oc_21 shX12_overdrawn_75
theorem dX12_overdrawn_77 : decode cX12_overdrawn 77 = .ok (.iaload, 1) := oc_46 shX12_overdrawn_77
theorem dX12_overdrawn_78 : decode cX12_overdrawn 78 = .ok (.isub, 1) := oc_100 shX12_overdrawn_78
theorem dX12_overdrawn_79 : decode cX12_overdrawn 79 = .ok (.goto 4, 3) := oc_167 shX12_overdrawn_79 sgw_0_4
theorem dX12_overdrawn_82 : decode cX12_overdrawn 82 = .ok (.iconst 0, 1) := oc_3 shX12_overdrawn_82
theorem dX12_overdrawn_83 : decode cX12_overdrawn 83 = .ok (.iadd, 1) := oc_96 shX12_overdrawn_83
theorem dX12_overdrawn_84 : decode cX12_overdrawn 84 = .ok (.istore 4, 2) := oc_54 shX12_overdrawn_84
theorem dX12_overdrawn_86 : decode cX12_overdrawn 86 = .ok (.iinc 5 1, 3) := oc_132 shX12_overdrawn_86 sgb_1
theorem dX12_overdrawn_89 : decode cX12_overdrawn 89 = .ok (.goto (-61), 3) := oc_167 shX12_overdrawn_89 sgw_255_195
theorem dX12_overdrawn_92 : decode cX12_overdrawn 92 = .ok (.iload 4, 2) := oc_21 shX12_overdrawn_92
theorem dX12_overdrawn_94 : decode cX12_overdrawn 94 = .ok (.aload_n 0, 1) := oc_42 shX12_overdrawn_94
theorem dX12_overdrawn_95 : decode cX12_overdrawn 95 = .ok (.getfield 168, 3) := oc_180 shX12_overdrawn_95
theorem dX12_overdrawn_98 : decode cX12_overdrawn 98 = .ok (.iload_n 3, 1) := oc_29 shX12_overdrawn_98
theorem dX12_overdrawn_99 : decode cX12_overdrawn 99 = .ok (.iaload, 1) := oc_46 shX12_overdrawn_99
theorem dX12_overdrawn_100 : decode cX12_overdrawn 100 = .ok (.if_icmp .le 11, 3) := oc_164 shX12_overdrawn_100 sgw_0_11
theorem dX12_overdrawn_103 : decode cX12_overdrawn 103 = .ok (.iload_n 2, 1) := oc_28 shX12_overdrawn_103
theorem dX12_overdrawn_104 : decode cX12_overdrawn 104 = .ok (.iconst 1, 1) := oc_4 shX12_overdrawn_104
theorem dX12_overdrawn_105 : decode cX12_overdrawn 105 = .ok (.iload_n 3, 1) := oc_29 shX12_overdrawn_105
theorem dX12_overdrawn_106 : decode cX12_overdrawn 106 = .ok (.ishl, 1) := oc_120 shX12_overdrawn_106
theorem dX12_overdrawn_107 : decode cX12_overdrawn 107 = .ok (.ior, 1) := oc_128 shX12_overdrawn_107
theorem dX12_overdrawn_108 : decode cX12_overdrawn 108 = .ok (.goto 4, 3) := oc_167 shX12_overdrawn_108 sgw_0_4
theorem dX12_overdrawn_111 : decode cX12_overdrawn 111 = .ok (.iload_n 2, 1) := oc_28 shX12_overdrawn_111
theorem dX12_overdrawn_112 : decode cX12_overdrawn 112 = .ok (.istore_n 2, 1) := oc_61 shX12_overdrawn_112
theorem dX12_overdrawn_113 : decode cX12_overdrawn 113 = .ok (.iinc 3 1, 3) := oc_132 shX12_overdrawn_113 sgb_1
theorem dX12_overdrawn_116 : decode cX12_overdrawn 116 = .ok (.goto (-100), 3) := oc_167 shX12_overdrawn_116 sgw_255_156
theorem dX12_overdrawn_119 : decode cX12_overdrawn 119 = .ok (.iload_n 2, 1) := oc_28 shX12_overdrawn_119
theorem dX12_overdrawn_120 : decode cX12_overdrawn 120 = .ok (.ireturn, 1) := oc_172 shX12_overdrawn_120
noncomputable def sxX12_sample_70 : List UInt8 := []
noncomputable def sxX12_sample_69 : List UInt8 := 172 :: sxX12_sample_70
noncomputable def sxX12_sample_68 : List UInt8 := 46 :: sxX12_sample_69
noncomputable def sxX12_sample_67 : List UInt8 := 27 :: sxX12_sample_68
noncomputable def sxX12_sample_64 : List UInt8 := 180 :: 0 :: 171 :: sxX12_sample_67
noncomputable def sxX12_sample_63 : List UInt8 := 42 :: sxX12_sample_64
noncomputable def sxX12_sample_62 : List UInt8 := 79 :: sxX12_sample_63
noncomputable def sxX12_sample_61 : List UInt8 := 96 :: sxX12_sample_62
noncomputable def sxX12_sample_60 : List UInt8 := 4 :: sxX12_sample_61
noncomputable def sxX12_sample_59 : List UInt8 := 46 :: sxX12_sample_60
noncomputable def sxX12_sample_58 : List UInt8 := 27 :: sxX12_sample_59
noncomputable def sxX12_sample_55 : List UInt8 := 180 :: 0 :: 171 :: sxX12_sample_58
noncomputable def sxX12_sample_54 : List UInt8 := 42 :: sxX12_sample_55
noncomputable def sxX12_sample_53 : List UInt8 := 27 :: sxX12_sample_54
noncomputable def sxX12_sample_50 : List UInt8 := 180 :: 0 :: 171 :: sxX12_sample_53
noncomputable def sxX12_sample_49 : List UInt8 := 42 :: sxX12_sample_50
noncomputable def sxX12_sample_48 : List UInt8 := 79 :: sxX12_sample_49
noncomputable def sxX12_sample_47 : List UInt8 := 28 :: sxX12_sample_48
noncomputable def sxX12_sample_46 : List UInt8 := 96 :: sxX12_sample_47
noncomputable def sxX12_sample_45 : List UInt8 := 46 :: sxX12_sample_46
noncomputable def sxX12_sample_44 : List UInt8 := 27 :: sxX12_sample_45
noncomputable def sxX12_sample_41 : List UInt8 := 180 :: 0 :: 171 :: sxX12_sample_44
noncomputable def sxX12_sample_40 : List UInt8 := 42 :: sxX12_sample_41
noncomputable def sxX12_sample_39 : List UInt8 := 104 :: sxX12_sample_40
noncomputable def sxX12_sample_38 : List UInt8 := 27 :: sxX12_sample_39
noncomputable def sxX12_sample_36 : List UInt8 := 16 :: 12 :: sxX12_sample_38
noncomputable def sxX12_sample_33 : List UInt8 := 180 :: 0 :: 174 :: sxX12_sample_36
noncomputable def sxX12_sample_32 : List UInt8 := 42 :: sxX12_sample_33
noncomputable def sxX12_sample_31 : List UInt8 := 172 :: sxX12_sample_32
noncomputable def sxX12_sample_30 : List UInt8 := 2 :: sxX12_sample_31
noncomputable def sxX12_sample_27 : List UInt8 := 160 :: 0 :: 5 :: sxX12_sample_30
noncomputable def sxX12_sample_25 : List UInt8 := 16 :: 12 :: sxX12_sample_27
noncomputable def sxX12_sample_24 : List UInt8 := 46 :: sxX12_sample_25
noncomputable def sxX12_sample_23 : List UInt8 := 27 :: sxX12_sample_24
noncomputable def sxX12_sample_20 : List UInt8 := 180 :: 0 :: 171 :: sxX12_sample_23
noncomputable def sxX12_sample_19 : List UInt8 := 42 :: sxX12_sample_20
noncomputable def sxX12_sample_16 : List UInt8 := 153 :: 0 :: 14 :: sxX12_sample_19
noncomputable def sxX12_sample_13 : List UInt8 := 184 :: 0 :: 214 :: sxX12_sample_16
noncomputable def sxX12_sample_10 : List UInt8 := 17 :: 3 :: 232 :: sxX12_sample_13
noncomputable def sxX12_sample_9 : List UInt8 := 3 :: sxX12_sample_10
noncomputable def sxX12_sample_8 : List UInt8 := 28 :: sxX12_sample_9
noncomputable def sxX12_sample_5 : List UInt8 := 153 :: 0 :: 25 :: sxX12_sample_8
noncomputable def sxX12_sample_2 : List UInt8 := 182 :: 1 :: 194 :: sxX12_sample_5
noncomputable def sxX12_sample_1 : List UInt8 := 27 :: sxX12_sample_2
noncomputable def sxX12_sample_0 : List UInt8 := 42 :: sxX12_sample_1
theorem shX12_sample_0 : cX12_sample.data.toList.drop 0 = sxX12_sample_0 := rfl
theorem shX12_sample_1 : cX12_sample.data.toList.drop 1 = sxX12_sample_1 := dSn 1 shX12_sample_0
theorem shX12_sample_2 : cX12_sample.data.toList.drop 2 = sxX12_sample_2 := dSn 1 shX12_sample_1
theorem shX12_sample_5 : cX12_sample.data.toList.drop 5 = sxX12_sample_5 := dSn 3 shX12_sample_2
theorem shX12_sample_8 : cX12_sample.data.toList.drop 8 = sxX12_sample_8 := dSn 3 shX12_sample_5
theorem shX12_sample_9 : cX12_sample.data.toList.drop 9 = sxX12_sample_9 := dSn 1 shX12_sample_8
theorem shX12_sample_10 : cX12_sample.data.toList.drop 10 = sxX12_sample_10 := dSn 1 shX12_sample_9
theorem shX12_sample_13 : cX12_sample.data.toList.drop 13 = sxX12_sample_13 := dSn 3 shX12_sample_10
theorem shX12_sample_16 : cX12_sample.data.toList.drop 16 = sxX12_sample_16 := dSn 3 shX12_sample_13
theorem shX12_sample_19 : cX12_sample.data.toList.drop 19 = sxX12_sample_19 := dSn 3 shX12_sample_16
theorem shX12_sample_20 : cX12_sample.data.toList.drop 20 = sxX12_sample_20 := dSn 1 shX12_sample_19
theorem shX12_sample_23 : cX12_sample.data.toList.drop 23 = sxX12_sample_23 := dSn 3 shX12_sample_20
theorem shX12_sample_24 : cX12_sample.data.toList.drop 24 = sxX12_sample_24 := dSn 1 shX12_sample_23
theorem shX12_sample_25 : cX12_sample.data.toList.drop 25 = sxX12_sample_25 := dSn 1 shX12_sample_24
theorem shX12_sample_27 : cX12_sample.data.toList.drop 27 = sxX12_sample_27 := dSn 2 shX12_sample_25
theorem shX12_sample_30 : cX12_sample.data.toList.drop 30 = sxX12_sample_30 := dSn 3 shX12_sample_27
theorem shX12_sample_31 : cX12_sample.data.toList.drop 31 = sxX12_sample_31 := dSn 1 shX12_sample_30
theorem shX12_sample_32 : cX12_sample.data.toList.drop 32 = sxX12_sample_32 := dSn 1 shX12_sample_31
theorem shX12_sample_33 : cX12_sample.data.toList.drop 33 = sxX12_sample_33 := dSn 1 shX12_sample_32
theorem shX12_sample_36 : cX12_sample.data.toList.drop 36 = sxX12_sample_36 := dSn 3 shX12_sample_33
theorem shX12_sample_38 : cX12_sample.data.toList.drop 38 = sxX12_sample_38 := dSn 2 shX12_sample_36
theorem shX12_sample_39 : cX12_sample.data.toList.drop 39 = sxX12_sample_39 := dSn 1 shX12_sample_38
theorem shX12_sample_40 : cX12_sample.data.toList.drop 40 = sxX12_sample_40 := dSn 1 shX12_sample_39
theorem shX12_sample_41 : cX12_sample.data.toList.drop 41 = sxX12_sample_41 := dSn 1 shX12_sample_40
theorem shX12_sample_44 : cX12_sample.data.toList.drop 44 = sxX12_sample_44 := dSn 3 shX12_sample_41
theorem shX12_sample_45 : cX12_sample.data.toList.drop 45 = sxX12_sample_45 := dSn 1 shX12_sample_44
theorem shX12_sample_46 : cX12_sample.data.toList.drop 46 = sxX12_sample_46 := dSn 1 shX12_sample_45
theorem shX12_sample_47 : cX12_sample.data.toList.drop 47 = sxX12_sample_47 := dSn 1 shX12_sample_46
theorem shX12_sample_48 : cX12_sample.data.toList.drop 48 = sxX12_sample_48 := dSn 1 shX12_sample_47
theorem shX12_sample_49 : cX12_sample.data.toList.drop 49 = sxX12_sample_49 := dSn 1 shX12_sample_48
theorem shX12_sample_50 : cX12_sample.data.toList.drop 50 = sxX12_sample_50 := dSn 1 shX12_sample_49
theorem shX12_sample_53 : cX12_sample.data.toList.drop 53 = sxX12_sample_53 := dSn 3 shX12_sample_50
theorem shX12_sample_54 : cX12_sample.data.toList.drop 54 = sxX12_sample_54 := dSn 1 shX12_sample_53
theorem shX12_sample_55 : cX12_sample.data.toList.drop 55 = sxX12_sample_55 := dSn 1 shX12_sample_54
theorem shX12_sample_58 : cX12_sample.data.toList.drop 58 = sxX12_sample_58 := dSn 3 shX12_sample_55
theorem shX12_sample_59 : cX12_sample.data.toList.drop 59 = sxX12_sample_59 := dSn 1 shX12_sample_58
theorem shX12_sample_60 : cX12_sample.data.toList.drop 60 = sxX12_sample_60 := dSn 1 shX12_sample_59
theorem shX12_sample_61 : cX12_sample.data.toList.drop 61 = sxX12_sample_61 := dSn 1 shX12_sample_60
theorem shX12_sample_62 : cX12_sample.data.toList.drop 62 = sxX12_sample_62 := dSn 1 shX12_sample_61
theorem shX12_sample_63 : cX12_sample.data.toList.drop 63 = sxX12_sample_63 := dSn 1 shX12_sample_62
theorem shX12_sample_64 : cX12_sample.data.toList.drop 64 = sxX12_sample_64 := dSn 1 shX12_sample_63
theorem shX12_sample_67 : cX12_sample.data.toList.drop 67 = sxX12_sample_67 := dSn 3 shX12_sample_64
theorem shX12_sample_68 : cX12_sample.data.toList.drop 68 = sxX12_sample_68 := dSn 1 shX12_sample_67
theorem shX12_sample_69 : cX12_sample.data.toList.drop 69 = sxX12_sample_69 := dSn 1 shX12_sample_68
theorem dX12_sample_0 : decode cX12_sample 0 = .ok (.aload_n 0, 1) := oc_42 shX12_sample_0
theorem dX12_sample_1 : decode cX12_sample 1 = .ok (.iload_n 1, 1) := oc_27 shX12_sample_1
theorem dX12_sample_2 : decode cX12_sample 2 = .ok (.invokevirtual 450, 3) := oc_182 shX12_sample_2
theorem dX12_sample_5 : decode cX12_sample 5 = .ok (.ifCond .eq 25, 3) := oc_153 shX12_sample_5 sgw_0_25
theorem dX12_sample_8 : decode cX12_sample 8 = .ok (.iload_n 2, 1) := oc_28 shX12_sample_8
theorem dX12_sample_9 : decode cX12_sample 9 = .ok (.iconst 0, 1) := oc_3 shX12_sample_9
theorem dX12_sample_10 : decode cX12_sample 10 = .ok (.sipush 1000, 3) := oc_17 shX12_sample_10 sgw_3_232
theorem dX12_sample_13 : decode cX12_sample 13 = .ok (.invokestatic 214, 3) := oc_184 shX12_sample_13
theorem dX12_sample_16 : decode cX12_sample 16 = .ok (.ifCond .eq 14, 3) := oc_153 shX12_sample_16 sgw_0_14
theorem dX12_sample_19 : decode cX12_sample 19 = .ok (.aload_n 0, 1) := oc_42 shX12_sample_19
theorem dX12_sample_20 : decode cX12_sample 20 = .ok (.getfield 171, 3) := oc_180 shX12_sample_20
theorem dX12_sample_23 : decode cX12_sample 23 = .ok (.iload_n 1, 1) := oc_27 shX12_sample_23
theorem dX12_sample_24 : decode cX12_sample 24 = .ok (.iaload, 1) := oc_46 shX12_sample_24
theorem dX12_sample_25 : decode cX12_sample 25 = .ok (.bipush 12, 2) := oc_16 shX12_sample_25 sgb_12
theorem dX12_sample_27 : decode cX12_sample 27 = .ok (.if_icmp .ne 5, 3) := oc_160 shX12_sample_27 sgw_0_5
theorem dX12_sample_30 : decode cX12_sample 30 = .ok (.iconst (-1), 1) := oc_2 shX12_sample_30
theorem dX12_sample_31 : decode cX12_sample 31 = .ok (.ireturn, 1) := oc_172 shX12_sample_31
theorem dX12_sample_32 : decode cX12_sample 32 = .ok (.aload_n 0, 1) := oc_42 shX12_sample_32
theorem dX12_sample_33 : decode cX12_sample 33 = .ok (.getfield 174, 3) := oc_180 shX12_sample_33
theorem dX12_sample_36 : decode cX12_sample 36 = .ok (.bipush 12, 2) := oc_16 shX12_sample_36 sgb_12
theorem dX12_sample_38 : decode cX12_sample 38 = .ok (.iload_n 1, 1) := oc_27 shX12_sample_38
theorem dX12_sample_39 : decode cX12_sample 39 = .ok (.imul, 1) := oc_104 shX12_sample_39
theorem dX12_sample_40 : decode cX12_sample 40 = .ok (.aload_n 0, 1) := oc_42 shX12_sample_40
theorem dX12_sample_41 : decode cX12_sample 41 = .ok (.getfield 171, 3) := oc_180 shX12_sample_41
theorem dX12_sample_44 : decode cX12_sample 44 = .ok (.iload_n 1, 1) := oc_27 shX12_sample_44
theorem dX12_sample_45 : decode cX12_sample 45 = .ok (.iaload, 1) := oc_46 shX12_sample_45
theorem dX12_sample_46 : decode cX12_sample 46 = .ok (.iadd, 1) := oc_96 shX12_sample_46
theorem dX12_sample_47 : decode cX12_sample 47 = .ok (.iload_n 2, 1) := oc_28 shX12_sample_47
theorem dX12_sample_48 : decode cX12_sample 48 = .ok (.iastore, 1) := oc_79 shX12_sample_48
theorem dX12_sample_49 : decode cX12_sample 49 = .ok (.aload_n 0, 1) := oc_42 shX12_sample_49
theorem dX12_sample_50 : decode cX12_sample 50 = .ok (.getfield 171, 3) := oc_180 shX12_sample_50
theorem dX12_sample_53 : decode cX12_sample 53 = .ok (.iload_n 1, 1) := oc_27 shX12_sample_53
theorem dX12_sample_54 : decode cX12_sample 54 = .ok (.aload_n 0, 1) := oc_42 shX12_sample_54
theorem dX12_sample_55 : decode cX12_sample 55 = .ok (.getfield 171, 3) := oc_180 shX12_sample_55
theorem dX12_sample_58 : decode cX12_sample 58 = .ok (.iload_n 1, 1) := oc_27 shX12_sample_58
theorem dX12_sample_59 : decode cX12_sample 59 = .ok (.iaload, 1) := oc_46 shX12_sample_59
theorem dX12_sample_60 : decode cX12_sample 60 = .ok (.iconst 1, 1) := oc_4 shX12_sample_60
theorem dX12_sample_61 : decode cX12_sample 61 = .ok (.iadd, 1) := oc_96 shX12_sample_61
theorem dX12_sample_62 : decode cX12_sample 62 = .ok (.iastore, 1) := oc_79 shX12_sample_62
theorem dX12_sample_63 : decode cX12_sample 63 = .ok (.aload_n 0, 1) := oc_42 shX12_sample_63
theorem dX12_sample_64 : decode cX12_sample 64 = .ok (.getfield 171, 3) := oc_180 shX12_sample_64
theorem dX12_sample_67 : decode cX12_sample 67 = .ok (.iload_n 1, 1) := oc_27 shX12_sample_67
theorem dX12_sample_68 : decode cX12_sample 68 = .ok (.iaload, 1) := oc_46 shX12_sample_68
theorem dX12_sample_69 : decode cX12_sample 69 = .ok (.ireturn, 1) := oc_172 shX12_sample_69
noncomputable def sxX12_claim_118 : List UInt8 := []
noncomputable def sxX12_claim_117 : List UInt8 := 172 :: sxX12_claim_118
noncomputable def sxX12_claim_116 : List UInt8 := 5 :: sxX12_claim_117
noncomputable def sxX12_claim_113 : List UInt8 := 167 :: 0 :: 4 :: sxX12_claim_116
noncomputable def sxX12_claim_112 : List UInt8 := 3 :: sxX12_claim_113
noncomputable def sxX12_claim_109 : List UInt8 := 164 :: 0 :: 7 :: sxX12_claim_112
noncomputable def sxX12_claim_107 : List UInt8 := 21 :: 4 :: sxX12_claim_109
noncomputable def sxX12_claim_105 : List UInt8 := 21 :: 5 :: sxX12_claim_107
noncomputable def sxX12_claim_102 : List UInt8 := 167 :: 0 :: 15 :: sxX12_claim_105
noncomputable def sxX12_claim_101 : List UInt8 := 4 :: sxX12_claim_102
noncomputable def sxX12_claim_98 : List UInt8 := 164 :: 0 :: 7 :: sxX12_claim_101
noncomputable def sxX12_claim_96 : List UInt8 := 21 :: 5 :: sxX12_claim_98
noncomputable def sxX12_claim_94 : List UInt8 := 21 :: 4 :: sxX12_claim_96
noncomputable def sxX12_claim_92 : List UInt8 := 54 :: 5 :: sxX12_claim_94
noncomputable def sxX12_claim_91 : List UInt8 := 100 :: sxX12_claim_92
noncomputable def sxX12_claim_89 : List UInt8 := 21 :: 4 :: sxX12_claim_91
noncomputable def sxX12_claim_88 : List UInt8 := 46 :: sxX12_claim_89
noncomputable def sxX12_claim_87 : List UInt8 := 27 :: sxX12_claim_88
noncomputable def sxX12_claim_84 : List UInt8 := 180 :: 0 :: 171 :: sxX12_claim_87
noncomputable def sxX12_claim_83 : List UInt8 := 42 :: sxX12_claim_84
noncomputable def sxX12_claim_80 : List UInt8 := 167 :: 255 :: 214 :: sxX12_claim_83
noncomputable def sxX12_claim_77 : List UInt8 := 132 :: 5 :: 1 :: sxX12_claim_80
noncomputable def sxX12_claim_75 : List UInt8 := 54 :: 4 :: sxX12_claim_77
noncomputable def sxX12_claim_74 : List UInt8 := 96 :: sxX12_claim_75
noncomputable def sxX12_claim_73 : List UInt8 := 3 :: sxX12_claim_74
noncomputable def sxX12_claim_70 : List UInt8 := 167 :: 0 :: 4 :: sxX12_claim_73
noncomputable def sxX12_claim_69 : List UInt8 := 4 :: sxX12_claim_70
noncomputable def sxX12_claim_66 : List UInt8 := 161 :: 0 :: 7 :: sxX12_claim_69
noncomputable def sxX12_claim_65 : List UInt8 := 100 :: sxX12_claim_66
noncomputable def sxX12_claim_64 : List UInt8 := 29 :: sxX12_claim_65
noncomputable def sxX12_claim_63 : List UInt8 := 28 :: sxX12_claim_64
noncomputable def sxX12_claim_62 : List UInt8 := 46 :: sxX12_claim_63
noncomputable def sxX12_claim_61 : List UInt8 := 96 :: sxX12_claim_62
noncomputable def sxX12_claim_59 : List UInt8 := 21 :: 5 :: sxX12_claim_61
noncomputable def sxX12_claim_58 : List UInt8 := 104 :: sxX12_claim_59
noncomputable def sxX12_claim_57 : List UInt8 := 27 :: sxX12_claim_58
noncomputable def sxX12_claim_55 : List UInt8 := 16 :: 12 :: sxX12_claim_57
noncomputable def sxX12_claim_52 : List UInt8 := 180 :: 0 :: 174 :: sxX12_claim_55
noncomputable def sxX12_claim_51 : List UInt8 := 42 :: sxX12_claim_52
noncomputable def sxX12_claim_49 : List UInt8 := 21 :: 4 :: sxX12_claim_51
noncomputable def sxX12_claim_46 : List UInt8 := 162 :: 0 :: 37 :: sxX12_claim_49
noncomputable def sxX12_claim_45 : List UInt8 := 46 :: sxX12_claim_46
noncomputable def sxX12_claim_44 : List UInt8 := 27 :: sxX12_claim_45
noncomputable def sxX12_claim_41 : List UInt8 := 180 :: 0 :: 171 :: sxX12_claim_44
noncomputable def sxX12_claim_40 : List UInt8 := 42 :: sxX12_claim_41
noncomputable def sxX12_claim_38 : List UInt8 := 21 :: 5 :: sxX12_claim_40
noncomputable def sxX12_claim_36 : List UInt8 := 54 :: 5 :: sxX12_claim_38
noncomputable def sxX12_claim_35 : List UInt8 := 3 :: sxX12_claim_36
noncomputable def sxX12_claim_33 : List UInt8 := 54 :: 4 :: sxX12_claim_35
noncomputable def sxX12_claim_32 : List UInt8 := 3 :: sxX12_claim_33
noncomputable def sxX12_claim_31 : List UInt8 := 172 :: sxX12_claim_32
noncomputable def sxX12_claim_30 : List UInt8 := 2 :: sxX12_claim_31
noncomputable def sxX12_claim_27 : List UInt8 := 154 :: 0 :: 5 :: sxX12_claim_30
noncomputable def sxX12_claim_24 : List UInt8 := 184 :: 0 :: 214 :: sxX12_claim_27
noncomputable def sxX12_claim_21 : List UInt8 := 17 :: 3 :: 232 :: sxX12_claim_24
noncomputable def sxX12_claim_20 : List UInt8 := 3 :: sxX12_claim_21
noncomputable def sxX12_claim_19 : List UInt8 := 29 :: sxX12_claim_20
noncomputable def sxX12_claim_16 : List UInt8 := 153 :: 0 :: 14 :: sxX12_claim_19
noncomputable def sxX12_claim_13 : List UInt8 := 184 :: 0 :: 214 :: sxX12_claim_16
noncomputable def sxX12_claim_10 : List UInt8 := 17 :: 3 :: 232 :: sxX12_claim_13
noncomputable def sxX12_claim_9 : List UInt8 := 3 :: sxX12_claim_10
noncomputable def sxX12_claim_8 : List UInt8 := 28 :: sxX12_claim_9
noncomputable def sxX12_claim_5 : List UInt8 := 153 :: 0 :: 25 :: sxX12_claim_8
noncomputable def sxX12_claim_2 : List UInt8 := 182 :: 1 :: 194 :: sxX12_claim_5
noncomputable def sxX12_claim_1 : List UInt8 := 27 :: sxX12_claim_2
noncomputable def sxX12_claim_0 : List UInt8 := 42 :: sxX12_claim_1
theorem shX12_claim_0 : cX12_claim.data.toList.drop 0 = sxX12_claim_0 := rfl
theorem shX12_claim_1 : cX12_claim.data.toList.drop 1 = sxX12_claim_1 := dSn 1 shX12_claim_0
theorem shX12_claim_2 : cX12_claim.data.toList.drop 2 = sxX12_claim_2 := dSn 1 shX12_claim_1
theorem shX12_claim_5 : cX12_claim.data.toList.drop 5 = sxX12_claim_5 := dSn 3 shX12_claim_2
theorem shX12_claim_8 : cX12_claim.data.toList.drop 8 = sxX12_claim_8 := dSn 3 shX12_claim_5
theorem shX12_claim_9 : cX12_claim.data.toList.drop 9 = sxX12_claim_9 := dSn 1 shX12_claim_8
theorem shX12_claim_10 : cX12_claim.data.toList.drop 10 = sxX12_claim_10 := dSn 1 shX12_claim_9
theorem shX12_claim_13 : cX12_claim.data.toList.drop 13 = sxX12_claim_13 := dSn 3 shX12_claim_10
theorem shX12_claim_16 : cX12_claim.data.toList.drop 16 = sxX12_claim_16 := dSn 3 shX12_claim_13
theorem shX12_claim_19 : cX12_claim.data.toList.drop 19 = sxX12_claim_19 := dSn 3 shX12_claim_16
theorem shX12_claim_20 : cX12_claim.data.toList.drop 20 = sxX12_claim_20 := dSn 1 shX12_claim_19
theorem shX12_claim_21 : cX12_claim.data.toList.drop 21 = sxX12_claim_21 := dSn 1 shX12_claim_20
theorem shX12_claim_24 : cX12_claim.data.toList.drop 24 = sxX12_claim_24 := dSn 3 shX12_claim_21
theorem shX12_claim_27 : cX12_claim.data.toList.drop 27 = sxX12_claim_27 := dSn 3 shX12_claim_24
theorem shX12_claim_30 : cX12_claim.data.toList.drop 30 = sxX12_claim_30 := dSn 3 shX12_claim_27
theorem shX12_claim_31 : cX12_claim.data.toList.drop 31 = sxX12_claim_31 := dSn 1 shX12_claim_30
theorem shX12_claim_32 : cX12_claim.data.toList.drop 32 = sxX12_claim_32 := dSn 1 shX12_claim_31
theorem shX12_claim_33 : cX12_claim.data.toList.drop 33 = sxX12_claim_33 := dSn 1 shX12_claim_32
theorem shX12_claim_35 : cX12_claim.data.toList.drop 35 = sxX12_claim_35 := dSn 2 shX12_claim_33
theorem shX12_claim_36 : cX12_claim.data.toList.drop 36 = sxX12_claim_36 := dSn 1 shX12_claim_35
theorem shX12_claim_38 : cX12_claim.data.toList.drop 38 = sxX12_claim_38 := dSn 2 shX12_claim_36
theorem shX12_claim_40 : cX12_claim.data.toList.drop 40 = sxX12_claim_40 := dSn 2 shX12_claim_38
theorem shX12_claim_41 : cX12_claim.data.toList.drop 41 = sxX12_claim_41 := dSn 1 shX12_claim_40
theorem shX12_claim_44 : cX12_claim.data.toList.drop 44 = sxX12_claim_44 := dSn 3 shX12_claim_41
theorem shX12_claim_45 : cX12_claim.data.toList.drop 45 = sxX12_claim_45 := dSn 1 shX12_claim_44
theorem shX12_claim_46 : cX12_claim.data.toList.drop 46 = sxX12_claim_46 := dSn 1 shX12_claim_45
theorem shX12_claim_49 : cX12_claim.data.toList.drop 49 = sxX12_claim_49 := dSn 3 shX12_claim_46
theorem shX12_claim_51 : cX12_claim.data.toList.drop 51 = sxX12_claim_51 := dSn 2 shX12_claim_49
theorem shX12_claim_52 : cX12_claim.data.toList.drop 52 = sxX12_claim_52 := dSn 1 shX12_claim_51
theorem shX12_claim_55 : cX12_claim.data.toList.drop 55 = sxX12_claim_55 := dSn 3 shX12_claim_52
theorem shX12_claim_57 : cX12_claim.data.toList.drop 57 = sxX12_claim_57 := dSn 2 shX12_claim_55
theorem shX12_claim_58 : cX12_claim.data.toList.drop 58 = sxX12_claim_58 := dSn 1 shX12_claim_57
theorem shX12_claim_59 : cX12_claim.data.toList.drop 59 = sxX12_claim_59 := dSn 1 shX12_claim_58
theorem shX12_claim_61 : cX12_claim.data.toList.drop 61 = sxX12_claim_61 := dSn 2 shX12_claim_59
theorem shX12_claim_62 : cX12_claim.data.toList.drop 62 = sxX12_claim_62 := dSn 1 shX12_claim_61
theorem shX12_claim_63 : cX12_claim.data.toList.drop 63 = sxX12_claim_63 := dSn 1 shX12_claim_62
theorem shX12_claim_64 : cX12_claim.data.toList.drop 64 = sxX12_claim_64 := dSn 1 shX12_claim_63
theorem shX12_claim_65 : cX12_claim.data.toList.drop 65 = sxX12_claim_65 := dSn 1 shX12_claim_64
theorem shX12_claim_66 : cX12_claim.data.toList.drop 66 = sxX12_claim_66 := dSn 1 shX12_claim_65
theorem shX12_claim_69 : cX12_claim.data.toList.drop 69 = sxX12_claim_69 := dSn 3 shX12_claim_66
theorem shX12_claim_70 : cX12_claim.data.toList.drop 70 = sxX12_claim_70 := dSn 1 shX12_claim_69
theorem shX12_claim_73 : cX12_claim.data.toList.drop 73 = sxX12_claim_73 := dSn 3 shX12_claim_70
theorem shX12_claim_74 : cX12_claim.data.toList.drop 74 = sxX12_claim_74 := dSn 1 shX12_claim_73
theorem shX12_claim_75 : cX12_claim.data.toList.drop 75 = sxX12_claim_75 := dSn 1 shX12_claim_74
theorem shX12_claim_77 : cX12_claim.data.toList.drop 77 = sxX12_claim_77 := dSn 2 shX12_claim_75
theorem shX12_claim_80 : cX12_claim.data.toList.drop 80 = sxX12_claim_80 := dSn 3 shX12_claim_77
theorem shX12_claim_83 : cX12_claim.data.toList.drop 83 = sxX12_claim_83 := dSn 3 shX12_claim_80
theorem shX12_claim_84 : cX12_claim.data.toList.drop 84 = sxX12_claim_84 := dSn 1 shX12_claim_83
theorem shX12_claim_87 : cX12_claim.data.toList.drop 87 = sxX12_claim_87 := dSn 3 shX12_claim_84
theorem shX12_claim_88 : cX12_claim.data.toList.drop 88 = sxX12_claim_88 := dSn 1 shX12_claim_87
theorem shX12_claim_89 : cX12_claim.data.toList.drop 89 = sxX12_claim_89 := dSn 1 shX12_claim_88
theorem shX12_claim_91 : cX12_claim.data.toList.drop 91 = sxX12_claim_91 := dSn 2 shX12_claim_89
theorem shX12_claim_92 : cX12_claim.data.toList.drop 92 = sxX12_claim_92 := dSn 1 shX12_claim_91
theorem shX12_claim_94 : cX12_claim.data.toList.drop 94 = sxX12_claim_94 := dSn 2 shX12_claim_92
theorem shX12_claim_96 : cX12_claim.data.toList.drop 96 = sxX12_claim_96 := dSn 2 shX12_claim_94
theorem shX12_claim_98 : cX12_claim.data.toList.drop 98 = sxX12_claim_98 := dSn 2 shX12_claim_96
theorem shX12_claim_101 : cX12_claim.data.toList.drop 101 = sxX12_claim_101 := dSn 3 shX12_claim_98
theorem shX12_claim_102 : cX12_claim.data.toList.drop 102 = sxX12_claim_102 := dSn 1 shX12_claim_101
theorem shX12_claim_105 : cX12_claim.data.toList.drop 105 = sxX12_claim_105 := dSn 3 shX12_claim_102
theorem shX12_claim_107 : cX12_claim.data.toList.drop 107 = sxX12_claim_107 := dSn 2 shX12_claim_105
theorem shX12_claim_109 : cX12_claim.data.toList.drop 109 = sxX12_claim_109 := dSn 2 shX12_claim_107
theorem shX12_claim_112 : cX12_claim.data.toList.drop 112 = sxX12_claim_112 := dSn 3 shX12_claim_109
theorem shX12_claim_113 : cX12_claim.data.toList.drop 113 = sxX12_claim_113 := dSn 1 shX12_claim_112
theorem shX12_claim_116 : cX12_claim.data.toList.drop 116 = sxX12_claim_116 := dSn 3 shX12_claim_113
theorem shX12_claim_117 : cX12_claim.data.toList.drop 117 = sxX12_claim_117 := dSn 1 shX12_claim_116
theorem dX12_claim_0 : decode cX12_claim 0 = .ok (.aload_n 0, 1) := oc_42 shX12_claim_0
theorem dX12_claim_1 : decode cX12_claim 1 = .ok (.iload_n 1, 1) := oc_27 shX12_claim_1
theorem dX12_claim_2 : decode cX12_claim 2 = .ok (.invokevirtual 450, 3) := oc_182 shX12_claim_2
theorem dX12_claim_5 : decode cX12_claim 5 = .ok (.ifCond .eq 25, 3) := oc_153 shX12_claim_5 sgw_0_25
theorem dX12_claim_8 : decode cX12_claim 8 = .ok (.iload_n 2, 1) := oc_28 shX12_claim_8
theorem dX12_claim_9 : decode cX12_claim 9 = .ok (.iconst 0, 1) := oc_3 shX12_claim_9
theorem dX12_claim_10 : decode cX12_claim 10 = .ok (.sipush 1000, 3) := oc_17 shX12_claim_10 sgw_3_232
theorem dX12_claim_13 : decode cX12_claim 13 = .ok (.invokestatic 214, 3) := oc_184 shX12_claim_13
theorem dX12_claim_16 : decode cX12_claim 16 = .ok (.ifCond .eq 14, 3) := oc_153 shX12_claim_16 sgw_0_14
theorem dX12_claim_19 : decode cX12_claim 19 = .ok (.iload_n 3, 1) := oc_29 shX12_claim_19
theorem dX12_claim_20 : decode cX12_claim 20 = .ok (.iconst 0, 1) := oc_3 shX12_claim_20
theorem dX12_claim_21 : decode cX12_claim 21 = .ok (.sipush 1000, 3) := oc_17 shX12_claim_21 sgw_3_232
theorem dX12_claim_24 : decode cX12_claim 24 = .ok (.invokestatic 214, 3) := oc_184 shX12_claim_24
theorem dX12_claim_27 : decode cX12_claim 27 = .ok (.ifCond .ne 5, 3) := oc_154 shX12_claim_27 sgw_0_5
theorem dX12_claim_30 : decode cX12_claim 30 = .ok (.iconst (-1), 1) := oc_2 shX12_claim_30
theorem dX12_claim_31 : decode cX12_claim 31 = .ok (.ireturn, 1) := oc_172 shX12_claim_31
theorem dX12_claim_32 : decode cX12_claim 32 = .ok (.iconst 0, 1) := oc_3 shX12_claim_32
theorem dX12_claim_33 : decode cX12_claim 33 = .ok (.istore 4, 2) := oc_54 shX12_claim_33
theorem dX12_claim_35 : decode cX12_claim 35 = .ok (.iconst 0, 1) := oc_3 shX12_claim_35
theorem dX12_claim_36 : decode cX12_claim 36 = .ok (.istore 5, 2) := oc_54 shX12_claim_36
theorem dX12_claim_38 : decode cX12_claim 38 = .ok (.iload 5, 2) := oc_21 shX12_claim_38
theorem dX12_claim_40 : decode cX12_claim 40 = .ok (.aload_n 0, 1) := oc_42 shX12_claim_40
theorem dX12_claim_41 : decode cX12_claim 41 = .ok (.getfield 171, 3) := oc_180 shX12_claim_41
theorem dX12_claim_44 : decode cX12_claim 44 = .ok (.iload_n 1, 1) := oc_27 shX12_claim_44
theorem dX12_claim_45 : decode cX12_claim 45 = .ok (.iaload, 1) := oc_46 shX12_claim_45
theorem dX12_claim_46 : decode cX12_claim 46 = .ok (.if_icmp .ge 37, 3) := oc_162 shX12_claim_46 sgw_0_37
theorem dX12_claim_49 : decode cX12_claim 49 = .ok (.iload 4, 2) := oc_21 shX12_claim_49
theorem dX12_claim_51 : decode cX12_claim 51 = .ok (.aload_n 0, 1) := oc_42 shX12_claim_51
theorem dX12_claim_52 : decode cX12_claim 52 = .ok (.getfield 174, 3) := oc_180 shX12_claim_52
theorem dX12_claim_55 : decode cX12_claim 55 = .ok (.bipush 12, 2) := oc_16 shX12_claim_55 sgb_12
theorem dX12_claim_57 : decode cX12_claim 57 = .ok (.iload_n 1, 1) := oc_27 shX12_claim_57
theorem dX12_claim_58 : decode cX12_claim 58 = .ok (.imul, 1) := oc_104 shX12_claim_58
theorem dX12_claim_59 : decode cX12_claim 59 = .ok (.iload 5, 2) := oc_21 shX12_claim_59
theorem dX12_claim_61 : decode cX12_claim 61 = .ok (.iadd, 1) := oc_96 shX12_claim_61
theorem dX12_claim_62 : decode cX12_claim 62 = .ok (.iaload, 1) := oc_46 shX12_claim_62
theorem dX12_claim_63 : decode cX12_claim 63 = .ok (.iload_n 2, 1) := oc_28 shX12_claim_63
theorem dX12_claim_64 : decode cX12_claim 64 = .ok (.iload_n 3, 1) := oc_29 shX12_claim_64
theorem dX12_claim_65 : decode cX12_claim 65 = .ok (.isub, 1) := oc_100 shX12_claim_65
theorem dX12_claim_66 : decode cX12_claim 66 = .ok (.if_icmp .lt 7, 3) := oc_161 shX12_claim_66 sgw_0_7
theorem dX12_claim_69 : decode cX12_claim 69 = .ok (.iconst 1, 1) := oc_4 shX12_claim_69
theorem dX12_claim_70 : decode cX12_claim 70 = .ok (.goto 4, 3) := oc_167 shX12_claim_70 sgw_0_4
theorem dX12_claim_73 : decode cX12_claim 73 = .ok (.iconst 0, 1) := oc_3 shX12_claim_73
theorem dX12_claim_74 : decode cX12_claim 74 = .ok (.iadd, 1) := oc_96 shX12_claim_74
theorem dX12_claim_75 : decode cX12_claim 75 = .ok (.istore 4, 2) := oc_54 shX12_claim_75
theorem dX12_claim_77 : decode cX12_claim 77 = .ok (.iinc 5 1, 3) := oc_132 shX12_claim_77 sgb_1
theorem dX12_claim_80 : decode cX12_claim 80 = .ok (.goto (-42), 3) := oc_167 shX12_claim_80 sgw_255_214
theorem dX12_claim_83 : decode cX12_claim 83 = .ok (.aload_n 0, 1) := oc_42 shX12_claim_83
theorem dX12_claim_84 : decode cX12_claim 84 = .ok (.getfield 171, 3) := oc_180 shX12_claim_84
theorem dX12_claim_87 : decode cX12_claim 87 = .ok (.iload_n 1, 1) := oc_27 shX12_claim_87
theorem dX12_claim_88 : decode cX12_claim 88 = .ok (.iaload, 1) := oc_46 shX12_claim_88
theorem dX12_claim_89 : decode cX12_claim 89 = .ok (.iload 4, 2) := oc_21 shX12_claim_89
theorem dX12_claim_91 : decode cX12_claim 91 = .ok (.isub, 1) := oc_100 shX12_claim_91
theorem dX12_claim_92 : decode cX12_claim 92 = .ok (.istore 5, 2) := oc_54 shX12_claim_92
theorem dX12_claim_94 : decode cX12_claim 94 = .ok (.iload 4, 2) := oc_21 shX12_claim_94
theorem dX12_claim_96 : decode cX12_claim 96 = .ok (.iload 5, 2) := oc_21 shX12_claim_96
theorem dX12_claim_98 : decode cX12_claim 98 = .ok (.if_icmp .le 7, 3) := oc_164 shX12_claim_98 sgw_0_7
theorem dX12_claim_101 : decode cX12_claim 101 = .ok (.iconst 1, 1) := oc_4 shX12_claim_101
theorem dX12_claim_102 : decode cX12_claim 102 = .ok (.goto 15, 3) := oc_167 shX12_claim_102 sgw_0_15
theorem dX12_claim_105 : decode cX12_claim 105 = .ok (.iload 5, 2) := oc_21 shX12_claim_105
theorem dX12_claim_107 : decode cX12_claim 107 = .ok (.iload 4, 2) := oc_21 shX12_claim_107
theorem dX12_claim_109 : decode cX12_claim 109 = .ok (.if_icmp .le 7, 3) := oc_164 shX12_claim_109 sgw_0_7
theorem dX12_claim_112 : decode cX12_claim 112 = .ok (.iconst 0, 1) := oc_3 shX12_claim_112
theorem dX12_claim_113 : decode cX12_claim 113 = .ok (.goto 4, 3) := oc_167 shX12_claim_113 sgw_0_4
theorem dX12_claim_116 : decode cX12_claim 116 = .ok (.iconst 2, 1) := oc_5 shX12_claim_116
theorem dX12_claim_117 : decode cX12_claim 117 = .ok (.ireturn, 1) := oc_172 shX12_claim_117
noncomputable def sxX12_spill_69 : List UInt8 := []
noncomputable def sxX12_spill_68 : List UInt8 := 172 :: sxX12_spill_69
noncomputable def sxX12_spill_65 : List UInt8 := 180 :: 1 :: 206 :: sxX12_spill_68
noncomputable def sxX12_spill_64 : List UInt8 := 42 :: sxX12_spill_65
noncomputable def sxX12_spill_61 : List UInt8 := 181 :: 1 :: 206 :: sxX12_spill_64
noncomputable def sxX12_spill_60 : List UInt8 := 96 :: sxX12_spill_61
noncomputable def sxX12_spill_59 : List UInt8 := 4 :: sxX12_spill_60
noncomputable def sxX12_spill_56 : List UInt8 := 180 :: 1 :: 206 :: sxX12_spill_59
noncomputable def sxX12_spill_55 : List UInt8 := 42 :: sxX12_spill_56
noncomputable def sxX12_spill_54 : List UInt8 := 42 :: sxX12_spill_55
noncomputable def sxX12_spill_53 : List UInt8 := 79 :: sxX12_spill_54
noncomputable def sxX12_spill_52 : List UInt8 := 28 :: sxX12_spill_53
noncomputable def sxX12_spill_49 : List UInt8 := 180 :: 1 :: 206 :: sxX12_spill_52
noncomputable def sxX12_spill_48 : List UInt8 := 42 :: sxX12_spill_49
noncomputable def sxX12_spill_45 : List UInt8 := 180 :: 0 :: 180 :: sxX12_spill_48
noncomputable def sxX12_spill_44 : List UInt8 := 42 :: sxX12_spill_45
noncomputable def sxX12_spill_43 : List UInt8 := 79 :: sxX12_spill_44
noncomputable def sxX12_spill_42 : List UInt8 := 27 :: sxX12_spill_43
noncomputable def sxX12_spill_39 : List UInt8 := 180 :: 1 :: 206 :: sxX12_spill_42
noncomputable def sxX12_spill_38 : List UInt8 := 42 :: sxX12_spill_39
noncomputable def sxX12_spill_35 : List UInt8 := 180 :: 0 :: 177 :: sxX12_spill_38
noncomputable def sxX12_spill_34 : List UInt8 := 42 :: sxX12_spill_35
noncomputable def sxX12_spill_33 : List UInt8 := 172 :: sxX12_spill_34
noncomputable def sxX12_spill_32 : List UInt8 := 2 :: sxX12_spill_33
noncomputable def sxX12_spill_29 : List UInt8 := 160 :: 0 :: 5 :: sxX12_spill_32
noncomputable def sxX12_spill_27 : List UInt8 := 16 :: 40 :: sxX12_spill_29
noncomputable def sxX12_spill_24 : List UInt8 := 180 :: 1 :: 206 :: sxX12_spill_27
noncomputable def sxX12_spill_23 : List UInt8 := 42 :: sxX12_spill_24
noncomputable def sxX12_spill_20 : List UInt8 := 153 :: 0 :: 12 :: sxX12_spill_23
noncomputable def sxX12_spill_17 : List UInt8 := 184 :: 0 :: 214 :: sxX12_spill_20
noncomputable def sxX12_spill_14 : List UInt8 := 17 :: 1 :: 144 :: sxX12_spill_17
noncomputable def sxX12_spill_13 : List UInt8 := 4 :: sxX12_spill_14
noncomputable def sxX12_spill_12 : List UInt8 := 28 :: sxX12_spill_13
noncomputable def sxX12_spill_9 : List UInt8 := 153 :: 0 :: 23 :: sxX12_spill_12
noncomputable def sxX12_spill_6 : List UInt8 := 184 :: 0 :: 214 :: sxX12_spill_9
noncomputable def sxX12_spill_3 : List UInt8 := 180 :: 0 :: 211 :: sxX12_spill_6
noncomputable def sxX12_spill_2 : List UInt8 := 42 :: sxX12_spill_3
noncomputable def sxX12_spill_1 : List UInt8 := 3 :: sxX12_spill_2
noncomputable def sxX12_spill_0 : List UInt8 := 27 :: sxX12_spill_1
theorem shX12_spill_0 : cX12_spill.data.toList.drop 0 = sxX12_spill_0 := rfl
theorem shX12_spill_1 : cX12_spill.data.toList.drop 1 = sxX12_spill_1 := dSn 1 shX12_spill_0
theorem shX12_spill_2 : cX12_spill.data.toList.drop 2 = sxX12_spill_2 := dSn 1 shX12_spill_1
theorem shX12_spill_3 : cX12_spill.data.toList.drop 3 = sxX12_spill_3 := dSn 1 shX12_spill_2
theorem shX12_spill_6 : cX12_spill.data.toList.drop 6 = sxX12_spill_6 := dSn 3 shX12_spill_3
theorem shX12_spill_9 : cX12_spill.data.toList.drop 9 = sxX12_spill_9 := dSn 3 shX12_spill_6
theorem shX12_spill_12 : cX12_spill.data.toList.drop 12 = sxX12_spill_12 := dSn 3 shX12_spill_9
theorem shX12_spill_13 : cX12_spill.data.toList.drop 13 = sxX12_spill_13 := dSn 1 shX12_spill_12
theorem shX12_spill_14 : cX12_spill.data.toList.drop 14 = sxX12_spill_14 := dSn 1 shX12_spill_13
theorem shX12_spill_17 : cX12_spill.data.toList.drop 17 = sxX12_spill_17 := dSn 3 shX12_spill_14
theorem shX12_spill_20 : cX12_spill.data.toList.drop 20 = sxX12_spill_20 := dSn 3 shX12_spill_17
theorem shX12_spill_23 : cX12_spill.data.toList.drop 23 = sxX12_spill_23 := dSn 3 shX12_spill_20
theorem shX12_spill_24 : cX12_spill.data.toList.drop 24 = sxX12_spill_24 := dSn 1 shX12_spill_23
theorem shX12_spill_27 : cX12_spill.data.toList.drop 27 = sxX12_spill_27 := dSn 3 shX12_spill_24
theorem shX12_spill_29 : cX12_spill.data.toList.drop 29 = sxX12_spill_29 := dSn 2 shX12_spill_27
theorem shX12_spill_32 : cX12_spill.data.toList.drop 32 = sxX12_spill_32 := dSn 3 shX12_spill_29
theorem shX12_spill_33 : cX12_spill.data.toList.drop 33 = sxX12_spill_33 := dSn 1 shX12_spill_32
theorem shX12_spill_34 : cX12_spill.data.toList.drop 34 = sxX12_spill_34 := dSn 1 shX12_spill_33
theorem shX12_spill_35 : cX12_spill.data.toList.drop 35 = sxX12_spill_35 := dSn 1 shX12_spill_34
theorem shX12_spill_38 : cX12_spill.data.toList.drop 38 = sxX12_spill_38 := dSn 3 shX12_spill_35
theorem shX12_spill_39 : cX12_spill.data.toList.drop 39 = sxX12_spill_39 := dSn 1 shX12_spill_38
theorem shX12_spill_42 : cX12_spill.data.toList.drop 42 = sxX12_spill_42 := dSn 3 shX12_spill_39
theorem shX12_spill_43 : cX12_spill.data.toList.drop 43 = sxX12_spill_43 := dSn 1 shX12_spill_42
theorem shX12_spill_44 : cX12_spill.data.toList.drop 44 = sxX12_spill_44 := dSn 1 shX12_spill_43
theorem shX12_spill_45 : cX12_spill.data.toList.drop 45 = sxX12_spill_45 := dSn 1 shX12_spill_44
theorem shX12_spill_48 : cX12_spill.data.toList.drop 48 = sxX12_spill_48 := dSn 3 shX12_spill_45
theorem shX12_spill_49 : cX12_spill.data.toList.drop 49 = sxX12_spill_49 := dSn 1 shX12_spill_48
theorem shX12_spill_52 : cX12_spill.data.toList.drop 52 = sxX12_spill_52 := dSn 3 shX12_spill_49
theorem shX12_spill_53 : cX12_spill.data.toList.drop 53 = sxX12_spill_53 := dSn 1 shX12_spill_52
theorem shX12_spill_54 : cX12_spill.data.toList.drop 54 = sxX12_spill_54 := dSn 1 shX12_spill_53
theorem shX12_spill_55 : cX12_spill.data.toList.drop 55 = sxX12_spill_55 := dSn 1 shX12_spill_54
theorem shX12_spill_56 : cX12_spill.data.toList.drop 56 = sxX12_spill_56 := dSn 1 shX12_spill_55
theorem shX12_spill_59 : cX12_spill.data.toList.drop 59 = sxX12_spill_59 := dSn 3 shX12_spill_56
theorem shX12_spill_60 : cX12_spill.data.toList.drop 60 = sxX12_spill_60 := dSn 1 shX12_spill_59
theorem shX12_spill_61 : cX12_spill.data.toList.drop 61 = sxX12_spill_61 := dSn 1 shX12_spill_60
theorem shX12_spill_64 : cX12_spill.data.toList.drop 64 = sxX12_spill_64 := dSn 3 shX12_spill_61
theorem shX12_spill_65 : cX12_spill.data.toList.drop 65 = sxX12_spill_65 := dSn 1 shX12_spill_64
theorem shX12_spill_68 : cX12_spill.data.toList.drop 68 = sxX12_spill_68 := dSn 3 shX12_spill_65
theorem dX12_spill_0 : decode cX12_spill 0 = .ok (.iload_n 1, 1) := oc_27 shX12_spill_0
theorem dX12_spill_1 : decode cX12_spill 1 = .ok (.iconst 0, 1) := oc_3 shX12_spill_1
theorem dX12_spill_2 : decode cX12_spill 2 = .ok (.aload_n 0, 1) := oc_42 shX12_spill_2
theorem dX12_spill_3 : decode cX12_spill 3 = .ok (.getfield 211, 3) := oc_180 shX12_spill_3
theorem dX12_spill_6 : decode cX12_spill 6 = .ok (.invokestatic 214, 3) := oc_184 shX12_spill_6
theorem dX12_spill_9 : decode cX12_spill 9 = .ok (.ifCond .eq 23, 3) := oc_153 shX12_spill_9 sgw_0_23
theorem dX12_spill_12 : decode cX12_spill 12 = .ok (.iload_n 2, 1) := oc_28 shX12_spill_12
theorem dX12_spill_13 : decode cX12_spill 13 = .ok (.iconst 1, 1) := oc_4 shX12_spill_13
theorem dX12_spill_14 : decode cX12_spill 14 = .ok (.sipush 400, 3) := oc_17 shX12_spill_14 sgw_1_144
theorem dX12_spill_17 : decode cX12_spill 17 = .ok (.invokestatic 214, 3) := oc_184 shX12_spill_17
theorem dX12_spill_20 : decode cX12_spill 20 = .ok (.ifCond .eq 12, 3) := oc_153 shX12_spill_20 sgw_0_12
theorem dX12_spill_23 : decode cX12_spill 23 = .ok (.aload_n 0, 1) := oc_42 shX12_spill_23
theorem dX12_spill_24 : decode cX12_spill 24 = .ok (.getfield 462, 3) := oc_180 shX12_spill_24
theorem dX12_spill_27 : decode cX12_spill 27 = .ok (.bipush 40, 2) := oc_16 shX12_spill_27 sgb_40
theorem dX12_spill_29 : decode cX12_spill 29 = .ok (.if_icmp .ne 5, 3) := oc_160 shX12_spill_29 sgw_0_5
theorem dX12_spill_32 : decode cX12_spill 32 = .ok (.iconst (-1), 1) := oc_2 shX12_spill_32
theorem dX12_spill_33 : decode cX12_spill 33 = .ok (.ireturn, 1) := oc_172 shX12_spill_33
theorem dX12_spill_34 : decode cX12_spill 34 = .ok (.aload_n 0, 1) := oc_42 shX12_spill_34
theorem dX12_spill_35 : decode cX12_spill 35 = .ok (.getfield 177, 3) := oc_180 shX12_spill_35
theorem dX12_spill_38 : decode cX12_spill 38 = .ok (.aload_n 0, 1) := oc_42 shX12_spill_38
theorem dX12_spill_39 : decode cX12_spill 39 = .ok (.getfield 462, 3) := oc_180 shX12_spill_39
theorem dX12_spill_42 : decode cX12_spill 42 = .ok (.iload_n 1, 1) := oc_27 shX12_spill_42
theorem dX12_spill_43 : decode cX12_spill 43 = .ok (.iastore, 1) := oc_79 shX12_spill_43
theorem dX12_spill_44 : decode cX12_spill 44 = .ok (.aload_n 0, 1) := oc_42 shX12_spill_44
theorem dX12_spill_45 : decode cX12_spill 45 = .ok (.getfield 180, 3) := oc_180 shX12_spill_45
theorem dX12_spill_48 : decode cX12_spill 48 = .ok (.aload_n 0, 1) := oc_42 shX12_spill_48
theorem dX12_spill_49 : decode cX12_spill 49 = .ok (.getfield 462, 3) := oc_180 shX12_spill_49
theorem dX12_spill_52 : decode cX12_spill 52 = .ok (.iload_n 2, 1) := oc_28 shX12_spill_52
theorem dX12_spill_53 : decode cX12_spill 53 = .ok (.iastore, 1) := oc_79 shX12_spill_53
theorem dX12_spill_54 : decode cX12_spill 54 = .ok (.aload_n 0, 1) := oc_42 shX12_spill_54
theorem dX12_spill_55 : decode cX12_spill 55 = .ok (.aload_n 0, 1) := oc_42 shX12_spill_55
theorem dX12_spill_56 : decode cX12_spill 56 = .ok (.getfield 462, 3) := oc_180 shX12_spill_56
theorem dX12_spill_59 : decode cX12_spill 59 = .ok (.iconst 1, 1) := oc_4 shX12_spill_59
theorem dX12_spill_60 : decode cX12_spill 60 = .ok (.iadd, 1) := oc_96 shX12_spill_60
theorem dX12_spill_61 : decode cX12_spill 61 = .ok (.putfield 462, 3) := oc_181 shX12_spill_61
theorem dX12_spill_64 : decode cX12_spill 64 = .ok (.aload_n 0, 1) := oc_42 shX12_spill_64
theorem dX12_spill_65 : decode cX12_spill 65 = .ok (.getfield 462, 3) := oc_180 shX12_spill_65
theorem dX12_spill_68 : decode cX12_spill 68 = .ok (.ireturn, 1) := oc_172 shX12_spill_68
noncomputable def sxX12_stockOn_120 : List UInt8 := []
noncomputable def sxX12_stockOn_119 : List UInt8 := 172 :: sxX12_stockOn_120
noncomputable def sxX12_stockOn_118 : List UInt8 := 28 :: sxX12_stockOn_119
noncomputable def sxX12_stockOn_115 : List UInt8 := 167 :: 255 :: 223 :: sxX12_stockOn_118
noncomputable def sxX12_stockOn_112 : List UInt8 := 132 :: 3 :: 1 :: sxX12_stockOn_115
noncomputable def sxX12_stockOn_111 : List UInt8 := 61 :: sxX12_stockOn_112
noncomputable def sxX12_stockOn_110 : List UInt8 := 100 :: sxX12_stockOn_111
noncomputable def sxX12_stockOn_109 : List UInt8 := 3 :: sxX12_stockOn_110
noncomputable def sxX12_stockOn_106 : List UInt8 := 167 :: 0 :: 4 :: sxX12_stockOn_109
noncomputable def sxX12_stockOn_103 : List UInt8 := 182 :: 1 :: 188 :: sxX12_stockOn_106
noncomputable def sxX12_stockOn_102 : List UInt8 := 29 :: sxX12_stockOn_103
noncomputable def sxX12_stockOn_101 : List UInt8 := 42 :: sxX12_stockOn_102
noncomputable def sxX12_stockOn_98 : List UInt8 := 163 :: 0 :: 11 :: sxX12_stockOn_101
noncomputable def sxX12_stockOn_97 : List UInt8 := 27 :: sxX12_stockOn_98
noncomputable def sxX12_stockOn_96 : List UInt8 := 46 :: sxX12_stockOn_97
noncomputable def sxX12_stockOn_95 : List UInt8 := 29 :: sxX12_stockOn_96
noncomputable def sxX12_stockOn_92 : List UInt8 := 180 :: 0 :: 141 :: sxX12_stockOn_95
noncomputable def sxX12_stockOn_91 : List UInt8 := 42 :: sxX12_stockOn_92
noncomputable def sxX12_stockOn_90 : List UInt8 := 28 :: sxX12_stockOn_91
noncomputable def sxX12_stockOn_87 : List UInt8 := 162 :: 0 :: 31 :: sxX12_stockOn_90
noncomputable def sxX12_stockOn_84 : List UInt8 := 180 :: 1 :: 179 :: sxX12_stockOn_87
noncomputable def sxX12_stockOn_83 : List UInt8 := 42 :: sxX12_stockOn_84
noncomputable def sxX12_stockOn_82 : List UInt8 := 29 :: sxX12_stockOn_83
noncomputable def sxX12_stockOn_81 : List UInt8 := 62 :: sxX12_stockOn_82
noncomputable def sxX12_stockOn_80 : List UInt8 := 3 :: sxX12_stockOn_81
noncomputable def sxX12_stockOn_77 : List UInt8 := 167 :: 255 :: 222 :: sxX12_stockOn_80
noncomputable def sxX12_stockOn_74 : List UInt8 := 132 :: 3 :: 1 :: sxX12_stockOn_77
noncomputable def sxX12_stockOn_73 : List UInt8 := 61 :: sxX12_stockOn_74
noncomputable def sxX12_stockOn_72 : List UInt8 := 100 :: sxX12_stockOn_73
noncomputable def sxX12_stockOn_71 : List UInt8 := 3 :: sxX12_stockOn_72
noncomputable def sxX12_stockOn_68 : List UInt8 := 167 :: 0 :: 4 :: sxX12_stockOn_71
noncomputable def sxX12_stockOn_67 : List UInt8 := 46 :: sxX12_stockOn_68
noncomputable def sxX12_stockOn_66 : List UInt8 := 29 :: sxX12_stockOn_67
noncomputable def sxX12_stockOn_63 : List UInt8 := 180 :: 0 :: 180 :: sxX12_stockOn_66
noncomputable def sxX12_stockOn_62 : List UInt8 := 42 :: sxX12_stockOn_63
noncomputable def sxX12_stockOn_59 : List UInt8 := 163 :: 0 :: 12 :: sxX12_stockOn_62
noncomputable def sxX12_stockOn_58 : List UInt8 := 27 :: sxX12_stockOn_59
noncomputable def sxX12_stockOn_57 : List UInt8 := 46 :: sxX12_stockOn_58
noncomputable def sxX12_stockOn_56 : List UInt8 := 29 :: sxX12_stockOn_57
noncomputable def sxX12_stockOn_53 : List UInt8 := 180 :: 0 :: 177 :: sxX12_stockOn_56
noncomputable def sxX12_stockOn_52 : List UInt8 := 42 :: sxX12_stockOn_53
noncomputable def sxX12_stockOn_51 : List UInt8 := 28 :: sxX12_stockOn_52
noncomputable def sxX12_stockOn_48 : List UInt8 := 162 :: 0 :: 32 :: sxX12_stockOn_51
noncomputable def sxX12_stockOn_45 : List UInt8 := 180 :: 1 :: 206 :: sxX12_stockOn_48
noncomputable def sxX12_stockOn_44 : List UInt8 := 42 :: sxX12_stockOn_45
noncomputable def sxX12_stockOn_43 : List UInt8 := 29 :: sxX12_stockOn_44
noncomputable def sxX12_stockOn_42 : List UInt8 := 62 :: sxX12_stockOn_43
noncomputable def sxX12_stockOn_41 : List UInt8 := 3 :: sxX12_stockOn_42
noncomputable def sxX12_stockOn_38 : List UInt8 := 167 :: 255 :: 222 :: sxX12_stockOn_41
noncomputable def sxX12_stockOn_35 : List UInt8 := 132 :: 3 :: 1 :: sxX12_stockOn_38
noncomputable def sxX12_stockOn_34 : List UInt8 := 61 :: sxX12_stockOn_35
noncomputable def sxX12_stockOn_33 : List UInt8 := 96 :: sxX12_stockOn_34
noncomputable def sxX12_stockOn_32 : List UInt8 := 3 :: sxX12_stockOn_33
noncomputable def sxX12_stockOn_29 : List UInt8 := 167 :: 0 :: 4 :: sxX12_stockOn_32
noncomputable def sxX12_stockOn_28 : List UInt8 := 46 :: sxX12_stockOn_29
noncomputable def sxX12_stockOn_27 : List UInt8 := 29 :: sxX12_stockOn_28
noncomputable def sxX12_stockOn_24 : List UInt8 := 180 :: 0 :: 31 :: sxX12_stockOn_27
noncomputable def sxX12_stockOn_23 : List UInt8 := 42 :: sxX12_stockOn_24
noncomputable def sxX12_stockOn_20 : List UInt8 := 163 :: 0 :: 12 :: sxX12_stockOn_23
noncomputable def sxX12_stockOn_19 : List UInt8 := 27 :: sxX12_stockOn_20
noncomputable def sxX12_stockOn_18 : List UInt8 := 46 :: sxX12_stockOn_19
noncomputable def sxX12_stockOn_17 : List UInt8 := 29 :: sxX12_stockOn_18
noncomputable def sxX12_stockOn_14 : List UInt8 := 180 :: 0 :: 28 :: sxX12_stockOn_17
noncomputable def sxX12_stockOn_13 : List UInt8 := 42 :: sxX12_stockOn_14
noncomputable def sxX12_stockOn_12 : List UInt8 := 28 :: sxX12_stockOn_13
noncomputable def sxX12_stockOn_9 : List UInt8 := 162 :: 0 :: 32 :: sxX12_stockOn_12
noncomputable def sxX12_stockOn_6 : List UInt8 := 180 :: 0 :: 208 :: sxX12_stockOn_9
noncomputable def sxX12_stockOn_5 : List UInt8 := 42 :: sxX12_stockOn_6
noncomputable def sxX12_stockOn_4 : List UInt8 := 29 :: sxX12_stockOn_5
noncomputable def sxX12_stockOn_3 : List UInt8 := 62 :: sxX12_stockOn_4
noncomputable def sxX12_stockOn_2 : List UInt8 := 3 :: sxX12_stockOn_3
noncomputable def sxX12_stockOn_1 : List UInt8 := 61 :: sxX12_stockOn_2
noncomputable def sxX12_stockOn_0 : List UInt8 := 3 :: sxX12_stockOn_1
theorem shX12_stockOn_0 : cX12_stockOn.data.toList.drop 0 = sxX12_stockOn_0 := rfl
theorem shX12_stockOn_1 : cX12_stockOn.data.toList.drop 1 = sxX12_stockOn_1 := dSn 1 shX12_stockOn_0
theorem shX12_stockOn_2 : cX12_stockOn.data.toList.drop 2 = sxX12_stockOn_2 := dSn 1 shX12_stockOn_1
theorem shX12_stockOn_3 : cX12_stockOn.data.toList.drop 3 = sxX12_stockOn_3 := dSn 1 shX12_stockOn_2
theorem shX12_stockOn_4 : cX12_stockOn.data.toList.drop 4 = sxX12_stockOn_4 := dSn 1 shX12_stockOn_3
theorem shX12_stockOn_5 : cX12_stockOn.data.toList.drop 5 = sxX12_stockOn_5 := dSn 1 shX12_stockOn_4
theorem shX12_stockOn_6 : cX12_stockOn.data.toList.drop 6 = sxX12_stockOn_6 := dSn 1 shX12_stockOn_5
theorem shX12_stockOn_9 : cX12_stockOn.data.toList.drop 9 = sxX12_stockOn_9 := dSn 3 shX12_stockOn_6
theorem shX12_stockOn_12 : cX12_stockOn.data.toList.drop 12 = sxX12_stockOn_12 := dSn 3 shX12_stockOn_9
theorem shX12_stockOn_13 : cX12_stockOn.data.toList.drop 13 = sxX12_stockOn_13 := dSn 1 shX12_stockOn_12
theorem shX12_stockOn_14 : cX12_stockOn.data.toList.drop 14 = sxX12_stockOn_14 := dSn 1 shX12_stockOn_13
theorem shX12_stockOn_17 : cX12_stockOn.data.toList.drop 17 = sxX12_stockOn_17 := dSn 3 shX12_stockOn_14
theorem shX12_stockOn_18 : cX12_stockOn.data.toList.drop 18 = sxX12_stockOn_18 := dSn 1 shX12_stockOn_17
theorem shX12_stockOn_19 : cX12_stockOn.data.toList.drop 19 = sxX12_stockOn_19 := dSn 1 shX12_stockOn_18
theorem shX12_stockOn_20 : cX12_stockOn.data.toList.drop 20 = sxX12_stockOn_20 := dSn 1 shX12_stockOn_19
theorem shX12_stockOn_23 : cX12_stockOn.data.toList.drop 23 = sxX12_stockOn_23 := dSn 3 shX12_stockOn_20
theorem shX12_stockOn_24 : cX12_stockOn.data.toList.drop 24 = sxX12_stockOn_24 := dSn 1 shX12_stockOn_23
theorem shX12_stockOn_27 : cX12_stockOn.data.toList.drop 27 = sxX12_stockOn_27 := dSn 3 shX12_stockOn_24
theorem shX12_stockOn_28 : cX12_stockOn.data.toList.drop 28 = sxX12_stockOn_28 := dSn 1 shX12_stockOn_27
theorem shX12_stockOn_29 : cX12_stockOn.data.toList.drop 29 = sxX12_stockOn_29 := dSn 1 shX12_stockOn_28
theorem shX12_stockOn_32 : cX12_stockOn.data.toList.drop 32 = sxX12_stockOn_32 := dSn 3 shX12_stockOn_29
theorem shX12_stockOn_33 : cX12_stockOn.data.toList.drop 33 = sxX12_stockOn_33 := dSn 1 shX12_stockOn_32
theorem shX12_stockOn_34 : cX12_stockOn.data.toList.drop 34 = sxX12_stockOn_34 := dSn 1 shX12_stockOn_33
theorem shX12_stockOn_35 : cX12_stockOn.data.toList.drop 35 = sxX12_stockOn_35 := dSn 1 shX12_stockOn_34
theorem shX12_stockOn_38 : cX12_stockOn.data.toList.drop 38 = sxX12_stockOn_38 := dSn 3 shX12_stockOn_35
theorem shX12_stockOn_41 : cX12_stockOn.data.toList.drop 41 = sxX12_stockOn_41 := dSn 3 shX12_stockOn_38
theorem shX12_stockOn_42 : cX12_stockOn.data.toList.drop 42 = sxX12_stockOn_42 := dSn 1 shX12_stockOn_41
theorem shX12_stockOn_43 : cX12_stockOn.data.toList.drop 43 = sxX12_stockOn_43 := dSn 1 shX12_stockOn_42
theorem shX12_stockOn_44 : cX12_stockOn.data.toList.drop 44 = sxX12_stockOn_44 := dSn 1 shX12_stockOn_43
theorem shX12_stockOn_45 : cX12_stockOn.data.toList.drop 45 = sxX12_stockOn_45 := dSn 1 shX12_stockOn_44
theorem shX12_stockOn_48 : cX12_stockOn.data.toList.drop 48 = sxX12_stockOn_48 := dSn 3 shX12_stockOn_45
theorem shX12_stockOn_51 : cX12_stockOn.data.toList.drop 51 = sxX12_stockOn_51 := dSn 3 shX12_stockOn_48
theorem shX12_stockOn_52 : cX12_stockOn.data.toList.drop 52 = sxX12_stockOn_52 := dSn 1 shX12_stockOn_51
theorem shX12_stockOn_53 : cX12_stockOn.data.toList.drop 53 = sxX12_stockOn_53 := dSn 1 shX12_stockOn_52
theorem shX12_stockOn_56 : cX12_stockOn.data.toList.drop 56 = sxX12_stockOn_56 := dSn 3 shX12_stockOn_53
theorem shX12_stockOn_57 : cX12_stockOn.data.toList.drop 57 = sxX12_stockOn_57 := dSn 1 shX12_stockOn_56
theorem shX12_stockOn_58 : cX12_stockOn.data.toList.drop 58 = sxX12_stockOn_58 := dSn 1 shX12_stockOn_57
theorem shX12_stockOn_59 : cX12_stockOn.data.toList.drop 59 = sxX12_stockOn_59 := dSn 1 shX12_stockOn_58
theorem shX12_stockOn_62 : cX12_stockOn.data.toList.drop 62 = sxX12_stockOn_62 := dSn 3 shX12_stockOn_59
theorem shX12_stockOn_63 : cX12_stockOn.data.toList.drop 63 = sxX12_stockOn_63 := dSn 1 shX12_stockOn_62
theorem shX12_stockOn_66 : cX12_stockOn.data.toList.drop 66 = sxX12_stockOn_66 := dSn 3 shX12_stockOn_63
theorem shX12_stockOn_67 : cX12_stockOn.data.toList.drop 67 = sxX12_stockOn_67 := dSn 1 shX12_stockOn_66
theorem shX12_stockOn_68 : cX12_stockOn.data.toList.drop 68 = sxX12_stockOn_68 := dSn 1 shX12_stockOn_67
theorem shX12_stockOn_71 : cX12_stockOn.data.toList.drop 71 = sxX12_stockOn_71 := dSn 3 shX12_stockOn_68
theorem shX12_stockOn_72 : cX12_stockOn.data.toList.drop 72 = sxX12_stockOn_72 := dSn 1 shX12_stockOn_71
theorem shX12_stockOn_73 : cX12_stockOn.data.toList.drop 73 = sxX12_stockOn_73 := dSn 1 shX12_stockOn_72
theorem shX12_stockOn_74 : cX12_stockOn.data.toList.drop 74 = sxX12_stockOn_74 := dSn 1 shX12_stockOn_73
theorem shX12_stockOn_77 : cX12_stockOn.data.toList.drop 77 = sxX12_stockOn_77 := dSn 3 shX12_stockOn_74
theorem shX12_stockOn_80 : cX12_stockOn.data.toList.drop 80 = sxX12_stockOn_80 := dSn 3 shX12_stockOn_77
theorem shX12_stockOn_81 : cX12_stockOn.data.toList.drop 81 = sxX12_stockOn_81 := dSn 1 shX12_stockOn_80
theorem shX12_stockOn_82 : cX12_stockOn.data.toList.drop 82 = sxX12_stockOn_82 := dSn 1 shX12_stockOn_81
theorem shX12_stockOn_83 : cX12_stockOn.data.toList.drop 83 = sxX12_stockOn_83 := dSn 1 shX12_stockOn_82
theorem shX12_stockOn_84 : cX12_stockOn.data.toList.drop 84 = sxX12_stockOn_84 := dSn 1 shX12_stockOn_83
theorem shX12_stockOn_87 : cX12_stockOn.data.toList.drop 87 = sxX12_stockOn_87 := dSn 3 shX12_stockOn_84
theorem shX12_stockOn_90 : cX12_stockOn.data.toList.drop 90 = sxX12_stockOn_90 := dSn 3 shX12_stockOn_87
theorem shX12_stockOn_91 : cX12_stockOn.data.toList.drop 91 = sxX12_stockOn_91 := dSn 1 shX12_stockOn_90
theorem shX12_stockOn_92 : cX12_stockOn.data.toList.drop 92 = sxX12_stockOn_92 := dSn 1 shX12_stockOn_91
theorem shX12_stockOn_95 : cX12_stockOn.data.toList.drop 95 = sxX12_stockOn_95 := dSn 3 shX12_stockOn_92
theorem shX12_stockOn_96 : cX12_stockOn.data.toList.drop 96 = sxX12_stockOn_96 := dSn 1 shX12_stockOn_95
theorem shX12_stockOn_97 : cX12_stockOn.data.toList.drop 97 = sxX12_stockOn_97 := dSn 1 shX12_stockOn_96
theorem shX12_stockOn_98 : cX12_stockOn.data.toList.drop 98 = sxX12_stockOn_98 := dSn 1 shX12_stockOn_97
theorem shX12_stockOn_101 : cX12_stockOn.data.toList.drop 101 = sxX12_stockOn_101 := dSn 3 shX12_stockOn_98
theorem shX12_stockOn_102 : cX12_stockOn.data.toList.drop 102 = sxX12_stockOn_102 := dSn 1 shX12_stockOn_101
theorem shX12_stockOn_103 : cX12_stockOn.data.toList.drop 103 = sxX12_stockOn_103 := dSn 1 shX12_stockOn_102
theorem shX12_stockOn_106 : cX12_stockOn.data.toList.drop 106 = sxX12_stockOn_106 := dSn 3 shX12_stockOn_103
theorem shX12_stockOn_109 : cX12_stockOn.data.toList.drop 109 = sxX12_stockOn_109 := dSn 3 shX12_stockOn_106
theorem shX12_stockOn_110 : cX12_stockOn.data.toList.drop 110 = sxX12_stockOn_110 := dSn 1 shX12_stockOn_109
theorem shX12_stockOn_111 : cX12_stockOn.data.toList.drop 111 = sxX12_stockOn_111 := dSn 1 shX12_stockOn_110
theorem shX12_stockOn_112 : cX12_stockOn.data.toList.drop 112 = sxX12_stockOn_112 := dSn 1 shX12_stockOn_111
theorem shX12_stockOn_115 : cX12_stockOn.data.toList.drop 115 = sxX12_stockOn_115 := dSn 3 shX12_stockOn_112
theorem shX12_stockOn_118 : cX12_stockOn.data.toList.drop 118 = sxX12_stockOn_118 := dSn 3 shX12_stockOn_115
theorem shX12_stockOn_119 : cX12_stockOn.data.toList.drop 119 = sxX12_stockOn_119 := dSn 1 shX12_stockOn_118
theorem dX12_stockOn_0 : decode cX12_stockOn 0 = .ok (.iconst 0, 1) := oc_3 shX12_stockOn_0
theorem dX12_stockOn_1 : decode cX12_stockOn 1 = .ok (.istore_n 2, 1) := oc_61 shX12_stockOn_1
theorem dX12_stockOn_2 : decode cX12_stockOn 2 = .ok (.iconst 0, 1) := oc_3 shX12_stockOn_2
theorem dX12_stockOn_3 : decode cX12_stockOn 3 = .ok (.istore_n 3, 1) := oc_62 shX12_stockOn_3
theorem dX12_stockOn_4 : decode cX12_stockOn 4 = .ok (.iload_n 3, 1) := oc_29 shX12_stockOn_4
theorem dX12_stockOn_5 : decode cX12_stockOn 5 = .ok (.aload_n 0, 1) := oc_42 shX12_stockOn_5
theorem dX12_stockOn_6 : decode cX12_stockOn 6 = .ok (.getfield 208, 3) := oc_180 shX12_stockOn_6
theorem dX12_stockOn_9 : decode cX12_stockOn 9 = .ok (.if_icmp .ge 32, 3) := oc_162 shX12_stockOn_9 sgw_0_32
theorem dX12_stockOn_12 : decode cX12_stockOn 12 = .ok (.iload_n 2, 1) := oc_28 shX12_stockOn_12
theorem dX12_stockOn_13 : decode cX12_stockOn 13 = .ok (.aload_n 0, 1) := oc_42 shX12_stockOn_13
theorem dX12_stockOn_14 : decode cX12_stockOn 14 = .ok (.getfield 28, 3) := oc_180 shX12_stockOn_14
theorem dX12_stockOn_17 : decode cX12_stockOn 17 = .ok (.iload_n 3, 1) := oc_29 shX12_stockOn_17
theorem dX12_stockOn_18 : decode cX12_stockOn 18 = .ok (.iaload, 1) := oc_46 shX12_stockOn_18
theorem dX12_stockOn_19 : decode cX12_stockOn 19 = .ok (.iload_n 1, 1) := oc_27 shX12_stockOn_19
theorem dX12_stockOn_20 : decode cX12_stockOn 20 = .ok (.if_icmp .gt 12, 3) := oc_163 shX12_stockOn_20 sgw_0_12
theorem dX12_stockOn_23 : decode cX12_stockOn 23 = .ok (.aload_n 0, 1) := oc_42 shX12_stockOn_23
theorem dX12_stockOn_24 : decode cX12_stockOn 24 = .ok (.getfield 31, 3) := oc_180 shX12_stockOn_24
theorem dX12_stockOn_27 : decode cX12_stockOn 27 = .ok (.iload_n 3, 1) := oc_29 shX12_stockOn_27
theorem dX12_stockOn_28 : decode cX12_stockOn 28 = .ok (.iaload, 1) := oc_46 shX12_stockOn_28
theorem dX12_stockOn_29 : decode cX12_stockOn 29 = .ok (.goto 4, 3) := oc_167 shX12_stockOn_29 sgw_0_4
theorem dX12_stockOn_32 : decode cX12_stockOn 32 = .ok (.iconst 0, 1) := oc_3 shX12_stockOn_32
theorem dX12_stockOn_33 : decode cX12_stockOn 33 = .ok (.iadd, 1) := oc_96 shX12_stockOn_33
theorem dX12_stockOn_34 : decode cX12_stockOn 34 = .ok (.istore_n 2, 1) := oc_61 shX12_stockOn_34
theorem dX12_stockOn_35 : decode cX12_stockOn 35 = .ok (.iinc 3 1, 3) := oc_132 shX12_stockOn_35 sgb_1
theorem dX12_stockOn_38 : decode cX12_stockOn 38 = .ok (.goto (-34), 3) := oc_167 shX12_stockOn_38 sgw_255_222
theorem dX12_stockOn_41 : decode cX12_stockOn 41 = .ok (.iconst 0, 1) := oc_3 shX12_stockOn_41
theorem dX12_stockOn_42 : decode cX12_stockOn 42 = .ok (.istore_n 3, 1) := oc_62 shX12_stockOn_42
theorem dX12_stockOn_43 : decode cX12_stockOn 43 = .ok (.iload_n 3, 1) := oc_29 shX12_stockOn_43
theorem dX12_stockOn_44 : decode cX12_stockOn 44 = .ok (.aload_n 0, 1) := oc_42 shX12_stockOn_44
theorem dX12_stockOn_45 : decode cX12_stockOn 45 = .ok (.getfield 462, 3) := oc_180 shX12_stockOn_45
theorem dX12_stockOn_48 : decode cX12_stockOn 48 = .ok (.if_icmp .ge 32, 3) := oc_162 shX12_stockOn_48 sgw_0_32
theorem dX12_stockOn_51 : decode cX12_stockOn 51 = .ok (.iload_n 2, 1) := oc_28 shX12_stockOn_51
theorem dX12_stockOn_52 : decode cX12_stockOn 52 = .ok (.aload_n 0, 1) := oc_42 shX12_stockOn_52
theorem dX12_stockOn_53 : decode cX12_stockOn 53 = .ok (.getfield 177, 3) := oc_180 shX12_stockOn_53
theorem dX12_stockOn_56 : decode cX12_stockOn 56 = .ok (.iload_n 3, 1) := oc_29 shX12_stockOn_56
theorem dX12_stockOn_57 : decode cX12_stockOn 57 = .ok (.iaload, 1) := oc_46 shX12_stockOn_57
theorem dX12_stockOn_58 : decode cX12_stockOn 58 = .ok (.iload_n 1, 1) := oc_27 shX12_stockOn_58
theorem dX12_stockOn_59 : decode cX12_stockOn 59 = .ok (.if_icmp .gt 12, 3) := oc_163 shX12_stockOn_59 sgw_0_12
theorem dX12_stockOn_62 : decode cX12_stockOn 62 = .ok (.aload_n 0, 1) := oc_42 shX12_stockOn_62
theorem dX12_stockOn_63 : decode cX12_stockOn 63 = .ok (.getfield 180, 3) := oc_180 shX12_stockOn_63
theorem dX12_stockOn_66 : decode cX12_stockOn 66 = .ok (.iload_n 3, 1) := oc_29 shX12_stockOn_66
theorem dX12_stockOn_67 : decode cX12_stockOn 67 = .ok (.iaload, 1) := oc_46 shX12_stockOn_67
theorem dX12_stockOn_68 : decode cX12_stockOn 68 = .ok (.goto 4, 3) := oc_167 shX12_stockOn_68 sgw_0_4
theorem dX12_stockOn_71 : decode cX12_stockOn 71 = .ok (.iconst 0, 1) := oc_3 shX12_stockOn_71
theorem dX12_stockOn_72 : decode cX12_stockOn 72 = .ok (.isub, 1) := oc_100 shX12_stockOn_72
theorem dX12_stockOn_73 : decode cX12_stockOn 73 = .ok (.istore_n 2, 1) := oc_61 shX12_stockOn_73
theorem dX12_stockOn_74 : decode cX12_stockOn 74 = .ok (.iinc 3 1, 3) := oc_132 shX12_stockOn_74 sgb_1
theorem dX12_stockOn_77 : decode cX12_stockOn 77 = .ok (.goto (-34), 3) := oc_167 shX12_stockOn_77 sgw_255_222
theorem dX12_stockOn_80 : decode cX12_stockOn 80 = .ok (.iconst 0, 1) := oc_3 shX12_stockOn_80
theorem dX12_stockOn_81 : decode cX12_stockOn 81 = .ok (.istore_n 3, 1) := oc_62 shX12_stockOn_81
theorem dX12_stockOn_82 : decode cX12_stockOn 82 = .ok (.iload_n 3, 1) := oc_29 shX12_stockOn_82
theorem dX12_stockOn_83 : decode cX12_stockOn 83 = .ok (.aload_n 0, 1) := oc_42 shX12_stockOn_83
theorem dX12_stockOn_84 : decode cX12_stockOn 84 = .ok (.getfield 435, 3) := oc_180 shX12_stockOn_84
theorem dX12_stockOn_87 : decode cX12_stockOn 87 = .ok (.if_icmp .ge 31, 3) := oc_162 shX12_stockOn_87 sgw_0_31
theorem dX12_stockOn_90 : decode cX12_stockOn 90 = .ok (.iload_n 2, 1) := oc_28 shX12_stockOn_90
theorem dX12_stockOn_91 : decode cX12_stockOn 91 = .ok (.aload_n 0, 1) := oc_42 shX12_stockOn_91
theorem dX12_stockOn_92 : decode cX12_stockOn 92 = .ok (.getfield 141, 3) := oc_180 shX12_stockOn_92
theorem dX12_stockOn_95 : decode cX12_stockOn 95 = .ok (.iload_n 3, 1) := oc_29 shX12_stockOn_95
theorem dX12_stockOn_96 : decode cX12_stockOn 96 = .ok (.iaload, 1) := oc_46 shX12_stockOn_96
theorem dX12_stockOn_97 : decode cX12_stockOn 97 = .ok (.iload_n 1, 1) := oc_27 shX12_stockOn_97
theorem dX12_stockOn_98 : decode cX12_stockOn 98 = .ok (.if_icmp .gt 11, 3) := oc_163 shX12_stockOn_98 sgw_0_11
theorem dX12_stockOn_101 : decode cX12_stockOn 101 = .ok (.aload_n 0, 1) := oc_42 shX12_stockOn_101
theorem dX12_stockOn_102 : decode cX12_stockOn 102 = .ok (.iload_n 3, 1) := oc_29 shX12_stockOn_102
theorem dX12_stockOn_103 : decode cX12_stockOn 103 = .ok (.invokevirtual 444, 3) := oc_182 shX12_stockOn_103
theorem dX12_stockOn_106 : decode cX12_stockOn 106 = .ok (.goto 4, 3) := oc_167 shX12_stockOn_106 sgw_0_4
theorem dX12_stockOn_109 : decode cX12_stockOn 109 = .ok (.iconst 0, 1) := oc_3 shX12_stockOn_109
theorem dX12_stockOn_110 : decode cX12_stockOn 110 = .ok (.isub, 1) := oc_100 shX12_stockOn_110
theorem dX12_stockOn_111 : decode cX12_stockOn 111 = .ok (.istore_n 2, 1) := oc_61 shX12_stockOn_111
theorem dX12_stockOn_112 : decode cX12_stockOn 112 = .ok (.iinc 3 1, 3) := oc_132 shX12_stockOn_112 sgb_1
theorem dX12_stockOn_115 : decode cX12_stockOn 115 = .ok (.goto (-33), 3) := oc_167 shX12_stockOn_115 sgw_255_223
theorem dX12_stockOn_118 : decode cX12_stockOn 118 = .ok (.iload_n 2, 1) := oc_28 shX12_stockOn_118
theorem dX12_stockOn_119 : decode cX12_stockOn 119 = .ok (.ireturn, 1) := oc_172 shX12_stockOn_119
noncomputable def sxX12_stock_19 : List UInt8 := []
noncomputable def sxX12_stock_18 : List UInt8 := 172 :: sxX12_stock_19
noncomputable def sxX12_stock_15 : List UInt8 := 19 :: 1 :: 212 :: sxX12_stock_18
noncomputable def sxX12_stock_12 : List UInt8 := 167 :: 0 :: 6 :: sxX12_stock_15
noncomputable def sxX12_stock_9 : List UInt8 := 182 :: 1 :: 209 :: sxX12_stock_12
noncomputable def sxX12_stock_8 : List UInt8 := 27 :: sxX12_stock_9
noncomputable def sxX12_stock_7 : List UInt8 := 42 :: sxX12_stock_8
noncomputable def sxX12_stock_4 : List UInt8 := 153 :: 0 :: 11 :: sxX12_stock_7
noncomputable def sxX12_stock_1 : List UInt8 := 184 :: 1 :: 85 :: sxX12_stock_4
noncomputable def sxX12_stock_0 : List UInt8 := 27 :: sxX12_stock_1
theorem shX12_stock_0 : cX12_stock.data.toList.drop 0 = sxX12_stock_0 := rfl
theorem shX12_stock_1 : cX12_stock.data.toList.drop 1 = sxX12_stock_1 := dSn 1 shX12_stock_0
theorem shX12_stock_4 : cX12_stock.data.toList.drop 4 = sxX12_stock_4 := dSn 3 shX12_stock_1
theorem shX12_stock_7 : cX12_stock.data.toList.drop 7 = sxX12_stock_7 := dSn 3 shX12_stock_4
theorem shX12_stock_8 : cX12_stock.data.toList.drop 8 = sxX12_stock_8 := dSn 1 shX12_stock_7
theorem shX12_stock_9 : cX12_stock.data.toList.drop 9 = sxX12_stock_9 := dSn 1 shX12_stock_8
theorem shX12_stock_12 : cX12_stock.data.toList.drop 12 = sxX12_stock_12 := dSn 3 shX12_stock_9
theorem shX12_stock_15 : cX12_stock.data.toList.drop 15 = sxX12_stock_15 := dSn 3 shX12_stock_12
theorem shX12_stock_18 : cX12_stock.data.toList.drop 18 = sxX12_stock_18 := dSn 3 shX12_stock_15
theorem dX12_stock_0 : decode cX12_stock 0 = .ok (.iload_n 1, 1) := oc_27 shX12_stock_0
theorem dX12_stock_1 : decode cX12_stock 1 = .ok (.invokestatic 341, 3) := oc_184 shX12_stock_1
theorem dX12_stock_4 : decode cX12_stock 4 = .ok (.ifCond .eq 11, 3) := oc_153 shX12_stock_4 sgw_0_11
theorem dX12_stock_7 : decode cX12_stock 7 = .ok (.aload_n 0, 1) := oc_42 shX12_stock_7
theorem dX12_stock_8 : decode cX12_stock 8 = .ok (.iload_n 1, 1) := oc_27 shX12_stock_8
theorem dX12_stock_9 : decode cX12_stock 9 = .ok (.invokevirtual 465, 3) := oc_182 shX12_stock_9
theorem dX12_stock_12 : decode cX12_stock 12 = .ok (.goto 6, 3) := oc_167 shX12_stock_12 sgw_0_6
theorem dX12_stock_15 : decode cX12_stock 15 = .ok (.ldc_w 468, 3) := oc_19 shX12_stock_15
theorem dX12_stock_18 : decode cX12_stock 18 = .ok (.ireturn, 1) := oc_172 shX12_stock_18
noncomputable def sxX12_below_45 : List UInt8 := []
noncomputable def sxX12_below_44 : List UInt8 := 172 :: sxX12_below_45
noncomputable def sxX12_below_42 : List UInt8 := 16 :: 254 :: sxX12_below_44
noncomputable def sxX12_below_39 : List UInt8 := 167 :: 255 :: 234 :: sxX12_below_42
noncomputable def sxX12_below_36 : List UInt8 := 132 :: 2 :: 1 :: sxX12_below_39
noncomputable def sxX12_below_35 : List UInt8 := 172 :: sxX12_below_36
noncomputable def sxX12_below_34 : List UInt8 := 28 :: sxX12_below_35
noncomputable def sxX12_below_31 : List UInt8 := 162 :: 0 :: 5 :: sxX12_below_34
noncomputable def sxX12_below_30 : List UInt8 := 27 :: sxX12_below_31
noncomputable def sxX12_below_27 : List UInt8 := 182 :: 1 :: 209 :: sxX12_below_30
noncomputable def sxX12_below_26 : List UInt8 := 28 :: sxX12_below_27
noncomputable def sxX12_below_25 : List UInt8 := 42 :: sxX12_below_26
noncomputable def sxX12_below_22 : List UInt8 := 163 :: 0 :: 20 :: sxX12_below_25
noncomputable def sxX12_below_19 : List UInt8 := 180 :: 0 :: 211 :: sxX12_below_22
noncomputable def sxX12_below_18 : List UInt8 := 42 :: sxX12_below_19
noncomputable def sxX12_below_17 : List UInt8 := 28 :: sxX12_below_18
noncomputable def sxX12_below_16 : List UInt8 := 61 :: sxX12_below_17
noncomputable def sxX12_below_15 : List UInt8 := 3 :: sxX12_below_16
noncomputable def sxX12_below_14 : List UInt8 := 172 :: sxX12_below_15
noncomputable def sxX12_below_13 : List UInt8 := 2 :: sxX12_below_14
noncomputable def sxX12_below_10 : List UInt8 := 154 :: 0 :: 5 :: sxX12_below_13
noncomputable def sxX12_below_7 : List UInt8 := 184 :: 0 :: 214 :: sxX12_below_10
noncomputable def sxX12_below_4 : List UInt8 := 17 :: 39 :: 16 :: sxX12_below_7
noncomputable def sxX12_below_1 : List UInt8 := 17 :: 216 :: 240 :: sxX12_below_4
noncomputable def sxX12_below_0 : List UInt8 := 27 :: sxX12_below_1
theorem shX12_below_0 : cX12_below.data.toList.drop 0 = sxX12_below_0 := rfl
theorem shX12_below_1 : cX12_below.data.toList.drop 1 = sxX12_below_1 := dSn 1 shX12_below_0
theorem shX12_below_4 : cX12_below.data.toList.drop 4 = sxX12_below_4 := dSn 3 shX12_below_1
theorem shX12_below_7 : cX12_below.data.toList.drop 7 = sxX12_below_7 := dSn 3 shX12_below_4
theorem shX12_below_10 : cX12_below.data.toList.drop 10 = sxX12_below_10 := dSn 3 shX12_below_7
theorem shX12_below_13 : cX12_below.data.toList.drop 13 = sxX12_below_13 := dSn 3 shX12_below_10
theorem shX12_below_14 : cX12_below.data.toList.drop 14 = sxX12_below_14 := dSn 1 shX12_below_13
theorem shX12_below_15 : cX12_below.data.toList.drop 15 = sxX12_below_15 := dSn 1 shX12_below_14
theorem shX12_below_16 : cX12_below.data.toList.drop 16 = sxX12_below_16 := dSn 1 shX12_below_15
theorem shX12_below_17 : cX12_below.data.toList.drop 17 = sxX12_below_17 := dSn 1 shX12_below_16
theorem shX12_below_18 : cX12_below.data.toList.drop 18 = sxX12_below_18 := dSn 1 shX12_below_17
theorem shX12_below_19 : cX12_below.data.toList.drop 19 = sxX12_below_19 := dSn 1 shX12_below_18
theorem shX12_below_22 : cX12_below.data.toList.drop 22 = sxX12_below_22 := dSn 3 shX12_below_19
theorem shX12_below_25 : cX12_below.data.toList.drop 25 = sxX12_below_25 := dSn 3 shX12_below_22
theorem shX12_below_26 : cX12_below.data.toList.drop 26 = sxX12_below_26 := dSn 1 shX12_below_25
theorem shX12_below_27 : cX12_below.data.toList.drop 27 = sxX12_below_27 := dSn 1 shX12_below_26
theorem shX12_below_30 : cX12_below.data.toList.drop 30 = sxX12_below_30 := dSn 3 shX12_below_27
theorem shX12_below_31 : cX12_below.data.toList.drop 31 = sxX12_below_31 := dSn 1 shX12_below_30
theorem shX12_below_34 : cX12_below.data.toList.drop 34 = sxX12_below_34 := dSn 3 shX12_below_31
theorem shX12_below_35 : cX12_below.data.toList.drop 35 = sxX12_below_35 := dSn 1 shX12_below_34
theorem shX12_below_36 : cX12_below.data.toList.drop 36 = sxX12_below_36 := dSn 1 shX12_below_35
theorem shX12_below_39 : cX12_below.data.toList.drop 39 = sxX12_below_39 := dSn 3 shX12_below_36
theorem shX12_below_42 : cX12_below.data.toList.drop 42 = sxX12_below_42 := dSn 3 shX12_below_39
theorem shX12_below_44 : cX12_below.data.toList.drop 44 = sxX12_below_44 := dSn 2 shX12_below_42
theorem dX12_below_0 : decode cX12_below 0 = .ok (.iload_n 1, 1) := oc_27 shX12_below_0
theorem dX12_below_1 : decode cX12_below 1 = .ok (.sipush (-10000), 3) := oc_17 shX12_below_1 sgw_216_240
theorem dX12_below_4 : decode cX12_below 4 = .ok (.sipush 10000, 3) := oc_17 shX12_below_4 sgw_39_16
theorem dX12_below_7 : decode cX12_below 7 = .ok (.invokestatic 214, 3) := oc_184 shX12_below_7
theorem dX12_below_10 : decode cX12_below 10 = .ok (.ifCond .ne 5, 3) := oc_154 shX12_below_10 sgw_0_5
theorem dX12_below_13 : decode cX12_below 13 = .ok (.iconst (-1), 1) := oc_2 shX12_below_13
theorem dX12_below_14 : decode cX12_below 14 = .ok (.ireturn, 1) := oc_172 shX12_below_14
theorem dX12_below_15 : decode cX12_below 15 = .ok (.iconst 0, 1) := oc_3 shX12_below_15
theorem dX12_below_16 : decode cX12_below 16 = .ok (.istore_n 2, 1) := oc_61 shX12_below_16
theorem dX12_below_17 : decode cX12_below 17 = .ok (.iload_n 2, 1) := oc_28 shX12_below_17
theorem dX12_below_18 : decode cX12_below 18 = .ok (.aload_n 0, 1) := oc_42 shX12_below_18
theorem dX12_below_19 : decode cX12_below 19 = .ok (.getfield 211, 3) := oc_180 shX12_below_19
theorem dX12_below_22 : decode cX12_below 22 = .ok (.if_icmp .gt 20, 3) := oc_163 shX12_below_22 sgw_0_20
theorem dX12_below_25 : decode cX12_below 25 = .ok (.aload_n 0, 1) := oc_42 shX12_below_25
theorem dX12_below_26 : decode cX12_below 26 = .ok (.iload_n 2, 1) := oc_28 shX12_below_26
theorem dX12_below_27 : decode cX12_below 27 = .ok (.invokevirtual 465, 3) := oc_182 shX12_below_27
theorem dX12_below_30 : decode cX12_below 30 = .ok (.iload_n 1, 1) := oc_27 shX12_below_30
theorem dX12_below_31 : decode cX12_below 31 = .ok (.if_icmp .ge 5, 3) := oc_162 shX12_below_31 sgw_0_5
theorem dX12_below_34 : decode cX12_below 34 = .ok (.iload_n 2, 1) := oc_28 shX12_below_34
theorem dX12_below_35 : decode cX12_below 35 = .ok (.ireturn, 1) := oc_172 shX12_below_35
theorem dX12_below_36 : decode cX12_below 36 = .ok (.iinc 2 1, 3) := oc_132 shX12_below_36 sgb_1
theorem dX12_below_39 : decode cX12_below 39 = .ok (.goto (-22), 3) := oc_167 shX12_below_39 sgw_255_234
theorem dX12_below_42 : decode cX12_below 42 = .ok (.bipush (-2), 2) := oc_16 shX12_below_42 sgb_254
theorem dX12_below_44 : decode cX12_below 44 = .ok (.ireturn, 1) := oc_172 shX12_below_44
noncomputable def sxX12_offers_48 : List UInt8 := []
noncomputable def sxX12_offers_47 : List UInt8 := 172 :: sxX12_offers_48
noncomputable def sxX12_offers_46 : List UInt8 := 4 :: sxX12_offers_47
noncomputable def sxX12_offers_45 : List UInt8 := 79 :: sxX12_offers_46
noncomputable def sxX12_offers_44 : List UInt8 := 29 :: sxX12_offers_45
noncomputable def sxX12_offers_43 : List UInt8 := 27 :: sxX12_offers_44
noncomputable def sxX12_offers_40 : List UInt8 := 180 :: 0 :: 186 :: sxX12_offers_43
noncomputable def sxX12_offers_39 : List UInt8 := 42 :: sxX12_offers_40
noncomputable def sxX12_offers_38 : List UInt8 := 79 :: sxX12_offers_39
noncomputable def sxX12_offers_37 : List UInt8 := 28 :: sxX12_offers_38
noncomputable def sxX12_offers_36 : List UInt8 := 27 :: sxX12_offers_37
noncomputable def sxX12_offers_33 : List UInt8 := 180 :: 0 :: 183 :: sxX12_offers_36
noncomputable def sxX12_offers_32 : List UInt8 := 42 :: sxX12_offers_33
noncomputable def sxX12_offers_31 : List UInt8 := 172 :: sxX12_offers_32
noncomputable def sxX12_offers_30 : List UInt8 := 3 :: sxX12_offers_31
noncomputable def sxX12_offers_27 : List UInt8 := 154 :: 0 :: 5 :: sxX12_offers_30
noncomputable def sxX12_offers_24 : List UInt8 := 184 :: 0 :: 214 :: sxX12_offers_27
noncomputable def sxX12_offers_21 : List UInt8 := 17 :: 0 :: 200 :: sxX12_offers_24
noncomputable def sxX12_offers_20 : List UInt8 := 3 :: sxX12_offers_21
noncomputable def sxX12_offers_19 : List UInt8 := 29 :: sxX12_offers_20
noncomputable def sxX12_offers_16 : List UInt8 := 153 :: 0 :: 14 :: sxX12_offers_19
noncomputable def sxX12_offers_13 : List UInt8 := 184 :: 0 :: 214 :: sxX12_offers_16
noncomputable def sxX12_offers_10 : List UInt8 := 17 :: 0 :: 200 :: sxX12_offers_13
noncomputable def sxX12_offers_9 : List UInt8 := 3 :: sxX12_offers_10
noncomputable def sxX12_offers_8 : List UInt8 := 28 :: sxX12_offers_9
noncomputable def sxX12_offers_5 : List UInt8 := 153 :: 0 :: 25 :: sxX12_offers_8
noncomputable def sxX12_offers_2 : List UInt8 := 182 :: 0 :: 218 :: sxX12_offers_5
noncomputable def sxX12_offers_1 : List UInt8 := 27 :: sxX12_offers_2
noncomputable def sxX12_offers_0 : List UInt8 := 42 :: sxX12_offers_1
theorem shX12_offers_0 : cX12_offers.data.toList.drop 0 = sxX12_offers_0 := rfl
theorem shX12_offers_1 : cX12_offers.data.toList.drop 1 = sxX12_offers_1 := dSn 1 shX12_offers_0
theorem shX12_offers_2 : cX12_offers.data.toList.drop 2 = sxX12_offers_2 := dSn 1 shX12_offers_1
theorem shX12_offers_5 : cX12_offers.data.toList.drop 5 = sxX12_offers_5 := dSn 3 shX12_offers_2
theorem shX12_offers_8 : cX12_offers.data.toList.drop 8 = sxX12_offers_8 := dSn 3 shX12_offers_5
theorem shX12_offers_9 : cX12_offers.data.toList.drop 9 = sxX12_offers_9 := dSn 1 shX12_offers_8
theorem shX12_offers_10 : cX12_offers.data.toList.drop 10 = sxX12_offers_10 := dSn 1 shX12_offers_9
theorem shX12_offers_13 : cX12_offers.data.toList.drop 13 = sxX12_offers_13 := dSn 3 shX12_offers_10
theorem shX12_offers_16 : cX12_offers.data.toList.drop 16 = sxX12_offers_16 := dSn 3 shX12_offers_13
theorem shX12_offers_19 : cX12_offers.data.toList.drop 19 = sxX12_offers_19 := dSn 3 shX12_offers_16
theorem shX12_offers_20 : cX12_offers.data.toList.drop 20 = sxX12_offers_20 := dSn 1 shX12_offers_19
theorem shX12_offers_21 : cX12_offers.data.toList.drop 21 = sxX12_offers_21 := dSn 1 shX12_offers_20
theorem shX12_offers_24 : cX12_offers.data.toList.drop 24 = sxX12_offers_24 := dSn 3 shX12_offers_21
theorem shX12_offers_27 : cX12_offers.data.toList.drop 27 = sxX12_offers_27 := dSn 3 shX12_offers_24
theorem shX12_offers_30 : cX12_offers.data.toList.drop 30 = sxX12_offers_30 := dSn 3 shX12_offers_27
theorem shX12_offers_31 : cX12_offers.data.toList.drop 31 = sxX12_offers_31 := dSn 1 shX12_offers_30
theorem shX12_offers_32 : cX12_offers.data.toList.drop 32 = sxX12_offers_32 := dSn 1 shX12_offers_31
theorem shX12_offers_33 : cX12_offers.data.toList.drop 33 = sxX12_offers_33 := dSn 1 shX12_offers_32
theorem shX12_offers_36 : cX12_offers.data.toList.drop 36 = sxX12_offers_36 := dSn 3 shX12_offers_33
theorem shX12_offers_37 : cX12_offers.data.toList.drop 37 = sxX12_offers_37 := dSn 1 shX12_offers_36
theorem shX12_offers_38 : cX12_offers.data.toList.drop 38 = sxX12_offers_38 := dSn 1 shX12_offers_37
theorem shX12_offers_39 : cX12_offers.data.toList.drop 39 = sxX12_offers_39 := dSn 1 shX12_offers_38
theorem shX12_offers_40 : cX12_offers.data.toList.drop 40 = sxX12_offers_40 := dSn 1 shX12_offers_39
theorem shX12_offers_43 : cX12_offers.data.toList.drop 43 = sxX12_offers_43 := dSn 3 shX12_offers_40
theorem shX12_offers_44 : cX12_offers.data.toList.drop 44 = sxX12_offers_44 := dSn 1 shX12_offers_43
theorem shX12_offers_45 : cX12_offers.data.toList.drop 45 = sxX12_offers_45 := dSn 1 shX12_offers_44
theorem shX12_offers_46 : cX12_offers.data.toList.drop 46 = sxX12_offers_46 := dSn 1 shX12_offers_45
theorem shX12_offers_47 : cX12_offers.data.toList.drop 47 = sxX12_offers_47 := dSn 1 shX12_offers_46
theorem dX12_offers_0 : decode cX12_offers 0 = .ok (.aload_n 0, 1) := oc_42 shX12_offers_0
theorem dX12_offers_1 : decode cX12_offers 1 = .ok (.iload_n 1, 1) := oc_27 shX12_offers_1
theorem dX12_offers_2 : decode cX12_offers 2 = .ok (.invokevirtual 218, 3) := oc_182 shX12_offers_2
theorem dX12_offers_5 : decode cX12_offers 5 = .ok (.ifCond .eq 25, 3) := oc_153 shX12_offers_5 sgw_0_25
theorem dX12_offers_8 : decode cX12_offers 8 = .ok (.iload_n 2, 1) := oc_28 shX12_offers_8
theorem dX12_offers_9 : decode cX12_offers 9 = .ok (.iconst 0, 1) := oc_3 shX12_offers_9
theorem dX12_offers_10 : decode cX12_offers 10 = .ok (.sipush 200, 3) := oc_17 shX12_offers_10 sgw_0_200
theorem dX12_offers_13 : decode cX12_offers 13 = .ok (.invokestatic 214, 3) := oc_184 shX12_offers_13
theorem dX12_offers_16 : decode cX12_offers 16 = .ok (.ifCond .eq 14, 3) := oc_153 shX12_offers_16 sgw_0_14
theorem dX12_offers_19 : decode cX12_offers 19 = .ok (.iload_n 3, 1) := oc_29 shX12_offers_19
theorem dX12_offers_20 : decode cX12_offers 20 = .ok (.iconst 0, 1) := oc_3 shX12_offers_20
theorem dX12_offers_21 : decode cX12_offers 21 = .ok (.sipush 200, 3) := oc_17 shX12_offers_21 sgw_0_200
theorem dX12_offers_24 : decode cX12_offers 24 = .ok (.invokestatic 214, 3) := oc_184 shX12_offers_24
theorem dX12_offers_27 : decode cX12_offers 27 = .ok (.ifCond .ne 5, 3) := oc_154 shX12_offers_27 sgw_0_5
theorem dX12_offers_30 : decode cX12_offers 30 = .ok (.iconst 0, 1) := oc_3 shX12_offers_30
theorem dX12_offers_31 : decode cX12_offers 31 = .ok (.ireturn, 1) := oc_172 shX12_offers_31
theorem dX12_offers_32 : decode cX12_offers 32 = .ok (.aload_n 0, 1) := oc_42 shX12_offers_32
theorem dX12_offers_33 : decode cX12_offers 33 = .ok (.getfield 183, 3) := oc_180 shX12_offers_33
theorem dX12_offers_36 : decode cX12_offers 36 = .ok (.iload_n 1, 1) := oc_27 shX12_offers_36
theorem dX12_offers_37 : decode cX12_offers 37 = .ok (.iload_n 2, 1) := oc_28 shX12_offers_37
theorem dX12_offers_38 : decode cX12_offers 38 = .ok (.iastore, 1) := oc_79 shX12_offers_38
theorem dX12_offers_39 : decode cX12_offers 39 = .ok (.aload_n 0, 1) := oc_42 shX12_offers_39
theorem dX12_offers_40 : decode cX12_offers 40 = .ok (.getfield 186, 3) := oc_180 shX12_offers_40
theorem dX12_offers_43 : decode cX12_offers 43 = .ok (.iload_n 1, 1) := oc_27 shX12_offers_43
theorem dX12_offers_44 : decode cX12_offers 44 = .ok (.iload_n 3, 1) := oc_29 shX12_offers_44
theorem dX12_offers_45 : decode cX12_offers 45 = .ok (.iastore, 1) := oc_79 shX12_offers_45
theorem dX12_offers_46 : decode cX12_offers 46 = .ok (.iconst 1, 1) := oc_4 shX12_offers_46
theorem dX12_offers_47 : decode cX12_offers 47 = .ok (.ireturn, 1) := oc_172 shX12_offers_47
noncomputable def sxX12_comers_50 : List UInt8 := []
noncomputable def sxX12_comers_49 : List UInt8 := 172 :: sxX12_comers_50
noncomputable def sxX12_comers_48 : List UInt8 := 28 :: sxX12_comers_49
noncomputable def sxX12_comers_45 : List UInt8 := 167 :: 255 :: 215 :: sxX12_comers_48
noncomputable def sxX12_comers_42 : List UInt8 := 132 :: 3 :: 1 :: sxX12_comers_45
noncomputable def sxX12_comers_41 : List UInt8 := 61 :: sxX12_comers_42
noncomputable def sxX12_comers_40 : List UInt8 := 28 :: sxX12_comers_41
noncomputable def sxX12_comers_37 : List UInt8 := 167 :: 0 :: 4 :: sxX12_comers_40
noncomputable def sxX12_comers_36 : List UInt8 := 128 :: sxX12_comers_37
noncomputable def sxX12_comers_35 : List UInt8 := 120 :: sxX12_comers_36
noncomputable def sxX12_comers_34 : List UInt8 := 29 :: sxX12_comers_35
noncomputable def sxX12_comers_33 : List UInt8 := 4 :: sxX12_comers_34
noncomputable def sxX12_comers_32 : List UInt8 := 28 :: sxX12_comers_33
noncomputable def sxX12_comers_29 : List UInt8 := 163 :: 0 :: 11 :: sxX12_comers_32
noncomputable def sxX12_comers_28 : List UInt8 := 27 :: sxX12_comers_29
noncomputable def sxX12_comers_27 : List UInt8 := 46 :: sxX12_comers_28
noncomputable def sxX12_comers_26 : List UInt8 := 29 :: sxX12_comers_27
noncomputable def sxX12_comers_23 : List UInt8 := 180 :: 0 :: 186 :: sxX12_comers_26
noncomputable def sxX12_comers_22 : List UInt8 := 42 :: sxX12_comers_23
noncomputable def sxX12_comers_19 : List UInt8 := 163 :: 0 :: 21 :: sxX12_comers_22
noncomputable def sxX12_comers_18 : List UInt8 := 27 :: sxX12_comers_19
noncomputable def sxX12_comers_17 : List UInt8 := 46 :: sxX12_comers_18
noncomputable def sxX12_comers_16 : List UInt8 := 29 :: sxX12_comers_17
noncomputable def sxX12_comers_13 : List UInt8 := 180 :: 0 :: 183 :: sxX12_comers_16
noncomputable def sxX12_comers_12 : List UInt8 := 42 :: sxX12_comers_13
noncomputable def sxX12_comers_9 : List UInt8 := 162 :: 0 :: 39 :: sxX12_comers_12
noncomputable def sxX12_comers_6 : List UInt8 := 180 :: 0 :: 204 :: sxX12_comers_9
noncomputable def sxX12_comers_5 : List UInt8 := 42 :: sxX12_comers_6
noncomputable def sxX12_comers_4 : List UInt8 := 29 :: sxX12_comers_5
noncomputable def sxX12_comers_3 : List UInt8 := 62 :: sxX12_comers_4
noncomputable def sxX12_comers_2 : List UInt8 := 3 :: sxX12_comers_3
noncomputable def sxX12_comers_1 : List UInt8 := 61 :: sxX12_comers_2
noncomputable def sxX12_comers_0 : List UInt8 := 3 :: sxX12_comers_1
theorem shX12_comers_0 : cX12_comers.data.toList.drop 0 = sxX12_comers_0 := rfl
theorem shX12_comers_1 : cX12_comers.data.toList.drop 1 = sxX12_comers_1 := dSn 1 shX12_comers_0
theorem shX12_comers_2 : cX12_comers.data.toList.drop 2 = sxX12_comers_2 := dSn 1 shX12_comers_1
theorem shX12_comers_3 : cX12_comers.data.toList.drop 3 = sxX12_comers_3 := dSn 1 shX12_comers_2
theorem shX12_comers_4 : cX12_comers.data.toList.drop 4 = sxX12_comers_4 := dSn 1 shX12_comers_3
theorem shX12_comers_5 : cX12_comers.data.toList.drop 5 = sxX12_comers_5 := dSn 1 shX12_comers_4
theorem shX12_comers_6 : cX12_comers.data.toList.drop 6 = sxX12_comers_6 := dSn 1 shX12_comers_5
theorem shX12_comers_9 : cX12_comers.data.toList.drop 9 = sxX12_comers_9 := dSn 3 shX12_comers_6
theorem shX12_comers_12 : cX12_comers.data.toList.drop 12 = sxX12_comers_12 := dSn 3 shX12_comers_9
theorem shX12_comers_13 : cX12_comers.data.toList.drop 13 = sxX12_comers_13 := dSn 1 shX12_comers_12
theorem shX12_comers_16 : cX12_comers.data.toList.drop 16 = sxX12_comers_16 := dSn 3 shX12_comers_13
theorem shX12_comers_17 : cX12_comers.data.toList.drop 17 = sxX12_comers_17 := dSn 1 shX12_comers_16
theorem shX12_comers_18 : cX12_comers.data.toList.drop 18 = sxX12_comers_18 := dSn 1 shX12_comers_17
theorem shX12_comers_19 : cX12_comers.data.toList.drop 19 = sxX12_comers_19 := dSn 1 shX12_comers_18
theorem shX12_comers_22 : cX12_comers.data.toList.drop 22 = sxX12_comers_22 := dSn 3 shX12_comers_19
theorem shX12_comers_23 : cX12_comers.data.toList.drop 23 = sxX12_comers_23 := dSn 1 shX12_comers_22
theorem shX12_comers_26 : cX12_comers.data.toList.drop 26 = sxX12_comers_26 := dSn 3 shX12_comers_23
theorem shX12_comers_27 : cX12_comers.data.toList.drop 27 = sxX12_comers_27 := dSn 1 shX12_comers_26
theorem shX12_comers_28 : cX12_comers.data.toList.drop 28 = sxX12_comers_28 := dSn 1 shX12_comers_27
theorem shX12_comers_29 : cX12_comers.data.toList.drop 29 = sxX12_comers_29 := dSn 1 shX12_comers_28
theorem shX12_comers_32 : cX12_comers.data.toList.drop 32 = sxX12_comers_32 := dSn 3 shX12_comers_29
theorem shX12_comers_33 : cX12_comers.data.toList.drop 33 = sxX12_comers_33 := dSn 1 shX12_comers_32
theorem shX12_comers_34 : cX12_comers.data.toList.drop 34 = sxX12_comers_34 := dSn 1 shX12_comers_33
theorem shX12_comers_35 : cX12_comers.data.toList.drop 35 = sxX12_comers_35 := dSn 1 shX12_comers_34
theorem shX12_comers_36 : cX12_comers.data.toList.drop 36 = sxX12_comers_36 := dSn 1 shX12_comers_35
theorem shX12_comers_37 : cX12_comers.data.toList.drop 37 = sxX12_comers_37 := dSn 1 shX12_comers_36
theorem shX12_comers_40 : cX12_comers.data.toList.drop 40 = sxX12_comers_40 := dSn 3 shX12_comers_37
theorem shX12_comers_41 : cX12_comers.data.toList.drop 41 = sxX12_comers_41 := dSn 1 shX12_comers_40
theorem shX12_comers_42 : cX12_comers.data.toList.drop 42 = sxX12_comers_42 := dSn 1 shX12_comers_41
theorem shX12_comers_45 : cX12_comers.data.toList.drop 45 = sxX12_comers_45 := dSn 3 shX12_comers_42
theorem shX12_comers_48 : cX12_comers.data.toList.drop 48 = sxX12_comers_48 := dSn 3 shX12_comers_45
theorem shX12_comers_49 : cX12_comers.data.toList.drop 49 = sxX12_comers_49 := dSn 1 shX12_comers_48
theorem dX12_comers_0 : decode cX12_comers 0 = .ok (.iconst 0, 1) := oc_3 shX12_comers_0
theorem dX12_comers_1 : decode cX12_comers 1 = .ok (.istore_n 2, 1) := oc_61 shX12_comers_1
theorem dX12_comers_2 : decode cX12_comers 2 = .ok (.iconst 0, 1) := oc_3 shX12_comers_2
theorem dX12_comers_3 : decode cX12_comers 3 = .ok (.istore_n 3, 1) := oc_62 shX12_comers_3
theorem dX12_comers_4 : decode cX12_comers 4 = .ok (.iload_n 3, 1) := oc_29 shX12_comers_4
theorem dX12_comers_5 : decode cX12_comers 5 = .ok (.aload_n 0, 1) := oc_42 shX12_comers_5
theorem dX12_comers_6 : decode cX12_comers 6 = .ok (.getfield 204, 3) := oc_180 shX12_comers_6
theorem dX12_comers_9 : decode cX12_comers 9 = .ok (.if_icmp .ge 39, 3) := oc_162 shX12_comers_9 sgw_0_39
theorem dX12_comers_12 : decode cX12_comers 12 = .ok (.aload_n 0, 1) := oc_42 shX12_comers_12
theorem dX12_comers_13 : decode cX12_comers 13 = .ok (.getfield 183, 3) := oc_180 shX12_comers_13
theorem dX12_comers_16 : decode cX12_comers 16 = .ok (.iload_n 3, 1) := oc_29 shX12_comers_16
theorem dX12_comers_17 : decode cX12_comers 17 = .ok (.iaload, 1) := oc_46 shX12_comers_17
theorem dX12_comers_18 : decode cX12_comers 18 = .ok (.iload_n 1, 1) := oc_27 shX12_comers_18
theorem dX12_comers_19 : decode cX12_comers 19 = .ok (.if_icmp .gt 21, 3) := oc_163 shX12_comers_19 sgw_0_21
theorem dX12_comers_22 : decode cX12_comers 22 = .ok (.aload_n 0, 1) := oc_42 shX12_comers_22
theorem dX12_comers_23 : decode cX12_comers 23 = .ok (.getfield 186, 3) := oc_180 shX12_comers_23
theorem dX12_comers_26 : decode cX12_comers 26 = .ok (.iload_n 3, 1) := oc_29 shX12_comers_26
theorem dX12_comers_27 : decode cX12_comers 27 = .ok (.iaload, 1) := oc_46 shX12_comers_27
theorem dX12_comers_28 : decode cX12_comers 28 = .ok (.iload_n 1, 1) := oc_27 shX12_comers_28
theorem dX12_comers_29 : decode cX12_comers 29 = .ok (.if_icmp .gt 11, 3) := oc_163 shX12_comers_29 sgw_0_11
theorem dX12_comers_32 : decode cX12_comers 32 = .ok (.iload_n 2, 1) := oc_28 shX12_comers_32
theorem dX12_comers_33 : decode cX12_comers 33 = .ok (.iconst 1, 1) := oc_4 shX12_comers_33
theorem dX12_comers_34 : decode cX12_comers 34 = .ok (.iload_n 3, 1) := oc_29 shX12_comers_34
theorem dX12_comers_35 : decode cX12_comers 35 = .ok (.ishl, 1) := oc_120 shX12_comers_35
theorem dX12_comers_36 : decode cX12_comers 36 = .ok (.ior, 1) := oc_128 shX12_comers_36
theorem dX12_comers_37 : decode cX12_comers 37 = .ok (.goto 4, 3) := oc_167 shX12_comers_37 sgw_0_4
theorem dX12_comers_40 : decode cX12_comers 40 = .ok (.iload_n 2, 1) := oc_28 shX12_comers_40
theorem dX12_comers_41 : decode cX12_comers 41 = .ok (.istore_n 2, 1) := oc_61 shX12_comers_41
theorem dX12_comers_42 : decode cX12_comers 42 = .ok (.iinc 3 1, 3) := oc_132 shX12_comers_42 sgb_1
theorem dX12_comers_45 : decode cX12_comers 45 = .ok (.goto (-41), 3) := oc_167 shX12_comers_45 sgw_255_215
theorem dX12_comers_48 : decode cX12_comers 48 = .ok (.iload_n 2, 1) := oc_28 shX12_comers_48
theorem dX12_comers_49 : decode cX12_comers 49 = .ok (.ireturn, 1) := oc_172 shX12_comers_49
noncomputable def sxX12_worthOf_53 : List UInt8 := []
noncomputable def sxX12_worthOf_52 : List UInt8 := 172 :: sxX12_worthOf_53
noncomputable def sxX12_worthOf_50 : List UInt8 := 21 :: 4 :: sxX12_worthOf_52
noncomputable def sxX12_worthOf_47 : List UInt8 := 167 :: 255 :: 221 :: sxX12_worthOf_50
noncomputable def sxX12_worthOf_44 : List UInt8 := 132 :: 5 :: 1 :: sxX12_worthOf_47
noncomputable def sxX12_worthOf_42 : List UInt8 := 54 :: 4 :: sxX12_worthOf_44
noncomputable def sxX12_worthOf_41 : List UInt8 := 96 :: sxX12_worthOf_42
noncomputable def sxX12_worthOf_40 : List UInt8 := 104 :: sxX12_worthOf_41
noncomputable def sxX12_worthOf_39 : List UInt8 := 100 :: sxX12_worthOf_40
noncomputable def sxX12_worthOf_38 : List UInt8 := 27 :: sxX12_worthOf_39
noncomputable def sxX12_worthOf_37 : List UInt8 := 28 :: sxX12_worthOf_38
noncomputable def sxX12_worthOf_36 : List UInt8 := 104 :: sxX12_worthOf_37
noncomputable def sxX12_worthOf_35 : List UInt8 := 46 :: sxX12_worthOf_36
noncomputable def sxX12_worthOf_33 : List UInt8 := 21 :: 5 :: sxX12_worthOf_35
noncomputable def sxX12_worthOf_30 : List UInt8 := 180 :: 0 :: 16 :: sxX12_worthOf_33
noncomputable def sxX12_worthOf_29 : List UInt8 := 42 :: sxX12_worthOf_30
noncomputable def sxX12_worthOf_28 : List UInt8 := 126 :: sxX12_worthOf_29
noncomputable def sxX12_worthOf_27 : List UInt8 := 4 :: sxX12_worthOf_28
noncomputable def sxX12_worthOf_26 : List UInt8 := 122 :: sxX12_worthOf_27
noncomputable def sxX12_worthOf_24 : List UInt8 := 21 :: 5 :: sxX12_worthOf_26
noncomputable def sxX12_worthOf_23 : List UInt8 := 29 :: sxX12_worthOf_24
noncomputable def sxX12_worthOf_21 : List UInt8 := 21 :: 4 :: sxX12_worthOf_23
noncomputable def sxX12_worthOf_18 : List UInt8 := 162 :: 0 :: 32 :: sxX12_worthOf_21
noncomputable def sxX12_worthOf_15 : List UInt8 := 180 :: 0 :: 204 :: sxX12_worthOf_18
noncomputable def sxX12_worthOf_14 : List UInt8 := 42 :: sxX12_worthOf_15
noncomputable def sxX12_worthOf_12 : List UInt8 := 21 :: 5 :: sxX12_worthOf_14
noncomputable def sxX12_worthOf_10 : List UInt8 := 54 :: 5 :: sxX12_worthOf_12
noncomputable def sxX12_worthOf_9 : List UInt8 := 3 :: sxX12_worthOf_10
noncomputable def sxX12_worthOf_7 : List UInt8 := 54 :: 4 :: sxX12_worthOf_9
noncomputable def sxX12_worthOf_6 : List UInt8 := 3 :: sxX12_worthOf_7
noncomputable def sxX12_worthOf_5 : List UInt8 := 62 :: sxX12_worthOf_6
noncomputable def sxX12_worthOf_2 : List UInt8 := 182 :: 1 :: 213 :: sxX12_worthOf_5
noncomputable def sxX12_worthOf_1 : List UInt8 := 27 :: sxX12_worthOf_2
noncomputable def sxX12_worthOf_0 : List UInt8 := 42 :: sxX12_worthOf_1
theorem shX12_worthOf_0 : cX12_worthOf.data.toList.drop 0 = sxX12_worthOf_0 := rfl
theorem shX12_worthOf_1 : cX12_worthOf.data.toList.drop 1 = sxX12_worthOf_1 := dSn 1 shX12_worthOf_0
theorem shX12_worthOf_2 : cX12_worthOf.data.toList.drop 2 = sxX12_worthOf_2 := dSn 1 shX12_worthOf_1
theorem shX12_worthOf_5 : cX12_worthOf.data.toList.drop 5 = sxX12_worthOf_5 := dSn 3 shX12_worthOf_2
theorem shX12_worthOf_6 : cX12_worthOf.data.toList.drop 6 = sxX12_worthOf_6 := dSn 1 shX12_worthOf_5
theorem shX12_worthOf_7 : cX12_worthOf.data.toList.drop 7 = sxX12_worthOf_7 := dSn 1 shX12_worthOf_6
theorem shX12_worthOf_9 : cX12_worthOf.data.toList.drop 9 = sxX12_worthOf_9 := dSn 2 shX12_worthOf_7
theorem shX12_worthOf_10 : cX12_worthOf.data.toList.drop 10 = sxX12_worthOf_10 := dSn 1 shX12_worthOf_9
theorem shX12_worthOf_12 : cX12_worthOf.data.toList.drop 12 = sxX12_worthOf_12 := dSn 2 shX12_worthOf_10
theorem shX12_worthOf_14 : cX12_worthOf.data.toList.drop 14 = sxX12_worthOf_14 := dSn 2 shX12_worthOf_12
theorem shX12_worthOf_15 : cX12_worthOf.data.toList.drop 15 = sxX12_worthOf_15 := dSn 1 shX12_worthOf_14
theorem shX12_worthOf_18 : cX12_worthOf.data.toList.drop 18 = sxX12_worthOf_18 := dSn 3 shX12_worthOf_15
theorem shX12_worthOf_21 : cX12_worthOf.data.toList.drop 21 = sxX12_worthOf_21 := dSn 3 shX12_worthOf_18
theorem shX12_worthOf_23 : cX12_worthOf.data.toList.drop 23 = sxX12_worthOf_23 := dSn 2 shX12_worthOf_21
theorem shX12_worthOf_24 : cX12_worthOf.data.toList.drop 24 = sxX12_worthOf_24 := dSn 1 shX12_worthOf_23
theorem shX12_worthOf_26 : cX12_worthOf.data.toList.drop 26 = sxX12_worthOf_26 := dSn 2 shX12_worthOf_24
theorem shX12_worthOf_27 : cX12_worthOf.data.toList.drop 27 = sxX12_worthOf_27 := dSn 1 shX12_worthOf_26
theorem shX12_worthOf_28 : cX12_worthOf.data.toList.drop 28 = sxX12_worthOf_28 := dSn 1 shX12_worthOf_27
theorem shX12_worthOf_29 : cX12_worthOf.data.toList.drop 29 = sxX12_worthOf_29 := dSn 1 shX12_worthOf_28
theorem shX12_worthOf_30 : cX12_worthOf.data.toList.drop 30 = sxX12_worthOf_30 := dSn 1 shX12_worthOf_29
theorem shX12_worthOf_33 : cX12_worthOf.data.toList.drop 33 = sxX12_worthOf_33 := dSn 3 shX12_worthOf_30
theorem shX12_worthOf_35 : cX12_worthOf.data.toList.drop 35 = sxX12_worthOf_35 := dSn 2 shX12_worthOf_33
theorem shX12_worthOf_36 : cX12_worthOf.data.toList.drop 36 = sxX12_worthOf_36 := dSn 1 shX12_worthOf_35
theorem shX12_worthOf_37 : cX12_worthOf.data.toList.drop 37 = sxX12_worthOf_37 := dSn 1 shX12_worthOf_36
theorem shX12_worthOf_38 : cX12_worthOf.data.toList.drop 38 = sxX12_worthOf_38 := dSn 1 shX12_worthOf_37
theorem shX12_worthOf_39 : cX12_worthOf.data.toList.drop 39 = sxX12_worthOf_39 := dSn 1 shX12_worthOf_38
theorem shX12_worthOf_40 : cX12_worthOf.data.toList.drop 40 = sxX12_worthOf_40 := dSn 1 shX12_worthOf_39
theorem shX12_worthOf_41 : cX12_worthOf.data.toList.drop 41 = sxX12_worthOf_41 := dSn 1 shX12_worthOf_40
theorem shX12_worthOf_42 : cX12_worthOf.data.toList.drop 42 = sxX12_worthOf_42 := dSn 1 shX12_worthOf_41
theorem shX12_worthOf_44 : cX12_worthOf.data.toList.drop 44 = sxX12_worthOf_44 := dSn 2 shX12_worthOf_42
theorem shX12_worthOf_47 : cX12_worthOf.data.toList.drop 47 = sxX12_worthOf_47 := dSn 3 shX12_worthOf_44
theorem shX12_worthOf_50 : cX12_worthOf.data.toList.drop 50 = sxX12_worthOf_50 := dSn 3 shX12_worthOf_47
theorem shX12_worthOf_52 : cX12_worthOf.data.toList.drop 52 = sxX12_worthOf_52 := dSn 2 shX12_worthOf_50
theorem dX12_worthOf_0 : decode cX12_worthOf 0 = .ok (.aload_n 0, 1) := oc_42 shX12_worthOf_0
theorem dX12_worthOf_1 : decode cX12_worthOf 1 = .ok (.iload_n 1, 1) := oc_27 shX12_worthOf_1
theorem dX12_worthOf_2 : decode cX12_worthOf 2 = .ok (.invokevirtual 469, 3) := oc_182 shX12_worthOf_2
theorem dX12_worthOf_5 : decode cX12_worthOf 5 = .ok (.istore_n 3, 1) := oc_62 shX12_worthOf_5
theorem dX12_worthOf_6 : decode cX12_worthOf 6 = .ok (.iconst 0, 1) := oc_3 shX12_worthOf_6
theorem dX12_worthOf_7 : decode cX12_worthOf 7 = .ok (.istore 4, 2) := oc_54 shX12_worthOf_7
theorem dX12_worthOf_9 : decode cX12_worthOf 9 = .ok (.iconst 0, 1) := oc_3 shX12_worthOf_9
theorem dX12_worthOf_10 : decode cX12_worthOf 10 = .ok (.istore 5, 2) := oc_54 shX12_worthOf_10
theorem dX12_worthOf_12 : decode cX12_worthOf 12 = .ok (.iload 5, 2) := oc_21 shX12_worthOf_12
theorem dX12_worthOf_14 : decode cX12_worthOf 14 = .ok (.aload_n 0, 1) := oc_42 shX12_worthOf_14
theorem dX12_worthOf_15 : decode cX12_worthOf 15 = .ok (.getfield 204, 3) := oc_180 shX12_worthOf_15
theorem dX12_worthOf_18 : decode cX12_worthOf 18 = .ok (.if_icmp .ge 32, 3) := oc_162 shX12_worthOf_18 sgw_0_32
theorem dX12_worthOf_21 : decode cX12_worthOf 21 = .ok (.iload 4, 2) := oc_21 shX12_worthOf_21
theorem dX12_worthOf_23 : decode cX12_worthOf 23 = .ok (.iload_n 3, 1) := oc_29 shX12_worthOf_23
theorem dX12_worthOf_24 : decode cX12_worthOf 24 = .ok (.iload 5, 2) := oc_21 shX12_worthOf_24
theorem dX12_worthOf_26 : decode cX12_worthOf 26 = .ok (.ishr, 1) := oc_122 shX12_worthOf_26
theorem dX12_worthOf_27 : decode cX12_worthOf 27 = .ok (.iconst 1, 1) := oc_4 shX12_worthOf_27
theorem dX12_worthOf_28 : decode cX12_worthOf 28 = .ok (.iand, 1) := oc_126 shX12_worthOf_28
theorem dX12_worthOf_29 : decode cX12_worthOf 29 = .ok (.aload_n 0, 1) := oc_42 shX12_worthOf_29
theorem dX12_worthOf_30 : decode cX12_worthOf 30 = .ok (.getfield 16, 3) := oc_180 shX12_worthOf_30
theorem dX12_worthOf_33 : decode cX12_worthOf 33 = .ok (.iload 5, 2) := oc_21 shX12_worthOf_33
theorem dX12_worthOf_35 : decode cX12_worthOf 35 = .ok (.iaload, 1) := oc_46 shX12_worthOf_35
theorem dX12_worthOf_36 : decode cX12_worthOf 36 = .ok (.imul, 1) := oc_104 shX12_worthOf_36
theorem dX12_worthOf_37 : decode cX12_worthOf 37 = .ok (.iload_n 2, 1) := oc_28 shX12_worthOf_37
theorem dX12_worthOf_38 : decode cX12_worthOf 38 = .ok (.iload_n 1, 1) := oc_27 shX12_worthOf_38
theorem dX12_worthOf_39 : decode cX12_worthOf 39 = .ok (.isub, 1) := oc_100 shX12_worthOf_39
theorem dX12_worthOf_40 : decode cX12_worthOf 40 = .ok (.imul, 1) := oc_104 shX12_worthOf_40
theorem dX12_worthOf_41 : decode cX12_worthOf 41 = .ok (.iadd, 1) := oc_96 shX12_worthOf_41
theorem dX12_worthOf_42 : decode cX12_worthOf 42 = .ok (.istore 4, 2) := oc_54 shX12_worthOf_42
theorem dX12_worthOf_44 : decode cX12_worthOf 44 = .ok (.iinc 5 1, 3) := oc_132 shX12_worthOf_44 sgb_1
theorem dX12_worthOf_47 : decode cX12_worthOf 47 = .ok (.goto (-35), 3) := oc_167 shX12_worthOf_47 sgw_255_221
theorem dX12_worthOf_50 : decode cX12_worthOf 50 = .ok (.iload 4, 2) := oc_21 shX12_worthOf_50
theorem dX12_worthOf_52 : decode cX12_worthOf 52 = .ok (.ireturn, 1) := oc_172 shX12_worthOf_52
noncomputable def sxX12_worth_35 : List UInt8 := []
noncomputable def sxX12_worth_34 : List UInt8 := 172 :: sxX12_worth_35
noncomputable def sxX12_worth_31 : List UInt8 := 19 :: 1 :: 212 :: sxX12_worth_34
noncomputable def sxX12_worth_28 : List UInt8 := 167 :: 0 :: 6 :: sxX12_worth_31
noncomputable def sxX12_worth_25 : List UInt8 := 182 :: 1 :: 216 :: sxX12_worth_28
noncomputable def sxX12_worth_24 : List UInt8 := 28 :: sxX12_worth_25
noncomputable def sxX12_worth_23 : List UInt8 := 27 :: sxX12_worth_24
noncomputable def sxX12_worth_22 : List UInt8 := 42 :: sxX12_worth_23
noncomputable def sxX12_worth_19 : List UInt8 := 153 :: 0 :: 12 :: sxX12_worth_22
noncomputable def sxX12_worth_16 : List UInt8 := 184 :: 0 :: 214 :: sxX12_worth_19
noncomputable def sxX12_worth_13 : List UInt8 := 17 :: 3 :: 232 :: sxX12_worth_16
noncomputable def sxX12_worth_12 : List UInt8 := 3 :: sxX12_worth_13
noncomputable def sxX12_worth_11 : List UInt8 := 28 :: sxX12_worth_12
noncomputable def sxX12_worth_8 : List UInt8 := 153 :: 0 :: 23 :: sxX12_worth_11
noncomputable def sxX12_worth_5 : List UInt8 := 184 :: 0 :: 214 :: sxX12_worth_8
noncomputable def sxX12_worth_2 : List UInt8 := 17 :: 0 :: 200 :: sxX12_worth_5
noncomputable def sxX12_worth_1 : List UInt8 := 3 :: sxX12_worth_2
noncomputable def sxX12_worth_0 : List UInt8 := 27 :: sxX12_worth_1
theorem shX12_worth_0 : cX12_worth.data.toList.drop 0 = sxX12_worth_0 := rfl
theorem shX12_worth_1 : cX12_worth.data.toList.drop 1 = sxX12_worth_1 := dSn 1 shX12_worth_0
theorem shX12_worth_2 : cX12_worth.data.toList.drop 2 = sxX12_worth_2 := dSn 1 shX12_worth_1
theorem shX12_worth_5 : cX12_worth.data.toList.drop 5 = sxX12_worth_5 := dSn 3 shX12_worth_2
theorem shX12_worth_8 : cX12_worth.data.toList.drop 8 = sxX12_worth_8 := dSn 3 shX12_worth_5
theorem shX12_worth_11 : cX12_worth.data.toList.drop 11 = sxX12_worth_11 := dSn 3 shX12_worth_8
theorem shX12_worth_12 : cX12_worth.data.toList.drop 12 = sxX12_worth_12 := dSn 1 shX12_worth_11
theorem shX12_worth_13 : cX12_worth.data.toList.drop 13 = sxX12_worth_13 := dSn 1 shX12_worth_12
theorem shX12_worth_16 : cX12_worth.data.toList.drop 16 = sxX12_worth_16 := dSn 3 shX12_worth_13
theorem shX12_worth_19 : cX12_worth.data.toList.drop 19 = sxX12_worth_19 := dSn 3 shX12_worth_16
theorem shX12_worth_22 : cX12_worth.data.toList.drop 22 = sxX12_worth_22 := dSn 3 shX12_worth_19
theorem shX12_worth_23 : cX12_worth.data.toList.drop 23 = sxX12_worth_23 := dSn 1 shX12_worth_22
theorem shX12_worth_24 : cX12_worth.data.toList.drop 24 = sxX12_worth_24 := dSn 1 shX12_worth_23
theorem shX12_worth_25 : cX12_worth.data.toList.drop 25 = sxX12_worth_25 := dSn 1 shX12_worth_24
theorem shX12_worth_28 : cX12_worth.data.toList.drop 28 = sxX12_worth_28 := dSn 3 shX12_worth_25
theorem shX12_worth_31 : cX12_worth.data.toList.drop 31 = sxX12_worth_31 := dSn 3 shX12_worth_28
theorem shX12_worth_34 : cX12_worth.data.toList.drop 34 = sxX12_worth_34 := dSn 3 shX12_worth_31
theorem dX12_worth_0 : decode cX12_worth 0 = .ok (.iload_n 1, 1) := oc_27 shX12_worth_0
theorem dX12_worth_1 : decode cX12_worth 1 = .ok (.iconst 0, 1) := oc_3 shX12_worth_1
theorem dX12_worth_2 : decode cX12_worth 2 = .ok (.sipush 200, 3) := oc_17 shX12_worth_2 sgw_0_200
theorem dX12_worth_5 : decode cX12_worth 5 = .ok (.invokestatic 214, 3) := oc_184 shX12_worth_5
theorem dX12_worth_8 : decode cX12_worth 8 = .ok (.ifCond .eq 23, 3) := oc_153 shX12_worth_8 sgw_0_23
theorem dX12_worth_11 : decode cX12_worth 11 = .ok (.iload_n 2, 1) := oc_28 shX12_worth_11
theorem dX12_worth_12 : decode cX12_worth 12 = .ok (.iconst 0, 1) := oc_3 shX12_worth_12
theorem dX12_worth_13 : decode cX12_worth 13 = .ok (.sipush 1000, 3) := oc_17 shX12_worth_13 sgw_3_232
theorem dX12_worth_16 : decode cX12_worth 16 = .ok (.invokestatic 214, 3) := oc_184 shX12_worth_16
theorem dX12_worth_19 : decode cX12_worth 19 = .ok (.ifCond .eq 12, 3) := oc_153 shX12_worth_19 sgw_0_12
theorem dX12_worth_22 : decode cX12_worth 22 = .ok (.aload_n 0, 1) := oc_42 shX12_worth_22
theorem dX12_worth_23 : decode cX12_worth 23 = .ok (.iload_n 1, 1) := oc_27 shX12_worth_23
theorem dX12_worth_24 : decode cX12_worth 24 = .ok (.iload_n 2, 1) := oc_28 shX12_worth_24
theorem dX12_worth_25 : decode cX12_worth 25 = .ok (.invokevirtual 472, 3) := oc_182 shX12_worth_25
theorem dX12_worth_28 : decode cX12_worth 28 = .ok (.goto 6, 3) := oc_167 shX12_worth_28 sgw_0_6
theorem dX12_worth_31 : decode cX12_worth 31 = .ok (.ldc_w 468, 3) := oc_19 shX12_worth_31
theorem dX12_worth_34 : decode cX12_worth 34 = .ok (.ireturn, 1) := oc_172 shX12_worth_34
noncomputable def sxX12_offer_92 : List UInt8 := []
noncomputable def sxX12_offer_91 : List UInt8 := 172 :: sxX12_offer_92
noncomputable def sxX12_offer_88 : List UInt8 := 182 :: 1 :: 213 :: sxX12_offer_91
noncomputable def sxX12_offer_87 : List UInt8 := 29 :: sxX12_offer_88
noncomputable def sxX12_offer_86 : List UInt8 := 42 :: sxX12_offer_87
noncomputable def sxX12_offer_83 : List UInt8 := 167 :: 0 :: 8 :: sxX12_offer_86
noncomputable def sxX12_offer_80 : List UInt8 := 182 :: 1 :: 216 :: sxX12_offer_83
noncomputable def sxX12_offer_79 : List UInt8 := 27 :: sxX12_offer_80
noncomputable def sxX12_offer_78 : List UInt8 := 29 :: sxX12_offer_79
noncomputable def sxX12_offer_77 : List UInt8 := 42 :: sxX12_offer_78
noncomputable def sxX12_offer_74 : List UInt8 := 160 :: 0 :: 12 :: sxX12_offer_77
noncomputable def sxX12_offer_73 : List UInt8 := 4 :: sxX12_offer_74
noncomputable def sxX12_offer_72 : List UInt8 := 28 :: sxX12_offer_73
noncomputable def sxX12_offer_69 : List UInt8 := 167 :: 0 :: 22 :: sxX12_offer_72
noncomputable def sxX12_offer_68 : List UInt8 := 29 :: sxX12_offer_69
noncomputable def sxX12_offer_65 : List UInt8 := 154 :: 0 :: 7 :: sxX12_offer_68
noncomputable def sxX12_offer_64 : List UInt8 := 28 :: sxX12_offer_65
noncomputable def sxX12_offer_61 : List UInt8 := 167 :: 255 :: 222 :: sxX12_offer_64
noncomputable def sxX12_offer_58 : List UInt8 := 132 :: 4 :: 1 :: sxX12_offer_61
noncomputable def sxX12_offer_57 : List UInt8 := 62 :: sxX12_offer_58
noncomputable def sxX12_offer_56 : List UInt8 := 29 :: sxX12_offer_57
noncomputable def sxX12_offer_53 : List UInt8 := 167 :: 0 :: 4 :: sxX12_offer_56
noncomputable def sxX12_offer_51 : List UInt8 := 21 :: 4 :: sxX12_offer_53
noncomputable def sxX12_offer_48 : List UInt8 := 164 :: 0 :: 8 :: sxX12_offer_51
noncomputable def sxX12_offer_45 : List UInt8 := 182 :: 1 :: 216 :: sxX12_offer_48
noncomputable def sxX12_offer_44 : List UInt8 := 27 :: sxX12_offer_45
noncomputable def sxX12_offer_43 : List UInt8 := 29 :: sxX12_offer_44
noncomputable def sxX12_offer_42 : List UInt8 := 42 :: sxX12_offer_43
noncomputable def sxX12_offer_39 : List UInt8 := 182 :: 1 :: 216 :: sxX12_offer_42
noncomputable def sxX12_offer_38 : List UInt8 := 27 :: sxX12_offer_39
noncomputable def sxX12_offer_36 : List UInt8 := 21 :: 4 :: sxX12_offer_38
noncomputable def sxX12_offer_35 : List UInt8 := 42 :: sxX12_offer_36
noncomputable def sxX12_offer_32 : List UInt8 := 163 :: 0 :: 32 :: sxX12_offer_35
noncomputable def sxX12_offer_29 : List UInt8 := 17 :: 0 :: 200 :: sxX12_offer_32
noncomputable def sxX12_offer_27 : List UInt8 := 21 :: 4 :: sxX12_offer_29
noncomputable def sxX12_offer_25 : List UInt8 := 54 :: 4 :: sxX12_offer_27
noncomputable def sxX12_offer_24 : List UInt8 := 4 :: sxX12_offer_25
noncomputable def sxX12_offer_23 : List UInt8 := 62 :: sxX12_offer_24
noncomputable def sxX12_offer_22 : List UInt8 := 3 :: sxX12_offer_23
noncomputable def sxX12_offer_21 : List UInt8 := 172 :: sxX12_offer_22
noncomputable def sxX12_offer_20 : List UInt8 := 2 :: sxX12_offer_21
noncomputable def sxX12_offer_17 : List UInt8 := 154 :: 0 :: 5 :: sxX12_offer_20
noncomputable def sxX12_offer_14 : List UInt8 := 184 :: 0 :: 214 :: sxX12_offer_17
noncomputable def sxX12_offer_13 : List UInt8 := 5 :: sxX12_offer_14
noncomputable def sxX12_offer_12 : List UInt8 := 3 :: sxX12_offer_13
noncomputable def sxX12_offer_11 : List UInt8 := 28 :: sxX12_offer_12
noncomputable def sxX12_offer_8 : List UInt8 := 153 :: 0 :: 12 :: sxX12_offer_11
noncomputable def sxX12_offer_5 : List UInt8 := 184 :: 0 :: 214 :: sxX12_offer_8
noncomputable def sxX12_offer_2 : List UInt8 := 17 :: 3 :: 232 :: sxX12_offer_5
noncomputable def sxX12_offer_1 : List UInt8 := 3 :: sxX12_offer_2
noncomputable def sxX12_offer_0 : List UInt8 := 27 :: sxX12_offer_1
theorem shX12_offer_0 : cX12_offer.data.toList.drop 0 = sxX12_offer_0 := rfl
theorem shX12_offer_1 : cX12_offer.data.toList.drop 1 = sxX12_offer_1 := dSn 1 shX12_offer_0
theorem shX12_offer_2 : cX12_offer.data.toList.drop 2 = sxX12_offer_2 := dSn 1 shX12_offer_1
theorem shX12_offer_5 : cX12_offer.data.toList.drop 5 = sxX12_offer_5 := dSn 3 shX12_offer_2
theorem shX12_offer_8 : cX12_offer.data.toList.drop 8 = sxX12_offer_8 := dSn 3 shX12_offer_5
theorem shX12_offer_11 : cX12_offer.data.toList.drop 11 = sxX12_offer_11 := dSn 3 shX12_offer_8
theorem shX12_offer_12 : cX12_offer.data.toList.drop 12 = sxX12_offer_12 := dSn 1 shX12_offer_11
theorem shX12_offer_13 : cX12_offer.data.toList.drop 13 = sxX12_offer_13 := dSn 1 shX12_offer_12
theorem shX12_offer_14 : cX12_offer.data.toList.drop 14 = sxX12_offer_14 := dSn 1 shX12_offer_13
theorem shX12_offer_17 : cX12_offer.data.toList.drop 17 = sxX12_offer_17 := dSn 3 shX12_offer_14
theorem shX12_offer_20 : cX12_offer.data.toList.drop 20 = sxX12_offer_20 := dSn 3 shX12_offer_17
theorem shX12_offer_21 : cX12_offer.data.toList.drop 21 = sxX12_offer_21 := dSn 1 shX12_offer_20
theorem shX12_offer_22 : cX12_offer.data.toList.drop 22 = sxX12_offer_22 := dSn 1 shX12_offer_21
theorem shX12_offer_23 : cX12_offer.data.toList.drop 23 = sxX12_offer_23 := dSn 1 shX12_offer_22
theorem shX12_offer_24 : cX12_offer.data.toList.drop 24 = sxX12_offer_24 := dSn 1 shX12_offer_23
theorem shX12_offer_25 : cX12_offer.data.toList.drop 25 = sxX12_offer_25 := dSn 1 shX12_offer_24
theorem shX12_offer_27 : cX12_offer.data.toList.drop 27 = sxX12_offer_27 := dSn 2 shX12_offer_25
theorem shX12_offer_29 : cX12_offer.data.toList.drop 29 = sxX12_offer_29 := dSn 2 shX12_offer_27
theorem shX12_offer_32 : cX12_offer.data.toList.drop 32 = sxX12_offer_32 := dSn 3 shX12_offer_29
theorem shX12_offer_35 : cX12_offer.data.toList.drop 35 = sxX12_offer_35 := dSn 3 shX12_offer_32
theorem shX12_offer_36 : cX12_offer.data.toList.drop 36 = sxX12_offer_36 := dSn 1 shX12_offer_35
theorem shX12_offer_38 : cX12_offer.data.toList.drop 38 = sxX12_offer_38 := dSn 2 shX12_offer_36
theorem shX12_offer_39 : cX12_offer.data.toList.drop 39 = sxX12_offer_39 := dSn 1 shX12_offer_38
theorem shX12_offer_42 : cX12_offer.data.toList.drop 42 = sxX12_offer_42 := dSn 3 shX12_offer_39
theorem shX12_offer_43 : cX12_offer.data.toList.drop 43 = sxX12_offer_43 := dSn 1 shX12_offer_42
theorem shX12_offer_44 : cX12_offer.data.toList.drop 44 = sxX12_offer_44 := dSn 1 shX12_offer_43
theorem shX12_offer_45 : cX12_offer.data.toList.drop 45 = sxX12_offer_45 := dSn 1 shX12_offer_44
theorem shX12_offer_48 : cX12_offer.data.toList.drop 48 = sxX12_offer_48 := dSn 3 shX12_offer_45
theorem shX12_offer_51 : cX12_offer.data.toList.drop 51 = sxX12_offer_51 := dSn 3 shX12_offer_48
theorem shX12_offer_53 : cX12_offer.data.toList.drop 53 = sxX12_offer_53 := dSn 2 shX12_offer_51
theorem shX12_offer_56 : cX12_offer.data.toList.drop 56 = sxX12_offer_56 := dSn 3 shX12_offer_53
theorem shX12_offer_57 : cX12_offer.data.toList.drop 57 = sxX12_offer_57 := dSn 1 shX12_offer_56
theorem shX12_offer_58 : cX12_offer.data.toList.drop 58 = sxX12_offer_58 := dSn 1 shX12_offer_57
theorem shX12_offer_61 : cX12_offer.data.toList.drop 61 = sxX12_offer_61 := dSn 3 shX12_offer_58
theorem shX12_offer_64 : cX12_offer.data.toList.drop 64 = sxX12_offer_64 := dSn 3 shX12_offer_61
theorem shX12_offer_65 : cX12_offer.data.toList.drop 65 = sxX12_offer_65 := dSn 1 shX12_offer_64
theorem shX12_offer_68 : cX12_offer.data.toList.drop 68 = sxX12_offer_68 := dSn 3 shX12_offer_65
theorem shX12_offer_69 : cX12_offer.data.toList.drop 69 = sxX12_offer_69 := dSn 1 shX12_offer_68
theorem shX12_offer_72 : cX12_offer.data.toList.drop 72 = sxX12_offer_72 := dSn 3 shX12_offer_69
theorem shX12_offer_73 : cX12_offer.data.toList.drop 73 = sxX12_offer_73 := dSn 1 shX12_offer_72
theorem shX12_offer_74 : cX12_offer.data.toList.drop 74 = sxX12_offer_74 := dSn 1 shX12_offer_73
theorem shX12_offer_77 : cX12_offer.data.toList.drop 77 = sxX12_offer_77 := dSn 3 shX12_offer_74
theorem shX12_offer_78 : cX12_offer.data.toList.drop 78 = sxX12_offer_78 := dSn 1 shX12_offer_77
theorem shX12_offer_79 : cX12_offer.data.toList.drop 79 = sxX12_offer_79 := dSn 1 shX12_offer_78
theorem shX12_offer_80 : cX12_offer.data.toList.drop 80 = sxX12_offer_80 := dSn 1 shX12_offer_79
theorem shX12_offer_83 : cX12_offer.data.toList.drop 83 = sxX12_offer_83 := dSn 3 shX12_offer_80
theorem shX12_offer_86 : cX12_offer.data.toList.drop 86 = sxX12_offer_86 := dSn 3 shX12_offer_83
theorem shX12_offer_87 : cX12_offer.data.toList.drop 87 = sxX12_offer_87 := dSn 1 shX12_offer_86
theorem shX12_offer_88 : cX12_offer.data.toList.drop 88 = sxX12_offer_88 := dSn 1 shX12_offer_87
theorem shX12_offer_91 : cX12_offer.data.toList.drop 91 = sxX12_offer_91 := dSn 3 shX12_offer_88
theorem dX12_offer_0 : decode cX12_offer 0 = .ok (.iload_n 1, 1) := oc_27 shX12_offer_0
theorem dX12_offer_1 : decode cX12_offer 1 = .ok (.iconst 0, 1) := oc_3 shX12_offer_1
theorem dX12_offer_2 : decode cX12_offer 2 = .ok (.sipush 1000, 3) := oc_17 shX12_offer_2 sgw_3_232
theorem dX12_offer_5 : decode cX12_offer 5 = .ok (.invokestatic 214, 3) := oc_184 shX12_offer_5
theorem dX12_offer_8 : decode cX12_offer 8 = .ok (.ifCond .eq 12, 3) := oc_153 shX12_offer_8 sgw_0_12
theorem dX12_offer_11 : decode cX12_offer 11 = .ok (.iload_n 2, 1) := oc_28 shX12_offer_11
theorem dX12_offer_12 : decode cX12_offer 12 = .ok (.iconst 0, 1) := oc_3 shX12_offer_12
theorem dX12_offer_13 : decode cX12_offer 13 = .ok (.iconst 2, 1) := oc_5 shX12_offer_13
theorem dX12_offer_14 : decode cX12_offer 14 = .ok (.invokestatic 214, 3) := oc_184 shX12_offer_14
theorem dX12_offer_17 : decode cX12_offer 17 = .ok (.ifCond .ne 5, 3) := oc_154 shX12_offer_17 sgw_0_5
theorem dX12_offer_20 : decode cX12_offer 20 = .ok (.iconst (-1), 1) := oc_2 shX12_offer_20
theorem dX12_offer_21 : decode cX12_offer 21 = .ok (.ireturn, 1) := oc_172 shX12_offer_21
theorem dX12_offer_22 : decode cX12_offer 22 = .ok (.iconst 0, 1) := oc_3 shX12_offer_22
theorem dX12_offer_23 : decode cX12_offer 23 = .ok (.istore_n 3, 1) := oc_62 shX12_offer_23
theorem dX12_offer_24 : decode cX12_offer 24 = .ok (.iconst 1, 1) := oc_4 shX12_offer_24
theorem dX12_offer_25 : decode cX12_offer 25 = .ok (.istore 4, 2) := oc_54 shX12_offer_25
theorem dX12_offer_27 : decode cX12_offer 27 = .ok (.iload 4, 2) := oc_21 shX12_offer_27
theorem dX12_offer_29 : decode cX12_offer 29 = .ok (.sipush 200, 3) := oc_17 shX12_offer_29 sgw_0_200
theorem dX12_offer_32 : decode cX12_offer 32 = .ok (.if_icmp .gt 32, 3) := oc_163 shX12_offer_32 sgw_0_32
theorem dX12_offer_35 : decode cX12_offer 35 = .ok (.aload_n 0, 1) := oc_42 shX12_offer_35
theorem dX12_offer_36 : decode cX12_offer 36 = .ok (.iload 4, 2) := oc_21 shX12_offer_36
theorem dX12_offer_38 : decode cX12_offer 38 = .ok (.iload_n 1, 1) := oc_27 shX12_offer_38
theorem dX12_offer_39 : decode cX12_offer 39 = .ok (.invokevirtual 472, 3) := oc_182 shX12_offer_39
theorem dX12_offer_42 : decode cX12_offer 42 = .ok (.aload_n 0, 1) := oc_42 shX12_offer_42
theorem dX12_offer_43 : decode cX12_offer 43 = .ok (.iload_n 3, 1) := oc_29 shX12_offer_43
theorem dX12_offer_44 : decode cX12_offer 44 = .ok (.iload_n 1, 1) := oc_27 shX12_offer_44
theorem dX12_offer_45 : decode cX12_offer 45 = .ok (.invokevirtual 472, 3) := oc_182 shX12_offer_45
theorem dX12_offer_48 : decode cX12_offer 48 = .ok (.if_icmp .le 8, 3) := oc_164 shX12_offer_48 sgw_0_8
theorem dX12_offer_51 : decode cX12_offer 51 = .ok (.iload 4, 2) := oc_21 shX12_offer_51
theorem dX12_offer_53 : decode cX12_offer 53 = .ok (.goto 4, 3) := oc_167 shX12_offer_53 sgw_0_4
theorem dX12_offer_56 : decode cX12_offer 56 = .ok (.iload_n 3, 1) := oc_29 shX12_offer_56
theorem dX12_offer_57 : decode cX12_offer 57 = .ok (.istore_n 3, 1) := oc_62 shX12_offer_57
theorem dX12_offer_58 : decode cX12_offer 58 = .ok (.iinc 4 1, 3) := oc_132 shX12_offer_58 sgb_1
theorem dX12_offer_61 : decode cX12_offer 61 = .ok (.goto (-34), 3) := oc_167 shX12_offer_61 sgw_255_222
theorem dX12_offer_64 : decode cX12_offer 64 = .ok (.iload_n 2, 1) := oc_28 shX12_offer_64
theorem dX12_offer_65 : decode cX12_offer 65 = .ok (.ifCond .ne 7, 3) := oc_154 shX12_offer_65 sgw_0_7
theorem dX12_offer_68 : decode cX12_offer 68 = .ok (.iload_n 3, 1) := oc_29 shX12_offer_68
theorem dX12_offer_69 : decode cX12_offer 69 = .ok (.goto 22, 3) := oc_167 shX12_offer_69 sgw_0_22
theorem dX12_offer_72 : decode cX12_offer 72 = .ok (.iload_n 2, 1) := oc_28 shX12_offer_72
theorem dX12_offer_73 : decode cX12_offer 73 = .ok (.iconst 1, 1) := oc_4 shX12_offer_73
theorem dX12_offer_74 : decode cX12_offer 74 = .ok (.if_icmp .ne 12, 3) := oc_160 shX12_offer_74 sgw_0_12
theorem dX12_offer_77 : decode cX12_offer 77 = .ok (.aload_n 0, 1) := oc_42 shX12_offer_77
theorem dX12_offer_78 : decode cX12_offer 78 = .ok (.iload_n 3, 1) := oc_29 shX12_offer_78
theorem dX12_offer_79 : decode cX12_offer 79 = .ok (.iload_n 1, 1) := oc_27 shX12_offer_79
theorem dX12_offer_80 : decode cX12_offer 80 = .ok (.invokevirtual 472, 3) := oc_182 shX12_offer_80
theorem dX12_offer_83 : decode cX12_offer 83 = .ok (.goto 8, 3) := oc_167 shX12_offer_83 sgw_0_8
theorem dX12_offer_86 : decode cX12_offer 86 = .ok (.aload_n 0, 1) := oc_42 shX12_offer_86
theorem dX12_offer_87 : decode cX12_offer 87 = .ok (.iload_n 3, 1) := oc_29 shX12_offer_87
theorem dX12_offer_88 : decode cX12_offer 88 = .ok (.invokevirtual 469, 3) := oc_182 shX12_offer_88
theorem dX12_offer_91 : decode cX12_offer 91 = .ok (.ireturn, 1) := oc_172 shX12_offer_91
noncomputable def sxX12_thefts_32 : List UInt8 := []
noncomputable def sxX12_thefts_31 : List UInt8 := 172 :: sxX12_thefts_32
noncomputable def sxX12_thefts_30 : List UInt8 := 4 :: sxX12_thefts_31
noncomputable def sxX12_thefts_29 : List UInt8 := 79 :: sxX12_thefts_30
noncomputable def sxX12_thefts_28 : List UInt8 := 28 :: sxX12_thefts_29
noncomputable def sxX12_thefts_27 : List UInt8 := 27 :: sxX12_thefts_28
noncomputable def sxX12_thefts_24 : List UInt8 := 180 :: 0 :: 189 :: sxX12_thefts_27
noncomputable def sxX12_thefts_23 : List UInt8 := 42 :: sxX12_thefts_24
noncomputable def sxX12_thefts_22 : List UInt8 := 172 :: sxX12_thefts_23
noncomputable def sxX12_thefts_21 : List UInt8 := 3 :: sxX12_thefts_22
noncomputable def sxX12_thefts_18 : List UInt8 := 154 :: 0 :: 5 :: sxX12_thefts_21
noncomputable def sxX12_thefts_15 : List UInt8 := 184 :: 0 :: 214 :: sxX12_thefts_18
noncomputable def sxX12_thefts_12 : List UInt8 := 17 :: 3 :: 232 :: sxX12_thefts_15
noncomputable def sxX12_thefts_11 : List UInt8 := 3 :: sxX12_thefts_12
noncomputable def sxX12_thefts_10 : List UInt8 := 28 :: sxX12_thefts_11
noncomputable def sxX12_thefts_7 : List UInt8 := 153 :: 0 :: 14 :: sxX12_thefts_10
noncomputable def sxX12_thefts_4 : List UInt8 := 184 :: 0 :: 214 :: sxX12_thefts_7
noncomputable def sxX12_thefts_2 : List UInt8 := 16 :: 23 :: sxX12_thefts_4
noncomputable def sxX12_thefts_1 : List UInt8 := 3 :: sxX12_thefts_2
noncomputable def sxX12_thefts_0 : List UInt8 := 27 :: sxX12_thefts_1
theorem shX12_thefts_0 : cX12_thefts.data.toList.drop 0 = sxX12_thefts_0 := rfl
theorem shX12_thefts_1 : cX12_thefts.data.toList.drop 1 = sxX12_thefts_1 := dSn 1 shX12_thefts_0
theorem shX12_thefts_2 : cX12_thefts.data.toList.drop 2 = sxX12_thefts_2 := dSn 1 shX12_thefts_1
theorem shX12_thefts_4 : cX12_thefts.data.toList.drop 4 = sxX12_thefts_4 := dSn 2 shX12_thefts_2
theorem shX12_thefts_7 : cX12_thefts.data.toList.drop 7 = sxX12_thefts_7 := dSn 3 shX12_thefts_4
theorem shX12_thefts_10 : cX12_thefts.data.toList.drop 10 = sxX12_thefts_10 := dSn 3 shX12_thefts_7
theorem shX12_thefts_11 : cX12_thefts.data.toList.drop 11 = sxX12_thefts_11 := dSn 1 shX12_thefts_10
theorem shX12_thefts_12 : cX12_thefts.data.toList.drop 12 = sxX12_thefts_12 := dSn 1 shX12_thefts_11
theorem shX12_thefts_15 : cX12_thefts.data.toList.drop 15 = sxX12_thefts_15 := dSn 3 shX12_thefts_12
theorem shX12_thefts_18 : cX12_thefts.data.toList.drop 18 = sxX12_thefts_18 := dSn 3 shX12_thefts_15
theorem shX12_thefts_21 : cX12_thefts.data.toList.drop 21 = sxX12_thefts_21 := dSn 3 shX12_thefts_18
theorem shX12_thefts_22 : cX12_thefts.data.toList.drop 22 = sxX12_thefts_22 := dSn 1 shX12_thefts_21
theorem shX12_thefts_23 : cX12_thefts.data.toList.drop 23 = sxX12_thefts_23 := dSn 1 shX12_thefts_22
theorem shX12_thefts_24 : cX12_thefts.data.toList.drop 24 = sxX12_thefts_24 := dSn 1 shX12_thefts_23
theorem shX12_thefts_27 : cX12_thefts.data.toList.drop 27 = sxX12_thefts_27 := dSn 3 shX12_thefts_24
theorem shX12_thefts_28 : cX12_thefts.data.toList.drop 28 = sxX12_thefts_28 := dSn 1 shX12_thefts_27
theorem shX12_thefts_29 : cX12_thefts.data.toList.drop 29 = sxX12_thefts_29 := dSn 1 shX12_thefts_28
theorem shX12_thefts_30 : cX12_thefts.data.toList.drop 30 = sxX12_thefts_30 := dSn 1 shX12_thefts_29
theorem shX12_thefts_31 : cX12_thefts.data.toList.drop 31 = sxX12_thefts_31 := dSn 1 shX12_thefts_30
theorem dX12_thefts_0 : decode cX12_thefts 0 = .ok (.iload_n 1, 1) := oc_27 shX12_thefts_0
theorem dX12_thefts_1 : decode cX12_thefts 1 = .ok (.iconst 0, 1) := oc_3 shX12_thefts_1
theorem dX12_thefts_2 : decode cX12_thefts 2 = .ok (.bipush 23, 2) := oc_16 shX12_thefts_2 sgb_23
theorem dX12_thefts_4 : decode cX12_thefts 4 = .ok (.invokestatic 214, 3) := oc_184 shX12_thefts_4
theorem dX12_thefts_7 : decode cX12_thefts 7 = .ok (.ifCond .eq 14, 3) := oc_153 shX12_thefts_7 sgw_0_14
theorem dX12_thefts_10 : decode cX12_thefts 10 = .ok (.iload_n 2, 1) := oc_28 shX12_thefts_10
theorem dX12_thefts_11 : decode cX12_thefts 11 = .ok (.iconst 0, 1) := oc_3 shX12_thefts_11
theorem dX12_thefts_12 : decode cX12_thefts 12 = .ok (.sipush 1000, 3) := oc_17 shX12_thefts_12 sgw_3_232
theorem dX12_thefts_15 : decode cX12_thefts 15 = .ok (.invokestatic 214, 3) := oc_184 shX12_thefts_15
theorem dX12_thefts_18 : decode cX12_thefts 18 = .ok (.ifCond .ne 5, 3) := oc_154 shX12_thefts_18 sgw_0_5
theorem dX12_thefts_21 : decode cX12_thefts 21 = .ok (.iconst 0, 1) := oc_3 shX12_thefts_21
theorem dX12_thefts_22 : decode cX12_thefts 22 = .ok (.ireturn, 1) := oc_172 shX12_thefts_22
theorem dX12_thefts_23 : decode cX12_thefts 23 = .ok (.aload_n 0, 1) := oc_42 shX12_thefts_23
theorem dX12_thefts_24 : decode cX12_thefts 24 = .ok (.getfield 189, 3) := oc_180 shX12_thefts_24
theorem dX12_thefts_27 : decode cX12_thefts 27 = .ok (.iload_n 1, 1) := oc_27 shX12_thefts_27
theorem dX12_thefts_28 : decode cX12_thefts 28 = .ok (.iload_n 2, 1) := oc_28 shX12_thefts_28
theorem dX12_thefts_29 : decode cX12_thefts 29 = .ok (.iastore, 1) := oc_79 shX12_thefts_29
theorem dX12_thefts_30 : decode cX12_thefts 30 = .ok (.iconst 1, 1) := oc_4 shX12_thefts_30
theorem dX12_thefts_31 : decode cX12_thefts 31 = .ok (.ireturn, 1) := oc_172 shX12_thefts_31
noncomputable def sxX12_saves_34 : List UInt8 := []
noncomputable def sxX12_saves_33 : List UInt8 := 172 :: sxX12_saves_34
noncomputable def sxX12_saves_32 : List UInt8 := 29 :: sxX12_saves_33
noncomputable def sxX12_saves_29 : List UInt8 := 167 :: 255 :: 232 :: sxX12_saves_32
noncomputable def sxX12_saves_26 : List UInt8 := 132 :: 4 :: 1 :: sxX12_saves_29
noncomputable def sxX12_saves_25 : List UInt8 := 62 :: sxX12_saves_26
noncomputable def sxX12_saves_24 : List UInt8 := 96 :: sxX12_saves_25
noncomputable def sxX12_saves_23 : List UInt8 := 46 :: sxX12_saves_24
noncomputable def sxX12_saves_22 : List UInt8 := 112 :: sxX12_saves_23
noncomputable def sxX12_saves_20 : List UInt8 := 16 :: 24 :: sxX12_saves_22
noncomputable def sxX12_saves_19 : List UInt8 := 96 :: sxX12_saves_20
noncomputable def sxX12_saves_17 : List UInt8 := 21 :: 4 :: sxX12_saves_19
noncomputable def sxX12_saves_16 : List UInt8 := 27 :: sxX12_saves_17
noncomputable def sxX12_saves_13 : List UInt8 := 180 :: 0 :: 189 :: sxX12_saves_16
noncomputable def sxX12_saves_12 : List UInt8 := 42 :: sxX12_saves_13
noncomputable def sxX12_saves_11 : List UInt8 := 29 :: sxX12_saves_12
noncomputable def sxX12_saves_8 : List UInt8 := 162 :: 0 :: 24 :: sxX12_saves_11
noncomputable def sxX12_saves_7 : List UInt8 := 28 :: sxX12_saves_8
noncomputable def sxX12_saves_5 : List UInt8 := 21 :: 4 :: sxX12_saves_7
noncomputable def sxX12_saves_3 : List UInt8 := 54 :: 4 :: sxX12_saves_5
noncomputable def sxX12_saves_2 : List UInt8 := 3 :: sxX12_saves_3
noncomputable def sxX12_saves_1 : List UInt8 := 62 :: sxX12_saves_2
noncomputable def sxX12_saves_0 : List UInt8 := 3 :: sxX12_saves_1
theorem shX12_saves_0 : cX12_saves.data.toList.drop 0 = sxX12_saves_0 := rfl
theorem shX12_saves_1 : cX12_saves.data.toList.drop 1 = sxX12_saves_1 := dSn 1 shX12_saves_0
theorem shX12_saves_2 : cX12_saves.data.toList.drop 2 = sxX12_saves_2 := dSn 1 shX12_saves_1
theorem shX12_saves_3 : cX12_saves.data.toList.drop 3 = sxX12_saves_3 := dSn 1 shX12_saves_2
theorem shX12_saves_5 : cX12_saves.data.toList.drop 5 = sxX12_saves_5 := dSn 2 shX12_saves_3
theorem shX12_saves_7 : cX12_saves.data.toList.drop 7 = sxX12_saves_7 := dSn 2 shX12_saves_5
theorem shX12_saves_8 : cX12_saves.data.toList.drop 8 = sxX12_saves_8 := dSn 1 shX12_saves_7
theorem shX12_saves_11 : cX12_saves.data.toList.drop 11 = sxX12_saves_11 := dSn 3 shX12_saves_8
theorem shX12_saves_12 : cX12_saves.data.toList.drop 12 = sxX12_saves_12 := dSn 1 shX12_saves_11
theorem shX12_saves_13 : cX12_saves.data.toList.drop 13 = sxX12_saves_13 := dSn 1 shX12_saves_12
theorem shX12_saves_16 : cX12_saves.data.toList.drop 16 = sxX12_saves_16 := dSn 3 shX12_saves_13
theorem shX12_saves_17 : cX12_saves.data.toList.drop 17 = sxX12_saves_17 := dSn 1 shX12_saves_16
theorem shX12_saves_19 : cX12_saves.data.toList.drop 19 = sxX12_saves_19 := dSn 2 shX12_saves_17
theorem shX12_saves_20 : cX12_saves.data.toList.drop 20 = sxX12_saves_20 := dSn 1 shX12_saves_19
theorem shX12_saves_22 : cX12_saves.data.toList.drop 22 = sxX12_saves_22 := dSn 2 shX12_saves_20
theorem shX12_saves_23 : cX12_saves.data.toList.drop 23 = sxX12_saves_23 := dSn 1 shX12_saves_22
theorem shX12_saves_24 : cX12_saves.data.toList.drop 24 = sxX12_saves_24 := dSn 1 shX12_saves_23
theorem shX12_saves_25 : cX12_saves.data.toList.drop 25 = sxX12_saves_25 := dSn 1 shX12_saves_24
theorem shX12_saves_26 : cX12_saves.data.toList.drop 26 = sxX12_saves_26 := dSn 1 shX12_saves_25
theorem shX12_saves_29 : cX12_saves.data.toList.drop 29 = sxX12_saves_29 := dSn 3 shX12_saves_26
theorem shX12_saves_32 : cX12_saves.data.toList.drop 32 = sxX12_saves_32 := dSn 3 shX12_saves_29
theorem shX12_saves_33 : cX12_saves.data.toList.drop 33 = sxX12_saves_33 := dSn 1 shX12_saves_32
theorem dX12_saves_0 : decode cX12_saves 0 = .ok (.iconst 0, 1) := oc_3 shX12_saves_0
theorem dX12_saves_1 : decode cX12_saves 1 = .ok (.istore_n 3, 1) := oc_62 shX12_saves_1
theorem dX12_saves_2 : decode cX12_saves 2 = .ok (.iconst 0, 1) := oc_3 shX12_saves_2
theorem dX12_saves_3 : decode cX12_saves 3 = .ok (.istore 4, 2) := oc_54 shX12_saves_3
theorem dX12_saves_5 : decode cX12_saves 5 = .ok (.iload 4, 2) := oc_21 shX12_saves_5
theorem dX12_saves_7 : decode cX12_saves 7 = .ok (.iload_n 2, 1) := oc_28 shX12_saves_7
theorem dX12_saves_8 : decode cX12_saves 8 = .ok (.if_icmp .ge 24, 3) := oc_162 shX12_saves_8 sgw_0_24
theorem dX12_saves_11 : decode cX12_saves 11 = .ok (.iload_n 3, 1) := oc_29 shX12_saves_11
theorem dX12_saves_12 : decode cX12_saves 12 = .ok (.aload_n 0, 1) := oc_42 shX12_saves_12
theorem dX12_saves_13 : decode cX12_saves 13 = .ok (.getfield 189, 3) := oc_180 shX12_saves_13
theorem dX12_saves_16 : decode cX12_saves 16 = .ok (.iload_n 1, 1) := oc_27 shX12_saves_16
theorem dX12_saves_17 : decode cX12_saves 17 = .ok (.iload 4, 2) := oc_21 shX12_saves_17
theorem dX12_saves_19 : decode cX12_saves 19 = .ok (.iadd, 1) := oc_96 shX12_saves_19
theorem dX12_saves_20 : decode cX12_saves 20 = .ok (.bipush 24, 2) := oc_16 shX12_saves_20 sgb_24
theorem dX12_saves_22 : decode cX12_saves 22 = .ok (.irem, 1) := oc_112 shX12_saves_22
theorem dX12_saves_23 : decode cX12_saves 23 = .ok (.iaload, 1) := oc_46 shX12_saves_23
theorem dX12_saves_24 : decode cX12_saves 24 = .ok (.iadd, 1) := oc_96 shX12_saves_24
theorem dX12_saves_25 : decode cX12_saves 25 = .ok (.istore_n 3, 1) := oc_62 shX12_saves_25
theorem dX12_saves_26 : decode cX12_saves 26 = .ok (.iinc 4 1, 3) := oc_132 shX12_saves_26 sgb_1
theorem dX12_saves_29 : decode cX12_saves 29 = .ok (.goto (-24), 3) := oc_167 shX12_saves_29 sgw_255_232
theorem dX12_saves_32 : decode cX12_saves 32 = .ok (.iload_n 3, 1) := oc_29 shX12_saves_32
theorem dX12_saves_33 : decode cX12_saves 33 = .ok (.ireturn, 1) := oc_172 shX12_saves_33
noncomputable def sxX12_lock_77 : List UInt8 := []
noncomputable def sxX12_lock_76 : List UInt8 := 172 :: sxX12_lock_77
noncomputable def sxX12_lock_73 : List UInt8 := 182 :: 1 :: 219 :: sxX12_lock_76
noncomputable def sxX12_lock_72 : List UInt8 := 27 :: sxX12_lock_73
noncomputable def sxX12_lock_71 : List UInt8 := 29 :: sxX12_lock_72
noncomputable def sxX12_lock_70 : List UInt8 := 42 :: sxX12_lock_71
noncomputable def sxX12_lock_67 : List UInt8 := 167 :: 0 :: 9 :: sxX12_lock_70
noncomputable def sxX12_lock_66 : List UInt8 := 29 :: sxX12_lock_67
noncomputable def sxX12_lock_63 : List UInt8 := 154 :: 0 :: 7 :: sxX12_lock_66
noncomputable def sxX12_lock_62 : List UInt8 := 28 :: sxX12_lock_63
noncomputable def sxX12_lock_59 : List UInt8 := 167 :: 255 :: 223 :: sxX12_lock_62
noncomputable def sxX12_lock_56 : List UInt8 := 132 :: 4 :: 1 :: sxX12_lock_59
noncomputable def sxX12_lock_55 : List UInt8 := 62 :: sxX12_lock_56
noncomputable def sxX12_lock_54 : List UInt8 := 29 :: sxX12_lock_55
noncomputable def sxX12_lock_51 : List UInt8 := 167 :: 0 :: 4 :: sxX12_lock_54
noncomputable def sxX12_lock_49 : List UInt8 := 21 :: 4 :: sxX12_lock_51
noncomputable def sxX12_lock_46 : List UInt8 := 164 :: 0 :: 8 :: sxX12_lock_49
noncomputable def sxX12_lock_43 : List UInt8 := 182 :: 1 :: 219 :: sxX12_lock_46
noncomputable def sxX12_lock_42 : List UInt8 := 27 :: sxX12_lock_43
noncomputable def sxX12_lock_41 : List UInt8 := 29 :: sxX12_lock_42
noncomputable def sxX12_lock_40 : List UInt8 := 42 :: sxX12_lock_41
noncomputable def sxX12_lock_37 : List UInt8 := 182 :: 1 :: 219 :: sxX12_lock_40
noncomputable def sxX12_lock_36 : List UInt8 := 27 :: sxX12_lock_37
noncomputable def sxX12_lock_34 : List UInt8 := 21 :: 4 :: sxX12_lock_36
noncomputable def sxX12_lock_33 : List UInt8 := 42 :: sxX12_lock_34
noncomputable def sxX12_lock_30 : List UInt8 := 162 :: 0 :: 32 :: sxX12_lock_33
noncomputable def sxX12_lock_28 : List UInt8 := 16 :: 24 :: sxX12_lock_30
noncomputable def sxX12_lock_26 : List UInt8 := 21 :: 4 :: sxX12_lock_28
noncomputable def sxX12_lock_24 : List UInt8 := 54 :: 4 :: sxX12_lock_26
noncomputable def sxX12_lock_23 : List UInt8 := 4 :: sxX12_lock_24
noncomputable def sxX12_lock_22 : List UInt8 := 62 :: sxX12_lock_23
noncomputable def sxX12_lock_21 : List UInt8 := 3 :: sxX12_lock_22
noncomputable def sxX12_lock_20 : List UInt8 := 172 :: sxX12_lock_21
noncomputable def sxX12_lock_19 : List UInt8 := 2 :: sxX12_lock_20
noncomputable def sxX12_lock_16 : List UInt8 := 154 :: 0 :: 5 :: sxX12_lock_19
noncomputable def sxX12_lock_13 : List UInt8 := 184 :: 0 :: 214 :: sxX12_lock_16
noncomputable def sxX12_lock_12 : List UInt8 := 4 :: sxX12_lock_13
noncomputable def sxX12_lock_11 : List UInt8 := 3 :: sxX12_lock_12
noncomputable def sxX12_lock_10 : List UInt8 := 28 :: sxX12_lock_11
noncomputable def sxX12_lock_7 : List UInt8 := 153 :: 0 :: 12 :: sxX12_lock_10
noncomputable def sxX12_lock_4 : List UInt8 := 184 :: 0 :: 214 :: sxX12_lock_7
noncomputable def sxX12_lock_2 : List UInt8 := 16 :: 12 :: sxX12_lock_4
noncomputable def sxX12_lock_1 : List UInt8 := 4 :: sxX12_lock_2
noncomputable def sxX12_lock_0 : List UInt8 := 27 :: sxX12_lock_1
theorem shX12_lock_0 : cX12_lock.data.toList.drop 0 = sxX12_lock_0 := rfl
theorem shX12_lock_1 : cX12_lock.data.toList.drop 1 = sxX12_lock_1 := dSn 1 shX12_lock_0
theorem shX12_lock_2 : cX12_lock.data.toList.drop 2 = sxX12_lock_2 := dSn 1 shX12_lock_1
theorem shX12_lock_4 : cX12_lock.data.toList.drop 4 = sxX12_lock_4 := dSn 2 shX12_lock_2
theorem shX12_lock_7 : cX12_lock.data.toList.drop 7 = sxX12_lock_7 := dSn 3 shX12_lock_4
theorem shX12_lock_10 : cX12_lock.data.toList.drop 10 = sxX12_lock_10 := dSn 3 shX12_lock_7
theorem shX12_lock_11 : cX12_lock.data.toList.drop 11 = sxX12_lock_11 := dSn 1 shX12_lock_10
theorem shX12_lock_12 : cX12_lock.data.toList.drop 12 = sxX12_lock_12 := dSn 1 shX12_lock_11
theorem shX12_lock_13 : cX12_lock.data.toList.drop 13 = sxX12_lock_13 := dSn 1 shX12_lock_12
theorem shX12_lock_16 : cX12_lock.data.toList.drop 16 = sxX12_lock_16 := dSn 3 shX12_lock_13
theorem shX12_lock_19 : cX12_lock.data.toList.drop 19 = sxX12_lock_19 := dSn 3 shX12_lock_16
theorem shX12_lock_20 : cX12_lock.data.toList.drop 20 = sxX12_lock_20 := dSn 1 shX12_lock_19
theorem shX12_lock_21 : cX12_lock.data.toList.drop 21 = sxX12_lock_21 := dSn 1 shX12_lock_20
theorem shX12_lock_22 : cX12_lock.data.toList.drop 22 = sxX12_lock_22 := dSn 1 shX12_lock_21
theorem shX12_lock_23 : cX12_lock.data.toList.drop 23 = sxX12_lock_23 := dSn 1 shX12_lock_22
theorem shX12_lock_24 : cX12_lock.data.toList.drop 24 = sxX12_lock_24 := dSn 1 shX12_lock_23
theorem shX12_lock_26 : cX12_lock.data.toList.drop 26 = sxX12_lock_26 := dSn 2 shX12_lock_24
theorem shX12_lock_28 : cX12_lock.data.toList.drop 28 = sxX12_lock_28 := dSn 2 shX12_lock_26
theorem shX12_lock_30 : cX12_lock.data.toList.drop 30 = sxX12_lock_30 := dSn 2 shX12_lock_28
theorem shX12_lock_33 : cX12_lock.data.toList.drop 33 = sxX12_lock_33 := dSn 3 shX12_lock_30
theorem shX12_lock_34 : cX12_lock.data.toList.drop 34 = sxX12_lock_34 := dSn 1 shX12_lock_33
theorem shX12_lock_36 : cX12_lock.data.toList.drop 36 = sxX12_lock_36 := dSn 2 shX12_lock_34
theorem shX12_lock_37 : cX12_lock.data.toList.drop 37 = sxX12_lock_37 := dSn 1 shX12_lock_36
theorem shX12_lock_40 : cX12_lock.data.toList.drop 40 = sxX12_lock_40 := dSn 3 shX12_lock_37
theorem shX12_lock_41 : cX12_lock.data.toList.drop 41 = sxX12_lock_41 := dSn 1 shX12_lock_40
theorem shX12_lock_42 : cX12_lock.data.toList.drop 42 = sxX12_lock_42 := dSn 1 shX12_lock_41
theorem shX12_lock_43 : cX12_lock.data.toList.drop 43 = sxX12_lock_43 := dSn 1 shX12_lock_42
theorem shX12_lock_46 : cX12_lock.data.toList.drop 46 = sxX12_lock_46 := dSn 3 shX12_lock_43
theorem shX12_lock_49 : cX12_lock.data.toList.drop 49 = sxX12_lock_49 := dSn 3 shX12_lock_46
theorem shX12_lock_51 : cX12_lock.data.toList.drop 51 = sxX12_lock_51 := dSn 2 shX12_lock_49
theorem shX12_lock_54 : cX12_lock.data.toList.drop 54 = sxX12_lock_54 := dSn 3 shX12_lock_51
theorem shX12_lock_55 : cX12_lock.data.toList.drop 55 = sxX12_lock_55 := dSn 1 shX12_lock_54
theorem shX12_lock_56 : cX12_lock.data.toList.drop 56 = sxX12_lock_56 := dSn 1 shX12_lock_55
theorem shX12_lock_59 : cX12_lock.data.toList.drop 59 = sxX12_lock_59 := dSn 3 shX12_lock_56
theorem shX12_lock_62 : cX12_lock.data.toList.drop 62 = sxX12_lock_62 := dSn 3 shX12_lock_59
theorem shX12_lock_63 : cX12_lock.data.toList.drop 63 = sxX12_lock_63 := dSn 1 shX12_lock_62
theorem shX12_lock_66 : cX12_lock.data.toList.drop 66 = sxX12_lock_66 := dSn 3 shX12_lock_63
theorem shX12_lock_67 : cX12_lock.data.toList.drop 67 = sxX12_lock_67 := dSn 1 shX12_lock_66
theorem shX12_lock_70 : cX12_lock.data.toList.drop 70 = sxX12_lock_70 := dSn 3 shX12_lock_67
theorem shX12_lock_71 : cX12_lock.data.toList.drop 71 = sxX12_lock_71 := dSn 1 shX12_lock_70
theorem shX12_lock_72 : cX12_lock.data.toList.drop 72 = sxX12_lock_72 := dSn 1 shX12_lock_71
theorem shX12_lock_73 : cX12_lock.data.toList.drop 73 = sxX12_lock_73 := dSn 1 shX12_lock_72
theorem shX12_lock_76 : cX12_lock.data.toList.drop 76 = sxX12_lock_76 := dSn 3 shX12_lock_73
theorem dX12_lock_0 : decode cX12_lock 0 = .ok (.iload_n 1, 1) := oc_27 shX12_lock_0
theorem dX12_lock_1 : decode cX12_lock 1 = .ok (.iconst 1, 1) := oc_4 shX12_lock_1
theorem dX12_lock_2 : decode cX12_lock 2 = .ok (.bipush 12, 2) := oc_16 shX12_lock_2 sgb_12
theorem dX12_lock_4 : decode cX12_lock 4 = .ok (.invokestatic 214, 3) := oc_184 shX12_lock_4
theorem dX12_lock_7 : decode cX12_lock 7 = .ok (.ifCond .eq 12, 3) := oc_153 shX12_lock_7 sgw_0_12
theorem dX12_lock_10 : decode cX12_lock 10 = .ok (.iload_n 2, 1) := oc_28 shX12_lock_10
theorem dX12_lock_11 : decode cX12_lock 11 = .ok (.iconst 0, 1) := oc_3 shX12_lock_11
theorem dX12_lock_12 : decode cX12_lock 12 = .ok (.iconst 1, 1) := oc_4 shX12_lock_12
theorem dX12_lock_13 : decode cX12_lock 13 = .ok (.invokestatic 214, 3) := oc_184 shX12_lock_13
theorem dX12_lock_16 : decode cX12_lock 16 = .ok (.ifCond .ne 5, 3) := oc_154 shX12_lock_16 sgw_0_5
theorem dX12_lock_19 : decode cX12_lock 19 = .ok (.iconst (-1), 1) := oc_2 shX12_lock_19
theorem dX12_lock_20 : decode cX12_lock 20 = .ok (.ireturn, 1) := oc_172 shX12_lock_20
theorem dX12_lock_21 : decode cX12_lock 21 = .ok (.iconst 0, 1) := oc_3 shX12_lock_21
theorem dX12_lock_22 : decode cX12_lock 22 = .ok (.istore_n 3, 1) := oc_62 shX12_lock_22
theorem dX12_lock_23 : decode cX12_lock 23 = .ok (.iconst 1, 1) := oc_4 shX12_lock_23
theorem dX12_lock_24 : decode cX12_lock 24 = .ok (.istore 4, 2) := oc_54 shX12_lock_24
theorem dX12_lock_26 : decode cX12_lock 26 = .ok (.iload 4, 2) := oc_21 shX12_lock_26
theorem dX12_lock_28 : decode cX12_lock 28 = .ok (.bipush 24, 2) := oc_16 shX12_lock_28 sgb_24
theorem dX12_lock_30 : decode cX12_lock 30 = .ok (.if_icmp .ge 32, 3) := oc_162 shX12_lock_30 sgw_0_32
theorem dX12_lock_33 : decode cX12_lock 33 = .ok (.aload_n 0, 1) := oc_42 shX12_lock_33
theorem dX12_lock_34 : decode cX12_lock 34 = .ok (.iload 4, 2) := oc_21 shX12_lock_34
theorem dX12_lock_36 : decode cX12_lock 36 = .ok (.iload_n 1, 1) := oc_27 shX12_lock_36
theorem dX12_lock_37 : decode cX12_lock 37 = .ok (.invokevirtual 475, 3) := oc_182 shX12_lock_37
theorem dX12_lock_40 : decode cX12_lock 40 = .ok (.aload_n 0, 1) := oc_42 shX12_lock_40
theorem dX12_lock_41 : decode cX12_lock 41 = .ok (.iload_n 3, 1) := oc_29 shX12_lock_41
theorem dX12_lock_42 : decode cX12_lock 42 = .ok (.iload_n 1, 1) := oc_27 shX12_lock_42
theorem dX12_lock_43 : decode cX12_lock 43 = .ok (.invokevirtual 475, 3) := oc_182 shX12_lock_43
theorem dX12_lock_46 : decode cX12_lock 46 = .ok (.if_icmp .le 8, 3) := oc_164 shX12_lock_46 sgw_0_8
theorem dX12_lock_49 : decode cX12_lock 49 = .ok (.iload 4, 2) := oc_21 shX12_lock_49
theorem dX12_lock_51 : decode cX12_lock 51 = .ok (.goto 4, 3) := oc_167 shX12_lock_51 sgw_0_4
theorem dX12_lock_54 : decode cX12_lock 54 = .ok (.iload_n 3, 1) := oc_29 shX12_lock_54
theorem dX12_lock_55 : decode cX12_lock 55 = .ok (.istore_n 3, 1) := oc_62 shX12_lock_55
theorem dX12_lock_56 : decode cX12_lock 56 = .ok (.iinc 4 1, 3) := oc_132 shX12_lock_56 sgb_1
theorem dX12_lock_59 : decode cX12_lock 59 = .ok (.goto (-33), 3) := oc_167 shX12_lock_59 sgw_255_223
theorem dX12_lock_62 : decode cX12_lock 62 = .ok (.iload_n 2, 1) := oc_28 shX12_lock_62
theorem dX12_lock_63 : decode cX12_lock 63 = .ok (.ifCond .ne 7, 3) := oc_154 shX12_lock_63 sgw_0_7
theorem dX12_lock_66 : decode cX12_lock 66 = .ok (.iload_n 3, 1) := oc_29 shX12_lock_66
theorem dX12_lock_67 : decode cX12_lock 67 = .ok (.goto 9, 3) := oc_167 shX12_lock_67 sgw_0_9
theorem dX12_lock_70 : decode cX12_lock 70 = .ok (.aload_n 0, 1) := oc_42 shX12_lock_70
theorem dX12_lock_71 : decode cX12_lock 71 = .ok (.iload_n 3, 1) := oc_29 shX12_lock_71
theorem dX12_lock_72 : decode cX12_lock 72 = .ok (.iload_n 1, 1) := oc_27 shX12_lock_72
theorem dX12_lock_73 : decode cX12_lock 73 = .ok (.invokevirtual 475, 3) := oc_182 shX12_lock_73
theorem dX12_lock_76 : decode cX12_lock 76 = .ok (.ireturn, 1) := oc_172 shX12_lock_76
noncomputable def sxX12_sewer_68 : List UInt8 := []
noncomputable def sxX12_sewer_67 : List UInt8 := 172 :: sxX12_sewer_68
noncomputable def sxX12_sewer_66 : List UInt8 := 100 :: sxX12_sewer_67
noncomputable def sxX12_sewer_65 : List UInt8 := 4 :: sxX12_sewer_66
noncomputable def sxX12_sewer_62 : List UInt8 := 180 :: 1 :: 222 :: sxX12_sewer_65
noncomputable def sxX12_sewer_61 : List UInt8 := 42 :: sxX12_sewer_62
noncomputable def sxX12_sewer_58 : List UInt8 := 181 :: 1 :: 222 :: sxX12_sewer_61
noncomputable def sxX12_sewer_57 : List UInt8 := 96 :: sxX12_sewer_58
noncomputable def sxX12_sewer_56 : List UInt8 := 4 :: sxX12_sewer_57
noncomputable def sxX12_sewer_53 : List UInt8 := 180 :: 1 :: 222 :: sxX12_sewer_56
noncomputable def sxX12_sewer_52 : List UInt8 := 42 :: sxX12_sewer_53
noncomputable def sxX12_sewer_51 : List UInt8 := 42 :: sxX12_sewer_52
noncomputable def sxX12_sewer_50 : List UInt8 := 79 :: sxX12_sewer_51
noncomputable def sxX12_sewer_49 : List UInt8 := 28 :: sxX12_sewer_50
noncomputable def sxX12_sewer_46 : List UInt8 := 180 :: 1 :: 222 :: sxX12_sewer_49
noncomputable def sxX12_sewer_45 : List UInt8 := 42 :: sxX12_sewer_46
noncomputable def sxX12_sewer_42 : List UInt8 := 180 :: 0 :: 195 :: sxX12_sewer_45
noncomputable def sxX12_sewer_41 : List UInt8 := 42 :: sxX12_sewer_42
noncomputable def sxX12_sewer_40 : List UInt8 := 79 :: sxX12_sewer_41
noncomputable def sxX12_sewer_39 : List UInt8 := 27 :: sxX12_sewer_40
noncomputable def sxX12_sewer_36 : List UInt8 := 180 :: 1 :: 222 :: sxX12_sewer_39
noncomputable def sxX12_sewer_35 : List UInt8 := 42 :: sxX12_sewer_36
noncomputable def sxX12_sewer_32 : List UInt8 := 180 :: 0 :: 192 :: sxX12_sewer_35
noncomputable def sxX12_sewer_31 : List UInt8 := 42 :: sxX12_sewer_32
noncomputable def sxX12_sewer_30 : List UInt8 := 172 :: sxX12_sewer_31
noncomputable def sxX12_sewer_29 : List UInt8 := 2 :: sxX12_sewer_30
noncomputable def sxX12_sewer_26 : List UInt8 := 160 :: 0 :: 5 :: sxX12_sewer_29
noncomputable def sxX12_sewer_24 : List UInt8 := 16 :: 10 :: sxX12_sewer_26
noncomputable def sxX12_sewer_21 : List UInt8 := 180 :: 1 :: 222 :: sxX12_sewer_24
noncomputable def sxX12_sewer_20 : List UInt8 := 42 :: sxX12_sewer_21
noncomputable def sxX12_sewer_17 : List UInt8 := 153 :: 0 :: 12 :: sxX12_sewer_20
noncomputable def sxX12_sewer_14 : List UInt8 := 184 :: 0 :: 214 :: sxX12_sewer_17
noncomputable def sxX12_sewer_12 : List UInt8 := 16 :: 99 :: sxX12_sewer_14
noncomputable def sxX12_sewer_11 : List UInt8 := 3 :: sxX12_sewer_12
noncomputable def sxX12_sewer_10 : List UInt8 := 28 :: sxX12_sewer_11
noncomputable def sxX12_sewer_7 : List UInt8 := 153 :: 0 :: 22 :: sxX12_sewer_10
noncomputable def sxX12_sewer_4 : List UInt8 := 184 :: 0 :: 214 :: sxX12_sewer_7
noncomputable def sxX12_sewer_2 : List UInt8 := 16 :: 99 :: sxX12_sewer_4
noncomputable def sxX12_sewer_1 : List UInt8 := 3 :: sxX12_sewer_2
noncomputable def sxX12_sewer_0 : List UInt8 := 27 :: sxX12_sewer_1
theorem shX12_sewer_0 : cX12_sewer.data.toList.drop 0 = sxX12_sewer_0 := rfl
theorem shX12_sewer_1 : cX12_sewer.data.toList.drop 1 = sxX12_sewer_1 := dSn 1 shX12_sewer_0
theorem shX12_sewer_2 : cX12_sewer.data.toList.drop 2 = sxX12_sewer_2 := dSn 1 shX12_sewer_1
theorem shX12_sewer_4 : cX12_sewer.data.toList.drop 4 = sxX12_sewer_4 := dSn 2 shX12_sewer_2
theorem shX12_sewer_7 : cX12_sewer.data.toList.drop 7 = sxX12_sewer_7 := dSn 3 shX12_sewer_4
theorem shX12_sewer_10 : cX12_sewer.data.toList.drop 10 = sxX12_sewer_10 := dSn 3 shX12_sewer_7
theorem shX12_sewer_11 : cX12_sewer.data.toList.drop 11 = sxX12_sewer_11 := dSn 1 shX12_sewer_10
theorem shX12_sewer_12 : cX12_sewer.data.toList.drop 12 = sxX12_sewer_12 := dSn 1 shX12_sewer_11
theorem shX12_sewer_14 : cX12_sewer.data.toList.drop 14 = sxX12_sewer_14 := dSn 2 shX12_sewer_12
theorem shX12_sewer_17 : cX12_sewer.data.toList.drop 17 = sxX12_sewer_17 := dSn 3 shX12_sewer_14
theorem shX12_sewer_20 : cX12_sewer.data.toList.drop 20 = sxX12_sewer_20 := dSn 3 shX12_sewer_17
theorem shX12_sewer_21 : cX12_sewer.data.toList.drop 21 = sxX12_sewer_21 := dSn 1 shX12_sewer_20
theorem shX12_sewer_24 : cX12_sewer.data.toList.drop 24 = sxX12_sewer_24 := dSn 3 shX12_sewer_21
theorem shX12_sewer_26 : cX12_sewer.data.toList.drop 26 = sxX12_sewer_26 := dSn 2 shX12_sewer_24
theorem shX12_sewer_29 : cX12_sewer.data.toList.drop 29 = sxX12_sewer_29 := dSn 3 shX12_sewer_26
theorem shX12_sewer_30 : cX12_sewer.data.toList.drop 30 = sxX12_sewer_30 := dSn 1 shX12_sewer_29
theorem shX12_sewer_31 : cX12_sewer.data.toList.drop 31 = sxX12_sewer_31 := dSn 1 shX12_sewer_30
theorem shX12_sewer_32 : cX12_sewer.data.toList.drop 32 = sxX12_sewer_32 := dSn 1 shX12_sewer_31
theorem shX12_sewer_35 : cX12_sewer.data.toList.drop 35 = sxX12_sewer_35 := dSn 3 shX12_sewer_32
theorem shX12_sewer_36 : cX12_sewer.data.toList.drop 36 = sxX12_sewer_36 := dSn 1 shX12_sewer_35
theorem shX12_sewer_39 : cX12_sewer.data.toList.drop 39 = sxX12_sewer_39 := dSn 3 shX12_sewer_36
theorem shX12_sewer_40 : cX12_sewer.data.toList.drop 40 = sxX12_sewer_40 := dSn 1 shX12_sewer_39
theorem shX12_sewer_41 : cX12_sewer.data.toList.drop 41 = sxX12_sewer_41 := dSn 1 shX12_sewer_40
theorem shX12_sewer_42 : cX12_sewer.data.toList.drop 42 = sxX12_sewer_42 := dSn 1 shX12_sewer_41
theorem shX12_sewer_45 : cX12_sewer.data.toList.drop 45 = sxX12_sewer_45 := dSn 3 shX12_sewer_42
theorem shX12_sewer_46 : cX12_sewer.data.toList.drop 46 = sxX12_sewer_46 := dSn 1 shX12_sewer_45
theorem shX12_sewer_49 : cX12_sewer.data.toList.drop 49 = sxX12_sewer_49 := dSn 3 shX12_sewer_46
theorem shX12_sewer_50 : cX12_sewer.data.toList.drop 50 = sxX12_sewer_50 := dSn 1 shX12_sewer_49
theorem shX12_sewer_51 : cX12_sewer.data.toList.drop 51 = sxX12_sewer_51 := dSn 1 shX12_sewer_50
theorem shX12_sewer_52 : cX12_sewer.data.toList.drop 52 = sxX12_sewer_52 := dSn 1 shX12_sewer_51
theorem shX12_sewer_53 : cX12_sewer.data.toList.drop 53 = sxX12_sewer_53 := dSn 1 shX12_sewer_52
theorem shX12_sewer_56 : cX12_sewer.data.toList.drop 56 = sxX12_sewer_56 := dSn 3 shX12_sewer_53
theorem shX12_sewer_57 : cX12_sewer.data.toList.drop 57 = sxX12_sewer_57 := dSn 1 shX12_sewer_56
theorem shX12_sewer_58 : cX12_sewer.data.toList.drop 58 = sxX12_sewer_58 := dSn 1 shX12_sewer_57
theorem shX12_sewer_61 : cX12_sewer.data.toList.drop 61 = sxX12_sewer_61 := dSn 3 shX12_sewer_58
theorem shX12_sewer_62 : cX12_sewer.data.toList.drop 62 = sxX12_sewer_62 := dSn 1 shX12_sewer_61
theorem shX12_sewer_65 : cX12_sewer.data.toList.drop 65 = sxX12_sewer_65 := dSn 3 shX12_sewer_62
theorem shX12_sewer_66 : cX12_sewer.data.toList.drop 66 = sxX12_sewer_66 := dSn 1 shX12_sewer_65
theorem shX12_sewer_67 : cX12_sewer.data.toList.drop 67 = sxX12_sewer_67 := dSn 1 shX12_sewer_66
theorem dX12_sewer_0 : decode cX12_sewer 0 = .ok (.iload_n 1, 1) := oc_27 shX12_sewer_0
theorem dX12_sewer_1 : decode cX12_sewer 1 = .ok (.iconst 0, 1) := oc_3 shX12_sewer_1
theorem dX12_sewer_2 : decode cX12_sewer 2 = .ok (.bipush 99, 2) := oc_16 shX12_sewer_2 sgb_99
theorem dX12_sewer_4 : decode cX12_sewer 4 = .ok (.invokestatic 214, 3) := oc_184 shX12_sewer_4
theorem dX12_sewer_7 : decode cX12_sewer 7 = .ok (.ifCond .eq 22, 3) := oc_153 shX12_sewer_7 sgw_0_22
theorem dX12_sewer_10 : decode cX12_sewer 10 = .ok (.iload_n 2, 1) := oc_28 shX12_sewer_10
theorem dX12_sewer_11 : decode cX12_sewer 11 = .ok (.iconst 0, 1) := oc_3 shX12_sewer_11
theorem dX12_sewer_12 : decode cX12_sewer 12 = .ok (.bipush 99, 2) := oc_16 shX12_sewer_12 sgb_99
theorem dX12_sewer_14 : decode cX12_sewer 14 = .ok (.invokestatic 214, 3) := oc_184 shX12_sewer_14
theorem dX12_sewer_17 : decode cX12_sewer 17 = .ok (.ifCond .eq 12, 3) := oc_153 shX12_sewer_17 sgw_0_12
theorem dX12_sewer_20 : decode cX12_sewer 20 = .ok (.aload_n 0, 1) := oc_42 shX12_sewer_20
theorem dX12_sewer_21 : decode cX12_sewer 21 = .ok (.getfield 478, 3) := oc_180 shX12_sewer_21
theorem dX12_sewer_24 : decode cX12_sewer 24 = .ok (.bipush 10, 2) := oc_16 shX12_sewer_24 sgb_10
theorem dX12_sewer_26 : decode cX12_sewer 26 = .ok (.if_icmp .ne 5, 3) := oc_160 shX12_sewer_26 sgw_0_5
theorem dX12_sewer_29 : decode cX12_sewer 29 = .ok (.iconst (-1), 1) := oc_2 shX12_sewer_29
theorem dX12_sewer_30 : decode cX12_sewer 30 = .ok (.ireturn, 1) := oc_172 shX12_sewer_30
theorem dX12_sewer_31 : decode cX12_sewer 31 = .ok (.aload_n 0, 1) := oc_42 shX12_sewer_31
theorem dX12_sewer_32 : decode cX12_sewer 32 = .ok (.getfield 192, 3) := oc_180 shX12_sewer_32
theorem dX12_sewer_35 : decode cX12_sewer 35 = .ok (.aload_n 0, 1) := oc_42 shX12_sewer_35
theorem dX12_sewer_36 : decode cX12_sewer 36 = .ok (.getfield 478, 3) := oc_180 shX12_sewer_36
theorem dX12_sewer_39 : decode cX12_sewer 39 = .ok (.iload_n 1, 1) := oc_27 shX12_sewer_39
theorem dX12_sewer_40 : decode cX12_sewer 40 = .ok (.iastore, 1) := oc_79 shX12_sewer_40
theorem dX12_sewer_41 : decode cX12_sewer 41 = .ok (.aload_n 0, 1) := oc_42 shX12_sewer_41
theorem dX12_sewer_42 : decode cX12_sewer 42 = .ok (.getfield 195, 3) := oc_180 shX12_sewer_42
theorem dX12_sewer_45 : decode cX12_sewer 45 = .ok (.aload_n 0, 1) := oc_42 shX12_sewer_45
theorem dX12_sewer_46 : decode cX12_sewer 46 = .ok (.getfield 478, 3) := oc_180 shX12_sewer_46
theorem dX12_sewer_49 : decode cX12_sewer 49 = .ok (.iload_n 2, 1) := oc_28 shX12_sewer_49
theorem dX12_sewer_50 : decode cX12_sewer 50 = .ok (.iastore, 1) := oc_79 shX12_sewer_50
theorem dX12_sewer_51 : decode cX12_sewer 51 = .ok (.aload_n 0, 1) := oc_42 shX12_sewer_51
theorem dX12_sewer_52 : decode cX12_sewer 52 = .ok (.aload_n 0, 1) := oc_42 shX12_sewer_52
theorem dX12_sewer_53 : decode cX12_sewer 53 = .ok (.getfield 478, 3) := oc_180 shX12_sewer_53
theorem dX12_sewer_56 : decode cX12_sewer 56 = .ok (.iconst 1, 1) := oc_4 shX12_sewer_56
theorem dX12_sewer_57 : decode cX12_sewer 57 = .ok (.iadd, 1) := oc_96 shX12_sewer_57
theorem dX12_sewer_58 : decode cX12_sewer 58 = .ok (.putfield 478, 3) := oc_181 shX12_sewer_58
theorem dX12_sewer_61 : decode cX12_sewer 61 = .ok (.aload_n 0, 1) := oc_42 shX12_sewer_61
theorem dX12_sewer_62 : decode cX12_sewer 62 = .ok (.getfield 478, 3) := oc_180 shX12_sewer_62
theorem dX12_sewer_65 : decode cX12_sewer 65 = .ok (.iconst 1, 1) := oc_4 shX12_sewer_65
theorem dX12_sewer_66 : decode cX12_sewer 66 = .ok (.isub, 1) := oc_100 shX12_sewer_66
theorem dX12_sewer_67 : decode cX12_sewer 67 = .ok (.ireturn, 1) := oc_172 shX12_sewer_67
noncomputable def sxX12_blocked_35 : List UInt8 := []
noncomputable def sxX12_blocked_34 : List UInt8 := 172 :: sxX12_blocked_35
noncomputable def sxX12_blocked_33 : List UInt8 := 46 :: sxX12_blocked_34
noncomputable def sxX12_blocked_32 : List UInt8 := 27 :: sxX12_blocked_33
noncomputable def sxX12_blocked_29 : List UInt8 := 180 :: 0 :: 198 :: sxX12_blocked_32
noncomputable def sxX12_blocked_28 : List UInt8 := 42 :: sxX12_blocked_29
noncomputable def sxX12_blocked_27 : List UInt8 := 79 :: sxX12_blocked_28
noncomputable def sxX12_blocked_26 : List UInt8 := 96 :: sxX12_blocked_27
noncomputable def sxX12_blocked_25 : List UInt8 := 4 :: sxX12_blocked_26
noncomputable def sxX12_blocked_24 : List UInt8 := 46 :: sxX12_blocked_25
noncomputable def sxX12_blocked_23 : List UInt8 := 27 :: sxX12_blocked_24
noncomputable def sxX12_blocked_20 : List UInt8 := 180 :: 0 :: 198 :: sxX12_blocked_23
noncomputable def sxX12_blocked_19 : List UInt8 := 42 :: sxX12_blocked_20
noncomputable def sxX12_blocked_18 : List UInt8 := 27 :: sxX12_blocked_19
noncomputable def sxX12_blocked_15 : List UInt8 := 180 :: 0 :: 198 :: sxX12_blocked_18
noncomputable def sxX12_blocked_14 : List UInt8 := 42 :: sxX12_blocked_15
noncomputable def sxX12_blocked_13 : List UInt8 := 172 :: sxX12_blocked_14
noncomputable def sxX12_blocked_12 : List UInt8 := 2 :: sxX12_blocked_13
noncomputable def sxX12_blocked_9 : List UInt8 := 161 :: 0 :: 5 :: sxX12_blocked_12
noncomputable def sxX12_blocked_6 : List UInt8 := 180 :: 1 :: 222 :: sxX12_blocked_9
noncomputable def sxX12_blocked_5 : List UInt8 := 42 :: sxX12_blocked_6
noncomputable def sxX12_blocked_4 : List UInt8 := 27 :: sxX12_blocked_5
noncomputable def sxX12_blocked_1 : List UInt8 := 155 :: 0 :: 11 :: sxX12_blocked_4
noncomputable def sxX12_blocked_0 : List UInt8 := 27 :: sxX12_blocked_1
theorem shX12_blocked_0 : cX12_blocked.data.toList.drop 0 = sxX12_blocked_0 := rfl
theorem shX12_blocked_1 : cX12_blocked.data.toList.drop 1 = sxX12_blocked_1 := dSn 1 shX12_blocked_0
theorem shX12_blocked_4 : cX12_blocked.data.toList.drop 4 = sxX12_blocked_4 := dSn 3 shX12_blocked_1
theorem shX12_blocked_5 : cX12_blocked.data.toList.drop 5 = sxX12_blocked_5 := dSn 1 shX12_blocked_4
theorem shX12_blocked_6 : cX12_blocked.data.toList.drop 6 = sxX12_blocked_6 := dSn 1 shX12_blocked_5
theorem shX12_blocked_9 : cX12_blocked.data.toList.drop 9 = sxX12_blocked_9 := dSn 3 shX12_blocked_6
theorem shX12_blocked_12 : cX12_blocked.data.toList.drop 12 = sxX12_blocked_12 := dSn 3 shX12_blocked_9
theorem shX12_blocked_13 : cX12_blocked.data.toList.drop 13 = sxX12_blocked_13 := dSn 1 shX12_blocked_12
theorem shX12_blocked_14 : cX12_blocked.data.toList.drop 14 = sxX12_blocked_14 := dSn 1 shX12_blocked_13
theorem shX12_blocked_15 : cX12_blocked.data.toList.drop 15 = sxX12_blocked_15 := dSn 1 shX12_blocked_14
theorem shX12_blocked_18 : cX12_blocked.data.toList.drop 18 = sxX12_blocked_18 := dSn 3 shX12_blocked_15
theorem shX12_blocked_19 : cX12_blocked.data.toList.drop 19 = sxX12_blocked_19 := dSn 1 shX12_blocked_18
theorem shX12_blocked_20 : cX12_blocked.data.toList.drop 20 = sxX12_blocked_20 := dSn 1 shX12_blocked_19
theorem shX12_blocked_23 : cX12_blocked.data.toList.drop 23 = sxX12_blocked_23 := dSn 3 shX12_blocked_20
theorem shX12_blocked_24 : cX12_blocked.data.toList.drop 24 = sxX12_blocked_24 := dSn 1 shX12_blocked_23
theorem shX12_blocked_25 : cX12_blocked.data.toList.drop 25 = sxX12_blocked_25 := dSn 1 shX12_blocked_24
theorem shX12_blocked_26 : cX12_blocked.data.toList.drop 26 = sxX12_blocked_26 := dSn 1 shX12_blocked_25
theorem shX12_blocked_27 : cX12_blocked.data.toList.drop 27 = sxX12_blocked_27 := dSn 1 shX12_blocked_26
theorem shX12_blocked_28 : cX12_blocked.data.toList.drop 28 = sxX12_blocked_28 := dSn 1 shX12_blocked_27
theorem shX12_blocked_29 : cX12_blocked.data.toList.drop 29 = sxX12_blocked_29 := dSn 1 shX12_blocked_28
theorem shX12_blocked_32 : cX12_blocked.data.toList.drop 32 = sxX12_blocked_32 := dSn 3 shX12_blocked_29
theorem shX12_blocked_33 : cX12_blocked.data.toList.drop 33 = sxX12_blocked_33 := dSn 1 shX12_blocked_32
theorem shX12_blocked_34 : cX12_blocked.data.toList.drop 34 = sxX12_blocked_34 := dSn 1 shX12_blocked_33
theorem dX12_blocked_0 : decode cX12_blocked 0 = .ok (.iload_n 1, 1) := oc_27 shX12_blocked_0
theorem dX12_blocked_1 : decode cX12_blocked 1 = .ok (.ifCond .lt 11, 3) := oc_155 shX12_blocked_1 sgw_0_11
theorem dX12_blocked_4 : decode cX12_blocked 4 = .ok (.iload_n 1, 1) := oc_27 shX12_blocked_4
theorem dX12_blocked_5 : decode cX12_blocked 5 = .ok (.aload_n 0, 1) := oc_42 shX12_blocked_5
theorem dX12_blocked_6 : decode cX12_blocked 6 = .ok (.getfield 478, 3) := oc_180 shX12_blocked_6
theorem dX12_blocked_9 : decode cX12_blocked 9 = .ok (.if_icmp .lt 5, 3) := oc_161 shX12_blocked_9 sgw_0_5
theorem dX12_blocked_12 : decode cX12_blocked 12 = .ok (.iconst (-1), 1) := oc_2 shX12_blocked_12
theorem dX12_blocked_13 : decode cX12_blocked 13 = .ok (.ireturn, 1) := oc_172 shX12_blocked_13
theorem dX12_blocked_14 : decode cX12_blocked 14 = .ok (.aload_n 0, 1) := oc_42 shX12_blocked_14
theorem dX12_blocked_15 : decode cX12_blocked 15 = .ok (.getfield 198, 3) := oc_180 shX12_blocked_15
theorem dX12_blocked_18 : decode cX12_blocked 18 = .ok (.iload_n 1, 1) := oc_27 shX12_blocked_18
theorem dX12_blocked_19 : decode cX12_blocked 19 = .ok (.aload_n 0, 1) := oc_42 shX12_blocked_19
theorem dX12_blocked_20 : decode cX12_blocked 20 = .ok (.getfield 198, 3) := oc_180 shX12_blocked_20
theorem dX12_blocked_23 : decode cX12_blocked 23 = .ok (.iload_n 1, 1) := oc_27 shX12_blocked_23
theorem dX12_blocked_24 : decode cX12_blocked 24 = .ok (.iaload, 1) := oc_46 shX12_blocked_24
theorem dX12_blocked_25 : decode cX12_blocked 25 = .ok (.iconst 1, 1) := oc_4 shX12_blocked_25
theorem dX12_blocked_26 : decode cX12_blocked 26 = .ok (.iadd, 1) := oc_96 shX12_blocked_26
theorem dX12_blocked_27 : decode cX12_blocked 27 = .ok (.iastore, 1) := oc_79 shX12_blocked_27
theorem dX12_blocked_28 : decode cX12_blocked 28 = .ok (.aload_n 0, 1) := oc_42 shX12_blocked_28
theorem dX12_blocked_29 : decode cX12_blocked 29 = .ok (.getfield 198, 3) := oc_180 shX12_blocked_29
theorem dX12_blocked_32 : decode cX12_blocked 32 = .ok (.iload_n 1, 1) := oc_27 shX12_blocked_32
theorem dX12_blocked_33 : decode cX12_blocked 33 = .ok (.iaload, 1) := oc_46 shX12_blocked_33
theorem dX12_blocked_34 : decode cX12_blocked 34 = .ok (.ireturn, 1) := oc_172 shX12_blocked_34
noncomputable def sxX12_beside_127 : List UInt8 := []
noncomputable def sxX12_beside_126 : List UInt8 := 172 :: sxX12_beside_127
noncomputable def sxX12_beside_125 : List UInt8 := 29 :: sxX12_beside_126
noncomputable def sxX12_beside_122 : List UInt8 := 167 :: 255 :: 163 :: sxX12_beside_125
noncomputable def sxX12_beside_119 : List UInt8 := 132 :: 4 :: 1 :: sxX12_beside_122
noncomputable def sxX12_beside_116 : List UInt8 := 167 :: 255 :: 181 :: sxX12_beside_119
noncomputable def sxX12_beside_113 : List UInt8 := 132 :: 5 :: 1 :: sxX12_beside_116
noncomputable def sxX12_beside_112 : List UInt8 := 62 :: sxX12_beside_113
noncomputable def sxX12_beside_111 : List UInt8 := 128 :: sxX12_beside_112
noncomputable def sxX12_beside_110 : List UInt8 := 120 :: sxX12_beside_111
noncomputable def sxX12_beside_108 : List UInt8 := 21 :: 4 :: sxX12_beside_110
noncomputable def sxX12_beside_107 : List UInt8 := 4 :: sxX12_beside_108
noncomputable def sxX12_beside_106 : List UInt8 := 29 :: sxX12_beside_107
noncomputable def sxX12_beside_103 : List UInt8 := 163 :: 0 :: 10 :: sxX12_beside_106
noncomputable def sxX12_beside_102 : List UInt8 := 27 :: sxX12_beside_103
noncomputable def sxX12_beside_99 : List UInt8 := 184 :: 1 :: 104 :: sxX12_beside_102
noncomputable def sxX12_beside_98 : List UInt8 := 46 :: sxX12_beside_99
noncomputable def sxX12_beside_96 : List UInt8 := 21 :: 5 :: sxX12_beside_98
noncomputable def sxX12_beside_93 : List UInt8 := 180 :: 0 :: 195 :: sxX12_beside_96
noncomputable def sxX12_beside_92 : List UInt8 := 42 :: sxX12_beside_93
noncomputable def sxX12_beside_91 : List UInt8 := 46 :: sxX12_beside_92
noncomputable def sxX12_beside_89 : List UInt8 := 21 :: 5 :: sxX12_beside_91
noncomputable def sxX12_beside_86 : List UInt8 := 180 :: 0 :: 192 :: sxX12_beside_89
noncomputable def sxX12_beside_85 : List UInt8 := 42 :: sxX12_beside_86
noncomputable def sxX12_beside_84 : List UInt8 := 46 :: sxX12_beside_85
noncomputable def sxX12_beside_82 : List UInt8 := 21 :: 4 :: sxX12_beside_84
noncomputable def sxX12_beside_79 : List UInt8 := 180 :: 0 :: 13 :: sxX12_beside_82
noncomputable def sxX12_beside_78 : List UInt8 := 42 :: sxX12_beside_79
noncomputable def sxX12_beside_77 : List UInt8 := 46 :: sxX12_beside_78
noncomputable def sxX12_beside_75 : List UInt8 := 21 :: 4 :: sxX12_beside_77
noncomputable def sxX12_beside_72 : List UInt8 := 180 :: 0 :: 7 :: sxX12_beside_75
noncomputable def sxX12_beside_71 : List UInt8 := 42 :: sxX12_beside_72
noncomputable def sxX12_beside_68 : List UInt8 := 161 :: 0 :: 45 :: sxX12_beside_71
noncomputable def sxX12_beside_67 : List UInt8 := 28 :: sxX12_beside_68
noncomputable def sxX12_beside_66 : List UInt8 := 46 :: sxX12_beside_67
noncomputable def sxX12_beside_64 : List UInt8 := 21 :: 5 :: sxX12_beside_66
noncomputable def sxX12_beside_61 : List UInt8 := 180 :: 0 :: 198 :: sxX12_beside_64
noncomputable def sxX12_beside_60 : List UInt8 := 42 :: sxX12_beside_61
noncomputable def sxX12_beside_57 : List UInt8 := 154 :: 0 :: 56 :: sxX12_beside_60
noncomputable def sxX12_beside_56 : List UInt8 := 46 :: sxX12_beside_57
noncomputable def sxX12_beside_54 : List UInt8 := 21 :: 4 :: sxX12_beside_56
noncomputable def sxX12_beside_51 : List UInt8 := 180 :: 0 :: 16 :: sxX12_beside_54
noncomputable def sxX12_beside_50 : List UInt8 := 42 :: sxX12_beside_51
noncomputable def sxX12_beside_47 : List UInt8 := 162 :: 0 :: 72 :: sxX12_beside_50
noncomputable def sxX12_beside_44 : List UInt8 := 180 :: 1 :: 222 :: sxX12_beside_47
noncomputable def sxX12_beside_43 : List UInt8 := 42 :: sxX12_beside_44
noncomputable def sxX12_beside_41 : List UInt8 := 21 :: 5 :: sxX12_beside_43
noncomputable def sxX12_beside_39 : List UInt8 := 54 :: 5 :: sxX12_beside_41
noncomputable def sxX12_beside_38 : List UInt8 := 3 :: sxX12_beside_39
noncomputable def sxX12_beside_35 : List UInt8 := 162 :: 0 :: 90 :: sxX12_beside_38
noncomputable def sxX12_beside_32 : List UInt8 := 180 :: 0 :: 204 :: sxX12_beside_35
noncomputable def sxX12_beside_31 : List UInt8 := 42 :: sxX12_beside_32
noncomputable def sxX12_beside_29 : List UInt8 := 21 :: 4 :: sxX12_beside_31
noncomputable def sxX12_beside_27 : List UInt8 := 54 :: 4 :: sxX12_beside_29
noncomputable def sxX12_beside_26 : List UInt8 := 3 :: sxX12_beside_27
noncomputable def sxX12_beside_25 : List UInt8 := 62 :: sxX12_beside_26
noncomputable def sxX12_beside_24 : List UInt8 := 3 :: sxX12_beside_25
noncomputable def sxX12_beside_23 : List UInt8 := 172 :: sxX12_beside_24
noncomputable def sxX12_beside_22 : List UInt8 := 2 :: sxX12_beside_23
noncomputable def sxX12_beside_19 : List UInt8 := 154 :: 0 :: 5 :: sxX12_beside_22
noncomputable def sxX12_beside_16 : List UInt8 := 184 :: 0 :: 214 :: sxX12_beside_19
noncomputable def sxX12_beside_13 : List UInt8 := 17 :: 3 :: 232 :: sxX12_beside_16
noncomputable def sxX12_beside_12 : List UInt8 := 4 :: sxX12_beside_13
noncomputable def sxX12_beside_11 : List UInt8 := 28 :: sxX12_beside_12
noncomputable def sxX12_beside_8 : List UInt8 := 153 :: 0 :: 14 :: sxX12_beside_11
noncomputable def sxX12_beside_5 : List UInt8 := 184 :: 0 :: 214 :: sxX12_beside_8
noncomputable def sxX12_beside_2 : List UInt8 := 17 :: 0 :: 198 :: sxX12_beside_5
noncomputable def sxX12_beside_1 : List UInt8 := 3 :: sxX12_beside_2
noncomputable def sxX12_beside_0 : List UInt8 := 27 :: sxX12_beside_1
theorem shX12_beside_0 : cX12_beside.data.toList.drop 0 = sxX12_beside_0 := rfl
theorem shX12_beside_1 : cX12_beside.data.toList.drop 1 = sxX12_beside_1 := dSn 1 shX12_beside_0
theorem shX12_beside_2 : cX12_beside.data.toList.drop 2 = sxX12_beside_2 := dSn 1 shX12_beside_1
theorem shX12_beside_5 : cX12_beside.data.toList.drop 5 = sxX12_beside_5 := dSn 3 shX12_beside_2
theorem shX12_beside_8 : cX12_beside.data.toList.drop 8 = sxX12_beside_8 := dSn 3 shX12_beside_5
theorem shX12_beside_11 : cX12_beside.data.toList.drop 11 = sxX12_beside_11 := dSn 3 shX12_beside_8
theorem shX12_beside_12 : cX12_beside.data.toList.drop 12 = sxX12_beside_12 := dSn 1 shX12_beside_11
theorem shX12_beside_13 : cX12_beside.data.toList.drop 13 = sxX12_beside_13 := dSn 1 shX12_beside_12
theorem shX12_beside_16 : cX12_beside.data.toList.drop 16 = sxX12_beside_16 := dSn 3 shX12_beside_13
theorem shX12_beside_19 : cX12_beside.data.toList.drop 19 = sxX12_beside_19 := dSn 3 shX12_beside_16
theorem shX12_beside_22 : cX12_beside.data.toList.drop 22 = sxX12_beside_22 := dSn 3 shX12_beside_19
theorem shX12_beside_23 : cX12_beside.data.toList.drop 23 = sxX12_beside_23 := dSn 1 shX12_beside_22
theorem shX12_beside_24 : cX12_beside.data.toList.drop 24 = sxX12_beside_24 := dSn 1 shX12_beside_23
theorem shX12_beside_25 : cX12_beside.data.toList.drop 25 = sxX12_beside_25 := dSn 1 shX12_beside_24
theorem shX12_beside_26 : cX12_beside.data.toList.drop 26 = sxX12_beside_26 := dSn 1 shX12_beside_25
theorem shX12_beside_27 : cX12_beside.data.toList.drop 27 = sxX12_beside_27 := dSn 1 shX12_beside_26
theorem shX12_beside_29 : cX12_beside.data.toList.drop 29 = sxX12_beside_29 := dSn 2 shX12_beside_27
theorem shX12_beside_31 : cX12_beside.data.toList.drop 31 = sxX12_beside_31 := dSn 2 shX12_beside_29
theorem shX12_beside_32 : cX12_beside.data.toList.drop 32 = sxX12_beside_32 := dSn 1 shX12_beside_31
theorem shX12_beside_35 : cX12_beside.data.toList.drop 35 = sxX12_beside_35 := dSn 3 shX12_beside_32
theorem shX12_beside_38 : cX12_beside.data.toList.drop 38 = sxX12_beside_38 := dSn 3 shX12_beside_35
theorem shX12_beside_39 : cX12_beside.data.toList.drop 39 = sxX12_beside_39 := dSn 1 shX12_beside_38
theorem shX12_beside_41 : cX12_beside.data.toList.drop 41 = sxX12_beside_41 := dSn 2 shX12_beside_39
theorem shX12_beside_43 : cX12_beside.data.toList.drop 43 = sxX12_beside_43 := dSn 2 shX12_beside_41
theorem shX12_beside_44 : cX12_beside.data.toList.drop 44 = sxX12_beside_44 := dSn 1 shX12_beside_43
theorem shX12_beside_47 : cX12_beside.data.toList.drop 47 = sxX12_beside_47 := dSn 3 shX12_beside_44
theorem shX12_beside_50 : cX12_beside.data.toList.drop 50 = sxX12_beside_50 := dSn 3 shX12_beside_47
theorem shX12_beside_51 : cX12_beside.data.toList.drop 51 = sxX12_beside_51 := dSn 1 shX12_beside_50
theorem shX12_beside_54 : cX12_beside.data.toList.drop 54 = sxX12_beside_54 := dSn 3 shX12_beside_51
theorem shX12_beside_56 : cX12_beside.data.toList.drop 56 = sxX12_beside_56 := dSn 2 shX12_beside_54
theorem shX12_beside_57 : cX12_beside.data.toList.drop 57 = sxX12_beside_57 := dSn 1 shX12_beside_56
theorem shX12_beside_60 : cX12_beside.data.toList.drop 60 = sxX12_beside_60 := dSn 3 shX12_beside_57
theorem shX12_beside_61 : cX12_beside.data.toList.drop 61 = sxX12_beside_61 := dSn 1 shX12_beside_60
theorem shX12_beside_64 : cX12_beside.data.toList.drop 64 = sxX12_beside_64 := dSn 3 shX12_beside_61
theorem shX12_beside_66 : cX12_beside.data.toList.drop 66 = sxX12_beside_66 := dSn 2 shX12_beside_64
theorem shX12_beside_67 : cX12_beside.data.toList.drop 67 = sxX12_beside_67 := dSn 1 shX12_beside_66
theorem shX12_beside_68 : cX12_beside.data.toList.drop 68 = sxX12_beside_68 := dSn 1 shX12_beside_67
theorem shX12_beside_71 : cX12_beside.data.toList.drop 71 = sxX12_beside_71 := dSn 3 shX12_beside_68
theorem shX12_beside_72 : cX12_beside.data.toList.drop 72 = sxX12_beside_72 := dSn 1 shX12_beside_71
theorem shX12_beside_75 : cX12_beside.data.toList.drop 75 = sxX12_beside_75 := dSn 3 shX12_beside_72
theorem shX12_beside_77 : cX12_beside.data.toList.drop 77 = sxX12_beside_77 := dSn 2 shX12_beside_75
theorem shX12_beside_78 : cX12_beside.data.toList.drop 78 = sxX12_beside_78 := dSn 1 shX12_beside_77
theorem shX12_beside_79 : cX12_beside.data.toList.drop 79 = sxX12_beside_79 := dSn 1 shX12_beside_78
theorem shX12_beside_82 : cX12_beside.data.toList.drop 82 = sxX12_beside_82 := dSn 3 shX12_beside_79
theorem shX12_beside_84 : cX12_beside.data.toList.drop 84 = sxX12_beside_84 := dSn 2 shX12_beside_82
theorem shX12_beside_85 : cX12_beside.data.toList.drop 85 = sxX12_beside_85 := dSn 1 shX12_beside_84
theorem shX12_beside_86 : cX12_beside.data.toList.drop 86 = sxX12_beside_86 := dSn 1 shX12_beside_85
theorem shX12_beside_89 : cX12_beside.data.toList.drop 89 = sxX12_beside_89 := dSn 3 shX12_beside_86
theorem shX12_beside_91 : cX12_beside.data.toList.drop 91 = sxX12_beside_91 := dSn 2 shX12_beside_89
theorem shX12_beside_92 : cX12_beside.data.toList.drop 92 = sxX12_beside_92 := dSn 1 shX12_beside_91
theorem shX12_beside_93 : cX12_beside.data.toList.drop 93 = sxX12_beside_93 := dSn 1 shX12_beside_92
theorem shX12_beside_96 : cX12_beside.data.toList.drop 96 = sxX12_beside_96 := dSn 3 shX12_beside_93
theorem shX12_beside_98 : cX12_beside.data.toList.drop 98 = sxX12_beside_98 := dSn 2 shX12_beside_96
theorem shX12_beside_99 : cX12_beside.data.toList.drop 99 = sxX12_beside_99 := dSn 1 shX12_beside_98
theorem shX12_beside_102 : cX12_beside.data.toList.drop 102 = sxX12_beside_102 := dSn 3 shX12_beside_99
theorem shX12_beside_103 : cX12_beside.data.toList.drop 103 = sxX12_beside_103 := dSn 1 shX12_beside_102
theorem shX12_beside_106 : cX12_beside.data.toList.drop 106 = sxX12_beside_106 := dSn 3 shX12_beside_103
theorem shX12_beside_107 : cX12_beside.data.toList.drop 107 = sxX12_beside_107 := dSn 1 shX12_beside_106
theorem shX12_beside_108 : cX12_beside.data.toList.drop 108 = sxX12_beside_108 := dSn 1 shX12_beside_107
theorem shX12_beside_110 : cX12_beside.data.toList.drop 110 = sxX12_beside_110 := dSn 2 shX12_beside_108
theorem shX12_beside_111 : cX12_beside.data.toList.drop 111 = sxX12_beside_111 := dSn 1 shX12_beside_110
theorem shX12_beside_112 : cX12_beside.data.toList.drop 112 = sxX12_beside_112 := dSn 1 shX12_beside_111
theorem shX12_beside_113 : cX12_beside.data.toList.drop 113 = sxX12_beside_113 := dSn 1 shX12_beside_112
theorem shX12_beside_116 : cX12_beside.data.toList.drop 116 = sxX12_beside_116 := dSn 3 shX12_beside_113
theorem shX12_beside_119 : cX12_beside.data.toList.drop 119 = sxX12_beside_119 := dSn 3 shX12_beside_116
theorem shX12_beside_122 : cX12_beside.data.toList.drop 122 = sxX12_beside_122 := dSn 3 shX12_beside_119
theorem shX12_beside_125 : cX12_beside.data.toList.drop 125 = sxX12_beside_125 := dSn 3 shX12_beside_122
theorem shX12_beside_126 : cX12_beside.data.toList.drop 126 = sxX12_beside_126 := dSn 1 shX12_beside_125
theorem dX12_beside_0 : decode cX12_beside 0 = .ok (.iload_n 1, 1) := oc_27 shX12_beside_0
theorem dX12_beside_1 : decode cX12_beside 1 = .ok (.iconst 0, 1) := oc_3 shX12_beside_1
theorem dX12_beside_2 : decode cX12_beside 2 = .ok (.sipush 198, 3) := oc_17 shX12_beside_2 sgw_0_198
theorem dX12_beside_5 : decode cX12_beside 5 = .ok (.invokestatic 214, 3) := oc_184 shX12_beside_5
theorem dX12_beside_8 : decode cX12_beside 8 = .ok (.ifCond .eq 14, 3) := oc_153 shX12_beside_8 sgw_0_14
theorem dX12_beside_11 : decode cX12_beside 11 = .ok (.iload_n 2, 1) := oc_28 shX12_beside_11
theorem dX12_beside_12 : decode cX12_beside 12 = .ok (.iconst 1, 1) := oc_4 shX12_beside_12
theorem dX12_beside_13 : decode cX12_beside 13 = .ok (.sipush 1000, 3) := oc_17 shX12_beside_13 sgw_3_232
theorem dX12_beside_16 : decode cX12_beside 16 = .ok (.invokestatic 214, 3) := oc_184 shX12_beside_16
theorem dX12_beside_19 : decode cX12_beside 19 = .ok (.ifCond .ne 5, 3) := oc_154 shX12_beside_19 sgw_0_5
theorem dX12_beside_22 : decode cX12_beside 22 = .ok (.iconst (-1), 1) := oc_2 shX12_beside_22
theorem dX12_beside_23 : decode cX12_beside 23 = .ok (.ireturn, 1) := oc_172 shX12_beside_23
theorem dX12_beside_24 : decode cX12_beside 24 = .ok (.iconst 0, 1) := oc_3 shX12_beside_24
theorem dX12_beside_25 : decode cX12_beside 25 = .ok (.istore_n 3, 1) := oc_62 shX12_beside_25
theorem dX12_beside_26 : decode cX12_beside 26 = .ok (.iconst 0, 1) := oc_3 shX12_beside_26
theorem dX12_beside_27 : decode cX12_beside 27 = .ok (.istore 4, 2) := oc_54 shX12_beside_27
theorem dX12_beside_29 : decode cX12_beside 29 = .ok (.iload 4, 2) := oc_21 shX12_beside_29
theorem dX12_beside_31 : decode cX12_beside 31 = .ok (.aload_n 0, 1) := oc_42 shX12_beside_31
theorem dX12_beside_32 : decode cX12_beside 32 = .ok (.getfield 204, 3) := oc_180 shX12_beside_32
theorem dX12_beside_35 : decode cX12_beside 35 = .ok (.if_icmp .ge 90, 3) := oc_162 shX12_beside_35 sgw_0_90
theorem dX12_beside_38 : decode cX12_beside 38 = .ok (.iconst 0, 1) := oc_3 shX12_beside_38
theorem dX12_beside_39 : decode cX12_beside 39 = .ok (.istore 5, 2) := oc_54 shX12_beside_39
theorem dX12_beside_41 : decode cX12_beside 41 = .ok (.iload 5, 2) := oc_21 shX12_beside_41
theorem dX12_beside_43 : decode cX12_beside 43 = .ok (.aload_n 0, 1) := oc_42 shX12_beside_43
theorem dX12_beside_44 : decode cX12_beside 44 = .ok (.getfield 478, 3) := oc_180 shX12_beside_44
theorem dX12_beside_47 : decode cX12_beside 47 = .ok (.if_icmp .ge 72, 3) := oc_162 shX12_beside_47 sgw_0_72
theorem dX12_beside_50 : decode cX12_beside 50 = .ok (.aload_n 0, 1) := oc_42 shX12_beside_50
theorem dX12_beside_51 : decode cX12_beside 51 = .ok (.getfield 16, 3) := oc_180 shX12_beside_51
theorem dX12_beside_54 : decode cX12_beside 54 = .ok (.iload 4, 2) := oc_21 shX12_beside_54
theorem dX12_beside_56 : decode cX12_beside 56 = .ok (.iaload, 1) := oc_46 shX12_beside_56
theorem dX12_beside_57 : decode cX12_beside 57 = .ok (.ifCond .ne 56, 3) := oc_154 shX12_beside_57 sgw_0_56
theorem dX12_beside_60 : decode cX12_beside 60 = .ok (.aload_n 0, 1) := oc_42 shX12_beside_60
theorem dX12_beside_61 : decode cX12_beside 61 = .ok (.getfield 198, 3) := oc_180 shX12_beside_61
theorem dX12_beside_64 : decode cX12_beside 64 = .ok (.iload 5, 2) := oc_21 shX12_beside_64
theorem dX12_beside_66 : decode cX12_beside 66 = .ok (.iaload, 1) := oc_46 shX12_beside_66
theorem dX12_beside_67 : decode cX12_beside 67 = .ok (.iload_n 2, 1) := oc_28 shX12_beside_67
theorem dX12_beside_68 : decode cX12_beside 68 = .ok (.if_icmp .lt 45, 3) := oc_161 shX12_beside_68 sgw_0_45
theorem dX12_beside_71 : decode cX12_beside 71 = .ok (.aload_n 0, 1) := oc_42 shX12_beside_71
theorem dX12_beside_72 : decode cX12_beside 72 = .ok (.getfield 7, 3) := oc_180 shX12_beside_72
theorem dX12_beside_75 : decode cX12_beside 75 = .ok (.iload 4, 2) := oc_21 shX12_beside_75
theorem dX12_beside_77 : decode cX12_beside 77 = .ok (.iaload, 1) := oc_46 shX12_beside_77
theorem dX12_beside_78 : decode cX12_beside 78 = .ok (.aload_n 0, 1) := oc_42 shX12_beside_78
theorem dX12_beside_79 : decode cX12_beside 79 = .ok (.getfield 13, 3) := oc_180 shX12_beside_79
theorem dX12_beside_82 : decode cX12_beside 82 = .ok (.iload 4, 2) := oc_21 shX12_beside_82
theorem dX12_beside_84 : decode cX12_beside 84 = .ok (.iaload, 1) := oc_46 shX12_beside_84
theorem dX12_beside_85 : decode cX12_beside 85 = .ok (.aload_n 0, 1) := oc_42 shX12_beside_85
theorem dX12_beside_86 : decode cX12_beside 86 = .ok (.getfield 192, 3) := oc_180 shX12_beside_86
theorem dX12_beside_89 : decode cX12_beside 89 = .ok (.iload 5, 2) := oc_21 shX12_beside_89
theorem dX12_beside_91 : decode cX12_beside 91 = .ok (.iaload, 1) := oc_46 shX12_beside_91
theorem dX12_beside_92 : decode cX12_beside 92 = .ok (.aload_n 0, 1) := oc_42 shX12_beside_92
theorem dX12_beside_93 : decode cX12_beside 93 = .ok (.getfield 195, 3) := oc_180 shX12_beside_93
theorem dX12_beside_96 : decode cX12_beside 96 = .ok (.iload 5, 2) := oc_21 shX12_beside_96
theorem dX12_beside_98 : decode cX12_beside 98 = .ok (.iaload, 1) := oc_46 shX12_beside_98
theorem dX12_beside_99 : decode cX12_beside 99 = .ok (.invokestatic 360, 3) := oc_184 shX12_beside_99
theorem dX12_beside_102 : decode cX12_beside 102 = .ok (.iload_n 1, 1) := oc_27 shX12_beside_102
theorem dX12_beside_103 : decode cX12_beside 103 = .ok (.if_icmp .gt 10, 3) := oc_163 shX12_beside_103 sgw_0_10
theorem dX12_beside_106 : decode cX12_beside 106 = .ok (.iload_n 3, 1) := oc_29 shX12_beside_106
theorem dX12_beside_107 : decode cX12_beside 107 = .ok (.iconst 1, 1) := oc_4 shX12_beside_107
theorem dX12_beside_108 : decode cX12_beside 108 = .ok (.iload 4, 2) := oc_21 shX12_beside_108
theorem dX12_beside_110 : decode cX12_beside 110 = .ok (.ishl, 1) := oc_120 shX12_beside_110
theorem dX12_beside_111 : decode cX12_beside 111 = .ok (.ior, 1) := oc_128 shX12_beside_111
theorem dX12_beside_112 : decode cX12_beside 112 = .ok (.istore_n 3, 1) := oc_62 shX12_beside_112
theorem dX12_beside_113 : decode cX12_beside 113 = .ok (.iinc 5 1, 3) := oc_132 shX12_beside_113 sgb_1
theorem dX12_beside_116 : decode cX12_beside 116 = .ok (.goto (-75), 3) := oc_167 shX12_beside_116 sgw_255_181
theorem dX12_beside_119 : decode cX12_beside 119 = .ok (.iinc 4 1, 3) := oc_132 shX12_beside_119 sgb_1
theorem dX12_beside_122 : decode cX12_beside 122 = .ok (.goto (-93), 3) := oc_167 shX12_beside_122 sgw_255_163
theorem dX12_beside_125 : decode cX12_beside 125 = .ok (.iload_n 3, 1) := oc_29 shX12_beside_125
theorem dX12_beside_126 : decode cX12_beside 126 = .ok (.ireturn, 1) := oc_172 shX12_beside_126
noncomputable def sxX12_degrees_29 : List UInt8 := []
noncomputable def sxX12_degrees_28 : List UInt8 := 172 :: sxX12_degrees_29
noncomputable def sxX12_degrees_27 : List UInt8 := 4 :: sxX12_degrees_28
noncomputable def sxX12_degrees_26 : List UInt8 := 79 :: sxX12_degrees_27
noncomputable def sxX12_degrees_25 : List UInt8 := 28 :: sxX12_degrees_26
noncomputable def sxX12_degrees_24 : List UInt8 := 27 :: sxX12_degrees_25
noncomputable def sxX12_degrees_21 : List UInt8 := 180 :: 0 :: 201 :: sxX12_degrees_24
noncomputable def sxX12_degrees_20 : List UInt8 := 42 :: sxX12_degrees_21
noncomputable def sxX12_degrees_19 : List UInt8 := 172 :: sxX12_degrees_20
noncomputable def sxX12_degrees_18 : List UInt8 := 3 :: sxX12_degrees_19
noncomputable def sxX12_degrees_15 : List UInt8 := 154 :: 0 :: 5 :: sxX12_degrees_18
noncomputable def sxX12_degrees_12 : List UInt8 := 184 :: 0 :: 214 :: sxX12_degrees_15
noncomputable def sxX12_degrees_10 : List UInt8 := 16 :: 40 :: sxX12_degrees_12
noncomputable def sxX12_degrees_8 : List UInt8 := 16 :: 216 :: sxX12_degrees_10
noncomputable def sxX12_degrees_7 : List UInt8 := 28 :: sxX12_degrees_8
noncomputable def sxX12_degrees_4 : List UInt8 := 153 :: 0 :: 14 :: sxX12_degrees_7
noncomputable def sxX12_degrees_1 : List UInt8 := 184 :: 1 :: 85 :: sxX12_degrees_4
noncomputable def sxX12_degrees_0 : List UInt8 := 27 :: sxX12_degrees_1
theorem shX12_degrees_0 : cX12_degrees.data.toList.drop 0 = sxX12_degrees_0 := rfl
theorem shX12_degrees_1 : cX12_degrees.data.toList.drop 1 = sxX12_degrees_1 := dSn 1 shX12_degrees_0
theorem shX12_degrees_4 : cX12_degrees.data.toList.drop 4 = sxX12_degrees_4 := dSn 3 shX12_degrees_1
theorem shX12_degrees_7 : cX12_degrees.data.toList.drop 7 = sxX12_degrees_7 := dSn 3 shX12_degrees_4
theorem shX12_degrees_8 : cX12_degrees.data.toList.drop 8 = sxX12_degrees_8 := dSn 1 shX12_degrees_7
theorem shX12_degrees_10 : cX12_degrees.data.toList.drop 10 = sxX12_degrees_10 := dSn 2 shX12_degrees_8
theorem shX12_degrees_12 : cX12_degrees.data.toList.drop 12 = sxX12_degrees_12 := dSn 2 shX12_degrees_10
theorem shX12_degrees_15 : cX12_degrees.data.toList.drop 15 = sxX12_degrees_15 := dSn 3 shX12_degrees_12
theorem shX12_degrees_18 : cX12_degrees.data.toList.drop 18 = sxX12_degrees_18 := dSn 3 shX12_degrees_15
theorem shX12_degrees_19 : cX12_degrees.data.toList.drop 19 = sxX12_degrees_19 := dSn 1 shX12_degrees_18
theorem shX12_degrees_20 : cX12_degrees.data.toList.drop 20 = sxX12_degrees_20 := dSn 1 shX12_degrees_19
theorem shX12_degrees_21 : cX12_degrees.data.toList.drop 21 = sxX12_degrees_21 := dSn 1 shX12_degrees_20
theorem shX12_degrees_24 : cX12_degrees.data.toList.drop 24 = sxX12_degrees_24 := dSn 3 shX12_degrees_21
theorem shX12_degrees_25 : cX12_degrees.data.toList.drop 25 = sxX12_degrees_25 := dSn 1 shX12_degrees_24
theorem shX12_degrees_26 : cX12_degrees.data.toList.drop 26 = sxX12_degrees_26 := dSn 1 shX12_degrees_25
theorem shX12_degrees_27 : cX12_degrees.data.toList.drop 27 = sxX12_degrees_27 := dSn 1 shX12_degrees_26
theorem shX12_degrees_28 : cX12_degrees.data.toList.drop 28 = sxX12_degrees_28 := dSn 1 shX12_degrees_27
theorem dX12_degrees_0 : decode cX12_degrees 0 = .ok (.iload_n 1, 1) := oc_27 shX12_degrees_0
theorem dX12_degrees_1 : decode cX12_degrees 1 = .ok (.invokestatic 341, 3) := oc_184 shX12_degrees_1
theorem dX12_degrees_4 : decode cX12_degrees 4 = .ok (.ifCond .eq 14, 3) := oc_153 shX12_degrees_4 sgw_0_14
theorem dX12_degrees_7 : decode cX12_degrees 7 = .ok (.iload_n 2, 1) := oc_28 shX12_degrees_7
theorem dX12_degrees_8 : decode cX12_degrees 8 = .ok (.bipush (-40), 2) := oc_16 shX12_degrees_8 sgb_216
theorem dX12_degrees_10 : decode cX12_degrees 10 = .ok (.bipush 40, 2) := oc_16 shX12_degrees_10 sgb_40
theorem dX12_degrees_12 : decode cX12_degrees 12 = .ok (.invokestatic 214, 3) := oc_184 shX12_degrees_12
theorem dX12_degrees_15 : decode cX12_degrees 15 = .ok (.ifCond .ne 5, 3) := oc_154 shX12_degrees_15 sgw_0_5
theorem dX12_degrees_18 : decode cX12_degrees 18 = .ok (.iconst 0, 1) := oc_3 shX12_degrees_18
theorem dX12_degrees_19 : decode cX12_degrees 19 = .ok (.ireturn, 1) := oc_172 shX12_degrees_19
theorem dX12_degrees_20 : decode cX12_degrees 20 = .ok (.aload_n 0, 1) := oc_42 shX12_degrees_20
theorem dX12_degrees_21 : decode cX12_degrees 21 = .ok (.getfield 201, 3) := oc_180 shX12_degrees_21
theorem dX12_degrees_24 : decode cX12_degrees 24 = .ok (.iload_n 1, 1) := oc_27 shX12_degrees_24
theorem dX12_degrees_25 : decode cX12_degrees 25 = .ok (.iload_n 2, 1) := oc_28 shX12_degrees_25
theorem dX12_degrees_26 : decode cX12_degrees 26 = .ok (.iastore, 1) := oc_79 shX12_degrees_26
theorem dX12_degrees_27 : decode cX12_degrees 27 = .ok (.iconst 1, 1) := oc_4 shX12_degrees_27
theorem dX12_degrees_28 : decode cX12_degrees 28 = .ok (.ireturn, 1) := oc_172 shX12_degrees_28
noncomputable def sxX12_late_78 : List UInt8 := []
noncomputable def sxX12_late_77 : List UInt8 := 172 :: sxX12_late_78
noncomputable def sxX12_late_76 : List UInt8 := 29 :: sxX12_late_77
noncomputable def sxX12_late_73 : List UInt8 := 167 :: 255 :: 209 :: sxX12_late_76
noncomputable def sxX12_late_70 : List UInt8 := 132 :: 4 :: 1 :: sxX12_late_73
noncomputable def sxX12_late_69 : List UInt8 := 62 :: sxX12_late_70
noncomputable def sxX12_late_68 : List UInt8 := 96 :: sxX12_late_69
noncomputable def sxX12_late_67 : List UInt8 := 3 :: sxX12_late_68
noncomputable def sxX12_late_64 : List UInt8 := 167 :: 0 :: 4 :: sxX12_late_67
noncomputable def sxX12_late_63 : List UInt8 := 4 :: sxX12_late_64
noncomputable def sxX12_late_60 : List UInt8 := 162 :: 0 :: 7 :: sxX12_late_63
noncomputable def sxX12_late_59 : List UInt8 := 28 :: sxX12_late_60
noncomputable def sxX12_late_58 : List UInt8 := 46 :: sxX12_late_59
noncomputable def sxX12_late_57 : List UInt8 := 46 :: sxX12_late_58
noncomputable def sxX12_late_55 : List UInt8 := 21 :: 4 :: sxX12_late_57
noncomputable def sxX12_late_52 : List UInt8 := 180 :: 0 :: 28 :: sxX12_late_55
noncomputable def sxX12_late_51 : List UInt8 := 42 :: sxX12_late_52
noncomputable def sxX12_late_48 : List UInt8 := 180 :: 0 :: 201 :: sxX12_late_51
noncomputable def sxX12_late_47 : List UInt8 := 42 :: sxX12_late_48
noncomputable def sxX12_late_44 : List UInt8 := 160 :: 0 :: 23 :: sxX12_late_47
noncomputable def sxX12_late_43 : List UInt8 := 27 :: sxX12_late_44
noncomputable def sxX12_late_42 : List UInt8 := 46 :: sxX12_late_43
noncomputable def sxX12_late_40 : List UInt8 := 21 :: 4 :: sxX12_late_42
noncomputable def sxX12_late_37 : List UInt8 := 180 :: 0 :: 25 :: sxX12_late_40
noncomputable def sxX12_late_36 : List UInt8 := 42 :: sxX12_late_37
noncomputable def sxX12_late_35 : List UInt8 := 29 :: sxX12_late_36
noncomputable def sxX12_late_32 : List UInt8 := 162 :: 0 :: 44 :: sxX12_late_35
noncomputable def sxX12_late_29 : List UInt8 := 180 :: 0 :: 208 :: sxX12_late_32
noncomputable def sxX12_late_28 : List UInt8 := 42 :: sxX12_late_29
noncomputable def sxX12_late_26 : List UInt8 := 21 :: 4 :: sxX12_late_28
noncomputable def sxX12_late_24 : List UInt8 := 54 :: 4 :: sxX12_late_26
noncomputable def sxX12_late_23 : List UInt8 := 3 :: sxX12_late_24
noncomputable def sxX12_late_22 : List UInt8 := 62 :: sxX12_late_23
noncomputable def sxX12_late_21 : List UInt8 := 3 :: sxX12_late_22
noncomputable def sxX12_late_20 : List UInt8 := 172 :: sxX12_late_21
noncomputable def sxX12_late_19 : List UInt8 := 2 :: sxX12_late_20
noncomputable def sxX12_late_16 : List UInt8 := 154 :: 0 :: 5 :: sxX12_late_19
noncomputable def sxX12_late_13 : List UInt8 := 184 :: 0 :: 214 :: sxX12_late_16
noncomputable def sxX12_late_11 : List UInt8 := 16 :: 41 :: sxX12_late_13
noncomputable def sxX12_late_9 : List UInt8 := 16 :: 216 :: sxX12_late_11
noncomputable def sxX12_late_8 : List UInt8 := 28 :: sxX12_late_9
noncomputable def sxX12_late_5 : List UInt8 := 153 :: 0 :: 14 :: sxX12_late_8
noncomputable def sxX12_late_2 : List UInt8 := 182 :: 0 :: 218 :: sxX12_late_5
noncomputable def sxX12_late_1 : List UInt8 := 27 :: sxX12_late_2
noncomputable def sxX12_late_0 : List UInt8 := 42 :: sxX12_late_1
theorem shX12_late_0 : cX12_late.data.toList.drop 0 = sxX12_late_0 := rfl
theorem shX12_late_1 : cX12_late.data.toList.drop 1 = sxX12_late_1 := dSn 1 shX12_late_0
theorem shX12_late_2 : cX12_late.data.toList.drop 2 = sxX12_late_2 := dSn 1 shX12_late_1
theorem shX12_late_5 : cX12_late.data.toList.drop 5 = sxX12_late_5 := dSn 3 shX12_late_2
theorem shX12_late_8 : cX12_late.data.toList.drop 8 = sxX12_late_8 := dSn 3 shX12_late_5
theorem shX12_late_9 : cX12_late.data.toList.drop 9 = sxX12_late_9 := dSn 1 shX12_late_8
theorem shX12_late_11 : cX12_late.data.toList.drop 11 = sxX12_late_11 := dSn 2 shX12_late_9
theorem shX12_late_13 : cX12_late.data.toList.drop 13 = sxX12_late_13 := dSn 2 shX12_late_11
theorem shX12_late_16 : cX12_late.data.toList.drop 16 = sxX12_late_16 := dSn 3 shX12_late_13
theorem shX12_late_19 : cX12_late.data.toList.drop 19 = sxX12_late_19 := dSn 3 shX12_late_16
theorem shX12_late_20 : cX12_late.data.toList.drop 20 = sxX12_late_20 := dSn 1 shX12_late_19
theorem shX12_late_21 : cX12_late.data.toList.drop 21 = sxX12_late_21 := dSn 1 shX12_late_20
theorem shX12_late_22 : cX12_late.data.toList.drop 22 = sxX12_late_22 := dSn 1 shX12_late_21
theorem shX12_late_23 : cX12_late.data.toList.drop 23 = sxX12_late_23 := dSn 1 shX12_late_22
theorem shX12_late_24 : cX12_late.data.toList.drop 24 = sxX12_late_24 := dSn 1 shX12_late_23
theorem shX12_late_26 : cX12_late.data.toList.drop 26 = sxX12_late_26 := dSn 2 shX12_late_24
theorem shX12_late_28 : cX12_late.data.toList.drop 28 = sxX12_late_28 := dSn 2 shX12_late_26
theorem shX12_late_29 : cX12_late.data.toList.drop 29 = sxX12_late_29 := dSn 1 shX12_late_28
theorem shX12_late_32 : cX12_late.data.toList.drop 32 = sxX12_late_32 := dSn 3 shX12_late_29
theorem shX12_late_35 : cX12_late.data.toList.drop 35 = sxX12_late_35 := dSn 3 shX12_late_32
theorem shX12_late_36 : cX12_late.data.toList.drop 36 = sxX12_late_36 := dSn 1 shX12_late_35
theorem shX12_late_37 : cX12_late.data.toList.drop 37 = sxX12_late_37 := dSn 1 shX12_late_36
theorem shX12_late_40 : cX12_late.data.toList.drop 40 = sxX12_late_40 := dSn 3 shX12_late_37
theorem shX12_late_42 : cX12_late.data.toList.drop 42 = sxX12_late_42 := dSn 2 shX12_late_40
theorem shX12_late_43 : cX12_late.data.toList.drop 43 = sxX12_late_43 := dSn 1 shX12_late_42
theorem shX12_late_44 : cX12_late.data.toList.drop 44 = sxX12_late_44 := dSn 1 shX12_late_43
theorem shX12_late_47 : cX12_late.data.toList.drop 47 = sxX12_late_47 := dSn 3 shX12_late_44
theorem shX12_late_48 : cX12_late.data.toList.drop 48 = sxX12_late_48 := dSn 1 shX12_late_47
theorem shX12_late_51 : cX12_late.data.toList.drop 51 = sxX12_late_51 := dSn 3 shX12_late_48
theorem shX12_late_52 : cX12_late.data.toList.drop 52 = sxX12_late_52 := dSn 1 shX12_late_51
theorem shX12_late_55 : cX12_late.data.toList.drop 55 = sxX12_late_55 := dSn 3 shX12_late_52
theorem shX12_late_57 : cX12_late.data.toList.drop 57 = sxX12_late_57 := dSn 2 shX12_late_55
theorem shX12_late_58 : cX12_late.data.toList.drop 58 = sxX12_late_58 := dSn 1 shX12_late_57
theorem shX12_late_59 : cX12_late.data.toList.drop 59 = sxX12_late_59 := dSn 1 shX12_late_58
theorem shX12_late_60 : cX12_late.data.toList.drop 60 = sxX12_late_60 := dSn 1 shX12_late_59
theorem shX12_late_63 : cX12_late.data.toList.drop 63 = sxX12_late_63 := dSn 3 shX12_late_60
theorem shX12_late_64 : cX12_late.data.toList.drop 64 = sxX12_late_64 := dSn 1 shX12_late_63
theorem shX12_late_67 : cX12_late.data.toList.drop 67 = sxX12_late_67 := dSn 3 shX12_late_64
theorem shX12_late_68 : cX12_late.data.toList.drop 68 = sxX12_late_68 := dSn 1 shX12_late_67
theorem shX12_late_69 : cX12_late.data.toList.drop 69 = sxX12_late_69 := dSn 1 shX12_late_68
theorem shX12_late_70 : cX12_late.data.toList.drop 70 = sxX12_late_70 := dSn 1 shX12_late_69
theorem shX12_late_73 : cX12_late.data.toList.drop 73 = sxX12_late_73 := dSn 3 shX12_late_70
theorem shX12_late_76 : cX12_late.data.toList.drop 76 = sxX12_late_76 := dSn 3 shX12_late_73
theorem shX12_late_77 : cX12_late.data.toList.drop 77 = sxX12_late_77 := dSn 1 shX12_late_76
theorem dX12_late_0 : decode cX12_late 0 = .ok (.aload_n 0, 1) := oc_42 shX12_late_0
theorem dX12_late_1 : decode cX12_late 1 = .ok (.iload_n 1, 1) := oc_27 shX12_late_1
theorem dX12_late_2 : decode cX12_late 2 = .ok (.invokevirtual 218, 3) := oc_182 shX12_late_2
theorem dX12_late_5 : decode cX12_late 5 = .ok (.ifCond .eq 14, 3) := oc_153 shX12_late_5 sgw_0_14
theorem dX12_late_8 : decode cX12_late 8 = .ok (.iload_n 2, 1) := oc_28 shX12_late_8
theorem dX12_late_9 : decode cX12_late 9 = .ok (.bipush (-40), 2) := oc_16 shX12_late_9 sgb_216
theorem dX12_late_11 : decode cX12_late 11 = .ok (.bipush 41, 2) := oc_16 shX12_late_11 sgb_41
theorem dX12_late_13 : decode cX12_late 13 = .ok (.invokestatic 214, 3) := oc_184 shX12_late_13
theorem dX12_late_16 : decode cX12_late 16 = .ok (.ifCond .ne 5, 3) := oc_154 shX12_late_16 sgw_0_5
theorem dX12_late_19 : decode cX12_late 19 = .ok (.iconst (-1), 1) := oc_2 shX12_late_19
theorem dX12_late_20 : decode cX12_late 20 = .ok (.ireturn, 1) := oc_172 shX12_late_20
theorem dX12_late_21 : decode cX12_late 21 = .ok (.iconst 0, 1) := oc_3 shX12_late_21
theorem dX12_late_22 : decode cX12_late 22 = .ok (.istore_n 3, 1) := oc_62 shX12_late_22
theorem dX12_late_23 : decode cX12_late 23 = .ok (.iconst 0, 1) := oc_3 shX12_late_23
theorem dX12_late_24 : decode cX12_late 24 = .ok (.istore 4, 2) := oc_54 shX12_late_24
theorem dX12_late_26 : decode cX12_late 26 = .ok (.iload 4, 2) := oc_21 shX12_late_26
theorem dX12_late_28 : decode cX12_late 28 = .ok (.aload_n 0, 1) := oc_42 shX12_late_28
theorem dX12_late_29 : decode cX12_late 29 = .ok (.getfield 208, 3) := oc_180 shX12_late_29
theorem dX12_late_32 : decode cX12_late 32 = .ok (.if_icmp .ge 44, 3) := oc_162 shX12_late_32 sgw_0_44
theorem dX12_late_35 : decode cX12_late 35 = .ok (.iload_n 3, 1) := oc_29 shX12_late_35
theorem dX12_late_36 : decode cX12_late 36 = .ok (.aload_n 0, 1) := oc_42 shX12_late_36
theorem dX12_late_37 : decode cX12_late 37 = .ok (.getfield 25, 3) := oc_180 shX12_late_37
theorem dX12_late_40 : decode cX12_late 40 = .ok (.iload 4, 2) := oc_21 shX12_late_40
theorem dX12_late_42 : decode cX12_late 42 = .ok (.iaload, 1) := oc_46 shX12_late_42
theorem dX12_late_43 : decode cX12_late 43 = .ok (.iload_n 1, 1) := oc_27 shX12_late_43
theorem dX12_late_44 : decode cX12_late 44 = .ok (.if_icmp .ne 23, 3) := oc_160 shX12_late_44 sgw_0_23
theorem dX12_late_47 : decode cX12_late 47 = .ok (.aload_n 0, 1) := oc_42 shX12_late_47
theorem dX12_late_48 : decode cX12_late 48 = .ok (.getfield 201, 3) := oc_180 shX12_late_48
theorem dX12_late_51 : decode cX12_late 51 = .ok (.aload_n 0, 1) := oc_42 shX12_late_51
theorem dX12_late_52 : decode cX12_late 52 = .ok (.getfield 28, 3) := oc_180 shX12_late_52
theorem dX12_late_55 : decode cX12_late 55 = .ok (.iload 4, 2) := oc_21 shX12_late_55
theorem dX12_late_57 : decode cX12_late 57 = .ok (.iaload, 1) := oc_46 shX12_late_57
theorem dX12_late_58 : decode cX12_late 58 = .ok (.iaload, 1) := oc_46 shX12_late_58
theorem dX12_late_59 : decode cX12_late 59 = .ok (.iload_n 2, 1) := oc_28 shX12_late_59
theorem dX12_late_60 : decode cX12_late 60 = .ok (.if_icmp .ge 7, 3) := oc_162 shX12_late_60 sgw_0_7
theorem dX12_late_63 : decode cX12_late 63 = .ok (.iconst 1, 1) := oc_4 shX12_late_63
theorem dX12_late_64 : decode cX12_late 64 = .ok (.goto 4, 3) := oc_167 shX12_late_64 sgw_0_4
theorem dX12_late_67 : decode cX12_late 67 = .ok (.iconst 0, 1) := oc_3 shX12_late_67
theorem dX12_late_68 : decode cX12_late 68 = .ok (.iadd, 1) := oc_96 shX12_late_68
theorem dX12_late_69 : decode cX12_late 69 = .ok (.istore_n 3, 1) := oc_62 shX12_late_69
theorem dX12_late_70 : decode cX12_late 70 = .ok (.iinc 4 1, 3) := oc_132 shX12_late_70 sgb_1
theorem dX12_late_73 : decode cX12_late 73 = .ok (.goto (-47), 3) := oc_167 shX12_late_73 sgw_255_209
theorem dX12_late_76 : decode cX12_late 76 = .ok (.iload_n 3, 1) := oc_29 shX12_late_76
theorem dX12_late_77 : decode cX12_late 77 = .ok (.ireturn, 1) := oc_172 shX12_late_77
noncomputable def sxX12_first_50 : List UInt8 := []
noncomputable def sxX12_first_49 : List UInt8 := 172 :: sxX12_first_50
noncomputable def sxX12_first_47 : List UInt8 := 16 :: 254 :: sxX12_first_49
noncomputable def sxX12_first_44 : List UInt8 := 167 :: 255 :: 234 :: sxX12_first_47
noncomputable def sxX12_first_41 : List UInt8 := 132 :: 3 :: 1 :: sxX12_first_44
noncomputable def sxX12_first_40 : List UInt8 := 172 :: sxX12_first_41
noncomputable def sxX12_first_39 : List UInt8 := 29 :: sxX12_first_40
noncomputable def sxX12_first_36 : List UInt8 := 161 :: 0 :: 5 :: sxX12_first_39
noncomputable def sxX12_first_35 : List UInt8 := 28 :: sxX12_first_36
noncomputable def sxX12_first_34 : List UInt8 := 46 :: sxX12_first_35
noncomputable def sxX12_first_33 : List UInt8 := 29 :: sxX12_first_34
noncomputable def sxX12_first_30 : List UInt8 := 180 :: 0 :: 201 :: sxX12_first_33
noncomputable def sxX12_first_29 : List UInt8 := 42 :: sxX12_first_30
noncomputable def sxX12_first_26 : List UInt8 := 163 :: 0 :: 21 :: sxX12_first_29
noncomputable def sxX12_first_23 : List UInt8 := 17 :: 1 :: 143 :: sxX12_first_26
noncomputable def sxX12_first_22 : List UInt8 := 29 :: sxX12_first_23
noncomputable def sxX12_first_21 : List UInt8 := 62 :: sxX12_first_22
noncomputable def sxX12_first_20 : List UInt8 := 27 :: sxX12_first_21
noncomputable def sxX12_first_19 : List UInt8 := 172 :: sxX12_first_20
noncomputable def sxX12_first_18 : List UInt8 := 2 :: sxX12_first_19
noncomputable def sxX12_first_15 : List UInt8 := 154 :: 0 :: 5 :: sxX12_first_18
noncomputable def sxX12_first_12 : List UInt8 := 184 :: 0 :: 214 :: sxX12_first_15
noncomputable def sxX12_first_10 : List UInt8 := 16 :: 41 :: sxX12_first_12
noncomputable def sxX12_first_8 : List UInt8 := 16 :: 216 :: sxX12_first_10
noncomputable def sxX12_first_7 : List UInt8 := 28 :: sxX12_first_8
noncomputable def sxX12_first_4 : List UInt8 := 153 :: 0 :: 14 :: sxX12_first_7
noncomputable def sxX12_first_1 : List UInt8 := 184 :: 1 :: 85 :: sxX12_first_4
noncomputable def sxX12_first_0 : List UInt8 := 27 :: sxX12_first_1
theorem shX12_first_0 : cX12_first.data.toList.drop 0 = sxX12_first_0 := rfl
theorem shX12_first_1 : cX12_first.data.toList.drop 1 = sxX12_first_1 := dSn 1 shX12_first_0
theorem shX12_first_4 : cX12_first.data.toList.drop 4 = sxX12_first_4 := dSn 3 shX12_first_1
theorem shX12_first_7 : cX12_first.data.toList.drop 7 = sxX12_first_7 := dSn 3 shX12_first_4
theorem shX12_first_8 : cX12_first.data.toList.drop 8 = sxX12_first_8 := dSn 1 shX12_first_7
theorem shX12_first_10 : cX12_first.data.toList.drop 10 = sxX12_first_10 := dSn 2 shX12_first_8
theorem shX12_first_12 : cX12_first.data.toList.drop 12 = sxX12_first_12 := dSn 2 shX12_first_10
theorem shX12_first_15 : cX12_first.data.toList.drop 15 = sxX12_first_15 := dSn 3 shX12_first_12
theorem shX12_first_18 : cX12_first.data.toList.drop 18 = sxX12_first_18 := dSn 3 shX12_first_15
theorem shX12_first_19 : cX12_first.data.toList.drop 19 = sxX12_first_19 := dSn 1 shX12_first_18
theorem shX12_first_20 : cX12_first.data.toList.drop 20 = sxX12_first_20 := dSn 1 shX12_first_19
theorem shX12_first_21 : cX12_first.data.toList.drop 21 = sxX12_first_21 := dSn 1 shX12_first_20
theorem shX12_first_22 : cX12_first.data.toList.drop 22 = sxX12_first_22 := dSn 1 shX12_first_21
theorem shX12_first_23 : cX12_first.data.toList.drop 23 = sxX12_first_23 := dSn 1 shX12_first_22
theorem shX12_first_26 : cX12_first.data.toList.drop 26 = sxX12_first_26 := dSn 3 shX12_first_23
theorem shX12_first_29 : cX12_first.data.toList.drop 29 = sxX12_first_29 := dSn 3 shX12_first_26
theorem shX12_first_30 : cX12_first.data.toList.drop 30 = sxX12_first_30 := dSn 1 shX12_first_29
theorem shX12_first_33 : cX12_first.data.toList.drop 33 = sxX12_first_33 := dSn 3 shX12_first_30
theorem shX12_first_34 : cX12_first.data.toList.drop 34 = sxX12_first_34 := dSn 1 shX12_first_33
theorem shX12_first_35 : cX12_first.data.toList.drop 35 = sxX12_first_35 := dSn 1 shX12_first_34
theorem shX12_first_36 : cX12_first.data.toList.drop 36 = sxX12_first_36 := dSn 1 shX12_first_35
theorem shX12_first_39 : cX12_first.data.toList.drop 39 = sxX12_first_39 := dSn 3 shX12_first_36
theorem shX12_first_40 : cX12_first.data.toList.drop 40 = sxX12_first_40 := dSn 1 shX12_first_39
theorem shX12_first_41 : cX12_first.data.toList.drop 41 = sxX12_first_41 := dSn 1 shX12_first_40
theorem shX12_first_44 : cX12_first.data.toList.drop 44 = sxX12_first_44 := dSn 3 shX12_first_41
theorem shX12_first_47 : cX12_first.data.toList.drop 47 = sxX12_first_47 := dSn 3 shX12_first_44
theorem shX12_first_49 : cX12_first.data.toList.drop 49 = sxX12_first_49 := dSn 2 shX12_first_47
theorem dX12_first_0 : decode cX12_first 0 = .ok (.iload_n 1, 1) := oc_27 shX12_first_0
theorem dX12_first_1 : decode cX12_first 1 = .ok (.invokestatic 341, 3) := oc_184 shX12_first_1
theorem dX12_first_4 : decode cX12_first 4 = .ok (.ifCond .eq 14, 3) := oc_153 shX12_first_4 sgw_0_14
theorem dX12_first_7 : decode cX12_first 7 = .ok (.iload_n 2, 1) := oc_28 shX12_first_7
theorem dX12_first_8 : decode cX12_first 8 = .ok (.bipush (-40), 2) := oc_16 shX12_first_8 sgb_216
theorem dX12_first_10 : decode cX12_first 10 = .ok (.bipush 41, 2) := oc_16 shX12_first_10 sgb_41
theorem dX12_first_12 : decode cX12_first 12 = .ok (.invokestatic 214, 3) := oc_184 shX12_first_12
theorem dX12_first_15 : decode cX12_first 15 = .ok (.ifCond .ne 5, 3) := oc_154 shX12_first_15 sgw_0_5
theorem dX12_first_18 : decode cX12_first 18 = .ok (.iconst (-1), 1) := oc_2 shX12_first_18
theorem dX12_first_19 : decode cX12_first 19 = .ok (.ireturn, 1) := oc_172 shX12_first_19
theorem dX12_first_20 : decode cX12_first 20 = .ok (.iload_n 1, 1) := oc_27 shX12_first_20
theorem dX12_first_21 : decode cX12_first 21 = .ok (.istore_n 3, 1) := oc_62 shX12_first_21
theorem dX12_first_22 : decode cX12_first 22 = .ok (.iload_n 3, 1) := oc_29 shX12_first_22
theorem dX12_first_23 : decode cX12_first 23 = .ok (.sipush 399, 3) := oc_17 shX12_first_23 sgw_1_143
theorem dX12_first_26 : decode cX12_first 26 = .ok (.if_icmp .gt 21, 3) := oc_163 shX12_first_26 sgw_0_21
theorem dX12_first_29 : decode cX12_first 29 = .ok (.aload_n 0, 1) := oc_42 shX12_first_29
theorem dX12_first_30 : decode cX12_first 30 = .ok (.getfield 201, 3) := oc_180 shX12_first_30
theorem dX12_first_33 : decode cX12_first 33 = .ok (.iload_n 3, 1) := oc_29 shX12_first_33
theorem dX12_first_34 : decode cX12_first 34 = .ok (.iaload, 1) := oc_46 shX12_first_34
theorem dX12_first_35 : decode cX12_first 35 = .ok (.iload_n 2, 1) := oc_28 shX12_first_35
theorem dX12_first_36 : decode cX12_first 36 = .ok (.if_icmp .lt 5, 3) := oc_161 shX12_first_36 sgw_0_5
theorem dX12_first_39 : decode cX12_first 39 = .ok (.iload_n 3, 1) := oc_29 shX12_first_39
theorem dX12_first_40 : decode cX12_first 40 = .ok (.ireturn, 1) := oc_172 shX12_first_40
theorem dX12_first_41 : decode cX12_first 41 = .ok (.iinc 3 1, 3) := oc_132 shX12_first_41 sgb_1
theorem dX12_first_44 : decode cX12_first 44 = .ok (.goto (-22), 3) := oc_167 shX12_first_44 sgw_255_234
theorem dX12_first_47 : decode cX12_first 47 = .ok (.bipush (-2), 2) := oc_16 shX12_first_47 sgb_254
theorem dX12_first_49 : decode cX12_first 49 = .ok (.ireturn, 1) := oc_172 shX12_first_49
noncomputable def sxX12_tapeNumber_39 : List UInt8 := []
noncomputable def sxX12_tapeNumber_38 : List UInt8 := 172 :: sxX12_tapeNumber_39
noncomputable def sxX12_tapeNumber_37 : List UInt8 := 28 :: sxX12_tapeNumber_38
noncomputable def sxX12_tapeNumber_34 : List UInt8 := 167 :: 255 :: 228 :: sxX12_tapeNumber_37
noncomputable def sxX12_tapeNumber_31 : List UInt8 := 132 :: 3 :: 1 :: sxX12_tapeNumber_34
noncomputable def sxX12_tapeNumber_30 : List UInt8 := 61 :: sxX12_tapeNumber_31
noncomputable def sxX12_tapeNumber_29 : List UInt8 := 128 :: sxX12_tapeNumber_30
noncomputable def sxX12_tapeNumber_28 : List UInt8 := 126 :: sxX12_tapeNumber_29
noncomputable def sxX12_tapeNumber_25 : List UInt8 := 17 :: 0 :: 255 :: sxX12_tapeNumber_28
noncomputable def sxX12_tapeNumber_24 : List UInt8 := 51 :: sxX12_tapeNumber_25
noncomputable def sxX12_tapeNumber_23 : List UInt8 := 29 :: sxX12_tapeNumber_24
noncomputable def sxX12_tapeNumber_20 : List UInt8 := 180 :: 0 :: 52 :: sxX12_tapeNumber_23
noncomputable def sxX12_tapeNumber_19 : List UInt8 := 42 :: sxX12_tapeNumber_20
noncomputable def sxX12_tapeNumber_18 : List UInt8 := 120 :: sxX12_tapeNumber_19
noncomputable def sxX12_tapeNumber_16 : List UInt8 := 16 :: 8 :: sxX12_tapeNumber_18
noncomputable def sxX12_tapeNumber_15 : List UInt8 := 28 :: sxX12_tapeNumber_16
noncomputable def sxX12_tapeNumber_12 : List UInt8 := 162 :: 0 :: 25 :: sxX12_tapeNumber_15
noncomputable def sxX12_tapeNumber_11 : List UInt8 := 96 :: sxX12_tapeNumber_12
noncomputable def sxX12_tapeNumber_10 : List UInt8 := 7 :: sxX12_tapeNumber_11
noncomputable def sxX12_tapeNumber_9 : List UInt8 := 104 :: sxX12_tapeNumber_10
noncomputable def sxX12_tapeNumber_8 : List UInt8 := 27 :: sxX12_tapeNumber_9
noncomputable def sxX12_tapeNumber_7 : List UInt8 := 7 :: sxX12_tapeNumber_8
noncomputable def sxX12_tapeNumber_6 : List UInt8 := 29 :: sxX12_tapeNumber_7
noncomputable def sxX12_tapeNumber_5 : List UInt8 := 62 :: sxX12_tapeNumber_6
noncomputable def sxX12_tapeNumber_4 : List UInt8 := 104 :: sxX12_tapeNumber_5
noncomputable def sxX12_tapeNumber_3 : List UInt8 := 27 :: sxX12_tapeNumber_4
noncomputable def sxX12_tapeNumber_2 : List UInt8 := 7 :: sxX12_tapeNumber_3
noncomputable def sxX12_tapeNumber_1 : List UInt8 := 61 :: sxX12_tapeNumber_2
noncomputable def sxX12_tapeNumber_0 : List UInt8 := 3 :: sxX12_tapeNumber_1
theorem shX12_tapeNumber_0 : cX12_tapeNumber.data.toList.drop 0 = sxX12_tapeNumber_0 := rfl
theorem shX12_tapeNumber_1 : cX12_tapeNumber.data.toList.drop 1 = sxX12_tapeNumber_1 := dSn 1 shX12_tapeNumber_0
theorem shX12_tapeNumber_2 : cX12_tapeNumber.data.toList.drop 2 = sxX12_tapeNumber_2 := dSn 1 shX12_tapeNumber_1
theorem shX12_tapeNumber_3 : cX12_tapeNumber.data.toList.drop 3 = sxX12_tapeNumber_3 := dSn 1 shX12_tapeNumber_2
theorem shX12_tapeNumber_4 : cX12_tapeNumber.data.toList.drop 4 = sxX12_tapeNumber_4 := dSn 1 shX12_tapeNumber_3
theorem shX12_tapeNumber_5 : cX12_tapeNumber.data.toList.drop 5 = sxX12_tapeNumber_5 := dSn 1 shX12_tapeNumber_4
theorem shX12_tapeNumber_6 : cX12_tapeNumber.data.toList.drop 6 = sxX12_tapeNumber_6 := dSn 1 shX12_tapeNumber_5
theorem shX12_tapeNumber_7 : cX12_tapeNumber.data.toList.drop 7 = sxX12_tapeNumber_7 := dSn 1 shX12_tapeNumber_6
theorem shX12_tapeNumber_8 : cX12_tapeNumber.data.toList.drop 8 = sxX12_tapeNumber_8 := dSn 1 shX12_tapeNumber_7
theorem shX12_tapeNumber_9 : cX12_tapeNumber.data.toList.drop 9 = sxX12_tapeNumber_9 := dSn 1 shX12_tapeNumber_8
theorem shX12_tapeNumber_10 : cX12_tapeNumber.data.toList.drop 10 = sxX12_tapeNumber_10 := dSn 1 shX12_tapeNumber_9
theorem shX12_tapeNumber_11 : cX12_tapeNumber.data.toList.drop 11 = sxX12_tapeNumber_11 := dSn 1 shX12_tapeNumber_10
theorem shX12_tapeNumber_12 : cX12_tapeNumber.data.toList.drop 12 = sxX12_tapeNumber_12 := dSn 1 shX12_tapeNumber_11
theorem shX12_tapeNumber_15 : cX12_tapeNumber.data.toList.drop 15 = sxX12_tapeNumber_15 := dSn 3 shX12_tapeNumber_12
theorem shX12_tapeNumber_16 : cX12_tapeNumber.data.toList.drop 16 = sxX12_tapeNumber_16 := dSn 1 shX12_tapeNumber_15
theorem shX12_tapeNumber_18 : cX12_tapeNumber.data.toList.drop 18 = sxX12_tapeNumber_18 := dSn 2 shX12_tapeNumber_16
theorem shX12_tapeNumber_19 : cX12_tapeNumber.data.toList.drop 19 = sxX12_tapeNumber_19 := dSn 1 shX12_tapeNumber_18
theorem shX12_tapeNumber_20 : cX12_tapeNumber.data.toList.drop 20 = sxX12_tapeNumber_20 := dSn 1 shX12_tapeNumber_19
theorem shX12_tapeNumber_23 : cX12_tapeNumber.data.toList.drop 23 = sxX12_tapeNumber_23 := dSn 3 shX12_tapeNumber_20
theorem shX12_tapeNumber_24 : cX12_tapeNumber.data.toList.drop 24 = sxX12_tapeNumber_24 := dSn 1 shX12_tapeNumber_23
theorem shX12_tapeNumber_25 : cX12_tapeNumber.data.toList.drop 25 = sxX12_tapeNumber_25 := dSn 1 shX12_tapeNumber_24
theorem shX12_tapeNumber_28 : cX12_tapeNumber.data.toList.drop 28 = sxX12_tapeNumber_28 := dSn 3 shX12_tapeNumber_25
theorem shX12_tapeNumber_29 : cX12_tapeNumber.data.toList.drop 29 = sxX12_tapeNumber_29 := dSn 1 shX12_tapeNumber_28
theorem shX12_tapeNumber_30 : cX12_tapeNumber.data.toList.drop 30 = sxX12_tapeNumber_30 := dSn 1 shX12_tapeNumber_29
theorem shX12_tapeNumber_31 : cX12_tapeNumber.data.toList.drop 31 = sxX12_tapeNumber_31 := dSn 1 shX12_tapeNumber_30
theorem shX12_tapeNumber_34 : cX12_tapeNumber.data.toList.drop 34 = sxX12_tapeNumber_34 := dSn 3 shX12_tapeNumber_31
theorem shX12_tapeNumber_37 : cX12_tapeNumber.data.toList.drop 37 = sxX12_tapeNumber_37 := dSn 3 shX12_tapeNumber_34
theorem shX12_tapeNumber_38 : cX12_tapeNumber.data.toList.drop 38 = sxX12_tapeNumber_38 := dSn 1 shX12_tapeNumber_37
theorem dX12_tapeNumber_0 : decode cX12_tapeNumber 0 = .ok (.iconst 0, 1) := oc_3 shX12_tapeNumber_0
theorem dX12_tapeNumber_1 : decode cX12_tapeNumber 1 = .ok (.istore_n 2, 1) := oc_61 shX12_tapeNumber_1
theorem dX12_tapeNumber_2 : decode cX12_tapeNumber 2 = .ok (.iconst 4, 1) := oc_7 shX12_tapeNumber_2
theorem dX12_tapeNumber_3 : decode cX12_tapeNumber 3 = .ok (.iload_n 1, 1) := oc_27 shX12_tapeNumber_3
theorem dX12_tapeNumber_4 : decode cX12_tapeNumber 4 = .ok (.imul, 1) := oc_104 shX12_tapeNumber_4
theorem dX12_tapeNumber_5 : decode cX12_tapeNumber 5 = .ok (.istore_n 3, 1) := oc_62 shX12_tapeNumber_5
theorem dX12_tapeNumber_6 : decode cX12_tapeNumber 6 = .ok (.iload_n 3, 1) := oc_29 shX12_tapeNumber_6
theorem dX12_tapeNumber_7 : decode cX12_tapeNumber 7 = .ok (.iconst 4, 1) := oc_7 shX12_tapeNumber_7
theorem dX12_tapeNumber_8 : decode cX12_tapeNumber 8 = .ok (.iload_n 1, 1) := oc_27 shX12_tapeNumber_8
theorem dX12_tapeNumber_9 : decode cX12_tapeNumber 9 = .ok (.imul, 1) := oc_104 shX12_tapeNumber_9
theorem dX12_tapeNumber_10 : decode cX12_tapeNumber 10 = .ok (.iconst 4, 1) := oc_7 shX12_tapeNumber_10
theorem dX12_tapeNumber_11 : decode cX12_tapeNumber 11 = .ok (.iadd, 1) := oc_96 shX12_tapeNumber_11
theorem dX12_tapeNumber_12 : decode cX12_tapeNumber 12 = .ok (.if_icmp .ge 25, 3) := oc_162 shX12_tapeNumber_12 sgw_0_25
theorem dX12_tapeNumber_15 : decode cX12_tapeNumber 15 = .ok (.iload_n 2, 1) := oc_28 shX12_tapeNumber_15
theorem dX12_tapeNumber_16 : decode cX12_tapeNumber 16 = .ok (.bipush 8, 2) := oc_16 shX12_tapeNumber_16 sgb_8
theorem dX12_tapeNumber_18 : decode cX12_tapeNumber 18 = .ok (.ishl, 1) := oc_120 shX12_tapeNumber_18
theorem dX12_tapeNumber_19 : decode cX12_tapeNumber 19 = .ok (.aload_n 0, 1) := oc_42 shX12_tapeNumber_19
theorem dX12_tapeNumber_20 : decode cX12_tapeNumber 20 = .ok (.getfield 52, 3) := oc_180 shX12_tapeNumber_20
theorem dX12_tapeNumber_23 : decode cX12_tapeNumber 23 = .ok (.iload_n 3, 1) := oc_29 shX12_tapeNumber_23
theorem dX12_tapeNumber_24 : decode cX12_tapeNumber 24 = .ok (.baload, 1) := oc_51 shX12_tapeNumber_24
theorem dX12_tapeNumber_25 : decode cX12_tapeNumber 25 = .ok (.sipush 255, 3) := oc_17 shX12_tapeNumber_25 sgw_0_255
theorem dX12_tapeNumber_28 : decode cX12_tapeNumber 28 = .ok (.iand, 1) := oc_126 shX12_tapeNumber_28
theorem dX12_tapeNumber_29 : decode cX12_tapeNumber 29 = .ok (.ior, 1) := oc_128 shX12_tapeNumber_29
theorem dX12_tapeNumber_30 : decode cX12_tapeNumber 30 = .ok (.istore_n 2, 1) := oc_61 shX12_tapeNumber_30
theorem dX12_tapeNumber_31 : decode cX12_tapeNumber 31 = .ok (.iinc 3 1, 3) := oc_132 shX12_tapeNumber_31 sgb_1
theorem dX12_tapeNumber_34 : decode cX12_tapeNumber 34 = .ok (.goto (-28), 3) := oc_167 shX12_tapeNumber_34 sgw_255_228
theorem dX12_tapeNumber_37 : decode cX12_tapeNumber 37 = .ok (.iload_n 2, 1) := oc_28 shX12_tapeNumber_37
theorem dX12_tapeNumber_38 : decode cX12_tapeNumber 38 = .ok (.ireturn, 1) := oc_172 shX12_tapeNumber_38
noncomputable def sxX12_check_164 : List UInt8 := []
noncomputable def sxX12_check_163 : List UInt8 := 172 :: sxX12_check_164
noncomputable def sxX12_check_162 : List UInt8 := 2 :: sxX12_check_163
noncomputable def sxX12_check_159 : List UInt8 := 167 :: 0 :: 4 :: sxX12_check_162
noncomputable def sxX12_check_158 : List UInt8 := 29 :: sxX12_check_159
noncomputable def sxX12_check_155 : List UInt8 := 162 :: 0 :: 7 :: sxX12_check_158
noncomputable def sxX12_check_154 : List UInt8 := 104 :: sxX12_check_155
noncomputable def sxX12_check_153 : List UInt8 := 28 :: sxX12_check_154
noncomputable def sxX12_check_152 : List UInt8 := 7 :: sxX12_check_153
noncomputable def sxX12_check_151 : List UInt8 := 29 :: sxX12_check_152
noncomputable def sxX12_check_148 : List UInt8 := 167 :: 255 :: 144 :: sxX12_check_151
noncomputable def sxX12_check_145 : List UInt8 := 132 :: 4 :: 1 :: sxX12_check_148
noncomputable def sxX12_check_144 : List UInt8 := 62 :: sxX12_check_145
noncomputable def sxX12_check_143 : List UInt8 := 96 :: sxX12_check_144
noncomputable def sxX12_check_142 : List UInt8 := 7 :: sxX12_check_143
noncomputable def sxX12_check_141 : List UInt8 := 29 :: sxX12_check_142
noncomputable def sxX12_check_140 : List UInt8 := 172 :: sxX12_check_141
noncomputable def sxX12_check_139 : List UInt8 := 96 :: sxX12_check_140
noncomputable def sxX12_check_138 : List UInt8 := 6 :: sxX12_check_139
noncomputable def sxX12_check_137 : List UInt8 := 29 :: sxX12_check_138
noncomputable def sxX12_check_134 : List UInt8 := 159 :: 0 :: 7 :: sxX12_check_137
noncomputable def sxX12_check_133 : List UInt8 := 46 :: sxX12_check_134
noncomputable def sxX12_check_131 : List UInt8 := 21 :: 4 :: sxX12_check_133
noncomputable def sxX12_check_128 : List UInt8 := 180 :: 0 :: 43 :: sxX12_check_131
noncomputable def sxX12_check_127 : List UInt8 := 42 :: sxX12_check_128
noncomputable def sxX12_check_124 : List UInt8 := 182 :: 1 :: 225 :: sxX12_check_127
noncomputable def sxX12_check_123 : List UInt8 := 96 :: sxX12_check_124
noncomputable def sxX12_check_122 : List UInt8 := 6 :: sxX12_check_123
noncomputable def sxX12_check_121 : List UInt8 := 29 :: sxX12_check_122
noncomputable def sxX12_check_120 : List UInt8 := 42 :: sxX12_check_121
noncomputable def sxX12_check_119 : List UInt8 := 172 :: sxX12_check_120
noncomputable def sxX12_check_118 : List UInt8 := 96 :: sxX12_check_119
noncomputable def sxX12_check_117 : List UInt8 := 5 :: sxX12_check_118
noncomputable def sxX12_check_116 : List UInt8 := 29 :: sxX12_check_117
noncomputable def sxX12_check_113 : List UInt8 := 159 :: 0 :: 7 :: sxX12_check_116
noncomputable def sxX12_check_112 : List UInt8 := 46 :: sxX12_check_113
noncomputable def sxX12_check_110 : List UInt8 := 21 :: 4 :: sxX12_check_112
noncomputable def sxX12_check_107 : List UInt8 := 180 :: 0 :: 31 :: sxX12_check_110
noncomputable def sxX12_check_106 : List UInt8 := 42 :: sxX12_check_107
noncomputable def sxX12_check_103 : List UInt8 := 182 :: 1 :: 225 :: sxX12_check_106
noncomputable def sxX12_check_102 : List UInt8 := 96 :: sxX12_check_103
noncomputable def sxX12_check_101 : List UInt8 := 5 :: sxX12_check_102
noncomputable def sxX12_check_100 : List UInt8 := 29 :: sxX12_check_101
noncomputable def sxX12_check_99 : List UInt8 := 42 :: sxX12_check_100
noncomputable def sxX12_check_98 : List UInt8 := 172 :: sxX12_check_99
noncomputable def sxX12_check_97 : List UInt8 := 96 :: sxX12_check_98
noncomputable def sxX12_check_96 : List UInt8 := 4 :: sxX12_check_97
noncomputable def sxX12_check_95 : List UInt8 := 29 :: sxX12_check_96
noncomputable def sxX12_check_92 : List UInt8 := 159 :: 0 :: 7 :: sxX12_check_95
noncomputable def sxX12_check_91 : List UInt8 := 46 :: sxX12_check_92
noncomputable def sxX12_check_89 : List UInt8 := 21 :: 4 :: sxX12_check_91
noncomputable def sxX12_check_86 : List UInt8 := 180 :: 0 :: 28 :: sxX12_check_89
noncomputable def sxX12_check_85 : List UInt8 := 42 :: sxX12_check_86
noncomputable def sxX12_check_82 : List UInt8 := 182 :: 1 :: 225 :: sxX12_check_85
noncomputable def sxX12_check_81 : List UInt8 := 96 :: sxX12_check_82
noncomputable def sxX12_check_80 : List UInt8 := 4 :: sxX12_check_81
noncomputable def sxX12_check_79 : List UInt8 := 29 :: sxX12_check_80
noncomputable def sxX12_check_78 : List UInt8 := 42 :: sxX12_check_79
noncomputable def sxX12_check_77 : List UInt8 := 172 :: sxX12_check_78
noncomputable def sxX12_check_76 : List UInt8 := 29 :: sxX12_check_77
noncomputable def sxX12_check_73 : List UInt8 := 159 :: 0 :: 5 :: sxX12_check_76
noncomputable def sxX12_check_71 : List UInt8 := 21 :: 4 :: sxX12_check_73
noncomputable def sxX12_check_68 : List UInt8 := 182 :: 1 :: 225 :: sxX12_check_71
noncomputable def sxX12_check_67 : List UInt8 := 29 :: sxX12_check_68
noncomputable def sxX12_check_66 : List UInt8 := 42 :: sxX12_check_67
noncomputable def sxX12_check_63 : List UInt8 := 159 :: 0 :: 13 :: sxX12_check_66
noncomputable def sxX12_check_62 : List UInt8 := 104 :: sxX12_check_63
noncomputable def sxX12_check_61 : List UInt8 := 28 :: sxX12_check_62
noncomputable def sxX12_check_60 : List UInt8 := 7 :: sxX12_check_61
noncomputable def sxX12_check_59 : List UInt8 := 29 :: sxX12_check_60
noncomputable def sxX12_check_56 : List UInt8 := 167 :: 0 :: 89 :: sxX12_check_59
noncomputable def sxX12_check_53 : List UInt8 := 159 :: 0 :: 6 :: sxX12_check_56
noncomputable def sxX12_check_52 : List UInt8 := 27 :: sxX12_check_53
noncomputable def sxX12_check_51 : List UInt8 := 46 :: sxX12_check_52
noncomputable def sxX12_check_49 : List UInt8 := 21 :: 4 :: sxX12_check_51
noncomputable def sxX12_check_46 : List UInt8 := 180 :: 0 :: 25 :: sxX12_check_49
noncomputable def sxX12_check_45 : List UInt8 := 42 :: sxX12_check_46
noncomputable def sxX12_check_42 : List UInt8 := 162 :: 0 :: 109 :: sxX12_check_45
noncomputable def sxX12_check_39 : List UInt8 := 180 :: 0 :: 208 :: sxX12_check_42
noncomputable def sxX12_check_38 : List UInt8 := 42 :: sxX12_check_39
noncomputable def sxX12_check_36 : List UInt8 := 21 :: 4 :: sxX12_check_38
noncomputable def sxX12_check_34 : List UInt8 := 54 :: 4 :: sxX12_check_36
noncomputable def sxX12_check_33 : List UInt8 := 3 :: sxX12_check_34
noncomputable def sxX12_check_32 : List UInt8 := 62 :: sxX12_check_33
noncomputable def sxX12_check_31 : List UInt8 := 3 :: sxX12_check_32
noncomputable def sxX12_check_28 : List UInt8 := 181 :: 0 :: 226 :: sxX12_check_31
noncomputable def sxX12_check_27 : List UInt8 := 3 :: sxX12_check_28
noncomputable def sxX12_check_26 : List UInt8 := 42 :: sxX12_check_27
noncomputable def sxX12_check_25 : List UInt8 := 172 :: sxX12_check_26
noncomputable def sxX12_check_23 : List UInt8 := 16 :: 254 :: sxX12_check_25
noncomputable def sxX12_check_20 : List UInt8 := 164 :: 0 :: 6 :: sxX12_check_23
noncomputable def sxX12_check_19 : List UInt8 := 108 :: sxX12_check_20
noncomputable def sxX12_check_17 : List UInt8 := 16 :: 16 :: sxX12_check_19
noncomputable def sxX12_check_14 : List UInt8 := 180 :: 0 :: 226 :: sxX12_check_17
noncomputable def sxX12_check_13 : List UInt8 := 42 :: sxX12_check_14
noncomputable def sxX12_check_12 : List UInt8 := 28 :: sxX12_check_13
noncomputable def sxX12_check_9 : List UInt8 := 155 :: 0 :: 14 :: sxX12_check_12
noncomputable def sxX12_check_8 : List UInt8 := 28 :: sxX12_check_9
noncomputable def sxX12_check_5 : List UInt8 := 153 :: 0 :: 18 :: sxX12_check_8
noncomputable def sxX12_check_2 : List UInt8 := 182 :: 0 :: 218 :: sxX12_check_5
noncomputable def sxX12_check_1 : List UInt8 := 27 :: sxX12_check_2
noncomputable def sxX12_check_0 : List UInt8 := 42 :: sxX12_check_1
theorem shX12_check_0 : cX12_check.data.toList.drop 0 = sxX12_check_0 := rfl
theorem shX12_check_1 : cX12_check.data.toList.drop 1 = sxX12_check_1 := dSn 1 shX12_check_0
theorem shX12_check_2 : cX12_check.data.toList.drop 2 = sxX12_check_2 := dSn 1 shX12_check_1
theorem shX12_check_5 : cX12_check.data.toList.drop 5 = sxX12_check_5 := dSn 3 shX12_check_2
theorem shX12_check_8 : cX12_check.data.toList.drop 8 = sxX12_check_8 := dSn 3 shX12_check_5
theorem shX12_check_9 : cX12_check.data.toList.drop 9 = sxX12_check_9 := dSn 1 shX12_check_8
theorem shX12_check_12 : cX12_check.data.toList.drop 12 = sxX12_check_12 := dSn 3 shX12_check_9
theorem shX12_check_13 : cX12_check.data.toList.drop 13 = sxX12_check_13 := dSn 1 shX12_check_12
theorem shX12_check_14 : cX12_check.data.toList.drop 14 = sxX12_check_14 := dSn 1 shX12_check_13
theorem shX12_check_17 : cX12_check.data.toList.drop 17 = sxX12_check_17 := dSn 3 shX12_check_14
theorem shX12_check_19 : cX12_check.data.toList.drop 19 = sxX12_check_19 := dSn 2 shX12_check_17
theorem shX12_check_20 : cX12_check.data.toList.drop 20 = sxX12_check_20 := dSn 1 shX12_check_19
theorem shX12_check_23 : cX12_check.data.toList.drop 23 = sxX12_check_23 := dSn 3 shX12_check_20
theorem shX12_check_25 : cX12_check.data.toList.drop 25 = sxX12_check_25 := dSn 2 shX12_check_23
theorem shX12_check_26 : cX12_check.data.toList.drop 26 = sxX12_check_26 := dSn 1 shX12_check_25
theorem shX12_check_27 : cX12_check.data.toList.drop 27 = sxX12_check_27 := dSn 1 shX12_check_26
theorem shX12_check_28 : cX12_check.data.toList.drop 28 = sxX12_check_28 := dSn 1 shX12_check_27
theorem shX12_check_31 : cX12_check.data.toList.drop 31 = sxX12_check_31 := dSn 3 shX12_check_28
theorem shX12_check_32 : cX12_check.data.toList.drop 32 = sxX12_check_32 := dSn 1 shX12_check_31
theorem shX12_check_33 : cX12_check.data.toList.drop 33 = sxX12_check_33 := dSn 1 shX12_check_32
theorem shX12_check_34 : cX12_check.data.toList.drop 34 = sxX12_check_34 := dSn 1 shX12_check_33
theorem shX12_check_36 : cX12_check.data.toList.drop 36 = sxX12_check_36 := dSn 2 shX12_check_34
theorem shX12_check_38 : cX12_check.data.toList.drop 38 = sxX12_check_38 := dSn 2 shX12_check_36
theorem shX12_check_39 : cX12_check.data.toList.drop 39 = sxX12_check_39 := dSn 1 shX12_check_38
theorem shX12_check_42 : cX12_check.data.toList.drop 42 = sxX12_check_42 := dSn 3 shX12_check_39
theorem shX12_check_45 : cX12_check.data.toList.drop 45 = sxX12_check_45 := dSn 3 shX12_check_42
theorem shX12_check_46 : cX12_check.data.toList.drop 46 = sxX12_check_46 := dSn 1 shX12_check_45
theorem shX12_check_49 : cX12_check.data.toList.drop 49 = sxX12_check_49 := dSn 3 shX12_check_46
theorem shX12_check_51 : cX12_check.data.toList.drop 51 = sxX12_check_51 := dSn 2 shX12_check_49
theorem shX12_check_52 : cX12_check.data.toList.drop 52 = sxX12_check_52 := dSn 1 shX12_check_51
theorem shX12_check_53 : cX12_check.data.toList.drop 53 = sxX12_check_53 := dSn 1 shX12_check_52
theorem shX12_check_56 : cX12_check.data.toList.drop 56 = sxX12_check_56 := dSn 3 shX12_check_53
theorem shX12_check_59 : cX12_check.data.toList.drop 59 = sxX12_check_59 := dSn 3 shX12_check_56
theorem shX12_check_60 : cX12_check.data.toList.drop 60 = sxX12_check_60 := dSn 1 shX12_check_59
theorem shX12_check_61 : cX12_check.data.toList.drop 61 = sxX12_check_61 := dSn 1 shX12_check_60
theorem shX12_check_62 : cX12_check.data.toList.drop 62 = sxX12_check_62 := dSn 1 shX12_check_61
theorem shX12_check_63 : cX12_check.data.toList.drop 63 = sxX12_check_63 := dSn 1 shX12_check_62
theorem shX12_check_66 : cX12_check.data.toList.drop 66 = sxX12_check_66 := dSn 3 shX12_check_63
theorem shX12_check_67 : cX12_check.data.toList.drop 67 = sxX12_check_67 := dSn 1 shX12_check_66
theorem shX12_check_68 : cX12_check.data.toList.drop 68 = sxX12_check_68 := dSn 1 shX12_check_67
theorem shX12_check_71 : cX12_check.data.toList.drop 71 = sxX12_check_71 := dSn 3 shX12_check_68
theorem shX12_check_73 : cX12_check.data.toList.drop 73 = sxX12_check_73 := dSn 2 shX12_check_71
theorem shX12_check_76 : cX12_check.data.toList.drop 76 = sxX12_check_76 := dSn 3 shX12_check_73
theorem shX12_check_77 : cX12_check.data.toList.drop 77 = sxX12_check_77 := dSn 1 shX12_check_76
theorem shX12_check_78 : cX12_check.data.toList.drop 78 = sxX12_check_78 := dSn 1 shX12_check_77
theorem shX12_check_79 : cX12_check.data.toList.drop 79 = sxX12_check_79 := dSn 1 shX12_check_78
theorem shX12_check_80 : cX12_check.data.toList.drop 80 = sxX12_check_80 := dSn 1 shX12_check_79
theorem shX12_check_81 : cX12_check.data.toList.drop 81 = sxX12_check_81 := dSn 1 shX12_check_80
theorem shX12_check_82 : cX12_check.data.toList.drop 82 = sxX12_check_82 := dSn 1 shX12_check_81
theorem shX12_check_85 : cX12_check.data.toList.drop 85 = sxX12_check_85 := dSn 3 shX12_check_82
theorem shX12_check_86 : cX12_check.data.toList.drop 86 = sxX12_check_86 := dSn 1 shX12_check_85
theorem shX12_check_89 : cX12_check.data.toList.drop 89 = sxX12_check_89 := dSn 3 shX12_check_86
theorem shX12_check_91 : cX12_check.data.toList.drop 91 = sxX12_check_91 := dSn 2 shX12_check_89
theorem shX12_check_92 : cX12_check.data.toList.drop 92 = sxX12_check_92 := dSn 1 shX12_check_91
theorem shX12_check_95 : cX12_check.data.toList.drop 95 = sxX12_check_95 := dSn 3 shX12_check_92
theorem shX12_check_96 : cX12_check.data.toList.drop 96 = sxX12_check_96 := dSn 1 shX12_check_95
theorem shX12_check_97 : cX12_check.data.toList.drop 97 = sxX12_check_97 := dSn 1 shX12_check_96
theorem shX12_check_98 : cX12_check.data.toList.drop 98 = sxX12_check_98 := dSn 1 shX12_check_97
theorem shX12_check_99 : cX12_check.data.toList.drop 99 = sxX12_check_99 := dSn 1 shX12_check_98
theorem shX12_check_100 : cX12_check.data.toList.drop 100 = sxX12_check_100 := dSn 1 shX12_check_99
theorem shX12_check_101 : cX12_check.data.toList.drop 101 = sxX12_check_101 := dSn 1 shX12_check_100
theorem shX12_check_102 : cX12_check.data.toList.drop 102 = sxX12_check_102 := dSn 1 shX12_check_101
theorem shX12_check_103 : cX12_check.data.toList.drop 103 = sxX12_check_103 := dSn 1 shX12_check_102
theorem shX12_check_106 : cX12_check.data.toList.drop 106 = sxX12_check_106 := dSn 3 shX12_check_103
theorem shX12_check_107 : cX12_check.data.toList.drop 107 = sxX12_check_107 := dSn 1 shX12_check_106
theorem shX12_check_110 : cX12_check.data.toList.drop 110 = sxX12_check_110 := dSn 3 shX12_check_107
theorem shX12_check_112 : cX12_check.data.toList.drop 112 = sxX12_check_112 := dSn 2 shX12_check_110
theorem shX12_check_113 : cX12_check.data.toList.drop 113 = sxX12_check_113 := dSn 1 shX12_check_112
theorem shX12_check_116 : cX12_check.data.toList.drop 116 = sxX12_check_116 := dSn 3 shX12_check_113
theorem shX12_check_117 : cX12_check.data.toList.drop 117 = sxX12_check_117 := dSn 1 shX12_check_116
theorem shX12_check_118 : cX12_check.data.toList.drop 118 = sxX12_check_118 := dSn 1 shX12_check_117
theorem shX12_check_119 : cX12_check.data.toList.drop 119 = sxX12_check_119 := dSn 1 shX12_check_118
theorem shX12_check_120 : cX12_check.data.toList.drop 120 = sxX12_check_120 := dSn 1 shX12_check_119
theorem shX12_check_121 : cX12_check.data.toList.drop 121 = sxX12_check_121 := dSn 1 shX12_check_120
theorem shX12_check_122 : cX12_check.data.toList.drop 122 = sxX12_check_122 := dSn 1 shX12_check_121
theorem shX12_check_123 : cX12_check.data.toList.drop 123 = sxX12_check_123 := dSn 1 shX12_check_122
theorem shX12_check_124 : cX12_check.data.toList.drop 124 = sxX12_check_124 := dSn 1 shX12_check_123
theorem shX12_check_127 : cX12_check.data.toList.drop 127 = sxX12_check_127 := dSn 3 shX12_check_124
theorem shX12_check_128 : cX12_check.data.toList.drop 128 = sxX12_check_128 := dSn 1 shX12_check_127
theorem shX12_check_131 : cX12_check.data.toList.drop 131 = sxX12_check_131 := dSn 3 shX12_check_128
theorem shX12_check_133 : cX12_check.data.toList.drop 133 = sxX12_check_133 := dSn 2 shX12_check_131
theorem shX12_check_134 : cX12_check.data.toList.drop 134 = sxX12_check_134 := dSn 1 shX12_check_133
theorem shX12_check_137 : cX12_check.data.toList.drop 137 = sxX12_check_137 := dSn 3 shX12_check_134
theorem shX12_check_138 : cX12_check.data.toList.drop 138 = sxX12_check_138 := dSn 1 shX12_check_137
theorem shX12_check_139 : cX12_check.data.toList.drop 139 = sxX12_check_139 := dSn 1 shX12_check_138
theorem shX12_check_140 : cX12_check.data.toList.drop 140 = sxX12_check_140 := dSn 1 shX12_check_139
theorem shX12_check_141 : cX12_check.data.toList.drop 141 = sxX12_check_141 := dSn 1 shX12_check_140
theorem shX12_check_142 : cX12_check.data.toList.drop 142 = sxX12_check_142 := dSn 1 shX12_check_141
theorem shX12_check_143 : cX12_check.data.toList.drop 143 = sxX12_check_143 := dSn 1 shX12_check_142
theorem shX12_check_144 : cX12_check.data.toList.drop 144 = sxX12_check_144 := dSn 1 shX12_check_143
theorem shX12_check_145 : cX12_check.data.toList.drop 145 = sxX12_check_145 := dSn 1 shX12_check_144
theorem shX12_check_148 : cX12_check.data.toList.drop 148 = sxX12_check_148 := dSn 3 shX12_check_145
theorem shX12_check_151 : cX12_check.data.toList.drop 151 = sxX12_check_151 := dSn 3 shX12_check_148
theorem shX12_check_152 : cX12_check.data.toList.drop 152 = sxX12_check_152 := dSn 1 shX12_check_151
theorem shX12_check_153 : cX12_check.data.toList.drop 153 = sxX12_check_153 := dSn 1 shX12_check_152
theorem shX12_check_154 : cX12_check.data.toList.drop 154 = sxX12_check_154 := dSn 1 shX12_check_153
theorem shX12_check_155 : cX12_check.data.toList.drop 155 = sxX12_check_155 := dSn 1 shX12_check_154
theorem shX12_check_158 : cX12_check.data.toList.drop 158 = sxX12_check_158 := dSn 3 shX12_check_155
theorem shX12_check_159 : cX12_check.data.toList.drop 159 = sxX12_check_159 := dSn 1 shX12_check_158
theorem shX12_check_162 : cX12_check.data.toList.drop 162 = sxX12_check_162 := dSn 3 shX12_check_159
theorem shX12_check_163 : cX12_check.data.toList.drop 163 = sxX12_check_163 := dSn 1 shX12_check_162
theorem dX12_check_0 : decode cX12_check 0 = .ok (.aload_n 0, 1) := oc_42 shX12_check_0
theorem dX12_check_1 : decode cX12_check 1 = .ok (.iload_n 1, 1) := oc_27 shX12_check_1
theorem dX12_check_2 : decode cX12_check 2 = .ok (.invokevirtual 218, 3) := oc_182 shX12_check_2
theorem dX12_check_5 : decode cX12_check 5 = .ok (.ifCond .eq 18, 3) := oc_153 shX12_check_5 sgw_0_18
theorem dX12_check_8 : decode cX12_check 8 = .ok (.iload_n 2, 1) := oc_28 shX12_check_8
theorem dX12_check_9 : decode cX12_check 9 = .ok (.ifCond .lt 14, 3) := oc_155 shX12_check_9 sgw_0_14
theorem dX12_check_12 : decode cX12_check 12 = .ok (.iload_n 2, 1) := oc_28 shX12_check_12
theorem dX12_check_13 : decode cX12_check 13 = .ok (.aload_n 0, 1) := oc_42 shX12_check_13
theorem dX12_check_14 : decode cX12_check 14 = .ok (.getfield 226, 3) := oc_180 shX12_check_14
theorem dX12_check_17 : decode cX12_check 17 = .ok (.bipush 16, 2) := oc_16 shX12_check_17 sgb_16
theorem dX12_check_19 : decode cX12_check 19 = .ok (.idiv, 1) := oc_108 shX12_check_19
theorem dX12_check_20 : decode cX12_check 20 = .ok (.if_icmp .le 6, 3) := oc_164 shX12_check_20 sgw_0_6
theorem dX12_check_23 : decode cX12_check 23 = .ok (.bipush (-2), 2) := oc_16 shX12_check_23 sgb_254
theorem dX12_check_25 : decode cX12_check 25 = .ok (.ireturn, 1) := oc_172 shX12_check_25
theorem dX12_check_26 : decode cX12_check 26 = .ok (.aload_n 0, 1) := oc_42 shX12_check_26
theorem dX12_check_27 : decode cX12_check 27 = .ok (.iconst 0, 1) := oc_3 shX12_check_27
theorem dX12_check_28 : decode cX12_check 28 = .ok (.putfield 226, 3) := oc_181 shX12_check_28
theorem dX12_check_31 : decode cX12_check 31 = .ok (.iconst 0, 1) := oc_3 shX12_check_31
theorem dX12_check_32 : decode cX12_check 32 = .ok (.istore_n 3, 1) := oc_62 shX12_check_32
theorem dX12_check_33 : decode cX12_check 33 = .ok (.iconst 0, 1) := oc_3 shX12_check_33
theorem dX12_check_34 : decode cX12_check 34 = .ok (.istore 4, 2) := oc_54 shX12_check_34
theorem dX12_check_36 : decode cX12_check 36 = .ok (.iload 4, 2) := oc_21 shX12_check_36
theorem dX12_check_38 : decode cX12_check 38 = .ok (.aload_n 0, 1) := oc_42 shX12_check_38
theorem dX12_check_39 : decode cX12_check 39 = .ok (.getfield 208, 3) := oc_180 shX12_check_39
theorem dX12_check_42 : decode cX12_check 42 = .ok (.if_icmp .ge 109, 3) := oc_162 shX12_check_42 sgw_0_109
theorem dX12_check_45 : decode cX12_check 45 = .ok (.aload_n 0, 1) := oc_42 shX12_check_45
theorem dX12_check_46 : decode cX12_check 46 = .ok (.getfield 25, 3) := oc_180 shX12_check_46
theorem dX12_check_49 : decode cX12_check 49 = .ok (.iload 4, 2) := oc_21 shX12_check_49
theorem dX12_check_51 : decode cX12_check 51 = .ok (.iaload, 1) := oc_46 shX12_check_51
theorem dX12_check_52 : decode cX12_check 52 = .ok (.iload_n 1, 1) := oc_27 shX12_check_52
theorem dX12_check_53 : decode cX12_check 53 = .ok (.if_icmp .eq 6, 3) := oc_159 shX12_check_53 sgw_0_6
theorem dX12_check_56 : decode cX12_check 56 = .ok (.goto 89, 3) := oc_167 shX12_check_56 sgw_0_89
theorem dX12_check_59 : decode cX12_check 59 = .ok (.iload_n 3, 1) := oc_29 shX12_check_59
theorem dX12_check_60 : decode cX12_check 60 = .ok (.iconst 4, 1) := oc_7 shX12_check_60
theorem dX12_check_61 : decode cX12_check 61 = .ok (.iload_n 2, 1) := oc_28 shX12_check_61
theorem dX12_check_62 : decode cX12_check 62 = .ok (.imul, 1) := oc_104 shX12_check_62
theorem dX12_check_63 : decode cX12_check 63 = .ok (.if_icmp .eq 13, 3) := oc_159 shX12_check_63 sgw_0_13
theorem dX12_check_66 : decode cX12_check 66 = .ok (.aload_n 0, 1) := oc_42 shX12_check_66
theorem dX12_check_67 : decode cX12_check 67 = .ok (.iload_n 3, 1) := oc_29 shX12_check_67
theorem dX12_check_68 : decode cX12_check 68 = .ok (.invokevirtual 481, 3) := oc_182 shX12_check_68
theorem dX12_check_71 : decode cX12_check 71 = .ok (.iload 4, 2) := oc_21 shX12_check_71
theorem dX12_check_73 : decode cX12_check 73 = .ok (.if_icmp .eq 5, 3) := oc_159 shX12_check_73 sgw_0_5
theorem dX12_check_76 : decode cX12_check 76 = .ok (.iload_n 3, 1) := oc_29 shX12_check_76
theorem dX12_check_77 : decode cX12_check 77 = .ok (.ireturn, 1) := oc_172 shX12_check_77
theorem dX12_check_78 : decode cX12_check 78 = .ok (.aload_n 0, 1) := oc_42 shX12_check_78
theorem dX12_check_79 : decode cX12_check 79 = .ok (.iload_n 3, 1) := oc_29 shX12_check_79
theorem dX12_check_80 : decode cX12_check 80 = .ok (.iconst 1, 1) := oc_4 shX12_check_80
theorem dX12_check_81 : decode cX12_check 81 = .ok (.iadd, 1) := oc_96 shX12_check_81
theorem dX12_check_82 : decode cX12_check 82 = .ok (.invokevirtual 481, 3) := oc_182 shX12_check_82
theorem dX12_check_85 : decode cX12_check 85 = .ok (.aload_n 0, 1) := oc_42 shX12_check_85
theorem dX12_check_86 : decode cX12_check 86 = .ok (.getfield 28, 3) := oc_180 shX12_check_86
theorem dX12_check_89 : decode cX12_check 89 = .ok (.iload 4, 2) := oc_21 shX12_check_89
theorem dX12_check_91 : decode cX12_check 91 = .ok (.iaload, 1) := oc_46 shX12_check_91
theorem dX12_check_92 : decode cX12_check 92 = .ok (.if_icmp .eq 7, 3) := oc_159 shX12_check_92 sgw_0_7
theorem dX12_check_95 : decode cX12_check 95 = .ok (.iload_n 3, 1) := oc_29 shX12_check_95
theorem dX12_check_96 : decode cX12_check 96 = .ok (.iconst 1, 1) := oc_4 shX12_check_96
theorem dX12_check_97 : decode cX12_check 97 = .ok (.iadd, 1) := oc_96 shX12_check_97
theorem dX12_check_98 : decode cX12_check 98 = .ok (.ireturn, 1) := oc_172 shX12_check_98
theorem dX12_check_99 : decode cX12_check 99 = .ok (.aload_n 0, 1) := oc_42 shX12_check_99
theorem dX12_check_100 : decode cX12_check 100 = .ok (.iload_n 3, 1) := oc_29 shX12_check_100
theorem dX12_check_101 : decode cX12_check 101 = .ok (.iconst 2, 1) := oc_5 shX12_check_101
theorem dX12_check_102 : decode cX12_check 102 = .ok (.iadd, 1) := oc_96 shX12_check_102
theorem dX12_check_103 : decode cX12_check 103 = .ok (.invokevirtual 481, 3) := oc_182 shX12_check_103
theorem dX12_check_106 : decode cX12_check 106 = .ok (.aload_n 0, 1) := oc_42 shX12_check_106
theorem dX12_check_107 : decode cX12_check 107 = .ok (.getfield 31, 3) := oc_180 shX12_check_107
theorem dX12_check_110 : decode cX12_check 110 = .ok (.iload 4, 2) := oc_21 shX12_check_110
theorem dX12_check_112 : decode cX12_check 112 = .ok (.iaload, 1) := oc_46 shX12_check_112
theorem dX12_check_113 : decode cX12_check 113 = .ok (.if_icmp .eq 7, 3) := oc_159 shX12_check_113 sgw_0_7
theorem dX12_check_116 : decode cX12_check 116 = .ok (.iload_n 3, 1) := oc_29 shX12_check_116
theorem dX12_check_117 : decode cX12_check 117 = .ok (.iconst 2, 1) := oc_5 shX12_check_117
theorem dX12_check_118 : decode cX12_check 118 = .ok (.iadd, 1) := oc_96 shX12_check_118
theorem dX12_check_119 : decode cX12_check 119 = .ok (.ireturn, 1) := oc_172 shX12_check_119
theorem dX12_check_120 : decode cX12_check 120 = .ok (.aload_n 0, 1) := oc_42 shX12_check_120
theorem dX12_check_121 : decode cX12_check 121 = .ok (.iload_n 3, 1) := oc_29 shX12_check_121
theorem dX12_check_122 : decode cX12_check 122 = .ok (.iconst 3, 1) := oc_6 shX12_check_122
theorem dX12_check_123 : decode cX12_check 123 = .ok (.iadd, 1) := oc_96 shX12_check_123
theorem dX12_check_124 : decode cX12_check 124 = .ok (.invokevirtual 481, 3) := oc_182 shX12_check_124
theorem dX12_check_127 : decode cX12_check 127 = .ok (.aload_n 0, 1) := oc_42 shX12_check_127
theorem dX12_check_128 : decode cX12_check 128 = .ok (.getfield 43, 3) := oc_180 shX12_check_128
theorem dX12_check_131 : decode cX12_check 131 = .ok (.iload 4, 2) := oc_21 shX12_check_131
theorem dX12_check_133 : decode cX12_check 133 = .ok (.iaload, 1) := oc_46 shX12_check_133
theorem dX12_check_134 : decode cX12_check 134 = .ok (.if_icmp .eq 7, 3) := oc_159 shX12_check_134 sgw_0_7
theorem dX12_check_137 : decode cX12_check 137 = .ok (.iload_n 3, 1) := oc_29 shX12_check_137
theorem dX12_check_138 : decode cX12_check 138 = .ok (.iconst 3, 1) := oc_6 shX12_check_138
theorem dX12_check_139 : decode cX12_check 139 = .ok (.iadd, 1) := oc_96 shX12_check_139
theorem dX12_check_140 : decode cX12_check 140 = .ok (.ireturn, 1) := oc_172 shX12_check_140
theorem dX12_check_141 : decode cX12_check 141 = .ok (.iload_n 3, 1) := oc_29 shX12_check_141
theorem dX12_check_142 : decode cX12_check 142 = .ok (.iconst 4, 1) := oc_7 shX12_check_142
theorem dX12_check_143 : decode cX12_check 143 = .ok (.iadd, 1) := oc_96 shX12_check_143
theorem dX12_check_144 : decode cX12_check 144 = .ok (.istore_n 3, 1) := oc_62 shX12_check_144
theorem dX12_check_145 : decode cX12_check 145 = .ok (.iinc 4 1, 3) := oc_132 shX12_check_145 sgb_1
theorem dX12_check_148 : decode cX12_check 148 = .ok (.goto (-112), 3) := oc_167 shX12_check_148 sgw_255_144
theorem dX12_check_151 : decode cX12_check 151 = .ok (.iload_n 3, 1) := oc_29 shX12_check_151
theorem dX12_check_152 : decode cX12_check 152 = .ok (.iconst 4, 1) := oc_7 shX12_check_152
theorem dX12_check_153 : decode cX12_check 153 = .ok (.iload_n 2, 1) := oc_28 shX12_check_153
theorem dX12_check_154 : decode cX12_check 154 = .ok (.imul, 1) := oc_104 shX12_check_154
theorem dX12_check_155 : decode cX12_check 155 = .ok (.if_icmp .ge 7, 3) := oc_162 shX12_check_155 sgw_0_7
theorem dX12_check_158 : decode cX12_check 158 = .ok (.iload_n 3, 1) := oc_29 shX12_check_158
theorem dX12_check_159 : decode cX12_check 159 = .ok (.goto 4, 3) := oc_167 shX12_check_159 sgw_0_4
theorem dX12_check_162 : decode cX12_check 162 = .ok (.iconst (-1), 1) := oc_2 shX12_check_162
theorem dX12_check_163 : decode cX12_check 163 = .ok (.ireturn, 1) := oc_172 shX12_check_163
noncomputable def sxX12_count_243 : List UInt8 := []
noncomputable def sxX12_count_242 : List UInt8 := 172 :: sxX12_count_243
noncomputable def sxX12_count_241 : List UInt8 := 2 :: sxX12_count_242
noncomputable def sxX12_count_238 : List UInt8 := 167 :: 0 :: 4 :: sxX12_count_241
noncomputable def sxX12_count_237 : List UInt8 := 46 :: sxX12_count_238
noncomputable def sxX12_count_236 : List UInt8 := 100 :: sxX12_count_237
noncomputable def sxX12_count_234 : List UInt8 := 16 :: 50 :: sxX12_count_236
noncomputable def sxX12_count_233 : List UInt8 := 27 :: sxX12_count_234
noncomputable def sxX12_count_230 : List UInt8 := 180 :: 0 :: 144 :: sxX12_count_233
noncomputable def sxX12_count_229 : List UInt8 := 42 :: sxX12_count_230
noncomputable def sxX12_count_226 : List UInt8 := 153 :: 0 :: 15 :: sxX12_count_229
noncomputable def sxX12_count_223 : List UInt8 := 184 :: 0 :: 214 :: sxX12_count_226
noncomputable def sxX12_count_222 : List UInt8 := 96 :: sxX12_count_223
noncomputable def sxX12_count_219 : List UInt8 := 180 :: 1 :: 191 :: sxX12_count_222
noncomputable def sxX12_count_218 : List UInt8 := 42 :: sxX12_count_219
noncomputable def sxX12_count_216 : List UInt8 := 16 :: 49 :: sxX12_count_218
noncomputable def sxX12_count_214 : List UInt8 := 16 :: 50 :: sxX12_count_216
noncomputable def sxX12_count_213 : List UInt8 := 27 :: sxX12_count_214
noncomputable def sxX12_count_212 : List UInt8 := 172 :: sxX12_count_213
noncomputable def sxX12_count_211 : List UInt8 := 46 :: sxX12_count_212
noncomputable def sxX12_count_210 : List UInt8 := 100 :: sxX12_count_211
noncomputable def sxX12_count_208 : List UInt8 := 16 :: 40 :: sxX12_count_210
noncomputable def sxX12_count_207 : List UInt8 := 27 :: sxX12_count_208
noncomputable def sxX12_count_204 : List UInt8 := 180 :: 0 :: 141 :: sxX12_count_207
noncomputable def sxX12_count_203 : List UInt8 := 42 :: sxX12_count_204
noncomputable def sxX12_count_200 : List UInt8 := 153 :: 0 :: 13 :: sxX12_count_203
noncomputable def sxX12_count_197 : List UInt8 := 184 :: 0 :: 214 :: sxX12_count_200
noncomputable def sxX12_count_196 : List UInt8 := 96 :: sxX12_count_197
noncomputable def sxX12_count_193 : List UInt8 := 180 :: 1 :: 179 :: sxX12_count_196
noncomputable def sxX12_count_192 : List UInt8 := 42 :: sxX12_count_193
noncomputable def sxX12_count_190 : List UInt8 := 16 :: 39 :: sxX12_count_192
noncomputable def sxX12_count_188 : List UInt8 := 16 :: 40 :: sxX12_count_190
noncomputable def sxX12_count_187 : List UInt8 := 27 :: sxX12_count_188
noncomputable def sxX12_count_186 : List UInt8 := 172 :: sxX12_count_187
noncomputable def sxX12_count_185 : List UInt8 := 46 :: sxX12_count_186
noncomputable def sxX12_count_184 : List UInt8 := 100 :: sxX12_count_185
noncomputable def sxX12_count_182 : List UInt8 := 16 :: 30 :: sxX12_count_184
noncomputable def sxX12_count_181 : List UInt8 := 27 :: sxX12_count_182
noncomputable def sxX12_count_178 : List UInt8 := 180 :: 0 :: 95 :: sxX12_count_181
noncomputable def sxX12_count_177 : List UInt8 := 42 :: sxX12_count_178
noncomputable def sxX12_count_174 : List UInt8 := 153 :: 0 :: 13 :: sxX12_count_177
noncomputable def sxX12_count_171 : List UInt8 := 184 :: 0 :: 214 :: sxX12_count_174
noncomputable def sxX12_count_170 : List UInt8 := 96 :: sxX12_count_171
noncomputable def sxX12_count_167 : List UInt8 := 180 :: 0 :: 204 :: sxX12_count_170
noncomputable def sxX12_count_166 : List UInt8 := 42 :: sxX12_count_167
noncomputable def sxX12_count_164 : List UInt8 := 16 :: 29 :: sxX12_count_166
noncomputable def sxX12_count_162 : List UInt8 := 16 :: 30 :: sxX12_count_164
noncomputable def sxX12_count_161 : List UInt8 := 27 :: sxX12_count_162
noncomputable def sxX12_count_160 : List UInt8 := 172 :: sxX12_count_161
noncomputable def sxX12_count_159 : List UInt8 := 46 :: sxX12_count_160
noncomputable def sxX12_count_158 : List UInt8 := 100 :: sxX12_count_159
noncomputable def sxX12_count_156 : List UInt8 := 16 :: 20 :: sxX12_count_158
noncomputable def sxX12_count_155 : List UInt8 := 27 :: sxX12_count_156
noncomputable def sxX12_count_152 : List UInt8 := 180 :: 0 :: 22 :: sxX12_count_155
noncomputable def sxX12_count_151 : List UInt8 := 42 :: sxX12_count_152
noncomputable def sxX12_count_148 : List UInt8 := 153 :: 0 :: 13 :: sxX12_count_151
noncomputable def sxX12_count_145 : List UInt8 := 184 :: 0 :: 214 :: sxX12_count_148
noncomputable def sxX12_count_144 : List UInt8 := 96 :: sxX12_count_145
noncomputable def sxX12_count_141 : List UInt8 := 180 :: 0 :: 204 :: sxX12_count_144
noncomputable def sxX12_count_140 : List UInt8 := 42 :: sxX12_count_141
noncomputable def sxX12_count_138 : List UInt8 := 16 :: 19 :: sxX12_count_140
noncomputable def sxX12_count_136 : List UInt8 := 16 :: 20 :: sxX12_count_138
noncomputable def sxX12_count_135 : List UInt8 := 27 :: sxX12_count_136
noncomputable def sxX12_count_134 : List UInt8 := 172 :: sxX12_count_135
noncomputable def sxX12_count_133 : List UInt8 := 46 :: sxX12_count_134
noncomputable def sxX12_count_132 : List UInt8 := 100 :: sxX12_count_133
noncomputable def sxX12_count_130 : List UInt8 := 16 :: 10 :: sxX12_count_132
noncomputable def sxX12_count_129 : List UInt8 := 27 :: sxX12_count_130
noncomputable def sxX12_count_126 : List UInt8 := 180 :: 0 :: 74 :: sxX12_count_129
noncomputable def sxX12_count_125 : List UInt8 := 42 :: sxX12_count_126
noncomputable def sxX12_count_122 : List UInt8 := 153 :: 0 :: 13 :: sxX12_count_125
noncomputable def sxX12_count_119 : List UInt8 := 184 :: 0 :: 214 :: sxX12_count_122
noncomputable def sxX12_count_118 : List UInt8 := 96 :: sxX12_count_119
noncomputable def sxX12_count_115 : List UInt8 := 180 :: 0 :: 204 :: sxX12_count_118
noncomputable def sxX12_count_114 : List UInt8 := 42 :: sxX12_count_115
noncomputable def sxX12_count_112 : List UInt8 := 16 :: 9 :: sxX12_count_114
noncomputable def sxX12_count_110 : List UInt8 := 16 :: 10 :: sxX12_count_112
noncomputable def sxX12_count_109 : List UInt8 := 27 :: sxX12_count_110
noncomputable def sxX12_count_108 : List UInt8 := 172 :: sxX12_count_109
noncomputable def sxX12_count_105 : List UInt8 := 180 :: 1 :: 151 :: sxX12_count_108
noncomputable def sxX12_count_104 : List UInt8 := 42 :: sxX12_count_105
noncomputable def sxX12_count_103 : List UInt8 := 172 :: sxX12_count_104
noncomputable def sxX12_count_100 : List UInt8 := 180 :: 1 :: 130 :: sxX12_count_103
noncomputable def sxX12_count_99 : List UInt8 := 42 :: sxX12_count_100
noncomputable def sxX12_count_98 : List UInt8 := 172 :: sxX12_count_99
noncomputable def sxX12_count_95 : List UInt8 := 180 :: 1 :: 222 :: sxX12_count_98
noncomputable def sxX12_count_94 : List UInt8 := 42 :: sxX12_count_95
noncomputable def sxX12_count_93 : List UInt8 := 172 :: sxX12_count_94
noncomputable def sxX12_count_90 : List UInt8 := 180 :: 1 :: 191 :: sxX12_count_93
noncomputable def sxX12_count_89 : List UInt8 := 42 :: sxX12_count_90
noncomputable def sxX12_count_88 : List UInt8 := 172 :: sxX12_count_89
noncomputable def sxX12_count_85 : List UInt8 := 180 :: 1 :: 179 :: sxX12_count_88
noncomputable def sxX12_count_84 : List UInt8 := 42 :: sxX12_count_85
noncomputable def sxX12_count_83 : List UInt8 := 172 :: sxX12_count_84
noncomputable def sxX12_count_82 : List UInt8 := 46 :: sxX12_count_83
noncomputable def sxX12_count_80 : List UInt8 := 16 :: 10 :: sxX12_count_82
noncomputable def sxX12_count_77 : List UInt8 := 180 :: 0 :: 74 :: sxX12_count_80
noncomputable def sxX12_count_76 : List UInt8 := 42 :: sxX12_count_77
noncomputable def sxX12_count_75 : List UInt8 := 172 :: sxX12_count_76
noncomputable def sxX12_count_72 : List UInt8 := 180 :: 0 :: 226 :: sxX12_count_75
noncomputable def sxX12_count_71 : List UInt8 := 42 :: sxX12_count_72
noncomputable def sxX12_count_70 : List UInt8 := 172 :: sxX12_count_71
noncomputable def sxX12_count_67 : List UInt8 := 180 :: 0 :: 208 :: sxX12_count_70
noncomputable def sxX12_count_66 : List UInt8 := 42 :: sxX12_count_67
noncomputable def sxX12_count_65 : List UInt8 := 172 :: sxX12_count_66
noncomputable def sxX12_count_62 : List UInt8 := 180 :: 0 :: 204 :: sxX12_count_65
noncomputable def sxX12_count_61 : List UInt8 := 42 :: sxX12_count_62
noncomputable def sxX12_count_60 : List UInt8 := 172 :: sxX12_count_61
noncomputable def sxX12_count_57 : List UInt8 := 180 :: 0 :: 211 :: sxX12_count_60
noncomputable def sxX12_count_56 : List UInt8 := 42 :: sxX12_count_57
noncomputable def sxX12_count_1 : List UInt8 := 170 :: 0 :: 0 :: 0 :: 0 :: 0 :: 108 :: 0 :: 0 :: 0 :: 0 :: 0 :: 0 :: 0 :: 9 :: 0 :: 0 :: 0 :: 55 :: 0 :: 0 :: 0 :: 60 :: 0 :: 0 :: 0 :: 65 :: 0 :: 0 :: 0 :: 70 :: 0 :: 0 :: 0 :: 75 :: 0 :: 0 :: 0 :: 83 :: 0 :: 0 :: 0 :: 88 :: 0 :: 0 :: 0 :: 93 :: 0 :: 0 :: 0 :: 98 :: 0 :: 0 :: 0 :: 103 :: sxX12_count_56
noncomputable def sxX12_count_0 : List UInt8 := 27 :: sxX12_count_1
theorem shX12_count_0 : cX12_count.data.toList.drop 0 = sxX12_count_0 := rfl
theorem shX12_count_1 : cX12_count.data.toList.drop 1 = sxX12_count_1 := dSn 1 shX12_count_0
theorem shX12_count_56 : cX12_count.data.toList.drop 56 = sxX12_count_56 := dSn 55 shX12_count_1
theorem shX12_count_57 : cX12_count.data.toList.drop 57 = sxX12_count_57 := dSn 1 shX12_count_56
theorem shX12_count_60 : cX12_count.data.toList.drop 60 = sxX12_count_60 := dSn 3 shX12_count_57
theorem shX12_count_61 : cX12_count.data.toList.drop 61 = sxX12_count_61 := dSn 1 shX12_count_60
theorem shX12_count_62 : cX12_count.data.toList.drop 62 = sxX12_count_62 := dSn 1 shX12_count_61
theorem shX12_count_65 : cX12_count.data.toList.drop 65 = sxX12_count_65 := dSn 3 shX12_count_62
theorem shX12_count_66 : cX12_count.data.toList.drop 66 = sxX12_count_66 := dSn 1 shX12_count_65
theorem shX12_count_67 : cX12_count.data.toList.drop 67 = sxX12_count_67 := dSn 1 shX12_count_66
theorem shX12_count_70 : cX12_count.data.toList.drop 70 = sxX12_count_70 := dSn 3 shX12_count_67
theorem shX12_count_71 : cX12_count.data.toList.drop 71 = sxX12_count_71 := dSn 1 shX12_count_70
theorem shX12_count_72 : cX12_count.data.toList.drop 72 = sxX12_count_72 := dSn 1 shX12_count_71
theorem shX12_count_75 : cX12_count.data.toList.drop 75 = sxX12_count_75 := dSn 3 shX12_count_72
theorem shX12_count_76 : cX12_count.data.toList.drop 76 = sxX12_count_76 := dSn 1 shX12_count_75
theorem shX12_count_77 : cX12_count.data.toList.drop 77 = sxX12_count_77 := dSn 1 shX12_count_76
theorem shX12_count_80 : cX12_count.data.toList.drop 80 = sxX12_count_80 := dSn 3 shX12_count_77
theorem shX12_count_82 : cX12_count.data.toList.drop 82 = sxX12_count_82 := dSn 2 shX12_count_80
theorem shX12_count_83 : cX12_count.data.toList.drop 83 = sxX12_count_83 := dSn 1 shX12_count_82
theorem shX12_count_84 : cX12_count.data.toList.drop 84 = sxX12_count_84 := dSn 1 shX12_count_83
theorem shX12_count_85 : cX12_count.data.toList.drop 85 = sxX12_count_85 := dSn 1 shX12_count_84
theorem shX12_count_88 : cX12_count.data.toList.drop 88 = sxX12_count_88 := dSn 3 shX12_count_85
theorem shX12_count_89 : cX12_count.data.toList.drop 89 = sxX12_count_89 := dSn 1 shX12_count_88
theorem shX12_count_90 : cX12_count.data.toList.drop 90 = sxX12_count_90 := dSn 1 shX12_count_89
theorem shX12_count_93 : cX12_count.data.toList.drop 93 = sxX12_count_93 := dSn 3 shX12_count_90
theorem shX12_count_94 : cX12_count.data.toList.drop 94 = sxX12_count_94 := dSn 1 shX12_count_93
theorem shX12_count_95 : cX12_count.data.toList.drop 95 = sxX12_count_95 := dSn 1 shX12_count_94
theorem shX12_count_98 : cX12_count.data.toList.drop 98 = sxX12_count_98 := dSn 3 shX12_count_95
theorem shX12_count_99 : cX12_count.data.toList.drop 99 = sxX12_count_99 := dSn 1 shX12_count_98
theorem shX12_count_100 : cX12_count.data.toList.drop 100 = sxX12_count_100 := dSn 1 shX12_count_99
theorem shX12_count_103 : cX12_count.data.toList.drop 103 = sxX12_count_103 := dSn 3 shX12_count_100
theorem shX12_count_104 : cX12_count.data.toList.drop 104 = sxX12_count_104 := dSn 1 shX12_count_103
theorem shX12_count_105 : cX12_count.data.toList.drop 105 = sxX12_count_105 := dSn 1 shX12_count_104
theorem shX12_count_108 : cX12_count.data.toList.drop 108 = sxX12_count_108 := dSn 3 shX12_count_105
theorem shX12_count_109 : cX12_count.data.toList.drop 109 = sxX12_count_109 := dSn 1 shX12_count_108
theorem shX12_count_110 : cX12_count.data.toList.drop 110 = sxX12_count_110 := dSn 1 shX12_count_109
theorem shX12_count_112 : cX12_count.data.toList.drop 112 = sxX12_count_112 := dSn 2 shX12_count_110
theorem shX12_count_114 : cX12_count.data.toList.drop 114 = sxX12_count_114 := dSn 2 shX12_count_112
theorem shX12_count_115 : cX12_count.data.toList.drop 115 = sxX12_count_115 := dSn 1 shX12_count_114
theorem shX12_count_118 : cX12_count.data.toList.drop 118 = sxX12_count_118 := dSn 3 shX12_count_115
theorem shX12_count_119 : cX12_count.data.toList.drop 119 = sxX12_count_119 := dSn 1 shX12_count_118
theorem shX12_count_122 : cX12_count.data.toList.drop 122 = sxX12_count_122 := dSn 3 shX12_count_119
theorem shX12_count_125 : cX12_count.data.toList.drop 125 = sxX12_count_125 := dSn 3 shX12_count_122
theorem shX12_count_126 : cX12_count.data.toList.drop 126 = sxX12_count_126 := dSn 1 shX12_count_125
theorem shX12_count_129 : cX12_count.data.toList.drop 129 = sxX12_count_129 := dSn 3 shX12_count_126
theorem shX12_count_130 : cX12_count.data.toList.drop 130 = sxX12_count_130 := dSn 1 shX12_count_129
theorem shX12_count_132 : cX12_count.data.toList.drop 132 = sxX12_count_132 := dSn 2 shX12_count_130
theorem shX12_count_133 : cX12_count.data.toList.drop 133 = sxX12_count_133 := dSn 1 shX12_count_132
theorem shX12_count_134 : cX12_count.data.toList.drop 134 = sxX12_count_134 := dSn 1 shX12_count_133
theorem shX12_count_135 : cX12_count.data.toList.drop 135 = sxX12_count_135 := dSn 1 shX12_count_134
theorem shX12_count_136 : cX12_count.data.toList.drop 136 = sxX12_count_136 := dSn 1 shX12_count_135
theorem shX12_count_138 : cX12_count.data.toList.drop 138 = sxX12_count_138 := dSn 2 shX12_count_136
theorem shX12_count_140 : cX12_count.data.toList.drop 140 = sxX12_count_140 := dSn 2 shX12_count_138
theorem shX12_count_141 : cX12_count.data.toList.drop 141 = sxX12_count_141 := dSn 1 shX12_count_140
theorem shX12_count_144 : cX12_count.data.toList.drop 144 = sxX12_count_144 := dSn 3 shX12_count_141
theorem shX12_count_145 : cX12_count.data.toList.drop 145 = sxX12_count_145 := dSn 1 shX12_count_144
theorem shX12_count_148 : cX12_count.data.toList.drop 148 = sxX12_count_148 := dSn 3 shX12_count_145
theorem shX12_count_151 : cX12_count.data.toList.drop 151 = sxX12_count_151 := dSn 3 shX12_count_148
theorem shX12_count_152 : cX12_count.data.toList.drop 152 = sxX12_count_152 := dSn 1 shX12_count_151
theorem shX12_count_155 : cX12_count.data.toList.drop 155 = sxX12_count_155 := dSn 3 shX12_count_152
theorem shX12_count_156 : cX12_count.data.toList.drop 156 = sxX12_count_156 := dSn 1 shX12_count_155
theorem shX12_count_158 : cX12_count.data.toList.drop 158 = sxX12_count_158 := dSn 2 shX12_count_156
theorem shX12_count_159 : cX12_count.data.toList.drop 159 = sxX12_count_159 := dSn 1 shX12_count_158
theorem shX12_count_160 : cX12_count.data.toList.drop 160 = sxX12_count_160 := dSn 1 shX12_count_159
theorem shX12_count_161 : cX12_count.data.toList.drop 161 = sxX12_count_161 := dSn 1 shX12_count_160
theorem shX12_count_162 : cX12_count.data.toList.drop 162 = sxX12_count_162 := dSn 1 shX12_count_161
theorem shX12_count_164 : cX12_count.data.toList.drop 164 = sxX12_count_164 := dSn 2 shX12_count_162
theorem shX12_count_166 : cX12_count.data.toList.drop 166 = sxX12_count_166 := dSn 2 shX12_count_164
theorem shX12_count_167 : cX12_count.data.toList.drop 167 = sxX12_count_167 := dSn 1 shX12_count_166
theorem shX12_count_170 : cX12_count.data.toList.drop 170 = sxX12_count_170 := dSn 3 shX12_count_167
theorem shX12_count_171 : cX12_count.data.toList.drop 171 = sxX12_count_171 := dSn 1 shX12_count_170
theorem shX12_count_174 : cX12_count.data.toList.drop 174 = sxX12_count_174 := dSn 3 shX12_count_171
theorem shX12_count_177 : cX12_count.data.toList.drop 177 = sxX12_count_177 := dSn 3 shX12_count_174
theorem shX12_count_178 : cX12_count.data.toList.drop 178 = sxX12_count_178 := dSn 1 shX12_count_177
theorem shX12_count_181 : cX12_count.data.toList.drop 181 = sxX12_count_181 := dSn 3 shX12_count_178
theorem shX12_count_182 : cX12_count.data.toList.drop 182 = sxX12_count_182 := dSn 1 shX12_count_181
theorem shX12_count_184 : cX12_count.data.toList.drop 184 = sxX12_count_184 := dSn 2 shX12_count_182
theorem shX12_count_185 : cX12_count.data.toList.drop 185 = sxX12_count_185 := dSn 1 shX12_count_184
theorem shX12_count_186 : cX12_count.data.toList.drop 186 = sxX12_count_186 := dSn 1 shX12_count_185
theorem shX12_count_187 : cX12_count.data.toList.drop 187 = sxX12_count_187 := dSn 1 shX12_count_186
theorem shX12_count_188 : cX12_count.data.toList.drop 188 = sxX12_count_188 := dSn 1 shX12_count_187
theorem shX12_count_190 : cX12_count.data.toList.drop 190 = sxX12_count_190 := dSn 2 shX12_count_188
theorem shX12_count_192 : cX12_count.data.toList.drop 192 = sxX12_count_192 := dSn 2 shX12_count_190
theorem shX12_count_193 : cX12_count.data.toList.drop 193 = sxX12_count_193 := dSn 1 shX12_count_192
theorem shX12_count_196 : cX12_count.data.toList.drop 196 = sxX12_count_196 := dSn 3 shX12_count_193
theorem shX12_count_197 : cX12_count.data.toList.drop 197 = sxX12_count_197 := dSn 1 shX12_count_196
theorem shX12_count_200 : cX12_count.data.toList.drop 200 = sxX12_count_200 := dSn 3 shX12_count_197
theorem shX12_count_203 : cX12_count.data.toList.drop 203 = sxX12_count_203 := dSn 3 shX12_count_200
theorem shX12_count_204 : cX12_count.data.toList.drop 204 = sxX12_count_204 := dSn 1 shX12_count_203
theorem shX12_count_207 : cX12_count.data.toList.drop 207 = sxX12_count_207 := dSn 3 shX12_count_204
theorem shX12_count_208 : cX12_count.data.toList.drop 208 = sxX12_count_208 := dSn 1 shX12_count_207
theorem shX12_count_210 : cX12_count.data.toList.drop 210 = sxX12_count_210 := dSn 2 shX12_count_208
theorem shX12_count_211 : cX12_count.data.toList.drop 211 = sxX12_count_211 := dSn 1 shX12_count_210
theorem shX12_count_212 : cX12_count.data.toList.drop 212 = sxX12_count_212 := dSn 1 shX12_count_211
theorem shX12_count_213 : cX12_count.data.toList.drop 213 = sxX12_count_213 := dSn 1 shX12_count_212
theorem shX12_count_214 : cX12_count.data.toList.drop 214 = sxX12_count_214 := dSn 1 shX12_count_213
theorem shX12_count_216 : cX12_count.data.toList.drop 216 = sxX12_count_216 := dSn 2 shX12_count_214
theorem shX12_count_218 : cX12_count.data.toList.drop 218 = sxX12_count_218 := dSn 2 shX12_count_216
theorem shX12_count_219 : cX12_count.data.toList.drop 219 = sxX12_count_219 := dSn 1 shX12_count_218
theorem shX12_count_222 : cX12_count.data.toList.drop 222 = sxX12_count_222 := dSn 3 shX12_count_219
theorem shX12_count_223 : cX12_count.data.toList.drop 223 = sxX12_count_223 := dSn 1 shX12_count_222
theorem shX12_count_226 : cX12_count.data.toList.drop 226 = sxX12_count_226 := dSn 3 shX12_count_223
theorem shX12_count_229 : cX12_count.data.toList.drop 229 = sxX12_count_229 := dSn 3 shX12_count_226
theorem shX12_count_230 : cX12_count.data.toList.drop 230 = sxX12_count_230 := dSn 1 shX12_count_229
theorem shX12_count_233 : cX12_count.data.toList.drop 233 = sxX12_count_233 := dSn 3 shX12_count_230
theorem shX12_count_234 : cX12_count.data.toList.drop 234 = sxX12_count_234 := dSn 1 shX12_count_233
theorem shX12_count_236 : cX12_count.data.toList.drop 236 = sxX12_count_236 := dSn 2 shX12_count_234
theorem shX12_count_237 : cX12_count.data.toList.drop 237 = sxX12_count_237 := dSn 1 shX12_count_236
theorem shX12_count_238 : cX12_count.data.toList.drop 238 = sxX12_count_238 := dSn 1 shX12_count_237
theorem shX12_count_241 : cX12_count.data.toList.drop 241 = sxX12_count_241 := dSn 3 shX12_count_238
theorem shX12_count_242 : cX12_count.data.toList.drop 242 = sxX12_count_242 := dSn 1 shX12_count_241
theorem dX12_count_0 : decode cX12_count 0 = .ok (.iload_n 1, 1) := oc_27 shX12_count_0
theorem dX12_count_1 : decode cX12_count 1 = .ok (.tableswitch 108 0 9 #[55, 60, 65, 70, 75, 83, 88, 93, 98, 103], 55) := by decide +kernel
theorem dX12_count_56 : decode cX12_count 56 = .ok (.aload_n 0, 1) := oc_42 shX12_count_56
theorem dX12_count_57 : decode cX12_count 57 = .ok (.getfield 211, 3) := oc_180 shX12_count_57
theorem dX12_count_60 : decode cX12_count 60 = .ok (.ireturn, 1) := oc_172 shX12_count_60
theorem dX12_count_61 : decode cX12_count 61 = .ok (.aload_n 0, 1) := oc_42 shX12_count_61
theorem dX12_count_62 : decode cX12_count 62 = .ok (.getfield 204, 3) := oc_180 shX12_count_62
theorem dX12_count_65 : decode cX12_count 65 = .ok (.ireturn, 1) := oc_172 shX12_count_65
theorem dX12_count_66 : decode cX12_count 66 = .ok (.aload_n 0, 1) := oc_42 shX12_count_66
theorem dX12_count_67 : decode cX12_count 67 = .ok (.getfield 208, 3) := oc_180 shX12_count_67
theorem dX12_count_70 : decode cX12_count 70 = .ok (.ireturn, 1) := oc_172 shX12_count_70
theorem dX12_count_71 : decode cX12_count 71 = .ok (.aload_n 0, 1) := oc_42 shX12_count_71
theorem dX12_count_72 : decode cX12_count 72 = .ok (.getfield 226, 3) := oc_180 shX12_count_72
theorem dX12_count_75 : decode cX12_count 75 = .ok (.ireturn, 1) := oc_172 shX12_count_75
theorem dX12_count_76 : decode cX12_count 76 = .ok (.aload_n 0, 1) := oc_42 shX12_count_76
theorem dX12_count_77 : decode cX12_count 77 = .ok (.getfield 74, 3) := oc_180 shX12_count_77
theorem dX12_count_80 : decode cX12_count 80 = .ok (.bipush 10, 2) := oc_16 shX12_count_80 sgb_10
theorem dX12_count_82 : decode cX12_count 82 = .ok (.iaload, 1) := oc_46 shX12_count_82
theorem dX12_count_83 : decode cX12_count 83 = .ok (.ireturn, 1) := oc_172 shX12_count_83
theorem dX12_count_84 : decode cX12_count 84 = .ok (.aload_n 0, 1) := oc_42 shX12_count_84
theorem dX12_count_85 : decode cX12_count 85 = .ok (.getfield 435, 3) := oc_180 shX12_count_85
theorem dX12_count_88 : decode cX12_count 88 = .ok (.ireturn, 1) := oc_172 shX12_count_88
theorem dX12_count_89 : decode cX12_count 89 = .ok (.aload_n 0, 1) := oc_42 shX12_count_89
theorem dX12_count_90 : decode cX12_count 90 = .ok (.getfield 447, 3) := oc_180 shX12_count_90
theorem dX12_count_93 : decode cX12_count 93 = .ok (.ireturn, 1) := oc_172 shX12_count_93
theorem dX12_count_94 : decode cX12_count 94 = .ok (.aload_n 0, 1) := oc_42 shX12_count_94
theorem dX12_count_95 : decode cX12_count 95 = .ok (.getfield 478, 3) := oc_180 shX12_count_95
theorem dX12_count_98 : decode cX12_count 98 = .ok (.ireturn, 1) := oc_172 shX12_count_98
theorem dX12_count_99 : decode cX12_count 99 = .ok (.aload_n 0, 1) := oc_42 shX12_count_99
theorem dX12_count_100 : decode cX12_count 100 = .ok (.getfield 386, 3) := oc_180 shX12_count_100
theorem dX12_count_103 : decode cX12_count 103 = .ok (.ireturn, 1) := oc_172 shX12_count_103
theorem dX12_count_104 : decode cX12_count 104 = .ok (.aload_n 0, 1) := oc_42 shX12_count_104
theorem dX12_count_105 : decode cX12_count 105 = .ok (.getfield 407, 3) := oc_180 shX12_count_105
theorem dX12_count_108 : decode cX12_count 108 = .ok (.ireturn, 1) := oc_172 shX12_count_108
theorem dX12_count_109 : decode cX12_count 109 = .ok (.iload_n 1, 1) := oc_27 shX12_count_109
theorem dX12_count_110 : decode cX12_count 110 = .ok (.bipush 10, 2) := oc_16 shX12_count_110 sgb_10
theorem dX12_count_112 : decode cX12_count 112 = .ok (.bipush 9, 2) := oc_16 shX12_count_112 sgb_9
theorem dX12_count_114 : decode cX12_count 114 = .ok (.aload_n 0, 1) := oc_42 shX12_count_114
theorem dX12_count_115 : decode cX12_count 115 = .ok (.getfield 204, 3) := oc_180 shX12_count_115
theorem dX12_count_118 : decode cX12_count 118 = .ok (.iadd, 1) := oc_96 shX12_count_118
theorem dX12_count_119 : decode cX12_count 119 = .ok (.invokestatic 214, 3) := oc_184 shX12_count_119
theorem dX12_count_122 : decode cX12_count 122 = .ok (.ifCond .eq 13, 3) := oc_153 shX12_count_122 sgw_0_13
theorem dX12_count_125 : decode cX12_count 125 = .ok (.aload_n 0, 1) := oc_42 shX12_count_125
theorem dX12_count_126 : decode cX12_count 126 = .ok (.getfield 74, 3) := oc_180 shX12_count_126
theorem dX12_count_129 : decode cX12_count 129 = .ok (.iload_n 1, 1) := oc_27 shX12_count_129
theorem dX12_count_130 : decode cX12_count 130 = .ok (.bipush 10, 2) := oc_16 shX12_count_130 sgb_10
theorem dX12_count_132 : decode cX12_count 132 = .ok (.isub, 1) := oc_100 shX12_count_132
theorem dX12_count_133 : decode cX12_count 133 = .ok (.iaload, 1) := oc_46 shX12_count_133
theorem dX12_count_134 : decode cX12_count 134 = .ok (.ireturn, 1) := oc_172 shX12_count_134
theorem dX12_count_135 : decode cX12_count 135 = .ok (.iload_n 1, 1) := oc_27 shX12_count_135
theorem dX12_count_136 : decode cX12_count 136 = .ok (.bipush 20, 2) := oc_16 shX12_count_136 sgb_20
theorem dX12_count_138 : decode cX12_count 138 = .ok (.bipush 19, 2) := oc_16 shX12_count_138 sgb_19
theorem dX12_count_140 : decode cX12_count 140 = .ok (.aload_n 0, 1) := oc_42 shX12_count_140
theorem dX12_count_141 : decode cX12_count 141 = .ok (.getfield 204, 3) := oc_180 shX12_count_141
theorem dX12_count_144 : decode cX12_count 144 = .ok (.iadd, 1) := oc_96 shX12_count_144
theorem dX12_count_145 : decode cX12_count 145 = .ok (.invokestatic 214, 3) := oc_184 shX12_count_145
theorem dX12_count_148 : decode cX12_count 148 = .ok (.ifCond .eq 13, 3) := oc_153 shX12_count_148 sgw_0_13
theorem dX12_count_151 : decode cX12_count 151 = .ok (.aload_n 0, 1) := oc_42 shX12_count_151
theorem dX12_count_152 : decode cX12_count 152 = .ok (.getfield 22, 3) := oc_180 shX12_count_152
theorem dX12_count_155 : decode cX12_count 155 = .ok (.iload_n 1, 1) := oc_27 shX12_count_155
theorem dX12_count_156 : decode cX12_count 156 = .ok (.bipush 20, 2) := oc_16 shX12_count_156 sgb_20
theorem dX12_count_158 : decode cX12_count 158 = .ok (.isub, 1) := oc_100 shX12_count_158
theorem dX12_count_159 : decode cX12_count 159 = .ok (.iaload, 1) := oc_46 shX12_count_159
theorem dX12_count_160 : decode cX12_count 160 = .ok (.ireturn, 1) := oc_172 shX12_count_160
theorem dX12_count_161 : decode cX12_count 161 = .ok (.iload_n 1, 1) := oc_27 shX12_count_161
theorem dX12_count_162 : decode cX12_count 162 = .ok (.bipush 30, 2) := oc_16 shX12_count_162 sgb_30
theorem dX12_count_164 : decode cX12_count 164 = .ok (.bipush 29, 2) := oc_16 shX12_count_164 sgb_29
theorem dX12_count_166 : decode cX12_count 166 = .ok (.aload_n 0, 1) := oc_42 shX12_count_166
theorem dX12_count_167 : decode cX12_count 167 = .ok (.getfield 204, 3) := oc_180 shX12_count_167
theorem dX12_count_170 : decode cX12_count 170 = .ok (.iadd, 1) := oc_96 shX12_count_170
theorem dX12_count_171 : decode cX12_count 171 = .ok (.invokestatic 214, 3) := oc_184 shX12_count_171
theorem dX12_count_174 : decode cX12_count 174 = .ok (.ifCond .eq 13, 3) := oc_153 shX12_count_174 sgw_0_13
theorem dX12_count_177 : decode cX12_count 177 = .ok (.aload_n 0, 1) := oc_42 shX12_count_177
theorem dX12_count_178 : decode cX12_count 178 = .ok (.getfield 95, 3) := oc_180 shX12_count_178
theorem dX12_count_181 : decode cX12_count 181 = .ok (.iload_n 1, 1) := oc_27 shX12_count_181
theorem dX12_count_182 : decode cX12_count 182 = .ok (.bipush 30, 2) := oc_16 shX12_count_182 sgb_30
theorem dX12_count_184 : decode cX12_count 184 = .ok (.isub, 1) := oc_100 shX12_count_184
theorem dX12_count_185 : decode cX12_count 185 = .ok (.iaload, 1) := oc_46 shX12_count_185
theorem dX12_count_186 : decode cX12_count 186 = .ok (.ireturn, 1) := oc_172 shX12_count_186
theorem dX12_count_187 : decode cX12_count 187 = .ok (.iload_n 1, 1) := oc_27 shX12_count_187
theorem dX12_count_188 : decode cX12_count 188 = .ok (.bipush 40, 2) := oc_16 shX12_count_188 sgb_40
theorem dX12_count_190 : decode cX12_count 190 = .ok (.bipush 39, 2) := oc_16 shX12_count_190 sgb_39
theorem dX12_count_192 : decode cX12_count 192 = .ok (.aload_n 0, 1) := oc_42 shX12_count_192
theorem dX12_count_193 : decode cX12_count 193 = .ok (.getfield 435, 3) := oc_180 shX12_count_193
theorem dX12_count_196 : decode cX12_count 196 = .ok (.iadd, 1) := oc_96 shX12_count_196
theorem dX12_count_197 : decode cX12_count 197 = .ok (.invokestatic 214, 3) := oc_184 shX12_count_197
theorem dX12_count_200 : decode cX12_count 200 = .ok (.ifCond .eq 13, 3) := oc_153 shX12_count_200 sgw_0_13
theorem dX12_count_203 : decode cX12_count 203 = .ok (.aload_n 0, 1) := oc_42 shX12_count_203
theorem dX12_count_204 : decode cX12_count 204 = .ok (.getfield 141, 3) := oc_180 shX12_count_204
theorem dX12_count_207 : decode cX12_count 207 = .ok (.iload_n 1, 1) := oc_27 shX12_count_207
theorem dX12_count_208 : decode cX12_count 208 = .ok (.bipush 40, 2) := oc_16 shX12_count_208 sgb_40
theorem dX12_count_210 : decode cX12_count 210 = .ok (.isub, 1) := oc_100 shX12_count_210
theorem dX12_count_211 : decode cX12_count 211 = .ok (.iaload, 1) := oc_46 shX12_count_211
theorem dX12_count_212 : decode cX12_count 212 = .ok (.ireturn, 1) := oc_172 shX12_count_212
theorem dX12_count_213 : decode cX12_count 213 = .ok (.iload_n 1, 1) := oc_27 shX12_count_213
theorem dX12_count_214 : decode cX12_count 214 = .ok (.bipush 50, 2) := oc_16 shX12_count_214 sgb_50
theorem dX12_count_216 : decode cX12_count 216 = .ok (.bipush 49, 2) := oc_16 shX12_count_216 sgb_49
theorem dX12_count_218 : decode cX12_count 218 = .ok (.aload_n 0, 1) := oc_42 shX12_count_218
theorem dX12_count_219 : decode cX12_count 219 = .ok (.getfield 447, 3) := oc_180 shX12_count_219
theorem dX12_count_222 : decode cX12_count 222 = .ok (.iadd, 1) := oc_96 shX12_count_222
theorem dX12_count_223 : decode cX12_count 223 = .ok (.invokestatic 214, 3) := oc_184 shX12_count_223
theorem dX12_count_226 : decode cX12_count 226 = .ok (.ifCond .eq 15, 3) := oc_153 shX12_count_226 sgw_0_15
theorem dX12_count_229 : decode cX12_count 229 = .ok (.aload_n 0, 1) := oc_42 shX12_count_229
theorem dX12_count_230 : decode cX12_count 230 = .ok (.getfield 144, 3) := oc_180 shX12_count_230
theorem dX12_count_233 : decode cX12_count 233 = .ok (.iload_n 1, 1) := oc_27 shX12_count_233
theorem dX12_count_234 : decode cX12_count 234 = .ok (.bipush 50, 2) := oc_16 shX12_count_234 sgb_50
theorem dX12_count_236 : decode cX12_count 236 = .ok (.isub, 1) := oc_100 shX12_count_236
theorem dX12_count_237 : decode cX12_count 237 = .ok (.iaload, 1) := oc_46 shX12_count_237
theorem dX12_count_238 : decode cX12_count 238 = .ok (.goto 4, 3) := oc_167 shX12_count_238 sgw_0_4
theorem dX12_count_241 : decode cX12_count 241 = .ok (.iconst (-1), 1) := oc_2 shX12_count_241
theorem dX12_count_242 : decode cX12_count 242 = .ok (.ireturn, 1) := oc_172 shX12_count_242
