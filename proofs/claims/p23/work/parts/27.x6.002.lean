theorem shJx4a65c_grow_92f84_0 : cJx4a65c_grow_92f84.data.toList.drop 0 = sxJx4a65c_grow_92f84_0 := rfl
theorem shJx4a65c_grow_92f84_1 : cJx4a65c_grow_92f84.data.toList.drop 1 = sxJx4a65c_grow_92f84_1 := dSn 1 shJx4a65c_grow_92f84_0
theorem shJx4a65c_grow_92f84_4 : cJx4a65c_grow_92f84.data.toList.drop 4 = sxJx4a65c_grow_92f84_4 := dSn 3 shJx4a65c_grow_92f84_1
theorem shJx4a65c_grow_92f84_5 : cJx4a65c_grow_92f84.data.toList.drop 5 = sxJx4a65c_grow_92f84_5 := dSn 1 shJx4a65c_grow_92f84_4
theorem shJx4a65c_grow_92f84_6 : cJx4a65c_grow_92f84.data.toList.drop 6 = sxJx4a65c_grow_92f84_6 := dSn 1 shJx4a65c_grow_92f84_5
theorem shJx4a65c_grow_92f84_7 : cJx4a65c_grow_92f84.data.toList.drop 7 = sxJx4a65c_grow_92f84_7 := dSn 1 shJx4a65c_grow_92f84_6
theorem shJx4a65c_grow_92f84_10 : cJx4a65c_grow_92f84.data.toList.drop 10 = sxJx4a65c_grow_92f84_10 := dSn 3 shJx4a65c_grow_92f84_7
theorem shJx4a65c_grow_92f84_11 : cJx4a65c_grow_92f84.data.toList.drop 11 = sxJx4a65c_grow_92f84_11 := dSn 1 shJx4a65c_grow_92f84_10
theorem shJx4a65c_grow_92f84_14 : cJx4a65c_grow_92f84.data.toList.drop 14 = sxJx4a65c_grow_92f84_14 := dSn 3 shJx4a65c_grow_92f84_11
theorem shJx4a65c_grow_92f84_17 : cJx4a65c_grow_92f84.data.toList.drop 17 = sxJx4a65c_grow_92f84_17 := dSn 3 shJx4a65c_grow_92f84_14
theorem shJx4a65c_grow_92f84_20 : cJx4a65c_grow_92f84.data.toList.drop 20 = sxJx4a65c_grow_92f84_20 := dSn 3 shJx4a65c_grow_92f84_17
theorem shJx4a65c_grow_92f84_21 : cJx4a65c_grow_92f84.data.toList.drop 21 = sxJx4a65c_grow_92f84_21 := dSn 1 shJx4a65c_grow_92f84_20
theorem shJx4a65c_grow_92f84_22 : cJx4a65c_grow_92f84.data.toList.drop 22 = sxJx4a65c_grow_92f84_22 := dSn 1 shJx4a65c_grow_92f84_21
theorem shJx4a65c_grow_92f84_23 : cJx4a65c_grow_92f84.data.toList.drop 23 = sxJx4a65c_grow_92f84_23 := dSn 1 shJx4a65c_grow_92f84_22
theorem shJx4a65c_grow_92f84_24 : cJx4a65c_grow_92f84.data.toList.drop 24 = sxJx4a65c_grow_92f84_24 := dSn 1 shJx4a65c_grow_92f84_23
theorem shJx4a65c_grow_92f84_25 : cJx4a65c_grow_92f84.data.toList.drop 25 = sxJx4a65c_grow_92f84_25 := dSn 1 shJx4a65c_grow_92f84_24
theorem shJx4a65c_grow_92f84_26 : cJx4a65c_grow_92f84.data.toList.drop 26 = sxJx4a65c_grow_92f84_26 := dSn 1 shJx4a65c_grow_92f84_25
theorem shJx4a65c_grow_92f84_27 : cJx4a65c_grow_92f84.data.toList.drop 27 = sxJx4a65c_grow_92f84_27 := dSn 1 shJx4a65c_grow_92f84_26
theorem shJx4a65c_grow_92f84_30 : cJx4a65c_grow_92f84.data.toList.drop 30 = sxJx4a65c_grow_92f84_30 := dSn 3 shJx4a65c_grow_92f84_27
theorem shJx4a65c_grow_92f84_31 : cJx4a65c_grow_92f84.data.toList.drop 31 = sxJx4a65c_grow_92f84_31 := dSn 1 shJx4a65c_grow_92f84_30
theorem shJx4a65c_grow_92f84_32 : cJx4a65c_grow_92f84.data.toList.drop 32 = sxJx4a65c_grow_92f84_32 := dSn 1 shJx4a65c_grow_92f84_31
theorem shJx4a65c_grow_92f84_33 : cJx4a65c_grow_92f84.data.toList.drop 33 = sxJx4a65c_grow_92f84_33 := dSn 1 shJx4a65c_grow_92f84_32
theorem shJx4a65c_grow_92f84_36 : cJx4a65c_grow_92f84.data.toList.drop 36 = sxJx4a65c_grow_92f84_36 := dSn 3 shJx4a65c_grow_92f84_33
theorem shJx4a65c_grow_92f84_37 : cJx4a65c_grow_92f84.data.toList.drop 37 = sxJx4a65c_grow_92f84_37 := dSn 1 shJx4a65c_grow_92f84_36
theorem shJx4a65c_grow_92f84_40 : cJx4a65c_grow_92f84.data.toList.drop 40 = sxJx4a65c_grow_92f84_40 := dSn 3 shJx4a65c_grow_92f84_37
theorem shJx4a65c_grow_92f84_41 : cJx4a65c_grow_92f84.data.toList.drop 41 = sxJx4a65c_grow_92f84_41 := dSn 1 shJx4a65c_grow_92f84_40
theorem shJx4a65c_grow_92f84_44 : cJx4a65c_grow_92f84.data.toList.drop 44 = sxJx4a65c_grow_92f84_44 := dSn 3 shJx4a65c_grow_92f84_41
theorem shJx4a65c_grow_92f84_45 : cJx4a65c_grow_92f84.data.toList.drop 45 = sxJx4a65c_grow_92f84_45 := dSn 1 shJx4a65c_grow_92f84_44
theorem shJx4a65c_grow_92f84_46 : cJx4a65c_grow_92f84.data.toList.drop 46 = sxJx4a65c_grow_92f84_46 := dSn 1 shJx4a65c_grow_92f84_45
theorem shJx4a65c_grow_92f84_48 : cJx4a65c_grow_92f84.data.toList.drop 48 = sxJx4a65c_grow_92f84_48 := dSn 2 shJx4a65c_grow_92f84_46
theorem shJx4a65c_grow_92f84_49 : cJx4a65c_grow_92f84.data.toList.drop 49 = sxJx4a65c_grow_92f84_49 := dSn 1 shJx4a65c_grow_92f84_48
theorem shJx4a65c_grow_92f84_52 : cJx4a65c_grow_92f84.data.toList.drop 52 = sxJx4a65c_grow_92f84_52 := dSn 3 shJx4a65c_grow_92f84_49
theorem shJx4a65c_grow_92f84_55 : cJx4a65c_grow_92f84.data.toList.drop 55 = sxJx4a65c_grow_92f84_55 := dSn 3 shJx4a65c_grow_92f84_52
theorem shJx4a65c_grow_92f84_56 : cJx4a65c_grow_92f84.data.toList.drop 56 = sxJx4a65c_grow_92f84_56 := dSn 1 shJx4a65c_grow_92f84_55
theorem shJx4a65c_grow_92f84_59 : cJx4a65c_grow_92f84.data.toList.drop 59 = sxJx4a65c_grow_92f84_59 := dSn 3 shJx4a65c_grow_92f84_56
theorem dJx4a65c_grow_92f84_0 : decode cJx4a65c_grow_92f84 0 = .ok (.aload_n 0, 1) := oc_42 shJx4a65c_grow_92f84_0
theorem dJx4a65c_grow_92f84_1 : decode cJx4a65c_grow_92f84 1 = .ok (.getfield 9, 3) := oc_180 shJx4a65c_grow_92f84_1
theorem dJx4a65c_grow_92f84_4 : decode cJx4a65c_grow_92f84 4 = .ok (.arraylength, 1) := oc_190 shJx4a65c_grow_92f84_4
theorem dJx4a65c_grow_92f84_5 : decode cJx4a65c_grow_92f84 5 = .ok (.istore_n 2, 1) := oc_61 shJx4a65c_grow_92f84_5
theorem dJx4a65c_grow_92f84_6 : decode cJx4a65c_grow_92f84 6 = .ok (.iload_n 2, 1) := oc_28 shJx4a65c_grow_92f84_6
theorem dJx4a65c_grow_92f84_7 : decode cJx4a65c_grow_92f84 7 = .ok (.ifCond .gt 13, 3) := oc_157 shJx4a65c_grow_92f84_7 sgw_0_13
theorem dJx4a65c_grow_92f84_10 : decode cJx4a65c_grow_92f84 10 = .ok (.aload_n 0, 1) := oc_42 shJx4a65c_grow_92f84_10
theorem dJx4a65c_grow_92f84_11 : decode cJx4a65c_grow_92f84 11 = .ok (.getfield 9, 3) := oc_180 shJx4a65c_grow_92f84_11
theorem dJx4a65c_grow_92f84_14 : decode cJx4a65c_grow_92f84 14 = .ok (.getstatic 39, 3) := oc_178 shJx4a65c_grow_92f84_14
theorem dJx4a65c_grow_92f84_17 : decode cJx4a65c_grow_92f84 17 = .ok (.if_acmp .eq 28, 3) := oc_165 shJx4a65c_grow_92f84_17 sgw_0_28
theorem dJx4a65c_grow_92f84_45 : decode cJx4a65c_grow_92f84 45 = .ok (.aload_n 0, 1) := oc_42 shJx4a65c_grow_92f84_45
theorem dJx4a65c_grow_92f84_46 : decode cJx4a65c_grow_92f84 46 = .ok (.bipush 10, 2) := oc_16 shJx4a65c_grow_92f84_46 sgb_10
theorem dJx4a65c_grow_92f84_48 : decode cJx4a65c_grow_92f84 48 = .ok (.iload_n 1, 1) := oc_27 shJx4a65c_grow_92f84_48
theorem dJx4a65c_grow_92f84_49 : decode cJx4a65c_grow_92f84 49 = .ok (.invokestatic 79, 3) := oc_184 shJx4a65c_grow_92f84_49
theorem dJx4a65c_grow_92f84_52 : decode cJx4a65c_grow_92f84 52 = .ok (.anewarray 7, 3) := oc_189 shJx4a65c_grow_92f84_52
theorem dJx4a65c_grow_92f84_55 : decode cJx4a65c_grow_92f84 55 = .ok (.dup_x1, 1) := oc_90 shJx4a65c_grow_92f84_55
theorem dJx4a65c_grow_92f84_56 : decode cJx4a65c_grow_92f84 56 = .ok (.putfield 9, 3) := oc_181 shJx4a65c_grow_92f84_56
theorem dJx4a65c_grow_92f84_59 : decode cJx4a65c_grow_92f84 59 = .ok (.areturn, 1) := oc_176 shJx4a65c_grow_92f84_59
def sxJx4a65c_grow_d5877_11 : List UInt8 := []
def sxJx4a65c_grow_d5877_10 : List UInt8 := 176 :: sxJx4a65c_grow_d5877_11
def sxJx4a65c_grow_d5877_7 : List UInt8 := 182 :: 0 :: 69 :: sxJx4a65c_grow_d5877_10
def sxJx4a65c_grow_d5877_6 : List UInt8 := 96 :: sxJx4a65c_grow_d5877_7
def sxJx4a65c_grow_d5877_5 : List UInt8 := 4 :: sxJx4a65c_grow_d5877_6
def sxJx4a65c_grow_d5877_2 : List UInt8 := 180 :: 0 :: 48 :: sxJx4a65c_grow_d5877_5
def sxJx4a65c_grow_d5877_1 : List UInt8 := 42 :: sxJx4a65c_grow_d5877_2
def sxJx4a65c_grow_d5877_0 : List UInt8 := 42 :: sxJx4a65c_grow_d5877_1
theorem shJx4a65c_grow_d5877_0 : cJx4a65c_grow_d5877.data.toList.drop 0 = sxJx4a65c_grow_d5877_0 := rfl
theorem shJx4a65c_grow_d5877_1 : cJx4a65c_grow_d5877.data.toList.drop 1 = sxJx4a65c_grow_d5877_1 := dSn 1 shJx4a65c_grow_d5877_0
theorem shJx4a65c_grow_d5877_2 : cJx4a65c_grow_d5877.data.toList.drop 2 = sxJx4a65c_grow_d5877_2 := dSn 1 shJx4a65c_grow_d5877_1
theorem shJx4a65c_grow_d5877_5 : cJx4a65c_grow_d5877.data.toList.drop 5 = sxJx4a65c_grow_d5877_5 := dSn 3 shJx4a65c_grow_d5877_2
theorem shJx4a65c_grow_d5877_6 : cJx4a65c_grow_d5877.data.toList.drop 6 = sxJx4a65c_grow_d5877_6 := dSn 1 shJx4a65c_grow_d5877_5
theorem shJx4a65c_grow_d5877_7 : cJx4a65c_grow_d5877.data.toList.drop 7 = sxJx4a65c_grow_d5877_7 := dSn 1 shJx4a65c_grow_d5877_6
theorem shJx4a65c_grow_d5877_10 : cJx4a65c_grow_d5877.data.toList.drop 10 = sxJx4a65c_grow_d5877_10 := dSn 3 shJx4a65c_grow_d5877_7
theorem dJx4a65c_grow_d5877_0 : decode cJx4a65c_grow_d5877 0 = .ok (.aload_n 0, 1) := oc_42 shJx4a65c_grow_d5877_0
theorem dJx4a65c_grow_d5877_1 : decode cJx4a65c_grow_d5877 1 = .ok (.aload_n 0, 1) := oc_42 shJx4a65c_grow_d5877_1
theorem dJx4a65c_grow_d5877_2 : decode cJx4a65c_grow_d5877 2 = .ok (.getfield 48, 3) := oc_180 shJx4a65c_grow_d5877_2
theorem dJx4a65c_grow_d5877_5 : decode cJx4a65c_grow_d5877 5 = .ok (.iconst 1, 1) := oc_4 shJx4a65c_grow_d5877_5
theorem dJx4a65c_grow_d5877_6 : decode cJx4a65c_grow_d5877 6 = .ok (.iadd, 1) := oc_96 shJx4a65c_grow_d5877_6
theorem dJx4a65c_grow_d5877_7 : decode cJx4a65c_grow_d5877 7 = .ok (.invokevirtual 69, 3) := oc_182 shJx4a65c_grow_d5877_7
theorem dJx4a65c_grow_d5877_10 : decode cJx4a65c_grow_d5877 10 = .ok (.areturn, 1) := oc_176 shJx4a65c_grow_d5877_10
def sxJx4a65c_add_72be8_23 : List UInt8 := []
def sxJx4a65c_add_72be8_22 : List UInt8 := 177 :: sxJx4a65c_add_72be8_23
def sxJx4a65c_add_72be8_19 : List UInt8 := 181 :: 0 :: 48 :: sxJx4a65c_add_72be8_22
def sxJx4a65c_add_72be8_18 : List UInt8 := 96 :: sxJx4a65c_add_72be8_19
def sxJx4a65c_add_72be8_17 : List UInt8 := 4 :: sxJx4a65c_add_72be8_18
def sxJx4a65c_add_72be8_16 : List UInt8 := 29 :: sxJx4a65c_add_72be8_17
def sxJx4a65c_add_72be8_15 : List UInt8 := 42 :: sxJx4a65c_add_72be8_16
def sxJx4a65c_add_72be8_14 : List UInt8 := 83 :: sxJx4a65c_add_72be8_15
def sxJx4a65c_add_72be8_13 : List UInt8 := 43 :: sxJx4a65c_add_72be8_14
def sxJx4a65c_add_72be8_12 : List UInt8 := 29 :: sxJx4a65c_add_72be8_13
def sxJx4a65c_add_72be8_11 : List UInt8 := 44 :: sxJx4a65c_add_72be8_12
def sxJx4a65c_add_72be8_10 : List UInt8 := 77 :: sxJx4a65c_add_72be8_11
def sxJx4a65c_add_72be8_7 : List UInt8 := 182 :: 0 :: 129 :: sxJx4a65c_add_72be8_10
def sxJx4a65c_add_72be8_6 : List UInt8 := 42 :: sxJx4a65c_add_72be8_7
def sxJx4a65c_add_72be8_3 : List UInt8 := 160 :: 0 :: 8 :: sxJx4a65c_add_72be8_6
def sxJx4a65c_add_72be8_2 : List UInt8 := 190 :: sxJx4a65c_add_72be8_3
def sxJx4a65c_add_72be8_1 : List UInt8 := 44 :: sxJx4a65c_add_72be8_2
def sxJx4a65c_add_72be8_0 : List UInt8 := 29 :: sxJx4a65c_add_72be8_1
theorem shJx4a65c_add_72be8_0 : cJx4a65c_add_72be8.data.toList.drop 0 = sxJx4a65c_add_72be8_0 := rfl
theorem shJx4a65c_add_72be8_1 : cJx4a65c_add_72be8.data.toList.drop 1 = sxJx4a65c_add_72be8_1 := dSn 1 shJx4a65c_add_72be8_0
theorem shJx4a65c_add_72be8_2 : cJx4a65c_add_72be8.data.toList.drop 2 = sxJx4a65c_add_72be8_2 := dSn 1 shJx4a65c_add_72be8_1
theorem shJx4a65c_add_72be8_3 : cJx4a65c_add_72be8.data.toList.drop 3 = sxJx4a65c_add_72be8_3 := dSn 1 shJx4a65c_add_72be8_2
theorem shJx4a65c_add_72be8_6 : cJx4a65c_add_72be8.data.toList.drop 6 = sxJx4a65c_add_72be8_6 := dSn 3 shJx4a65c_add_72be8_3
theorem shJx4a65c_add_72be8_7 : cJx4a65c_add_72be8.data.toList.drop 7 = sxJx4a65c_add_72be8_7 := dSn 1 shJx4a65c_add_72be8_6
theorem shJx4a65c_add_72be8_10 : cJx4a65c_add_72be8.data.toList.drop 10 = sxJx4a65c_add_72be8_10 := dSn 3 shJx4a65c_add_72be8_7
theorem shJx4a65c_add_72be8_11 : cJx4a65c_add_72be8.data.toList.drop 11 = sxJx4a65c_add_72be8_11 := dSn 1 shJx4a65c_add_72be8_10
theorem shJx4a65c_add_72be8_12 : cJx4a65c_add_72be8.data.toList.drop 12 = sxJx4a65c_add_72be8_12 := dSn 1 shJx4a65c_add_72be8_11
theorem shJx4a65c_add_72be8_13 : cJx4a65c_add_72be8.data.toList.drop 13 = sxJx4a65c_add_72be8_13 := dSn 1 shJx4a65c_add_72be8_12
theorem shJx4a65c_add_72be8_14 : cJx4a65c_add_72be8.data.toList.drop 14 = sxJx4a65c_add_72be8_14 := dSn 1 shJx4a65c_add_72be8_13
theorem shJx4a65c_add_72be8_15 : cJx4a65c_add_72be8.data.toList.drop 15 = sxJx4a65c_add_72be8_15 := dSn 1 shJx4a65c_add_72be8_14
theorem shJx4a65c_add_72be8_16 : cJx4a65c_add_72be8.data.toList.drop 16 = sxJx4a65c_add_72be8_16 := dSn 1 shJx4a65c_add_72be8_15
theorem shJx4a65c_add_72be8_17 : cJx4a65c_add_72be8.data.toList.drop 17 = sxJx4a65c_add_72be8_17 := dSn 1 shJx4a65c_add_72be8_16
theorem shJx4a65c_add_72be8_18 : cJx4a65c_add_72be8.data.toList.drop 18 = sxJx4a65c_add_72be8_18 := dSn 1 shJx4a65c_add_72be8_17
theorem shJx4a65c_add_72be8_19 : cJx4a65c_add_72be8.data.toList.drop 19 = sxJx4a65c_add_72be8_19 := dSn 1 shJx4a65c_add_72be8_18
theorem shJx4a65c_add_72be8_22 : cJx4a65c_add_72be8.data.toList.drop 22 = sxJx4a65c_add_72be8_22 := dSn 3 shJx4a65c_add_72be8_19
theorem dJx4a65c_add_72be8_0 : decode cJx4a65c_add_72be8 0 = .ok (.iload_n 3, 1) := oc_29 shJx4a65c_add_72be8_0
theorem dJx4a65c_add_72be8_1 : decode cJx4a65c_add_72be8 1 = .ok (.aload_n 2, 1) := oc_44 shJx4a65c_add_72be8_1
theorem dJx4a65c_add_72be8_2 : decode cJx4a65c_add_72be8 2 = .ok (.arraylength, 1) := oc_190 shJx4a65c_add_72be8_2
theorem dJx4a65c_add_72be8_3 : decode cJx4a65c_add_72be8 3 = .ok (.if_icmp .ne 8, 3) := oc_160 shJx4a65c_add_72be8_3 sgw_0_8
theorem dJx4a65c_add_72be8_11 : decode cJx4a65c_add_72be8 11 = .ok (.aload_n 2, 1) := oc_44 shJx4a65c_add_72be8_11
theorem dJx4a65c_add_72be8_12 : decode cJx4a65c_add_72be8 12 = .ok (.iload_n 3, 1) := oc_29 shJx4a65c_add_72be8_12
theorem dJx4a65c_add_72be8_13 : decode cJx4a65c_add_72be8 13 = .ok (.aload_n 1, 1) := oc_43 shJx4a65c_add_72be8_13
theorem dJx4a65c_add_72be8_14 : decode cJx4a65c_add_72be8 14 = .ok (.aastore, 1) := oc_83 shJx4a65c_add_72be8_14
theorem dJx4a65c_add_72be8_15 : decode cJx4a65c_add_72be8 15 = .ok (.aload_n 0, 1) := oc_42 shJx4a65c_add_72be8_15
theorem dJx4a65c_add_72be8_16 : decode cJx4a65c_add_72be8 16 = .ok (.iload_n 3, 1) := oc_29 shJx4a65c_add_72be8_16
theorem dJx4a65c_add_72be8_17 : decode cJx4a65c_add_72be8 17 = .ok (.iconst 1, 1) := oc_4 shJx4a65c_add_72be8_17
theorem dJx4a65c_add_72be8_18 : decode cJx4a65c_add_72be8 18 = .ok (.iadd, 1) := oc_96 shJx4a65c_add_72be8_18
theorem dJx4a65c_add_72be8_19 : decode cJx4a65c_add_72be8 19 = .ok (.putfield 48, 3) := oc_181 shJx4a65c_add_72be8_19
theorem dJx4a65c_add_72be8_22 : decode cJx4a65c_add_72be8 22 = .ok (.return_, 1) := oc_177 shJx4a65c_add_72be8_22
def sxJx4a65c_add_9ea2d_25 : List UInt8 := []
def sxJx4a65c_add_9ea2d_24 : List UInt8 := 172 :: sxJx4a65c_add_9ea2d_25
def sxJx4a65c_add_9ea2d_23 : List UInt8 := 4 :: sxJx4a65c_add_9ea2d_24
def sxJx4a65c_add_9ea2d_20 : List UInt8 := 182 :: 0 :: 131 :: sxJx4a65c_add_9ea2d_23
def sxJx4a65c_add_9ea2d_17 : List UInt8 := 180 :: 0 :: 48 :: sxJx4a65c_add_9ea2d_20
def sxJx4a65c_add_9ea2d_16 : List UInt8 := 42 :: sxJx4a65c_add_9ea2d_17
def sxJx4a65c_add_9ea2d_13 : List UInt8 := 180 :: 0 :: 9 :: sxJx4a65c_add_9ea2d_16
def sxJx4a65c_add_9ea2d_12 : List UInt8 := 42 :: sxJx4a65c_add_9ea2d_13
def sxJx4a65c_add_9ea2d_11 : List UInt8 := 43 :: sxJx4a65c_add_9ea2d_12
def sxJx4a65c_add_9ea2d_10 : List UInt8 := 42 :: sxJx4a65c_add_9ea2d_11
def sxJx4a65c_add_9ea2d_7 : List UInt8 := 181 :: 0 :: 63 :: sxJx4a65c_add_9ea2d_10
def sxJx4a65c_add_9ea2d_6 : List UInt8 := 96 :: sxJx4a65c_add_9ea2d_7
def sxJx4a65c_add_9ea2d_5 : List UInt8 := 4 :: sxJx4a65c_add_9ea2d_6
def sxJx4a65c_add_9ea2d_2 : List UInt8 := 180 :: 0 :: 63 :: sxJx4a65c_add_9ea2d_5
def sxJx4a65c_add_9ea2d_1 : List UInt8 := 89 :: sxJx4a65c_add_9ea2d_2
def sxJx4a65c_add_9ea2d_0 : List UInt8 := 42 :: sxJx4a65c_add_9ea2d_1
theorem shJx4a65c_add_9ea2d_0 : cJx4a65c_add_9ea2d.data.toList.drop 0 = sxJx4a65c_add_9ea2d_0 := rfl
theorem shJx4a65c_add_9ea2d_1 : cJx4a65c_add_9ea2d.data.toList.drop 1 = sxJx4a65c_add_9ea2d_1 := dSn 1 shJx4a65c_add_9ea2d_0
theorem shJx4a65c_add_9ea2d_2 : cJx4a65c_add_9ea2d.data.toList.drop 2 = sxJx4a65c_add_9ea2d_2 := dSn 1 shJx4a65c_add_9ea2d_1
theorem shJx4a65c_add_9ea2d_5 : cJx4a65c_add_9ea2d.data.toList.drop 5 = sxJx4a65c_add_9ea2d_5 := dSn 3 shJx4a65c_add_9ea2d_2
theorem shJx4a65c_add_9ea2d_6 : cJx4a65c_add_9ea2d.data.toList.drop 6 = sxJx4a65c_add_9ea2d_6 := dSn 1 shJx4a65c_add_9ea2d_5
theorem shJx4a65c_add_9ea2d_7 : cJx4a65c_add_9ea2d.data.toList.drop 7 = sxJx4a65c_add_9ea2d_7 := dSn 1 shJx4a65c_add_9ea2d_6
theorem shJx4a65c_add_9ea2d_10 : cJx4a65c_add_9ea2d.data.toList.drop 10 = sxJx4a65c_add_9ea2d_10 := dSn 3 shJx4a65c_add_9ea2d_7
theorem shJx4a65c_add_9ea2d_11 : cJx4a65c_add_9ea2d.data.toList.drop 11 = sxJx4a65c_add_9ea2d_11 := dSn 1 shJx4a65c_add_9ea2d_10
theorem shJx4a65c_add_9ea2d_12 : cJx4a65c_add_9ea2d.data.toList.drop 12 = sxJx4a65c_add_9ea2d_12 := dSn 1 shJx4a65c_add_9ea2d_11
theorem shJx4a65c_add_9ea2d_13 : cJx4a65c_add_9ea2d.data.toList.drop 13 = sxJx4a65c_add_9ea2d_13 := dSn 1 shJx4a65c_add_9ea2d_12
theorem shJx4a65c_add_9ea2d_16 : cJx4a65c_add_9ea2d.data.toList.drop 16 = sxJx4a65c_add_9ea2d_16 := dSn 3 shJx4a65c_add_9ea2d_13
theorem shJx4a65c_add_9ea2d_17 : cJx4a65c_add_9ea2d.data.toList.drop 17 = sxJx4a65c_add_9ea2d_17 := dSn 1 shJx4a65c_add_9ea2d_16
theorem shJx4a65c_add_9ea2d_20 : cJx4a65c_add_9ea2d.data.toList.drop 20 = sxJx4a65c_add_9ea2d_20 := dSn 3 shJx4a65c_add_9ea2d_17
theorem shJx4a65c_add_9ea2d_23 : cJx4a65c_add_9ea2d.data.toList.drop 23 = sxJx4a65c_add_9ea2d_23 := dSn 3 shJx4a65c_add_9ea2d_20
theorem shJx4a65c_add_9ea2d_24 : cJx4a65c_add_9ea2d.data.toList.drop 24 = sxJx4a65c_add_9ea2d_24 := dSn 1 shJx4a65c_add_9ea2d_23
theorem dJx4a65c_add_9ea2d_0 : decode cJx4a65c_add_9ea2d 0 = .ok (.aload_n 0, 1) := oc_42 shJx4a65c_add_9ea2d_0
theorem dJx4a65c_add_9ea2d_1 : decode cJx4a65c_add_9ea2d 1 = .ok (.dup, 1) := oc_89 shJx4a65c_add_9ea2d_1
theorem dJx4a65c_add_9ea2d_2 : decode cJx4a65c_add_9ea2d 2 = .ok (.getfield 63, 3) := oc_180 shJx4a65c_add_9ea2d_2
theorem dJx4a65c_add_9ea2d_5 : decode cJx4a65c_add_9ea2d 5 = .ok (.iconst 1, 1) := oc_4 shJx4a65c_add_9ea2d_5
theorem dJx4a65c_add_9ea2d_6 : decode cJx4a65c_add_9ea2d 6 = .ok (.iadd, 1) := oc_96 shJx4a65c_add_9ea2d_6
theorem dJx4a65c_add_9ea2d_7 : decode cJx4a65c_add_9ea2d 7 = .ok (.putfield 63, 3) := oc_181 shJx4a65c_add_9ea2d_7
theorem dJx4a65c_add_9ea2d_10 : decode cJx4a65c_add_9ea2d 10 = .ok (.aload_n 0, 1) := oc_42 shJx4a65c_add_9ea2d_10
theorem dJx4a65c_add_9ea2d_11 : decode cJx4a65c_add_9ea2d 11 = .ok (.aload_n 1, 1) := oc_43 shJx4a65c_add_9ea2d_11
theorem dJx4a65c_add_9ea2d_12 : decode cJx4a65c_add_9ea2d 12 = .ok (.aload_n 0, 1) := oc_42 shJx4a65c_add_9ea2d_12
theorem dJx4a65c_add_9ea2d_13 : decode cJx4a65c_add_9ea2d 13 = .ok (.getfield 9, 3) := oc_180 shJx4a65c_add_9ea2d_13
theorem dJx4a65c_add_9ea2d_16 : decode cJx4a65c_add_9ea2d 16 = .ok (.aload_n 0, 1) := oc_42 shJx4a65c_add_9ea2d_16
theorem dJx4a65c_add_9ea2d_17 : decode cJx4a65c_add_9ea2d 17 = .ok (.getfield 48, 3) := oc_180 shJx4a65c_add_9ea2d_17
theorem dJx4a65c_add_9ea2d_20 : decode cJx4a65c_add_9ea2d 20 = .ok (.invokevirtual 131, 3) := oc_182 shJx4a65c_add_9ea2d_20
theorem dJx4a65c_add_9ea2d_23 : decode cJx4a65c_add_9ea2d 23 = .ok (.iconst 1, 1) := oc_4 shJx4a65c_add_9ea2d_23
theorem dJx4a65c_add_9ea2d_24 : decode cJx4a65c_add_9ea2d 24 = .ok (.ireturn, 1) := oc_172 shJx4a65c_add_9ea2d_24
theorem dJx4a65c_add_72be8_6 : decode cJx4a65c_add_72be8 6 = .ok (.aload_n 0, 1) := oc_42 shJx4a65c_add_72be8_6
theorem dJx4a65c_add_72be8_7 : decode cJx4a65c_add_72be8 7 = .ok (.invokevirtual 129, 3) := oc_182 shJx4a65c_add_72be8_7
theorem dJx4a65c_add_72be8_10 : decode cJx4a65c_add_72be8 10 = .ok (.astore_n 2, 1) := oc_77 shJx4a65c_add_72be8_10
def sxX6_init_15 : List UInt8 := []
def sxX6_init_14 : List UInt8 := 177 :: sxX6_init_15
def sxX6_init_11 : List UInt8 := 181 :: 0 :: 13 :: sxX6_init_14
def sxX6_init_10 : List UInt8 := 28 :: sxX6_init_11
def sxX6_init_9 : List UInt8 := 42 :: sxX6_init_10
def sxX6_init_6 : List UInt8 := 181 :: 0 :: 7 :: sxX6_init_9
def sxX6_init_5 : List UInt8 := 27 :: sxX6_init_6
def sxX6_init_4 : List UInt8 := 42 :: sxX6_init_5
def sxX6_init_1 : List UInt8 := 183 :: 0 :: 1 :: sxX6_init_4
def sxX6_init_0 : List UInt8 := 42 :: sxX6_init_1
theorem shX6_init_0 : cX6_init.data.toList.drop 0 = sxX6_init_0 := rfl
theorem shX6_init_1 : cX6_init.data.toList.drop 1 = sxX6_init_1 := dSn 1 shX6_init_0
theorem shX6_init_4 : cX6_init.data.toList.drop 4 = sxX6_init_4 := dSn 3 shX6_init_1
theorem shX6_init_5 : cX6_init.data.toList.drop 5 = sxX6_init_5 := dSn 1 shX6_init_4
theorem shX6_init_6 : cX6_init.data.toList.drop 6 = sxX6_init_6 := dSn 1 shX6_init_5
theorem shX6_init_9 : cX6_init.data.toList.drop 9 = sxX6_init_9 := dSn 3 shX6_init_6
theorem shX6_init_10 : cX6_init.data.toList.drop 10 = sxX6_init_10 := dSn 1 shX6_init_9
theorem shX6_init_11 : cX6_init.data.toList.drop 11 = sxX6_init_11 := dSn 1 shX6_init_10
theorem shX6_init_14 : cX6_init.data.toList.drop 14 = sxX6_init_14 := dSn 3 shX6_init_11
theorem dX6_init_0 : decode cX6_init 0 = .ok (.aload_n 0, 1) := oc_42 shX6_init_0
theorem dX6_init_1 : decode cX6_init 1 = .ok (.invokespecial 1, 3) := oc_183 shX6_init_1
theorem dX6_init_4 : decode cX6_init 4 = .ok (.aload_n 0, 1) := oc_42 shX6_init_4
theorem dX6_init_5 : decode cX6_init 5 = .ok (.iload_n 1, 1) := oc_27 shX6_init_5
theorem dX6_init_6 : decode cX6_init 6 = .ok (.putfield 7, 3) := oc_181 shX6_init_6
theorem dX6_init_9 : decode cX6_init 9 = .ok (.aload_n 0, 1) := oc_42 shX6_init_9
theorem dX6_init_10 : decode cX6_init 10 = .ok (.iload_n 2, 1) := oc_28 shX6_init_10
theorem dX6_init_11 : decode cX6_init 11 = .ok (.putfield 13, 3) := oc_181 shX6_init_11
theorem dX6_init_14 : decode cX6_init 14 = .ok (.return_, 1) := oc_177 shX6_init_14
def sxX3_init_20 : List UInt8 := []
def sxX3_init_19 : List UInt8 := 177 :: sxX3_init_20
def sxX3_init_16 : List UInt8 := 181 :: 0 :: 16 :: sxX3_init_19
def sxX3_init_15 : List UInt8 := 29 :: sxX3_init_16
def sxX3_init_14 : List UInt8 := 42 :: sxX3_init_15
def sxX3_init_11 : List UInt8 := 181 :: 0 :: 13 :: sxX3_init_14
def sxX3_init_10 : List UInt8 := 28 :: sxX3_init_11
def sxX3_init_9 : List UInt8 := 42 :: sxX3_init_10
def sxX3_init_6 : List UInt8 := 181 :: 0 :: 7 :: sxX3_init_9
def sxX3_init_5 : List UInt8 := 27 :: sxX3_init_6
def sxX3_init_4 : List UInt8 := 42 :: sxX3_init_5
def sxX3_init_1 : List UInt8 := 183 :: 0 :: 1 :: sxX3_init_4
def sxX3_init_0 : List UInt8 := 42 :: sxX3_init_1
theorem shX3_init_0 : cX3_init.data.toList.drop 0 = sxX3_init_0 := rfl
theorem shX3_init_1 : cX3_init.data.toList.drop 1 = sxX3_init_1 := dSn 1 shX3_init_0
theorem shX3_init_4 : cX3_init.data.toList.drop 4 = sxX3_init_4 := dSn 3 shX3_init_1
theorem shX3_init_5 : cX3_init.data.toList.drop 5 = sxX3_init_5 := dSn 1 shX3_init_4
theorem shX3_init_6 : cX3_init.data.toList.drop 6 = sxX3_init_6 := dSn 1 shX3_init_5
theorem shX3_init_9 : cX3_init.data.toList.drop 9 = sxX3_init_9 := dSn 3 shX3_init_6
theorem shX3_init_10 : cX3_init.data.toList.drop 10 = sxX3_init_10 := dSn 1 shX3_init_9
theorem shX3_init_11 : cX3_init.data.toList.drop 11 = sxX3_init_11 := dSn 1 shX3_init_10
theorem shX3_init_14 : cX3_init.data.toList.drop 14 = sxX3_init_14 := dSn 3 shX3_init_11
theorem shX3_init_15 : cX3_init.data.toList.drop 15 = sxX3_init_15 := dSn 1 shX3_init_14
theorem shX3_init_16 : cX3_init.data.toList.drop 16 = sxX3_init_16 := dSn 1 shX3_init_15
theorem shX3_init_19 : cX3_init.data.toList.drop 19 = sxX3_init_19 := dSn 3 shX3_init_16
theorem dX3_init_0 : decode cX3_init 0 = .ok (.aload_n 0, 1) := oc_42 shX3_init_0
theorem dX3_init_1 : decode cX3_init 1 = .ok (.invokespecial 1, 3) := oc_183 shX3_init_1
theorem dX3_init_4 : decode cX3_init 4 = .ok (.aload_n 0, 1) := oc_42 shX3_init_4
theorem dX3_init_5 : decode cX3_init 5 = .ok (.iload_n 1, 1) := oc_27 shX3_init_5
theorem dX3_init_6 : decode cX3_init 6 = .ok (.putfield 7, 3) := oc_181 shX3_init_6
theorem dX3_init_9 : decode cX3_init 9 = .ok (.aload_n 0, 1) := oc_42 shX3_init_9
theorem dX3_init_10 : decode cX3_init 10 = .ok (.iload_n 2, 1) := oc_28 shX3_init_10
theorem dX3_init_11 : decode cX3_init 11 = .ok (.putfield 13, 3) := oc_181 shX3_init_11
theorem dX3_init_14 : decode cX3_init 14 = .ok (.aload_n 0, 1) := oc_42 shX3_init_14
theorem dX3_init_15 : decode cX3_init 15 = .ok (.iload_n 3, 1) := oc_29 shX3_init_15
theorem dX3_init_16 : decode cX3_init 16 = .ok (.putfield 16, 3) := oc_181 shX3_init_16
theorem dX3_init_19 : decode cX3_init 19 = .ok (.return_, 1) := oc_177 shX3_init_19
def sxX4_init_32 : List UInt8 := []
def sxX4_init_31 : List UInt8 := 177 :: sxX4_init_32
def sxX4_init_28 : List UInt8 := 181 :: 0 :: 22 :: sxX4_init_31
def sxX4_init_26 : List UInt8 := 21 :: 5 :: sxX4_init_28
def sxX4_init_25 : List UInt8 := 42 :: sxX4_init_26
def sxX4_init_22 : List UInt8 := 181 :: 0 :: 19 :: sxX4_init_25
def sxX4_init_20 : List UInt8 := 21 :: 4 :: sxX4_init_22
def sxX4_init_19 : List UInt8 := 42 :: sxX4_init_20
def sxX4_init_16 : List UInt8 := 181 :: 0 :: 16 :: sxX4_init_19
def sxX4_init_15 : List UInt8 := 29 :: sxX4_init_16
def sxX4_init_14 : List UInt8 := 42 :: sxX4_init_15
def sxX4_init_11 : List UInt8 := 181 :: 0 :: 13 :: sxX4_init_14
def sxX4_init_10 : List UInt8 := 28 :: sxX4_init_11
def sxX4_init_9 : List UInt8 := 42 :: sxX4_init_10
def sxX4_init_6 : List UInt8 := 181 :: 0 :: 7 :: sxX4_init_9
def sxX4_init_5 : List UInt8 := 27 :: sxX4_init_6
def sxX4_init_4 : List UInt8 := 42 :: sxX4_init_5
def sxX4_init_1 : List UInt8 := 183 :: 0 :: 1 :: sxX4_init_4
def sxX4_init_0 : List UInt8 := 42 :: sxX4_init_1
theorem shX4_init_0 : cX4_init.data.toList.drop 0 = sxX4_init_0 := rfl
theorem shX4_init_1 : cX4_init.data.toList.drop 1 = sxX4_init_1 := dSn 1 shX4_init_0
theorem shX4_init_4 : cX4_init.data.toList.drop 4 = sxX4_init_4 := dSn 3 shX4_init_1
theorem shX4_init_5 : cX4_init.data.toList.drop 5 = sxX4_init_5 := dSn 1 shX4_init_4
theorem shX4_init_6 : cX4_init.data.toList.drop 6 = sxX4_init_6 := dSn 1 shX4_init_5
theorem shX4_init_9 : cX4_init.data.toList.drop 9 = sxX4_init_9 := dSn 3 shX4_init_6
theorem shX4_init_10 : cX4_init.data.toList.drop 10 = sxX4_init_10 := dSn 1 shX4_init_9
theorem shX4_init_11 : cX4_init.data.toList.drop 11 = sxX4_init_11 := dSn 1 shX4_init_10
theorem shX4_init_14 : cX4_init.data.toList.drop 14 = sxX4_init_14 := dSn 3 shX4_init_11
theorem shX4_init_15 : cX4_init.data.toList.drop 15 = sxX4_init_15 := dSn 1 shX4_init_14
theorem shX4_init_16 : cX4_init.data.toList.drop 16 = sxX4_init_16 := dSn 1 shX4_init_15
theorem shX4_init_19 : cX4_init.data.toList.drop 19 = sxX4_init_19 := dSn 3 shX4_init_16
theorem shX4_init_20 : cX4_init.data.toList.drop 20 = sxX4_init_20 := dSn 1 shX4_init_19
theorem shX4_init_22 : cX4_init.data.toList.drop 22 = sxX4_init_22 := dSn 2 shX4_init_20
theorem shX4_init_25 : cX4_init.data.toList.drop 25 = sxX4_init_25 := dSn 3 shX4_init_22
theorem shX4_init_26 : cX4_init.data.toList.drop 26 = sxX4_init_26 := dSn 1 shX4_init_25
theorem shX4_init_28 : cX4_init.data.toList.drop 28 = sxX4_init_28 := dSn 2 shX4_init_26
theorem shX4_init_31 : cX4_init.data.toList.drop 31 = sxX4_init_31 := dSn 3 shX4_init_28
theorem dX4_init_0 : decode cX4_init 0 = .ok (.aload_n 0, 1) := oc_42 shX4_init_0
theorem dX4_init_1 : decode cX4_init 1 = .ok (.invokespecial 1, 3) := oc_183 shX4_init_1
theorem dX4_init_4 : decode cX4_init 4 = .ok (.aload_n 0, 1) := oc_42 shX4_init_4
theorem dX4_init_5 : decode cX4_init 5 = .ok (.iload_n 1, 1) := oc_27 shX4_init_5
theorem dX4_init_6 : decode cX4_init 6 = .ok (.putfield 7, 3) := oc_181 shX4_init_6
theorem dX4_init_9 : decode cX4_init 9 = .ok (.aload_n 0, 1) := oc_42 shX4_init_9
theorem dX4_init_10 : decode cX4_init 10 = .ok (.iload_n 2, 1) := oc_28 shX4_init_10
theorem dX4_init_11 : decode cX4_init 11 = .ok (.putfield 13, 3) := oc_181 shX4_init_11
theorem dX4_init_14 : decode cX4_init 14 = .ok (.aload_n 0, 1) := oc_42 shX4_init_14
theorem dX4_init_15 : decode cX4_init 15 = .ok (.iload_n 3, 1) := oc_29 shX4_init_15
theorem dX4_init_16 : decode cX4_init 16 = .ok (.putfield 16, 3) := oc_181 shX4_init_16
theorem dX4_init_19 : decode cX4_init 19 = .ok (.aload_n 0, 1) := oc_42 shX4_init_19
theorem dX4_init_20 : decode cX4_init 20 = .ok (.iload 4, 2) := oc_21 shX4_init_20
theorem dX4_init_22 : decode cX4_init 22 = .ok (.putfield 19, 3) := oc_181 shX4_init_22
theorem dX4_init_25 : decode cX4_init 25 = .ok (.aload_n 0, 1) := oc_42 shX4_init_25
theorem dX4_init_26 : decode cX4_init 26 = .ok (.iload 5, 2) := oc_21 shX4_init_26
theorem dX4_init_28 : decode cX4_init 28 = .ok (.putfield 22, 3) := oc_181 shX4_init_28
theorem dX4_init_31 : decode cX4_init 31 = .ok (.return_, 1) := oc_177 shX4_init_31
def sxX2_init_38 : List UInt8 := []
def sxX2_init_37 : List UInt8 := 177 :: sxX2_init_38
def sxX2_init_34 : List UInt8 := 181 :: 0 :: 25 :: sxX2_init_37
def sxX2_init_32 : List UInt8 := 21 :: 6 :: sxX2_init_34
def sxX2_init_31 : List UInt8 := 42 :: sxX2_init_32
def sxX2_init_28 : List UInt8 := 181 :: 0 :: 22 :: sxX2_init_31
def sxX2_init_26 : List UInt8 := 21 :: 5 :: sxX2_init_28
def sxX2_init_25 : List UInt8 := 42 :: sxX2_init_26
def sxX2_init_22 : List UInt8 := 181 :: 0 :: 19 :: sxX2_init_25
def sxX2_init_20 : List UInt8 := 21 :: 4 :: sxX2_init_22
def sxX2_init_19 : List UInt8 := 42 :: sxX2_init_20
def sxX2_init_16 : List UInt8 := 181 :: 0 :: 16 :: sxX2_init_19
def sxX2_init_15 : List UInt8 := 29 :: sxX2_init_16
def sxX2_init_14 : List UInt8 := 42 :: sxX2_init_15
def sxX2_init_11 : List UInt8 := 181 :: 0 :: 13 :: sxX2_init_14
def sxX2_init_10 : List UInt8 := 28 :: sxX2_init_11
def sxX2_init_9 : List UInt8 := 42 :: sxX2_init_10
def sxX2_init_6 : List UInt8 := 181 :: 0 :: 7 :: sxX2_init_9
def sxX2_init_5 : List UInt8 := 27 :: sxX2_init_6
def sxX2_init_4 : List UInt8 := 42 :: sxX2_init_5
def sxX2_init_1 : List UInt8 := 183 :: 0 :: 1 :: sxX2_init_4
def sxX2_init_0 : List UInt8 := 42 :: sxX2_init_1
theorem shX2_init_0 : cX2_init.data.toList.drop 0 = sxX2_init_0 := rfl
theorem shX2_init_1 : cX2_init.data.toList.drop 1 = sxX2_init_1 := dSn 1 shX2_init_0
theorem shX2_init_4 : cX2_init.data.toList.drop 4 = sxX2_init_4 := dSn 3 shX2_init_1
theorem shX2_init_5 : cX2_init.data.toList.drop 5 = sxX2_init_5 := dSn 1 shX2_init_4
theorem shX2_init_6 : cX2_init.data.toList.drop 6 = sxX2_init_6 := dSn 1 shX2_init_5
theorem shX2_init_9 : cX2_init.data.toList.drop 9 = sxX2_init_9 := dSn 3 shX2_init_6
theorem shX2_init_10 : cX2_init.data.toList.drop 10 = sxX2_init_10 := dSn 1 shX2_init_9
theorem shX2_init_11 : cX2_init.data.toList.drop 11 = sxX2_init_11 := dSn 1 shX2_init_10
theorem shX2_init_14 : cX2_init.data.toList.drop 14 = sxX2_init_14 := dSn 3 shX2_init_11
theorem shX2_init_15 : cX2_init.data.toList.drop 15 = sxX2_init_15 := dSn 1 shX2_init_14
theorem shX2_init_16 : cX2_init.data.toList.drop 16 = sxX2_init_16 := dSn 1 shX2_init_15
theorem shX2_init_19 : cX2_init.data.toList.drop 19 = sxX2_init_19 := dSn 3 shX2_init_16
theorem shX2_init_20 : cX2_init.data.toList.drop 20 = sxX2_init_20 := dSn 1 shX2_init_19
theorem shX2_init_22 : cX2_init.data.toList.drop 22 = sxX2_init_22 := dSn 2 shX2_init_20
theorem shX2_init_25 : cX2_init.data.toList.drop 25 = sxX2_init_25 := dSn 3 shX2_init_22
theorem shX2_init_26 : cX2_init.data.toList.drop 26 = sxX2_init_26 := dSn 1 shX2_init_25
theorem shX2_init_28 : cX2_init.data.toList.drop 28 = sxX2_init_28 := dSn 2 shX2_init_26
theorem shX2_init_31 : cX2_init.data.toList.drop 31 = sxX2_init_31 := dSn 3 shX2_init_28
theorem shX2_init_32 : cX2_init.data.toList.drop 32 = sxX2_init_32 := dSn 1 shX2_init_31
theorem shX2_init_34 : cX2_init.data.toList.drop 34 = sxX2_init_34 := dSn 2 shX2_init_32
theorem shX2_init_37 : cX2_init.data.toList.drop 37 = sxX2_init_37 := dSn 3 shX2_init_34
theorem dX2_init_0 : decode cX2_init 0 = .ok (.aload_n 0, 1) := oc_42 shX2_init_0
theorem dX2_init_1 : decode cX2_init 1 = .ok (.invokespecial 1, 3) := oc_183 shX2_init_1
theorem dX2_init_4 : decode cX2_init 4 = .ok (.aload_n 0, 1) := oc_42 shX2_init_4
theorem dX2_init_5 : decode cX2_init 5 = .ok (.iload_n 1, 1) := oc_27 shX2_init_5
theorem dX2_init_6 : decode cX2_init 6 = .ok (.putfield 7, 3) := oc_181 shX2_init_6
theorem dX2_init_9 : decode cX2_init 9 = .ok (.aload_n 0, 1) := oc_42 shX2_init_9
theorem dX2_init_10 : decode cX2_init 10 = .ok (.iload_n 2, 1) := oc_28 shX2_init_10
theorem dX2_init_11 : decode cX2_init 11 = .ok (.putfield 13, 3) := oc_181 shX2_init_11
theorem dX2_init_14 : decode cX2_init 14 = .ok (.aload_n 0, 1) := oc_42 shX2_init_14
theorem dX2_init_15 : decode cX2_init 15 = .ok (.iload_n 3, 1) := oc_29 shX2_init_15
theorem dX2_init_16 : decode cX2_init 16 = .ok (.putfield 16, 3) := oc_181 shX2_init_16
theorem dX2_init_19 : decode cX2_init 19 = .ok (.aload_n 0, 1) := oc_42 shX2_init_19
theorem dX2_init_20 : decode cX2_init 20 = .ok (.iload 4, 2) := oc_21 shX2_init_20
theorem dX2_init_22 : decode cX2_init 22 = .ok (.putfield 19, 3) := oc_181 shX2_init_22
theorem dX2_init_25 : decode cX2_init 25 = .ok (.aload_n 0, 1) := oc_42 shX2_init_25
theorem dX2_init_26 : decode cX2_init 26 = .ok (.iload 5, 2) := oc_21 shX2_init_26
theorem dX2_init_28 : decode cX2_init 28 = .ok (.putfield 22, 3) := oc_181 shX2_init_28
theorem dX2_init_31 : decode cX2_init 31 = .ok (.aload_n 0, 1) := oc_42 shX2_init_31
theorem dX2_init_32 : decode cX2_init 32 = .ok (.iload 6, 2) := oc_21 shX2_init_32
theorem dX2_init_34 : decode cX2_init 34 = .ok (.putfield 25, 3) := oc_181 shX2_init_34
theorem dX2_init_37 : decode cX2_init 37 = .ok (.return_, 1) := oc_177 shX2_init_37
def sxX0_init_13 : List UInt8 := []
def sxX0_init_12 : List UInt8 := 177 :: sxX0_init_13
def sxX0_init_9 : List UInt8 := 181 :: 0 :: 9 :: sxX0_init_12
def sxX0_init_7 : List UInt8 := 188 :: 10 :: sxX0_init_9
def sxX0_init_5 : List UInt8 := 16 :: 12 :: sxX0_init_7
def sxX0_init_4 : List UInt8 := 42 :: sxX0_init_5
def sxX0_init_1 : List UInt8 := 183 :: 0 :: 1 :: sxX0_init_4
def sxX0_init_0 : List UInt8 := 42 :: sxX0_init_1
theorem shX0_init_0 : cX0_init.data.toList.drop 0 = sxX0_init_0 := rfl
theorem shX0_init_1 : cX0_init.data.toList.drop 1 = sxX0_init_1 := dSn 1 shX0_init_0
theorem shX0_init_4 : cX0_init.data.toList.drop 4 = sxX0_init_4 := dSn 3 shX0_init_1
theorem shX0_init_5 : cX0_init.data.toList.drop 5 = sxX0_init_5 := dSn 1 shX0_init_4
theorem shX0_init_7 : cX0_init.data.toList.drop 7 = sxX0_init_7 := dSn 2 shX0_init_5
theorem shX0_init_9 : cX0_init.data.toList.drop 9 = sxX0_init_9 := dSn 2 shX0_init_7
theorem shX0_init_12 : cX0_init.data.toList.drop 12 = sxX0_init_12 := dSn 3 shX0_init_9
theorem dX0_init_0 : decode cX0_init 0 = .ok (.aload_n 0, 1) := oc_42 shX0_init_0
theorem dX0_init_1 : decode cX0_init 1 = .ok (.invokespecial 1, 3) := oc_183 shX0_init_1
theorem dX0_init_4 : decode cX0_init 4 = .ok (.aload_n 0, 1) := oc_42 shX0_init_4
theorem dX0_init_5 : decode cX0_init 5 = .ok (.bipush 12, 2) := oc_16 shX0_init_5 sgb_12
theorem dX0_init_7 : decode cX0_init 7 = .ok (.newarray .int, 2) := oc_188_10 shX0_init_7
theorem dX0_init_9 : decode cX0_init 9 = .ok (.putfield 9, 3) := oc_181 shX0_init_9
theorem dX0_init_12 : decode cX0_init 12 = .ok (.return_, 1) := oc_177 shX0_init_12
def sxX9_init_48 : List UInt8 := []
def sxX9_init_47 : List UInt8 := 177 :: sxX9_init_48
def sxX9_init_44 : List UInt8 := 181 :: 0 :: 30 :: sxX9_init_47
def sxX9_init_42 : List UInt8 := 188 :: 10 :: sxX9_init_44
def sxX9_init_40 : List UInt8 := 16 :: 32 :: sxX9_init_42
def sxX9_init_39 : List UInt8 := 42 :: sxX9_init_40
def sxX9_init_36 : List UInt8 := 181 :: 0 :: 27 :: sxX9_init_39
def sxX9_init_34 : List UInt8 := 188 :: 10 :: sxX9_init_36
def sxX9_init_32 : List UInt8 := 16 :: 12 :: sxX9_init_34
def sxX9_init_31 : List UInt8 := 42 :: sxX9_init_32
def sxX9_init_28 : List UInt8 := 181 :: 0 :: 24 :: sxX9_init_31
def sxX9_init_26 : List UInt8 := 188 :: 10 :: sxX9_init_28
def sxX9_init_24 : List UInt8 := 16 :: 12 :: sxX9_init_26
def sxX9_init_23 : List UInt8 := 42 :: sxX9_init_24
def sxX9_init_20 : List UInt8 := 181 :: 0 :: 21 :: sxX9_init_23
def sxX9_init_18 : List UInt8 := 188 :: 10 :: sxX9_init_20
def sxX9_init_16 : List UInt8 := 16 :: 12 :: sxX9_init_18
def sxX9_init_15 : List UInt8 := 42 :: sxX9_init_16
def sxX9_init_12 : List UInt8 := 181 :: 0 :: 17 :: sxX9_init_15
def sxX9_init_10 : List UInt8 := 188 :: 10 :: sxX9_init_12
def sxX9_init_7 : List UInt8 := 184 :: 0 :: 11 :: sxX9_init_10
def sxX9_init_6 : List UInt8 := 3 :: sxX9_init_7
def sxX9_init_5 : List UInt8 := 27 :: sxX9_init_6
def sxX9_init_4 : List UInt8 := 42 :: sxX9_init_5
def sxX9_init_1 : List UInt8 := 183 :: 0 :: 5 :: sxX9_init_4
def sxX9_init_0 : List UInt8 := 42 :: sxX9_init_1
theorem shX9_init_0 : cX9_init.data.toList.drop 0 = sxX9_init_0 := rfl
theorem shX9_init_1 : cX9_init.data.toList.drop 1 = sxX9_init_1 := dSn 1 shX9_init_0
theorem shX9_init_4 : cX9_init.data.toList.drop 4 = sxX9_init_4 := dSn 3 shX9_init_1
theorem shX9_init_5 : cX9_init.data.toList.drop 5 = sxX9_init_5 := dSn 1 shX9_init_4
theorem shX9_init_6 : cX9_init.data.toList.drop 6 = sxX9_init_6 := dSn 1 shX9_init_5
theorem shX9_init_7 : cX9_init.data.toList.drop 7 = sxX9_init_7 := dSn 1 shX9_init_6
theorem shX9_init_10 : cX9_init.data.toList.drop 10 = sxX9_init_10 := dSn 3 shX9_init_7
theorem shX9_init_12 : cX9_init.data.toList.drop 12 = sxX9_init_12 := dSn 2 shX9_init_10
theorem shX9_init_15 : cX9_init.data.toList.drop 15 = sxX9_init_15 := dSn 3 shX9_init_12
theorem shX9_init_16 : cX9_init.data.toList.drop 16 = sxX9_init_16 := dSn 1 shX9_init_15
theorem shX9_init_18 : cX9_init.data.toList.drop 18 = sxX9_init_18 := dSn 2 shX9_init_16
theorem shX9_init_20 : cX9_init.data.toList.drop 20 = sxX9_init_20 := dSn 2 shX9_init_18
theorem shX9_init_23 : cX9_init.data.toList.drop 23 = sxX9_init_23 := dSn 3 shX9_init_20
theorem shX9_init_24 : cX9_init.data.toList.drop 24 = sxX9_init_24 := dSn 1 shX9_init_23
theorem shX9_init_26 : cX9_init.data.toList.drop 26 = sxX9_init_26 := dSn 2 shX9_init_24
theorem shX9_init_28 : cX9_init.data.toList.drop 28 = sxX9_init_28 := dSn 2 shX9_init_26
theorem shX9_init_31 : cX9_init.data.toList.drop 31 = sxX9_init_31 := dSn 3 shX9_init_28
theorem shX9_init_32 : cX9_init.data.toList.drop 32 = sxX9_init_32 := dSn 1 shX9_init_31
theorem shX9_init_34 : cX9_init.data.toList.drop 34 = sxX9_init_34 := dSn 2 shX9_init_32
theorem shX9_init_36 : cX9_init.data.toList.drop 36 = sxX9_init_36 := dSn 2 shX9_init_34
theorem shX9_init_39 : cX9_init.data.toList.drop 39 = sxX9_init_39 := dSn 3 shX9_init_36
theorem shX9_init_40 : cX9_init.data.toList.drop 40 = sxX9_init_40 := dSn 1 shX9_init_39
theorem shX9_init_42 : cX9_init.data.toList.drop 42 = sxX9_init_42 := dSn 2 shX9_init_40
theorem shX9_init_44 : cX9_init.data.toList.drop 44 = sxX9_init_44 := dSn 2 shX9_init_42
theorem shX9_init_47 : cX9_init.data.toList.drop 47 = sxX9_init_47 := dSn 3 shX9_init_44
theorem dX9_init_0 : decode cX9_init 0 = .ok (.aload_n 0, 1) := oc_42 shX9_init_0
theorem dX9_init_1 : decode cX9_init 1 = .ok (.invokespecial 5, 3) := oc_183 shX9_init_1
theorem dX9_init_4 : decode cX9_init 4 = .ok (.aload_n 0, 1) := oc_42 shX9_init_4
theorem dX9_init_5 : decode cX9_init 5 = .ok (.iload_n 1, 1) := oc_27 shX9_init_5
theorem dX9_init_6 : decode cX9_init 6 = .ok (.iconst 0, 1) := oc_3 shX9_init_6
theorem dX9_init_7 : decode cX9_init 7 = .ok (.invokestatic 11, 3) := oc_184 shX9_init_7
theorem dX9_init_10 : decode cX9_init 10 = .ok (.newarray .int, 2) := oc_188_10 shX9_init_10
theorem dX9_init_12 : decode cX9_init 12 = .ok (.putfield 17, 3) := oc_181 shX9_init_12
theorem dX9_init_15 : decode cX9_init 15 = .ok (.aload_n 0, 1) := oc_42 shX9_init_15
theorem dX9_init_16 : decode cX9_init 16 = .ok (.bipush 12, 2) := oc_16 shX9_init_16 sgb_12
theorem dX9_init_18 : decode cX9_init 18 = .ok (.newarray .int, 2) := oc_188_10 shX9_init_18
theorem dX9_init_20 : decode cX9_init 20 = .ok (.putfield 21, 3) := oc_181 shX9_init_20
theorem dX9_init_23 : decode cX9_init 23 = .ok (.aload_n 0, 1) := oc_42 shX9_init_23
theorem dX9_init_24 : decode cX9_init 24 = .ok (.bipush 12, 2) := oc_16 shX9_init_24 sgb_12
theorem dX9_init_26 : decode cX9_init 26 = .ok (.newarray .int, 2) := oc_188_10 shX9_init_26
theorem dX9_init_28 : decode cX9_init 28 = .ok (.putfield 24, 3) := oc_181 shX9_init_28
theorem dX9_init_31 : decode cX9_init 31 = .ok (.aload_n 0, 1) := oc_42 shX9_init_31
theorem dX9_init_32 : decode cX9_init 32 = .ok (.bipush 12, 2) := oc_16 shX9_init_32 sgb_12
theorem dX9_init_34 : decode cX9_init 34 = .ok (.newarray .int, 2) := oc_188_10 shX9_init_34
theorem dX9_init_36 : decode cX9_init 36 = .ok (.putfield 27, 3) := oc_181 shX9_init_36
theorem dX9_init_39 : decode cX9_init 39 = .ok (.aload_n 0, 1) := oc_42 shX9_init_39
theorem dX9_init_40 : decode cX9_init 40 = .ok (.bipush 32, 2) := oc_16 shX9_init_40 sgb_32
theorem dX9_init_42 : decode cX9_init 42 = .ok (.newarray .int, 2) := oc_188_10 shX9_init_42
theorem dX9_init_44 : decode cX9_init 44 = .ok (.putfield 30, 3) := oc_181 shX9_init_44
theorem dX9_init_47 : decode cX9_init 47 = .ok (.return_, 1) := oc_177 shX9_init_47
def sxX1_init_38 : List UInt8 := []
def sxX1_init_37 : List UInt8 := 177 :: sxX1_init_38
def sxX1_init_34 : List UInt8 := 181 :: 0 :: 27 :: sxX1_init_37
def sxX1_init_31 : List UInt8 := 183 :: 0 :: 24 :: sxX1_init_34
def sxX1_init_30 : List UInt8 := 3 :: sxX1_init_31
def sxX1_init_29 : List UInt8 := 89 :: sxX1_init_30
def sxX1_init_26 : List UInt8 := 187 :: 0 :: 22 :: sxX1_init_29
def sxX1_init_25 : List UInt8 := 42 :: sxX1_init_26
def sxX1_init_22 : List UInt8 := 181 :: 0 :: 19 :: sxX1_init_25
def sxX1_init_20 : List UInt8 := 21 :: 4 :: sxX1_init_22
def sxX1_init_19 : List UInt8 := 42 :: sxX1_init_20
def sxX1_init_16 : List UInt8 := 181 :: 0 :: 16 :: sxX1_init_19
def sxX1_init_15 : List UInt8 := 29 :: sxX1_init_16
def sxX1_init_14 : List UInt8 := 42 :: sxX1_init_15
def sxX1_init_11 : List UInt8 := 181 :: 0 :: 13 :: sxX1_init_14
def sxX1_init_10 : List UInt8 := 28 :: sxX1_init_11
def sxX1_init_9 : List UInt8 := 42 :: sxX1_init_10
def sxX1_init_6 : List UInt8 := 181 :: 0 :: 7 :: sxX1_init_9
def sxX1_init_5 : List UInt8 := 27 :: sxX1_init_6
def sxX1_init_4 : List UInt8 := 42 :: sxX1_init_5
def sxX1_init_1 : List UInt8 := 183 :: 0 :: 1 :: sxX1_init_4
def sxX1_init_0 : List UInt8 := 42 :: sxX1_init_1
theorem shX1_init_0 : cX1_init.data.toList.drop 0 = sxX1_init_0 := rfl
theorem shX1_init_1 : cX1_init.data.toList.drop 1 = sxX1_init_1 := dSn 1 shX1_init_0
theorem shX1_init_4 : cX1_init.data.toList.drop 4 = sxX1_init_4 := dSn 3 shX1_init_1
theorem shX1_init_5 : cX1_init.data.toList.drop 5 = sxX1_init_5 := dSn 1 shX1_init_4
theorem shX1_init_6 : cX1_init.data.toList.drop 6 = sxX1_init_6 := dSn 1 shX1_init_5
theorem shX1_init_9 : cX1_init.data.toList.drop 9 = sxX1_init_9 := dSn 3 shX1_init_6
theorem shX1_init_10 : cX1_init.data.toList.drop 10 = sxX1_init_10 := dSn 1 shX1_init_9
theorem shX1_init_11 : cX1_init.data.toList.drop 11 = sxX1_init_11 := dSn 1 shX1_init_10
theorem shX1_init_14 : cX1_init.data.toList.drop 14 = sxX1_init_14 := dSn 3 shX1_init_11
theorem shX1_init_15 : cX1_init.data.toList.drop 15 = sxX1_init_15 := dSn 1 shX1_init_14
theorem shX1_init_16 : cX1_init.data.toList.drop 16 = sxX1_init_16 := dSn 1 shX1_init_15
theorem shX1_init_19 : cX1_init.data.toList.drop 19 = sxX1_init_19 := dSn 3 shX1_init_16
theorem shX1_init_20 : cX1_init.data.toList.drop 20 = sxX1_init_20 := dSn 1 shX1_init_19
theorem shX1_init_22 : cX1_init.data.toList.drop 22 = sxX1_init_22 := dSn 2 shX1_init_20
theorem shX1_init_25 : cX1_init.data.toList.drop 25 = sxX1_init_25 := dSn 3 shX1_init_22
theorem shX1_init_26 : cX1_init.data.toList.drop 26 = sxX1_init_26 := dSn 1 shX1_init_25
theorem shX1_init_29 : cX1_init.data.toList.drop 29 = sxX1_init_29 := dSn 3 shX1_init_26
theorem shX1_init_30 : cX1_init.data.toList.drop 30 = sxX1_init_30 := dSn 1 shX1_init_29
theorem shX1_init_31 : cX1_init.data.toList.drop 31 = sxX1_init_31 := dSn 1 shX1_init_30
theorem shX1_init_34 : cX1_init.data.toList.drop 34 = sxX1_init_34 := dSn 3 shX1_init_31
theorem shX1_init_37 : cX1_init.data.toList.drop 37 = sxX1_init_37 := dSn 3 shX1_init_34
theorem dX1_init_0 : decode cX1_init 0 = .ok (.aload_n 0, 1) := oc_42 shX1_init_0
theorem dX1_init_1 : decode cX1_init 1 = .ok (.invokespecial 1, 3) := oc_183 shX1_init_1
theorem dX1_init_4 : decode cX1_init 4 = .ok (.aload_n 0, 1) := oc_42 shX1_init_4
theorem dX1_init_5 : decode cX1_init 5 = .ok (.iload_n 1, 1) := oc_27 shX1_init_5
theorem dX1_init_6 : decode cX1_init 6 = .ok (.putfield 7, 3) := oc_181 shX1_init_6
theorem dX1_init_9 : decode cX1_init 9 = .ok (.aload_n 0, 1) := oc_42 shX1_init_9
theorem dX1_init_10 : decode cX1_init 10 = .ok (.iload_n 2, 1) := oc_28 shX1_init_10
theorem dX1_init_11 : decode cX1_init 11 = .ok (.putfield 13, 3) := oc_181 shX1_init_11
theorem dX1_init_14 : decode cX1_init 14 = .ok (.aload_n 0, 1) := oc_42 shX1_init_14
theorem dX1_init_15 : decode cX1_init 15 = .ok (.iload_n 3, 1) := oc_29 shX1_init_15
theorem dX1_init_16 : decode cX1_init 16 = .ok (.putfield 16, 3) := oc_181 shX1_init_16
theorem dX1_init_19 : decode cX1_init 19 = .ok (.aload_n 0, 1) := oc_42 shX1_init_19
theorem dX1_init_20 : decode cX1_init 20 = .ok (.iload 4, 2) := oc_21 shX1_init_20
theorem dX1_init_22 : decode cX1_init 22 = .ok (.putfield 19, 3) := oc_181 shX1_init_22
theorem dX1_init_25 : decode cX1_init 25 = .ok (.aload_n 0, 1) := oc_42 shX1_init_25
theorem dX1_init_26 : decode cX1_init 26 = .ok (.new 22, 3) := oc_187 shX1_init_26
theorem dX1_init_29 : decode cX1_init 29 = .ok (.dup, 1) := oc_89 shX1_init_29
theorem dX1_init_30 : decode cX1_init 30 = .ok (.iconst 0, 1) := oc_3 shX1_init_30
theorem dX1_init_31 : decode cX1_init 31 = .ok (.invokespecial 24, 3) := oc_183 shX1_init_31
theorem dX1_init_34 : decode cX1_init 34 = .ok (.putfield 27, 3) := oc_181 shX1_init_34
theorem dX1_init_37 : decode cX1_init 37 = .ok (.return_, 1) := oc_177 shX1_init_37
