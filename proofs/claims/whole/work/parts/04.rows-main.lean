set_option maxRecDepth 20000 in
theorem ggX12_init_X6_init : GoodIn wsX12_init wsX6_init := goodIn_r _ [38, 39, 2, 3, 40, 41, 42, 43, 44, 45, 46, 47, 48, 49, 50, 51, 52, 53, 54, 55, 56, 57, 58, 59, 60, 61, 62, 63, 64, 65, 66, 67, 68, 69, 70, 71, 72, 73, 74, 75, 76, 130, 131, 132, 133, 134, 135, 136, 137, 138, 139, 174, 175, 176, 177, 178, 179, 180, 181, 182, 183, 184] (by decide +kernel) (by decide +kernel)
set_option maxRecDepth 20000 in
theorem gX12_init_X6_init : GoodIn wsX12_init (wsX6_init) := ggX12_init_X6_init
set_option maxRecDepth 20000 in
theorem ggX12_init_X5_init : GoodIn wsX12_init wsX5_init := goodIn_r _ [79, 80, 2, 3, 81, 82, 5, 6, 83, 37, 38, 39, 40, 41, 42, 43, 44, 45, 46, 47, 48, 49, 50, 51, 52, 53, 54, 55, 56, 57, 58, 59, 60, 61, 62, 63, 64, 65, 66, 67, 68, 69, 70, 71, 72, 73, 74, 75, 76, 151, 152, 153, 130, 131, 132, 133, 134, 135, 136, 137, 138, 139, 174, 175, 176, 177, 178, 179, 180, 181, 182, 183, 184] (by decide +kernel) (by decide +kernel)
set_option maxRecDepth 20000 in
theorem gX12_init_X5_init : GoodIn wsX12_init (wsX5_init) := ggX12_init_X5_init
set_option maxRecDepth 20000 in
theorem ggX12_init_X10_init : GoodIn wsX12_init wsX10_init := goodIn_r _ [85, 86, 2, 3, 87, 88, 40, 89, 90, 91, 92, 154, 155, 156, 157, 158, 159, 160, 161] (by decide +kernel) (by decide +kernel)
set_option maxRecDepth 20000 in
theorem gX12_init_X10_init_n35 : GoodIn wsX12_init (wsX10_init) := ggX12_init_X10_init
set_option maxRecDepth 20000 in
theorem ggX12_init_X11_init : GoodIn wsX12_init wsX11_init := goodIn_r _ [94, 95, 2, 3, 96, 97, 98, 99, 162, 163, 164, 165] (by decide +kernel) (by decide +kernel)
set_option maxRecDepth 20000 in
theorem gX12_init_X11_init_n42 : GoodIn wsX12_init (wsX11_init) := ggX12_init_X11_init
set_option maxRecDepth 20000 in
theorem ggX12_init_X9_init : GoodIn wsX12_init wsX9_init := goodIn_r _ [101, 102, 2, 3, 40, 103, 104, 166, 167] (by decide +kernel) (by decide +kernel)
set_option maxRecDepth 20000 in
theorem gX12_init_X9_init_n49 : GoodIn wsX12_init (wsX9_init) := ggX12_init_X9_init
set_option maxRecDepth 20000 in
theorem ggX12_init_X8_init : GoodIn wsX12_init wsX8_init := goodIn_r _ [106, 107, 2, 3, 40, 108, 109, 168, 169] (by decide +kernel) (by decide +kernel)
set_option maxRecDepth 20000 in
theorem gX12_init_X8_init_n56 : GoodIn wsX12_init (wsX8_init) := ggX12_init_X8_init
set_option maxRecDepth 20000 in
theorem ggX12_init_J4_init_da8c8 : GoodIn wsX12_init wsJ4_init_da8c8 := goodIn_r _ [112, 113, 114, 115, 116, 117, 2, 3, 118, 119, 120, 121, 122, 123, 124, 125, 126, 127, 128, 129, 170, 171, 172, 173] (by decide +kernel) (by decide +kernel)
set_option maxRecDepth 20000 in
theorem gX12_init_J4_init_da8c8 : GoodIn wsX12_init (wsJ4_init_da8c8) := ggX12_init_J4_init_da8c8
theorem dX12_init_0 : decode cX12_init 0 = .ok (.aload_n 0, 1) := by decide +kernel
theorem dX12_init_1 : decode cX12_init 1 = .ok (.invokespecial 3, 3) := by decide +kernel
theorem dX12_init_4 : decode cX12_init 4 = .ok (.aload_n 0, 1) := by decide +kernel
theorem dX12_init_5 : decode cX12_init 5 = .ok (.new 9, 3) := by decide +kernel
theorem dX12_init_8 : decode cX12_init 8 = .ok (.dup, 1) := by decide +kernel
theorem dX12_init_9 : decode cX12_init 9 = .ok (.invokespecial 11, 3) := by decide +kernel
theorem dX12_init_12 : decode cX12_init 12 = .ok (.putfield 12, 3) := by decide +kernel
theorem dX12_init_15 : decode cX12_init 15 = .ok (.aload_n 0, 1) := by decide +kernel
theorem dX12_init_16 : decode cX12_init 16 = .ok (.new 9, 3) := by decide +kernel
theorem dX12_init_19 : decode cX12_init 19 = .ok (.dup, 1) := by decide +kernel
theorem dX12_init_20 : decode cX12_init 20 = .ok (.invokespecial 11, 3) := by decide +kernel
theorem dX12_init_23 : decode cX12_init 23 = .ok (.putfield 16, 3) := by decide +kernel
theorem dX12_init_26 : decode cX12_init 26 = .ok (.aload_n 0, 1) := by decide +kernel
theorem dX12_init_27 : decode cX12_init 27 = .ok (.new 9, 3) := by decide +kernel
theorem dX12_init_30 : decode cX12_init 30 = .ok (.dup, 1) := by decide +kernel
theorem dX12_init_31 : decode cX12_init 31 = .ok (.invokespecial 11, 3) := by decide +kernel
theorem dX12_init_34 : decode cX12_init 34 = .ok (.putfield 19, 3) := by decide +kernel
theorem dX12_init_37 : decode cX12_init 37 = .ok (.aload_n 0, 1) := by decide +kernel
theorem dX12_init_38 : decode cX12_init 38 = .ok (.iconst 0, 1) := by decide +kernel
theorem dX12_init_39 : decode cX12_init 39 = .ok (.putfield 22, 3) := by decide +kernel
theorem dX12_init_42 : decode cX12_init 42 = .ok (.aload_n 0, 1) := by decide +kernel
theorem dX12_init_43 : decode cX12_init 43 = .ok (.new 26, 3) := by decide +kernel
theorem dX12_init_46 : decode cX12_init 46 = .ok (.dup, 1) := by decide +kernel
theorem dX12_init_47 : decode cX12_init 47 = .ok (.invokespecial 28, 3) := by decide +kernel
theorem dX12_init_50 : decode cX12_init 50 = .ok (.putfield 29, 3) := by decide +kernel
theorem dX12_init_53 : decode cX12_init 53 = .ok (.aload_n 0, 1) := by decide +kernel
theorem dX12_init_54 : decode cX12_init 54 = .ok (.new 33, 3) := by decide +kernel
theorem dX12_init_57 : decode cX12_init 57 = .ok (.dup, 1) := by decide +kernel
theorem dX12_init_58 : decode cX12_init 58 = .ok (.invokespecial 35, 3) := by decide +kernel
theorem dX12_init_61 : decode cX12_init 61 = .ok (.putfield 36, 3) := by decide +kernel
theorem dX12_init_64 : decode cX12_init 64 = .ok (.aload_n 0, 1) := by decide +kernel
theorem dX12_init_65 : decode cX12_init 65 = .ok (.new 40, 3) := by decide +kernel
theorem dX12_init_68 : decode cX12_init 68 = .ok (.dup, 1) := by decide +kernel
theorem dX12_init_69 : decode cX12_init 69 = .ok (.invokespecial 42, 3) := by decide +kernel
theorem dX12_init_72 : decode cX12_init 72 = .ok (.putfield 43, 3) := by decide +kernel
theorem dX12_init_75 : decode cX12_init 75 = .ok (.aload_n 0, 1) := by decide +kernel
theorem dX12_init_76 : decode cX12_init 76 = .ok (.new 47, 3) := by decide +kernel
theorem dX12_init_79 : decode cX12_init 79 = .ok (.dup, 1) := by decide +kernel
theorem dX12_init_80 : decode cX12_init 80 = .ok (.invokespecial 49, 3) := by decide +kernel
theorem dX12_init_83 : decode cX12_init 83 = .ok (.putfield 50, 3) := by decide +kernel
theorem dX12_init_86 : decode cX12_init 86 = .ok (.aload_n 0, 1) := by decide +kernel
theorem dX12_init_87 : decode cX12_init 87 = .ok (.new 54, 3) := by decide +kernel
theorem dX12_init_90 : decode cX12_init 90 = .ok (.dup, 1) := by decide +kernel
theorem dX12_init_91 : decode cX12_init 91 = .ok (.invokespecial 56, 3) := by decide +kernel
theorem dX12_init_94 : decode cX12_init 94 = .ok (.putfield 57, 3) := by decide +kernel
theorem dX12_init_97 : decode cX12_init 97 = .ok (.aload_n 0, 1) := by decide +kernel
theorem dX12_init_98 : decode cX12_init 98 = .ok (.new 61, 3) := by decide +kernel
theorem dX12_init_101 : decode cX12_init 101 = .ok (.dup, 1) := by decide +kernel
theorem dX12_init_102 : decode cX12_init 102 = .ok (.invokespecial 63, 3) := by decide +kernel
theorem dX12_init_105 : decode cX12_init 105 = .ok (.putfield 64, 3) := by decide +kernel
theorem dX12_init_108 : decode cX12_init 108 = .ok (.aload_n 0, 1) := by decide +kernel
theorem dX12_init_109 : decode cX12_init 109 = .ok (.bipush (-4), 2) := by decide +kernel
theorem dX12_init_111 : decode cX12_init 111 = .ok (.putfield 68, 3) := by decide +kernel
theorem dX12_init_114 : decode cX12_init 114 = .ok (.return_, 1) := by decide +kernel
set_option maxRecDepth 20000 in
theorem ggX12_clear_X6_plantSum : GoodIn wsX12_clear wsX6_plantSum := goodIn_r _ [7, 8, 63, 64, 65, 66, 67, 68, 69, 70, 71, 72] (by decide +kernel) (by decide +kernel)
set_option maxRecDepth 20000 in
theorem gX12_clear_X6_plantSum : GoodIn wsX12_clear (wsV RX12 72 RX6 yX6_plantSum wsX6_plantSum) := goodIn_app (goodIn_of _ (by decide +kernel)) ggX12_clear_X6_plantSum
set_option maxRecDepth 20000 in
theorem ggX12_clear_X6_becomeNew : GoodIn wsX12_clear wsX6_becomeNew := goodIn_r _ [12, 8, 13, 14, 15, 16, 17, 18, 19, 20, 21, 22, 23, 24, 25, 26, 27, 28, 29, 30, 31, 32, 33, 34, 35, 36, 37, 38, 39, 40, 41, 42, 43, 44, 45, 63, 64, 65, 66, 67, 68, 69, 70, 71, 72, 73, 74, 75, 76, 77, 78, 79, 80, 81, 82, 83] (by decide +kernel) (by decide +kernel)
set_option maxRecDepth 20000 in
theorem gX12_clear_X6_becomeNew : GoodIn wsX12_clear (wsV RX12 76 RX6 yX6_becomeNew wsX6_becomeNew) := goodIn_app (goodIn_of _ (by decide +kernel)) ggX12_clear_X6_becomeNew
set_option maxRecDepth 20000 in
theorem ggX12_clear_X5_forget : GoodIn wsX12_clear wsX5_forget := goodIn_r _ [50, 51, 84, 85, 86] (by decide +kernel) (by decide +kernel)
set_option maxRecDepth 20000 in
theorem gX12_clear_X5_forget : GoodIn wsX12_clear (wsV RX12 79 RX5 yX5_forget wsX5_forget) := goodIn_app (goodIn_of _ (by decide +kernel)) ggX12_clear_X5_forget
theorem dX12_clear_0 : decode cX12_clear 0 = .ok (.aload_n 0, 1) := by decide +kernel
theorem dX12_clear_1 : decode cX12_clear 1 = .ok (.getfield 12, 3) := by decide +kernel
theorem dX12_clear_4 : decode cX12_clear 4 = .ok (.invokevirtual 72, 3) := by decide +kernel
theorem dX12_clear_7 : decode cX12_clear 7 = .ok (.istore_n 1, 1) := by decide +kernel
theorem dX12_clear_8 : decode cX12_clear 8 = .ok (.aload_n 0, 1) := by decide +kernel
theorem dX12_clear_9 : decode cX12_clear 9 = .ok (.getfield 12, 3) := by decide +kernel
theorem dX12_clear_12 : decode cX12_clear 12 = .ok (.invokevirtual 76, 3) := by decide +kernel
theorem dX12_clear_15 : decode cX12_clear 15 = .ok (.aload_n 0, 1) := by decide +kernel
theorem dX12_clear_16 : decode cX12_clear 16 = .ok (.getfield 29, 3) := by decide +kernel
theorem dX12_clear_19 : decode cX12_clear 19 = .ok (.invokevirtual 79, 3) := by decide +kernel
theorem dX12_clear_22 : decode cX12_clear 22 = .ok (.iload_n 1, 1) := by decide +kernel
theorem dX12_clear_23 : decode cX12_clear 23 = .ok (.ireturn, 1) := by decide +kernel
set_option maxRecDepth 20000 in
theorem ggX12_append_X10_addCharacter : GoodIn wsX12_append wsX10_addCharacter := goodIn_r _ [6, 7, 8, 20, 21, 22, 23, 24, 25, 26, 27] (by decide +kernel) (by decide +kernel)
set_option maxRecDepth 20000 in
theorem gX12_append_X10_addCharacter : GoodIn wsX12_append (wsV RX12 82 RX10 yX10_addCharacter wsX10_addCharacter) := goodIn_app (goodIn_of _ (by decide +kernel)) ggX12_append_X10_addCharacter
theorem dX12_append_0 : decode cX12_append 0 = .ok (.aload_n 0, 1) := by decide +kernel
theorem dX12_append_1 : decode cX12_append 1 = .ok (.getfield 36, 3) := by decide +kernel
theorem dX12_append_4 : decode cX12_append 4 = .ok (.iload_n 1, 1) := by decide +kernel
theorem dX12_append_5 : decode cX12_append 5 = .ok (.invokevirtual 82, 3) := by decide +kernel
theorem dX12_append_8 : decode cX12_append 8 = .ok (.ireturn, 1) := by decide +kernel
set_option maxRecDepth 20000 in
theorem ggX12_plant_X6_take : GoodIn wsX12_plant wsX6_take := goodIn_r _ [8, 9, 10, 11, 12, 13, 14, 15, 16, 17, 18, 19, 20, 21, 22, 23, 24, 25, 26, 27, 28, 29, 30, 31, 32, 33, 34, 35, 36, 37, 38, 39, 40, 41, 42, 43, 44, 45, 46, 47, 48, 49, 50, 96, 97, 98, 99, 100, 101, 102, 103, 104, 105, 106, 107, 108, 109, 110, 111, 112, 113, 114, 115, 116] (by decide +kernel) (by decide +kernel)
set_option maxRecDepth 20000 in
theorem gX12_plant_X6_take : GoodIn wsX12_plant (wsV RX12 86 RX6 yX6_take wsX6_take) := goodIn_app (goodIn_of _ (by decide +kernel)) ggX12_plant_X6_take
set_option maxRecDepth 20000 in
theorem ggX12_plant_X6_putPlants : GoodIn wsX12_plant wsX6_putPlants := goodIn_r _ [54, 9, 20, 55, 56, 57, 58, 59, 60, 61, 62, 63, 64, 65, 66, 96, 97, 98, 99, 100, 101, 102, 103, 104, 105, 117, 118, 119, 120] (by decide +kernel) (by decide +kernel)
set_option maxRecDepth 20000 in
theorem gX12_plant_X6_putPlants : GoodIn wsX12_plant (wsV RX12 90 RX6 yX6_putPlants wsX6_putPlants) := goodIn_app (goodIn_of _ (by decide +kernel)) ggX12_plant_X6_putPlants
set_option maxRecDepth 20000 in
theorem ggX12_plant_X12_settle : GoodIn wsX12_plant wsX12_settle := goodIn_r _ [70, 71, 2, 1, 72, 73, 74, 75, 76, 77, 78, 79, 80, 81, 82, 83, 84, 5, 6, 7, 8, 9, 10, 11, 12, 13, 14, 15, 16, 17, 18, 19, 20, 21, 22, 23, 24, 25, 26, 27, 28, 29, 30, 31, 32, 33, 34, 35, 36, 37, 38, 39, 40, 41, 42, 43, 44, 45, 46, 47, 48, 49, 50, 4, 85, 86, 87, 88, 89, 90, 91, 92, 93, 94, 95, 121, 122, 123, 96, 97, 98, 99, 100, 101, 102, 103, 104, 105, 106, 107, 108, 109, 110, 111, 112, 113, 114, 115, 116] (by decide +kernel) (by decide +kernel)
set_option maxRecDepth 20000 in
theorem gX12_plant_X12_settle : GoodIn wsX12_plant (wsV RX12 94 RX12 yX12_settle wsX12_settle) := goodIn_app (goodIn_of _ (by decide +kernel)) ggX12_plant_X12_settle
theorem dX12_plant_0 : decode cX12_plant 0 = .ok (.aload_n 0, 1) := by decide +kernel
theorem dX12_plant_1 : decode cX12_plant 1 = .ok (.getfield 16, 3) := by decide +kernel
theorem dX12_plant_4 : decode cX12_plant 4 = .ok (.aload_n 0, 1) := by decide +kernel
theorem dX12_plant_5 : decode cX12_plant 5 = .ok (.getfield 12, 3) := by decide +kernel
theorem dX12_plant_8 : decode cX12_plant 8 = .ok (.invokevirtual 86, 3) := by decide +kernel
theorem dX12_plant_11 : decode cX12_plant 11 = .ok (.aload_n 0, 1) := by decide +kernel
theorem dX12_plant_12 : decode cX12_plant 12 = .ok (.aload_n 0, 1) := by decide +kernel
theorem dX12_plant_13 : decode cX12_plant 13 = .ok (.getfield 16, 3) := by decide +kernel
theorem dX12_plant_16 : decode cX12_plant 16 = .ok (.iload_n 1, 1) := by decide +kernel
theorem dX12_plant_17 : decode cX12_plant 17 = .ok (.iload_n 2, 1) := by decide +kernel
theorem dX12_plant_18 : decode cX12_plant 18 = .ok (.aload_n 0, 1) := by decide +kernel
theorem dX12_plant_19 : decode cX12_plant 19 = .ok (.getfield 43, 3) := by decide +kernel
theorem dX12_plant_22 : decode cX12_plant 22 = .ok (.invokevirtual 90, 3) := by decide +kernel
theorem dX12_plant_25 : decode cX12_plant 25 = .ok (.invokevirtual 94, 3) := by decide +kernel
theorem dX12_plant_28 : decode cX12_plant 28 = .ok (.ireturn, 1) := by decide +kernel
set_option maxRecDepth 20000 in
theorem ggX12_bear_X6_take : GoodIn wsX12_bear wsX6_take := goodIn_r _ [8, 9, 10, 11, 12, 13, 14, 15, 16, 17, 18, 19, 20, 21, 22, 23, 24, 25, 26, 27, 28, 29, 30, 31, 32, 33, 34, 35, 36, 37, 38, 39, 40, 41, 42, 43, 44, 45, 46, 47, 48, 49, 50, 96, 97, 98, 99, 100, 101, 102, 103, 104, 105, 106, 107, 108, 109, 110, 111, 112, 113, 114, 115, 116] (by decide +kernel) (by decide +kernel)
set_option maxRecDepth 20000 in
theorem gX12_bear_X6_take : GoodIn wsX12_bear (wsV RX12 86 RX6 yX6_take wsX6_take) := goodIn_app (goodIn_of _ (by decide +kernel)) ggX12_bear_X6_take
set_option maxRecDepth 20000 in
theorem ggX12_bear_X6_changeTolerance : GoodIn wsX12_bear wsX6_changeTolerance := goodIn_r _ [54, 14, 55, 56, 57, 58, 59, 60, 61, 62, 63, 64, 65, 66, 96, 97, 98, 99, 100, 101, 102, 103, 104, 105, 117, 118, 119, 120] (by decide +kernel) (by decide +kernel)
set_option maxRecDepth 20000 in
theorem gX12_bear_X6_changeTolerance : GoodIn wsX12_bear (wsV RX12 98 RX6 yX6_changeTolerance wsX6_changeTolerance) := goodIn_app (goodIn_of _ (by decide +kernel)) ggX12_bear_X6_changeTolerance
set_option maxRecDepth 20000 in
theorem ggX12_bear_X12_settle : GoodIn wsX12_bear wsX12_settle := goodIn_r _ [70, 71, 2, 1, 72, 73, 74, 75, 76, 77, 78, 79, 80, 81, 82, 83, 84, 5, 6, 7, 8, 9, 10, 11, 12, 13, 14, 15, 16, 17, 18, 19, 20, 21, 22, 23, 24, 25, 26, 27, 28, 29, 30, 31, 32, 33, 34, 35, 36, 37, 38, 39, 40, 41, 42, 43, 44, 45, 46, 47, 48, 49, 50, 4, 85, 86, 87, 88, 89, 90, 91, 92, 93, 94, 95, 121, 122, 123, 96, 97, 98, 99, 100, 101, 102, 103, 104, 105, 106, 107, 108, 109, 110, 111, 112, 113, 114, 115, 116] (by decide +kernel) (by decide +kernel)
set_option maxRecDepth 20000 in
theorem gX12_bear_X12_settle : GoodIn wsX12_bear (wsV RX12 94 RX12 yX12_settle wsX12_settle) := goodIn_app (goodIn_of _ (by decide +kernel)) ggX12_bear_X12_settle
theorem dX12_bear_0 : decode cX12_bear 0 = .ok (.aload_n 0, 1) := by decide +kernel
theorem dX12_bear_1 : decode cX12_bear 1 = .ok (.getfield 16, 3) := by decide +kernel
theorem dX12_bear_4 : decode cX12_bear 4 = .ok (.aload_n 0, 1) := by decide +kernel
theorem dX12_bear_5 : decode cX12_bear 5 = .ok (.getfield 12, 3) := by decide +kernel
theorem dX12_bear_8 : decode cX12_bear 8 = .ok (.invokevirtual 86, 3) := by decide +kernel
theorem dX12_bear_11 : decode cX12_bear 11 = .ok (.aload_n 0, 1) := by decide +kernel
theorem dX12_bear_12 : decode cX12_bear 12 = .ok (.aload_n 0, 1) := by decide +kernel
theorem dX12_bear_13 : decode cX12_bear 13 = .ok (.getfield 16, 3) := by decide +kernel
theorem dX12_bear_16 : decode cX12_bear 16 = .ok (.iload_n 1, 1) := by decide +kernel
theorem dX12_bear_17 : decode cX12_bear 17 = .ok (.iload_n 2, 1) := by decide +kernel
theorem dX12_bear_18 : decode cX12_bear 18 = .ok (.aload_n 0, 1) := by decide +kernel
theorem dX12_bear_19 : decode cX12_bear 19 = .ok (.getfield 43, 3) := by decide +kernel
theorem dX12_bear_22 : decode cX12_bear 22 = .ok (.invokevirtual 98, 3) := by decide +kernel
theorem dX12_bear_25 : decode cX12_bear 25 = .ok (.invokevirtual 94, 3) := by decide +kernel
theorem dX12_bear_28 : decode cX12_bear 28 = .ok (.ireturn, 1) := by decide +kernel
set_option maxRecDepth 20000 in
theorem ggX12_hang_X6_take : GoodIn wsX12_hang wsX6_take := goodIn_r _ [8, 9, 10, 11, 12, 13, 14, 15, 16, 17, 18, 19, 20, 21, 22, 23, 24, 25, 26, 27, 28, 29, 30, 31, 32, 33, 34, 35, 36, 37, 38, 39, 40, 41, 42, 43, 44, 45, 46, 47, 48, 49, 50, 113, 114, 115, 116, 117, 118, 119, 120, 121, 122, 123, 124, 125, 126, 127, 128, 129, 130, 131, 132, 133] (by decide +kernel) (by decide +kernel)
set_option maxRecDepth 20000 in
theorem gX12_hang_X6_take : GoodIn wsX12_hang (wsV RX12 86 RX6 yX6_take wsX6_take) := goodIn_app (goodIn_of _ (by decide +kernel)) ggX12_hang_X6_take
set_option maxRecDepth 20000 in
theorem ggX12_hang_X6_hangLine : GoodIn wsX12_hang wsX6_hangLine := goodIn_r _ [54, 15, 55, 56, 57, 58, 59, 60, 61, 62, 63, 64, 65, 66, 67, 68, 69, 70, 71, 72, 73, 74, 25, 75, 31, 27, 29, 76, 77, 78, 79, 80, 81, 82, 83, 84, 85, 86, 30, 32, 113, 114, 115, 116, 117, 118, 119, 120, 121, 122, 123, 124, 125, 126, 127, 134, 135, 136, 137] (by decide +kernel) (by decide +kernel)
set_option maxRecDepth 20000 in
theorem gX12_hang_X6_hangLine : GoodIn wsX12_hang (wsV RX12 101 RX6 yX6_hangLine wsX6_hangLine) := goodIn_app (goodIn_of _ (by decide +kernel)) ggX12_hang_X6_hangLine
set_option maxRecDepth 20000 in
theorem ggX12_hang_X12_settle : GoodIn wsX12_hang wsX12_settle := goodIn_r _ [90, 91, 2, 1, 92, 93, 94, 95, 96, 97, 98, 99, 100, 81, 82, 83, 101, 5, 6, 7, 8, 9, 10, 11, 12, 13, 14, 15, 16, 17, 18, 19, 20, 21, 22, 23, 24, 25, 26, 27, 28, 29, 30, 31, 32, 33, 34, 35, 36, 37, 38, 39, 40, 41, 42, 43, 44, 45, 46, 47, 48, 49, 50, 4, 102, 103, 104, 105, 106, 107, 108, 109, 110, 111, 112, 138, 139, 140, 113, 114, 115, 116, 117, 118, 119, 120, 121, 122, 123, 124, 125, 126, 127, 128, 129, 130, 131, 132, 133] (by decide +kernel) (by decide +kernel)
set_option maxRecDepth 20000 in
theorem gX12_hang_X12_settle : GoodIn wsX12_hang (wsV RX12 94 RX12 yX12_settle wsX12_settle) := goodIn_app (goodIn_of _ (by decide +kernel)) ggX12_hang_X12_settle
theorem dX12_hang_0 : decode cX12_hang 0 = .ok (.aload_n 0, 1) := by decide +kernel
theorem dX12_hang_1 : decode cX12_hang 1 = .ok (.getfield 16, 3) := by decide +kernel
theorem dX12_hang_4 : decode cX12_hang 4 = .ok (.aload_n 0, 1) := by decide +kernel
theorem dX12_hang_5 : decode cX12_hang 5 = .ok (.getfield 12, 3) := by decide +kernel
theorem dX12_hang_8 : decode cX12_hang 8 = .ok (.invokevirtual 86, 3) := by decide +kernel
theorem dX12_hang_11 : decode cX12_hang 11 = .ok (.aload_n 0, 1) := by decide +kernel
theorem dX12_hang_12 : decode cX12_hang 12 = .ok (.aload_n 0, 1) := by decide +kernel
theorem dX12_hang_13 : decode cX12_hang 13 = .ok (.getfield 16, 3) := by decide +kernel
theorem dX12_hang_16 : decode cX12_hang 16 = .ok (.iload_n 1, 1) := by decide +kernel
theorem dX12_hang_17 : decode cX12_hang 17 = .ok (.iload_n 2, 1) := by decide +kernel
theorem dX12_hang_18 : decode cX12_hang 18 = .ok (.iload_n 3, 1) := by decide +kernel
theorem dX12_hang_19 : decode cX12_hang 19 = .ok (.aload_n 0, 1) := by decide +kernel
theorem dX12_hang_20 : decode cX12_hang 20 = .ok (.getfield 43, 3) := by decide +kernel
theorem dX12_hang_23 : decode cX12_hang 23 = .ok (.invokevirtual 101, 3) := by decide +kernel
theorem dX12_hang_26 : decode cX12_hang 26 = .ok (.invokevirtual 94, 3) := by decide +kernel
theorem dX12_hang_29 : decode cX12_hang 29 = .ok (.ireturn, 1) := by decide +kernel
set_option maxRecDepth 20000 in
theorem ggX12_greet_X6_take : GoodIn wsX12_greet wsX6_take := goodIn_r _ [8, 9, 10, 11, 12, 13, 14, 15, 16, 17, 18, 19, 20, 21, 22, 23, 24, 25, 26, 27, 28, 29, 30, 31, 32, 33, 34, 35, 36, 37, 38, 39, 40, 41, 42, 43, 44, 45, 46, 47, 48, 49, 50, 124, 125, 126, 127, 128, 129, 130, 131, 132, 133, 134, 135, 136, 137, 138, 139, 140, 141, 142, 143, 144] (by decide +kernel) (by decide +kernel)
set_option maxRecDepth 20000 in
theorem gX12_greet_X6_take : GoodIn wsX12_greet (wsV RX12 86 RX6 yX6_take wsX6_take) := goodIn_app (goodIn_of _ (by decide +kernel)) ggX12_greet_X6_take
set_option maxRecDepth 20000 in
theorem ggX12_greet_X6_letGreet : GoodIn wsX12_greet wsX6_letGreet := goodIn_r _ [54, 55, 56, 57, 58, 16, 59, 60, 61, 62, 63, 64, 65, 66, 67, 68, 69, 70, 71, 72, 73, 74, 75, 76, 7, 77, 78, 79, 80, 9, 14, 15, 81, 82, 83, 25, 84, 31, 27, 29, 85, 86, 87, 36, 88, 40, 89, 90, 91, 92, 38, 93, 94, 95, 96, 97, 124, 125, 126, 127, 128, 129, 130, 131, 132, 133, 145, 146, 147, 148, 134, 135, 136, 137, 138, 139, 140] (by decide +kernel) (by decide +kernel)
set_option maxRecDepth 20000 in
theorem gX12_greet_X6_letGreet : GoodIn wsX12_greet (wsV RX12 105 RX6 yX6_letGreet wsX6_letGreet) := goodIn_app (goodIn_of _ (by decide +kernel)) ggX12_greet_X6_letGreet
set_option maxRecDepth 20000 in
theorem ggX12_greet_X12_settle : GoodIn wsX12_greet wsX12_settle := goodIn_r _ [101, 102, 2, 1, 103, 104, 105, 106, 107, 108, 109, 110, 111, 79, 57, 80, 112, 5, 6, 7, 8, 9, 10, 11, 12, 13, 14, 15, 16, 17, 18, 19, 20, 21, 22, 23, 24, 25, 26, 27, 28, 29, 30, 31, 32, 33, 34, 35, 36, 37, 38, 39, 40, 41, 42, 43, 44, 45, 46, 47, 48, 49, 50, 4, 113, 114, 115, 116, 117, 118, 119, 120, 121, 122, 123, 149, 150, 151, 124, 125, 126, 127, 128, 129, 130, 131, 132, 133, 134, 135, 136, 137, 138, 139, 140, 141, 142, 143, 144] (by decide +kernel) (by decide +kernel)
set_option maxRecDepth 20000 in
theorem gX12_greet_X12_settle : GoodIn wsX12_greet (wsV RX12 94 RX12 yX12_settle wsX12_settle) := goodIn_app (goodIn_of _ (by decide +kernel)) ggX12_greet_X12_settle
theorem dX12_greet_0 : decode cX12_greet 0 = .ok (.aload_n 0, 1) := by decide +kernel
theorem dX12_greet_1 : decode cX12_greet 1 = .ok (.getfield 16, 3) := by decide +kernel
theorem dX12_greet_4 : decode cX12_greet 4 = .ok (.aload_n 0, 1) := by decide +kernel
theorem dX12_greet_5 : decode cX12_greet 5 = .ok (.getfield 12, 3) := by decide +kernel
theorem dX12_greet_8 : decode cX12_greet 8 = .ok (.invokevirtual 86, 3) := by decide +kernel
theorem dX12_greet_11 : decode cX12_greet 11 = .ok (.aload_n 0, 1) := by decide +kernel
theorem dX12_greet_12 : decode cX12_greet 12 = .ok (.aload_n 0, 1) := by decide +kernel
theorem dX12_greet_13 : decode cX12_greet 13 = .ok (.getfield 16, 3) := by decide +kernel
theorem dX12_greet_16 : decode cX12_greet 16 = .ok (.iload_n 1, 1) := by decide +kernel
theorem dX12_greet_17 : decode cX12_greet 17 = .ok (.iload_n 2, 1) := by decide +kernel
theorem dX12_greet_18 : decode cX12_greet 18 = .ok (.aload_n 0, 1) := by decide +kernel
theorem dX12_greet_19 : decode cX12_greet 19 = .ok (.getfield 43, 3) := by decide +kernel
theorem dX12_greet_22 : decode cX12_greet 22 = .ok (.invokevirtual 105, 3) := by decide +kernel
theorem dX12_greet_25 : decode cX12_greet 25 = .ok (.invokevirtual 94, 3) := by decide +kernel
theorem dX12_greet_28 : decode cX12_greet 28 = .ok (.ireturn, 1) := by decide +kernel
set_option maxRecDepth 20000 in
theorem ggX12_give_X6_take : GoodIn wsX12_give wsX6_take := goodIn_r _ [8, 9, 10, 11, 12, 13, 14, 15, 16, 17, 18, 19, 20, 21, 22, 23, 24, 25, 26, 27, 28, 29, 30, 31, 32, 33, 34, 35, 36, 37, 38, 39, 40, 41, 42, 43, 44, 45, 46, 47, 48, 49, 50, 111, 112, 113, 114, 115, 116, 117, 118, 119, 120, 121, 122, 123, 124, 125, 126, 127, 128, 129, 130, 131] (by decide +kernel) (by decide +kernel)
set_option maxRecDepth 20000 in
theorem gX12_give_X6_take : GoodIn wsX12_give (wsV RX12 86 RX6 yX6_take wsX6_take) := goodIn_app (goodIn_of _ (by decide +kernel)) ggX12_give_X6_take
set_option maxRecDepth 20000 in
theorem ggX12_give_X6_givePlants : GoodIn wsX12_give wsX6_givePlants := goodIn_r _ [54, 55, 56, 57, 58, 9, 19, 59, 60, 61, 62, 63, 64, 65, 66, 67, 68, 69, 70, 71, 72, 73, 74, 75, 76, 7, 77, 78, 79, 80, 14, 15, 81, 82, 83, 25, 84, 31, 27, 29, 111, 112, 113, 114, 115, 116, 117, 118, 119, 120, 132, 133, 134, 135, 121, 122, 123, 124, 125] (by decide +kernel) (by decide +kernel)
set_option maxRecDepth 20000 in
theorem gX12_give_X6_givePlants : GoodIn wsX12_give (wsV RX12 108 RX6 yX6_givePlants wsX6_givePlants) := goodIn_app (goodIn_of _ (by decide +kernel)) ggX12_give_X6_givePlants
set_option maxRecDepth 20000 in
theorem ggX12_give_X12_settle : GoodIn wsX12_give wsX12_settle := goodIn_r _ [88, 89, 2, 1, 90, 91, 92, 93, 94, 95, 96, 97, 98, 79, 57, 80, 99, 5, 6, 7, 8, 9, 10, 11, 12, 13, 14, 15, 16, 17, 18, 19, 20, 21, 22, 23, 24, 25, 26, 27, 28, 29, 30, 31, 32, 33, 34, 35, 36, 37, 38, 39, 40, 41, 42, 43, 44, 45, 46, 47, 48, 49, 50, 4, 100, 101, 102, 103, 104, 105, 106, 107, 108, 109, 110, 136, 137, 138, 111, 112, 113, 114, 115, 116, 117, 118, 119, 120, 121, 122, 123, 124, 125, 126, 127, 128, 129, 130, 131] (by decide +kernel) (by decide +kernel)
set_option maxRecDepth 20000 in
theorem gX12_give_X12_settle : GoodIn wsX12_give (wsV RX12 94 RX12 yX12_settle wsX12_settle) := goodIn_app (goodIn_of _ (by decide +kernel)) ggX12_give_X12_settle
theorem dX12_give_0 : decode cX12_give 0 = .ok (.aload_n 0, 1) := by decide +kernel
theorem dX12_give_1 : decode cX12_give 1 = .ok (.getfield 16, 3) := by decide +kernel
theorem dX12_give_4 : decode cX12_give 4 = .ok (.aload_n 0, 1) := by decide +kernel
theorem dX12_give_5 : decode cX12_give 5 = .ok (.getfield 12, 3) := by decide +kernel
theorem dX12_give_8 : decode cX12_give 8 = .ok (.invokevirtual 86, 3) := by decide +kernel
theorem dX12_give_11 : decode cX12_give 11 = .ok (.aload_n 0, 1) := by decide +kernel
theorem dX12_give_12 : decode cX12_give 12 = .ok (.aload_n 0, 1) := by decide +kernel
theorem dX12_give_13 : decode cX12_give 13 = .ok (.getfield 16, 3) := by decide +kernel
theorem dX12_give_16 : decode cX12_give 16 = .ok (.iload_n 1, 1) := by decide +kernel
theorem dX12_give_17 : decode cX12_give 17 = .ok (.iload_n 2, 1) := by decide +kernel
theorem dX12_give_18 : decode cX12_give 18 = .ok (.iload_n 3, 1) := by decide +kernel
theorem dX12_give_19 : decode cX12_give 19 = .ok (.aload_n 0, 1) := by decide +kernel
theorem dX12_give_20 : decode cX12_give 20 = .ok (.getfield 43, 3) := by decide +kernel
theorem dX12_give_23 : decode cX12_give 23 = .ok (.invokevirtual 108, 3) := by decide +kernel
theorem dX12_give_26 : decode cX12_give 26 = .ok (.invokevirtual 94, 3) := by decide +kernel
theorem dX12_give_29 : decode cX12_give 29 = .ok (.ireturn, 1) := by decide +kernel
set_option maxRecDepth 20000 in
theorem ggX12_cat_X6_take : GoodIn wsX12_cat wsX6_take := goodIn_r _ [8, 9, 10, 11, 12, 13, 14, 15, 16, 17, 18, 19, 20, 21, 22, 23, 24, 25, 26, 27, 28, 29, 30, 31, 32, 33, 34, 35, 36, 37, 38, 39, 40, 41, 42, 43, 44, 45, 46, 47, 48, 49, 50, 105, 106, 107, 108, 109, 110, 111, 112, 113, 114, 115, 116, 117, 118, 119, 120, 121, 122, 123, 124, 125] (by decide +kernel) (by decide +kernel)
set_option maxRecDepth 20000 in
theorem gX12_cat_X6_take : GoodIn wsX12_cat (wsV RX12 86 RX6 yX6_take wsX6_take) := goodIn_app (goodIn_of _ (by decide +kernel)) ggX12_cat_X6_take
set_option maxRecDepth 20000 in
theorem ggX12_cat_X6_letCatCome : GoodIn wsX12_cat wsX6_letCatCome := goodIn_r _ [54, 17, 55, 56, 57, 58, 59, 60, 61, 44, 62, 50, 46, 63, 64, 65, 66, 67, 68, 69, 70, 71, 72, 73, 74, 75, 48, 49, 105, 106, 107, 108, 109, 110, 111, 112, 113, 114, 122, 123, 124, 125, 126, 127, 128, 129] (by decide +kernel) (by decide +kernel)
set_option maxRecDepth 20000 in
theorem gX12_cat_X6_letCatCome : GoodIn wsX12_cat (wsV RX12 111 RX6 yX6_letCatCome wsX6_letCatCome) := goodIn_app (goodIn_of _ (by decide +kernel)) ggX12_cat_X6_letCatCome
set_option maxRecDepth 20000 in
theorem ggX12_cat_X12_settle : GoodIn wsX12_cat wsX12_settle := goodIn_r _ [79, 80, 2, 1, 81, 82, 83, 84, 85, 86, 87, 88, 89, 90, 91, 92, 93, 5, 6, 7, 8, 9, 10, 11, 12, 13, 14, 15, 16, 17, 18, 19, 20, 21, 22, 23, 24, 25, 26, 27, 28, 29, 30, 31, 32, 33, 34, 35, 36, 37, 38, 39, 40, 41, 42, 43, 44, 45, 46, 47, 48, 49, 50, 4, 94, 95, 96, 97, 98, 99, 100, 101, 102, 103, 104, 130, 131, 132, 105, 106, 107, 108, 109, 110, 111, 112, 113, 114, 115, 116, 117, 118, 119, 120, 121, 122, 123, 124, 125] (by decide +kernel) (by decide +kernel)
set_option maxRecDepth 20000 in
theorem gX12_cat_X12_settle : GoodIn wsX12_cat (wsV RX12 94 RX12 yX12_settle wsX12_settle) := goodIn_app (goodIn_of _ (by decide +kernel)) ggX12_cat_X12_settle
theorem dX12_cat_0 : decode cX12_cat 0 = .ok (.aload_n 0, 1) := by decide +kernel
theorem dX12_cat_1 : decode cX12_cat 1 = .ok (.getfield 16, 3) := by decide +kernel
theorem dX12_cat_4 : decode cX12_cat 4 = .ok (.aload_n 0, 1) := by decide +kernel
theorem dX12_cat_5 : decode cX12_cat 5 = .ok (.getfield 12, 3) := by decide +kernel
theorem dX12_cat_8 : decode cX12_cat 8 = .ok (.invokevirtual 86, 3) := by decide +kernel
theorem dX12_cat_11 : decode cX12_cat 11 = .ok (.aload_n 0, 1) := by decide +kernel
theorem dX12_cat_12 : decode cX12_cat 12 = .ok (.aload_n 0, 1) := by decide +kernel
theorem dX12_cat_13 : decode cX12_cat 13 = .ok (.getfield 16, 3) := by decide +kernel
theorem dX12_cat_16 : decode cX12_cat 16 = .ok (.iload_n 1, 1) := by decide +kernel
theorem dX12_cat_17 : decode cX12_cat 17 = .ok (.aload_n 0, 1) := by decide +kernel
theorem dX12_cat_18 : decode cX12_cat 18 = .ok (.getfield 43, 3) := by decide +kernel
theorem dX12_cat_21 : decode cX12_cat 21 = .ok (.invokevirtual 111, 3) := by decide +kernel
theorem dX12_cat_24 : decode cX12_cat 24 = .ok (.invokevirtual 94, 3) := by decide +kernel
theorem dX12_cat_27 : decode cX12_cat 27 = .ok (.ireturn, 1) := by decide +kernel
set_option maxRecDepth 20000 in
theorem ggX12_swap_X6_take : GoodIn wsX12_swap wsX6_take := goodIn_r _ [8, 9, 10, 11, 12, 13, 14, 15, 16, 17, 18, 19, 20, 21, 22, 23, 24, 25, 26, 27, 28, 29, 30, 31, 32, 33, 34, 35, 36, 37, 38, 39, 40, 41, 42, 43, 44, 45, 46, 47, 48, 49, 50, 120, 121, 122, 123, 124, 125, 126, 127, 128, 129, 130, 131, 132, 133, 134, 135, 136, 137, 138, 139, 140] (by decide +kernel) (by decide +kernel)
set_option maxRecDepth 20000 in
theorem gX12_swap_X6_take : GoodIn wsX12_swap (wsV RX12 86 RX6 yX6_take wsX6_take) := goodIn_app (goodIn_of _ (by decide +kernel)) ggX12_swap_X6_take
set_option maxRecDepth 20000 in
theorem ggX12_swap_X6_swapCats : GoodIn wsX12_swap wsX6_swapCats := goodIn_r _ [54, 55, 56, 57, 58, 17, 59, 60, 61, 62, 63, 64, 65, 66, 67, 68, 69, 70, 71, 72, 73, 74, 75, 76, 77, 7, 78, 79, 80, 81, 9, 14, 15, 82, 83, 84, 25, 85, 31, 27, 29, 86, 87, 88, 44, 89, 50, 46, 90, 91, 92, 93, 49, 120, 121, 122, 123, 124, 125, 126, 127, 128, 129, 137, 138, 139, 140, 141, 142, 143, 144, 130, 131, 132, 133, 134] (by decide +kernel) (by decide +kernel)
set_option maxRecDepth 20000 in
theorem gX12_swap_X6_swapCats : GoodIn wsX12_swap (wsV RX12 115 RX6 yX6_swapCats wsX6_swapCats) := goodIn_app (goodIn_of _ (by decide +kernel)) ggX12_swap_X6_swapCats
set_option maxRecDepth 20000 in
theorem ggX12_swap_X12_settle : GoodIn wsX12_swap wsX12_settle := goodIn_r _ [97, 98, 2, 1, 99, 100, 101, 102, 103, 104, 105, 106, 107, 80, 57, 81, 108, 5, 6, 7, 8, 9, 10, 11, 12, 13, 14, 15, 16, 17, 18, 19, 20, 21, 22, 23, 24, 25, 26, 27, 28, 29, 30, 31, 32, 33, 34, 35, 36, 37, 38, 39, 40, 41, 42, 43, 44, 45, 46, 47, 48, 49, 50, 4, 109, 110, 111, 112, 113, 114, 115, 116, 117, 118, 119, 145, 146, 147, 120, 121, 122, 123, 124, 125, 126, 127, 128, 129, 130, 131, 132, 133, 134, 135, 136, 137, 138, 139, 140] (by decide +kernel) (by decide +kernel)
set_option maxRecDepth 20000 in
theorem gX12_swap_X12_settle : GoodIn wsX12_swap (wsV RX12 94 RX12 yX12_settle wsX12_settle) := goodIn_app (goodIn_of _ (by decide +kernel)) ggX12_swap_X12_settle
theorem dX12_swap_0 : decode cX12_swap 0 = .ok (.aload_n 0, 1) := by decide +kernel
theorem dX12_swap_1 : decode cX12_swap 1 = .ok (.getfield 16, 3) := by decide +kernel
theorem dX12_swap_4 : decode cX12_swap 4 = .ok (.aload_n 0, 1) := by decide +kernel
theorem dX12_swap_5 : decode cX12_swap 5 = .ok (.getfield 12, 3) := by decide +kernel
theorem dX12_swap_8 : decode cX12_swap 8 = .ok (.invokevirtual 86, 3) := by decide +kernel
theorem dX12_swap_11 : decode cX12_swap 11 = .ok (.aload_n 0, 1) := by decide +kernel
theorem dX12_swap_12 : decode cX12_swap 12 = .ok (.aload_n 0, 1) := by decide +kernel
theorem dX12_swap_13 : decode cX12_swap 13 = .ok (.getfield 16, 3) := by decide +kernel
theorem dX12_swap_16 : decode cX12_swap 16 = .ok (.iload_n 1, 1) := by decide +kernel
theorem dX12_swap_17 : decode cX12_swap 17 = .ok (.iload_n 2, 1) := by decide +kernel
theorem dX12_swap_18 : decode cX12_swap 18 = .ok (.aload_n 0, 1) := by decide +kernel
theorem dX12_swap_19 : decode cX12_swap 19 = .ok (.getfield 43, 3) := by decide +kernel
theorem dX12_swap_22 : decode cX12_swap 22 = .ok (.invokevirtual 115, 3) := by decide +kernel
theorem dX12_swap_25 : decode cX12_swap 25 = .ok (.invokevirtual 94, 3) := by decide +kernel
theorem dX12_swap_28 : decode cX12_swap 28 = .ok (.ireturn, 1) := by decide +kernel
set_option maxRecDepth 20000 in
theorem ggX12_day_X6_take : GoodIn wsX12_day wsX6_take := goodIn_r _ [7, 8, 9, 10, 11, 12, 13, 14, 15, 16, 17, 18, 19, 20, 21, 22, 23, 24, 25, 26, 27, 28, 29, 30, 31, 32, 33, 34, 35, 36, 37, 38, 39, 40, 41, 42, 43, 44, 45, 46, 47, 48, 49, 100, 101, 102, 103, 104, 105, 106, 107, 108, 109, 110, 111, 112, 113, 114, 115, 116, 117, 118, 119, 120] (by decide +kernel) (by decide +kernel)
set_option maxRecDepth 20000 in
theorem gX12_day_X6_take : GoodIn wsX12_day (wsV RX12 86 RX6 yX6_take wsX6_take) := goodIn_app (goodIn_of _ (by decide +kernel)) ggX12_day_X6_take
set_option maxRecDepth 20000 in
theorem ggX12_day_X6_endDay : GoodIn wsX12_day wsX6_endDay := goodIn_r _ [53, 8, 54, 9, 10, 11, 12, 20, 14, 15, 17, 55, 56, 6, 57, 58, 59, 60, 24, 61, 30, 29, 26, 28, 62, 63, 64, 35, 65, 39, 66, 67, 68, 69, 100, 101, 102, 103, 104, 105, 106, 107, 108, 109, 110, 111, 112, 113, 114, 115, 116] (by decide +kernel) (by decide +kernel)
set_option maxRecDepth 20000 in
theorem gX12_day_X6_endDay : GoodIn wsX12_day (wsV RX12 118 RX6 yX6_endDay wsX6_endDay) := goodIn_app (goodIn_of _ (by decide +kernel)) ggX12_day_X6_endDay
set_option maxRecDepth 20000 in
theorem ggX12_day_X12_settle : GoodIn wsX12_day wsX12_settle := goodIn_r _ [74, 75, 2, 1, 76, 77, 78, 79, 80, 81, 82, 83, 84, 85, 86, 87, 88, 4, 5, 6, 7, 8, 9, 10, 11, 12, 13, 14, 15, 16, 17, 18, 19, 20, 21, 22, 23, 24, 25, 26, 27, 28, 29, 30, 31, 32, 33, 34, 35, 36, 37, 38, 39, 40, 41, 42, 43, 44, 45, 46, 47, 48, 49, 3, 89, 90, 91, 92, 93, 94, 95, 96, 97, 98, 99, 121, 122, 123, 100, 101, 102, 103, 104, 105, 106, 107, 108, 109, 110, 111, 112, 113, 114, 115, 116, 117, 118, 119, 120] (by decide +kernel) (by decide +kernel)
set_option maxRecDepth 20000 in
theorem gX12_day_X12_settle : GoodIn wsX12_day (wsV RX12 94 RX12 yX12_settle wsX12_settle) := goodIn_app (goodIn_of _ (by decide +kernel)) ggX12_day_X12_settle
theorem dX12_day_0 : decode cX12_day 0 = .ok (.aload_n 0, 1) := by decide +kernel
theorem dX12_day_1 : decode cX12_day 1 = .ok (.getfield 16, 3) := by decide +kernel
theorem dX12_day_4 : decode cX12_day 4 = .ok (.aload_n 0, 1) := by decide +kernel
theorem dX12_day_5 : decode cX12_day 5 = .ok (.getfield 12, 3) := by decide +kernel
theorem dX12_day_8 : decode cX12_day 8 = .ok (.invokevirtual 86, 3) := by decide +kernel
theorem dX12_day_11 : decode cX12_day 11 = .ok (.aload_n 0, 1) := by decide +kernel
theorem dX12_day_12 : decode cX12_day 12 = .ok (.aload_n 0, 1) := by decide +kernel
theorem dX12_day_13 : decode cX12_day 13 = .ok (.getfield 16, 3) := by decide +kernel
theorem dX12_day_16 : decode cX12_day 16 = .ok (.invokevirtual 118, 3) := by decide +kernel
theorem dX12_day_19 : decode cX12_day 19 = .ok (.invokevirtual 94, 3) := by decide +kernel
theorem dX12_day_22 : decode cX12_day 22 = .ok (.ireturn, 1) := by decide +kernel
set_option maxRecDepth 20000 in
theorem ggX12_read_X10_understandText : GoodIn wsX12_read wsX10_understandText := goodIn_r _ [10, 11, 12, 13, 14, 15, 16, 9, 17, 18, 19, 20, 21, 22, 23, 24, 25, 26, 27, 28, 29, 30, 31, 32, 33, 34, 35, 36, 37, 38, 39, 40, 41, 42, 43, 44, 45, 46, 47, 48, 49, 50, 51, 52, 53, 54, 55, 56, 57, 58, 59, 60, 61, 62, 63, 64, 65, 66, 67, 68, 69, 70, 71, 72, 73, 74, 75, 76, 77, 78, 79, 80, 81, 82, 83, 84, 85, 86, 87, 88, 89, 90, 91, 92, 93, 94, 95, 96, 97, 98, 313, 314, 315, 316, 317, 318, 319, 320] (by decide +kernel) (by decide +kernel)
set_option maxRecDepth 20000 in
theorem gX12_read_X10_understandText : GoodIn wsX12_read (wsV RX12 121 RX10 yX10_understandText wsX10_understandText) := goodIn_app (goodIn_of _ (by decide +kernel)) ggX12_read_X10_understandText
set_option maxRecDepth 20000 in
theorem ggX12_read_X10_emptyInput : GoodIn wsX12_read wsX10_emptyInput := goodIn_r _ [102, 13, 313, 314, 315, 316, 317, 318, 319, 320] (by decide +kernel) (by decide +kernel)
set_option maxRecDepth 20000 in
theorem gX12_read_X10_emptyInput : GoodIn wsX12_read (wsV RX12 125 RX10 yX10_emptyInput wsX10_emptyInput) := goodIn_app (goodIn_of _ (by decide +kernel)) ggX12_read_X10_emptyInput
set_option maxRecDepth 20000 in
theorem ggX12_read_X6_take : GoodIn wsX12_read wsX6_take := goodIn_r _ [107, 108, 109, 110, 111, 112, 113, 114, 115, 116, 117, 118, 119, 120, 121, 122, 123, 124, 125, 126, 127, 128, 129, 130, 131, 132, 133, 134, 135, 136, 137, 138, 139, 140, 141, 142, 143, 144, 145, 146, 147, 148, 149, 321, 322, 323, 324, 325, 326, 327, 328, 329, 330, 331, 332, 333, 334, 335, 336, 337, 338, 339, 340, 341] (by decide +kernel) (by decide +kernel)
set_option maxRecDepth 20000 in
theorem gX12_read_X6_take : GoodIn wsX12_read (wsV RX12 86 RX6 yX6_take wsX6_take) := goodIn_app (goodIn_of _ (by decide +kernel)) ggX12_read_X6_take
set_option maxRecDepth 20000 in
theorem ggX12_read_X12_performAll : GoodIn wsX12_read wsX12_performAll := goodIn_r _ [154, 1, 155, 156, 157, 158, 159, 153, 160, 161, 162, 163, 164, 165, 166, 4, 167, 168, 169, 170, 171, 172, 173, 174, 175, 176, 106, 177, 108, 119, 178, 179, 180, 181, 182, 183, 184, 185, 186, 187, 188, 189, 190, 191, 192, 113, 193, 194, 195, 196, 114, 197, 198, 199, 200, 201, 202, 203, 204, 124, 205, 130, 126, 128, 206, 207, 208, 209, 210, 211, 31, 212, 213, 30, 32, 129, 131, 214, 215, 216, 217, 218, 115, 219, 220, 221, 222, 223, 224, 225, 226, 135, 227, 139, 228, 229, 230, 231, 137, 232, 233, 234, 235, 236, 237, 238, 239, 240, 118, 241, 242, 243, 244, 116, 245, 246, 247, 248, 143, 249, 149, 145, 250, 251, 252, 253, 147, 148, 254, 255, 256, 257, 258, 259, 260, 261, 262, 263, 264, 265, 266, 109, 110, 111, 112, 120, 117, 267, 268, 269, 270, 271, 272, 273, 274, 275, 276, 277, 278, 279, 280, 281, 282, 283, 284, 285, 286, 302, 303, 304, 305, 306, 307, 308, 309, 310, 311, 312, 313, 314, 315, 316, 317, 318, 319, 320, 321, 322, 323, 324, 325, 326, 327, 328, 329, 330, 342, 343, 344, 345, 331, 332, 333, 334, 335, 336, 337, 338, 339, 340, 341] (by decide +kernel) (by decide +kernel)
set_option maxRecDepth 20000 in
theorem gX12_read_X12_performAll : GoodIn wsX12_read (wsV RX12 131 RX12 yX12_performAll wsX12_performAll) := goodIn_app (goodIn_of _ (by decide +kernel)) ggX12_read_X12_performAll
set_option maxRecDepth 20000 in
theorem ggX12_read_X12_settle : GoodIn wsX12_read wsX12_settle := goodIn_r _ [290, 291, 5, 4, 292, 293, 294, 295, 296, 297, 298, 299, 300, 211, 31, 212, 301, 104, 105, 106, 107, 108, 109, 110, 111, 112, 113, 114, 115, 116, 117, 118, 119, 120, 121, 122, 123, 124, 125, 126, 127, 128, 129, 130, 131, 132, 133, 134, 135, 136, 137, 138, 139, 140, 141, 142, 143, 144, 145, 146, 147, 148, 149, 103, 302, 303, 304, 305, 306, 307, 308, 309, 310, 311, 312, 346, 347, 348, 321, 322, 323, 324, 325, 326, 327, 328, 329, 330, 331, 332, 333, 334, 335, 336, 337, 338, 339, 340, 341] (by decide +kernel) (by decide +kernel)
set_option maxRecDepth 20000 in
theorem gX12_read_X12_settle : GoodIn wsX12_read (wsV RX12 94 RX12 yX12_settle wsX12_settle) := goodIn_app (goodIn_of _ (by decide +kernel)) ggX12_read_X12_settle
theorem dX12_read_0 : decode cX12_read 0 = .ok (.aload_n 0, 1) := by decide +kernel
theorem dX12_read_1 : decode cX12_read 1 = .ok (.getfield 36, 3) := by decide +kernel
theorem dX12_read_4 : decode cX12_read 4 = .ok (.invokevirtual 121, 3) := by decide +kernel
theorem dX12_read_7 : decode cX12_read 7 = .ok (.istore_n 1, 1) := by decide +kernel
theorem dX12_read_8 : decode cX12_read 8 = .ok (.aload_n 0, 1) := by decide +kernel
theorem dX12_read_9 : decode cX12_read 9 = .ok (.getfield 36, 3) := by decide +kernel
theorem dX12_read_12 : decode cX12_read 12 = .ok (.invokevirtual 125, 3) := by decide +kernel
theorem dX12_read_15 : decode cX12_read 15 = .ok (.iload_n 1, 1) := by decide +kernel
theorem dX12_read_16 : decode cX12_read 16 = .ok (.ifCond .ne 17, 3) := by decide +kernel
theorem dX12_read_19 : decode cX12_read 19 = .ok (.aload_n 0, 1) := by decide +kernel
theorem dX12_read_20 : decode cX12_read 20 = .ok (.aload_n 0, 1) := by decide +kernel
theorem dX12_read_21 : decode cX12_read 21 = .ok (.getfield 36, 3) := by decide +kernel
theorem dX12_read_24 : decode cX12_read 24 = .ok (.getfield 128, 3) := by decide +kernel
theorem dX12_read_27 : decode cX12_read 27 = .ok (.putfield 68, 3) := by decide +kernel
theorem dX12_read_30 : decode cX12_read 30 = .ok (.bipush (-2), 2) := by decide +kernel
theorem dX12_read_32 : decode cX12_read 32 = .ok (.ireturn, 1) := by decide +kernel
theorem dX12_read_33 : decode cX12_read 33 = .ok (.aload_n 0, 1) := by decide +kernel
theorem dX12_read_34 : decode cX12_read 34 = .ok (.getfield 16, 3) := by decide +kernel
theorem dX12_read_37 : decode cX12_read 37 = .ok (.aload_n 0, 1) := by decide +kernel
theorem dX12_read_38 : decode cX12_read 38 = .ok (.getfield 12, 3) := by decide +kernel
theorem dX12_read_41 : decode cX12_read 41 = .ok (.invokevirtual 86, 3) := by decide +kernel
theorem dX12_read_44 : decode cX12_read 44 = .ok (.aload_n 0, 1) := by decide +kernel
theorem dX12_read_45 : decode cX12_read 45 = .ok (.aload_n 0, 1) := by decide +kernel
theorem dX12_read_46 : decode cX12_read 46 = .ok (.invokevirtual 131, 3) := by decide +kernel
theorem dX12_read_49 : decode cX12_read 49 = .ok (.invokevirtual 94, 3) := by decide +kernel
theorem dX12_read_52 : decode cX12_read 52 = .ok (.ireturn, 1) := by decide +kernel
theorem dX12_fault_0 : decode cX12_fault 0 = .ok (.aload_n 0, 1) := by decide +kernel
theorem dX12_fault_1 : decode cX12_fault 1 = .ok (.getfield 68, 3) := by decide +kernel
theorem dX12_fault_4 : decode cX12_fault 4 = .ok (.ireturn, 1) := by decide +kernel
theorem dX12_reason_0 : decode cX12_reason 0 = .ok (.iload_n 1, 1) := by decide +kernel
theorem dX12_reason_1 : decode cX12_reason 1 = .ok (.ifCond .ne 25, 3) := by decide +kernel
theorem dX12_reason_4 : decode cX12_reason 4 = .ok (.iload_n 2, 1) := by decide +kernel
theorem dX12_reason_5 : decode cX12_reason 5 = .ok (.ifCond .eq 13, 3) := by decide +kernel
theorem dX12_reason_8 : decode cX12_reason 8 = .ok (.aload_n 0, 1) := by decide +kernel
theorem dX12_reason_9 : decode cX12_reason 9 = .ok (.getfield 43, 3) := by decide +kernel
theorem dX12_reason_12 : decode cX12_reason 12 = .ok (.getfield 134, 3) := by decide +kernel
theorem dX12_reason_15 : decode cX12_reason 15 = .ok (.goto 10, 3) := by decide +kernel
theorem dX12_reason_18 : decode cX12_reason 18 = .ok (.aload_n 0, 1) := by decide +kernel
theorem dX12_reason_19 : decode cX12_reason 19 = .ok (.getfield 43, 3) := by decide +kernel
theorem dX12_reason_22 : decode cX12_reason 22 = .ok (.getfield 137, 3) := by decide +kernel
theorem dX12_reason_25 : decode cX12_reason 25 = .ok (.ireturn, 1) := by decide +kernel
theorem dX12_reason_26 : decode cX12_reason 26 = .ok (.iload_n 1, 1) := by decide +kernel
theorem dX12_reason_27 : decode cX12_reason 27 = .ok (.iconst 1, 1) := by decide +kernel
theorem dX12_reason_28 : decode cX12_reason 28 = .ok (.if_icmp .ne 25, 3) := by decide +kernel
theorem dX12_reason_31 : decode cX12_reason 31 = .ok (.iload_n 2, 1) := by decide +kernel
theorem dX12_reason_32 : decode cX12_reason 32 = .ok (.ifCond .eq 13, 3) := by decide +kernel
theorem dX12_reason_35 : decode cX12_reason 35 = .ok (.aload_n 0, 1) := by decide +kernel
theorem dX12_reason_36 : decode cX12_reason 36 = .ok (.getfield 43, 3) := by decide +kernel
theorem dX12_reason_39 : decode cX12_reason 39 = .ok (.getfield 140, 3) := by decide +kernel
theorem dX12_reason_42 : decode cX12_reason 42 = .ok (.goto 10, 3) := by decide +kernel
theorem dX12_reason_45 : decode cX12_reason 45 = .ok (.aload_n 0, 1) := by decide +kernel
theorem dX12_reason_46 : decode cX12_reason 46 = .ok (.getfield 43, 3) := by decide +kernel
theorem dX12_reason_49 : decode cX12_reason 49 = .ok (.getfield 143, 3) := by decide +kernel
theorem dX12_reason_52 : decode cX12_reason 52 = .ok (.ireturn, 1) := by decide +kernel
theorem dX12_reason_53 : decode cX12_reason 53 = .ok (.bipush (-2), 2) := by decide +kernel
theorem dX12_reason_55 : decode cX12_reason 55 = .ok (.ireturn, 1) := by decide +kernel
set_option maxRecDepth 20000 in
theorem ggX12_balconyOf_X12_isBalcony : GoodIn wsX12_balconyOf wsX12_isBalcony := goodIn_r _ [10] (by decide +kernel) (by decide +kernel)
set_option maxRecDepth 20000 in
theorem gX12_balconyOf_X12_isBalcony : GoodIn wsX12_balconyOf (va_wsS RX12 146 yX12_isBalcony wsX12_isBalcony) := goodIn_app (goodIn_of _ (by decide +kernel)) ggX12_balconyOf_X12_isBalcony
set_option maxRecDepth 20000 in
theorem ggX12_balconyOf_X1_catOn : GoodIn wsX12_balconyOf wsX1_catOn := goodIn_r _ [15, 16, 17, 88, 89, 90, 91] (by decide +kernel) (by decide +kernel)
set_option maxRecDepth 20000 in
theorem gX12_balconyOf_X1_catOn : GoodIn wsX12_balconyOf (wsV RX12 161 RX1 yX1_catOn wsX1_catOn) := goodIn_app (goodIn_of _ (by decide +kernel)) ggX12_balconyOf_X1_catOn
set_option maxRecDepth 20000 in
theorem ggX12_balconyOf_X3_ofBalcony : GoodIn wsX12_balconyOf wsX3_ofBalcony := goodIn_r _ [21, 22, 23, 24, 25, 26, 27, 28, 29, 30, 31, 32, 33, 34, 35, 36, 37, 38, 39, 40, 41, 42, 43, 44, 78, 79, 80, 81, 82, 83, 84, 85, 86, 87, 92, 93, 94, 95, 96] (by decide +kernel) (by decide +kernel)
set_option maxRecDepth 20000 in
theorem gX12_balconyOf_X3_ofBalcony : GoodIn wsX12_balconyOf (va_wsS RX12 166 yX3_ofBalcony wsX3_ofBalcony) := goodIn_app (goodIn_of _ (by decide +kernel)) ggX12_balconyOf_X3_ofBalcony
set_option maxRecDepth 20000 in
theorem ggX12_balconyOf_X4_givenBy : GoodIn wsX12_balconyOf wsX4_givenBy := goodIn_r _ [49, 50, 51, 52, 48, 53, 54, 97, 98] (by decide +kernel) (by decide +kernel)
set_option maxRecDepth 20000 in
theorem gX12_balconyOf_X4_givenBy : GoodIn wsX12_balconyOf (wsV RX12 176 RX4 yX4_givenBy wsX4_givenBy) := goodIn_app (goodIn_of _ (by decide +kernel)) ggX12_balconyOf_X4_givenBy
set_option maxRecDepth 20000 in
theorem ggX12_balconyOf_X4_gotBy : GoodIn wsX12_balconyOf wsX4_gotBy := goodIn_r _ [58, 50, 51, 52, 48, 53, 54, 97, 98] (by decide +kernel) (by decide +kernel)
set_option maxRecDepth 20000 in
theorem gX12_balconyOf_X4_gotBy : GoodIn wsX12_balconyOf (wsV RX12 181 RX4 yX4_gotBy wsX4_gotBy) := goodIn_app (goodIn_of _ (by decide +kernel)) ggX12_balconyOf_X4_gotBy
set_option maxRecDepth 20000 in
theorem ggX12_balconyOf_X7_countAt : GoodIn wsX12_balconyOf wsX7_countAt := goodIn_r _ [62, 42, 43, 44, 92, 93, 94, 95, 96] (by decide +kernel) (by decide +kernel)
set_option maxRecDepth 20000 in
theorem gX12_balconyOf_X7_countAt : GoodIn wsX12_balconyOf (wsV RX12 188 RX7 yX7_countAt wsX7_countAt) := goodIn_app (goodIn_of _ (by decide +kernel)) ggX12_balconyOf_X7_countAt
set_option maxRecDepth 20000 in
theorem ggX12_balconyOf_X4_friendsOf : GoodIn wsX12_balconyOf wsX4_friendsOf := goodIn_r _ [66, 50, 51, 52, 48, 53, 54, 97, 98] (by decide +kernel) (by decide +kernel)
set_option maxRecDepth 20000 in
theorem gX12_balconyOf_X4_friendsOf : GoodIn wsX12_balconyOf (wsV RX12 193 RX4 yX4_friendsOf wsX4_friendsOf) := goodIn_app (goodIn_of _ (by decide +kernel)) ggX12_balconyOf_X4_friendsOf
theorem dX12_balconyOf_0 : decode cX12_balconyOf 0 = .ok (.iload_n 1, 1) := by decide +kernel
theorem dX12_balconyOf_1 : decode cX12_balconyOf 1 = .ok (.invokestatic 146, 3) := by decide +kernel
theorem dX12_balconyOf_4 : decode cX12_balconyOf 4 = .ok (.ifCond .ne 5, 3) := by decide +kernel
theorem dX12_balconyOf_7 : decode cX12_balconyOf 7 = .ok (.iconst (-1), 1) := by decide +kernel
theorem dX12_balconyOf_8 : decode cX12_balconyOf 8 = .ok (.ireturn, 1) := by decide +kernel
theorem dX12_balconyOf_9 : decode cX12_balconyOf 9 = .ok (.iload_n 2, 1) := by decide +kernel
theorem dX12_balconyOf_10 : decode cX12_balconyOf 10 = .ok (.tableswitch 135 0 7 #[46, 56, 66, 78, 87, 99, 111, 123], 46) := by decide +kernel
theorem dX12_balconyOf_56 : decode cX12_balconyOf 56 = .ok (.aload_n 0, 1) := by decide +kernel
theorem dX12_balconyOf_57 : decode cX12_balconyOf 57 = .ok (.getfield 12, 3) := by decide +kernel
theorem dX12_balconyOf_60 : decode cX12_balconyOf 60 = .ok (.getfield 150, 3) := by decide +kernel
theorem dX12_balconyOf_63 : decode cX12_balconyOf 63 = .ok (.iload_n 1, 1) := by decide +kernel
theorem dX12_balconyOf_64 : decode cX12_balconyOf 64 = .ok (.iaload, 1) := by decide +kernel
theorem dX12_balconyOf_65 : decode cX12_balconyOf 65 = .ok (.ireturn, 1) := by decide +kernel
theorem dX12_balconyOf_66 : decode cX12_balconyOf 66 = .ok (.aload_n 0, 1) := by decide +kernel
theorem dX12_balconyOf_67 : decode cX12_balconyOf 67 = .ok (.getfield 12, 3) := by decide +kernel
theorem dX12_balconyOf_70 : decode cX12_balconyOf 70 = .ok (.getfield 154, 3) := by decide +kernel
theorem dX12_balconyOf_73 : decode cX12_balconyOf 73 = .ok (.iload_n 1, 1) := by decide +kernel
theorem dX12_balconyOf_74 : decode cX12_balconyOf 74 = .ok (.iaload, 1) := by decide +kernel
theorem dX12_balconyOf_75 : decode cX12_balconyOf 75 = .ok (.ireturn, 1) := by decide +kernel
theorem dX12_balconyOf_76 : decode cX12_balconyOf 76 = .ok (.aload_n 0, 1) := by decide +kernel
theorem dX12_balconyOf_77 : decode cX12_balconyOf 77 = .ok (.getfield 12, 3) := by decide +kernel
theorem dX12_balconyOf_80 : decode cX12_balconyOf 80 = .ok (.getfield 157, 3) := by decide +kernel
theorem dX12_balconyOf_83 : decode cX12_balconyOf 83 = .ok (.iload_n 1, 1) := by decide +kernel
theorem dX12_balconyOf_84 : decode cX12_balconyOf 84 = .ok (.invokevirtual 161, 3) := by decide +kernel
theorem dX12_balconyOf_87 : decode cX12_balconyOf 87 = .ok (.ireturn, 1) := by decide +kernel
theorem dX12_balconyOf_88 : decode cX12_balconyOf 88 = .ok (.aload_n 0, 1) := by decide +kernel
theorem dX12_balconyOf_89 : decode cX12_balconyOf 89 = .ok (.getfield 12, 3) := by decide +kernel
theorem dX12_balconyOf_92 : decode cX12_balconyOf 92 = .ok (.iload_n 1, 1) := by decide +kernel
theorem dX12_balconyOf_93 : decode cX12_balconyOf 93 = .ok (.invokestatic 166, 3) := by decide +kernel
theorem dX12_balconyOf_96 : decode cX12_balconyOf 96 = .ok (.ireturn, 1) := by decide +kernel
theorem dX12_balconyOf_97 : decode cX12_balconyOf 97 = .ok (.aload_n 0, 1) := by decide +kernel
theorem dX12_balconyOf_98 : decode cX12_balconyOf 98 = .ok (.getfield 12, 3) := by decide +kernel
theorem dX12_balconyOf_101 : decode cX12_balconyOf 101 = .ok (.getfield 172, 3) := by decide +kernel
theorem dX12_balconyOf_104 : decode cX12_balconyOf 104 = .ok (.iload_n 1, 1) := by decide +kernel
theorem dX12_balconyOf_105 : decode cX12_balconyOf 105 = .ok (.invokevirtual 176, 3) := by decide +kernel
theorem dX12_balconyOf_108 : decode cX12_balconyOf 108 = .ok (.ireturn, 1) := by decide +kernel
theorem dX12_balconyOf_109 : decode cX12_balconyOf 109 = .ok (.aload_n 0, 1) := by decide +kernel
theorem dX12_balconyOf_110 : decode cX12_balconyOf 110 = .ok (.getfield 12, 3) := by decide +kernel
theorem dX12_balconyOf_113 : decode cX12_balconyOf 113 = .ok (.getfield 172, 3) := by decide +kernel
theorem dX12_balconyOf_116 : decode cX12_balconyOf 116 = .ok (.iload_n 1, 1) := by decide +kernel
theorem dX12_balconyOf_117 : decode cX12_balconyOf 117 = .ok (.invokevirtual 181, 3) := by decide +kernel
theorem dX12_balconyOf_120 : decode cX12_balconyOf 120 = .ok (.ireturn, 1) := by decide +kernel
theorem dX12_balconyOf_121 : decode cX12_balconyOf 121 = .ok (.aload_n 0, 1) := by decide +kernel
theorem dX12_balconyOf_122 : decode cX12_balconyOf 122 = .ok (.getfield 12, 3) := by decide +kernel
theorem dX12_balconyOf_125 : decode cX12_balconyOf 125 = .ok (.getfield 184, 3) := by decide +kernel
theorem dX12_balconyOf_128 : decode cX12_balconyOf 128 = .ok (.iload_n 1, 1) := by decide +kernel
theorem dX12_balconyOf_129 : decode cX12_balconyOf 129 = .ok (.invokevirtual 188, 3) := by decide +kernel
theorem dX12_balconyOf_132 : decode cX12_balconyOf 132 = .ok (.ireturn, 1) := by decide +kernel
theorem dX12_balconyOf_133 : decode cX12_balconyOf 133 = .ok (.aload_n 0, 1) := by decide +kernel
theorem dX12_balconyOf_134 : decode cX12_balconyOf 134 = .ok (.getfield 12, 3) := by decide +kernel
theorem dX12_balconyOf_137 : decode cX12_balconyOf 137 = .ok (.getfield 172, 3) := by decide +kernel
theorem dX12_balconyOf_140 : decode cX12_balconyOf 140 = .ok (.iload_n 1, 1) := by decide +kernel
theorem dX12_balconyOf_141 : decode cX12_balconyOf 141 = .ok (.invokevirtual 193, 3) := by decide +kernel
theorem dX12_balconyOf_144 : decode cX12_balconyOf 144 = .ok (.ireturn, 1) := by decide +kernel
theorem dX12_balconyOf_145 : decode cX12_balconyOf 145 = .ok (.bipush (-2), 2) := by decide +kernel
theorem dX12_balconyOf_147 : decode cX12_balconyOf 147 = .ok (.ireturn, 1) := by decide +kernel
set_option maxRecDepth 20000 in
theorem ggX12_feud_X12_areBalconies : GoodIn wsX12_feud wsX12_areBalconies := goodIn_r _ [5, 6, 7, 4, 8] (by decide +kernel) (by decide +kernel)
set_option maxRecDepth 20000 in
theorem gX12_feud_X12_areBalconies : GoodIn wsX12_feud (va_wsS RX12 196 yX12_areBalconies wsX12_areBalconies) := goodIn_app (goodIn_of _ (by decide +kernel)) ggX12_feud_X12_areBalconies
set_option maxRecDepth 20000 in
theorem ggX12_feud_X6_isFeud : GoodIn wsX12_feud wsX6_isFeud := goodIn_r _ [13, 14, 15, 16, 17, 18, 19, 20, 21, 22, 23, 24, 25, 26, 27, 28, 29, 30, 31, 43, 44, 45, 46, 47, 48, 49, 50, 51, 52, 53, 54, 55, 56, 57] (by decide +kernel) (by decide +kernel)
set_option maxRecDepth 20000 in
theorem gX12_feud_X6_isFeud : GoodIn wsX12_feud (wsV RX12 200 RX6 yX6_isFeud wsX6_isFeud) := goodIn_app (goodIn_of _ (by decide +kernel)) ggX12_feud_X6_isFeud
theorem dX12_feud_0 : decode cX12_feud 0 = .ok (.iload_n 1, 1) := by decide +kernel
theorem dX12_feud_1 : decode cX12_feud 1 = .ok (.iload_n 2, 1) := by decide +kernel
theorem dX12_feud_2 : decode cX12_feud 2 = .ok (.invokestatic 196, 3) := by decide +kernel
theorem dX12_feud_5 : decode cX12_feud 5 = .ok (.ifCond .ne 5, 3) := by decide +kernel
theorem dX12_feud_8 : decode cX12_feud 8 = .ok (.iconst (-1), 1) := by decide +kernel
theorem dX12_feud_9 : decode cX12_feud 9 = .ok (.ireturn, 1) := by decide +kernel
theorem dX12_feud_10 : decode cX12_feud 10 = .ok (.aload_n 0, 1) := by decide +kernel
theorem dX12_feud_11 : decode cX12_feud 11 = .ok (.getfield 12, 3) := by decide +kernel
theorem dX12_feud_14 : decode cX12_feud 14 = .ok (.iload_n 1, 1) := by decide +kernel
theorem dX12_feud_15 : decode cX12_feud 15 = .ok (.iload_n 2, 1) := by decide +kernel
theorem dX12_feud_16 : decode cX12_feud 16 = .ok (.invokevirtual 200, 3) := by decide +kernel
theorem dX12_feud_19 : decode cX12_feud 19 = .ok (.ifCond .eq 7, 3) := by decide +kernel
theorem dX12_feud_22 : decode cX12_feud 22 = .ok (.iconst 1, 1) := by decide +kernel
theorem dX12_feud_23 : decode cX12_feud 23 = .ok (.goto 4, 3) := by decide +kernel
theorem dX12_feud_26 : decode cX12_feud 26 = .ok (.iconst 0, 1) := by decide +kernel
theorem dX12_feud_27 : decode cX12_feud 27 = .ok (.ireturn, 1) := by decide +kernel
set_option maxRecDepth 20000 in
theorem ggX12_greeted_X12_areBalconies : GoodIn wsX12_greeted wsX12_areBalconies := goodIn_r _ [6, 7, 8, 5, 9] (by decide +kernel) (by decide +kernel)
set_option maxRecDepth 20000 in
theorem gX12_greeted_X12_areBalconies : GoodIn wsX12_greeted (va_wsS RX12 196 yX12_areBalconies wsX12_areBalconies) := goodIn_app (goodIn_of _ (by decide +kernel)) ggX12_greeted_X12_areBalconies
set_option maxRecDepth 20000 in
theorem ggX12_greeted_X4_countOf : GoodIn wsX12_greeted wsX4_countOf := goodIn_r _ [14, 15, 37, 38] (by decide +kernel) (by decide +kernel)
set_option maxRecDepth 20000 in
theorem gX12_greeted_X4_countOf : GoodIn wsX12_greeted (wsV RX12 203 RX4 yX4_countOf wsX4_countOf) := goodIn_app (goodIn_of _ (by decide +kernel)) ggX12_greeted_X4_countOf
theorem dX12_greeted_0 : decode cX12_greeted 0 = .ok (.iload_n 1, 1) := by decide +kernel
theorem dX12_greeted_1 : decode cX12_greeted 1 = .ok (.iload_n 2, 1) := by decide +kernel
theorem dX12_greeted_2 : decode cX12_greeted 2 = .ok (.invokestatic 196, 3) := by decide +kernel
theorem dX12_greeted_5 : decode cX12_greeted 5 = .ok (.ifCond .ne 5, 3) := by decide +kernel
theorem dX12_greeted_8 : decode cX12_greeted 8 = .ok (.iconst (-1), 1) := by decide +kernel
theorem dX12_greeted_9 : decode cX12_greeted 9 = .ok (.ireturn, 1) := by decide +kernel
theorem dX12_greeted_10 : decode cX12_greeted 10 = .ok (.aload_n 0, 1) := by decide +kernel
theorem dX12_greeted_11 : decode cX12_greeted 11 = .ok (.getfield 12, 3) := by decide +kernel
theorem dX12_greeted_14 : decode cX12_greeted 14 = .ok (.getfield 172, 3) := by decide +kernel
theorem dX12_greeted_17 : decode cX12_greeted 17 = .ok (.iload_n 1, 1) := by decide +kernel
theorem dX12_greeted_18 : decode cX12_greeted 18 = .ok (.iload_n 2, 1) := by decide +kernel
theorem dX12_greeted_19 : decode cX12_greeted 19 = .ok (.invokevirtual 203, 3) := by decide +kernel
theorem dX12_greeted_22 : decode cX12_greeted 22 = .ok (.ireturn, 1) := by decide +kernel
set_option maxRecDepth 20000 in
theorem ggX12_catOf_X9_walkFrom : GoodIn wsX12_catOf wsX9_walkFrom := goodIn_r _ [13, 14, 15, 16, 17, 18, 19, 20, 21, 12, 22, 23, 24, 25, 26, 27, 28, 29, 30, 31, 32, 33, 34, 35, 36, 37, 38, 39, 40, 41, 42, 43, 44, 45, 46, 47, 48, 49, 50, 51, 52, 78, 79, 64, 65, 66, 67, 68, 69, 70, 71, 72, 73, 80, 81, 82, 83, 84] (by decide +kernel) (by decide +kernel)
set_option maxRecDepth 20000 in
theorem gX12_catOf_X9_walkFrom : GoodIn wsX12_catOf (wsV RX12 219 RX9 yX9_walkFrom wsX9_walkFrom) := goodIn_app (goodIn_of _ (by decide +kernel)) ggX12_catOf_X9_walkFrom
theorem dX12_catOf_0 : decode cX12_catOf 0 = .ok (.iload_n 1, 1) := by decide +kernel
theorem dX12_catOf_1 : decode cX12_catOf 1 = .ok (.ifCond .lt 17, 3) := by decide +kernel
theorem dX12_catOf_4 : decode cX12_catOf 4 = .ok (.iload_n 1, 1) := by decide +kernel
theorem dX12_catOf_5 : decode cX12_catOf 5 = .ok (.aload_n 0, 1) := by decide +kernel
theorem dX12_catOf_6 : decode cX12_catOf 6 = .ok (.getfield 12, 3) := by decide +kernel
theorem dX12_catOf_9 : decode cX12_catOf 9 = .ok (.getfield 157, 3) := by decide +kernel
theorem dX12_catOf_12 : decode cX12_catOf 12 = .ok (.getfield 207, 3) := by decide +kernel
theorem dX12_catOf_15 : decode cX12_catOf 15 = .ok (.if_icmp .lt 5, 3) := by decide +kernel
theorem dX12_catOf_18 : decode cX12_catOf 18 = .ok (.iconst (-1), 1) := by decide +kernel
theorem dX12_catOf_19 : decode cX12_catOf 19 = .ok (.ireturn, 1) := by decide +kernel
theorem dX12_catOf_20 : decode cX12_catOf 20 = .ok (.iload_n 2, 1) := by decide +kernel
theorem dX12_catOf_21 : decode cX12_catOf 21 = .ok (.tableswitch 114 0 3 #[31, 44, 57, 70], 31) := by decide +kernel
theorem dX12_catOf_52 : decode cX12_catOf 52 = .ok (.aload_n 0, 1) := by decide +kernel
theorem dX12_catOf_53 : decode cX12_catOf 53 = .ok (.getfield 12, 3) := by decide +kernel
theorem dX12_catOf_56 : decode cX12_catOf 56 = .ok (.getfield 157, 3) := by decide +kernel
theorem dX12_catOf_59 : decode cX12_catOf 59 = .ok (.getfield 210, 3) := by decide +kernel
theorem dX12_catOf_62 : decode cX12_catOf 62 = .ok (.iload_n 1, 1) := by decide +kernel
theorem dX12_catOf_63 : decode cX12_catOf 63 = .ok (.iaload, 1) := by decide +kernel
theorem dX12_catOf_64 : decode cX12_catOf 64 = .ok (.ireturn, 1) := by decide +kernel
theorem dX12_catOf_65 : decode cX12_catOf 65 = .ok (.aload_n 0, 1) := by decide +kernel
theorem dX12_catOf_66 : decode cX12_catOf 66 = .ok (.getfield 12, 3) := by decide +kernel
theorem dX12_catOf_69 : decode cX12_catOf 69 = .ok (.getfield 157, 3) := by decide +kernel
theorem dX12_catOf_72 : decode cX12_catOf 72 = .ok (.getfield 213, 3) := by decide +kernel
theorem dX12_catOf_75 : decode cX12_catOf 75 = .ok (.iload_n 1, 1) := by decide +kernel
theorem dX12_catOf_76 : decode cX12_catOf 76 = .ok (.iaload, 1) := by decide +kernel
theorem dX12_catOf_77 : decode cX12_catOf 77 = .ok (.ireturn, 1) := by decide +kernel
theorem dX12_catOf_78 : decode cX12_catOf 78 = .ok (.aload_n 0, 1) := by decide +kernel
theorem dX12_catOf_79 : decode cX12_catOf 79 = .ok (.getfield 12, 3) := by decide +kernel
theorem dX12_catOf_82 : decode cX12_catOf 82 = .ok (.getfield 157, 3) := by decide +kernel
theorem dX12_catOf_85 : decode cX12_catOf 85 = .ok (.getfield 216, 3) := by decide +kernel
theorem dX12_catOf_88 : decode cX12_catOf 88 = .ok (.iload_n 1, 1) := by decide +kernel
theorem dX12_catOf_89 : decode cX12_catOf 89 = .ok (.iaload, 1) := by decide +kernel
theorem dX12_catOf_90 : decode cX12_catOf 90 = .ok (.ireturn, 1) := by decide +kernel
theorem dX12_catOf_91 : decode cX12_catOf 91 = .ok (.aload_n 0, 1) := by decide +kernel
theorem dX12_catOf_92 : decode cX12_catOf 92 = .ok (.getfield 50, 3) := by decide +kernel
theorem dX12_catOf_95 : decode cX12_catOf 95 = .ok (.aload_n 0, 1) := by decide +kernel
theorem dX12_catOf_96 : decode cX12_catOf 96 = .ok (.getfield 12, 3) := by decide +kernel
theorem dX12_catOf_99 : decode cX12_catOf 99 = .ok (.aload_n 0, 1) := by decide +kernel
theorem dX12_catOf_100 : decode cX12_catOf 100 = .ok (.getfield 12, 3) := by decide +kernel
theorem dX12_catOf_103 : decode cX12_catOf 103 = .ok (.getfield 157, 3) := by decide +kernel
theorem dX12_catOf_106 : decode cX12_catOf 106 = .ok (.getfield 210, 3) := by decide +kernel
theorem dX12_catOf_109 : decode cX12_catOf 109 = .ok (.iload_n 1, 1) := by decide +kernel
theorem dX12_catOf_110 : decode cX12_catOf 110 = .ok (.iaload, 1) := by decide +kernel
theorem dX12_catOf_111 : decode cX12_catOf 111 = .ok (.invokevirtual 219, 3) := by decide +kernel
theorem dX12_catOf_114 : decode cX12_catOf 114 = .ok (.aload_n 0, 1) := by decide +kernel
theorem dX12_catOf_115 : decode cX12_catOf 115 = .ok (.getfield 50, 3) := by decide +kernel
theorem dX12_catOf_118 : decode cX12_catOf 118 = .ok (.getfield 223, 3) := by decide +kernel
theorem dX12_catOf_121 : decode cX12_catOf 121 = .ok (.aload_n 0, 1) := by decide +kernel
theorem dX12_catOf_122 : decode cX12_catOf 122 = .ok (.getfield 12, 3) := by decide +kernel
theorem dX12_catOf_125 : decode cX12_catOf 125 = .ok (.getfield 157, 3) := by decide +kernel
theorem dX12_catOf_128 : decode cX12_catOf 128 = .ok (.getfield 213, 3) := by decide +kernel
theorem dX12_catOf_131 : decode cX12_catOf 131 = .ok (.iload_n 1, 1) := by decide +kernel
theorem dX12_catOf_132 : decode cX12_catOf 132 = .ok (.iaload, 1) := by decide +kernel
theorem dX12_catOf_133 : decode cX12_catOf 133 = .ok (.iaload, 1) := by decide +kernel
theorem dX12_catOf_134 : decode cX12_catOf 134 = .ok (.ireturn, 1) := by decide +kernel
theorem dX12_catOf_135 : decode cX12_catOf 135 = .ok (.bipush (-2), 2) := by decide +kernel
theorem dX12_catOf_137 : decode cX12_catOf 137 = .ok (.ireturn, 1) := by decide +kernel
theorem dX12_lineOf_0 : decode cX12_lineOf 0 = .ok (.iload_n 1, 1) := by decide +kernel
theorem dX12_lineOf_1 : decode cX12_lineOf 1 = .ok (.ifCond .lt 17, 3) := by decide +kernel
theorem dX12_lineOf_4 : decode cX12_lineOf 4 = .ok (.iload_n 1, 1) := by decide +kernel
theorem dX12_lineOf_5 : decode cX12_lineOf 5 = .ok (.aload_n 0, 1) := by decide +kernel
theorem dX12_lineOf_6 : decode cX12_lineOf 6 = .ok (.getfield 12, 3) := by decide +kernel
theorem dX12_lineOf_9 : decode cX12_lineOf 9 = .ok (.getfield 184, 3) := by decide +kernel
theorem dX12_lineOf_12 : decode cX12_lineOf 12 = .ok (.getfield 226, 3) := by decide +kernel
theorem dX12_lineOf_15 : decode cX12_lineOf 15 = .ok (.if_icmp .lt 5, 3) := by decide +kernel
theorem dX12_lineOf_18 : decode cX12_lineOf 18 = .ok (.iconst (-1), 1) := by decide +kernel
theorem dX12_lineOf_19 : decode cX12_lineOf 19 = .ok (.ireturn, 1) := by decide +kernel
theorem dX12_lineOf_20 : decode cX12_lineOf 20 = .ok (.iload_n 2, 1) := by decide +kernel
theorem dX12_lineOf_21 : decode cX12_lineOf 21 = .ok (.tableswitch 66 0 2 #[27, 40, 53], 27) := by decide +kernel
theorem dX12_lineOf_48 : decode cX12_lineOf 48 = .ok (.aload_n 0, 1) := by decide +kernel
theorem dX12_lineOf_49 : decode cX12_lineOf 49 = .ok (.getfield 12, 3) := by decide +kernel
theorem dX12_lineOf_52 : decode cX12_lineOf 52 = .ok (.getfield 184, 3) := by decide +kernel
theorem dX12_lineOf_55 : decode cX12_lineOf 55 = .ok (.getfield 227, 3) := by decide +kernel
theorem dX12_lineOf_58 : decode cX12_lineOf 58 = .ok (.iload_n 1, 1) := by decide +kernel
theorem dX12_lineOf_59 : decode cX12_lineOf 59 = .ok (.iaload, 1) := by decide +kernel
theorem dX12_lineOf_60 : decode cX12_lineOf 60 = .ok (.ireturn, 1) := by decide +kernel
theorem dX12_lineOf_61 : decode cX12_lineOf 61 = .ok (.aload_n 0, 1) := by decide +kernel
theorem dX12_lineOf_62 : decode cX12_lineOf 62 = .ok (.getfield 12, 3) := by decide +kernel
theorem dX12_lineOf_65 : decode cX12_lineOf 65 = .ok (.getfield 184, 3) := by decide +kernel
theorem dX12_lineOf_68 : decode cX12_lineOf 68 = .ok (.getfield 230, 3) := by decide +kernel
theorem dX12_lineOf_71 : decode cX12_lineOf 71 = .ok (.iload_n 1, 1) := by decide +kernel
theorem dX12_lineOf_72 : decode cX12_lineOf 72 = .ok (.iaload, 1) := by decide +kernel
theorem dX12_lineOf_73 : decode cX12_lineOf 73 = .ok (.ireturn, 1) := by decide +kernel
theorem dX12_lineOf_74 : decode cX12_lineOf 74 = .ok (.aload_n 0, 1) := by decide +kernel
theorem dX12_lineOf_75 : decode cX12_lineOf 75 = .ok (.getfield 12, 3) := by decide +kernel
theorem dX12_lineOf_78 : decode cX12_lineOf 78 = .ok (.getfield 184, 3) := by decide +kernel
theorem dX12_lineOf_81 : decode cX12_lineOf 81 = .ok (.getfield 233, 3) := by decide +kernel
theorem dX12_lineOf_84 : decode cX12_lineOf 84 = .ok (.iload_n 1, 1) := by decide +kernel
theorem dX12_lineOf_85 : decode cX12_lineOf 85 = .ok (.iaload, 1) := by decide +kernel
theorem dX12_lineOf_86 : decode cX12_lineOf 86 = .ok (.ireturn, 1) := by decide +kernel
theorem dX12_lineOf_87 : decode cX12_lineOf 87 = .ok (.bipush (-2), 2) := by decide +kernel
theorem dX12_lineOf_89 : decode cX12_lineOf 89 = .ok (.ireturn, 1) := by decide +kernel
set_option maxRecDepth 20000 in
theorem ggX12_feuds_X3_byPairs : GoodIn wsX12_feuds wsX3_byPairs := goodIn_r _ [5, 6, 7, 8, 9, 10, 11, 12, 13, 14, 15, 16, 17, 18, 19, 20, 21, 22, 23, 24, 25, 26, 27, 28, 40, 41, 42, 43, 44, 45, 46, 47, 48, 49, 50, 51, 52, 53, 54] (by decide +kernel) (by decide +kernel)
set_option maxRecDepth 20000 in
theorem gX12_feuds_X3_byPairs : GoodIn wsX12_feuds (va_wsS RX12 236 yX3_byPairs wsX3_byPairs) := goodIn_app (goodIn_of _ (by decide +kernel)) ggX12_feuds_X3_byPairs
theorem dX12_feuds_0 : decode cX12_feuds 0 = .ok (.aload_n 0, 1) := by decide +kernel
theorem dX12_feuds_1 : decode cX12_feuds 1 = .ok (.getfield 12, 3) := by decide +kernel
theorem dX12_feuds_4 : decode cX12_feuds 4 = .ok (.invokestatic 236, 3) := by decide +kernel
theorem dX12_feuds_7 : decode cX12_feuds 7 = .ok (.ireturn, 1) := by decide +kernel
set_option maxRecDepth 20000 in
theorem ggX12_feudsAgain_X3_byColumns : GoodIn wsX12_feudsAgain wsX3_byColumns := goodIn_r _ [5, 6, 7, 8, 4, 9, 10, 11, 12, 13, 14, 15, 16, 17, 29, 30, 31, 32, 33, 34, 35, 36, 37, 38, 39, 40, 41, 42, 43] (by decide +kernel) (by decide +kernel)
set_option maxRecDepth 20000 in
theorem gX12_feudsAgain_X3_byColumns : GoodIn wsX12_feudsAgain (va_wsS RX12 240 yX3_byColumns wsX3_byColumns) := goodIn_app (goodIn_of _ (by decide +kernel)) ggX12_feudsAgain_X3_byColumns
theorem dX12_feudsAgain_0 : decode cX12_feudsAgain 0 = .ok (.aload_n 0, 1) := by decide +kernel
theorem dX12_feudsAgain_1 : decode cX12_feudsAgain 1 = .ok (.getfield 12, 3) := by decide +kernel
theorem dX12_feudsAgain_4 : decode cX12_feudsAgain 4 = .ok (.invokestatic 240, 3) := by decide +kernel
theorem dX12_feudsAgain_7 : decode cX12_feudsAgain 7 = .ok (.ireturn, 1) := by decide +kernel
set_option maxRecDepth 20000 in
theorem ggX12_excess_X3_excessByTolerance : GoodIn wsX12_excess wsX3_excessByTolerance := goodIn_r _ [5, 6, 7, 8, 9, 10, 11, 12, 4, 13, 14, 15, 16, 17, 18, 19, 20, 21, 22, 23, 24, 25, 26, 38, 39, 40, 41, 42, 43, 44, 45, 46, 47, 48, 49, 50, 51, 52] (by decide +kernel) (by decide +kernel)
set_option maxRecDepth 20000 in
theorem gX12_excess_X3_excessByTolerance : GoodIn wsX12_excess (va_wsS RX12 243 yX3_excessByTolerance wsX3_excessByTolerance) := goodIn_app (goodIn_of _ (by decide +kernel)) ggX12_excess_X3_excessByTolerance
theorem dX12_excess_0 : decode cX12_excess 0 = .ok (.aload_n 0, 1) := by decide +kernel
theorem dX12_excess_1 : decode cX12_excess 1 = .ok (.getfield 12, 3) := by decide +kernel
theorem dX12_excess_4 : decode cX12_excess 4 = .ok (.invokestatic 243, 3) := by decide +kernel
theorem dX12_excess_7 : decode cX12_excess 7 = .ok (.ireturn, 1) := by decide +kernel
set_option maxRecDepth 20000 in
theorem ggX12_excessAgain_X6_take : GoodIn wsX12_excessAgain wsX6_take := goodIn_r _ [7, 8, 9, 10, 11, 12, 13, 14, 15, 16, 17, 18, 19, 20, 21, 22, 23, 24, 25, 26, 27, 28, 29, 30, 31, 32, 33, 34, 35, 36, 37, 38, 39, 40, 41, 42, 43, 44, 45, 46, 47, 48, 49, 84, 85, 86, 87, 88, 89, 90, 91, 92, 93, 94, 95, 96, 97, 98, 99, 100, 101, 102, 103, 104] (by decide +kernel) (by decide +kernel)
set_option maxRecDepth 20000 in
theorem gX12_excessAgain_X6_take : GoodIn wsX12_excessAgain (wsV RX12 86 RX6 yX6_take wsX6_take) := goodIn_app (goodIn_of _ (by decide +kernel)) ggX12_excessAgain_X6_take
set_option maxRecDepth 20000 in
theorem ggX12_excessAgain_X3_takeExcess : GoodIn wsX12_excessAgain wsX3_takeExcess := goodIn_r _ [53, 54, 55, 56, 52, 57, 58, 59, 60, 6, 61, 62, 63, 64, 65, 66, 67, 68, 8, 13, 14, 69, 70, 71, 24, 72, 30, 26, 28, 84, 85, 86, 87, 88, 89, 90, 91, 92, 93, 94, 95, 96, 97, 98] (by decide +kernel) (by decide +kernel)
set_option maxRecDepth 20000 in
theorem gX12_excessAgain_X3_takeExcess : GoodIn wsX12_excessAgain (va_wsS RX12 246 yX3_takeExcess wsX3_takeExcess) := goodIn_app (goodIn_of _ (by decide +kernel)) ggX12_excessAgain_X3_takeExcess
theorem dX12_excessAgain_0 : decode cX12_excessAgain 0 = .ok (.aload_n 0, 1) := by decide +kernel
theorem dX12_excessAgain_1 : decode cX12_excessAgain 1 = .ok (.getfield 16, 3) := by decide +kernel
theorem dX12_excessAgain_4 : decode cX12_excessAgain 4 = .ok (.aload_n 0, 1) := by decide +kernel
theorem dX12_excessAgain_5 : decode cX12_excessAgain 5 = .ok (.getfield 12, 3) := by decide +kernel
theorem dX12_excessAgain_8 : decode cX12_excessAgain 8 = .ok (.invokevirtual 86, 3) := by decide +kernel
theorem dX12_excessAgain_11 : decode cX12_excessAgain 11 = .ok (.aload_n 0, 1) := by decide +kernel
theorem dX12_excessAgain_12 : decode cX12_excessAgain 12 = .ok (.getfield 16, 3) := by decide +kernel
theorem dX12_excessAgain_15 : decode cX12_excessAgain 15 = .ok (.invokestatic 246, 3) := by decide +kernel
theorem dX12_excessAgain_18 : decode cX12_excessAgain 18 = .ok (.ireturn, 1) := by decide +kernel
set_option maxRecDepth 20000 in
theorem ggX12_census_X4_sumGiven : GoodIn wsX12_census wsX4_sumGiven := goodIn_r _ [7, 8, 9, 10, 6, 11, 12, 13, 14, 15, 16, 38, 39] (by decide +kernel) (by decide +kernel)
set_option maxRecDepth 20000 in
theorem gX12_census_X4_sumGiven : GoodIn wsX12_census (wsV RX12 249 RX4 yX4_sumGiven wsX4_sumGiven) := goodIn_app (goodIn_of _ (by decide +kernel)) ggX12_census_X4_sumGiven
theorem dX12_census_0 : decode cX12_census 0 = .ok (.aload_n 0, 1) := by decide +kernel
theorem dX12_census_1 : decode cX12_census 1 = .ok (.getfield 12, 3) := by decide +kernel
theorem dX12_census_4 : decode cX12_census 4 = .ok (.getfield 172, 3) := by decide +kernel
theorem dX12_census_7 : decode cX12_census 7 = .ok (.invokevirtual 249, 3) := by decide +kernel
theorem dX12_census_10 : decode cX12_census 10 = .ok (.ireturn, 1) := by decide +kernel
set_option maxRecDepth 20000 in
theorem ggX12_censusAgain_X4_sumGot : GoodIn wsX12_censusAgain wsX4_sumGot := goodIn_r _ [7, 8, 9, 10, 6, 11, 12, 13, 14, 15, 16, 38, 39] (by decide +kernel) (by decide +kernel)
set_option maxRecDepth 20000 in
theorem gX12_censusAgain_X4_sumGot : GoodIn wsX12_censusAgain (wsV RX12 252 RX4 yX4_sumGot wsX4_sumGot) := goodIn_app (goodIn_of _ (by decide +kernel)) ggX12_censusAgain_X4_sumGot
theorem dX12_censusAgain_0 : decode cX12_censusAgain 0 = .ok (.aload_n 0, 1) := by decide +kernel
theorem dX12_censusAgain_1 : decode cX12_censusAgain 1 = .ok (.getfield 12, 3) := by decide +kernel
theorem dX12_censusAgain_4 : decode cX12_censusAgain 4 = .ok (.getfield 172, 3) := by decide +kernel
theorem dX12_censusAgain_7 : decode cX12_censusAgain 7 = .ok (.invokevirtual 252, 3) := by decide +kernel
theorem dX12_censusAgain_10 : decode cX12_censusAgain 10 = .ok (.ireturn, 1) := by decide +kernel
set_option maxRecDepth 20000 in
theorem ggX12_steps_X12_areBalconies : GoodIn wsX12_steps wsX12_areBalconies := goodIn_r _ [7, 8, 9, 6, 10] (by decide +kernel) (by decide +kernel)
set_option maxRecDepth 20000 in
theorem gX12_steps_X12_areBalconies : GoodIn wsX12_steps (va_wsS RX12 196 yX12_areBalconies wsX12_areBalconies) := goodIn_app (goodIn_of _ (by decide +kernel)) ggX12_steps_X12_areBalconies
set_option maxRecDepth 20000 in
theorem ggX12_steps_X9_walkFrom : GoodIn wsX12_steps wsX9_walkFrom := goodIn_r _ [15, 16, 17, 18, 19, 20, 21, 22, 23, 14, 24, 25, 26, 27, 28, 29, 30, 31, 32, 33, 34, 35, 36, 37, 38, 39, 40, 41, 42, 43, 44, 45, 46, 47, 48, 49, 50, 51, 52, 53, 54, 66, 67, 68, 69, 70, 71, 72, 73, 74, 75, 76, 77, 78, 79, 80, 81, 82] (by decide +kernel) (by decide +kernel)
set_option maxRecDepth 20000 in
theorem gX12_steps_X9_walkFrom : GoodIn wsX12_steps (wsV RX12 219 RX9 yX9_walkFrom wsX9_walkFrom) := goodIn_app (goodIn_of _ (by decide +kernel)) ggX12_steps_X9_walkFrom
theorem dX12_steps_0 : decode cX12_steps 0 = .ok (.iload_n 1, 1) := by decide +kernel
theorem dX12_steps_1 : decode cX12_steps 1 = .ok (.iload_n 2, 1) := by decide +kernel
theorem dX12_steps_2 : decode cX12_steps 2 = .ok (.invokestatic 196, 3) := by decide +kernel
theorem dX12_steps_5 : decode cX12_steps 5 = .ok (.ifCond .ne 5, 3) := by decide +kernel
theorem dX12_steps_8 : decode cX12_steps 8 = .ok (.iconst (-1), 1) := by decide +kernel
theorem dX12_steps_9 : decode cX12_steps 9 = .ok (.ireturn, 1) := by decide +kernel
theorem dX12_steps_10 : decode cX12_steps 10 = .ok (.aload_n 0, 1) := by decide +kernel
theorem dX12_steps_11 : decode cX12_steps 11 = .ok (.getfield 50, 3) := by decide +kernel
theorem dX12_steps_14 : decode cX12_steps 14 = .ok (.aload_n 0, 1) := by decide +kernel
theorem dX12_steps_15 : decode cX12_steps 15 = .ok (.getfield 12, 3) := by decide +kernel
theorem dX12_steps_18 : decode cX12_steps 18 = .ok (.iload_n 1, 1) := by decide +kernel
theorem dX12_steps_19 : decode cX12_steps 19 = .ok (.invokevirtual 219, 3) := by decide +kernel
theorem dX12_steps_22 : decode cX12_steps 22 = .ok (.aload_n 0, 1) := by decide +kernel
theorem dX12_steps_23 : decode cX12_steps 23 = .ok (.getfield 50, 3) := by decide +kernel
theorem dX12_steps_26 : decode cX12_steps 26 = .ok (.getfield 223, 3) := by decide +kernel
theorem dX12_steps_29 : decode cX12_steps 29 = .ok (.iload_n 2, 1) := by decide +kernel
theorem dX12_steps_30 : decode cX12_steps 30 = .ok (.iaload, 1) := by decide +kernel
theorem dX12_steps_31 : decode cX12_steps 31 = .ok (.ireturn, 1) := by decide +kernel
set_option maxRecDepth 20000 in
theorem ggX12_stepsAgain_X12_areBalconies : GoodIn wsX12_stepsAgain wsX12_areBalconies := goodIn_r _ [7, 8, 9, 6, 10] (by decide +kernel) (by decide +kernel)
set_option maxRecDepth 20000 in
theorem gX12_stepsAgain_X12_areBalconies : GoodIn wsX12_stepsAgain (va_wsS RX12 196 yX12_areBalconies wsX12_areBalconies) := goodIn_app (goodIn_of _ (by decide +kernel)) ggX12_stepsAgain_X12_areBalconies
set_option maxRecDepth 20000 in
theorem ggX12_stepsAgain_X9_lessenFrom : GoodIn wsX12_stepsAgain wsX9_lessenFrom := goodIn_r _ [15, 16, 17, 18, 19, 20, 21, 22, 23, 14, 24, 25, 26, 27, 28, 29, 30, 31, 32, 33, 34, 35, 36, 37, 38, 39, 40, 41, 42, 43, 44, 45, 46, 47, 48, 49, 50, 51, 52, 53, 54, 66, 67, 68, 69, 70, 71, 72, 73, 74, 75, 76, 77, 78, 79, 80, 81, 82] (by decide +kernel) (by decide +kernel)
set_option maxRecDepth 20000 in
theorem gX12_stepsAgain_X9_lessenFrom : GoodIn wsX12_stepsAgain (wsV RX12 255 RX9 yX9_lessenFrom wsX9_lessenFrom) := goodIn_app (goodIn_of _ (by decide +kernel)) ggX12_stepsAgain_X9_lessenFrom
theorem dX12_stepsAgain_0 : decode cX12_stepsAgain 0 = .ok (.iload_n 1, 1) := by decide +kernel
theorem dX12_stepsAgain_1 : decode cX12_stepsAgain 1 = .ok (.iload_n 2, 1) := by decide +kernel
theorem dX12_stepsAgain_2 : decode cX12_stepsAgain 2 = .ok (.invokestatic 196, 3) := by decide +kernel
theorem dX12_stepsAgain_5 : decode cX12_stepsAgain 5 = .ok (.ifCond .ne 5, 3) := by decide +kernel
theorem dX12_stepsAgain_8 : decode cX12_stepsAgain 8 = .ok (.iconst (-1), 1) := by decide +kernel
theorem dX12_stepsAgain_9 : decode cX12_stepsAgain 9 = .ok (.ireturn, 1) := by decide +kernel
theorem dX12_stepsAgain_10 : decode cX12_stepsAgain 10 = .ok (.aload_n 0, 1) := by decide +kernel
theorem dX12_stepsAgain_11 : decode cX12_stepsAgain 11 = .ok (.getfield 50, 3) := by decide +kernel
theorem dX12_stepsAgain_14 : decode cX12_stepsAgain 14 = .ok (.aload_n 0, 1) := by decide +kernel
theorem dX12_stepsAgain_15 : decode cX12_stepsAgain 15 = .ok (.getfield 12, 3) := by decide +kernel
theorem dX12_stepsAgain_18 : decode cX12_stepsAgain 18 = .ok (.iload_n 1, 1) := by decide +kernel
theorem dX12_stepsAgain_19 : decode cX12_stepsAgain 19 = .ok (.invokevirtual 255, 3) := by decide +kernel
theorem dX12_stepsAgain_22 : decode cX12_stepsAgain 22 = .ok (.aload_n 0, 1) := by decide +kernel
theorem dX12_stepsAgain_23 : decode cX12_stepsAgain 23 = .ok (.getfield 50, 3) := by decide +kernel
theorem dX12_stepsAgain_26 : decode cX12_stepsAgain 26 = .ok (.getfield 258, 3) := by decide +kernel
theorem dX12_stepsAgain_29 : decode cX12_stepsAgain 29 = .ok (.iload_n 2, 1) := by decide +kernel
theorem dX12_stepsAgain_30 : decode cX12_stepsAgain 30 = .ok (.iaload, 1) := by decide +kernel
theorem dX12_stepsAgain_31 : decode cX12_stepsAgain 31 = .ok (.ireturn, 1) := by decide +kernel
set_option maxRecDepth 20000 in
theorem ggX12_way_X12_areBalconies : GoodIn wsX12_way wsX12_areBalconies := goodIn_r _ [6, 7, 8, 5, 9] (by decide +kernel) (by decide +kernel)
set_option maxRecDepth 20000 in
theorem gX12_way_X12_areBalconies : GoodIn wsX12_way (va_wsS RX12 196 yX12_areBalconies wsX12_areBalconies) := goodIn_app (goodIn_of _ (by decide +kernel)) ggX12_way_X12_areBalconies
set_option maxRecDepth 20000 in
theorem ggX12_way_X9_placeOnWay : GoodIn wsX12_way wsX9_placeOnWay := goodIn_r _ [14, 15, 16, 17, 18, 13, 19, 20, 21, 22, 23, 24, 25, 26, 27, 28, 29, 30, 31, 32, 33, 34, 35, 36, 37, 38, 39, 40, 41, 42, 43, 44, 45, 46, 47, 48, 49, 50, 51, 52, 53, 54, 55, 56, 57, 58, 59, 60, 61, 73, 74, 75, 76, 77, 78, 79, 80, 81, 82, 83, 84, 85, 86, 87, 88, 89] (by decide +kernel) (by decide +kernel)
set_option maxRecDepth 20000 in
theorem gX12_way_X9_placeOnWay : GoodIn wsX12_way (wsV RX12 261 RX9 yX9_placeOnWay wsX9_placeOnWay) := goodIn_app (goodIn_of _ (by decide +kernel)) ggX12_way_X9_placeOnWay
theorem dX12_way_0 : decode cX12_way 0 = .ok (.iload_n 1, 1) := by decide +kernel
theorem dX12_way_1 : decode cX12_way 1 = .ok (.iload_n 2, 1) := by decide +kernel
theorem dX12_way_2 : decode cX12_way 2 = .ok (.invokestatic 196, 3) := by decide +kernel
theorem dX12_way_5 : decode cX12_way 5 = .ok (.ifCond .ne 5, 3) := by decide +kernel
theorem dX12_way_8 : decode cX12_way 8 = .ok (.iconst (-1), 1) := by decide +kernel
theorem dX12_way_9 : decode cX12_way 9 = .ok (.ireturn, 1) := by decide +kernel
theorem dX12_way_10 : decode cX12_way 10 = .ok (.aload_n 0, 1) := by decide +kernel
theorem dX12_way_11 : decode cX12_way 11 = .ok (.getfield 50, 3) := by decide +kernel
theorem dX12_way_14 : decode cX12_way 14 = .ok (.aload_n 0, 1) := by decide +kernel
theorem dX12_way_15 : decode cX12_way 15 = .ok (.getfield 12, 3) := by decide +kernel
theorem dX12_way_18 : decode cX12_way 18 = .ok (.iload_n 1, 1) := by decide +kernel
theorem dX12_way_19 : decode cX12_way 19 = .ok (.iload_n 2, 1) := by decide +kernel
theorem dX12_way_20 : decode cX12_way 20 = .ok (.iload_n 3, 1) := by decide +kernel
theorem dX12_way_21 : decode cX12_way 21 = .ok (.invokevirtual 261, 3) := by decide +kernel
theorem dX12_way_24 : decode cX12_way 24 = .ok (.ireturn, 1) := by decide +kernel
set_option maxRecDepth 20000 in
theorem ggX12_circles_X4_countCircles : GoodIn wsX12_circles wsX4_countCircles := goodIn_r _ [7, 8, 9, 10, 6, 11, 12, 13, 14, 15, 16, 17, 18, 19, 20, 21, 22, 23, 24, 46, 47] (by decide +kernel) (by decide +kernel)
set_option maxRecDepth 20000 in
theorem gX12_circles_X4_countCircles : GoodIn wsX12_circles (wsV RX12 265 RX4 yX4_countCircles wsX4_countCircles) := goodIn_app (goodIn_of _ (by decide +kernel)) ggX12_circles_X4_countCircles
theorem dX12_circles_0 : decode cX12_circles 0 = .ok (.aload_n 0, 1) := by decide +kernel
theorem dX12_circles_1 : decode cX12_circles 1 = .ok (.getfield 12, 3) := by decide +kernel
theorem dX12_circles_4 : decode cX12_circles 4 = .ok (.getfield 172, 3) := by decide +kernel
theorem dX12_circles_7 : decode cX12_circles 7 = .ok (.invokevirtual 265, 3) := by decide +kernel
theorem dX12_circles_10 : decode cX12_circles 10 = .ok (.ireturn, 1) := by decide +kernel
set_option maxRecDepth 20000 in
theorem ggX12_wouldGrow_X6_take : GoodIn wsX12_wouldGrow wsX6_take := goodIn_r _ [7, 8, 9, 10, 11, 12, 13, 14, 15, 16, 17, 18, 19, 20, 21, 22, 23, 24, 25, 26, 27, 28, 29, 30, 31, 32, 33, 34, 35, 36, 37, 38, 39, 40, 41, 42, 43, 44, 45, 46, 47, 48, 49, 85, 86, 87, 88, 89, 90, 91, 92, 93, 94, 95, 96, 97, 98, 99, 100, 101, 102, 103, 104, 105] (by decide +kernel) (by decide +kernel)
set_option maxRecDepth 20000 in
theorem gX12_wouldGrow_X6_take : GoodIn wsX12_wouldGrow (wsV RX12 86 RX6 yX6_take wsX6_take) := goodIn_app (goodIn_of _ (by decide +kernel)) ggX12_wouldGrow_X6_take
set_option maxRecDepth 20000 in
theorem ggX12_wouldGrow_X6_endDay : GoodIn wsX12_wouldGrow wsX6_endDay := goodIn_r _ [53, 8, 54, 9, 10, 11, 12, 20, 14, 15, 17, 55, 56, 6, 57, 58, 59, 60, 24, 61, 30, 29, 26, 28, 62, 63, 64, 35, 65, 39, 66, 67, 68, 69, 85, 86, 87, 88, 89, 90, 91, 92, 93, 94, 95, 96, 97, 98, 99, 100, 101] (by decide +kernel) (by decide +kernel)
set_option maxRecDepth 20000 in
theorem gX12_wouldGrow_X6_endDay : GoodIn wsX12_wouldGrow (wsV RX12 118 RX6 yX6_endDay wsX6_endDay) := goodIn_app (goodIn_of _ (by decide +kernel)) ggX12_wouldGrow_X6_endDay
set_option maxRecDepth 20000 in
theorem ggX12_wouldGrow_X6_plantSum : GoodIn wsX12_wouldGrow wsX6_plantSum := goodIn_r _ [73, 8, 85, 86, 87, 88, 89, 90, 91, 92, 93, 94] (by decide +kernel) (by decide +kernel)
set_option maxRecDepth 20000 in
theorem gX12_wouldGrow_X6_plantSum : GoodIn wsX12_wouldGrow (wsV RX12 72 RX6 yX6_plantSum wsX6_plantSum) := goodIn_app (goodIn_of _ (by decide +kernel)) ggX12_wouldGrow_X6_plantSum
theorem dX12_wouldGrow_0 : decode cX12_wouldGrow 0 = .ok (.iload_n 1, 1) := by decide +kernel
theorem dX12_wouldGrow_1 : decode cX12_wouldGrow 1 = .ok (.ifCond .lt 9, 3) := by decide +kernel
theorem dX12_wouldGrow_4 : decode cX12_wouldGrow 4 = .ok (.iload_n 1, 1) := by decide +kernel
theorem dX12_wouldGrow_5 : decode cX12_wouldGrow 5 = .ok (.bipush 20, 2) := by decide +kernel
theorem dX12_wouldGrow_7 : decode cX12_wouldGrow 7 = .ok (.if_icmp .le 6, 3) := by decide +kernel
theorem dX12_wouldGrow_10 : decode cX12_wouldGrow 10 = .ok (.bipush (-2), 2) := by decide +kernel
theorem dX12_wouldGrow_12 : decode cX12_wouldGrow 12 = .ok (.ireturn, 1) := by decide +kernel
theorem dX12_wouldGrow_13 : decode cX12_wouldGrow 13 = .ok (.aload_n 0, 1) := by decide +kernel
theorem dX12_wouldGrow_14 : decode cX12_wouldGrow 14 = .ok (.getfield 16, 3) := by decide +kernel
theorem dX12_wouldGrow_17 : decode cX12_wouldGrow 17 = .ok (.aload_n 0, 1) := by decide +kernel
theorem dX12_wouldGrow_18 : decode cX12_wouldGrow 18 = .ok (.getfield 12, 3) := by decide +kernel
theorem dX12_wouldGrow_21 : decode cX12_wouldGrow 21 = .ok (.invokevirtual 86, 3) := by decide +kernel
theorem dX12_wouldGrow_24 : decode cX12_wouldGrow 24 = .ok (.iconst 0, 1) := by decide +kernel
theorem dX12_wouldGrow_25 : decode cX12_wouldGrow 25 = .ok (.istore_n 2, 1) := by decide +kernel
theorem dX12_wouldGrow_26 : decode cX12_wouldGrow 26 = .ok (.iload_n 2, 1) := by decide +kernel
theorem dX12_wouldGrow_27 : decode cX12_wouldGrow 27 = .ok (.iload_n 1, 1) := by decide +kernel
theorem dX12_wouldGrow_28 : decode cX12_wouldGrow 28 = .ok (.if_icmp .ge 17, 3) := by decide +kernel
theorem dX12_wouldGrow_31 : decode cX12_wouldGrow 31 = .ok (.aload_n 0, 1) := by decide +kernel
theorem dX12_wouldGrow_32 : decode cX12_wouldGrow 32 = .ok (.getfield 16, 3) := by decide +kernel
theorem dX12_wouldGrow_35 : decode cX12_wouldGrow 35 = .ok (.invokevirtual 118, 3) := by decide +kernel
theorem dX12_wouldGrow_38 : decode cX12_wouldGrow 38 = .ok (.pop, 1) := by decide +kernel
theorem dX12_wouldGrow_39 : decode cX12_wouldGrow 39 = .ok (.iinc 2 1, 3) := by decide +kernel
theorem dX12_wouldGrow_42 : decode cX12_wouldGrow 42 = .ok (.goto (-16), 3) := by decide +kernel
theorem dX12_wouldGrow_45 : decode cX12_wouldGrow 45 = .ok (.aload_n 0, 1) := by decide +kernel
theorem dX12_wouldGrow_46 : decode cX12_wouldGrow 46 = .ok (.getfield 16, 3) := by decide +kernel
theorem dX12_wouldGrow_49 : decode cX12_wouldGrow 49 = .ok (.invokevirtual 72, 3) := by decide +kernel
theorem dX12_wouldGrow_52 : decode cX12_wouldGrow 52 = .ok (.ireturn, 1) := by decide +kernel
set_option maxRecDepth 20000 in
theorem ggX12_kindest_X4_givenBy : GoodIn wsX12_kindest wsX4_givenBy := goodIn_r _ [8, 9, 10, 11, 7, 12, 13, 58, 59] (by decide +kernel) (by decide +kernel)
set_option maxRecDepth 20000 in
theorem gX12_kindest_X4_givenBy : GoodIn wsX12_kindest (wsV RX12 176 RX4 yX4_givenBy wsX4_givenBy) := goodIn_app (goodIn_of _ (by decide +kernel)) ggX12_kindest_X4_givenBy
set_option maxRecDepth 20000 in
theorem ggX12_kindest_X4_gotBy : GoodIn wsX12_kindest wsX4_gotBy := goodIn_r _ [17, 9, 10, 11, 7, 12, 13, 58, 59] (by decide +kernel) (by decide +kernel)
set_option maxRecDepth 20000 in
theorem gX12_kindest_X4_gotBy : GoodIn wsX12_kindest (wsV RX12 181 RX4 yX4_gotBy wsX4_gotBy) := goodIn_app (goodIn_of _ (by decide +kernel)) ggX12_kindest_X4_gotBy
set_option maxRecDepth 20000 in
theorem ggX12_kindest_X8_setKeys : GoodIn wsX12_kindest wsX8_setKeys := goodIn_r _ [22, 23, 24, 60, 61] (by decide +kernel) (by decide +kernel)
set_option maxRecDepth 20000 in
theorem gX12_kindest_X8_setKeys : GoodIn wsX12_kindest (wsV RX12 268 RX8 yX8_setKeys wsX8_setKeys) := goodIn_app (goodIn_of _ (by decide +kernel)) ggX12_kindest_X8_setKeys
set_option maxRecDepth 20000 in
theorem ggX12_kindest_X8_balconyAt : GoodIn wsX12_kindest wsX8_balconyAt := goodIn_r _ [28, 29, 30, 31, 21, 32, 33, 34, 35, 36, 23, 24, 60, 61] (by decide +kernel) (by decide +kernel)
set_option maxRecDepth 20000 in
theorem gX12_kindest_X8_balconyAt : GoodIn wsX12_kindest (wsV RX12 272 RX8 yX8_balconyAt wsX8_balconyAt) := goodIn_app (goodIn_of _ (by decide +kernel)) ggX12_kindest_X8_balconyAt
theorem dX12_kindest_0 : decode cX12_kindest 0 = .ok (.iconst 0, 1) := by decide +kernel
theorem dX12_kindest_1 : decode cX12_kindest 1 = .ok (.istore_n 2, 1) := by decide +kernel
theorem dX12_kindest_2 : decode cX12_kindest 2 = .ok (.iload_n 2, 1) := by decide +kernel
theorem dX12_kindest_3 : decode cX12_kindest 3 = .ok (.bipush 12, 2) := by decide +kernel
theorem dX12_kindest_5 : decode cX12_kindest 5 = .ok (.if_icmp .ge 39, 3) := by decide +kernel
theorem dX12_kindest_8 : decode cX12_kindest 8 = .ok (.aload_n 0, 1) := by decide +kernel
theorem dX12_kindest_9 : decode cX12_kindest 9 = .ok (.getfield 57, 3) := by decide +kernel
theorem dX12_kindest_12 : decode cX12_kindest 12 = .ok (.iload_n 2, 1) := by decide +kernel
theorem dX12_kindest_13 : decode cX12_kindest 13 = .ok (.aload_n 0, 1) := by decide +kernel
theorem dX12_kindest_14 : decode cX12_kindest 14 = .ok (.getfield 12, 3) := by decide +kernel
theorem dX12_kindest_17 : decode cX12_kindest 17 = .ok (.getfield 172, 3) := by decide +kernel
theorem dX12_kindest_20 : decode cX12_kindest 20 = .ok (.iload_n 2, 1) := by decide +kernel
theorem dX12_kindest_21 : decode cX12_kindest 21 = .ok (.invokevirtual 176, 3) := by decide +kernel
theorem dX12_kindest_24 : decode cX12_kindest 24 = .ok (.aload_n 0, 1) := by decide +kernel
theorem dX12_kindest_25 : decode cX12_kindest 25 = .ok (.getfield 12, 3) := by decide +kernel
theorem dX12_kindest_28 : decode cX12_kindest 28 = .ok (.getfield 172, 3) := by decide +kernel
theorem dX12_kindest_31 : decode cX12_kindest 31 = .ok (.iload_n 2, 1) := by decide +kernel
theorem dX12_kindest_32 : decode cX12_kindest 32 = .ok (.invokevirtual 181, 3) := by decide +kernel
theorem dX12_kindest_35 : decode cX12_kindest 35 = .ok (.invokevirtual 268, 3) := by decide +kernel
theorem dX12_kindest_38 : decode cX12_kindest 38 = .ok (.iinc 2 1, 3) := by decide +kernel
theorem dX12_kindest_41 : decode cX12_kindest 41 = .ok (.goto (-39), 3) := by decide +kernel
theorem dX12_kindest_44 : decode cX12_kindest 44 = .ok (.aload_n 0, 1) := by decide +kernel
theorem dX12_kindest_45 : decode cX12_kindest 45 = .ok (.getfield 57, 3) := by decide +kernel
theorem dX12_kindest_48 : decode cX12_kindest 48 = .ok (.iload_n 1, 1) := by decide +kernel
theorem dX12_kindest_49 : decode cX12_kindest 49 = .ok (.invokevirtual 272, 3) := by decide +kernel
theorem dX12_kindest_52 : decode cX12_kindest 52 = .ok (.ireturn, 1) := by decide +kernel
set_option maxRecDepth 20000 in
theorem ggX12_worst_X3_ofBalcony : GoodIn wsX12_worst wsX3_ofBalcony := goodIn_r _ [7, 8, 9, 10, 11, 12, 13, 14, 15, 16, 17, 18, 19, 20, 21, 22, 23, 24, 25, 26, 27, 28, 29, 30, 61, 62, 63, 64, 65, 66, 67, 68, 69, 70, 71, 72, 73, 74, 75] (by decide +kernel) (by decide +kernel)
set_option maxRecDepth 20000 in
theorem gX12_worst_X3_ofBalcony : GoodIn wsX12_worst (va_wsS RX12 166 yX3_ofBalcony wsX3_ofBalcony) := goodIn_app (goodIn_of _ (by decide +kernel)) ggX12_worst_X3_ofBalcony
set_option maxRecDepth 20000 in
theorem ggX12_worst_X8_setKeys : GoodIn wsX12_worst wsX8_setKeys := goodIn_r _ [35, 36, 37, 76, 77] (by decide +kernel) (by decide +kernel)
set_option maxRecDepth 20000 in
theorem gX12_worst_X8_setKeys : GoodIn wsX12_worst (wsV RX12 268 RX8 yX8_setKeys wsX8_setKeys) := goodIn_app (goodIn_of _ (by decide +kernel)) ggX12_worst_X8_setKeys
set_option maxRecDepth 20000 in
theorem ggX12_worst_X8_balconyAt : GoodIn wsX12_worst wsX8_balconyAt := goodIn_r _ [41, 42, 43, 44, 34, 45, 46, 47, 48, 49, 36, 37, 76, 77] (by decide +kernel) (by decide +kernel)
set_option maxRecDepth 20000 in
theorem gX12_worst_X8_balconyAt : GoodIn wsX12_worst (wsV RX12 272 RX8 yX8_balconyAt wsX8_balconyAt) := goodIn_app (goodIn_of _ (by decide +kernel)) ggX12_worst_X8_balconyAt
theorem dX12_worst_0 : decode cX12_worst 0 = .ok (.iconst 0, 1) := by decide +kernel
theorem dX12_worst_1 : decode cX12_worst 1 = .ok (.istore_n 2, 1) := by decide +kernel
theorem dX12_worst_2 : decode cX12_worst 2 = .ok (.iload_n 2, 1) := by decide +kernel
theorem dX12_worst_3 : decode cX12_worst 3 = .ok (.bipush 12, 2) := by decide +kernel
theorem dX12_worst_5 : decode cX12_worst 5 = .ok (.if_icmp .ge 34, 3) := by decide +kernel
theorem dX12_worst_8 : decode cX12_worst 8 = .ok (.aload_n 0, 1) := by decide +kernel
theorem dX12_worst_9 : decode cX12_worst 9 = .ok (.getfield 57, 3) := by decide +kernel
theorem dX12_worst_12 : decode cX12_worst 12 = .ok (.iload_n 2, 1) := by decide +kernel
theorem dX12_worst_13 : decode cX12_worst 13 = .ok (.aload_n 0, 1) := by decide +kernel
theorem dX12_worst_14 : decode cX12_worst 14 = .ok (.getfield 12, 3) := by decide +kernel
theorem dX12_worst_17 : decode cX12_worst 17 = .ok (.iload_n 2, 1) := by decide +kernel
theorem dX12_worst_18 : decode cX12_worst 18 = .ok (.invokestatic 166, 3) := by decide +kernel
theorem dX12_worst_21 : decode cX12_worst 21 = .ok (.aload_n 0, 1) := by decide +kernel
theorem dX12_worst_22 : decode cX12_worst 22 = .ok (.getfield 12, 3) := by decide +kernel
theorem dX12_worst_25 : decode cX12_worst 25 = .ok (.getfield 150, 3) := by decide +kernel
theorem dX12_worst_28 : decode cX12_worst 28 = .ok (.iload_n 2, 1) := by decide +kernel
theorem dX12_worst_29 : decode cX12_worst 29 = .ok (.iaload, 1) := by decide +kernel
theorem dX12_worst_30 : decode cX12_worst 30 = .ok (.invokevirtual 268, 3) := by decide +kernel
theorem dX12_worst_33 : decode cX12_worst 33 = .ok (.iinc 2 1, 3) := by decide +kernel
theorem dX12_worst_36 : decode cX12_worst 36 = .ok (.goto (-34), 3) := by decide +kernel
theorem dX12_worst_39 : decode cX12_worst 39 = .ok (.aload_n 0, 1) := by decide +kernel
theorem dX12_worst_40 : decode cX12_worst 40 = .ok (.getfield 57, 3) := by decide +kernel
theorem dX12_worst_43 : decode cX12_worst 43 = .ok (.iload_n 1, 1) := by decide +kernel
theorem dX12_worst_44 : decode cX12_worst 44 = .ok (.invokevirtual 272, 3) := by decide +kernel
theorem dX12_worst_47 : decode cX12_worst 47 = .ok (.ireturn, 1) := by decide +kernel
set_option maxRecDepth 20000 in
theorem ggX12_write_J4_setLength_d00df : GoodIn wsX12_write wsJ4_setLength_d00df := goodIn_r _ [6, 7, 8, 9, 10, 11, 12, 13, 14, 15, 16, 17, 18, 19, 20, 21, 22, 23, 24, 25, 26, 27, 28, 29, 30, 31, 32, 33, 34, 35, 36, 37, 38, 39, 40, 41, 42, 43, 44, 45, 46, 47, 48, 49, 50, 51, 52, 53, 54, 55, 56, 57, 58, 59, 60, 61, 62, 63, 64, 65, 66, 67, 68, 69, 70, 71, 72, 73, 74, 75, 76, 77, 78, 231, 232, 233, 234] (by decide +kernel) (by decide +kernel)
set_option maxRecDepth 20000 in
theorem gX12_write_J4_setLength_d00df : GoodIn wsX12_write (wsV RX12 275 RJ4 yJ4_setLength_d00df wsJ4_setLength_d00df) := goodIn_app (goodIn_of _ (by decide +kernel)) ggX12_write_J4_setLength_d00df
set_option maxRecDepth 20000 in
theorem ggX12_write_J4_append_cf468 : GoodIn wsX12_write wsJ4_append_cf468 := goodIn_r _ [82, 83, 84, 9, 85, 11, 86, 13, 14, 16, 17, 18, 19, 20, 21, 22, 23, 24, 25, 26, 27, 28, 29, 30, 31, 32, 33, 34, 35, 36, 37, 38, 39, 40, 41, 42, 43, 44, 45, 46, 47, 48, 49, 50, 51, 52, 53, 54, 55, 56, 57, 58, 59, 60, 61, 62, 63, 87, 88, 66, 89, 90, 91, 92, 93, 94, 95, 96, 76, 97, 98, 99, 100, 101, 102, 103, 104, 105, 106, 107, 108, 109, 110, 111, 112, 113, 114, 115, 116, 117, 118, 119, 120, 121, 122, 123, 124, 125, 126, 127, 128, 129, 130, 131, 132, 133, 134, 135, 136, 137, 138, 139, 140, 231, 232, 233, 234] (by decide +kernel) (by decide +kernel)
set_option maxRecDepth 20000 in
theorem gX12_write_J4_append_cf468 : GoodIn wsX12_write (wsV RX12 279 RJ4 yJ4_append_cf468 wsJ4_append_cf468) := goodIn_app (goodIn_of _ (by decide +kernel)) ggX12_write_J4_append_cf468
set_option maxRecDepth 20000 in
theorem ggX12_write_X12_writeBalcony : GoodIn wsX12_write wsX12_writeBalcony := goodIn_r _ [145, 1, 146, 147, 148, 149, 150, 151, 5, 152, 153, 154, 9, 155, 11, 156, 13, 14, 157, 158, 159, 160, 16, 17, 18, 19, 20, 21, 22, 23, 24, 25, 26, 27, 28, 29, 30, 31, 32, 33, 34, 35, 36, 37, 38, 39, 40, 41, 42, 43, 44, 45, 46, 47, 48, 49, 50, 51, 52, 53, 54, 55, 56, 57, 58, 59, 60, 61, 62, 63, 161, 162, 163, 164, 165, 166, 167, 76, 168, 126, 169, 170, 171, 111, 112, 113, 172, 173, 116, 174, 118, 175, 176, 121, 177, 178, 179, 180, 181, 182, 123, 124, 125, 127, 128, 183, 184, 185, 186, 187, 188, 189, 79, 80, 81, 82, 83, 84, 85, 86, 87, 88, 66, 89, 90, 91, 92, 93, 94, 95, 96, 97, 98, 99, 100, 101, 102, 103, 104, 105, 106, 107, 108, 109, 110, 114, 115, 117, 119, 120, 122, 129, 130, 131, 132, 133, 134, 135, 136, 137, 138, 139, 140, 190, 191, 192, 193, 194, 195, 196, 197, 198, 199, 200, 201, 202, 203, 204, 205, 206, 207, 208, 209, 210, 211, 220, 221, 222, 223, 224, 225, 226, 227, 228, 229, 230, 235, 236, 237, 238, 239, 240, 241, 242, 243, 244, 231, 232, 233, 234, 245, 246, 247, 248, 249, 250, 251, 252, 253] (by decide +kernel) (by decide +kernel)
set_option maxRecDepth 20000 in
theorem gX12_write_X12_writeBalcony : GoodIn wsX12_write (wsV RX12 283 RX12 yX12_writeBalcony wsX12_writeBalcony) := goodIn_app (goodIn_of _ (by decide +kernel)) ggX12_write_X12_writeBalcony
set_option maxRecDepth 20000 in
theorem ggX12_write_J4_length_8abf5 : GoodIn wsX12_write wsJ4_length_8abf5 := goodIn_r _ [215, 216, 217, 9, 218, 11, 219, 13, 231, 232, 233, 234] (by decide +kernel) (by decide +kernel)
set_option maxRecDepth 20000 in
theorem gX12_write_J4_length_8abf5 : GoodIn wsX12_write (wsV RX12 286 RJ4 yJ4_length_8abf5 wsJ4_length_8abf5) := goodIn_app (goodIn_of _ (by decide +kernel)) ggX12_write_J4_length_8abf5
theorem dX12_write_0 : decode cX12_write 0 = .ok (.iload_n 1, 1) := by decide +kernel
theorem dX12_write_1 : decode cX12_write 1 = .ok (.ifCond .lt 8, 3) := by decide +kernel
theorem dX12_write_4 : decode cX12_write 4 = .ok (.iload_n 1, 1) := by decide +kernel
theorem dX12_write_5 : decode cX12_write 5 = .ok (.iconst 3, 1) := by decide +kernel
theorem dX12_write_6 : decode cX12_write 6 = .ok (.if_icmp .lt 5, 3) := by decide +kernel
theorem dX12_write_9 : decode cX12_write 9 = .ok (.iconst (-1), 1) := by decide +kernel
theorem dX12_write_10 : decode cX12_write 10 = .ok (.ireturn, 1) := by decide +kernel
theorem dX12_write_11 : decode cX12_write 11 = .ok (.aload_n 0, 1) := by decide +kernel
theorem dX12_write_12 : decode cX12_write 12 = .ok (.getfield 64, 3) := by decide +kernel
theorem dX12_write_15 : decode cX12_write 15 = .ok (.iconst 0, 1) := by decide +kernel
theorem dX12_write_16 : decode cX12_write 16 = .ok (.invokevirtual 275, 3) := by decide +kernel
theorem dX12_write_19 : decode cX12_write 19 = .ok (.iconst 0, 1) := by decide +kernel
theorem dX12_write_20 : decode cX12_write 20 = .ok (.istore_n 2, 1) := by decide +kernel
theorem dX12_write_21 : decode cX12_write 21 = .ok (.iload_n 2, 1) := by decide +kernel
theorem dX12_write_22 : decode cX12_write 22 = .ok (.iconst 4, 1) := by decide +kernel
theorem dX12_write_23 : decode cX12_write 23 = .ok (.if_icmp .ge 32, 3) := by decide +kernel
theorem dX12_write_26 : decode cX12_write 26 = .ok (.iload_n 2, 1) := by decide +kernel
theorem dX12_write_27 : decode cX12_write 27 = .ok (.ifCond .le 13, 3) := by decide +kernel
theorem dX12_write_30 : decode cX12_write 30 = .ok (.aload_n 0, 1) := by decide +kernel
theorem dX12_write_31 : decode cX12_write 31 = .ok (.getfield 64, 3) := by decide +kernel
theorem dX12_write_34 : decode cX12_write 34 = .ok (.bipush 32, 2) := by decide +kernel
theorem dX12_write_36 : decode cX12_write 36 = .ok (.invokevirtual 279, 3) := by decide +kernel
theorem dX12_write_39 : decode cX12_write 39 = .ok (.pop, 1) := by decide +kernel
theorem dX12_write_40 : decode cX12_write 40 = .ok (.aload_n 0, 1) := by decide +kernel
theorem dX12_write_41 : decode cX12_write 41 = .ok (.iload_n 1, 1) := by decide +kernel
theorem dX12_write_42 : decode cX12_write 42 = .ok (.iconst 4, 1) := by decide +kernel
theorem dX12_write_43 : decode cX12_write 43 = .ok (.imul, 1) := by decide +kernel
theorem dX12_write_44 : decode cX12_write 44 = .ok (.iload_n 2, 1) := by decide +kernel
theorem dX12_write_45 : decode cX12_write 45 = .ok (.iadd, 1) := by decide +kernel
theorem dX12_write_46 : decode cX12_write 46 = .ok (.invokevirtual 283, 3) := by decide +kernel
theorem dX12_write_49 : decode cX12_write 49 = .ok (.iinc 2 1, 3) := by decide +kernel
theorem dX12_write_52 : decode cX12_write 52 = .ok (.goto (-31), 3) := by decide +kernel
theorem dX12_write_55 : decode cX12_write 55 = .ok (.aload_n 0, 1) := by decide +kernel
theorem dX12_write_56 : decode cX12_write 56 = .ok (.getfield 64, 3) := by decide +kernel
theorem dX12_write_59 : decode cX12_write 59 = .ok (.invokevirtual 286, 3) := by decide +kernel
theorem dX12_write_62 : decode cX12_write 62 = .ok (.ireturn, 1) := by decide +kernel
set_option maxRecDepth 20000 in
theorem ggX12_writeLines_J4_setLength_d00df : GoodIn wsX12_writeLines wsJ4_setLength_d00df := goodIn_r _ [12, 13, 14, 15, 16, 17, 18, 19, 20, 21, 22, 23, 24, 25, 26, 27, 28, 29, 30, 31, 32, 33, 34, 35, 36, 37, 38, 39, 40, 41, 42, 43, 44, 45, 46, 47, 48, 49, 50, 51, 52, 53, 54, 55, 56, 57, 58, 59, 60, 61, 62, 63, 64, 65, 66, 67, 68, 69, 70, 71, 72, 73, 74, 75, 76, 77, 78, 79, 80, 81, 82, 83, 84, 215, 216, 217, 218] (by decide +kernel) (by decide +kernel)
set_option maxRecDepth 20000 in
theorem gX12_writeLines_J4_setLength_d00df : GoodIn wsX12_writeLines (wsV RX12 275 RJ4 yJ4_setLength_d00df wsJ4_setLength_d00df) := goodIn_app (goodIn_of _ (by decide +kernel)) ggX12_writeLines_J4_setLength_d00df
set_option maxRecDepth 20000 in
theorem ggX12_writeLines_J4_append_cf468 : GoodIn wsX12_writeLines wsJ4_append_cf468 := goodIn_r _ [88, 89, 90, 15, 91, 17, 92, 19, 20, 22, 23, 24, 25, 26, 27, 28, 29, 30, 31, 32, 33, 34, 35, 36, 37, 38, 39, 40, 41, 42, 43, 44, 45, 46, 47, 48, 49, 50, 51, 52, 53, 54, 55, 56, 57, 58, 59, 60, 61, 62, 63, 64, 65, 66, 67, 68, 69, 93, 94, 72, 95, 96, 97, 98, 99, 100, 101, 102, 82, 103, 104, 105, 106, 107, 108, 109, 110, 111, 112, 113, 114, 115, 116, 117, 118, 119, 120, 121, 122, 123, 124, 125, 126, 127, 128, 129, 130, 131, 132, 133, 134, 135, 136, 137, 138, 139, 140, 141, 142, 143, 144, 145, 146, 215, 216, 217, 218] (by decide +kernel) (by decide +kernel)
set_option maxRecDepth 20000 in
theorem gX12_writeLines_J4_append_cf468 : GoodIn wsX12_writeLines (wsV RX12 279 RJ4 yJ4_append_cf468 wsJ4_append_cf468) := goodIn_app (goodIn_of _ (by decide +kernel)) ggX12_writeLines_J4_append_cf468
set_option maxRecDepth 20000 in
theorem ggX12_writeLines_J4_append_bf812 : GoodIn wsX12_writeLines wsJ4_append_bf812 := goodIn_r _ [150, 151, 152, 15, 153, 17, 154, 19, 20, 155, 156, 157, 158, 22, 23, 24, 25, 26, 27, 28, 29, 30, 31, 32, 33, 34, 35, 36, 37, 38, 39, 40, 41, 42, 43, 44, 45, 46, 47, 48, 49, 50, 51, 52, 53, 54, 55, 56, 57, 58, 59, 60, 61, 62, 63, 64, 65, 66, 67, 68, 69, 159, 160, 161, 162, 163, 164, 165, 82, 166, 132, 167, 168, 169, 117, 118, 119, 170, 171, 122, 172, 124, 173, 174, 127, 175, 176, 177, 178, 179, 180, 129, 130, 131, 133, 134, 215, 216, 217, 218] (by decide +kernel) (by decide +kernel)
set_option maxRecDepth 20000 in
theorem gX12_writeLines_J4_append_bf812 : GoodIn wsX12_writeLines (wsV RX12 289 RJ4 yJ4_append_bf812 wsJ4_append_bf812) := goodIn_app (goodIn_of _ (by decide +kernel)) ggX12_writeLines_J4_append_bf812
set_option maxRecDepth 20000 in
theorem ggX12_writeLines_J4_length_8abf5 : GoodIn wsX12_writeLines wsJ4_length_8abf5 := goodIn_r _ [184, 185, 186, 15, 187, 17, 188, 19, 215, 216, 217, 218] (by decide +kernel) (by decide +kernel)
set_option maxRecDepth 20000 in
theorem gX12_writeLines_J4_length_8abf5 : GoodIn wsX12_writeLines (wsV RX12 286 RJ4 yJ4_length_8abf5 wsJ4_length_8abf5) := goodIn_app (goodIn_of _ (by decide +kernel)) ggX12_writeLines_J4_length_8abf5
theorem dX12_writeLines_0 : decode cX12_writeLines 0 = .ok (.aload_n 0, 1) := by decide +kernel
theorem dX12_writeLines_1 : decode cX12_writeLines 1 = .ok (.getfield 64, 3) := by decide +kernel
theorem dX12_writeLines_4 : decode cX12_writeLines 4 = .ok (.iconst 0, 1) := by decide +kernel
theorem dX12_writeLines_5 : decode cX12_writeLines 5 = .ok (.invokevirtual 275, 3) := by decide +kernel
theorem dX12_writeLines_8 : decode cX12_writeLines 8 = .ok (.iconst 0, 1) := by decide +kernel
theorem dX12_writeLines_9 : decode cX12_writeLines 9 = .ok (.istore_n 1, 1) := by decide +kernel
theorem dX12_writeLines_10 : decode cX12_writeLines 10 = .ok (.iload_n 1, 1) := by decide +kernel
theorem dX12_writeLines_11 : decode cX12_writeLines 11 = .ok (.aload_n 0, 1) := by decide +kernel
theorem dX12_writeLines_12 : decode cX12_writeLines 12 = .ok (.getfield 12, 3) := by decide +kernel
theorem dX12_writeLines_15 : decode cX12_writeLines 15 = .ok (.getfield 184, 3) := by decide +kernel
theorem dX12_writeLines_18 : decode cX12_writeLines 18 = .ok (.getfield 226, 3) := by decide +kernel
theorem dX12_writeLines_21 : decode cX12_writeLines 21 = .ok (.if_icmp .ge 88, 3) := by decide +kernel
theorem dX12_writeLines_24 : decode cX12_writeLines 24 = .ok (.iload_n 1, 1) := by decide +kernel
theorem dX12_writeLines_25 : decode cX12_writeLines 25 = .ok (.ifCond .le 13, 3) := by decide +kernel
theorem dX12_writeLines_28 : decode cX12_writeLines 28 = .ok (.aload_n 0, 1) := by decide +kernel
theorem dX12_writeLines_29 : decode cX12_writeLines 29 = .ok (.getfield 64, 3) := by decide +kernel
theorem dX12_writeLines_32 : decode cX12_writeLines 32 = .ok (.bipush 32, 2) := by decide +kernel
theorem dX12_writeLines_34 : decode cX12_writeLines 34 = .ok (.invokevirtual 279, 3) := by decide +kernel
theorem dX12_writeLines_37 : decode cX12_writeLines 37 = .ok (.pop, 1) := by decide +kernel
theorem dX12_writeLines_38 : decode cX12_writeLines 38 = .ok (.aload_n 0, 1) := by decide +kernel
theorem dX12_writeLines_39 : decode cX12_writeLines 39 = .ok (.getfield 64, 3) := by decide +kernel
theorem dX12_writeLines_42 : decode cX12_writeLines 42 = .ok (.aload_n 0, 1) := by decide +kernel
theorem dX12_writeLines_43 : decode cX12_writeLines 43 = .ok (.getfield 12, 3) := by decide +kernel
theorem dX12_writeLines_46 : decode cX12_writeLines 46 = .ok (.getfield 184, 3) := by decide +kernel
theorem dX12_writeLines_49 : decode cX12_writeLines 49 = .ok (.getfield 227, 3) := by decide +kernel
theorem dX12_writeLines_52 : decode cX12_writeLines 52 = .ok (.iload_n 1, 1) := by decide +kernel
theorem dX12_writeLines_53 : decode cX12_writeLines 53 = .ok (.iaload, 1) := by decide +kernel
theorem dX12_writeLines_54 : decode cX12_writeLines 54 = .ok (.invokevirtual 289, 3) := by decide +kernel
theorem dX12_writeLines_57 : decode cX12_writeLines 57 = .ok (.bipush 45, 2) := by decide +kernel
theorem dX12_writeLines_59 : decode cX12_writeLines 59 = .ok (.invokevirtual 279, 3) := by decide +kernel
theorem dX12_writeLines_62 : decode cX12_writeLines 62 = .ok (.aload_n 0, 1) := by decide +kernel
theorem dX12_writeLines_63 : decode cX12_writeLines 63 = .ok (.getfield 12, 3) := by decide +kernel
theorem dX12_writeLines_66 : decode cX12_writeLines 66 = .ok (.getfield 184, 3) := by decide +kernel
theorem dX12_writeLines_69 : decode cX12_writeLines 69 = .ok (.getfield 230, 3) := by decide +kernel
theorem dX12_writeLines_72 : decode cX12_writeLines 72 = .ok (.iload_n 1, 1) := by decide +kernel
theorem dX12_writeLines_73 : decode cX12_writeLines 73 = .ok (.iaload, 1) := by decide +kernel
theorem dX12_writeLines_74 : decode cX12_writeLines 74 = .ok (.invokevirtual 289, 3) := by decide +kernel
theorem dX12_writeLines_77 : decode cX12_writeLines 77 = .ok (.pop, 1) := by decide +kernel
theorem dX12_writeLines_78 : decode cX12_writeLines 78 = .ok (.aload_n 0, 1) := by decide +kernel
theorem dX12_writeLines_79 : decode cX12_writeLines 79 = .ok (.getfield 64, 3) := by decide +kernel
theorem dX12_writeLines_82 : decode cX12_writeLines 82 = .ok (.bipush 58, 2) := by decide +kernel
theorem dX12_writeLines_84 : decode cX12_writeLines 84 = .ok (.invokevirtual 279, 3) := by decide +kernel
theorem dX12_writeLines_87 : decode cX12_writeLines 87 = .ok (.aload_n 0, 1) := by decide +kernel
theorem dX12_writeLines_88 : decode cX12_writeLines 88 = .ok (.getfield 12, 3) := by decide +kernel
theorem dX12_writeLines_91 : decode cX12_writeLines 91 = .ok (.getfield 184, 3) := by decide +kernel
theorem dX12_writeLines_94 : decode cX12_writeLines 94 = .ok (.getfield 233, 3) := by decide +kernel
theorem dX12_writeLines_97 : decode cX12_writeLines 97 = .ok (.iload_n 1, 1) := by decide +kernel
theorem dX12_writeLines_98 : decode cX12_writeLines 98 = .ok (.iaload, 1) := by decide +kernel
theorem dX12_writeLines_99 : decode cX12_writeLines 99 = .ok (.invokevirtual 289, 3) := by decide +kernel
theorem dX12_writeLines_102 : decode cX12_writeLines 102 = .ok (.pop, 1) := by decide +kernel
theorem dX12_writeLines_103 : decode cX12_writeLines 103 = .ok (.iinc 1 1, 3) := by decide +kernel
theorem dX12_writeLines_106 : decode cX12_writeLines 106 = .ok (.goto (-96), 3) := by decide +kernel
theorem dX12_writeLines_109 : decode cX12_writeLines 109 = .ok (.aload_n 0, 1) := by decide +kernel
theorem dX12_writeLines_110 : decode cX12_writeLines 110 = .ok (.getfield 64, 3) := by decide +kernel
theorem dX12_writeLines_113 : decode cX12_writeLines 113 = .ok (.invokevirtual 286, 3) := by decide +kernel
theorem dX12_writeLines_116 : decode cX12_writeLines 116 = .ok (.ireturn, 1) := by decide +kernel
set_option maxRecDepth 20000 in
theorem ggX12_written_J4_length_8abf5 : GoodIn wsX12_written wsJ4_length_8abf5 := goodIn_r _ [6, 7, 8, 9, 10, 11, 12, 13, 58, 59, 60, 61] (by decide +kernel) (by decide +kernel)
set_option maxRecDepth 20000 in
theorem gX12_written_J4_length_8abf5 : GoodIn wsX12_written (wsV RX12 286 RJ4 yJ4_length_8abf5 wsJ4_length_8abf5) := goodIn_app (goodIn_of _ (by decide +kernel)) ggX12_written_J4_length_8abf5
set_option maxRecDepth 20000 in
theorem ggX12_written_J4_charAt_5068e : GoodIn wsX12_written wsJ4_charAt_5068e := goodIn_r _ [17, 18, 19, 9, 20, 11, 21, 22, 23, 13, 24, 25, 26, 27, 28, 29, 30, 31, 32, 33, 34, 35, 36, 37, 38, 39, 40, 41, 42, 43, 44, 45, 46, 58, 59, 60, 61] (by decide +kernel) (by decide +kernel)
set_option maxRecDepth 20000 in
theorem gX12_written_J4_charAt_5068e : GoodIn wsX12_written (wsV RX12 292 RJ4 yJ4_charAt_5068e wsJ4_charAt_5068e) := goodIn_app (goodIn_of _ (by decide +kernel)) ggX12_written_J4_charAt_5068e
theorem dX12_written_0 : decode cX12_written 0 = .ok (.iload_n 1, 1) := by decide +kernel
theorem dX12_written_1 : decode cX12_written 1 = .ok (.ifCond .lt 14, 3) := by decide +kernel
theorem dX12_written_4 : decode cX12_written 4 = .ok (.iload_n 1, 1) := by decide +kernel
theorem dX12_written_5 : decode cX12_written 5 = .ok (.aload_n 0, 1) := by decide +kernel
theorem dX12_written_6 : decode cX12_written 6 = .ok (.getfield 64, 3) := by decide +kernel
theorem dX12_written_9 : decode cX12_written 9 = .ok (.invokevirtual 286, 3) := by decide +kernel
theorem dX12_written_12 : decode cX12_written 12 = .ok (.if_icmp .lt 5, 3) := by decide +kernel
theorem dX12_written_15 : decode cX12_written 15 = .ok (.iconst (-1), 1) := by decide +kernel
theorem dX12_written_16 : decode cX12_written 16 = .ok (.ireturn, 1) := by decide +kernel
theorem dX12_written_17 : decode cX12_written 17 = .ok (.aload_n 0, 1) := by decide +kernel
theorem dX12_written_18 : decode cX12_written 18 = .ok (.getfield 64, 3) := by decide +kernel
theorem dX12_written_21 : decode cX12_written 21 = .ok (.iload_n 1, 1) := by decide +kernel
theorem dX12_written_22 : decode cX12_written 22 = .ok (.invokevirtual 292, 3) := by decide +kernel
theorem dX12_written_25 : decode cX12_written 25 = .ok (.ireturn, 1) := by decide +kernel
set_option maxRecDepth 20000 in
theorem ggX12_isWell_X12_feuds : GoodIn wsX12_isWell wsX12_feuds := goodIn_r _ [7, 1, 8, 9, 10, 11, 12, 13, 14, 15, 16, 17, 18, 19, 20, 21, 22, 23, 24, 25, 26, 27, 28, 29, 30, 31, 32, 33, 34, 190, 191, 192, 193, 194, 195, 196, 197, 198, 199, 200, 201, 202, 203, 204, 205, 206, 207, 208, 209, 210, 211, 212, 213, 214, 215] (by decide +kernel) (by decide +kernel)
set_option maxRecDepth 20000 in
theorem gX12_isWell_X12_feuds : GoodIn wsX12_isWell (wsV RX12 296 RX12 yX12_feuds wsX12_feuds) := goodIn_app (goodIn_of _ (by decide +kernel)) ggX12_isWell_X12_feuds
set_option maxRecDepth 20000 in
theorem ggX12_isWell_X12_feudsAgain : GoodIn wsX12_isWell wsX12_feudsAgain := goodIn_r _ [38, 1, 39, 40, 10, 41, 42, 43, 44, 45, 46, 47, 48, 49, 50, 51, 52, 53, 190, 191, 192, 193, 194, 195, 196, 197, 198, 199, 200, 201, 202, 203, 204, 205, 206, 207, 208, 209, 210, 211, 212, 213, 214, 215] (by decide +kernel) (by decide +kernel)
set_option maxRecDepth 20000 in
theorem gX12_isWell_X12_feudsAgain : GoodIn wsX12_isWell (wsV RX12 299 RX12 yX12_feudsAgain wsX12_feudsAgain) := goodIn_app (goodIn_of _ (by decide +kernel)) ggX12_isWell_X12_feudsAgain
set_option maxRecDepth 20000 in
theorem ggX12_isWell_X12_excess : GoodIn wsX12_isWell wsX12_excess := goodIn_r _ [57, 1, 58, 59, 10, 60, 46, 61, 18, 19, 20, 62, 63, 64, 42, 47, 65, 22, 23, 66, 28, 29, 30, 31, 32, 33, 34, 190, 191, 192, 193, 194, 195, 196, 197, 198, 199, 200, 201, 202, 203, 204, 205, 206, 207, 208, 209, 210, 211, 212, 213, 214, 215] (by decide +kernel) (by decide +kernel)
set_option maxRecDepth 20000 in
theorem gX12_isWell_X12_excess : GoodIn wsX12_isWell (wsV RX12 302 RX12 yX12_excess wsX12_excess) := goodIn_app (goodIn_of _ (by decide +kernel)) ggX12_isWell_X12_excess
set_option maxRecDepth 20000 in
theorem ggX12_isWell_X12_excessAgain : GoodIn wsX12_isWell wsX12_excessAgain := goodIn_r _ [70, 71, 1, 72, 73, 74, 15, 75, 24, 76, 77, 78, 79, 25, 26, 80, 81, 82, 83, 84, 85, 86, 87, 88, 30, 89, 33, 90, 34, 91, 32, 92, 93, 94, 95, 96, 97, 98, 99, 100, 101, 102, 103, 104, 105, 106, 107, 108, 109, 110, 111, 112, 10, 113, 46, 114, 115, 116, 12, 13, 14, 16, 17, 18, 19, 20, 21, 22, 23, 27, 28, 29, 31, 190, 191, 192, 193, 194, 195, 196, 197, 198, 199, 200, 201, 202, 203, 204, 205, 206, 207, 208, 209, 210, 211, 212, 213, 214, 215, 216, 217, 218, 219, 220, 221] (by decide +kernel) (by decide +kernel)
set_option maxRecDepth 20000 in
theorem gX12_isWell_X12_excessAgain : GoodIn wsX12_isWell (wsV RX12 305 RX12 yX12_excessAgain wsX12_excessAgain) := goodIn_app (goodIn_of _ (by decide +kernel)) ggX12_isWell_X12_excessAgain
set_option maxRecDepth 20000 in
theorem ggX12_isWell_X12_census : GoodIn wsX12_isWell wsX12_census := goodIn_r _ [120, 1, 121, 122, 123, 124, 96, 125, 126, 127, 128, 129, 130, 131, 132, 133, 98, 190, 191, 192, 193, 194, 195, 196, 197, 198, 199, 200, 201, 202, 203, 204, 205, 206, 207, 208, 209, 210, 216, 217] (by decide +kernel) (by decide +kernel)
set_option maxRecDepth 20000 in
theorem gX12_isWell_X12_census : GoodIn wsX12_isWell (wsV RX12 308 RX12 yX12_census wsX12_census) := goodIn_app (goodIn_of _ (by decide +kernel)) ggX12_isWell_X12_census
set_option maxRecDepth 20000 in
theorem ggX12_isWell_X12_censusAgain : GoodIn wsX12_isWell wsX12_censusAgain := goodIn_r _ [137, 1, 121, 138, 139, 140, 96, 141, 142, 143, 144, 145, 130, 131, 132, 133, 98, 190, 191, 192, 193, 194, 195, 196, 197, 198, 199, 200, 201, 202, 203, 204, 205, 206, 207, 208, 209, 210, 216, 217] (by decide +kernel) (by decide +kernel)
set_option maxRecDepth 20000 in
theorem gX12_isWell_X12_censusAgain : GoodIn wsX12_isWell (wsV RX12 311 RX12 yX12_censusAgain wsX12_censusAgain) := goodIn_app (goodIn_of _ (by decide +kernel)) ggX12_isWell_X12_censusAgain
set_option maxRecDepth 20000 in
theorem ggX12_isWell_X12_areStepsAlike : GoodIn wsX12_isWell wsX12_areStepsAlike := goodIn_r _ [149, 150, 1, 151, 152, 153, 154, 155, 156, 157, 158, 159, 160, 161, 162, 163, 164, 165, 166, 167, 15, 168, 169, 170, 171, 172, 13, 14, 16, 17, 18, 19, 20, 21, 22, 23, 24, 25, 26, 27, 28, 29, 30, 31, 32, 33, 34, 173, 174, 175, 176, 177, 178, 179, 180, 181, 182, 183, 184, 185, 190, 191, 192, 193, 194, 195, 196, 197, 198, 199, 200, 222, 223, 201, 202, 203, 204, 205, 206, 207, 208, 209, 210, 211, 212, 213, 214, 215] (by decide +kernel) (by decide +kernel)
set_option maxRecDepth 20000 in
theorem gX12_isWell_X12_areStepsAlike : GoodIn wsX12_isWell (wsV RX12 314 RX12 yX12_areStepsAlike wsX12_areStepsAlike) := goodIn_app (goodIn_of _ (by decide +kernel)) ggX12_isWell_X12_areStepsAlike
set_option maxRecDepth 20000 in
theorem ggX12_isWell_X1_isAnyTogether : GoodIn wsX12_isWell wsX1_isAnyTogether := goodIn_r _ [189, 110, 106, 218, 219, 220, 221] (by decide +kernel) (by decide +kernel)
set_option maxRecDepth 20000 in
theorem gX12_isWell_X1_isAnyTogether : GoodIn wsX12_isWell (wsV RX12 317 RX1 yX1_isAnyTogether wsX1_isAnyTogether) := goodIn_app (goodIn_of _ (by decide +kernel)) ggX12_isWell_X1_isAnyTogether
theorem dX12_isWell_0 : decode cX12_isWell 0 = .ok (.aload_n 0, 1) := by decide +kernel
theorem dX12_isWell_1 : decode cX12_isWell 1 = .ok (.invokevirtual 296, 3) := by decide +kernel
theorem dX12_isWell_4 : decode cX12_isWell 4 = .ok (.aload_n 0, 1) := by decide +kernel
theorem dX12_isWell_5 : decode cX12_isWell 5 = .ok (.invokevirtual 299, 3) := by decide +kernel
theorem dX12_isWell_8 : decode cX12_isWell 8 = .ok (.if_icmp .ne 49, 3) := by decide +kernel
theorem dX12_isWell_11 : decode cX12_isWell 11 = .ok (.aload_n 0, 1) := by decide +kernel
theorem dX12_isWell_12 : decode cX12_isWell 12 = .ok (.invokevirtual 302, 3) := by decide +kernel
theorem dX12_isWell_15 : decode cX12_isWell 15 = .ok (.aload_n 0, 1) := by decide +kernel
theorem dX12_isWell_16 : decode cX12_isWell 16 = .ok (.invokevirtual 305, 3) := by decide +kernel
theorem dX12_isWell_19 : decode cX12_isWell 19 = .ok (.if_icmp .ne 38, 3) := by decide +kernel
theorem dX12_isWell_22 : decode cX12_isWell 22 = .ok (.aload_n 0, 1) := by decide +kernel
theorem dX12_isWell_23 : decode cX12_isWell 23 = .ok (.invokevirtual 308, 3) := by decide +kernel
theorem dX12_isWell_26 : decode cX12_isWell 26 = .ok (.aload_n 0, 1) := by decide +kernel
theorem dX12_isWell_27 : decode cX12_isWell 27 = .ok (.invokevirtual 311, 3) := by decide +kernel
theorem dX12_isWell_30 : decode cX12_isWell 30 = .ok (.if_icmp .ne 27, 3) := by decide +kernel
theorem dX12_isWell_33 : decode cX12_isWell 33 = .ok (.aload_n 0, 1) := by decide +kernel
theorem dX12_isWell_34 : decode cX12_isWell 34 = .ok (.invokevirtual 314, 3) := by decide +kernel
theorem dX12_isWell_37 : decode cX12_isWell 37 = .ok (.ifCond .eq 20, 3) := by decide +kernel
theorem dX12_isWell_40 : decode cX12_isWell 40 = .ok (.aload_n 0, 1) := by decide +kernel
theorem dX12_isWell_41 : decode cX12_isWell 41 = .ok (.getfield 12, 3) := by decide +kernel
theorem dX12_isWell_44 : decode cX12_isWell 44 = .ok (.getfield 157, 3) := by decide +kernel
theorem dX12_isWell_47 : decode cX12_isWell 47 = .ok (.invokevirtual 317, 3) := by decide +kernel
theorem dX12_isWell_50 : decode cX12_isWell 50 = .ok (.ifCond .ne 7, 3) := by decide +kernel
theorem dX12_isWell_53 : decode cX12_isWell 53 = .ok (.iconst 1, 1) := by decide +kernel
theorem dX12_isWell_54 : decode cX12_isWell 54 = .ok (.goto 4, 3) := by decide +kernel
theorem dX12_isWell_57 : decode cX12_isWell 57 = .ok (.iconst 0, 1) := by decide +kernel
theorem dX12_isWell_58 : decode cX12_isWell 58 = .ok (.istore_n 1, 1) := by decide +kernel
theorem dX12_isWell_59 : decode cX12_isWell 59 = .ok (.iload_n 1, 1) := by decide +kernel
theorem dX12_isWell_60 : decode cX12_isWell 60 = .ok (.ifCond .eq 7, 3) := by decide +kernel
theorem dX12_isWell_63 : decode cX12_isWell 63 = .ok (.iconst 1, 1) := by decide +kernel
theorem dX12_isWell_64 : decode cX12_isWell 64 = .ok (.goto 4, 3) := by decide +kernel
theorem dX12_isWell_67 : decode cX12_isWell 67 = .ok (.iconst 0, 1) := by decide +kernel
theorem dX12_isWell_68 : decode cX12_isWell 68 = .ok (.ireturn, 1) := by decide +kernel
set_option maxRecDepth 20000 in
theorem ggX12_meanPlants_X6_plantSum : GoodIn wsX12_meanPlants wsX6_plantSum := goodIn_r _ [7, 8, 20, 21, 22, 23, 24, 25, 26, 27, 28, 29] (by decide +kernel) (by decide +kernel)
set_option maxRecDepth 20000 in
theorem gX12_meanPlants_X6_plantSum : GoodIn wsX12_meanPlants (wsV RX12 72 RX6 yX6_plantSum wsX6_plantSum) := goodIn_app (goodIn_of _ (by decide +kernel)) ggX12_meanPlants_X6_plantSum
theorem dX12_meanPlants_0 : decode cX12_meanPlants 0 = .ok (.aload_n 0, 1) := by decide +kernel
theorem dX12_meanPlants_1 : decode cX12_meanPlants 1 = .ok (.getfield 12, 3) := by decide +kernel
theorem dX12_meanPlants_4 : decode cX12_meanPlants 4 = .ok (.invokevirtual 72, 3) := by decide +kernel
theorem dX12_meanPlants_7 : decode cX12_meanPlants 7 = .ok (.i2d, 1) := by decide +kernel
theorem dX12_meanPlants_8 : decode cX12_meanPlants 8 = .ok (.ldc2_w 320, 3) := by decide +kernel
theorem dX12_meanPlants_11 : decode cX12_meanPlants 11 = .ok (.ddiv, 1) := by decide +kernel
theorem dX12_meanPlants_12 : decode cX12_meanPlants 12 = .ok (.dreturn, 1) := by decide +kernel
set_option maxRecDepth 20000 in
theorem ggX12_homeShare_X1_countAtHome : GoodIn wsX12_homeShare wsX1_countAtHome := goodIn_r _ [8, 9, 10, 11, 33, 34, 35, 36] (by decide +kernel) (by decide +kernel)
set_option maxRecDepth 20000 in
theorem gX12_homeShare_X1_countAtHome : GoodIn wsX12_homeShare (wsV RX12 322 RX1 yX1_countAtHome wsX1_countAtHome) := goodIn_app (goodIn_of _ (by decide +kernel)) ggX12_homeShare_X1_countAtHome
theorem dX12_homeShare_0 : decode cX12_homeShare 0 = .ok (.aload_n 0, 1) := by decide +kernel
theorem dX12_homeShare_1 : decode cX12_homeShare 1 = .ok (.getfield 12, 3) := by decide +kernel
theorem dX12_homeShare_4 : decode cX12_homeShare 4 = .ok (.getfield 157, 3) := by decide +kernel
theorem dX12_homeShare_7 : decode cX12_homeShare 7 = .ok (.getfield 207, 3) := by decide +kernel
theorem dX12_homeShare_10 : decode cX12_homeShare 10 = .ok (.ifCond .ne 5, 3) := by decide +kernel
theorem dX12_homeShare_13 : decode cX12_homeShare 13 = .ok (.fconst 0, 1) := by decide +kernel
theorem dX12_homeShare_14 : decode cX12_homeShare 14 = .ok (.freturn, 1) := by decide +kernel
theorem dX12_homeShare_15 : decode cX12_homeShare 15 = .ok (.aload_n 0, 1) := by decide +kernel
theorem dX12_homeShare_16 : decode cX12_homeShare 16 = .ok (.getfield 12, 3) := by decide +kernel
theorem dX12_homeShare_19 : decode cX12_homeShare 19 = .ok (.getfield 157, 3) := by decide +kernel
theorem dX12_homeShare_22 : decode cX12_homeShare 22 = .ok (.invokevirtual 322, 3) := by decide +kernel
theorem dX12_homeShare_25 : decode cX12_homeShare 25 = .ok (.i2f, 1) := by decide +kernel
theorem dX12_homeShare_26 : decode cX12_homeShare 26 = .ok (.aload_n 0, 1) := by decide +kernel
theorem dX12_homeShare_27 : decode cX12_homeShare 27 = .ok (.getfield 12, 3) := by decide +kernel
theorem dX12_homeShare_30 : decode cX12_homeShare 30 = .ok (.getfield 157, 3) := by decide +kernel
theorem dX12_homeShare_33 : decode cX12_homeShare 33 = .ok (.getfield 207, 3) := by decide +kernel
theorem dX12_homeShare_36 : decode cX12_homeShare 36 = .ok (.i2f, 1) := by decide +kernel
theorem dX12_homeShare_37 : decode cX12_homeShare 37 = .ok (.fdiv, 1) := by decide +kernel
theorem dX12_homeShare_38 : decode cX12_homeShare 38 = .ok (.freturn, 1) := by decide +kernel
set_option maxRecDepth 20000 in
theorem ggX12_account_X6_plantSum : GoodIn wsX12_account wsX6_plantSum := goodIn_r _ [20, 21, 85, 86, 87, 88, 89, 90, 91, 92, 93, 94] (by decide +kernel) (by decide +kernel)
set_option maxRecDepth 20000 in
theorem gX12_account_X6_plantSum : GoodIn wsX12_account (wsV RX12 72 RX6 yX6_plantSum wsX6_plantSum) := goodIn_app (goodIn_of _ (by decide +kernel)) ggX12_account_X6_plantSum
set_option maxRecDepth 20000 in
theorem ggX12_account_X3_byPairs : GoodIn wsX12_account wsX3_byPairs := goodIn_r _ [25, 26, 27, 28, 19, 29, 30, 31, 32, 33, 34, 35, 36, 21, 37, 38, 39, 40, 41, 42, 43, 44, 45, 46, 85, 86, 87, 88, 89, 90, 91, 92, 93, 94, 95, 96, 97, 98, 99] (by decide +kernel) (by decide +kernel)
set_option maxRecDepth 20000 in
theorem gX12_account_X3_byPairs : GoodIn wsX12_account (va_wsS RX12 236 yX3_byPairs wsX3_byPairs) := goodIn_app (goodIn_of _ (by decide +kernel)) ggX12_account_X3_byPairs
set_option maxRecDepth 20000 in
theorem ggX12_account_X1_countAtHome : GoodIn wsX12_account wsX1_countAtHome := goodIn_r _ [51, 52, 53, 54, 100, 101, 102, 103] (by decide +kernel) (by decide +kernel)
set_option maxRecDepth 20000 in
theorem gX12_account_X1_countAtHome : GoodIn wsX12_account (wsV RX12 322 RX1 yX1_countAtHome wsX1_countAtHome) := goodIn_app (goodIn_of _ (by decide +kernel)) ggX12_account_X1_countAtHome
set_option maxRecDepth 20000 in
theorem ggX12_account_X4_sumGiven : GoodIn wsX12_account wsX4_sumGiven := goodIn_r _ [59, 60, 61, 62, 58, 63, 64, 65, 66, 67, 68, 115, 116] (by decide +kernel) (by decide +kernel)
set_option maxRecDepth 20000 in
theorem gX12_account_X4_sumGiven : GoodIn wsX12_account (wsV RX12 249 RX4 yX4_sumGiven wsX4_sumGiven) := goodIn_app (goodIn_of _ (by decide +kernel)) ggX12_account_X4_sumGiven
set_option maxRecDepth 20000 in
theorem ggX12_account_X1_swapSum : GoodIn wsX12_account wsX1_swapSum := goodIn_r _ [72, 52, 73, 100, 101, 102, 103] (by decide +kernel) (by decide +kernel)
set_option maxRecDepth 20000 in
theorem gX12_account_X1_swapSum : GoodIn wsX12_account (wsV RX12 337 RX1 yX1_swapSum wsX1_swapSum) := goodIn_app (goodIn_of _ (by decide +kernel)) ggX12_account_X1_swapSum
theorem dX12_account_0 : decode cX12_account 0 = .ok (.iload_n 1, 1) := by decide +kernel
theorem dX12_account_1 : decode cX12_account 1 = .ok (.tableswitch 201 0 13 #[71, 79, 87, 98, 109, 120, 128, 139, 147, 155, 163, 174, 185, 193], 71) := by decide +kernel
theorem dX12_account_72 : decode cX12_account 72 = .ok (.aload_n 0, 1) := by decide +kernel
theorem dX12_account_73 : decode cX12_account 73 = .ok (.getfield 12, 3) := by decide +kernel
theorem dX12_account_76 : decode cX12_account 76 = .ok (.invokevirtual 72, 3) := by decide +kernel
theorem dX12_account_79 : decode cX12_account 79 = .ok (.ireturn, 1) := by decide +kernel
theorem dX12_account_80 : decode cX12_account 80 = .ok (.aload_n 0, 1) := by decide +kernel
theorem dX12_account_81 : decode cX12_account 81 = .ok (.getfield 12, 3) := by decide +kernel
theorem dX12_account_84 : decode cX12_account 84 = .ok (.invokestatic 236, 3) := by decide +kernel
theorem dX12_account_87 : decode cX12_account 87 = .ok (.ireturn, 1) := by decide +kernel
theorem dX12_account_88 : decode cX12_account 88 = .ok (.aload_n 0, 1) := by decide +kernel
theorem dX12_account_89 : decode cX12_account 89 = .ok (.getfield 12, 3) := by decide +kernel
theorem dX12_account_92 : decode cX12_account 92 = .ok (.getfield 184, 3) := by decide +kernel
theorem dX12_account_95 : decode cX12_account 95 = .ok (.getfield 226, 3) := by decide +kernel
theorem dX12_account_98 : decode cX12_account 98 = .ok (.ireturn, 1) := by decide +kernel
theorem dX12_account_99 : decode cX12_account 99 = .ok (.aload_n 0, 1) := by decide +kernel
theorem dX12_account_100 : decode cX12_account 100 = .ok (.getfield 12, 3) := by decide +kernel
theorem dX12_account_103 : decode cX12_account 103 = .ok (.getfield 157, 3) := by decide +kernel
theorem dX12_account_106 : decode cX12_account 106 = .ok (.getfield 207, 3) := by decide +kernel
theorem dX12_account_109 : decode cX12_account 109 = .ok (.ireturn, 1) := by decide +kernel
theorem dX12_account_110 : decode cX12_account 110 = .ok (.aload_n 0, 1) := by decide +kernel
theorem dX12_account_111 : decode cX12_account 111 = .ok (.getfield 12, 3) := by decide +kernel
theorem dX12_account_114 : decode cX12_account 114 = .ok (.getfield 157, 3) := by decide +kernel
theorem dX12_account_117 : decode cX12_account 117 = .ok (.invokevirtual 322, 3) := by decide +kernel
theorem dX12_account_120 : decode cX12_account 120 = .ok (.ireturn, 1) := by decide +kernel
theorem dX12_account_121 : decode cX12_account 121 = .ok (.aload_n 0, 1) := by decide +kernel
theorem dX12_account_122 : decode cX12_account 122 = .ok (.getfield 12, 3) := by decide +kernel
theorem dX12_account_125 : decode cX12_account 125 = .ok (.getfield 325, 3) := by decide +kernel
theorem dX12_account_128 : decode cX12_account 128 = .ok (.ireturn, 1) := by decide +kernel
theorem dX12_account_129 : decode cX12_account 129 = .ok (.aload_n 0, 1) := by decide +kernel
theorem dX12_account_130 : decode cX12_account 130 = .ok (.getfield 12, 3) := by decide +kernel
theorem dX12_account_133 : decode cX12_account 133 = .ok (.getfield 172, 3) := by decide +kernel
theorem dX12_account_136 : decode cX12_account 136 = .ok (.invokevirtual 249, 3) := by decide +kernel
theorem dX12_account_139 : decode cX12_account 139 = .ok (.ireturn, 1) := by decide +kernel
theorem dX12_account_140 : decode cX12_account 140 = .ok (.aload_n 0, 1) := by decide +kernel
theorem dX12_account_141 : decode cX12_account 141 = .ok (.getfield 12, 3) := by decide +kernel
theorem dX12_account_144 : decode cX12_account 144 = .ok (.getfield 328, 3) := by decide +kernel
theorem dX12_account_147 : decode cX12_account 147 = .ok (.ireturn, 1) := by decide +kernel
theorem dX12_account_148 : decode cX12_account 148 = .ok (.aload_n 0, 1) := by decide +kernel
theorem dX12_account_149 : decode cX12_account 149 = .ok (.getfield 12, 3) := by decide +kernel
theorem dX12_account_152 : decode cX12_account 152 = .ok (.getfield 331, 3) := by decide +kernel
theorem dX12_account_155 : decode cX12_account 155 = .ok (.ireturn, 1) := by decide +kernel
theorem dX12_account_156 : decode cX12_account 156 = .ok (.aload_n 0, 1) := by decide +kernel
theorem dX12_account_157 : decode cX12_account 157 = .ok (.getfield 12, 3) := by decide +kernel
theorem dX12_account_160 : decode cX12_account 160 = .ok (.getfield 334, 3) := by decide +kernel
theorem dX12_account_163 : decode cX12_account 163 = .ok (.ireturn, 1) := by decide +kernel
theorem dX12_account_164 : decode cX12_account 164 = .ok (.aload_n 0, 1) := by decide +kernel
theorem dX12_account_165 : decode cX12_account 165 = .ok (.getfield 12, 3) := by decide +kernel
theorem dX12_account_168 : decode cX12_account 168 = .ok (.getfield 157, 3) := by decide +kernel
theorem dX12_account_171 : decode cX12_account 171 = .ok (.invokevirtual 337, 3) := by decide +kernel
theorem dX12_account_174 : decode cX12_account 174 = .ok (.ireturn, 1) := by decide +kernel
theorem dX12_account_175 : decode cX12_account 175 = .ok (.aload_n 0, 1) := by decide +kernel
theorem dX12_account_176 : decode cX12_account 176 = .ok (.getfield 12, 3) := by decide +kernel
theorem dX12_account_179 : decode cX12_account 179 = .ok (.getfield 184, 3) := by decide +kernel
theorem dX12_account_182 : decode cX12_account 182 = .ok (.getfield 340, 3) := by decide +kernel
theorem dX12_account_185 : decode cX12_account 185 = .ok (.ireturn, 1) := by decide +kernel
theorem dX12_account_186 : decode cX12_account 186 = .ok (.aload_n 0, 1) := by decide +kernel
theorem dX12_account_187 : decode cX12_account 187 = .ok (.getfield 36, 3) := by decide +kernel
theorem dX12_account_190 : decode cX12_account 190 = .ok (.getfield 343, 3) := by decide +kernel
theorem dX12_account_193 : decode cX12_account 193 = .ok (.ireturn, 1) := by decide +kernel
theorem dX12_account_194 : decode cX12_account 194 = .ok (.aload_n 0, 1) := by decide +kernel
theorem dX12_account_195 : decode cX12_account 195 = .ok (.getfield 29, 3) := by decide +kernel
theorem dX12_account_198 : decode cX12_account 198 = .ok (.getfield 345, 3) := by decide +kernel
theorem dX12_account_201 : decode cX12_account 201 = .ok (.ireturn, 1) := by decide +kernel
theorem dX12_account_202 : decode cX12_account 202 = .ok (.bipush (-2), 2) := by decide +kernel
theorem dX12_account_204 : decode cX12_account 204 = .ok (.ireturn, 1) := by decide +kernel
set_option maxRecDepth 20000 in
theorem ggX12_undo_X5_takeBack : GoodIn wsX12_undo wsX5_takeBack := goodIn_r _ [8, 9, 10, 11, 12, 13, 14, 15, 16, 17, 18, 19, 20, 21, 22, 23, 24, 25, 26, 27, 28, 29, 30, 31, 32, 33, 34, 35, 36, 37, 38, 39, 40, 41, 42, 43, 44, 45, 46, 47, 48, 49, 50, 51, 52, 53, 54, 55, 56, 57, 58, 70, 71, 72, 73, 74, 75, 76, 77, 78, 79, 80, 81, 82, 83, 84, 85, 86, 87, 88, 89, 90, 91, 92, 93] (by decide +kernel) (by decide +kernel)
set_option maxRecDepth 20000 in
theorem gX12_undo_X5_takeBack : GoodIn wsX12_undo (wsV RX12 346 RX5 yX5_takeBack wsX5_takeBack) := goodIn_app (goodIn_of _ (by decide +kernel)) ggX12_undo_X5_takeBack
theorem dX12_undo_0 : decode cX12_undo 0 = .ok (.aload_n 0, 1) := by decide +kernel
theorem dX12_undo_1 : decode cX12_undo 1 = .ok (.getfield 29, 3) := by decide +kernel
theorem dX12_undo_4 : decode cX12_undo 4 = .ok (.getfield 345, 3) := by decide +kernel
theorem dX12_undo_7 : decode cX12_undo 7 = .ok (.ifCond .ne 6, 3) := by decide +kernel
theorem dX12_undo_10 : decode cX12_undo 10 = .ok (.bipush (-4), 2) := by decide +kernel
theorem dX12_undo_12 : decode cX12_undo 12 = .ok (.ireturn, 1) := by decide +kernel
theorem dX12_undo_13 : decode cX12_undo 13 = .ok (.aload_n 0, 1) := by decide +kernel
theorem dX12_undo_14 : decode cX12_undo 14 = .ok (.getfield 29, 3) := by decide +kernel
theorem dX12_undo_17 : decode cX12_undo 17 = .ok (.aload_n 0, 1) := by decide +kernel
theorem dX12_undo_18 : decode cX12_undo 18 = .ok (.getfield 12, 3) := by decide +kernel
theorem dX12_undo_21 : decode cX12_undo 21 = .ok (.invokevirtual 346, 3) := by decide +kernel
theorem dX12_undo_24 : decode cX12_undo 24 = .ok (.aload_n 0, 1) := by decide +kernel
theorem dX12_undo_25 : decode cX12_undo 25 = .ok (.getfield 29, 3) := by decide +kernel
theorem dX12_undo_28 : decode cX12_undo 28 = .ok (.getfield 345, 3) := by decide +kernel
theorem dX12_undo_31 : decode cX12_undo 31 = .ok (.ireturn, 1) := by decide +kernel
set_option maxRecDepth 20000 in
theorem ggX12_save_X6_take : GoodIn wsX12_save wsX6_take := goodIn_r _ [8, 9, 10, 11, 12, 13, 14, 15, 16, 17, 18, 19, 20, 21, 22, 23, 24, 25, 26, 27, 28, 29, 30, 31, 32, 33, 34, 35, 36, 37, 38, 39, 40, 41, 42, 43, 44, 45, 46, 47, 48, 49, 50, 66, 67, 68, 69, 70, 71, 72, 73, 74, 75, 76, 77, 78, 79, 80, 81, 82, 83, 84, 85, 86] (by decide +kernel) (by decide +kernel)
set_option maxRecDepth 20000 in
theorem gX12_save_X6_take : GoodIn wsX12_save (wsV RX12 86 RX6 yX6_take wsX6_take) := goodIn_app (goodIn_of _ (by decide +kernel)) ggX12_save_X6_take
set_option maxRecDepth 20000 in
theorem ggX12_save_X6_plantSum : GoodIn wsX12_save wsX6_plantSum := goodIn_r _ [54, 9, 66, 67, 68, 69, 70, 71, 72, 73, 74, 75] (by decide +kernel) (by decide +kernel)
set_option maxRecDepth 20000 in
theorem gX12_save_X6_plantSum : GoodIn wsX12_save (wsV RX12 72 RX6 yX6_plantSum wsX6_plantSum) := goodIn_app (goodIn_of _ (by decide +kernel)) ggX12_save_X6_plantSum
theorem dX12_save_0 : decode cX12_save 0 = .ok (.aload_n 0, 1) := by decide +kernel
theorem dX12_save_1 : decode cX12_save 1 = .ok (.getfield 19, 3) := by decide +kernel
theorem dX12_save_4 : decode cX12_save 4 = .ok (.aload_n 0, 1) := by decide +kernel
theorem dX12_save_5 : decode cX12_save 5 = .ok (.getfield 12, 3) := by decide +kernel
theorem dX12_save_8 : decode cX12_save 8 = .ok (.invokevirtual 86, 3) := by decide +kernel
theorem dX12_save_11 : decode cX12_save 11 = .ok (.aload_n 0, 1) := by decide +kernel
theorem dX12_save_12 : decode cX12_save 12 = .ok (.iconst 1, 1) := by decide +kernel
theorem dX12_save_13 : decode cX12_save 13 = .ok (.putfield 22, 3) := by decide +kernel
theorem dX12_save_16 : decode cX12_save 16 = .ok (.aload_n 0, 1) := by decide +kernel
theorem dX12_save_17 : decode cX12_save 17 = .ok (.getfield 12, 3) := by decide +kernel
theorem dX12_save_20 : decode cX12_save 20 = .ok (.invokevirtual 72, 3) := by decide +kernel
theorem dX12_save_23 : decode cX12_save 23 = .ok (.ireturn, 1) := by decide +kernel
set_option maxRecDepth 20000 in
theorem ggX12_restore_X6_take : GoodIn wsX12_restore wsX6_take := goodIn_r _ [9, 10, 11, 12, 13, 14, 15, 16, 17, 18, 19, 20, 21, 22, 23, 24, 25, 26, 27, 28, 29, 30, 31, 32, 33, 34, 35, 36, 37, 38, 39, 40, 41, 42, 43, 44, 45, 46, 47, 48, 49, 50, 51, 73, 74, 75, 76, 77, 78, 79, 80, 81, 82, 83, 84, 85, 86, 87, 88, 89, 90, 91, 92, 93] (by decide +kernel) (by decide +kernel)
set_option maxRecDepth 20000 in
theorem gX12_restore_X6_take : GoodIn wsX12_restore (wsV RX12 86 RX6 yX6_take wsX6_take) := goodIn_app (goodIn_of _ (by decide +kernel)) ggX12_restore_X6_take
set_option maxRecDepth 20000 in
theorem ggX12_restore_X5_forget : GoodIn wsX12_restore wsX5_forget := goodIn_r _ [56, 57, 94, 95, 96] (by decide +kernel) (by decide +kernel)
set_option maxRecDepth 20000 in
theorem gX12_restore_X5_forget : GoodIn wsX12_restore (wsV RX12 79 RX5 yX5_forget wsX5_forget) := goodIn_app (goodIn_of _ (by decide +kernel)) ggX12_restore_X5_forget
set_option maxRecDepth 20000 in
theorem ggX12_restore_X6_plantSum : GoodIn wsX12_restore wsX6_plantSum := goodIn_r _ [61, 10, 73, 74, 75, 76, 77, 78, 79, 80, 81, 82] (by decide +kernel) (by decide +kernel)
set_option maxRecDepth 20000 in
theorem gX12_restore_X6_plantSum : GoodIn wsX12_restore (wsV RX12 72 RX6 yX6_plantSum wsX6_plantSum) := goodIn_app (goodIn_of _ (by decide +kernel)) ggX12_restore_X6_plantSum
theorem dX12_restore_0 : decode cX12_restore 0 = .ok (.aload_n 0, 1) := by decide +kernel
theorem dX12_restore_1 : decode cX12_restore 1 = .ok (.getfield 22, 3) := by decide +kernel
theorem dX12_restore_4 : decode cX12_restore 4 = .ok (.ifCond .ne 6, 3) := by decide +kernel
theorem dX12_restore_7 : decode cX12_restore 7 = .ok (.bipush (-4), 2) := by decide +kernel
theorem dX12_restore_9 : decode cX12_restore 9 = .ok (.ireturn, 1) := by decide +kernel
theorem dX12_restore_10 : decode cX12_restore 10 = .ok (.aload_n 0, 1) := by decide +kernel
theorem dX12_restore_11 : decode cX12_restore 11 = .ok (.getfield 12, 3) := by decide +kernel
theorem dX12_restore_14 : decode cX12_restore 14 = .ok (.aload_n 0, 1) := by decide +kernel
theorem dX12_restore_15 : decode cX12_restore 15 = .ok (.getfield 19, 3) := by decide +kernel
theorem dX12_restore_18 : decode cX12_restore 18 = .ok (.invokevirtual 86, 3) := by decide +kernel
theorem dX12_restore_21 : decode cX12_restore 21 = .ok (.aload_n 0, 1) := by decide +kernel
theorem dX12_restore_22 : decode cX12_restore 22 = .ok (.getfield 29, 3) := by decide +kernel
theorem dX12_restore_25 : decode cX12_restore 25 = .ok (.invokevirtual 79, 3) := by decide +kernel
theorem dX12_restore_28 : decode cX12_restore 28 = .ok (.aload_n 0, 1) := by decide +kernel
theorem dX12_restore_29 : decode cX12_restore 29 = .ok (.getfield 12, 3) := by decide +kernel
theorem dX12_restore_32 : decode cX12_restore 32 = .ok (.invokevirtual 72, 3) := by decide +kernel
theorem dX12_restore_35 : decode cX12_restore 35 = .ok (.ireturn, 1) := by decide +kernel
set_option maxRecDepth 20000 in
theorem ggX12_settle_X5_keep : GoodIn wsX12_settle wsX5_keep := goodIn_r _ [8, 9, 10, 11, 12, 13, 14, 15, 16, 17, 18, 19, 20, 21, 22, 23, 24, 25, 26, 27, 28, 29, 30, 31, 32, 33, 34, 35, 36, 37, 38, 39, 40, 41, 42, 43, 44, 45, 46, 47, 48, 49, 50, 51, 52, 53, 54, 55, 56, 57, 58, 59, 60, 61, 62, 75, 76, 77, 78, 79, 80, 81, 82, 83, 84, 85, 86, 87, 88, 89, 90, 91, 92, 93, 94, 95, 96, 97, 98] (by decide +kernel) (by decide +kernel)
set_option maxRecDepth 20000 in
theorem gX12_settle_X5_keep : GoodIn wsX12_settle (wsV RX12 349 RX5 yX5_keep wsX5_keep) := goodIn_app (goodIn_of _ (by decide +kernel)) ggX12_settle_X5_keep
set_option maxRecDepth 20000 in
theorem ggX12_settle_X6_take : GoodIn wsX12_settle wsX6_take := goodIn_r _ [20, 21, 22, 23, 24, 25, 26, 27, 28, 29, 30, 31, 32, 33, 34, 35, 36, 37, 38, 39, 40, 41, 42, 43, 44, 45, 46, 47, 48, 49, 50, 51, 52, 53, 54, 55, 56, 57, 58, 59, 60, 61, 62, 78, 79, 80, 81, 82, 83, 84, 85, 86, 87, 88, 89, 90, 91, 92, 93, 94, 95, 96, 97, 98] (by decide +kernel) (by decide +kernel)
set_option maxRecDepth 20000 in
theorem gX12_settle_X6_take : GoodIn wsX12_settle (wsV RX12 86 RX6 yX6_take wsX6_take) := goodIn_app (goodIn_of _ (by decide +kernel)) ggX12_settle_X6_take
theorem dX12_settle_0 : decode cX12_settle 0 = .ok (.iload_n 1, 1) := by decide +kernel
theorem dX12_settle_1 : decode cX12_settle 1 = .ok (.ifCond .lt 25, 3) := by decide +kernel
theorem dX12_settle_4 : decode cX12_settle 4 = .ok (.aload_n 0, 1) := by decide +kernel
theorem dX12_settle_5 : decode cX12_settle 5 = .ok (.getfield 29, 3) := by decide +kernel
theorem dX12_settle_8 : decode cX12_settle 8 = .ok (.aload_n 0, 1) := by decide +kernel
theorem dX12_settle_9 : decode cX12_settle 9 = .ok (.getfield 12, 3) := by decide +kernel
theorem dX12_settle_12 : decode cX12_settle 12 = .ok (.invokevirtual 349, 3) := by decide +kernel
theorem dX12_settle_15 : decode cX12_settle 15 = .ok (.aload_n 0, 1) := by decide +kernel
theorem dX12_settle_16 : decode cX12_settle 16 = .ok (.getfield 12, 3) := by decide +kernel
theorem dX12_settle_19 : decode cX12_settle 19 = .ok (.aload_n 0, 1) := by decide +kernel
theorem dX12_settle_20 : decode cX12_settle 20 = .ok (.getfield 16, 3) := by decide +kernel
theorem dX12_settle_23 : decode cX12_settle 23 = .ok (.invokevirtual 86, 3) := by decide +kernel
theorem dX12_settle_26 : decode cX12_settle 26 = .ok (.iload_n 1, 1) := by decide +kernel
theorem dX12_settle_27 : decode cX12_settle 27 = .ok (.ireturn, 1) := by decide +kernel
set_option maxRecDepth 20000 in
theorem ggX12_performAll_X12_perform : GoodIn wsX12_performAll wsX12_perform := goodIn_r _ [8, 1, 9, 10, 11, 12, 13, 14, 15, 3, 16, 17, 18, 19, 20, 21, 22, 23, 24, 25, 26, 27, 28, 29, 30, 7, 31, 32, 33, 34, 35, 36, 37, 38, 39, 40, 41, 42, 43, 44, 45, 46, 47, 48, 49, 50, 51, 52, 53, 54, 55, 56, 57, 58, 59, 60, 61, 62, 63, 64, 65, 66, 67, 68, 69, 70, 71, 72, 73, 74, 75, 76, 77, 78, 79, 80, 81, 82, 83, 84, 85, 86, 87, 88, 89, 90, 91, 92, 93, 94, 95, 96, 97, 98, 99, 100, 101, 102, 103, 104, 105, 106, 107, 108, 109, 110, 111, 112, 113, 114, 115, 116, 117, 118, 119, 120, 121, 122, 123, 124, 125, 126, 127, 128, 129, 130, 131, 132, 133, 134, 135, 136, 137, 138, 139, 140, 141, 142, 143, 144, 145, 146, 147, 148, 149, 150, 151, 152, 153, 154, 155, 156, 157, 158, 159, 160, 161, 167, 168, 169, 170, 171, 172, 173, 174, 175, 176, 177, 178, 179, 180, 181, 182, 183, 184, 185, 186, 187, 188, 189, 190, 191, 192, 193, 194, 195, 196, 197, 198, 199, 200, 201, 202, 203, 204, 205, 206, 207, 208, 209, 210] (by decide +kernel) (by decide +kernel)
set_option maxRecDepth 20000 in
theorem gX12_performAll_X12_perform : GoodIn wsX12_performAll (wsV RX12 355 RX12 yX12_perform wsX12_perform) := goodIn_app (goodIn_of _ (by decide +kernel)) ggX12_performAll_X12_perform
set_option maxRecDepth 20000 in
theorem ggX12_performAll_X11_cover : GoodIn wsX12_performAll wsX11_cover := goodIn_r _ [165, 37, 39, 38, 40, 196, 197, 198, 199] (by decide +kernel) (by decide +kernel)
set_option maxRecDepth 20000 in
theorem gX12_performAll_X11_cover : GoodIn wsX12_performAll (wsV RX12 358 RX11 yX11_cover wsX11_cover) := goodIn_app (goodIn_of _ (by decide +kernel)) ggX12_performAll_X11_cover
set_option maxRecDepth 20000 in
theorem ggX12_performAll_X11_note : GoodIn wsX12_performAll wsX11_note := goodIn_r _ [36, 37, 38, 39, 40, 196, 197, 198, 199] (by decide +kernel) (by decide +kernel)
set_option maxRecDepth 20000 in
theorem gX12_performAll_X11_note : GoodIn wsX12_performAll (wsV RX12 361 RX11 yX11_note wsX11_note) := goodIn_app (goodIn_of _ (by decide +kernel)) ggX12_performAll_X11_note
theorem dX12_performAll_0 : decode cX12_performAll 0 = .ok (.iconst 0, 1) := by decide +kernel
theorem dX12_performAll_1 : decode cX12_performAll 1 = .ok (.istore_n 1, 1) := by decide +kernel
theorem dX12_performAll_2 : decode cX12_performAll 2 = .ok (.iload_n 1, 1) := by decide +kernel
theorem dX12_performAll_3 : decode cX12_performAll 3 = .ok (.aload_n 0, 1) := by decide +kernel
theorem dX12_performAll_4 : decode cX12_performAll 4 = .ok (.getfield 36, 3) := by decide +kernel
theorem dX12_performAll_7 : decode cX12_performAll 7 = .ok (.getfield 352, 3) := by decide +kernel
theorem dX12_performAll_10 : decode cX12_performAll 10 = .ok (.if_icmp .ge 47, 3) := by decide +kernel
theorem dX12_performAll_13 : decode cX12_performAll 13 = .ok (.aload_n 0, 1) := by decide +kernel
theorem dX12_performAll_14 : decode cX12_performAll 14 = .ok (.iload_n 1, 1) := by decide +kernel
theorem dX12_performAll_15 : decode cX12_performAll 15 = .ok (.invokevirtual 355, 3) := by decide +kernel
theorem dX12_performAll_18 : decode cX12_performAll 18 = .ok (.istore_n 2, 1) := by decide +kernel
theorem dX12_performAll_19 : decode cX12_performAll 19 = .ok (.iload_n 2, 1) := by decide +kernel
theorem dX12_performAll_20 : decode cX12_performAll 20 = .ok (.bipush (-3), 2) := by decide +kernel
theorem dX12_performAll_22 : decode cX12_performAll 22 = .ok (.if_icmp .ne 14, 3) := by decide +kernel
theorem dX12_performAll_25 : decode cX12_performAll 25 = .ok (.aload_n 0, 1) := by decide +kernel
theorem dX12_performAll_26 : decode cX12_performAll 26 = .ok (.getfield 43, 3) := by decide +kernel
theorem dX12_performAll_29 : decode cX12_performAll 29 = .ok (.bipush 10, 2) := by decide +kernel
theorem dX12_performAll_31 : decode cX12_performAll 31 = .ok (.iload_n 1, 1) := by decide +kernel
theorem dX12_performAll_32 : decode cX12_performAll 32 = .ok (.invokevirtual 358, 3) := by decide +kernel
theorem dX12_performAll_35 : decode cX12_performAll 35 = .ok (.ireturn, 1) := by decide +kernel
theorem dX12_performAll_36 : decode cX12_performAll 36 = .ok (.iload_n 2, 1) := by decide +kernel
theorem dX12_performAll_37 : decode cX12_performAll 37 = .ok (.ifCond .ge 14, 3) := by decide +kernel
theorem dX12_performAll_40 : decode cX12_performAll 40 = .ok (.aload_n 0, 1) := by decide +kernel
theorem dX12_performAll_41 : decode cX12_performAll 41 = .ok (.getfield 43, 3) := by decide +kernel
theorem dX12_performAll_44 : decode cX12_performAll 44 = .ok (.bipush 11, 2) := by decide +kernel
theorem dX12_performAll_46 : decode cX12_performAll 46 = .ok (.iload_n 1, 1) := by decide +kernel
theorem dX12_performAll_47 : decode cX12_performAll 47 = .ok (.invokevirtual 361, 3) := by decide +kernel
theorem dX12_performAll_50 : decode cX12_performAll 50 = .ok (.ireturn, 1) := by decide +kernel
theorem dX12_performAll_51 : decode cX12_performAll 51 = .ok (.iinc 1 1, 3) := by decide +kernel
theorem dX12_performAll_54 : decode cX12_performAll 54 = .ok (.goto (-52), 3) := by decide +kernel
theorem dX12_performAll_57 : decode cX12_performAll 57 = .ok (.aload_n 0, 1) := by decide +kernel
theorem dX12_performAll_58 : decode cX12_performAll 58 = .ok (.getfield 36, 3) := by decide +kernel
theorem dX12_performAll_61 : decode cX12_performAll 61 = .ok (.getfield 352, 3) := by decide +kernel
theorem dX12_performAll_64 : decode cX12_performAll 64 = .ok (.ireturn, 1) := by decide +kernel
set_option maxRecDepth 20000 in
theorem ggX12_perform_Jx29ce0_ordinal_8abf5 : GoodIn wsX12_perform wsJx29ce0_ordinal_8abf5 := goodIn_r _ [15, 16] (by decide +kernel) (by decide +kernel)
set_option maxRecDepth 20000 in
theorem gX12_perform_Jx29ce0_ordinal_8abf5_u385X2 : GoodIn wsX12_perform (va_wsU RX12 385 RX2 "java/lang/Enum" ⟨"BalconyCensus$Command", "ordinal", "()I"⟩ yJx29ce0_ordinal_8abf5 wsJx29ce0_ordinal_8abf5) := goodIn_app (goodIn_of _ (by decide +kernel)) ggX12_perform_Jx29ce0_ordinal_8abf5
set_option maxRecDepth 20000 in
theorem ggX12_perform_X6_putPlants : GoodIn wsX12_perform wsX6_putPlants := goodIn_r _ [21, 22, 23, 24, 25, 26, 27, 28, 29, 30, 31, 32, 33, 34, 35, 176, 177, 178, 179, 180, 181, 182, 183, 184, 185, 186, 187, 188, 189] (by decide +kernel) (by decide +kernel)
set_option maxRecDepth 20000 in
theorem gX12_perform_X6_putPlants : GoodIn wsX12_perform (wsV RX12 90 RX6 yX6_putPlants wsX6_putPlants) := goodIn_app (goodIn_of _ (by decide +kernel)) ggX12_perform_X6_putPlants
set_option maxRecDepth 20000 in
theorem ggX12_perform_X6_changeTolerance : GoodIn wsX12_perform wsX6_changeTolerance := goodIn_r _ [39, 40, 24, 25, 26, 27, 28, 29, 30, 31, 32, 33, 34, 35, 176, 177, 178, 179, 180, 181, 182, 183, 184, 185, 186, 187, 188, 189] (by decide +kernel) (by decide +kernel)
set_option maxRecDepth 20000 in
theorem gX12_perform_X6_changeTolerance : GoodIn wsX12_perform (wsV RX12 98 RX6 yX6_changeTolerance wsX6_changeTolerance) := goodIn_app (goodIn_of _ (by decide +kernel)) ggX12_perform_X6_changeTolerance
set_option maxRecDepth 20000 in
theorem ggX12_perform_X6_hangLine : GoodIn wsX12_perform wsX6_hangLine := goodIn_r _ [44, 45, 46, 47, 48, 25, 49, 50, 24, 26, 27, 28, 29, 30, 31, 32, 33, 34, 35, 51, 52, 53, 54, 55, 56, 57, 58, 59, 60, 61, 62, 63, 64, 65, 66, 67, 68, 69, 70, 71, 176, 177, 178, 179, 180, 181, 182, 183, 184, 185, 190, 191, 192, 193, 194, 186, 187, 188, 189] (by decide +kernel) (by decide +kernel)
set_option maxRecDepth 20000 in
theorem gX12_perform_X6_hangLine : GoodIn wsX12_perform (wsV RX12 101 RX6 yX6_hangLine wsX6_hangLine) := goodIn_app (goodIn_of _ (by decide +kernel)) ggX12_perform_X6_hangLine
set_option maxRecDepth 20000 in
theorem ggX12_perform_X6_letGreet : GoodIn wsX12_perform wsX6_letGreet := goodIn_r _ [75, 76, 68, 65, 69, 77, 48, 25, 49, 50, 24, 26, 27, 28, 29, 30, 31, 32, 33, 34, 35, 78, 79, 80, 20, 81, 82, 64, 66, 22, 40, 45, 51, 52, 53, 54, 55, 56, 57, 58, 83, 84, 85, 86, 87, 88, 89, 90, 91, 92, 93, 94, 95, 96, 97, 98, 176, 177, 178, 179, 180, 181, 182, 183, 184, 185, 186, 187, 188, 189, 190, 191, 192, 193, 194, 195, 196] (by decide +kernel) (by decide +kernel)
set_option maxRecDepth 20000 in
theorem gX12_perform_X6_letGreet : GoodIn wsX12_perform (wsV RX12 105 RX6 yX6_letGreet wsX6_letGreet) := goodIn_app (goodIn_of _ (by decide +kernel)) ggX12_perform_X6_letGreet
set_option maxRecDepth 20000 in
theorem ggX12_perform_X6_givePlants : GoodIn wsX12_perform wsX6_givePlants := goodIn_r _ [102, 76, 68, 65, 69, 22, 103, 48, 25, 49, 50, 24, 26, 27, 28, 29, 30, 31, 32, 33, 34, 35, 78, 79, 80, 20, 81, 82, 64, 66, 40, 45, 51, 52, 53, 54, 55, 56, 57, 58, 176, 177, 178, 179, 180, 181, 182, 183, 184, 185, 186, 187, 188, 189, 190, 191, 192, 193, 194] (by decide +kernel) (by decide +kernel)
set_option maxRecDepth 20000 in
theorem gX12_perform_X6_givePlants : GoodIn wsX12_perform (wsV RX12 108 RX6 yX6_givePlants wsX6_givePlants) := goodIn_app (goodIn_of _ (by decide +kernel)) ggX12_perform_X6_givePlants
set_option maxRecDepth 20000 in
theorem ggX12_perform_X6_letCatCome : GoodIn wsX12_perform wsX6_letCatCome := goodIn_r _ [107, 108, 109, 24, 25, 26, 110, 111, 112, 113, 114, 115, 116, 27, 28, 29, 30, 31, 32, 33, 34, 35, 117, 118, 119, 120, 121, 122, 176, 177, 178, 179, 180, 181, 182, 183, 184, 185, 197, 198, 199, 200, 186, 187, 188, 189] (by decide +kernel) (by decide +kernel)
set_option maxRecDepth 20000 in
theorem gX12_perform_X6_letCatCome : GoodIn wsX12_perform (wsV RX12 111 RX6 yX6_letCatCome wsX6_letCatCome) := goodIn_app (goodIn_of _ (by decide +kernel)) ggX12_perform_X6_letCatCome
set_option maxRecDepth 20000 in
theorem ggX12_perform_X6_swapCats : GoodIn wsX12_perform wsX6_swapCats := goodIn_r _ [126, 76, 68, 65, 69, 108, 109, 48, 25, 49, 50, 24, 26, 27, 28, 29, 30, 31, 32, 33, 34, 35, 78, 79, 80, 20, 81, 82, 64, 66, 22, 40, 45, 51, 52, 53, 54, 55, 56, 57, 58, 110, 111, 112, 113, 114, 115, 116, 127, 128, 129, 130, 122, 176, 177, 178, 179, 180, 181, 182, 183, 184, 185, 197, 198, 199, 200, 186, 187, 188, 189, 190, 191, 192, 193, 194] (by decide +kernel) (by decide +kernel)
set_option maxRecDepth 20000 in
theorem gX12_perform_X6_swapCats : GoodIn wsX12_perform (wsV RX12 115 RX6 yX6_swapCats wsX6_swapCats) := goodIn_app (goodIn_of _ (by decide +kernel)) ggX12_perform_X6_swapCats
set_option maxRecDepth 20000 in
theorem ggX12_perform_X6_endDay : GoodIn wsX12_perform wsX6_endDay := goodIn_r _ [134, 22, 135, 136, 137, 138, 139, 140, 45, 77, 141, 142, 143, 20, 144, 145, 146, 147, 54, 148, 56, 70, 57, 58, 149, 150, 151, 86, 152, 88, 153, 154, 155, 156, 176, 177, 178, 179, 180, 181, 182, 183, 184, 185, 190, 191, 192, 193, 194, 195, 196] (by decide +kernel) (by decide +kernel)
set_option maxRecDepth 20000 in
theorem gX12_perform_X6_endDay : GoodIn wsX12_perform (wsV RX12 118 RX6 yX6_endDay wsX6_endDay) := goodIn_app (goodIn_of _ (by decide +kernel)) ggX12_perform_X6_endDay
theorem dX12_perform_0 : decode cX12_perform 0 = .ok (.aload_n 0, 1) := by decide +kernel
theorem dX12_perform_1 : decode cX12_perform 1 = .ok (.getfield 36, 3) := by decide +kernel
theorem dX12_perform_4 : decode cX12_perform 4 = .ok (.getfield 364, 3) := by decide +kernel
theorem dX12_perform_7 : decode cX12_perform 7 = .ok (.iload_n 1, 1) := by decide +kernel
theorem dX12_perform_8 : decode cX12_perform 8 = .ok (.iaload, 1) := by decide +kernel
theorem dX12_perform_9 : decode cX12_perform 9 = .ok (.istore_n 2, 1) := by decide +kernel
theorem dX12_perform_10 : decode cX12_perform 10 = .ok (.aload_n 0, 1) := by decide +kernel
theorem dX12_perform_11 : decode cX12_perform 11 = .ok (.getfield 36, 3) := by decide +kernel
theorem dX12_perform_14 : decode cX12_perform 14 = .ok (.getfield 367, 3) := by decide +kernel
theorem dX12_perform_17 : decode cX12_perform 17 = .ok (.iload_n 1, 1) := by decide +kernel
theorem dX12_perform_18 : decode cX12_perform 18 = .ok (.iaload, 1) := by decide +kernel
theorem dX12_perform_19 : decode cX12_perform 19 = .ok (.istore_n 3, 1) := by decide +kernel
theorem dX12_perform_20 : decode cX12_perform 20 = .ok (.aload_n 0, 1) := by decide +kernel
theorem dX12_perform_21 : decode cX12_perform 21 = .ok (.getfield 36, 3) := by decide +kernel
theorem dX12_perform_24 : decode cX12_perform 24 = .ok (.getfield 370, 3) := by decide +kernel
theorem dX12_perform_27 : decode cX12_perform 27 = .ok (.iload_n 1, 1) := by decide +kernel
theorem dX12_perform_28 : decode cX12_perform 28 = .ok (.iaload, 1) := by decide +kernel
theorem dX12_perform_29 : decode cX12_perform 29 = .ok (.istore 4, 2) := by decide +kernel
theorem dX12_perform_31 : decode cX12_perform 31 = .ok (.getstatic 373, 3) := by decide +kernel
theorem dX12_perform_34 : decode cX12_perform 34 = .ok (.getstatic 378, 3) := by decide +kernel
theorem dX12_perform_37 : decode cX12_perform 37 = .ok (.aload_n 0, 1) := by decide +kernel
theorem dX12_perform_38 : decode cX12_perform 38 = .ok (.getfield 36, 3) := by decide +kernel
theorem dX12_perform_41 : decode cX12_perform 41 = .ok (.getfield 382, 3) := by decide +kernel
theorem dX12_perform_44 : decode cX12_perform 44 = .ok (.iload_n 1, 1) := by decide +kernel
theorem dX12_perform_45 : decode cX12_perform 45 = .ok (.iaload, 1) := by decide +kernel
theorem dX12_perform_46 : decode cX12_perform 46 = .ok (.aaload, 1) := by decide +kernel
theorem dX12_perform_47 : decode cX12_perform 47 = .ok (.invokevirtual 385, 3) := by decide +kernel
theorem dX12_perform_50 : decode cX12_perform 50 = .ok (.iaload, 1) := by decide +kernel
theorem dX12_perform_51 : decode cX12_perform 51 = .ok (.tableswitch 144 1 7 #[41, 56, 71, 87, 101, 117, 130], 41) := by decide +kernel
theorem dX12_perform_92 : decode cX12_perform 92 = .ok (.aload_n 0, 1) := by decide +kernel
theorem dX12_perform_93 : decode cX12_perform 93 = .ok (.getfield 16, 3) := by decide +kernel
theorem dX12_perform_96 : decode cX12_perform 96 = .ok (.iload_n 2, 1) := by decide +kernel
theorem dX12_perform_97 : decode cX12_perform 97 = .ok (.iload 4, 2) := by decide +kernel
theorem dX12_perform_99 : decode cX12_perform 99 = .ok (.aload_n 0, 1) := by decide +kernel
theorem dX12_perform_100 : decode cX12_perform 100 = .ok (.getfield 43, 3) := by decide +kernel
theorem dX12_perform_103 : decode cX12_perform 103 = .ok (.invokevirtual 90, 3) := by decide +kernel
theorem dX12_perform_106 : decode cX12_perform 106 = .ok (.ireturn, 1) := by decide +kernel
theorem dX12_perform_107 : decode cX12_perform 107 = .ok (.aload_n 0, 1) := by decide +kernel
theorem dX12_perform_108 : decode cX12_perform 108 = .ok (.getfield 16, 3) := by decide +kernel
theorem dX12_perform_111 : decode cX12_perform 111 = .ok (.iload_n 2, 1) := by decide +kernel
theorem dX12_perform_112 : decode cX12_perform 112 = .ok (.iload 4, 2) := by decide +kernel
theorem dX12_perform_114 : decode cX12_perform 114 = .ok (.aload_n 0, 1) := by decide +kernel
theorem dX12_perform_115 : decode cX12_perform 115 = .ok (.getfield 43, 3) := by decide +kernel
theorem dX12_perform_118 : decode cX12_perform 118 = .ok (.invokevirtual 98, 3) := by decide +kernel
theorem dX12_perform_121 : decode cX12_perform 121 = .ok (.ireturn, 1) := by decide +kernel
theorem dX12_perform_122 : decode cX12_perform 122 = .ok (.aload_n 0, 1) := by decide +kernel
theorem dX12_perform_123 : decode cX12_perform 123 = .ok (.getfield 16, 3) := by decide +kernel
theorem dX12_perform_126 : decode cX12_perform 126 = .ok (.iload_n 2, 1) := by decide +kernel
theorem dX12_perform_127 : decode cX12_perform 127 = .ok (.iload_n 3, 1) := by decide +kernel
theorem dX12_perform_128 : decode cX12_perform 128 = .ok (.iload 4, 2) := by decide +kernel
theorem dX12_perform_130 : decode cX12_perform 130 = .ok (.aload_n 0, 1) := by decide +kernel
theorem dX12_perform_131 : decode cX12_perform 131 = .ok (.getfield 43, 3) := by decide +kernel
theorem dX12_perform_134 : decode cX12_perform 134 = .ok (.invokevirtual 101, 3) := by decide +kernel
theorem dX12_perform_137 : decode cX12_perform 137 = .ok (.ireturn, 1) := by decide +kernel
theorem dX12_perform_138 : decode cX12_perform 138 = .ok (.aload_n 0, 1) := by decide +kernel
theorem dX12_perform_139 : decode cX12_perform 139 = .ok (.getfield 16, 3) := by decide +kernel
theorem dX12_perform_142 : decode cX12_perform 142 = .ok (.iload_n 2, 1) := by decide +kernel
theorem dX12_perform_143 : decode cX12_perform 143 = .ok (.iload_n 3, 1) := by decide +kernel
theorem dX12_perform_144 : decode cX12_perform 144 = .ok (.aload_n 0, 1) := by decide +kernel
theorem dX12_perform_145 : decode cX12_perform 145 = .ok (.getfield 43, 3) := by decide +kernel
theorem dX12_perform_148 : decode cX12_perform 148 = .ok (.invokevirtual 105, 3) := by decide +kernel
theorem dX12_perform_151 : decode cX12_perform 151 = .ok (.ireturn, 1) := by decide +kernel
theorem dX12_perform_152 : decode cX12_perform 152 = .ok (.aload_n 0, 1) := by decide +kernel
theorem dX12_perform_153 : decode cX12_perform 153 = .ok (.getfield 16, 3) := by decide +kernel
theorem dX12_perform_156 : decode cX12_perform 156 = .ok (.iload_n 2, 1) := by decide +kernel
theorem dX12_perform_157 : decode cX12_perform 157 = .ok (.iload_n 3, 1) := by decide +kernel
theorem dX12_perform_158 : decode cX12_perform 158 = .ok (.iload 4, 2) := by decide +kernel
theorem dX12_perform_160 : decode cX12_perform 160 = .ok (.aload_n 0, 1) := by decide +kernel
theorem dX12_perform_161 : decode cX12_perform 161 = .ok (.getfield 43, 3) := by decide +kernel
theorem dX12_perform_164 : decode cX12_perform 164 = .ok (.invokevirtual 108, 3) := by decide +kernel
theorem dX12_perform_167 : decode cX12_perform 167 = .ok (.ireturn, 1) := by decide +kernel
theorem dX12_perform_168 : decode cX12_perform 168 = .ok (.aload_n 0, 1) := by decide +kernel
theorem dX12_perform_169 : decode cX12_perform 169 = .ok (.getfield 16, 3) := by decide +kernel
theorem dX12_perform_172 : decode cX12_perform 172 = .ok (.iload_n 2, 1) := by decide +kernel
theorem dX12_perform_173 : decode cX12_perform 173 = .ok (.aload_n 0, 1) := by decide +kernel
theorem dX12_perform_174 : decode cX12_perform 174 = .ok (.getfield 43, 3) := by decide +kernel
theorem dX12_perform_177 : decode cX12_perform 177 = .ok (.invokevirtual 111, 3) := by decide +kernel
theorem dX12_perform_180 : decode cX12_perform 180 = .ok (.ireturn, 1) := by decide +kernel
theorem dX12_perform_181 : decode cX12_perform 181 = .ok (.aload_n 0, 1) := by decide +kernel
theorem dX12_perform_182 : decode cX12_perform 182 = .ok (.getfield 16, 3) := by decide +kernel
theorem dX12_perform_185 : decode cX12_perform 185 = .ok (.iload_n 2, 1) := by decide +kernel
theorem dX12_perform_186 : decode cX12_perform 186 = .ok (.iload_n 3, 1) := by decide +kernel
theorem dX12_perform_187 : decode cX12_perform 187 = .ok (.aload_n 0, 1) := by decide +kernel
theorem dX12_perform_188 : decode cX12_perform 188 = .ok (.getfield 43, 3) := by decide +kernel
theorem dX12_perform_191 : decode cX12_perform 191 = .ok (.invokevirtual 115, 3) := by decide +kernel
theorem dX12_perform_194 : decode cX12_perform 194 = .ok (.ireturn, 1) := by decide +kernel
theorem dX12_perform_195 : decode cX12_perform 195 = .ok (.aload_n 0, 1) := by decide +kernel
theorem dX12_perform_196 : decode cX12_perform 196 = .ok (.getfield 16, 3) := by decide +kernel
theorem dX12_perform_199 : decode cX12_perform 199 = .ok (.invokevirtual 118, 3) := by decide +kernel
theorem dX12_perform_202 : decode cX12_perform 202 = .ok (.ireturn, 1) := by decide +kernel
set_option maxRecDepth 20000 in
theorem ggX12_writeBalcony_J4_append_bf812 : GoodIn wsX12_writeBalcony wsJ4_append_bf812 := goodIn_r _ [9, 10, 11, 12, 13, 14, 15, 16, 17, 18, 19, 20, 21, 22, 23, 24, 25, 26, 27, 28, 29, 30, 31, 32, 33, 34, 35, 36, 37, 38, 39, 40, 41, 42, 43, 44, 45, 46, 47, 48, 49, 50, 51, 52, 53, 54, 55, 56, 57, 58, 59, 60, 61, 62, 63, 64, 65, 66, 67, 68, 69, 70, 71, 72, 73, 74, 75, 76, 77, 78, 79, 80, 81, 82, 83, 84, 85, 86, 87, 88, 89, 90, 91, 92, 93, 94, 95, 96, 97, 98, 99, 100, 101, 102, 103, 104, 206, 207, 208, 209] (by decide +kernel) (by decide +kernel)
set_option maxRecDepth 20000 in
theorem gX12_writeBalcony_J4_append_bf812 : GoodIn wsX12_writeBalcony (wsV RX12 289 RJ4 yJ4_append_bf812 wsJ4_append_bf812) := goodIn_app (goodIn_of _ (by decide +kernel)) ggX12_writeBalcony_J4_append_bf812
set_option maxRecDepth 20000 in
theorem ggX12_writeBalcony_X1_catOn : GoodIn wsX12_writeBalcony wsX1_catOn := goodIn_r _ [109, 110, 111, 210, 211, 212, 213] (by decide +kernel) (by decide +kernel)
set_option maxRecDepth 20000 in
theorem gX12_writeBalcony_X1_catOn : GoodIn wsX12_writeBalcony (wsV RX12 161 RX1 yX1_catOn wsX1_catOn) := goodIn_app (goodIn_of _ (by decide +kernel)) ggX12_writeBalcony_X1_catOn
set_option maxRecDepth 20000 in
theorem ggX12_writeBalcony_J4_append_cf468 : GoodIn wsX12_writeBalcony wsJ4_append_cf468 := goodIn_r _ [115, 116, 117, 12, 118, 14, 119, 16, 17, 22, 23, 24, 25, 26, 27, 28, 29, 30, 31, 32, 33, 34, 35, 36, 37, 38, 39, 40, 41, 42, 43, 44, 45, 46, 47, 48, 49, 50, 51, 52, 53, 54, 55, 56, 57, 58, 59, 60, 61, 62, 63, 64, 65, 66, 67, 68, 69, 120, 121, 122, 123, 124, 125, 126, 127, 128, 129, 130, 77, 131, 132, 133, 134, 135, 136, 137, 138, 139, 140, 141, 142, 143, 144, 83, 84, 85, 145, 146, 88, 147, 90, 148, 149, 93, 150, 100, 101, 102, 79, 103, 104, 151, 152, 153, 154, 155, 156, 157, 158, 159, 160, 161, 162, 206, 207, 208, 209] (by decide +kernel) (by decide +kernel)
set_option maxRecDepth 20000 in
theorem gX12_writeBalcony_J4_append_cf468 : GoodIn wsX12_writeBalcony (wsV RX12 279 RJ4 yJ4_append_cf468 wsJ4_append_cf468) := goodIn_app (goodIn_of _ (by decide +kernel)) ggX12_writeBalcony_J4_append_cf468
set_option maxRecDepth 20000 in
theorem ggX12_writeBalcony_X3_ofBalcony : GoodIn wsX12_writeBalcony wsX3_ofBalcony := goodIn_r _ [166, 167, 168, 169, 170, 171, 172, 39, 40, 41, 173, 58, 59, 174, 175, 176, 177, 178, 179, 180, 181, 182, 183, 184, 196, 197, 198, 199, 200, 201, 202, 203, 204, 205, 214, 215, 216, 217, 218] (by decide +kernel) (by decide +kernel)
set_option maxRecDepth 20000 in
theorem gX12_writeBalcony_X3_ofBalcony : GoodIn wsX12_writeBalcony (va_wsS RX12 166 yX3_ofBalcony wsX3_ofBalcony) := goodIn_app (goodIn_of _ (by decide +kernel)) ggX12_writeBalcony_X3_ofBalcony
theorem dX12_writeBalcony_0 : decode cX12_writeBalcony 0 = .ok (.aload_n 0, 1) := by decide +kernel
theorem dX12_writeBalcony_1 : decode cX12_writeBalcony 1 = .ok (.getfield 64, 3) := by decide +kernel
theorem dX12_writeBalcony_4 : decode cX12_writeBalcony 4 = .ok (.aload_n 0, 1) := by decide +kernel
theorem dX12_writeBalcony_5 : decode cX12_writeBalcony 5 = .ok (.getfield 12, 3) := by decide +kernel
theorem dX12_writeBalcony_8 : decode cX12_writeBalcony 8 = .ok (.getfield 150, 3) := by decide +kernel
theorem dX12_writeBalcony_11 : decode cX12_writeBalcony 11 = .ok (.iload_n 1, 1) := by decide +kernel
theorem dX12_writeBalcony_12 : decode cX12_writeBalcony 12 = .ok (.iaload, 1) := by decide +kernel
theorem dX12_writeBalcony_13 : decode cX12_writeBalcony 13 = .ok (.invokevirtual 289, 3) := by decide +kernel
theorem dX12_writeBalcony_16 : decode cX12_writeBalcony 16 = .ok (.pop, 1) := by decide +kernel
theorem dX12_writeBalcony_17 : decode cX12_writeBalcony 17 = .ok (.aload_n 0, 1) := by decide +kernel
theorem dX12_writeBalcony_18 : decode cX12_writeBalcony 18 = .ok (.getfield 12, 3) := by decide +kernel
theorem dX12_writeBalcony_21 : decode cX12_writeBalcony 21 = .ok (.getfield 157, 3) := by decide +kernel
theorem dX12_writeBalcony_24 : decode cX12_writeBalcony 24 = .ok (.iload_n 1, 1) := by decide +kernel
theorem dX12_writeBalcony_25 : decode cX12_writeBalcony 25 = .ok (.invokevirtual 161, 3) := by decide +kernel
theorem dX12_writeBalcony_28 : decode cX12_writeBalcony 28 = .ok (.istore_n 2, 1) := by decide +kernel
theorem dX12_writeBalcony_29 : decode cX12_writeBalcony 29 = .ok (.iload_n 2, 1) := by decide +kernel
theorem dX12_writeBalcony_30 : decode cX12_writeBalcony 30 = .ok (.ifCond .lt 16, 3) := by decide +kernel
theorem dX12_writeBalcony_33 : decode cX12_writeBalcony 33 = .ok (.aload_n 0, 1) := by decide +kernel
theorem dX12_writeBalcony_34 : decode cX12_writeBalcony 34 = .ok (.getfield 64, 3) := by decide +kernel
theorem dX12_writeBalcony_37 : decode cX12_writeBalcony 37 = .ok (.bipush 97, 2) := by decide +kernel
theorem dX12_writeBalcony_39 : decode cX12_writeBalcony 39 = .ok (.iload_n 2, 1) := by decide +kernel
theorem dX12_writeBalcony_40 : decode cX12_writeBalcony 40 = .ok (.iadd, 1) := by decide +kernel
theorem dX12_writeBalcony_41 : decode cX12_writeBalcony 41 = .ok (.i2c, 1) := by decide +kernel
theorem dX12_writeBalcony_42 : decode cX12_writeBalcony 42 = .ok (.invokevirtual 279, 3) := by decide +kernel
theorem dX12_writeBalcony_45 : decode cX12_writeBalcony 45 = .ok (.pop, 1) := by decide +kernel
theorem dX12_writeBalcony_46 : decode cX12_writeBalcony 46 = .ok (.aload_n 0, 1) := by decide +kernel
theorem dX12_writeBalcony_47 : decode cX12_writeBalcony 47 = .ok (.getfield 12, 3) := by decide +kernel
theorem dX12_writeBalcony_50 : decode cX12_writeBalcony 50 = .ok (.iload_n 1, 1) := by decide +kernel
theorem dX12_writeBalcony_51 : decode cX12_writeBalcony 51 = .ok (.invokestatic 166, 3) := by decide +kernel
theorem dX12_writeBalcony_54 : decode cX12_writeBalcony 54 = .ok (.ifCond .le 13, 3) := by decide +kernel
theorem dX12_writeBalcony_57 : decode cX12_writeBalcony 57 = .ok (.aload_n 0, 1) := by decide +kernel
theorem dX12_writeBalcony_58 : decode cX12_writeBalcony 58 = .ok (.getfield 64, 3) := by decide +kernel
theorem dX12_writeBalcony_61 : decode cX12_writeBalcony 61 = .ok (.bipush 33, 2) := by decide +kernel
theorem dX12_writeBalcony_63 : decode cX12_writeBalcony 63 = .ok (.invokevirtual 279, 3) := by decide +kernel
theorem dX12_writeBalcony_66 : decode cX12_writeBalcony 66 = .ok (.pop, 1) := by decide +kernel
theorem dX12_writeBalcony_67 : decode cX12_writeBalcony 67 = .ok (.return_, 1) := by decide +kernel
set_option maxRecDepth 20000 in
theorem ggX12_areStepsAlike_X9_walkFrom : GoodIn wsX12_areStepsAlike wsX9_walkFrom := goodIn_r _ [7, 8, 9, 10, 11, 12, 13, 14, 15, 6, 16, 17, 18, 19, 20, 21, 22, 23, 24, 25, 26, 27, 28, 29, 30, 31, 32, 33, 34, 35, 36, 37, 38, 39, 40, 41, 42, 43, 44, 45, 46, 71, 72, 73, 74, 75, 76, 77, 78, 79, 80, 81, 82, 83, 84, 85, 86, 87] (by decide +kernel) (by decide +kernel)
set_option maxRecDepth 20000 in
theorem gX12_areStepsAlike_X9_walkFrom : GoodIn wsX12_areStepsAlike (wsV RX12 219 RX9 yX9_walkFrom wsX9_walkFrom) := goodIn_app (goodIn_of _ (by decide +kernel)) ggX12_areStepsAlike_X9_walkFrom
set_option maxRecDepth 20000 in
theorem ggX12_areStepsAlike_X9_lessenFrom : GoodIn wsX12_areStepsAlike wsX9_lessenFrom := goodIn_r _ [50, 51, 9, 10, 11, 12, 52, 53, 54, 6, 55, 17, 18, 19, 20, 21, 22, 23, 24, 25, 26, 27, 28, 29, 30, 31, 32, 33, 34, 35, 36, 37, 38, 39, 40, 41, 42, 43, 44, 45, 46, 71, 72, 73, 74, 75, 76, 77, 78, 79, 80, 81, 82, 83, 84, 85, 86, 87] (by decide +kernel) (by decide +kernel)
set_option maxRecDepth 20000 in
theorem gX12_areStepsAlike_X9_lessenFrom : GoodIn wsX12_areStepsAlike (wsV RX12 255 RX9 yX9_lessenFrom wsX9_lessenFrom) := goodIn_app (goodIn_of _ (by decide +kernel)) ggX12_areStepsAlike_X9_lessenFrom
set_option maxRecDepth 20000 in
theorem ggX12_areStepsAlike_X9_areAlike : GoodIn wsX12_areStepsAlike wsX9_areAlike := goodIn_r _ [59, 8, 51, 71, 72] (by decide +kernel) (by decide +kernel)
set_option maxRecDepth 20000 in
theorem gX12_areStepsAlike_X9_areAlike : GoodIn wsX12_areStepsAlike (wsV RX12 390 RX9 yX9_areAlike wsX9_areAlike) := goodIn_app (goodIn_of _ (by decide +kernel)) ggX12_areStepsAlike_X9_areAlike
theorem dX12_areStepsAlike_0 : decode cX12_areStepsAlike 0 = .ok (.iconst 0, 1) := by decide +kernel
theorem dX12_areStepsAlike_1 : decode cX12_areStepsAlike 1 = .ok (.istore_n 1, 1) := by decide +kernel
theorem dX12_areStepsAlike_2 : decode cX12_areStepsAlike 2 = .ok (.iload_n 1, 1) := by decide +kernel
theorem dX12_areStepsAlike_3 : decode cX12_areStepsAlike 3 = .ok (.bipush 12, 2) := by decide +kernel
theorem dX12_areStepsAlike_5 : decode cX12_areStepsAlike 5 = .ok (.if_icmp .ge 45, 3) := by decide +kernel
theorem dX12_areStepsAlike_8 : decode cX12_areStepsAlike 8 = .ok (.aload_n 0, 1) := by decide +kernel
theorem dX12_areStepsAlike_9 : decode cX12_areStepsAlike 9 = .ok (.getfield 50, 3) := by decide +kernel
theorem dX12_areStepsAlike_12 : decode cX12_areStepsAlike 12 = .ok (.aload_n 0, 1) := by decide +kernel
theorem dX12_areStepsAlike_13 : decode cX12_areStepsAlike 13 = .ok (.getfield 12, 3) := by decide +kernel
theorem dX12_areStepsAlike_16 : decode cX12_areStepsAlike 16 = .ok (.iload_n 1, 1) := by decide +kernel
theorem dX12_areStepsAlike_17 : decode cX12_areStepsAlike 17 = .ok (.invokevirtual 219, 3) := by decide +kernel
theorem dX12_areStepsAlike_20 : decode cX12_areStepsAlike 20 = .ok (.aload_n 0, 1) := by decide +kernel
theorem dX12_areStepsAlike_21 : decode cX12_areStepsAlike 21 = .ok (.getfield 50, 3) := by decide +kernel
theorem dX12_areStepsAlike_24 : decode cX12_areStepsAlike 24 = .ok (.aload_n 0, 1) := by decide +kernel
theorem dX12_areStepsAlike_25 : decode cX12_areStepsAlike 25 = .ok (.getfield 12, 3) := by decide +kernel
theorem dX12_areStepsAlike_28 : decode cX12_areStepsAlike 28 = .ok (.iload_n 1, 1) := by decide +kernel
theorem dX12_areStepsAlike_29 : decode cX12_areStepsAlike 29 = .ok (.invokevirtual 255, 3) := by decide +kernel
theorem dX12_areStepsAlike_32 : decode cX12_areStepsAlike 32 = .ok (.aload_n 0, 1) := by decide +kernel
theorem dX12_areStepsAlike_33 : decode cX12_areStepsAlike 33 = .ok (.getfield 50, 3) := by decide +kernel
theorem dX12_areStepsAlike_36 : decode cX12_areStepsAlike 36 = .ok (.invokevirtual 390, 3) := by decide +kernel
theorem dX12_areStepsAlike_39 : decode cX12_areStepsAlike 39 = .ok (.ifCond .ne 5, 3) := by decide +kernel
theorem dX12_areStepsAlike_42 : decode cX12_areStepsAlike 42 = .ok (.iconst 0, 1) := by decide +kernel
theorem dX12_areStepsAlike_43 : decode cX12_areStepsAlike 43 = .ok (.ireturn, 1) := by decide +kernel
theorem dX12_areStepsAlike_44 : decode cX12_areStepsAlike 44 = .ok (.iinc 1 1, 3) := by decide +kernel
theorem dX12_areStepsAlike_47 : decode cX12_areStepsAlike 47 = .ok (.goto (-45), 3) := by decide +kernel
theorem dX12_areStepsAlike_50 : decode cX12_areStepsAlike 50 = .ok (.iconst 1, 1) := by decide +kernel
theorem dX12_areStepsAlike_51 : decode cX12_areStepsAlike 51 = .ok (.ireturn, 1) := by decide +kernel
theorem dX12_isBalcony_0 : decode cX12_isBalcony 0 = .ok (.iload_n 0, 1) := by decide +kernel
theorem dX12_isBalcony_1 : decode cX12_isBalcony 1 = .ok (.ifCond .lt 13, 3) := by decide +kernel
theorem dX12_isBalcony_4 : decode cX12_isBalcony 4 = .ok (.iload_n 0, 1) := by decide +kernel
theorem dX12_isBalcony_5 : decode cX12_isBalcony 5 = .ok (.bipush 12, 2) := by decide +kernel
theorem dX12_isBalcony_7 : decode cX12_isBalcony 7 = .ok (.if_icmp .ge 7, 3) := by decide +kernel
theorem dX12_isBalcony_10 : decode cX12_isBalcony 10 = .ok (.iconst 1, 1) := by decide +kernel
theorem dX12_isBalcony_11 : decode cX12_isBalcony 11 = .ok (.goto 4, 3) := by decide +kernel
theorem dX12_isBalcony_14 : decode cX12_isBalcony 14 = .ok (.iconst 0, 1) := by decide +kernel
theorem dX12_isBalcony_15 : decode cX12_isBalcony 15 = .ok (.ireturn, 1) := by decide +kernel
set_option maxRecDepth 20000 in
theorem ggX12_areBalconies_X12_isBalcony : GoodIn wsX12_areBalconies wsX12_isBalcony := goodIn_r _ [4] (by decide +kernel) (by decide +kernel)
set_option maxRecDepth 20000 in
theorem gX12_areBalconies_X12_isBalcony : GoodIn wsX12_areBalconies (va_wsS RX12 146 yX12_isBalcony wsX12_isBalcony) := goodIn_app (goodIn_of _ (by decide +kernel)) ggX12_areBalconies_X12_isBalcony
theorem dX12_areBalconies_0 : decode cX12_areBalconies 0 = .ok (.iload_n 0, 1) := by decide +kernel
theorem dX12_areBalconies_1 : decode cX12_areBalconies 1 = .ok (.invokestatic 146, 3) := by decide +kernel
theorem dX12_areBalconies_4 : decode cX12_areBalconies 4 = .ok (.ifCond .eq 14, 3) := by decide +kernel
theorem dX12_areBalconies_7 : decode cX12_areBalconies 7 = .ok (.iload_n 1, 1) := by decide +kernel
theorem dX12_areBalconies_8 : decode cX12_areBalconies 8 = .ok (.invokestatic 146, 3) := by decide +kernel
theorem dX12_areBalconies_11 : decode cX12_areBalconies 11 = .ok (.ifCond .eq 7, 3) := by decide +kernel
theorem dX12_areBalconies_14 : decode cX12_areBalconies 14 = .ok (.iconst 1, 1) := by decide +kernel
theorem dX12_areBalconies_15 : decode cX12_areBalconies 15 = .ok (.goto 4, 3) := by decide +kernel
theorem dX12_areBalconies_18 : decode cX12_areBalconies 18 = .ok (.iconst 0, 1) := by decide +kernel
theorem dX12_areBalconies_19 : decode cX12_areBalconies 19 = .ok (.ireturn, 1) := by decide +kernel
