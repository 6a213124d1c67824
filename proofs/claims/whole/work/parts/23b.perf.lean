/-! perform, performAll, read: their words without the initialisation of Enum. -/
def wsX12_perform_r1B : List Cond := [Cond.fieldLink RX12 36 "BalconyCensus" "reader" "LBalconyCensus$Reader;", Cond.fieldLink RX12 364 "BalconyCensus$Reader" "firsts" "[I", Cond.fieldLink RX12 367 "BalconyCensus$Reader" "seconds" "[I", Cond.fieldLink RX12 370 "BalconyCensus$Reader" "digits" "[I", Cond.fieldLink RX12 373 "BalconyCensus$1" "$SwitchMap$BalconyCensus$Command" "[I", Cond.fieldLink RX12 378 "BalconyCensus" "COMMANDS" "[LBalconyCensus$Command;", Cond.fieldLink RX12 382 "BalconyCensus$Reader" "kinds" "[I", Cond.fieldLink RX12 16 "BalconyCensus" "draft" "LBalconyCensus$House;", Cond.fieldLink RX12 43 "BalconyCensus" "refusal" "LBalconyCensus$Refusal;", Cond.methodLink RX12 385 ⟨"BalconyCensus$Command", "ordinal", "()I"⟩, Cond.sameMethod "BalconyCensus$Command" "java/lang/Enum" "ordinal" "()I", Cond.selects RX2 ⟨"BalconyCensus$Command", "ordinal", "()I"⟩ yJx29ce0_ordinal_8abf5, Cond.instanceMethod yJx29ce0_ordinal_8abf5, Cond.initialized RX12, Cond.code yJx29ce0_ordinal_8abf5 cJx29ce0_ordinal_8abf5 1 (some .int), Cond.fieldLink RJx29ce0 7 "java/lang/Enum" "ordinal" "I", Cond.methodLink RX12 90 yX6_putPlants, Cond.instanceMethod yX6_putPlants, Cond.selects RX6 yX6_putPlants yX6_putPlants, Cond.initialized RX6, Cond.code yX6_putPlants cX6_putPlants 4 (some .int), Cond.fieldLink RX6 9 "BalconyCensus$House" "plants" "[I", Cond.fieldLink RX6 60 "BalconyCensus$House" "plantsPut" "I", Cond.static yX12_isBalcony]
def wsX12_performB : List Cond := .code yX12_perform cX12_perform 5 (some .int) :: ((wsX12_perform_r1B ++ (wsX12_perform_r2 ++ (wsX12_perform_r3 ++ (wsX12_perform_r4 ++ (wsX12_perform_r5 ++ (wsX12_perform_r6 ++ wsX12_perform_r7)))))) ++ wsX120 ++ wsX100 ++ wsX60 ++ wsX110 ++ wsX70 ++ wsX40 ++ wsX10)
def wsX12_performAll_r1B : List Cond := [Cond.fieldLink RX12 36 "BalconyCensus" "reader" "LBalconyCensus$Reader;", Cond.fieldLink RX12 352 "BalconyCensus$Reader" "commandCount" "I", Cond.fieldLink RX12 43 "BalconyCensus" "refusal" "LBalconyCensus$Refusal;", Cond.methodLink RX12 355 yX12_perform, Cond.instanceMethod yX12_perform, Cond.selects RX12 yX12_perform yX12_perform, Cond.initialized RX12, Cond.code yX12_perform cX12_perform 5 (some .int), Cond.fieldLink RX12 364 "BalconyCensus$Reader" "firsts" "[I", Cond.fieldLink RX12 367 "BalconyCensus$Reader" "seconds" "[I", Cond.fieldLink RX12 370 "BalconyCensus$Reader" "digits" "[I", Cond.fieldLink RX12 373 "BalconyCensus$1" "$SwitchMap$BalconyCensus$Command" "[I", Cond.fieldLink RX12 378 "BalconyCensus" "COMMANDS" "[LBalconyCensus$Command;", Cond.fieldLink RX12 382 "BalconyCensus$Reader" "kinds" "[I", Cond.fieldLink RX12 16 "BalconyCensus" "draft" "LBalconyCensus$House;", Cond.methodLink RX12 385 ⟨"BalconyCensus$Command", "ordinal", "()I"⟩, Cond.sameMethod "BalconyCensus$Command" "java/lang/Enum" "ordinal" "()I", Cond.selects RX2 ⟨"BalconyCensus$Command", "ordinal", "()I"⟩ yJx29ce0_ordinal_8abf5, Cond.instanceMethod yJx29ce0_ordinal_8abf5, Cond.initialized RX12, Cond.code yJx29ce0_ordinal_8abf5 cJx29ce0_ordinal_8abf5 1 (some .int), Cond.fieldLink RJx29ce0 7 "java/lang/Enum" "ordinal" "I", Cond.methodLink RX12 90 yX6_putPlants, Cond.instanceMethod yX6_putPlants]
def wsX12_performAllB : List Cond := .code yX12_performAll cX12_performAll 3 (some .int) :: ((wsX12_performAll_r1B ++ (wsX12_performAll_r2 ++ (wsX12_performAll_r3 ++ (wsX12_performAll_r4 ++ (wsX12_performAll_r5 ++ (wsX12_performAll_r6 ++ wsX12_performAll_r7)))))) ++ wsX120 ++ wsX100 ++ wsX60 ++ wsX110 ++ wsX70 ++ wsX40 ++ wsX10)
def wsX12_read_r8B : List Cond := [Cond.selects RX2 ⟨"BalconyCensus$Command", "ordinal", "()I"⟩ yJx29ce0_ordinal_8abf5, Cond.instanceMethod yJx29ce0_ordinal_8abf5, Cond.initialized RX12, Cond.code yJx29ce0_ordinal_8abf5 cJx29ce0_ordinal_8abf5 1 (some .int), Cond.fieldLink RJx29ce0 7 "java/lang/Enum" "ordinal" "I", Cond.methodLink RX12 90 yX6_putPlants, Cond.instanceMethod yX6_putPlants, Cond.selects RX6 yX6_putPlants yX6_putPlants, Cond.code yX6_putPlants cX6_putPlants 4 (some .int), Cond.static yX12_isBalcony, Cond.code yX12_isBalcony cX12_isBalcony 1 (some .boolean), Cond.methodLink RX6 86 yX11_note, Cond.instanceMethod yX11_note, Cond.selects RX11 yX11_note yX11_note, Cond.initialized RX11, Cond.code yX11_note cX11_note 3 (some .int), Cond.fieldLink RX11 9 "BalconyCensus$Refusal" "reason" "I", Cond.fieldLink RX11 15 "BalconyCensus$Refusal" "detail" "I", Cond.fieldLink RX11 18 "BalconyCensus$Refusal" "reasonBehind" "I", Cond.fieldLink RX11 21 "BalconyCensus$Refusal" "detailBehind" "I", Cond.methodLink RX12 98 yX6_changeTolerance, Cond.instanceMethod yX6_changeTolerance, Cond.selects RX6 yX6_changeTolerance yX6_changeTolerance, Cond.code yX6_changeTolerance cX6_changeTolerance 5 (some .int)]
def wsX12_readB : List Cond := .code yX12_read cX12_read 2 (some .int) :: ((wsX12_read_r1 ++ (wsX12_read_r2 ++ (wsX12_read_r3 ++ (wsX12_read_r4 ++ (wsX12_read_r5 ++ (wsX12_read_r6 ++ (wsX12_read_r7 ++ (wsX12_read_r8B ++ (wsX12_read_r9 ++ (wsX12_read_r10 ++ (wsX12_read_r11 ++ (wsX12_read_r12 ++ wsX12_read_r13)))))))))))) ++ wsX120 ++ wsX100 ++ wsX60 ++ wsX70 ++ wsX40 ++ wsX10 ++ wsX110 ++ wsX50)
set_option maxRecDepth 20000 in
theorem ggX12_readB_X10_understandText : GoodIn wsX12_readB wsX10_understandText := goodIn_r _ [10, 11, 12, 13, 14, 15, 16, 9, 17, 18, 19, 20, 21, 22, 23, 24, 25, 26, 27, 28, 29, 30, 31, 32, 33, 34, 35, 36, 37, 38, 39, 40, 41, 42, 43, 44, 45, 46, 47, 48, 49, 50, 51, 52, 53, 54, 55, 56, 57, 58, 59, 60, 61, 62, 63, 64, 65, 66, 67, 68, 69, 70, 71, 72, 73, 74, 75, 76, 77, 78, 79, 80, 81, 82, 83, 84, 85, 86, 87, 88, 89, 90, 91, 92, 93, 94, 95, 96, 97, 98, 313, 314, 315, 316, 317, 318, 319, 320] (by decide +kernel) (by decide +kernel)
set_option maxRecDepth 20000 in
theorem gX12_readB_X10_understandText : GoodIn wsX12_readB (wsV RX12 121 RX10 yX10_understandText wsX10_understandText) := goodIn_app (goodIn_of _ (by decide +kernel)) ggX12_readB_X10_understandText
set_option maxRecDepth 20000 in
theorem ggX12_readB_X10_emptyInput : GoodIn wsX12_readB wsX10_emptyInput := goodIn_r _ [102, 13, 313, 314, 315, 316, 317, 318, 319, 320] (by decide +kernel) (by decide +kernel)
set_option maxRecDepth 20000 in
theorem gX12_readB_X10_emptyInput : GoodIn wsX12_readB (wsV RX12 125 RX10 yX10_emptyInput wsX10_emptyInput) := goodIn_app (goodIn_of _ (by decide +kernel)) ggX12_readB_X10_emptyInput
set_option maxRecDepth 20000 in
theorem ggX12_readB_X6_take : GoodIn wsX12_readB wsX6_take := goodIn_r _ [107, 108, 109, 110, 111, 112, 113, 114, 115, 116, 117, 118, 119, 120, 121, 122, 123, 124, 125, 126, 127, 128, 129, 130, 131, 132, 133, 134, 135, 136, 137, 138, 139, 140, 141, 142, 143, 144, 145, 146, 147, 148, 149, 321, 322, 323, 324, 325, 326, 327, 328, 329, 330, 331, 332, 333, 334, 335, 336, 337, 338, 339, 340, 341] (by decide +kernel) (by decide +kernel)
set_option maxRecDepth 20000 in
theorem gX12_readB_X6_take : GoodIn wsX12_readB (wsV RX12 86 RX6 yX6_take wsX6_take) := goodIn_app (goodIn_of _ (by decide +kernel)) ggX12_readB_X6_take
set_option maxRecDepth 20000 in
theorem ggX12_readB_X12_performAll : GoodIn wsX12_readB wsX12_performAllB := goodIn_r _ [154, 1, 155, 156, 157, 158, 159, 153, 160, 161, 162, 163, 164, 165, 166, 4, 167, 168, 169, 170, 171, 172, 173, 174, 175, 176, 106, 177, 108, 119, 178, 179, 180, 181, 182, 183, 184, 185, 186, 187, 188, 189, 190, 191, 192, 113, 193, 194, 195, 196, 114, 197, 198, 199, 200, 201, 202, 203, 204, 124, 205, 130, 126, 128, 206, 207, 208, 209, 210, 211, 31, 212, 213, 30, 32, 129, 131, 214, 215, 216, 217, 218, 115, 219, 220, 221, 222, 223, 224, 225, 226, 135, 227, 139, 228, 229, 230, 231, 137, 232, 233, 234, 235, 236, 237, 238, 239, 240, 118, 241, 242, 243, 244, 116, 245, 246, 247, 248, 143, 249, 149, 145, 250, 251, 252, 253, 147, 148, 254, 255, 256, 257, 258, 259, 260, 261, 262, 263, 264, 265, 266, 109, 110, 111, 112, 120, 117, 267, 268, 269, 270, 271, 272, 273, 274, 275, 276, 277, 278, 279, 280, 281, 282, 283, 284, 285, 286, 302, 303, 304, 305, 306, 307, 308, 309, 310, 311, 312, 313, 314, 315, 316, 317, 318, 319, 320, 321, 322, 323, 324, 325, 326, 327, 328, 329, 330, 342, 343, 344, 345, 331, 332, 333, 334, 335, 336, 337, 338, 339, 340, 341] (by decide +kernel) (by decide +kernel)
set_option maxRecDepth 20000 in
theorem gX12_readB_X12_performAll : GoodIn wsX12_readB (wsV RX12 131 RX12 yX12_performAll wsX12_performAllB) := goodIn_app (goodIn_of _ (by decide +kernel)) ggX12_readB_X12_performAll
set_option maxRecDepth 20000 in
theorem ggX12_readB_X12_settle : GoodIn wsX12_readB wsX12_settle := goodIn_r _ [290, 291, 5, 4, 292, 293, 294, 295, 296, 297, 298, 299, 300, 211, 31, 212, 301, 104, 105, 106, 107, 108, 109, 110, 111, 112, 113, 114, 115, 116, 117, 118, 119, 120, 121, 122, 123, 124, 125, 126, 127, 128, 129, 130, 131, 132, 133, 134, 135, 136, 137, 138, 139, 140, 141, 142, 143, 144, 145, 146, 147, 148, 149, 103, 302, 303, 304, 305, 306, 307, 308, 309, 310, 311, 312, 346, 347, 348, 321, 322, 323, 324, 325, 326, 327, 328, 329, 330, 331, 332, 333, 334, 335, 336, 337, 338, 339, 340, 341] (by decide +kernel) (by decide +kernel)
set_option maxRecDepth 20000 in
theorem gX12_readB_X12_settle : GoodIn wsX12_readB (wsV RX12 94 RX12 yX12_settle wsX12_settle) := goodIn_app (goodIn_of _ (by decide +kernel)) ggX12_readB_X12_settle
set_option maxRecDepth 20000 in
theorem ggX12_performAllB_X12_perform : GoodIn wsX12_performAllB wsX12_performB := goodIn_r _ [8, 1, 9, 10, 11, 12, 13, 14, 15, 3, 16, 17, 18, 19, 20, 21, 22, 23, 24, 25, 26, 27, 28, 29, 30, 7, 31, 32, 33, 34, 35, 36, 37, 38, 39, 40, 41, 42, 43, 44, 45, 46, 47, 48, 49, 50, 51, 52, 53, 54, 55, 56, 57, 58, 59, 60, 61, 62, 63, 64, 65, 66, 67, 68, 69, 70, 71, 72, 73, 74, 75, 76, 77, 78, 79, 80, 81, 82, 83, 84, 85, 86, 87, 88, 89, 90, 91, 92, 93, 94, 95, 96, 97, 98, 99, 100, 101, 102, 103, 104, 105, 106, 107, 108, 109, 110, 111, 112, 113, 114, 115, 116, 117, 118, 119, 120, 121, 122, 123, 124, 125, 126, 127, 128, 129, 130, 131, 132, 133, 134, 135, 136, 137, 138, 139, 140, 141, 142, 143, 144, 145, 146, 147, 148, 149, 150, 151, 152, 153, 154, 155, 156, 157, 158, 159, 160, 161, 167, 168, 169, 170, 171, 172, 173, 174, 175, 176, 177, 178, 179, 180, 181, 182, 183, 184, 185, 186, 187, 188, 189, 190, 191, 192, 193, 194, 195, 196, 197, 198, 199, 200, 201, 202, 203, 204, 205, 206, 207, 208, 209, 210] (by decide +kernel) (by decide +kernel)
set_option maxRecDepth 20000 in
theorem gX12_performAllB_X12_perform : GoodIn wsX12_performAllB (wsV RX12 355 RX12 yX12_perform wsX12_performB) := goodIn_app (goodIn_of _ (by decide +kernel)) ggX12_performAllB_X12_perform
set_option maxRecDepth 20000 in
theorem ggX12_performAllB_X11_cover : GoodIn wsX12_performAllB wsX11_cover := goodIn_r _ [165, 37, 39, 38, 40, 196, 197, 198, 199] (by decide +kernel) (by decide +kernel)
set_option maxRecDepth 20000 in
theorem gX12_performAllB_X11_cover : GoodIn wsX12_performAllB (wsV RX12 358 RX11 yX11_cover wsX11_cover) := goodIn_app (goodIn_of _ (by decide +kernel)) ggX12_performAllB_X11_cover
set_option maxRecDepth 20000 in
theorem ggX12_performAllB_X11_note : GoodIn wsX12_performAllB wsX11_note := goodIn_r _ [36, 37, 38, 39, 40, 196, 197, 198, 199] (by decide +kernel) (by decide +kernel)
set_option maxRecDepth 20000 in
theorem gX12_performAllB_X11_note : GoodIn wsX12_performAllB (wsV RX12 361 RX11 yX11_note wsX11_note) := goodIn_app (goodIn_of _ (by decide +kernel)) ggX12_performAllB_X11_note
set_option maxRecDepth 20000 in
theorem ggX12_performB_Jx29ce0_ordinal_8abf5 : GoodIn wsX12_performB wsJx29ce0_ordinal_8abf5 := goodIn_r _ [15, 16] (by decide +kernel) (by decide +kernel)
set_option maxRecDepth 20000 in
theorem ggX12_performB_X6_putPlants : GoodIn wsX12_performB wsX6_putPlants := goodIn_r _ [21, 22, 23, 24, 25, 26, 27, 28, 29, 30, 31, 32, 33, 34, 35, 176, 177, 178, 179, 180, 181, 182, 183, 184, 185, 186, 187, 188, 189] (by decide +kernel) (by decide +kernel)
set_option maxRecDepth 20000 in
theorem gX12_performB_X6_putPlants : GoodIn wsX12_performB (wsV RX12 90 RX6 yX6_putPlants wsX6_putPlants) := goodIn_app (goodIn_of _ (by decide +kernel)) ggX12_performB_X6_putPlants
set_option maxRecDepth 20000 in
theorem ggX12_performB_X6_changeTolerance : GoodIn wsX12_performB wsX6_changeTolerance := goodIn_r _ [39, 40, 24, 25, 26, 27, 28, 29, 30, 31, 32, 33, 34, 35, 176, 177, 178, 179, 180, 181, 182, 183, 184, 185, 186, 187, 188, 189] (by decide +kernel) (by decide +kernel)
set_option maxRecDepth 20000 in
theorem gX12_performB_X6_changeTolerance : GoodIn wsX12_performB (wsV RX12 98 RX6 yX6_changeTolerance wsX6_changeTolerance) := goodIn_app (goodIn_of _ (by decide +kernel)) ggX12_performB_X6_changeTolerance
set_option maxRecDepth 20000 in
theorem ggX12_performB_X6_hangLine : GoodIn wsX12_performB wsX6_hangLine := goodIn_r _ [44, 45, 46, 47, 48, 25, 49, 50, 24, 26, 27, 28, 29, 30, 31, 32, 33, 34, 35, 51, 52, 53, 54, 55, 56, 57, 58, 59, 60, 61, 62, 63, 64, 65, 66, 67, 68, 69, 70, 71, 176, 177, 178, 179, 180, 181, 182, 183, 184, 185, 190, 191, 192, 193, 194, 186, 187, 188, 189] (by decide +kernel) (by decide +kernel)
set_option maxRecDepth 20000 in
theorem gX12_performB_X6_hangLine : GoodIn wsX12_performB (wsV RX12 101 RX6 yX6_hangLine wsX6_hangLine) := goodIn_app (goodIn_of _ (by decide +kernel)) ggX12_performB_X6_hangLine
set_option maxRecDepth 20000 in
theorem ggX12_performB_X6_letGreet : GoodIn wsX12_performB wsX6_letGreet := goodIn_r _ [75, 76, 68, 65, 69, 77, 48, 25, 49, 50, 24, 26, 27, 28, 29, 30, 31, 32, 33, 34, 35, 78, 79, 80, 20, 81, 82, 64, 66, 22, 40, 45, 51, 52, 53, 54, 55, 56, 57, 58, 83, 84, 85, 86, 87, 88, 89, 90, 91, 92, 93, 94, 95, 96, 97, 98, 176, 177, 178, 179, 180, 181, 182, 183, 184, 185, 186, 187, 188, 189, 190, 191, 192, 193, 194, 195, 196] (by decide +kernel) (by decide +kernel)
set_option maxRecDepth 20000 in
theorem gX12_performB_X6_letGreet : GoodIn wsX12_performB (wsV RX12 105 RX6 yX6_letGreet wsX6_letGreet) := goodIn_app (goodIn_of _ (by decide +kernel)) ggX12_performB_X6_letGreet
set_option maxRecDepth 20000 in
theorem ggX12_performB_X6_givePlants : GoodIn wsX12_performB wsX6_givePlants := goodIn_r _ [102, 76, 68, 65, 69, 22, 103, 48, 25, 49, 50, 24, 26, 27, 28, 29, 30, 31, 32, 33, 34, 35, 78, 79, 80, 20, 81, 82, 64, 66, 40, 45, 51, 52, 53, 54, 55, 56, 57, 58, 176, 177, 178, 179, 180, 181, 182, 183, 184, 185, 186, 187, 188, 189, 190, 191, 192, 193, 194] (by decide +kernel) (by decide +kernel)
set_option maxRecDepth 20000 in
theorem gX12_performB_X6_givePlants : GoodIn wsX12_performB (wsV RX12 108 RX6 yX6_givePlants wsX6_givePlants) := goodIn_app (goodIn_of _ (by decide +kernel)) ggX12_performB_X6_givePlants
set_option maxRecDepth 20000 in
theorem ggX12_performB_X6_letCatCome : GoodIn wsX12_performB wsX6_letCatCome := goodIn_r _ [107, 108, 109, 24, 25, 26, 110, 111, 112, 113, 114, 115, 116, 27, 28, 29, 30, 31, 32, 33, 34, 35, 117, 118, 119, 120, 121, 122, 176, 177, 178, 179, 180, 181, 182, 183, 184, 185, 197, 198, 199, 200, 186, 187, 188, 189] (by decide +kernel) (by decide +kernel)
set_option maxRecDepth 20000 in
theorem gX12_performB_X6_letCatCome : GoodIn wsX12_performB (wsV RX12 111 RX6 yX6_letCatCome wsX6_letCatCome) := goodIn_app (goodIn_of _ (by decide +kernel)) ggX12_performB_X6_letCatCome
set_option maxRecDepth 20000 in
theorem ggX12_performB_X6_swapCats : GoodIn wsX12_performB wsX6_swapCats := goodIn_r _ [126, 76, 68, 65, 69, 108, 109, 48, 25, 49, 50, 24, 26, 27, 28, 29, 30, 31, 32, 33, 34, 35, 78, 79, 80, 20, 81, 82, 64, 66, 22, 40, 45, 51, 52, 53, 54, 55, 56, 57, 58, 110, 111, 112, 113, 114, 115, 116, 127, 128, 129, 130, 122, 176, 177, 178, 179, 180, 181, 182, 183, 184, 185, 197, 198, 199, 200, 186, 187, 188, 189, 190, 191, 192, 193, 194] (by decide +kernel) (by decide +kernel)
set_option maxRecDepth 20000 in
theorem gX12_performB_X6_swapCats : GoodIn wsX12_performB (wsV RX12 115 RX6 yX6_swapCats wsX6_swapCats) := goodIn_app (goodIn_of _ (by decide +kernel)) ggX12_performB_X6_swapCats
set_option maxRecDepth 20000 in
theorem ggX12_performB_X6_endDay : GoodIn wsX12_performB wsX6_endDay := goodIn_r _ [134, 22, 135, 136, 137, 138, 139, 140, 45, 77, 141, 142, 143, 20, 144, 145, 146, 147, 54, 148, 56, 70, 57, 58, 149, 150, 151, 86, 152, 88, 153, 154, 155, 156, 176, 177, 178, 179, 180, 181, 182, 183, 184, 185, 190, 191, 192, 193, 194, 195, 196] (by decide +kernel) (by decide +kernel)
set_option maxRecDepth 20000 in
theorem gX12_performB_X6_endDay : GoodIn wsX12_performB (wsV RX12 118 RX6 yX6_endDay wsX6_endDay) := goodIn_app (goodIn_of _ (by decide +kernel)) ggX12_performB_X6_endDay
set_option maxHeartbeats 4000000 in
set_option maxRecDepth 100000 in
theorem c_X12_performB (l : Launch) (D : va_G) (G : Nat → ClassId) (X : Nat → Nat → Nat) (Q : Nat → Nat → Nat) (a1 : Int32) (vmn : SV) (vdr : SV) (vre : SV) (vrf : SV) (r : Int32) (vdr' : SV) (vrf' : SV) (hf : f_X12_perform a1 vmn vdr vre vrf = some (r, vdr', vrf')) (sz : Nat) : mC l yX12_perform wsX12_performB rm_X12_perform D (tyG G) (kY X) [.ref ((Q 0) 0), .int a1] (kMain Q vmn ++ kHouse G (Q 2) vdr ++ kReader G (Q 5) vre ++ kRef G (Q 6) vrf) (kMain Q vmn ++ kHouse G (Q 2) vdr' ++ kReader G (Q 5) vre ++ kRef G (Q 6) vrf') sz (some (.int r)) 0 0 := by
  refine mC_ofI (cc := cX12_perform) (maxL := 5) (ret := (some .int)) (by decide) rfl rfl (Nat.le_of_ble_eq_true rfl) ?_
  intro p e s m args below meth c Q0 hx hb hml hts hown hN hK A hD hA hE hP hS hJ ls hl
  have hl : lv_has ls 5 [(0, .ref ((Q 0) 0)), (1, .int a1)] := hl
  unfold f_X12_perform at hf
  obtain ⟨⟨hX1, hX2, hX3, hX4, hX5, hX6, hX7, hX8, hX9, hX10, hX11, hX12⟩, hX13⟩ := id hJ
  have hi10 : ∀ w ∈ u_ws RX12 TX12 11, w ∈ wsX12_performB := by decide +kernel
  have hi8 : ∀ w ∈ u_ws RX10 TX10 8, w ∈ wsX12_performB := by decide +kernel
  have hw1 := hts (.fieldLink RX12 36 "BalconyCensus" "reader" "LBalconyCensus$Reader;") (by decide +kernel)
  have hw2 := hts (.fieldLink RX12 364 "BalconyCensus$Reader" "firsts" "[I") (by decide +kernel)
  have hw3 := hts (.fieldLink RX12 367 "BalconyCensus$Reader" "seconds" "[I") (by decide +kernel)
  have hw4 := hts (.fieldLink RX12 370 "BalconyCensus$Reader" "digits" "[I") (by decide +kernel)
  have hw5 := hts (.fieldLink RX12 373 "BalconyCensus$1" "$SwitchMap$BalconyCensus$Command" "[I") (by decide +kernel)
  have hw6 := hts (.fieldLink RX12 378 "BalconyCensus" "COMMANDS" "[LBalconyCensus$Command;") (by decide +kernel)
  have hw7 := hts (.fieldLink RX12 382 "BalconyCensus$Reader" "kinds" "[I") (by decide +kernel)
  have hw8 := hts (.fieldLink RX12 16 "BalconyCensus" "draft" "LBalconyCensus$House;") (by decide +kernel)
  have hw9 := hts (.fieldLink RX12 43 "BalconyCensus" "refusal" "LBalconyCensus$Refusal;") (by decide +kernel)
  refine lv_aload_n hx hb dX12_perform_0 rfl (lv_at hl 0 rfl) ?_
  refine va_get (D := D) (ci := 10) (v := .ref (Q 5 0)) (C := RX12) (T := TX12) (N := 11) hx hb hts hi10 hown hK hP 0 rfl rfl 5 (by decide) hw1 (fun _ h9 => h9) rfl dX12_perform_1 ?_
  refine va_get (D := D) (ci := 8) (v := .ref ((Q 5) 3)) (C := RX10) (T := TX10) (N := 8) hx hb hts hi8 hown hK hP 16 rfl rfl 4 (by decide) hw2 (fun _ h9 => h9) rfl dX12_perform_4 ?_
  refine lv_iload_n hx hb dX12_perform_7 rfl (lv_at hl 1 rfl) ?_
  obtain ⟨hin, hf⟩ := ckI_of hf
  refine va_iald (D := D) hx hb hK hP 19 0 rfl rfl hin dX12_perform_8 ?_
  refine lv_istore_n (lv' := [(2, .int (vre.2 2 a1.toNatClampNeg)), (0, .ref ((Q 0) 0)), (1, .int a1)]) hx hb dX12_perform_9 rfl hl (by decide) rfl (fun ls hl => ?_)
  refine lv_aload_n hx hb dX12_perform_10 rfl (lv_at hl 1 rfl) ?_
  refine va_get (D := D) (ci := 10) (v := .ref (Q 5 0)) (C := RX12) (T := TX12) (N := 11) hx hb hts hi10 hown hK hP 0 rfl rfl 5 (by decide) hw1 (fun _ h9 => h9) rfl dX12_perform_11 ?_
  refine va_get (D := D) (ci := 8) (v := .ref ((Q 5) 4)) (C := RX10) (T := TX10) (N := 8) hx hb hts hi8 hown hK hP 16 rfl rfl 5 (by decide) hw3 (fun _ h9 => h9) rfl dX12_perform_14 ?_
  refine lv_iload_n hx hb dX12_perform_17 rfl (lv_at hl 2 rfl) ?_
  obtain ⟨hin, hf⟩ := ckI_of hf
  refine va_iald (D := D) hx hb hK hP 20 0 rfl rfl hin dX12_perform_18 ?_
  refine lv_istore_n (lv' := [(3, .int (vre.2 3 a1.toNatClampNeg)), (2, .int (vre.2 2 a1.toNatClampNeg)), (0, .ref ((Q 0) 0)), (1, .int a1)]) hx hb dX12_perform_19 rfl hl (by decide) rfl (fun ls hl => ?_)
  refine lv_aload_n hx hb dX12_perform_20 rfl (lv_at hl 2 rfl) ?_
  refine va_get (D := D) (ci := 10) (v := .ref (Q 5 0)) (C := RX12) (T := TX12) (N := 11) hx hb hts hi10 hown hK hP 0 rfl rfl 5 (by decide) hw1 (fun _ h9 => h9) rfl dX12_perform_21 ?_
  refine va_get (D := D) (ci := 8) (v := .ref ((Q 5) 5)) (C := RX10) (T := TX10) (N := 8) hx hb hts hi8 hown hK hP 16 rfl rfl 6 (by decide) hw4 (fun _ h9 => h9) rfl dX12_perform_24 ?_
  refine lv_iload_n hx hb dX12_perform_27 rfl (lv_at hl 3 rfl) ?_
  obtain ⟨hin, hf⟩ := ckI_of hf
  refine va_iald (D := D) hx hb hK hP 21 0 rfl rfl hin dX12_perform_28 ?_
  refine lv_istore (lv' := [(4, .int (vre.2 4 a1.toNatClampNeg)), (3, .int (vre.2 3 a1.toNatClampNeg)), (2, .int (vre.2 2 a1.toNatClampNeg)), (0, .ref ((Q 0) 0)), (1, .int a1)]) hx hb dX12_perform_29 hl (by decide) rfl (fun ls hl => ?_)
  refine va_gets (v := .ref (X 0 1)) hx hb hX3 hS hown hw5 (fun _ h9 => h9) dX12_perform_31 ?_
  refine va_gets (v := .ref (X 0 0)) hx hb hX1 hS hown hw6 (fun _ h9 => h9) dX12_perform_34 ?_
  refine lv_aload_n hx hb dX12_perform_37 rfl (lv_at hl 3 rfl) ?_
  refine va_get (D := D) (ci := 10) (v := .ref (Q 5 0)) (C := RX12) (T := TX12) (N := 11) hx hb hts hi10 hown hK hP 0 rfl rfl 5 (by decide) hw1 (fun _ h9 => h9) rfl dX12_perform_38 ?_
  refine va_get (D := D) (ci := 8) (v := .ref ((Q 5) 2)) (C := RX10) (T := TX10) (N := 8) hx hb hts hi8 hown hK hP 16 rfl rfl 3 (by decide) hw7 (fun _ h9 => h9) rfl dX12_perform_41 ?_
  refine lv_iload_n hx hb dX12_perform_44 rfl (lv_at hl 4 rfl) ?_
  obtain ⟨hin, hf⟩ := ckI_of hf
  refine va_iald (D := D) hx hb hK hP 18 0 rfl rfl hin dX12_perform_45 ?_
  obtain ⟨hin, hf⟩ := ckI_of hf
  have hk_1 := vp_lt hin
  refine vb_tq (v := .ref (X 1 ((vre.2 1 a1.toNatClampNeg).toNatClampNeg))) hx hb hX2 hS hin rfl dX12_perform_46 ?_
  obtain ⟨r_2, hc, hf⟩ := bd1_of hf
  refine k_ord (index := 385) (k0 := ((vre.2 1 a1.toNatClampNeg).toNatClampNeg)) ⟨hx, hb, hml, hown, hts⟩ hk_1 (Nat.le_of_ble_eq_true rfl) (Nat.le_of_ble_eq_true rfl) (Nat.le_of_ble_eq_true rfl) (Nat.le_of_ble_eq_true rfl) ggX12_performB_Jx29ce0_ordinal_8abf5 (by decide +kernel) (by decide +kernel) (by decide +kernel) (by decide +kernel) hX5 hX6 hS hl.1 (Nat.le_of_ble_eq_true rfl) dX12_perform_47 ?_
  have hr2 : r_2 = nI ((vre.2 1 a1.toNatClampNeg).toNatClampNeg) := re1 (show some (nI ((vre.2 1 a1.toNatClampNeg).toNatClampNeg)) = some r_2 from hc)
  rw [← hr2]
  obtain ⟨hin, hf⟩ := ckI_of hf
  refine va_ti (v := .int (swM r_2.toNatClampNeg)) hx hb hX4 hS hin rfl dX12_perform_50 ?_
  by_cases c1 : (swM r_2.toNatClampNeg) = 1
  · replace hf := ifT c1 hf
    refine lv_tableIn (off := 41) (tgt := 92) hx hb dX12_perform_51 (by rw [c1]; decide) (by rw [c1]; decide) (by rw [c1]; rfl) (by decide) ?_
    refine lv_aload_n hx hb dX12_perform_92 rfl (lv_at hl 3 rfl) ?_
    refine va_get (D := D) (ci := 10) (v := .ref (Q 2 0)) (C := RX12) (T := TX12) (N := 11) hx hb hts hi10 hown hK hP 0 rfl rfl 1 (by decide) hw8 (fun _ h9 => h9) rfl dX12_perform_93 ?_
    refine lv_iload_n hx hb dX12_perform_96 rfl (lv_at hl 2 rfl) ?_
    refine lv_iload hx hb dX12_perform_97 (lv_at hl 0 rfl) ?_
    refine lv_aload_n hx hb dX12_perform_99 rfl (lv_at hl 3 rfl) ?_
    refine va_get (D := D) (ci := 10) (v := .ref (Q 6 0)) (C := RX12) (T := TX12) (N := 11) hx hb hts hi10 hown hK hP 0 rfl rfl 6 (by decide) hw9 (fun _ h9 => h9) rfl dX12_perform_100 ?_
    obtain ⟨r_3, w_4, w_5, hc, hf⟩ := bd3_of hf
    refine k_V (As := [.int (vre.2 2 a1.toNatClampNeg), .int (vre.2 4 a1.toNatClampNeg), .ref ((Q 6) 0)]) (rest := []) (ws1 := (kMain Q vmn ++ kHouse G (Q 2) w_4 ++ kReader G (Q 5) vre ++ kRef G (Q 6) w_5)) ⟨hx, hb, hml, hown, hts⟩ (c_X6_putPlants l D G (Q 2) (Q 6) (vre.2 2 a1.toNatClampNeg) (vre.2 4 a1.toNatClampNeg) vdr vrf _ _ _ hc  _) (cwV 3 hts gX12_performB_X6_putPlants rfl rfl rfl (by decide +kernel) ⟨Nat.le_of_ble_eq_true rfl, Nat.le_of_ble_eq_true rfl⟩) hl.1 (Nat.le_of_ble_eq_true rfl) dX12_perform_103 ⟨Nat.le_of_ble_eq_true rfl, Nat.le_of_ble_eq_true rfl⟩ rfl kT_bl (fun _ _ _ => trivial) hN hK hP hD hS hA 1 4 rfl rfl rfl [1, 2, 3, 4, 5, 6, 7, 8, 9, 10, 11, 12, 13, 14, 15, 22] [0, 16, 17, 18, 19, 20, 21] [0, 7, 8, 9, 10, 11, 12, 13, 14, 15, 16, 17, 18, 19, 20, 21, 1, 2, 3, 4, 5, 6, 22] [0, 1, 2, 3] rfl rfl rfl ⟨by decide, by decide, by decide, by decide⟩ rfl (fun H locs hP hD hS => ?_)
    obtain ⟨rfl, rfl, rfl⟩ := re3 hf
    exact hE hP hD hS dX12_perform_106
  replace hf := ifF c1 hf
  by_cases c2 : (swM r_2.toNatClampNeg) = 2
  · replace hf := ifT c2 hf
    refine lv_tableIn (off := 56) (tgt := 107) hx hb dX12_perform_51 (by rw [c2]; decide) (by rw [c2]; decide) (by rw [c2]; rfl) (by decide) ?_
    refine lv_aload_n hx hb dX12_perform_107 rfl (lv_at hl 3 rfl) ?_
    refine va_get (D := D) (ci := 10) (v := .ref (Q 2 0)) (C := RX12) (T := TX12) (N := 11) hx hb hts hi10 hown hK hP 0 rfl rfl 1 (by decide) hw8 (fun _ h9 => h9) rfl dX12_perform_108 ?_
    refine lv_iload_n hx hb dX12_perform_111 rfl (lv_at hl 2 rfl) ?_
    refine lv_iload hx hb dX12_perform_112 (lv_at hl 0 rfl) ?_
    refine lv_aload_n hx hb dX12_perform_114 rfl (lv_at hl 3 rfl) ?_
    refine va_get (D := D) (ci := 10) (v := .ref (Q 6 0)) (C := RX12) (T := TX12) (N := 11) hx hb hts hi10 hown hK hP 0 rfl rfl 6 (by decide) hw9 (fun _ h9 => h9) rfl dX12_perform_115 ?_
    obtain ⟨r_6, w_7, w_8, hc, hf⟩ := bd3_of hf
    refine k_V (As := [.int (vre.2 2 a1.toNatClampNeg), .int (vre.2 4 a1.toNatClampNeg), .ref ((Q 6) 0)]) (rest := []) (ws1 := (kMain Q vmn ++ kHouse G (Q 2) w_7 ++ kReader G (Q 5) vre ++ kRef G (Q 6) w_8)) ⟨hx, hb, hml, hown, hts⟩ (c_X6_changeTolerance l D G (Q 2) (Q 6) (vre.2 2 a1.toNatClampNeg) (vre.2 4 a1.toNatClampNeg) vdr vrf _ _ _ hc  _) (cwV 3 hts gX12_performB_X6_changeTolerance rfl rfl rfl (by decide +kernel) ⟨Nat.le_of_ble_eq_true rfl, Nat.le_of_ble_eq_true rfl⟩) hl.1 (Nat.le_of_ble_eq_true rfl) dX12_perform_118 ⟨Nat.le_of_ble_eq_true rfl, Nat.le_of_ble_eq_true rfl⟩ rfl kT_bl (fun _ _ _ => trivial) hN hK hP hD hS hA 1 4 rfl rfl rfl [1, 2, 3, 4, 5, 6, 7, 8, 9, 10, 11, 12, 13, 14, 15, 22] [0, 16, 17, 18, 19, 20, 21] [0, 7, 8, 9, 10, 11, 12, 13, 14, 15, 16, 17, 18, 19, 20, 21, 1, 2, 3, 4, 5, 6, 22] [0, 1, 2, 3] rfl rfl rfl ⟨by decide, by decide, by decide, by decide⟩ rfl (fun H locs hP hD hS => ?_)
    obtain ⟨rfl, rfl, rfl⟩ := re3 hf
    exact hE hP hD hS dX12_perform_121
  replace hf := ifF c2 hf
  by_cases c3 : (swM r_2.toNatClampNeg) = 3
  · replace hf := ifT c3 hf
    refine lv_tableIn (off := 71) (tgt := 122) hx hb dX12_perform_51 (by rw [c3]; decide) (by rw [c3]; decide) (by rw [c3]; rfl) (by decide) ?_
    refine lv_aload_n hx hb dX12_perform_122 rfl (lv_at hl 3 rfl) ?_
    refine va_get (D := D) (ci := 10) (v := .ref (Q 2 0)) (C := RX12) (T := TX12) (N := 11) hx hb hts hi10 hown hK hP 0 rfl rfl 1 (by decide) hw8 (fun _ h9 => h9) rfl dX12_perform_123 ?_
    refine lv_iload_n hx hb dX12_perform_126 rfl (lv_at hl 2 rfl) ?_
    refine lv_iload_n hx hb dX12_perform_127 rfl (lv_at hl 1 rfl) ?_
    refine lv_iload hx hb dX12_perform_128 (lv_at hl 0 rfl) ?_
    refine lv_aload_n hx hb dX12_perform_130 rfl (lv_at hl 3 rfl) ?_
    refine va_get (D := D) (ci := 10) (v := .ref (Q 6 0)) (C := RX12) (T := TX12) (N := 11) hx hb hts hi10 hown hK hP 0 rfl rfl 6 (by decide) hw9 (fun _ h9 => h9) rfl dX12_perform_131 ?_
    obtain ⟨r_9, w_10, w_11, hc, hf⟩ := bd3_of hf
    refine k_V (As := [.int (vre.2 2 a1.toNatClampNeg), .int (vre.2 3 a1.toNatClampNeg), .int (vre.2 4 a1.toNatClampNeg), .ref ((Q 6) 0)]) (rest := []) (ws1 := (kMain Q vmn ++ kHouse G (Q 2) w_10 ++ kReader G (Q 5) vre ++ kRef G (Q 6) w_11)) ⟨hx, hb, hml, hown, hts⟩ (c_X6_hangLine l D G (Q 2) (Q 6) (vre.2 2 a1.toNatClampNeg) (vre.2 3 a1.toNatClampNeg) (vre.2 4 a1.toNatClampNeg) vdr vrf _ _ _ hc  _) (cwV 4 hts gX12_performB_X6_hangLine rfl rfl rfl (by decide +kernel) ⟨Nat.le_of_ble_eq_true rfl, Nat.le_of_ble_eq_true rfl⟩) hl.1 (Nat.le_of_ble_eq_true rfl) dX12_perform_134 ⟨Nat.le_of_ble_eq_true rfl, Nat.le_of_ble_eq_true rfl⟩ rfl kT_bl (fun _ _ _ => trivial) hN hK hP hD hS hA 1 4 rfl rfl rfl [1, 2, 3, 4, 5, 6, 7, 8, 9, 10, 11, 12, 13, 14, 15, 22] [0, 16, 17, 18, 19, 20, 21] [0, 7, 8, 9, 10, 11, 12, 13, 14, 15, 16, 17, 18, 19, 20, 21, 1, 2, 3, 4, 5, 6, 22] [0, 1, 2, 3] rfl rfl rfl ⟨by decide, by decide, by decide, by decide⟩ rfl (fun H locs hP hD hS => ?_)
    obtain ⟨rfl, rfl, rfl⟩ := re3 hf
    exact hE hP hD hS dX12_perform_137
  replace hf := ifF c3 hf
  by_cases c4 : (swM r_2.toNatClampNeg) = 4
  · replace hf := ifT c4 hf
    refine lv_tableIn (off := 87) (tgt := 138) hx hb dX12_perform_51 (by rw [c4]; decide) (by rw [c4]; decide) (by rw [c4]; rfl) (by decide) ?_
    refine lv_aload_n hx hb dX12_perform_138 rfl (lv_at hl 3 rfl) ?_
    refine va_get (D := D) (ci := 10) (v := .ref (Q 2 0)) (C := RX12) (T := TX12) (N := 11) hx hb hts hi10 hown hK hP 0 rfl rfl 1 (by decide) hw8 (fun _ h9 => h9) rfl dX12_perform_139 ?_
    refine lv_iload_n hx hb dX12_perform_142 rfl (lv_at hl 2 rfl) ?_
    refine lv_iload_n hx hb dX12_perform_143 rfl (lv_at hl 1 rfl) ?_
    refine lv_aload_n hx hb dX12_perform_144 rfl (lv_at hl 3 rfl) ?_
    refine va_get (D := D) (ci := 10) (v := .ref (Q 6 0)) (C := RX12) (T := TX12) (N := 11) hx hb hts hi10 hown hK hP 0 rfl rfl 6 (by decide) hw9 (fun _ h9 => h9) rfl dX12_perform_145 ?_
    obtain ⟨r_12, w_13, w_14, hc, hf⟩ := bd3_of hf
    refine k_V (As := [.int (vre.2 2 a1.toNatClampNeg), .int (vre.2 3 a1.toNatClampNeg), .ref ((Q 6) 0)]) (rest := []) (ws1 := (kMain Q vmn ++ kHouse G (Q 2) w_13 ++ kReader G (Q 5) vre ++ kRef G (Q 6) w_14)) ⟨hx, hb, hml, hown, hts⟩ (c_X6_letGreet l D G (Q 2) (Q 6) (vre.2 2 a1.toNatClampNeg) (vre.2 3 a1.toNatClampNeg) vdr vrf _ _ _ hc  _) (cwV 3 hts gX12_performB_X6_letGreet rfl rfl rfl (by decide +kernel) ⟨Nat.le_of_ble_eq_true rfl, Nat.le_of_ble_eq_true rfl⟩) hl.1 (Nat.le_of_ble_eq_true rfl) dX12_perform_148 ⟨Nat.le_of_ble_eq_true rfl, Nat.le_of_ble_eq_true rfl⟩ rfl kT_bl (fun _ _ _ => trivial) hN hK hP hD hS hA 1 4 rfl rfl rfl [1, 2, 3, 4, 5, 6, 7, 8, 9, 10, 11, 12, 13, 14, 15, 22] [0, 16, 17, 18, 19, 20, 21] [0, 7, 8, 9, 10, 11, 12, 13, 14, 15, 16, 17, 18, 19, 20, 21, 1, 2, 3, 4, 5, 6, 22] [0, 1, 2, 3] rfl rfl rfl ⟨by decide, by decide, by decide, by decide⟩ rfl (fun H locs hP hD hS => ?_)
    obtain ⟨rfl, rfl, rfl⟩ := re3 hf
    exact hE hP hD hS dX12_perform_151
  replace hf := ifF c4 hf
  by_cases c5 : (swM r_2.toNatClampNeg) = 5
  · replace hf := ifT c5 hf
    refine lv_tableIn (off := 101) (tgt := 152) hx hb dX12_perform_51 (by rw [c5]; decide) (by rw [c5]; decide) (by rw [c5]; rfl) (by decide) ?_
    refine lv_aload_n hx hb dX12_perform_152 rfl (lv_at hl 3 rfl) ?_
    refine va_get (D := D) (ci := 10) (v := .ref (Q 2 0)) (C := RX12) (T := TX12) (N := 11) hx hb hts hi10 hown hK hP 0 rfl rfl 1 (by decide) hw8 (fun _ h9 => h9) rfl dX12_perform_153 ?_
    refine lv_iload_n hx hb dX12_perform_156 rfl (lv_at hl 2 rfl) ?_
    refine lv_iload_n hx hb dX12_perform_157 rfl (lv_at hl 1 rfl) ?_
    refine lv_iload hx hb dX12_perform_158 (lv_at hl 0 rfl) ?_
    refine lv_aload_n hx hb dX12_perform_160 rfl (lv_at hl 3 rfl) ?_
    refine va_get (D := D) (ci := 10) (v := .ref (Q 6 0)) (C := RX12) (T := TX12) (N := 11) hx hb hts hi10 hown hK hP 0 rfl rfl 6 (by decide) hw9 (fun _ h9 => h9) rfl dX12_perform_161 ?_
    obtain ⟨r_15, w_16, w_17, hc, hf⟩ := bd3_of hf
    refine k_V (As := [.int (vre.2 2 a1.toNatClampNeg), .int (vre.2 3 a1.toNatClampNeg), .int (vre.2 4 a1.toNatClampNeg), .ref ((Q 6) 0)]) (rest := []) (ws1 := (kMain Q vmn ++ kHouse G (Q 2) w_16 ++ kReader G (Q 5) vre ++ kRef G (Q 6) w_17)) ⟨hx, hb, hml, hown, hts⟩ (c_X6_givePlants l D G (Q 2) (Q 6) (vre.2 2 a1.toNatClampNeg) (vre.2 3 a1.toNatClampNeg) (vre.2 4 a1.toNatClampNeg) vdr vrf _ _ _ hc  _) (cwV 4 hts gX12_performB_X6_givePlants rfl rfl rfl (by decide +kernel) ⟨Nat.le_of_ble_eq_true rfl, Nat.le_of_ble_eq_true rfl⟩) hl.1 (Nat.le_of_ble_eq_true rfl) dX12_perform_164 ⟨Nat.le_of_ble_eq_true rfl, Nat.le_of_ble_eq_true rfl⟩ rfl kT_bl (fun _ _ _ => trivial) hN hK hP hD hS hA 1 4 rfl rfl rfl [1, 2, 3, 4, 5, 6, 7, 8, 9, 10, 11, 12, 13, 14, 15, 22] [0, 16, 17, 18, 19, 20, 21] [0, 7, 8, 9, 10, 11, 12, 13, 14, 15, 16, 17, 18, 19, 20, 21, 1, 2, 3, 4, 5, 6, 22] [0, 1, 2, 3] rfl rfl rfl ⟨by decide, by decide, by decide, by decide⟩ rfl (fun H locs hP hD hS => ?_)
    obtain ⟨rfl, rfl, rfl⟩ := re3 hf
    exact hE hP hD hS dX12_perform_167
  replace hf := ifF c5 hf
  by_cases c6 : (swM r_2.toNatClampNeg) = 6
  · replace hf := ifT c6 hf
    refine lv_tableIn (off := 117) (tgt := 168) hx hb dX12_perform_51 (by rw [c6]; decide) (by rw [c6]; decide) (by rw [c6]; rfl) (by decide) ?_
    refine lv_aload_n hx hb dX12_perform_168 rfl (lv_at hl 3 rfl) ?_
    refine va_get (D := D) (ci := 10) (v := .ref (Q 2 0)) (C := RX12) (T := TX12) (N := 11) hx hb hts hi10 hown hK hP 0 rfl rfl 1 (by decide) hw8 (fun _ h9 => h9) rfl dX12_perform_169 ?_
    refine lv_iload_n hx hb dX12_perform_172 rfl (lv_at hl 2 rfl) ?_
    refine lv_aload_n hx hb dX12_perform_173 rfl (lv_at hl 3 rfl) ?_
    refine va_get (D := D) (ci := 10) (v := .ref (Q 6 0)) (C := RX12) (T := TX12) (N := 11) hx hb hts hi10 hown hK hP 0 rfl rfl 6 (by decide) hw9 (fun _ h9 => h9) rfl dX12_perform_174 ?_
    obtain ⟨r_18, w_19, w_20, hc, hf⟩ := bd3_of hf
    refine k_V (As := [.int (vre.2 2 a1.toNatClampNeg), .ref ((Q 6) 0)]) (rest := []) (ws1 := (kMain Q vmn ++ kHouse G (Q 2) w_19 ++ kReader G (Q 5) vre ++ kRef G (Q 6) w_20)) ⟨hx, hb, hml, hown, hts⟩ (c_X6_letCatCome l D G (Q 2) (Q 6) (vre.2 2 a1.toNatClampNeg) vdr vrf _ _ _ hc  _) (cwV 2 hts gX12_performB_X6_letCatCome rfl rfl rfl (by decide +kernel) ⟨Nat.le_of_ble_eq_true rfl, Nat.le_of_ble_eq_true rfl⟩) hl.1 (Nat.le_of_ble_eq_true rfl) dX12_perform_177 ⟨Nat.le_of_ble_eq_true rfl, Nat.le_of_ble_eq_true rfl⟩ rfl kT_bl (fun _ _ _ => trivial) hN hK hP hD hS hA 1 4 rfl rfl rfl [1, 2, 3, 4, 5, 6, 7, 8, 9, 10, 11, 12, 13, 14, 15, 22] [0, 16, 17, 18, 19, 20, 21] [0, 7, 8, 9, 10, 11, 12, 13, 14, 15, 16, 17, 18, 19, 20, 21, 1, 2, 3, 4, 5, 6, 22] [0, 1, 2, 3] rfl rfl rfl ⟨by decide, by decide, by decide, by decide⟩ rfl (fun H locs hP hD hS => ?_)
    obtain ⟨rfl, rfl, rfl⟩ := re3 hf
    exact hE hP hD hS dX12_perform_180
  replace hf := ifF c6 hf
  by_cases c7 : (swM r_2.toNatClampNeg) = 7
  · replace hf := ifT c7 hf
    refine lv_tableIn (off := 130) (tgt := 181) hx hb dX12_perform_51 (by rw [c7]; decide) (by rw [c7]; decide) (by rw [c7]; rfl) (by decide) ?_
    refine lv_aload_n hx hb dX12_perform_181 rfl (lv_at hl 3 rfl) ?_
    refine va_get (D := D) (ci := 10) (v := .ref (Q 2 0)) (C := RX12) (T := TX12) (N := 11) hx hb hts hi10 hown hK hP 0 rfl rfl 1 (by decide) hw8 (fun _ h9 => h9) rfl dX12_perform_182 ?_
    refine lv_iload_n hx hb dX12_perform_185 rfl (lv_at hl 2 rfl) ?_
    refine lv_iload_n hx hb dX12_perform_186 rfl (lv_at hl 1 rfl) ?_
    refine lv_aload_n hx hb dX12_perform_187 rfl (lv_at hl 3 rfl) ?_
    refine va_get (D := D) (ci := 10) (v := .ref (Q 6 0)) (C := RX12) (T := TX12) (N := 11) hx hb hts hi10 hown hK hP 0 rfl rfl 6 (by decide) hw9 (fun _ h9 => h9) rfl dX12_perform_188 ?_
    obtain ⟨r_21, w_22, w_23, hc, hf⟩ := bd3_of hf
    refine k_V (As := [.int (vre.2 2 a1.toNatClampNeg), .int (vre.2 3 a1.toNatClampNeg), .ref ((Q 6) 0)]) (rest := []) (ws1 := (kMain Q vmn ++ kHouse G (Q 2) w_22 ++ kReader G (Q 5) vre ++ kRef G (Q 6) w_23)) ⟨hx, hb, hml, hown, hts⟩ (c_X6_swapCats l D G (Q 2) (Q 6) (vre.2 2 a1.toNatClampNeg) (vre.2 3 a1.toNatClampNeg) vdr vrf _ _ _ hc  _) (cwV 3 hts gX12_performB_X6_swapCats rfl rfl rfl (by decide +kernel) ⟨Nat.le_of_ble_eq_true rfl, Nat.le_of_ble_eq_true rfl⟩) hl.1 (Nat.le_of_ble_eq_true rfl) dX12_perform_191 ⟨Nat.le_of_ble_eq_true rfl, Nat.le_of_ble_eq_true rfl⟩ rfl kT_bl (fun _ _ _ => trivial) hN hK hP hD hS hA 1 4 rfl rfl rfl [1, 2, 3, 4, 5, 6, 7, 8, 9, 10, 11, 12, 13, 14, 15, 22] [0, 16, 17, 18, 19, 20, 21] [0, 7, 8, 9, 10, 11, 12, 13, 14, 15, 16, 17, 18, 19, 20, 21, 1, 2, 3, 4, 5, 6, 22] [0, 1, 2, 3] rfl rfl rfl ⟨by decide, by decide, by decide, by decide⟩ rfl (fun H locs hP hD hS => ?_)
    obtain ⟨rfl, rfl, rfl⟩ := re3 hf
    exact hE hP hD hS dX12_perform_194
  replace hf := ifF c7 hf
  refine lv_tableOut (tgt := 195) hx hb dX12_perform_51 (by have e1 := sw_ne (z := 1) c1 (by decide); have e2 := sw_ne (z := 2) c2 (by decide); have e3 := sw_ne (z := 3) c3 (by decide); have e4 := sw_ne (z := 4) c4 (by decide); have e5 := sw_ne (z := 5) c5 (by decide); have e6 := sw_ne (z := 6) c6 (by decide); have e7 := sw_ne (z := 7) c7 (by decide); omega) (by decide) ?_
  refine lv_aload_n hx hb dX12_perform_195 rfl (lv_at hl 3 rfl) ?_
  refine va_get (D := D) (ci := 10) (v := .ref (Q 2 0)) (C := RX12) (T := TX12) (N := 11) hx hb hts hi10 hown hK hP 0 rfl rfl 1 (by decide) hw8 (fun _ h9 => h9) rfl dX12_perform_196 ?_
  obtain ⟨r_24, w_25, hc, hf⟩ := bd2_of hf
  refine k_V (As := []) (rest := []) (ws1 := (kMain Q vmn ++ kHouse G (Q 2) w_25 ++ kReader G (Q 5) vre ++ kRef G (Q 6) vrf)) ⟨hx, hb, hml, hown, hts⟩ (c_X6_endDay l D G (Q 2)  vdr _ _ hc  _) (cwV 0 hts gX12_performB_X6_endDay rfl rfl rfl (by decide +kernel) ⟨Nat.le_of_ble_eq_true rfl, Nat.le_of_ble_eq_true rfl⟩) hl.1 (Nat.le_of_ble_eq_true rfl) dX12_perform_199 ⟨Nat.le_of_ble_eq_true rfl, Nat.le_of_ble_eq_true rfl⟩ rfl kT_bl (fun _ _ _ => trivial) hN hK hP hD hS hA 1 4 rfl rfl rfl [1, 2, 3, 4, 5, 6, 7, 8, 9, 10, 11, 12, 13, 14, 15] [0, 16, 17, 18, 19, 20, 21, 22] [0, 8, 9, 10, 11, 12, 13, 14, 15, 16, 17, 18, 19, 20, 21, 22, 1, 2, 3, 4, 5, 6, 7] [0, 1, 2, 3] rfl rfl rfl ⟨by decide, by decide, by decide, by decide⟩ rfl (fun H locs hP hD hS => ?_)
  obtain ⟨rfl, rfl, rfl⟩ := re3 hf
  exact hE hP hD hS dX12_perform_202
set_option maxHeartbeats 4000000 in
set_option maxRecDepth 100000 in
theorem c_X12_performAllB (l : Launch) (D : va_G) (G : Nat → ClassId) (X : Nat → Nat → Nat) (Q : Nat → Nat → Nat) (vmn : SV) (vdr : SV) (vre : SV) (vrf : SV) (r : Int32) (vdr' : SV) (vrf' : SV) (hf : f_X12_performAll vmn vdr vre vrf = some (r, vdr', vrf')) (sz : Nat) : mC l yX12_performAll wsX12_performAllB rm_X12_performAll D (tyG G) (kY X) [.ref ((Q 0) 0)] (kMain Q vmn ++ kHouse G (Q 2) vdr ++ kReader G (Q 5) vre ++ kRef G (Q 6) vrf) (kMain Q vmn ++ kHouse G (Q 2) vdr' ++ kReader G (Q 5) vre ++ kRef G (Q 6) vrf') sz (some (.int r)) 0 0 := by
  refine mC_ofI (cc := cX12_performAll) (maxL := 3) (ret := (some .int)) (by decide) rfl rfl (Nat.le_of_ble_eq_true rfl) ?_
  intro p e s m args below meth c Q0 hx hb hml hts hown hN hK A hD hA hE hP hS hJ ls hl
  have hl : lv_has ls 3 [(0, .ref ((Q 0) 0))] := hl
  unfold f_X12_performAll at hf
  obtain ⟨⟨hX1, hX2, hX3, hX4, hX5, hX6, hX7, hX8, hX9, hX10, hX11, hX12⟩, hX13⟩ := id hJ
  have hi10 : ∀ w ∈ u_ws RX12 TX12 11, w ∈ wsX12_performAllB := by decide +kernel
  have hi8 : ∀ w ∈ u_ws RX10 TX10 8, w ∈ wsX12_performAllB := by decide +kernel
  have hw1 := hts (.fieldLink RX12 36 "BalconyCensus" "reader" "LBalconyCensus$Reader;") (by decide +kernel)
  have hw2 := hts (.fieldLink RX12 352 "BalconyCensus$Reader" "commandCount" "I") (by decide +kernel)
  have hw3 := hts (.fieldLink RX12 43 "BalconyCensus" "refusal" "LBalconyCensus$Refusal;") (by decide +kernel)
  refine lv_iconst (v := 0) hx hb dX12_performAll_0 (by decide) ?_
  refine lv_istore_n (lv' := [(1, .int 0), (0, .ref ((Q 0) 0))]) hx hb dX12_performAll_1 rfl hl (by decide) rfl (fun ls hl => ?_)
  have exL_12 : ∀ (y_20 : Int32) (z_21 : SV) (z_22 : SV) (H : Heap) (locs : List Loc) (ls : Array Slot), lv_has ls 3 [(1, .int y_20), (0, .ref ((Q 0) 0))] → va_P D vwCl (kMain Q vmn ++ kHouse G (Q 2) z_21 ++ kReader G (Q 5) vre ++ kRef G (Q 6) z_22) H → va_D A (kMain Q vmn ++ kHouse G (Q 2) z_21 ++ kReader G (Q 5) vre ++ kRef G (Q 6) z_22) → va_S A s.heap H locs → f_X12_performAll_K2 vre y_20 z_21 z_22 = some (r, vdr', vrf') → W p l e rm_X12_performAll s m args below meth c H locs 0 0 Q0 (F0 m 57 ls []) := by
    intro y_20 z_21 z_22 H locs ls hl hP hD hS hf
    unfold f_X12_performAll_K2 at hf
    refine lv_aload_n hx hb dX12_performAll_57 rfl (lv_at hl 1 rfl) ?_
    refine va_get (D := D) (ci := 10) (v := .ref (Q 5 0)) (C := RX12) (T := TX12) (N := 11) hx hb hts hi10 hown hK hP 0 rfl rfl 5 (by decide) hw1 (fun _ h9 => h9) rfl dX12_performAll_58 ?_
    refine va_get (D := D) (ci := 8) (v := .int (vre.1 2)) (C := RX10) (T := TX10) (N := 8) hx hb hts hi8 hown hK hP 16 rfl rfl 7 (by decide) hw2 (fun _ h9 => h9) rfl dX12_performAll_61 ?_
    obtain ⟨rfl, rfl, rfl⟩ := re3 hf
    exact hE hP hD hS dX12_performAll_64
  have loL_12 : ∀ (n : Nat) (x_9 : Int32) (u_10 : SV) (u_11 : SV) (H : Heap) (locs : List Loc) (ls : Array Slot), lv_has ls 3 [(1, .int x_9), (0, .ref ((Q 0) 0))] → va_P D vwCl (kMain Q vmn ++ kHouse G (Q 2) u_10 ++ kReader G (Q 5) vre ++ kRef G (Q 6) u_11) H → va_D A (kMain Q vmn ++ kHouse G (Q 2) u_10 ++ kReader G (Q 5) vre ++ kRef G (Q 6) u_11) → va_S A s.heap H locs → lz3 (f_X12_performAll_B2 vre vmn) n x_9 u_10 u_11 = some (r, vdr', vrf') → W p l e rm_X12_performAll s m args below meth c H locs 0 0 Q0 (F0 m 2 ls []) := by
    intro n
    induction n with
    | zero => intro x_9 u_10 u_11 H locs ls hl hP hD hS hf; cases hf
    | succ n ihL_12 =>
      intro x_9 u_10 u_11 H locs ls hl hP hD hS hf
      replace hf := lz3_s hf
      unfold f_X12_performAll_B2 at hf
      refine lv_iload_n hx hb dX12_performAll_2 rfl (lv_at hl 0 rfl) ?_
      refine lv_aload_n hx hb dX12_performAll_3 rfl (lv_at hl 1 rfl) ?_
      refine va_get (D := D) (ci := 10) (v := .ref (Q 5 0)) (C := RX12) (T := TX12) (N := 11) hx hb hts hi10 hown hK hP 0 rfl rfl 5 (by decide) hw1 (fun _ h9 => h9) rfl dX12_performAll_4 ?_
      refine va_get (D := D) (ci := 8) (v := .int (vre.1 2)) (C := RX10) (T := TX10) (N := 8) hx hb hts hi8 hown hK hP 16 rfl rfl 7 (by decide) hw2 (fun _ h9 => h9) rfl dX12_performAll_7 ?_
      refine lv_icmp_ge (tgt := 57) hx hb dX12_performAll_10 (by decide) (fun cc => ?_) (fun cc => ?_)
      · replace hf := ifT cc hf
        exact exL_12 x_9 u_10 u_11 _ _ _ (lv_sub hl [0, 1] rfl) hP hD hS hf
      · replace hf := ifF cc hf
        refine lv_aload_n hx hb dX12_performAll_13 rfl (lv_at hl 1 rfl) ?_
        refine lv_iload_n hx hb dX12_performAll_14 rfl (lv_at hl 0 rfl) ?_
        obtain ⟨r_13, w_14, w_15, hc, hf⟩ := bd3_of hf
        refine k_V (As := [.int x_9]) (rest := []) (ws1 := (kMain Q vmn ++ kHouse G (Q 2) w_14 ++ kReader G (Q 5) vre ++ kRef G (Q 6) w_15)) ⟨hx, hb, hml, hown, hts⟩ (c_X12_performB l D G X Q x_9 vmn u_10 vre u_11 _ _ _ hc  _) (cwV 1 hts gX12_performAllB_X12_perform rfl rfl rfl (by decide +kernel) ⟨Nat.le_of_ble_eq_true rfl, Nat.le_of_ble_eq_true rfl⟩) hl.1 (Nat.le_of_ble_eq_true rfl) dX12_performAll_15 ⟨Nat.le_of_ble_eq_true rfl, Nat.le_of_ble_eq_true rfl⟩ rfl (kY_bl X) (kY_pass hJ hS (va_free (wc := (kMain Q vmn ++ kHouse G (Q 2) u_10 ++ kReader G (Q 5) vre ++ kRef G (Q 6) u_11)) hD hS hA [0, 1, 2, 3, 4, 5, 6, 7, 8, 9, 10, 11, 12, 13, 14, 15, 16, 17, 18, 19, 20, 21, 22] rfl)) hN hK hP hD hS hA 0 10 rfl rfl rfl [0, 1, 2, 3, 4, 5, 6, 7, 8, 9, 10, 11, 12, 13, 14, 15, 16, 17, 18, 19, 20, 21, 22] [] [0, 1, 2, 3, 4, 5, 6, 7, 8, 9, 10, 11, 12, 13, 14, 15, 16, 17, 18, 19, 20, 21, 22] [0, 1, 2, 3] rfl rfl rfl ⟨by decide, by decide, by decide, by decide⟩ rfl (fun H locs hP hD hS => ?_)
        refine lv_istore_n (lv' := [(2, .int r_13), (1, .int x_9), (0, .ref ((Q 0) 0))]) hx hb dX12_performAll_18 rfl hl (by decide) rfl (fun ls hl => ?_)
        refine lv_iload_n hx hb dX12_performAll_19 rfl (lv_at hl 0 rfl) ?_
        refine lv_bipush (v := (-3)) hx hb dX12_performAll_20 (by decide +kernel) ?_
        refine lv_icmp_ne (tgt := 36) hx hb dX12_performAll_22 (by decide) (fun cc => ?_) (fun cc => ?_)
        · replace hf := ifF cc hf
          refine lv_iload_n hx hb dX12_performAll_36 rfl (lv_at hl 0 rfl) ?_
          refine lv_if_ge (tgt := 51) hx hb dX12_performAll_37 (by decide) (fun cc => ?_) (fun cc => ?_)
          · replace hf := ifT cc hf
            refine lv_iinc (v := (x_9 + 1)) (lv' := [(1, .int (x_9 + 1)), (2, .int r_13), (0, .ref ((Q 0) 0))]) hx hb dX12_performAll_51 hl (k := 1) rfl rfl (by decide) rfl (fun ls hl => ?_)
            refine lv_goto (tgt := 2) hx hb dX12_performAll_54 (by decide) ?_
            exact ihL_12 (x_9 + 1) w_14 w_15 _ _ _ (lv_sub hl [0, 2] rfl) hP hD hS hf
          · replace hf := ifF cc hf
            refine lv_aload_n hx hb dX12_performAll_40 rfl (lv_at hl 2 rfl) ?_
            refine va_get (D := D) (ci := 10) (v := .ref (Q 6 0)) (C := RX12) (T := TX12) (N := 11) hx hb hts hi10 hown hK hP 0 rfl rfl 6 (by decide) hw3 (fun _ h9 => h9) rfl dX12_performAll_41 ?_
            refine lv_bipush (v := 11) hx hb dX12_performAll_44 (by decide +kernel) ?_
            refine lv_iload_n hx hb dX12_performAll_46 rfl (lv_at hl 1 rfl) ?_
            obtain ⟨r_16, w_17, hc, hf⟩ := bd2_of hf
            refine k_V (As := [.int 11, .int x_9]) (rest := []) (ws1 := (kMain Q vmn ++ kHouse G (Q 2) w_14 ++ kReader G (Q 5) vre ++ kRef G (Q 6) w_17)) ⟨hx, hb, hml, hown, hts⟩ (c_X11_note l D G (Q 6) 11 x_9 w_15 _ _ hc  _) (cwV 2 hts gX12_performAllB_X11_note rfl rfl rfl (by decide +kernel) ⟨Nat.le_of_ble_eq_true rfl, Nat.le_of_ble_eq_true rfl⟩) hl.1 (Nat.le_of_ble_eq_true rfl) dX12_performAll_47 ⟨Nat.le_of_ble_eq_true rfl, Nat.le_of_ble_eq_true rfl⟩ rfl kT_bl (fun _ _ _ => trivial) hN hK hP hD hS hA 22 9 rfl rfl rfl [22] [0, 1, 2, 3, 4, 5, 6, 7, 8, 9, 10, 11, 12, 13, 14, 15, 16, 17, 18, 19, 20, 21] [0, 1, 2, 3, 4, 5, 6, 7, 8, 9, 10, 11, 12, 13, 14, 15, 16, 17, 18, 19, 20, 21, 22] [0, 1, 2, 3] rfl rfl rfl ⟨by decide, by decide, by decide, by decide⟩ rfl (fun H locs hP hD hS => ?_)
            obtain ⟨rfl, rfl, rfl⟩ := re3 hf
            exact hE hP hD hS dX12_performAll_50
        · replace hf := ifT cc hf
          refine lv_aload_n hx hb dX12_performAll_25 rfl (lv_at hl 2 rfl) ?_
          refine va_get (D := D) (ci := 10) (v := .ref (Q 6 0)) (C := RX12) (T := TX12) (N := 11) hx hb hts hi10 hown hK hP 0 rfl rfl 6 (by decide) hw3 (fun _ h9 => h9) rfl dX12_performAll_26 ?_
          refine lv_bipush (v := 10) hx hb dX12_performAll_29 (by decide +kernel) ?_
          refine lv_iload_n hx hb dX12_performAll_31 rfl (lv_at hl 1 rfl) ?_
          obtain ⟨r_18, w_19, hc, hf⟩ := bd2_of hf
          refine k_V (As := [.int 10, .int x_9]) (rest := []) (ws1 := (kMain Q vmn ++ kHouse G (Q 2) w_14 ++ kReader G (Q 5) vre ++ kRef G (Q 6) w_19)) ⟨hx, hb, hml, hown, hts⟩ (c_X11_cover l D G (Q 6) 10 x_9 w_15 _ _ hc  _) (cwV 2 hts gX12_performAllB_X11_cover rfl rfl rfl (by decide +kernel) ⟨Nat.le_of_ble_eq_true rfl, Nat.le_of_ble_eq_true rfl⟩) hl.1 (Nat.le_of_ble_eq_true rfl) dX12_performAll_32 ⟨Nat.le_of_ble_eq_true rfl, Nat.le_of_ble_eq_true rfl⟩ rfl kT_bl (fun _ _ _ => trivial) hN hK hP hD hS hA 22 9 rfl rfl rfl [22] [0, 1, 2, 3, 4, 5, 6, 7, 8, 9, 10, 11, 12, 13, 14, 15, 16, 17, 18, 19, 20, 21] [0, 1, 2, 3, 4, 5, 6, 7, 8, 9, 10, 11, 12, 13, 14, 15, 16, 17, 18, 19, 20, 21, 22] [0, 1, 2, 3] rfl rfl rfl ⟨by decide, by decide, by decide, by decide⟩ rfl (fun H locs hP hD hS => ?_)
          obtain ⟨rfl, rfl, rfl⟩ := re3 hf
          exact hE hP hD hS dX12_performAll_35
  exact loL_12 FU 0 vdr vrf _ _ _ hl hP hD hS hf
set_option maxHeartbeats 4000000 in
set_option maxRecDepth 100000 in
theorem c_X12_readB (l : Launch) (D : va_G) (G : Nat → ClassId) (X : Nat → Nat → Nat) (Q : Nat → Nat → Nat) (vmn : SV) (vho : SV) (vdr : SV) (vhi : SV) (vre : SV) (vrf : SV) (vhh : (Nat → SV)) (r : Int32) (vmn' : SV) (vho' : SV) (vdr' : SV) (vhi' : SV) (vre' : SV) (vrf' : SV) (vhh' : (Nat → SV)) (hf : f_X12_read vmn vho vdr vhi vre vrf vhh = some (r, vmn', vho', vdr', vhi', vre', vrf', vhh')) (sz : Nat) : mC l yX12_read wsX12_readB rm_X12_read D (tyG G) (kY X) [.ref ((Q 0) 0)] (kMain Q vmn ++ kHouse G (Q 1) vho ++ kHouse G (Q 2) vdr ++ kHist Q vhi ++ kReader G (Q 5) vre ++ kRef G (Q 6) vrf ++ kHH G Q vhh) (kMain Q vmn' ++ kHouse G (Q 1) vho' ++ kHouse G (Q 2) vdr' ++ kHist Q vhi' ++ kReader G (Q 5) vre' ++ kRef G (Q 6) vrf' ++ kHH G Q vhh') sz (some (.int r)) 0 0 := by
  refine mC_ofI (cc := cX12_read) (maxL := 2) (ret := (some .int)) (by decide) rfl rfl (Nat.le_of_ble_eq_true rfl) ?_
  intro p e s m args below meth c Q0 hx hb hml hts hown hN hK A hD hA hE hP hS hJ ls hl
  have hl : lv_has ls 2 [(0, .ref ((Q 0) 0))] := hl
  unfold f_X12_read at hf
  obtain ⟨⟨hX1, hX2, hX3, hX4, hX5, hX6, hX7, hX8, hX9, hX10, hX11, hX12⟩, hX13⟩ := id hJ
  have hi10 : ∀ w ∈ u_ws RX12 TX12 11, w ∈ wsX12_readB := by decide +kernel
  have hi8 : ∀ w ∈ u_ws RX10 TX10 8, w ∈ wsX12_readB := by decide +kernel
  have hw1 := hts (.fieldLink RX12 36 "BalconyCensus" "reader" "LBalconyCensus$Reader;") (by decide +kernel)
  have hw2 := hts (.fieldLink RX12 16 "BalconyCensus" "draft" "LBalconyCensus$House;") (by decide +kernel)
  have hw3 := hts (.fieldLink RX12 12 "BalconyCensus" "house" "LBalconyCensus$House;") (by decide +kernel)
  have hw4 := hts (.fieldLink RX12 128 "BalconyCensus$Reader" "position" "I") (by decide +kernel)
  have hw5 := hts (.fieldLink RX12 68 "BalconyCensus" "faultPosition" "I") (by decide +kernel)
  refine lv_aload_n hx hb dX12_read_0 rfl (lv_at hl 0 rfl) ?_
  refine va_get (D := D) (ci := 10) (v := .ref (Q 5 0)) (C := RX12) (T := TX12) (N := 11) hx hb hts hi10 hown hK hP 0 rfl rfl 5 (by decide) hw1 (fun _ h9 => h9) rfl dX12_read_1 ?_
  obtain ⟨r_1, w_2, hc, hf⟩ := bd2_of hf
  have hPb : va_P D vwCl ((kMain Q vmn ++ kHouse G (Q 1) vho ++ kHouse G (Q 2) vdr ++ kHist Q vhi ++ kRef G (Q 6) vrf ++ kHH G Q vhh) ++ (kReader G (Q 5) vre)) s.heap := by simp only [pP_app] at hP ⊢; simp only [hP, and_self]
  have hDb : va_D A ((kMain Q vmn ++ kHouse G (Q 1) vho ++ kHouse G (Q 2) vdr ++ kHist Q vhi ++ kRef G (Q 6) vrf ++ kHH G Q vhh) ++ (kReader G (Q 5) vre)) := by simp only [pD_app, Dj_l, Dj_r] at hD ⊢; simp only [hD, and_self]
  refine k_VB (As := []) (rest := []) ⟨hx, hb, hml, hown, hts⟩ (c_X10_understandText l D G X (Q 5)  vre _ _ hc  _) (cwV 0 hts gX12_readB_X10_understandText rfl rfl rfl (by decide +kernel) ⟨Nat.le_of_ble_eq_true rfl, Nat.le_of_ble_eq_true rfl⟩) hl.1 (Nat.le_of_ble_eq_true rfl) dX12_read_4 ⟨Nat.le_of_ble_eq_true rfl, Nat.le_of_ble_eq_true rfl⟩ rfl (kY_bl X) (kY_pass hJ hS (k_freeB hDb hS hA)) hN hK hPb hDb hS hA 0 8 rfl rfl rfl [0, 1, 2, 3] rfl (fun H locs hP hD hS => ?_)
  have hP : va_P D vwCl (kMain Q vmn ++ kHouse G (Q 1) vho ++ kHouse G (Q 2) vdr ++ kHist Q vhi ++ kReader G (Q 5) w_2 ++ kRef G (Q 6) vrf ++ kHH G Q vhh) H := by simp only [pP_app] at hP ⊢; simp only [hP, and_self]
  have hD : va_D A (kMain Q vmn ++ kHouse G (Q 1) vho ++ kHouse G (Q 2) vdr ++ kHist Q vhi ++ kReader G (Q 5) w_2 ++ kRef G (Q 6) vrf ++ kHH G Q vhh) := by simp only [pD_app, Dj_l, Dj_r] at hD ⊢; simp only [hD, and_self]
  refine lv_istore_n (lv' := [(1, .int r_1), (0, .ref ((Q 0) 0))]) hx hb dX12_read_7 rfl hl (by decide) rfl (fun ls hl => ?_)
  refine lv_aload_n hx hb dX12_read_8 rfl (lv_at hl 1 rfl) ?_
  refine va_get (D := D) (ci := 10) (v := .ref (Q 5 0)) (C := RX12) (T := TX12) (N := 11) hx hb hts hi10 hown hK hP 0 rfl rfl 5 (by decide) hw1 (fun _ h9 => h9) rfl dX12_read_9 ?_
  obtain ⟨w_3, hc, hf⟩ := bd1_of hf
  have hPb : va_P D vwCl ((kMain Q vmn ++ kHouse G (Q 1) vho ++ kHouse G (Q 2) vdr ++ kHist Q vhi ++ kRef G (Q 6) vrf ++ kHH G Q vhh) ++ (kReader G (Q 5) w_2)) H := by simp only [pP_app] at hP ⊢; simp only [hP, and_self]
  have hDb : va_D A ((kMain Q vmn ++ kHouse G (Q 1) vho ++ kHouse G (Q 2) vdr ++ kHist Q vhi ++ kRef G (Q 6) vrf ++ kHH G Q vhh) ++ (kReader G (Q 5) w_2)) := by simp only [pD_app, Dj_l, Dj_r] at hD ⊢; simp only [hD, and_self]
  refine k_VB (As := []) (rest := []) ⟨hx, hb, hml, hown, hts⟩ (c_X10_emptyInput l D G (Q 5)  w_2 _ hc  _) (cwV 0 hts gX12_readB_X10_emptyInput rfl rfl rfl (by decide +kernel) ⟨Nat.le_of_ble_eq_true rfl, Nat.le_of_ble_eq_true rfl⟩) hl.1 (Nat.le_of_ble_eq_true rfl) dX12_read_12 ⟨Nat.le_of_ble_eq_true rfl, Nat.le_of_ble_eq_true rfl⟩ rfl kT_bl (fun _ _ _ => trivial) hN hK hPb hDb hS hA 0 8 rfl rfl rfl [0, 1, 2, 3] rfl (fun H locs hP hD hS => ?_)
  have hP : va_P D vwCl (kMain Q vmn ++ kHouse G (Q 1) vho ++ kHouse G (Q 2) vdr ++ kHist Q vhi ++ kReader G (Q 5) w_3 ++ kRef G (Q 6) vrf ++ kHH G Q vhh) H := by simp only [pP_app] at hP ⊢; simp only [hP, and_self]
  have hD : va_D A (kMain Q vmn ++ kHouse G (Q 1) vho ++ kHouse G (Q 2) vdr ++ kHist Q vhi ++ kReader G (Q 5) w_3 ++ kRef G (Q 6) vrf ++ kHH G Q vhh) := by simp only [pD_app, Dj_l, Dj_r] at hD ⊢; simp only [hD, and_self]
  refine lv_iload_n hx hb dX12_read_15 rfl (lv_at hl 0 rfl) ?_
  refine lv_if_ne (tgt := 33) hx hb dX12_read_16 (by decide) (fun cc => ?_) (fun cc => ?_)
  · replace hf := ifF cc hf
    refine lv_aload_n hx hb dX12_read_33 rfl (lv_at hl 1 rfl) ?_
    refine va_get (D := D) (ci := 10) (v := .ref (Q 2 0)) (C := RX12) (T := TX12) (N := 11) hx hb hts hi10 hown hK hP 0 rfl rfl 1 (by decide) hw2 (fun _ h9 => h9) rfl dX12_read_34 ?_
    refine lv_aload_n hx hb dX12_read_37 rfl (lv_at hl 1 rfl) ?_
    refine va_get (D := D) (ci := 10) (v := .ref (Q 1 0)) (C := RX12) (T := TX12) (N := 11) hx hb hts hi10 hown hK hP 0 rfl rfl 0 (by decide) hw3 (fun _ h9 => h9) rfl dX12_read_38 ?_
    obtain ⟨w_4, hc, hf⟩ := bd1_of hf
    have hPb : va_P D vwCl ((kMain Q vmn ++ kHist Q vhi ++ kReader G (Q 5) w_3 ++ kRef G (Q 6) vrf ++ kHH G Q vhh) ++ (kHouse G (Q 2) vdr ++ kHouse G (Q 1) vho)) H := by simp only [pP_app] at hP ⊢; simp only [hP, and_self]
    have hDb : va_D A ((kMain Q vmn ++ kHist Q vhi ++ kReader G (Q 5) w_3 ++ kRef G (Q 6) vrf ++ kHH G Q vhh) ++ (kHouse G (Q 2) vdr ++ kHouse G (Q 1) vho)) := by simp only [pD_app, Dj_l, Dj_r] at hD ⊢; simp only [hD, and_self]
    refine k_VB (As := [.ref ((Q 1) 0)]) (rest := []) ⟨hx, hb, hml, hown, hts⟩ (c_X6_take l D G (Q 2) (Q 1)  vdr vho _ hc  _) (cwV 1 hts gX12_readB_X6_take rfl rfl rfl (by decide +kernel) ⟨Nat.le_of_ble_eq_true rfl, Nat.le_of_ble_eq_true rfl⟩) hl.1 (Nat.le_of_ble_eq_true rfl) dX12_read_41 ⟨Nat.le_of_ble_eq_true rfl, Nat.le_of_ble_eq_true rfl⟩ rfl kT_bl (fun _ _ _ => trivial) hN hK hPb hDb hS hA 0 4 rfl rfl rfl [0, 1, 2, 3] rfl (fun H locs hP hD hS => ?_)
    have hP : va_P D vwCl (kMain Q vmn ++ kHouse G (Q 1) vho ++ kHouse G (Q 2) w_4 ++ kHist Q vhi ++ kReader G (Q 5) w_3 ++ kRef G (Q 6) vrf ++ kHH G Q vhh) H := by simp only [pP_app] at hP ⊢; simp only [hP, and_self]
    have hD : va_D A (kMain Q vmn ++ kHouse G (Q 1) vho ++ kHouse G (Q 2) w_4 ++ kHist Q vhi ++ kReader G (Q 5) w_3 ++ kRef G (Q 6) vrf ++ kHH G Q vhh) := by simp only [pD_app, Dj_l, Dj_r] at hD ⊢; simp only [hD, and_self]
    refine lv_aload_n hx hb dX12_read_44 rfl (lv_at hl 1 rfl) ?_
    refine lv_aload_n hx hb dX12_read_45 rfl (lv_at hl 1 rfl) ?_
    obtain ⟨r_5, w_6, w_7, hc, hf⟩ := bd3_of hf
    have hPb : va_P D vwCl ((kHouse G (Q 1) vho ++ kHist Q vhi ++ kHH G Q vhh) ++ (kMain Q vmn ++ kHouse G (Q 2) w_4 ++ kReader G (Q 5) w_3 ++ kRef G (Q 6) vrf)) H := by simp only [pP_app] at hP ⊢; simp only [hP, and_self]
    have hDb : va_D A ((kHouse G (Q 1) vho ++ kHist Q vhi ++ kHH G Q vhh) ++ (kMain Q vmn ++ kHouse G (Q 2) w_4 ++ kReader G (Q 5) w_3 ++ kRef G (Q 6) vrf)) := by simp only [pD_app, Dj_l, Dj_r] at hD ⊢; simp only [hD, and_self]
    refine k_VB (As := []) (rest := [.ref ((Q 0) 0)]) ⟨hx, hb, hml, hown, hts⟩ (c_X12_performAllB l D G X Q  vmn w_4 w_3 vrf _ _ _ hc  _) (cwV 0 hts gX12_readB_X12_performAll rfl rfl rfl (by decide +kernel) ⟨Nat.le_of_ble_eq_true rfl, Nat.le_of_ble_eq_true rfl⟩) hl.1 (Nat.le_of_ble_eq_true rfl) dX12_read_46 ⟨Nat.le_of_ble_eq_true rfl, Nat.le_of_ble_eq_true rfl⟩ rfl (kY_bl X) (kY_pass hJ hS (k_freeB hDb hS hA)) hN hK hPb hDb hS hA 0 10 rfl rfl rfl [0, 1, 2, 3] rfl (fun H locs hP hD hS => ?_)
    have hP : va_P D vwCl (kMain Q vmn ++ kHouse G (Q 1) vho ++ kHouse G (Q 2) w_6 ++ kHist Q vhi ++ kReader G (Q 5) w_3 ++ kRef G (Q 6) w_7 ++ kHH G Q vhh) H := by simp only [pP_app] at hP ⊢; simp only [hP, and_self]
    have hD : va_D A (kMain Q vmn ++ kHouse G (Q 1) vho ++ kHouse G (Q 2) w_6 ++ kHist Q vhi ++ kReader G (Q 5) w_3 ++ kRef G (Q 6) w_7 ++ kHH G Q vhh) := by simp only [pD_app, Dj_l, Dj_r] at hD ⊢; simp only [hD, and_self]
    obtain ⟨r_8, w_9, w_10, w_11, hc, hf⟩ := bd4_of hf
    have hPb : va_P D vwCl ((kReader G (Q 5) w_3 ++ kRef G (Q 6) w_7) ++ (kMain Q vmn ++ kHouse G (Q 1) vho ++ kHouse G (Q 2) w_6 ++ kHist Q vhi ++ kHH G Q vhh)) H := by simp only [pP_app] at hP ⊢; simp only [hP, and_self]
    have hDb : va_D A ((kReader G (Q 5) w_3 ++ kRef G (Q 6) w_7) ++ (kMain Q vmn ++ kHouse G (Q 1) vho ++ kHouse G (Q 2) w_6 ++ kHist Q vhi ++ kHH G Q vhh)) := by simp only [pD_app, Dj_l, Dj_r] at hD ⊢; simp only [hD, and_self]
    refine k_VB (As := [.int r_5]) (rest := []) ⟨hx, hb, hml, hown, hts⟩ (c_X12_settle l D G Q r_5 vmn vho w_6 vhi vhh _ _ _ _ hc  _) (cwV 1 hts gX12_readB_X12_settle rfl rfl rfl (by decide +kernel) ⟨Nat.le_of_ble_eq_true rfl, Nat.le_of_ble_eq_true rfl⟩) hl.1 (Nat.le_of_ble_eq_true rfl) dX12_read_49 ⟨Nat.le_of_ble_eq_true rfl, Nat.le_of_ble_eq_true rfl⟩ rfl kT_bl (fun _ _ _ => trivial) hN hK hPb hDb hS hA 0 10 rfl rfl rfl [0, 1, 2, 3] rfl (fun H locs hP hD hS => ?_)
    have hP : va_P D vwCl (kMain Q vmn ++ kHouse G (Q 1) w_9 ++ kHouse G (Q 2) w_6 ++ kHist Q w_10 ++ kReader G (Q 5) w_3 ++ kRef G (Q 6) w_7 ++ kHH G Q w_11) H := by simp only [pP_app] at hP ⊢; simp only [hP, and_self]
    have hD : va_D A (kMain Q vmn ++ kHouse G (Q 1) w_9 ++ kHouse G (Q 2) w_6 ++ kHist Q w_10 ++ kReader G (Q 5) w_3 ++ kRef G (Q 6) w_7 ++ kHH G Q w_11) := by simp only [pD_app, Dj_l, Dj_r] at hD ⊢; simp only [hD, and_self]
    obtain ⟨rfl, rfl, rfl, rfl, rfl, rfl, rfl, rfl⟩ := re8 hf
    exact hE hP hD hS dX12_read_52
  · replace hf := ifT cc hf
    refine lv_aload_n hx hb dX12_read_19 rfl (lv_at hl 1 rfl) ?_
    refine lv_aload_n hx hb dX12_read_20 rfl (lv_at hl 1 rfl) ?_
    refine va_get (D := D) (ci := 10) (v := .ref (Q 5 0)) (C := RX12) (T := TX12) (N := 11) hx hb hts hi10 hown hK hP 0 rfl rfl 5 (by decide) hw1 (fun _ h9 => h9) rfl dX12_read_21 ?_
    refine va_get (D := D) (ci := 8) (v := .int (w_3.1 1)) (C := RX10) (T := TX10) (N := 8) hx hb hts hi8 hown hK hP 32 rfl rfl 2 (by decide) hw4 (fun _ h9 => h9) rfl dX12_read_24 ?_
    obtain ⟨v_12, ev_12, hf⟩ := nm_of hf
    refine va_put (D := D) (ci := 10) (v := .int (w_3.1 1)) (ty := .int) (C := RX12) (T := TX12) (N := 11) hx hb hts hi10 tyX12 tyX12_ok nmX12 hown hK hP hD hS 0 rfl rfl 10 (by decide) hw5 (fun _ h9 => h9) rfl (by decide +kernel) rfl rfl (Nat.le_of_ble_eq_true rfl) dX12_read_27 (fun H locs hP hD hS => ?_)
    have hP : va_P D vwCl (kMain Q v_12 ++ kHouse G (Q 1) vho ++ kHouse G (Q 2) vdr ++ kHist Q vhi ++ kReader G (Q 5) w_3 ++ kRef G (Q 6) vrf ++ kHH G Q vhh) H := by rw [ev_12]; exact hP
    have hD : va_D A (kMain Q v_12 ++ kHouse G (Q 1) vho ++ kHouse G (Q 2) vdr ++ kHist Q vhi ++ kReader G (Q 5) w_3 ++ kRef G (Q 6) vrf ++ kHH G Q vhh) := by rw [ev_12]; exact hD
    refine lv_bipush (v := (-2)) hx hb dX12_read_30 (by decide +kernel) ?_
    obtain ⟨rfl, rfl, rfl, rfl, rfl, rfl, rfl, rfl⟩ := re8 hf
    exact hE hP hD hS dX12_read_32
