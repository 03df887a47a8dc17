set_option maxRecDepth 20000 in
theorem ggX1_init_X3_init : GoodIn wsX1_init wsX3_init := goodIn_r _ [10, 11, 12, 13, 14, 15, 16, 17, 18, 19, 20, 21, 22, 23, 24, 25, 26, 27, 28, 29, 30, 31, 32, 33] (by decide +kernel) (by decide +kernel)
set_option maxRecDepth 20000 in
theorem gX1_init_X3_init_n3 : GoodIn wsX1_init (wsX3_init) := ggX1_init_X3_init
set_option maxRecDepth 20000 in
theorem ggX4_init_X8_hasMark : GoodIn wsX4_init wsX8_hasMark := goodIn_r _ [8] (by decide +kernel) (by decide +kernel)
set_option maxRecDepth 20000 in
theorem gX4_init_X8_hasMark_n3 : GoodIn wsX4_init (wsX8_hasMark) := ggX4_init_X8_hasMark
set_option maxRecDepth 20000 in
theorem ggX4_init_X3_init : GoodIn wsX4_init wsX3_init := goodIn_r _ [11, 12, 13, 14, 15, 16, 17, 26, 27, 28, 29, 30, 31, 32, 33, 34, 18, 19, 20, 21, 22, 23, 24, 25] (by decide +kernel) (by decide +kernel)
set_option maxRecDepth 20000 in
theorem gX4_init_X3_init_n7 : GoodIn wsX4_init (wsX3_init) := ggX4_init_X3_init
set_option maxRecDepth 20000 in
theorem ggX5_isOutside_X8_isOutsideName : GoodIn wsX5_isOutside wsX8_isOutsideName := goodIn_r _ [7] (by decide +kernel) (by decide +kernel)
set_option maxRecDepth 20000 in
theorem gX5_isOutside_X8_isOutsideName_n24 : GoodIn wsX5_isOutside (wsX8_isOutsideName) := ggX5_isOutside_X8_isOutsideName
set_option maxRecDepth 20000 in
theorem ggX8_init_X7_init : GoodIn wsX8_init wsX7_init := goodIn_r _ [29, 30, 2, 3, 31, 32, 63, 64] (by decide +kernel) (by decide +kernel)
set_option maxRecDepth 20000 in
theorem gX8_init_X7_init_n61 : GoodIn wsX8_init (wsX7_init) := ggX8_init_X7_init
set_option maxRecDepth 20000 in
theorem ggX8_init_X0_init : GoodIn wsX8_init wsX0_init := goodIn_r _ [34, 35, 2, 3, 36, 37, 38, 39, 40, 41, 42, 43, 44, 45, 46, 47, 65, 66, 67, 68, 69, 70, 71, 72, 73, 74, 75, 76] (by decide +kernel) (by decide +kernel)
set_option maxRecDepth 20000 in
theorem gX8_init_X0_init_n72 : GoodIn wsX8_init (wsX0_init) := ggX8_init_X0_init
set_option maxRecDepth 20000 in
theorem ggX8_type_X8_isClass : GoodIn wsX8_type wsX8_isClass := goodIn_r _ [10, 2, 34, 35, 36, 37, 38, 39, 40, 41, 42, 43, 44, 45, 46, 47, 48] (by decide +kernel) (by decide +kernel)
set_option maxRecDepth 20000 in
theorem gX8_type_X8_isClass : GoodIn wsX8_type (wsV RX8 75 RX8 yX8_isClass wsX8_isClass) := goodIn_app (goodIn_of _ (by decide +kernel)) ggX8_type_X8_isClass
set_option maxRecDepth 20000 in
theorem ggX8_type_X8_mayHaveAbove : GoodIn wsX8_type wsX8_mayHaveAbove := goodIn_r _ [13, 49, 50, 51, 52, 53, 54, 55, 56, 57, 58, 59, 60] (by decide +kernel) (by decide +kernel)
set_option maxRecDepth 20000 in
theorem gX8_type_X8_mayHaveAbove : GoodIn wsX8_type (va_wsS RX8 79 yX8_mayHaveAbove wsX8_mayHaveAbove) := goodIn_app (goodIn_of _ (by decide +kernel)) ggX8_type_X8_mayHaveAbove
set_option maxRecDepth 20000 in
theorem ggX8_type_X8_mayActAs : GoodIn wsX8_type wsX8_mayActAs := goodIn_r _ [16, 49, 50, 51, 52, 53, 54, 55, 56, 57, 58, 59, 60] (by decide +kernel) (by decide +kernel)
set_option maxRecDepth 20000 in
theorem gX8_type_X8_mayActAs : GoodIn wsX8_type (va_wsS RX8 83 yX8_mayActAs wsX8_mayActAs) := goodIn_app (goodIn_of _ (by decide +kernel)) ggX8_type_X8_mayActAs
set_option maxRecDepth 20000 in
theorem ggX8_type_X0_init : GoodIn wsX8_type wsX0_init := goodIn_r _ [18, 19, 20, 21, 22, 23, 24, 25, 26, 27, 28, 29, 30, 31, 32, 33, 49, 50, 51, 52, 53, 54, 55, 56, 57, 58, 59, 60] (by decide +kernel) (by decide +kernel)
set_option maxRecDepth 20000 in
theorem gX8_type_X0_init_n72 : GoodIn wsX8_type (wsX0_init) := ggX8_type_X0_init
set_option maxRecDepth 20000 in
theorem ggX8_constants_X8_isClass : GoodIn wsX8_constants wsX8_isClass := goodIn_r _ [6, 7, 8, 9, 10, 11, 12, 13, 14, 15, 16, 17, 18, 19, 20, 21, 22] (by decide +kernel) (by decide +kernel)
set_option maxRecDepth 20000 in
theorem gX8_constants_X8_isClass : GoodIn wsX8_constants (wsV RX8 75 RX8 yX8_isClass wsX8_isClass) := goodIn_app (goodIn_of _ (by decide +kernel)) ggX8_constants_X8_isClass
set_option maxRecDepth 20000 in
theorem ggX8_field_X8_isClass : GoodIn wsX8_field wsX8_isClass := goodIn_r _ [12, 13, 55, 56, 57, 58, 59, 60, 61, 62, 63, 64, 65, 66, 67, 68, 69] (by decide +kernel) (by decide +kernel)
set_option maxRecDepth 20000 in
theorem gX8_field_X8_isClass : GoodIn wsX8_field (wsV RX8 75 RX8 yX8_isClass wsX8_isClass) := goodIn_app (goodIn_of _ (by decide +kernel)) ggX8_field_X8_isClass
set_option maxRecDepth 20000 in
theorem ggX8_field_X8_isMissingClass : GoodIn wsX8_field wsX8_isMissingClass := goodIn_r _ [17, 13, 55, 56, 57, 58, 59, 60, 61, 62, 63, 64, 65, 66, 67, 68, 69] (by decide +kernel) (by decide +kernel)
set_option maxRecDepth 20000 in
theorem gX8_field_X8_isMissingClass : GoodIn wsX8_field (wsV RX8 95 RX8 yX8_isMissingClass wsX8_isMissingClass) := goodIn_app (goodIn_of _ (by decide +kernel)) ggX8_field_X8_isMissingClass
set_option maxRecDepth 20000 in
theorem ggX8_field_X8_isOutsideName : GoodIn wsX8_field wsX8_isOutsideName := goodIn_r _ [20] (by decide +kernel) (by decide +kernel)
set_option maxRecDepth 20000 in
theorem gX8_field_X8_isOutsideName : GoodIn wsX8_field (va_wsS RX8 98 yX8_isOutsideName wsX8_isOutsideName) := goodIn_app (goodIn_of _ (by decide +kernel)) ggX8_field_X8_isOutsideName
set_option maxRecDepth 20000 in
theorem ggX8_field_X8_mayHaveField : GoodIn wsX8_field wsX8_mayHaveField := goodIn_r _ [23, 79, 80, 81, 82, 83, 84, 85, 86, 87, 88, 89, 90] (by decide +kernel) (by decide +kernel)
set_option maxRecDepth 20000 in
theorem gX8_field_X8_mayHaveField : GoodIn wsX8_field (va_wsS RX8 101 yX8_mayHaveField wsX8_mayHaveField) := goodIn_app (goodIn_of _ (by decide +kernel)) ggX8_field_X8_mayHaveField
set_option maxRecDepth 20000 in
theorem ggX8_field_X8_ownField : GoodIn wsX8_field wsX8_ownField := goodIn_r _ [27, 3, 28, 29, 30, 31, 55, 56, 57, 58, 59, 60, 61, 62, 63, 64, 65, 66, 67, 68, 69, 70, 71, 72, 73, 74, 75, 76, 77, 78, 91, 92, 93, 94, 95, 96, 97, 98] (by decide +kernel) (by decide +kernel)
set_option maxRecDepth 20000 in
theorem gX8_field_X8_ownField : GoodIn wsX8_field (wsV RX8 105 RX8 yX8_ownField wsX8_ownField) := goodIn_app (goodIn_of _ (by decide +kernel)) ggX8_field_X8_ownField
set_option maxRecDepth 20000 in
theorem ggX8_field_X1_init : GoodIn wsX8_field wsX1_init := goodIn_r _ [33, 34, 35, 36, 37, 38, 39, 40, 41, 42, 43, 44, 45, 46, 47, 48, 49, 70, 71, 72, 73, 74, 75, 76, 77, 78, 91, 92, 93, 94, 95, 96, 97, 98] (by decide +kernel) (by decide +kernel)
set_option maxRecDepth 20000 in
theorem gX8_field_X1_init_n111 : GoodIn wsX8_field (wsX1_init) := ggX8_field_X1_init
set_option maxRecDepth 20000 in
theorem ggX8_field_X8_addMember : GoodIn wsX8_field wsX8_addMember := goodIn_r _ [53, 28, 3, 54, 55, 56, 57, 58, 59, 60, 61, 62, 63, 64, 65, 66, 67, 68, 69, 70, 71, 72, 73, 74, 75, 76, 77, 78, 91, 92, 93, 94, 95, 96, 97, 98, 79, 80, 81, 82, 83, 84, 85, 86, 87, 88, 89, 90] (by decide +kernel) (by decide +kernel)
set_option maxRecDepth 20000 in
theorem gX8_field_X8_addMember : GoodIn wsX8_field (wsV RX8 114 RX8 yX8_addMember wsX8_addMember) := goodIn_app (goodIn_of _ (by decide +kernel)) ggX8_field_X8_addMember
set_option maxRecDepth 20000 in
theorem ggX8_method_X5_init : GoodIn wsX8_method wsX5_init := goodIn_r _ [13, 14, 15, 16, 17, 18, 19, 20, 99, 100, 101, 102] (by decide +kernel) (by decide +kernel)
set_option maxRecDepth 20000 in
theorem gX8_method_X5_init_n120 : GoodIn wsX8_method (wsX5_init) := ggX8_method_X5_init
set_option maxRecDepth 20000 in
theorem ggX8_method_X8_isClass : GoodIn wsX8_method wsX8_isClass := goodIn_r _ [25, 26, 111, 112, 113, 114, 115, 116, 117, 118, 119, 120, 121, 122, 123, 124, 125] (by decide +kernel) (by decide +kernel)
set_option maxRecDepth 20000 in
theorem gX8_method_X8_isClass : GoodIn wsX8_method (wsV RX8 75 RX8 yX8_isClass wsX8_isClass) := goodIn_app (goodIn_of _ (by decide +kernel)) ggX8_method_X8_isClass
set_option maxRecDepth 20000 in
theorem ggX8_method_X8_hasMissingClass : GoodIn wsX8_method wsX8_hasMissingClass := goodIn_r _ [30, 31, 32, 33, 24, 34, 26, 99, 100, 101, 102, 111, 112, 113, 114, 115, 116, 117, 118, 119, 120, 121, 122, 123, 124, 125] (by decide +kernel) (by decide +kernel)
set_option maxRecDepth 20000 in
theorem gX8_method_X8_hasMissingClass : GoodIn wsX8_method (wsV RX8 123 RX8 yX8_hasMissingClass wsX8_hasMissingClass) := goodIn_app (goodIn_of _ (by decide +kernel)) ggX8_method_X8_hasMissingClass
set_option maxRecDepth 20000 in
theorem ggX8_method_X8_isMissingClass : GoodIn wsX8_method wsX8_isMissingClass := goodIn_r _ [34, 26, 111, 112, 113, 114, 115, 116, 117, 118, 119, 120, 121, 122, 123, 124, 125] (by decide +kernel) (by decide +kernel)
set_option maxRecDepth 20000 in
theorem gX8_method_X8_isMissingClass : GoodIn wsX8_method (wsV RX8 95 RX8 yX8_isMissingClass wsX8_isMissingClass) := goodIn_app (goodIn_of _ (by decide +kernel)) ggX8_method_X8_isMissingClass
set_option maxRecDepth 20000 in
theorem ggX8_method_X5_isOutside : GoodIn wsX8_method wsX5_isOutside := goodIn_r _ [37, 17, 18, 19, 20, 38, 24, 39, 99, 100, 101, 102] (by decide +kernel) (by decide +kernel)
set_option maxRecDepth 20000 in
theorem gX8_method_X5_isOutside_n127 : GoodIn wsX8_method (wsX5_isOutside) := ggX8_method_X5_isOutside
set_option maxRecDepth 20000 in
theorem ggX8_method_X8_areOutsideMarks : GoodIn wsX8_method wsX8_areOutsideMarks := goodIn_r _ [42, 43, 44, 24, 45] (by decide +kernel) (by decide +kernel)
set_option maxRecDepth 20000 in
theorem gX8_method_X8_areOutsideMarks : GoodIn wsX8_method (va_wsS RX8 131 yX8_areOutsideMarks wsX8_areOutsideMarks) := goodIn_app (goodIn_of _ (by decide +kernel)) ggX8_method_X8_areOutsideMarks
set_option maxRecDepth 20000 in
theorem ggX8_method_X8_isOutsideBody : GoodIn wsX8_method wsX8_isOutsideBody := goodIn_r _ [48] (by decide +kernel) (by decide +kernel)
set_option maxRecDepth 20000 in
theorem gX8_method_X8_isOutsideBody : GoodIn wsX8_method (va_wsS RX8 134 yX8_isOutsideBody wsX8_isOutsideBody) := goodIn_app (goodIn_of _ (by decide +kernel)) ggX8_method_X8_isOutsideBody
set_option maxRecDepth 20000 in
theorem ggX8_method_X4_init : GoodIn wsX8_method wsX4_init := goodIn_r _ [50, 51, 52, 53, 54, 55, 44, 24, 45, 56, 57, 58, 59, 15, 16, 60, 61, 62, 103, 104, 105, 106, 107, 108, 109, 110, 126, 127, 128, 129, 130, 131, 132, 133, 134] (by decide +kernel) (by decide +kernel)
set_option maxRecDepth 20000 in
theorem gX8_method_X4_init_n140 : GoodIn wsX8_method (wsX4_init) := ggX8_method_X4_init
set_option maxRecDepth 20000 in
theorem ggX8_method_X8_mayHaveMethod : GoodIn wsX8_method wsX8_mayHaveMethod := goodIn_r _ [65, 9, 10, 66, 67, 126, 127, 128, 129, 130, 131, 132, 133, 134, 103, 104, 105, 106, 107, 108, 109, 110, 135, 136, 137, 138, 139, 140, 141, 142, 143, 144, 145, 146] (by decide +kernel) (by decide +kernel)
set_option maxRecDepth 20000 in
theorem gX8_method_X8_mayHaveMethod : GoodIn wsX8_method (va_wsS RX8 143 yX8_mayHaveMethod wsX8_mayHaveMethod) := goodIn_app (goodIn_of _ (by decide +kernel)) ggX8_method_X8_mayHaveMethod
set_option maxRecDepth 20000 in
theorem ggX8_method_X8_bodySuits : GoodIn wsX8_method wsX8_bodySuits := goodIn_r _ [71, 66, 67, 72, 3, 73, 74, 18, 19, 75, 76, 77, 21, 22, 23, 24, 25, 26, 78, 79, 80, 81, 11, 82, 83, 84, 85, 103, 104, 105, 106, 107, 108, 109, 110, 99, 100, 101, 102, 126, 127, 128, 129, 130, 131, 132, 133, 134, 111, 112, 113, 114, 115, 116, 117, 118, 119, 120, 121, 122, 123, 124, 125] (by decide +kernel) (by decide +kernel)
set_option maxRecDepth 20000 in
theorem gX8_method_X8_bodySuits : GoodIn wsX8_method (wsV RX8 147 RX8 yX8_bodySuits wsX8_bodySuits) := goodIn_app (goodIn_of _ (by decide +kernel)) ggX8_method_X8_bodySuits
set_option maxRecDepth 20000 in
theorem ggX8_method_X8_ownMethod : GoodIn wsX8_method wsX8_ownMethod := goodIn_r _ [89, 11, 82, 90, 9, 10, 91, 3, 92, 93, 17, 18, 19, 20, 111, 112, 113, 114, 115, 116, 117, 118, 119, 120, 121, 122, 123, 124, 125, 126, 127, 128, 129, 130, 131, 132, 133, 134, 103, 104, 105, 106, 107, 108, 109, 110, 99, 100, 101, 102] (by decide +kernel) (by decide +kernel)
set_option maxRecDepth 20000 in
theorem gX8_method_X8_ownMethod : GoodIn wsX8_method (wsV RX8 154 RX8 yX8_ownMethod wsX8_ownMethod) := goodIn_app (goodIn_of _ (by decide +kernel)) ggX8_method_X8_ownMethod
set_option maxRecDepth 20000 in
theorem ggX8_method_X8_addMember : GoodIn wsX8_method wsX8_addMember := goodIn_r _ [97, 82, 11, 98, 111, 112, 113, 114, 115, 116, 117, 118, 119, 120, 121, 122, 123, 124, 125, 126, 127, 128, 129, 130, 131, 132, 133, 134, 103, 104, 105, 106, 107, 108, 109, 110, 135, 136, 137, 138, 139, 140, 141, 142, 143, 144, 145, 146] (by decide +kernel) (by decide +kernel)
set_option maxRecDepth 20000 in
theorem gX8_method_X8_addMember : GoodIn wsX8_method (wsV RX8 114 RX8 yX8_addMember wsX8_addMember) := goodIn_app (goodIn_of _ (by decide +kernel)) ggX8_method_X8_addMember
set_option maxRecDepth 20000 in
theorem ggX8_caller_X8_isClass : GoodIn wsX8_caller wsX8_isClass := goodIn_r _ [6, 7, 8, 9, 10, 11, 12, 13, 14, 15, 16, 17, 18, 19, 20, 21, 22] (by decide +kernel) (by decide +kernel)
set_option maxRecDepth 20000 in
theorem gX8_caller_X8_isClass : GoodIn wsX8_caller (wsV RX8 75 RX8 yX8_isClass wsX8_isClass) := goodIn_app (goodIn_of _ (by decide +kernel)) ggX8_caller_X8_isClass
set_option maxRecDepth 20000 in
theorem ggX8_findField_X8_isClass : GoodIn wsX8_findField wsX8_isClass := goodIn_r _ [6, 7, 47, 48, 49, 50, 51, 52, 53, 54, 55, 56, 57, 58, 59, 60, 61] (by decide +kernel) (by decide +kernel)
set_option maxRecDepth 20000 in
theorem gX8_findField_X8_isClass : GoodIn wsX8_findField (wsV RX8 75 RX8 yX8_isClass wsX8_isClass) := goodIn_app (goodIn_of _ (by decide +kernel)) ggX8_findField_X8_isClass
set_option maxRecDepth 20000 in
theorem ggX8_findField_X8_isOutsideName : GoodIn wsX8_findField wsX8_isOutsideName := goodIn_r _ [10] (by decide +kernel) (by decide +kernel)
set_option maxRecDepth 20000 in
theorem gX8_findField_X8_isOutsideName : GoodIn wsX8_findField (va_wsS RX8 98 yX8_isOutsideName wsX8_isOutsideName) := goodIn_app (goodIn_of _ (by decide +kernel)) ggX8_findField_X8_isOutsideName
set_option maxRecDepth 20000 in
theorem ggX8_findField_X8_visibleField : GoodIn wsX8_findField wsX8_visibleField := goodIn_r _ [14, 15, 16, 17, 18, 19, 5, 20, 21, 22, 23, 24, 47, 48, 49, 50, 51, 52, 53, 54, 55, 56, 57, 58, 59, 60, 61, 62, 63, 64, 65, 66, 67, 68, 69, 70, 71, 72, 73, 74, 75, 76, 77, 78, 79, 80, 81, 82, 83, 84, 85, 86, 87, 88, 89, 90] (by decide +kernel) (by decide +kernel)
set_option maxRecDepth 20000 in
theorem gX8_findField_X8_visibleField : GoodIn wsX8_findField (wsV RX8 158 RX8 yX8_visibleField wsX8_visibleField) := goodIn_app (goodIn_of _ (by decide +kernel)) ggX8_findField_X8_visibleField
set_option maxRecDepth 20000 in
theorem ggX8_findField_X8_ownField : GoodIn wsX8_findField wsX8_ownField := goodIn_r _ [20, 21, 15, 22, 23, 24, 47, 48, 49, 50, 51, 52, 53, 54, 55, 56, 57, 58, 59, 60, 61, 62, 63, 64, 65, 66, 67, 68, 69, 70, 71, 72, 73, 74, 75, 76, 77, 78] (by decide +kernel) (by decide +kernel)
set_option maxRecDepth 20000 in
theorem gX8_findField_X8_ownField : GoodIn wsX8_findField (wsV RX8 105 RX8 yX8_ownField wsX8_ownField) := goodIn_app (goodIn_of _ (by decide +kernel)) ggX8_findField_X8_ownField
set_option maxRecDepth 20000 in
theorem ggX8_findField_X8_addHandle : GoodIn wsX8_findField wsX8_addHandle := goodIn_r _ [28, 29, 30, 31, 32, 33, 15, 34, 35, 36, 5, 37, 38, 39, 40, 41, 42, 43, 44, 45, 46, 47, 48, 49, 50, 51, 52, 53, 54, 55, 56, 57, 58, 59, 60, 61, 91, 92, 93] (by decide +kernel) (by decide +kernel)
set_option maxRecDepth 20000 in
theorem gX8_findField_X8_addHandle : GoodIn wsX8_findField (wsV RX8 161 RX8 yX8_addHandle wsX8_addHandle) := goodIn_app (goodIn_of _ (by decide +kernel)) ggX8_findField_X8_addHandle
set_option maxRecDepth 20000 in
theorem ggX8_findMethod_X5_init : GoodIn wsX8_findMethod wsX5_init := goodIn_r _ [6, 7, 8, 9, 10, 11, 12, 13, 74, 75, 76, 77] (by decide +kernel) (by decide +kernel)
set_option maxRecDepth 20000 in
theorem gX8_findMethod_X5_init_n120 : GoodIn wsX8_findMethod (wsX5_init) := ggX8_findMethod_X5_init
set_option maxRecDepth 20000 in
theorem ggX8_findMethod_X8_isClass : GoodIn wsX8_findMethod wsX8_isClass := goodIn_r _ [18, 19, 78, 79, 80, 81, 82, 83, 84, 85, 86, 87, 88, 89, 90, 91, 92] (by decide +kernel) (by decide +kernel)
set_option maxRecDepth 20000 in
theorem gX8_findMethod_X8_isClass : GoodIn wsX8_findMethod (wsV RX8 75 RX8 yX8_isClass wsX8_isClass) := goodIn_app (goodIn_of _ (by decide +kernel)) ggX8_findMethod_X8_isClass
set_option maxRecDepth 20000 in
theorem ggX8_findMethod_X8_hasMissingClass : GoodIn wsX8_findMethod wsX8_hasMissingClass := goodIn_r _ [23, 24, 25, 26, 17, 27, 19, 74, 75, 76, 77, 78, 79, 80, 81, 82, 83, 84, 85, 86, 87, 88, 89, 90, 91, 92] (by decide +kernel) (by decide +kernel)
set_option maxRecDepth 20000 in
theorem gX8_findMethod_X8_hasMissingClass : GoodIn wsX8_findMethod (wsV RX8 123 RX8 yX8_hasMissingClass wsX8_hasMissingClass) := goodIn_app (goodIn_of _ (by decide +kernel)) ggX8_findMethod_X8_hasMissingClass
set_option maxRecDepth 20000 in
theorem ggX8_findMethod_X5_isOutside : GoodIn wsX8_findMethod wsX5_isOutside := goodIn_r _ [30, 10, 11, 12, 13, 31, 17, 32, 74, 75, 76, 77] (by decide +kernel) (by decide +kernel)
set_option maxRecDepth 20000 in
theorem gX8_findMethod_X5_isOutside_n127 : GoodIn wsX8_findMethod (wsX5_isOutside) := ggX8_findMethod_X5_isOutside
set_option maxRecDepth 20000 in
theorem ggX8_findMethod_X8_visibleMethod : GoodIn wsX8_findMethod wsX8_visibleMethod := goodIn_r _ [36, 37, 38, 39, 17, 40, 41, 42, 43, 44, 45, 46, 47, 48, 49, 50, 51, 3, 52, 53, 10, 11, 12, 13, 93, 94, 95, 96, 97, 98, 99, 100, 101, 102, 103, 104, 78, 79, 80, 81, 82, 83, 84, 85, 86, 87, 88, 89, 90, 91, 92, 105, 106, 107, 108, 109, 110, 111, 112, 113, 114, 115, 116, 117, 118, 119, 120, 121, 74, 75, 76, 77] (by decide +kernel) (by decide +kernel)
set_option maxRecDepth 20000 in
theorem gX8_findMethod_X8_visibleMethod : GoodIn wsX8_findMethod (wsV RX8 165 RX8 yX8_visibleMethod wsX8_visibleMethod) := goodIn_app (goodIn_of _ (by decide +kernel)) ggX8_findMethod_X8_visibleMethod
set_option maxRecDepth 20000 in
theorem ggX8_findMethod_X8_ownMethod : GoodIn wsX8_findMethod wsX8_ownMethod := goodIn_r _ [46, 47, 41, 48, 49, 50, 51, 3, 52, 53, 10, 11, 12, 13, 78, 79, 80, 81, 82, 83, 84, 85, 86, 87, 88, 89, 90, 91, 92, 105, 106, 107, 108, 109, 110, 111, 112, 113, 114, 115, 116, 117, 118, 119, 120, 121, 74, 75, 76, 77] (by decide +kernel) (by decide +kernel)
set_option maxRecDepth 20000 in
theorem gX8_findMethod_X8_ownMethod : GoodIn wsX8_findMethod (wsV RX8 154 RX8 yX8_ownMethod wsX8_ownMethod) := goodIn_app (goodIn_of _ (by decide +kernel)) ggX8_findMethod_X8_ownMethod
set_option maxRecDepth 20000 in
theorem ggX8_findMethod_X8_addHandle : GoodIn wsX8_findMethod wsX8_addHandle := goodIn_r _ [57, 58, 59, 60, 61, 62, 41, 63, 64, 65, 17, 66, 67, 68, 69, 70, 8, 9, 71, 72, 73, 78, 79, 80, 81, 82, 83, 84, 85, 86, 87, 88, 89, 90, 91, 92, 122, 123, 124] (by decide +kernel) (by decide +kernel)
set_option maxRecDepth 20000 in
theorem gX8_findMethod_X8_addHandle : GoodIn wsX8_findMethod (wsV RX8 161 RX8 yX8_addHandle wsX8_addHandle) := goodIn_app (goodIn_of _ (by decide +kernel)) ggX8_findMethod_X8_addHandle
set_option maxRecDepth 20000 in
theorem ggX8_leave_X8_isHandle : GoodIn wsX8_leave wsX8_isHandle := goodIn_r _ [8, 9, 15, 16, 17, 18, 19, 20, 21, 22, 23, 24, 25, 26, 27, 28, 29] (by decide +kernel) (by decide +kernel)
set_option maxRecDepth 20000 in
theorem gX8_leave_X8_isHandle : GoodIn wsX8_leave (wsV RX8 168 RX8 yX8_isHandle wsX8_isHandle) := goodIn_app (goodIn_of _ (by decide +kernel)) ggX8_leave_X8_isHandle
set_option maxRecDepth 20000 in
theorem ggX8_value_X7_become : GoodIn wsX8_value wsX7_become := goodIn_r _ [9, 10, 11, 27, 28] (by decide +kernel) (by decide +kernel)
set_option maxRecDepth 20000 in
theorem gX8_value_X7_become_n195 : GoodIn wsX8_value (wsX7_become) := ggX8_value_X7_become
set_option maxRecDepth 20000 in
theorem ggX8_get_X8_isHandle : GoodIn wsX8_get wsX8_isHandle := goodIn_r _ [8, 9, 113, 114, 115, 116, 117, 118, 119, 120, 121, 122, 123, 124, 125, 126, 127] (by decide +kernel) (by decide +kernel)
set_option maxRecDepth 20000 in
theorem gX8_get_X8_isHandle : GoodIn wsX8_get (wsV RX8 168 RX8 yX8_isHandle wsX8_isHandle) := goodIn_app (goodIn_of _ (by decide +kernel)) ggX8_get_X8_isHandle
set_option maxRecDepth 20000 in
theorem ggX8_set_X8_isHandle : GoodIn wsX8_set wsX8_isHandle := goodIn_r _ [9, 10, 121, 122, 123, 124, 125, 126, 127, 128, 129, 130, 131, 132, 133, 134, 135] (by decide +kernel) (by decide +kernel)
set_option maxRecDepth 20000 in
theorem gX8_set_X8_isHandle : GoodIn wsX8_set (wsV RX8 168 RX8 yX8_isHandle wsX8_isHandle) := goodIn_app (goodIn_of _ (by decide +kernel)) ggX8_set_X8_isHandle
set_option maxRecDepth 20000 in
theorem ggX8_call_X8_isHandle : GoodIn wsX8_call wsX8_isHandle := goodIn_r _ [9, 10, 211, 212, 213, 214, 215, 216, 217, 218, 219, 220, 221, 222, 223, 224, 225] (by decide +kernel) (by decide +kernel)
set_option maxRecDepth 20000 in
theorem gX8_call_X8_isHandle : GoodIn wsX8_call (wsV RX8 168 RX8 yX8_isHandle wsX8_isHandle) := goodIn_app (goodIn_of _ (by decide +kernel)) ggX8_call_X8_isHandle
set_option maxRecDepth 20000 in
theorem ggX8_make_X8_isClass : GoodIn wsX8_make wsX8_isClass := goodIn_r _ [7, 8, 103, 104, 105, 106, 107, 108, 109, 110, 111, 112, 113, 114, 115, 116, 117] (by decide +kernel) (by decide +kernel)
set_option maxRecDepth 20000 in
theorem gX8_make_X8_isClass : GoodIn wsX8_make (wsV RX8 75 RX8 yX8_isClass wsX8_isClass) := goodIn_app (goodIn_of _ (by decide +kernel)) ggX8_make_X8_isClass
set_option maxRecDepth 20000 in
theorem ggX8_make_X8_makeFailure : GoodIn wsX8_make wsX8_makeFailure := goodIn_r _ [12, 13, 14, 15, 16, 6, 17, 18, 19, 20, 21, 22, 23, 24, 25, 26, 27, 28, 29, 30, 31, 1, 32, 2, 3, 4, 5, 7, 8, 33, 34, 35, 36, 37, 38, 39, 40, 41, 42, 43, 44, 45, 46, 47, 48, 49, 50, 51, 52, 53, 54, 55, 56, 57, 58, 59, 60, 61, 62, 63, 64, 65, 66, 67, 68, 69, 70, 71, 72, 73, 74, 118, 119, 120, 121, 122, 123, 124, 125, 126, 127, 128, 129, 103, 104, 105, 106, 107, 108, 109, 110, 111, 112, 113, 114, 115, 116, 117, 130, 131, 132, 133, 134, 135, 136, 137, 138, 139, 140, 141, 142, 143, 144, 145, 146, 147, 148, 149, 150, 151, 152, 153] (by decide +kernel) (by decide +kernel)
set_option maxRecDepth 20000 in
theorem gX8_make_X8_makeFailure : GoodIn wsX8_make (wsV RX8 240 RX8 yX8_makeFailure wsX8_makeFailure) := goodIn_app (goodIn_of _ (by decide +kernel)) ggX8_make_X8_makeFailure
set_option maxRecDepth 20000 in
theorem ggX8_make_X8_addThing : GoodIn wsX8_make wsX8_addThing := goodIn_r _ [55, 1, 32, 56, 57, 34, 58, 59, 60, 6, 61, 62, 63, 18, 19, 20, 64, 65, 66, 67, 68, 69, 70, 71, 72, 73, 74, 37, 103, 104, 105, 106, 107, 108, 109, 110, 111, 112, 113, 114, 115, 116, 117, 149, 150, 151, 152, 153, 130, 131, 132, 133, 134, 135, 136, 137, 138, 139, 140, 141, 142, 143, 144, 145, 146, 118, 119, 120, 121, 122, 123, 124, 125, 126, 127, 128, 129] (by decide +kernel) (by decide +kernel)
set_option maxRecDepth 20000 in
theorem gX8_make_X8_addThing : GoodIn wsX8_make (wsV RX8 244 RX8 yX8_addThing wsX8_addThing) := goodIn_app (goodIn_of _ (by decide +kernel)) ggX8_make_X8_addThing
set_option maxRecDepth 20000 in
theorem ggX8_proxy_X8_isClass : GoodIn wsX8_proxy wsX8_isClass := goodIn_r _ [7, 8, 38, 39, 40, 41, 42, 43, 44, 45, 46, 47, 48, 49, 50, 51, 52] (by decide +kernel) (by decide +kernel)
set_option maxRecDepth 20000 in
theorem gX8_proxy_X8_isClass : GoodIn wsX8_proxy (wsV RX8 75 RX8 yX8_isClass wsX8_isClass) := goodIn_app (goodIn_of _ (by decide +kernel)) ggX8_proxy_X8_isClass
set_option maxRecDepth 20000 in
theorem ggX8_constant_X8_isClass : GoodIn wsX8_constant wsX8_isClass := goodIn_r _ [6, 7, 57, 58, 59, 60, 61, 62, 63, 64, 65, 66, 67, 68, 69, 70, 71] (by decide +kernel) (by decide +kernel)
set_option maxRecDepth 20000 in
theorem gX8_constant_X8_isClass : GoodIn wsX8_constant (wsV RX8 75 RX8 yX8_isClass wsX8_isClass) := goodIn_app (goodIn_of _ (by decide +kernel)) ggX8_constant_X8_isClass
set_option maxRecDepth 20000 in
theorem ggX8_start_X8_isClass : GoodIn wsX8_start wsX8_isClass := goodIn_r _ [6, 7, 57, 58, 59, 60, 61, 62, 63, 64, 65, 66, 67, 68, 69, 70, 71] (by decide +kernel) (by decide +kernel)
set_option maxRecDepth 20000 in
theorem gX8_start_X8_isClass : GoodIn wsX8_start (wsV RX8 75 RX8 yX8_isClass wsX8_isClass) := goodIn_app (goodIn_of _ (by decide +kernel)) ggX8_start_X8_isClass
set_option maxRecDepth 20000 in
theorem ggX8_start_X8_startFailure : GoodIn wsX8_start wsX8_startFailure := goodIn_r _ [11, 7, 1, 12, 13, 14, 15, 16, 17, 18, 19, 20, 5, 21, 22, 23, 24, 25, 26, 27, 28, 29, 30, 31, 32, 33, 34, 35, 36, 37, 38, 39, 40, 41, 42, 43, 44, 45, 46, 47, 48, 49, 50, 51, 57, 58, 59, 60, 61, 62, 63, 64, 65, 66, 67, 68, 69, 70, 71, 72, 73, 74, 75, 76, 77, 78, 79, 80, 81, 82, 83, 84, 85, 86, 87, 88, 89, 90, 91, 92, 93, 94, 95, 96, 97, 98, 99, 100, 101, 102, 103, 104, 105] (by decide +kernel) (by decide +kernel)
set_option maxRecDepth 20000 in
theorem gX8_start_X8_startFailure : GoodIn wsX8_start (wsV RX8 252 RX8 yX8_startFailure wsX8_startFailure) := goodIn_app (goodIn_of _ (by decide +kernel)) ggX8_start_X8_startFailure
set_option maxRecDepth 20000 in
theorem ggX8_about_X8_isClass : GoodIn wsX8_about wsX8_isClass := goodIn_r _ [6, 7, 8, 9, 10, 11, 12, 13, 14, 15, 16, 17, 18, 19, 20, 21, 22] (by decide +kernel) (by decide +kernel)
set_option maxRecDepth 20000 in
theorem gX8_about_X8_isClass : GoodIn wsX8_about (wsV RX8 75 RX8 yX8_isClass wsX8_isClass) := goodIn_app (goodIn_of _ (by decide +kernel)) ggX8_about_X8_isClass
set_option maxRecDepth 20000 in
theorem ggX8_is_X8_isThing : GoodIn wsX8_is wsX8_isThing := goodIn_r _ [7, 8, 19, 20, 21, 22, 23, 24, 25, 26, 27, 28, 29, 30, 31, 32, 33] (by decide +kernel) (by decide +kernel)
set_option maxRecDepth 20000 in
theorem gX8_is_X8_isThing : GoodIn wsX8_is (wsV RX8 273 RX8 yX8_isThing wsX8_isThing) := goodIn_app (goodIn_of _ (by decide +kernel)) ggX8_is_X8_isThing
set_option maxRecDepth 20000 in
theorem ggX8_handle_X8_isHandle : GoodIn wsX8_handle wsX8_isHandle := goodIn_r _ [6, 7, 15, 16, 17, 18, 19, 20, 21, 22, 23, 24, 25, 26, 27, 28, 29] (by decide +kernel) (by decide +kernel)
set_option maxRecDepth 20000 in
theorem gX8_handle_X8_isHandle : GoodIn wsX8_handle (wsV RX8 168 RX8 yX8_isHandle wsX8_isHandle) := goodIn_app (goodIn_of _ (by decide +kernel)) ggX8_handle_X8_isHandle
set_option maxRecDepth 20000 in
theorem ggX8_hasMissingClass_X8_isMissingClass : GoodIn wsX8_hasMissingClass wsX8_isMissingClass := goodIn_r _ [5, 6, 11, 12, 13, 14, 15, 16, 17, 18, 19, 20, 21, 22, 23, 24, 25] (by decide +kernel) (by decide +kernel)
set_option maxRecDepth 20000 in
theorem gX8_hasMissingClass_X8_isMissingClass : GoodIn wsX8_hasMissingClass (wsV RX8 95 RX8 yX8_isMissingClass wsX8_isMissingClass) := goodIn_app (goodIn_of _ (by decide +kernel)) ggX8_hasMissingClass_X8_isMissingClass
set_option maxRecDepth 20000 in
theorem ggX8_areOutsideMarks_X8_hasMark : GoodIn wsX8_areOutsideMarks wsX8_hasMark := goodIn_r _ [4] (by decide +kernel) (by decide +kernel)
set_option maxRecDepth 20000 in
theorem gX8_areOutsideMarks_X8_hasMark : GoodIn wsX8_areOutsideMarks (va_wsS RX8 293 yX8_hasMark wsX8_hasMark) := goodIn_app (goodIn_of _ (by decide +kernel)) ggX8_areOutsideMarks_X8_hasMark
set_option maxRecDepth 20000 in
theorem ggX8_bodySuits_X5_startsWithInt : GoodIn wsX8_bodySuits wsX5_startsWithInt := goodIn_r _ [6, 7, 8, 35, 36, 37, 38] (by decide +kernel) (by decide +kernel)
set_option maxRecDepth 20000 in
theorem gX8_bodySuits_X5_startsWithInt_n309 : GoodIn wsX8_bodySuits (wsX5_startsWithInt) := ggX8_bodySuits_X5_startsWithInt
set_option maxRecDepth 20000 in
theorem ggX8_bodySuits_X5_startsWithClass : GoodIn wsX8_bodySuits wsX5_startsWithClass := goodIn_r _ [11, 7, 8, 35, 36, 37, 38] (by decide +kernel) (by decide +kernel)
set_option maxRecDepth 20000 in
theorem gX8_bodySuits_X5_startsWithClass_n315 : GoodIn wsX8_bodySuits (wsX5_startsWithClass) := ggX8_bodySuits_X5_startsWithClass
set_option maxRecDepth 20000 in
theorem ggX8_bodySuits_X8_isClass : GoodIn wsX8_bodySuits wsX8_isClass := goodIn_r _ [16, 17, 48, 49, 50, 51, 52, 53, 54, 55, 56, 57, 58, 59, 60, 61, 62] (by decide +kernel) (by decide +kernel)
set_option maxRecDepth 20000 in
theorem gX8_bodySuits_X8_isClass : GoodIn wsX8_bodySuits (wsV RX8 75 RX8 yX8_isClass wsX8_isClass) := goodIn_app (goodIn_of _ (by decide +kernel)) ggX8_bodySuits_X8_isClass
set_option maxRecDepth 20000 in
theorem ggX8_bodySuits_X8_fieldToRead : GoodIn wsX8_bodySuits wsX8_fieldToRead := goodIn_r _ [21, 22, 23, 24, 25, 26, 48, 49, 50, 51, 52, 53, 54, 55, 56, 57, 58, 59, 60, 61, 62, 39, 40, 41, 42, 43, 44, 45, 46, 47, 27, 28, 29, 30, 31, 32, 33, 34] (by decide +kernel) (by decide +kernel)
set_option maxRecDepth 20000 in
theorem gX8_bodySuits_X8_fieldToRead : GoodIn wsX8_bodySuits (wsV RX8 321 RX8 yX8_fieldToRead wsX8_fieldToRead) := goodIn_app (goodIn_of _ (by decide +kernel)) ggX8_bodySuits_X8_fieldToRead
set_option maxRecDepth 20000 in
theorem ggX8_visibleField_X8_ownField : GoodIn wsX8_visibleField wsX8_ownField := goodIn_r _ [7, 8, 1, 9, 10, 11, 12, 13, 14, 15, 16, 17, 18, 19, 20, 21, 22, 23, 24, 25, 26, 27, 28, 29, 30, 31, 32, 33, 34, 35, 36, 37, 38, 39, 40, 41, 42, 43] (by decide +kernel) (by decide +kernel)
set_option maxRecDepth 20000 in
theorem gX8_visibleField_X8_ownField : GoodIn wsX8_visibleField (wsV RX8 105 RX8 yX8_ownField wsX8_ownField) := goodIn_app (goodIn_of _ (by decide +kernel)) ggX8_visibleField_X8_ownField
set_option maxRecDepth 20000 in
theorem ggX8_visibleMethod_X8_visibleMethodUpward : GoodIn wsX8_visibleMethod wsX8_visibleMethodUpward := goodIn_r _ [5, 6, 7, 8, 9, 10, 4, 11, 12, 13, 14, 15, 16, 17, 18, 19, 20, 21, 22, 23, 36, 37, 38, 39, 40, 41, 42, 43, 44, 45, 46, 47, 48, 49, 50, 51, 52, 53, 54, 55, 56, 57, 58, 59, 60, 61, 62, 63, 64, 65, 66, 67, 24, 25, 26, 27, 28, 29, 30, 31, 32, 33, 34, 35, 68, 69, 70, 71] (by decide +kernel) (by decide +kernel)
set_option maxRecDepth 20000 in
theorem gX8_visibleMethod_X8_visibleMethodUpward : GoodIn wsX8_visibleMethod (wsV RX8 336 RX8 yX8_visibleMethodUpward wsX8_visibleMethodUpward) := goodIn_app (goodIn_of _ (by decide +kernel)) ggX8_visibleMethod_X8_visibleMethodUpward
set_option maxRecDepth 20000 in
theorem ggX8_visibleMethodUpward_X8_ownMethod : GoodIn wsX8_visibleMethodUpward wsX8_ownMethod := goodIn_r _ [7, 8, 1, 9, 10, 11, 12, 13, 14, 15, 16, 17, 18, 19, 20, 21, 22, 23, 24, 25, 26, 27, 28, 29, 30, 31, 32, 33, 34, 35, 36, 37, 38, 39, 40, 41, 42, 43, 44, 45, 46, 47, 48, 49, 50, 51, 64, 65, 66, 67] (by decide +kernel) (by decide +kernel)
set_option maxRecDepth 20000 in
theorem gX8_visibleMethodUpward_X8_ownMethod : GoodIn wsX8_visibleMethodUpward (wsV RX8 154 RX8 yX8_ownMethod wsX8_ownMethod) := goodIn_app (goodIn_of _ (by decide +kernel)) ggX8_visibleMethodUpward_X8_ownMethod
set_option maxRecDepth 20000 in
theorem ggX8_addHandle_X8_failed : GoodIn wsX8_addHandle wsX8_failed := goodIn_r _ [11, 12, 21, 22, 23, 24, 25, 26, 27, 28, 29, 30, 31, 32, 33, 34, 35] (by decide +kernel) (by decide +kernel)
set_option maxRecDepth 20000 in
theorem gX8_addHandle_X8_failed : GoodIn wsX8_addHandle (wsV RX8 183 RX8 yX8_failed wsX8_failed) := goodIn_app (goodIn_of _ (by decide +kernel)) ggX8_addHandle_X8_failed
set_option maxRecDepth 20000 in
theorem ggX8_startFailure_X0_standsUnder : GoodIn wsX8_startFailure wsX0_standsUnder := goodIn_r _ [6, 7, 8, 59, 60, 61, 62, 63, 64, 65, 66, 67, 68, 69, 70] (by decide +kernel) (by decide +kernel)
set_option maxRecDepth 20000 in
theorem gX8_startFailure_X0_standsUnder_n342 : GoodIn wsX8_startFailure (wsX0_standsUnder) := ggX8_startFailure_X0_standsUnder
set_option maxRecDepth 20000 in
theorem ggX8_startFailure_X8_startAlone : GoodIn wsX8_startFailure wsX8_startAlone := goodIn_r _ [13, 14, 15, 16, 17, 12, 18, 19, 20, 21, 22, 23, 24, 25, 26, 27, 28, 29, 30, 31, 32, 33, 34, 35, 36, 37, 38, 39, 40, 41, 42, 43, 59, 60, 61, 62, 63, 64, 65, 66, 67, 68, 69, 70, 44, 45, 46, 47, 48, 49, 50, 51, 52, 53, 54, 55, 56, 57, 58, 71, 72, 73, 74, 75, 76, 77, 78, 79, 80, 81, 82, 83, 84, 85, 86, 87, 88, 89, 90, 91, 92] (by decide +kernel) (by decide +kernel)
set_option maxRecDepth 20000 in
theorem gX8_startFailure_X8_startAlone : GoodIn wsX8_startFailure (wsV RX8 345 RX8 yX8_startAlone wsX8_startAlone) := goodIn_app (goodIn_of _ (by decide +kernel)) ggX8_startFailure_X8_startAlone
set_option maxRecDepth 20000 in
theorem ggX8_makeFailure_X8_startFailure : GoodIn wsX8_makeFailure wsX8_startFailure := goodIn_r _ [37, 28, 23, 38, 39, 40, 41, 42, 43, 44, 45, 46, 5, 47, 21, 48, 49, 50, 51, 22, 52, 53, 30, 54, 55, 56, 57, 58, 59, 7, 8, 9, 60, 61, 62, 63, 64, 65, 66, 67, 68, 69, 70, 33, 83, 84, 85, 86, 87, 88, 89, 90, 91, 92, 93, 94, 95, 96, 97, 71, 72, 73, 74, 75, 76, 77, 78, 79, 80, 81, 82, 117, 118, 119, 120, 121, 98, 99, 100, 101, 102, 103, 104, 105, 106, 107, 108, 109, 110, 111, 112, 113, 114] (by decide +kernel) (by decide +kernel)
set_option maxRecDepth 20000 in
theorem gX8_makeFailure_X8_startFailure : GoodIn wsX8_makeFailure (wsV RX8 252 RX8 yX8_startFailure wsX8_startFailure) := goodIn_app (goodIn_of _ (by decide +kernel)) ggX8_makeFailure_X8_startFailure
set_option maxRecDepth 20000 in
theorem ggX8_addThing_X8_firstSlots : GoodIn wsX8_addThing wsX8_firstSlots := goodIn_r _ [10, 11, 12, 13, 14, 15, 16, 17, 28, 29, 30, 31, 32, 33, 34, 35, 36, 37, 38, 39, 40, 41, 42, 48, 49, 50, 51, 52, 53, 54, 55, 56, 57, 58, 59, 60, 61, 62, 63, 64] (by decide +kernel) (by decide +kernel)
set_option maxRecDepth 20000 in
theorem gX8_addThing_X8_firstSlots : GoodIn wsX8_addThing (wsV RX8 375 RX8 yX8_firstSlots wsX8_firstSlots) := goodIn_app (goodIn_of _ (by decide +kernel)) ggX8_addThing_X8_firstSlots
set_option maxRecDepth 20000 in
theorem ggX8_addThing_X6_init : GoodIn wsX8_addThing wsX6_init := goodIn_r _ [19, 20, 21, 22, 23, 24, 25, 26, 27, 43, 44, 45, 46, 47, 65, 66, 67, 68, 69, 70, 71, 72, 73, 74, 75, 76] (by decide +kernel) (by decide +kernel)
set_option maxRecDepth 20000 in
theorem gX8_addThing_X6_init_n379 : GoodIn wsX8_addThing (wsX6_init) := ggX8_addThing_X6_init
theorem inX0_init_0 : ∀ w ∈ u_ws RX0 TX0 12, w ∈ wsX0_init := by decide +kernel
theorem inX0_standsUnder_0 : ∀ w ∈ u_ws RX0 TX0 12, w ∈ wsX0_standsUnder := by decide +kernel
theorem inX1_init_1 : ∀ w ∈ u_ws RX1 TX1 9, w ∈ wsX1_init := by decide +kernel
theorem inX3_init_1 : ∀ w ∈ u_ws RX1 TX1 9, w ∈ wsX3_init := by decide +kernel
theorem inX3_init_4 : ∀ w ∈ u_ws RX4 TX4 8, w ∈ wsX3_init := by decide +kernel
theorem inX4_init_4 : ∀ w ∈ u_ws RX4 TX4 8, w ∈ wsX4_init := by decide +kernel
theorem inX5_init_5 : ∀ w ∈ u_ws RX5 TX5 4, w ∈ wsX5_init := by decide +kernel
theorem inX5_isOutside_5 : ∀ w ∈ u_ws RX5 TX5 4, w ∈ wsX5_isOutside := by decide +kernel
theorem inX5_startsWithClass_5 : ∀ w ∈ u_ws RX5 TX5 4, w ∈ wsX5_startsWithClass := by decide +kernel
theorem inX5_startsWithInt_5 : ∀ w ∈ u_ws RX5 TX5 4, w ∈ wsX5_startsWithInt := by decide +kernel
theorem inX6_init_0 : ∀ w ∈ u_ws RX0 TX0 12, w ∈ wsX6_init := by decide +kernel
theorem inX6_init_6 : ∀ w ∈ u_ws RX6 TX6 5, w ∈ wsX6_init := by decide +kernel
theorem inX7_become_7 : ∀ w ∈ u_ws RX7 TX7 2, w ∈ wsX7_become := by decide +kernel
theorem inX7_init_7 : ∀ w ∈ u_ws RX7 TX7 2, w ∈ wsX7_init := by decide +kernel
theorem inX8_about_0 : ∀ w ∈ u_ws RX0 TX0 12, w ∈ wsX8_about := by decide +kernel
theorem inX8_about_8 : ∀ w ∈ u_ws RX8 TX8 15, w ∈ wsX8_about := by decide +kernel
theorem inX8_addMember_0 : ∀ w ∈ u_ws RX0 TX0 12, w ∈ wsX8_addMember := by decide +kernel
theorem inX8_addMember_1 : ∀ w ∈ u_ws RX1 TX1 9, w ∈ wsX8_addMember := by decide +kernel
theorem inX8_addMember_4 : ∀ w ∈ u_ws RX4 TX4 8, w ∈ wsX8_addMember := by decide +kernel
theorem inX8_addMember_8 : ∀ w ∈ u_ws RX8 TX8 15, w ∈ wsX8_addMember := by decide +kernel
theorem inX8_addThing_6 : ∀ w ∈ u_ws RX6 TX6 5, w ∈ wsX8_addThing := by decide +kernel
theorem inX8_addThing_8 : ∀ w ∈ u_ws RX8 TX8 15, w ∈ wsX8_addThing := by decide +kernel
theorem inX8_bodySuits_4 : ∀ w ∈ u_ws RX4 TX4 8, w ∈ wsX8_bodySuits := by decide +kernel
theorem inX8_bodySuits_5 : ∀ w ∈ u_ws RX5 TX5 4, w ∈ wsX8_bodySuits := by decide +kernel
theorem inX8_caller_8 : ∀ w ∈ u_ws RX8 TX8 15, w ∈ wsX8_caller := by decide +kernel
theorem inX8_cause_8 : ∀ w ∈ u_ws RX8 TX8 15, w ∈ wsX8_cause := by decide +kernel
theorem inX8_constant_0 : ∀ w ∈ u_ws RX0 TX0 12, w ∈ wsX8_constant := by decide +kernel
theorem inX8_constant_8 : ∀ w ∈ u_ws RX8 TX8 15, w ∈ wsX8_constant := by decide +kernel
theorem inX8_constants_0 : ∀ w ∈ u_ws RX0 TX0 12, w ∈ wsX8_constants := by decide +kernel
theorem inX8_constants_8 : ∀ w ∈ u_ws RX8 TX8 15, w ∈ wsX8_constants := by decide +kernel
theorem inX8_failed_8 : ∀ w ∈ u_ws RX8 TX8 15, w ∈ wsX8_failed := by decide +kernel
theorem inX8_field_1 : ∀ w ∈ u_ws RX1 TX1 9, w ∈ wsX8_field := by decide +kernel
theorem inX8_field_8 : ∀ w ∈ u_ws RX8 TX8 15, w ∈ wsX8_field := by decide +kernel
theorem inX8_fieldToRead_8 : ∀ w ∈ u_ws RX8 TX8 15, w ∈ wsX8_fieldToRead := by decide +kernel
theorem inX8_findField_8 : ∀ w ∈ u_ws RX8 TX8 15, w ∈ wsX8_findField := by decide +kernel
theorem inX8_findMethod_5 : ∀ w ∈ u_ws RX5 TX5 4, w ∈ wsX8_findMethod := by decide +kernel
theorem inX8_findMethod_8 : ∀ w ∈ u_ws RX8 TX8 15, w ∈ wsX8_findMethod := by decide +kernel
theorem inX8_firstSlots_8 : ∀ w ∈ u_ws RX8 TX8 15, w ∈ wsX8_firstSlots := by decide +kernel
theorem inX8_hasMissingClass_5 : ∀ w ∈ u_ws RX5 TX5 4, w ∈ wsX8_hasMissingClass := by decide +kernel
theorem inX8_init_0 : ∀ w ∈ u_ws RX0 TX0 12, w ∈ wsX8_init := by decide +kernel
theorem inX8_init_7 : ∀ w ∈ u_ws RX7 TX7 2, w ∈ wsX8_init := by decide +kernel
theorem inX8_init_8 : ∀ w ∈ u_ws RX8 TX8 15, w ∈ wsX8_init := by decide +kernel
theorem inX8_isClass_8 : ∀ w ∈ u_ws RX8 TX8 15, w ∈ wsX8_isClass := by decide +kernel
theorem inX8_isHandle_8 : ∀ w ∈ u_ws RX8 TX8 15, w ∈ wsX8_isHandle := by decide +kernel
theorem inX8_isMissingClass_8 : ∀ w ∈ u_ws RX8 TX8 15, w ∈ wsX8_isMissingClass := by decide +kernel
theorem inX8_isThing_8 : ∀ w ∈ u_ws RX8 TX8 15, w ∈ wsX8_isThing := by decide +kernel
theorem inX8_make_0 : ∀ w ∈ u_ws RX0 TX0 12, w ∈ wsX8_make := by decide +kernel
theorem inX8_make_8 : ∀ w ∈ u_ws RX8 TX8 15, w ∈ wsX8_make := by decide +kernel
theorem inX8_makeFailure_0 : ∀ w ∈ u_ws RX0 TX0 12, w ∈ wsX8_makeFailure := by decide +kernel
theorem inX8_makeFailure_8 : ∀ w ∈ u_ws RX8 TX8 15, w ∈ wsX8_makeFailure := by decide +kernel
theorem inX8_mayActAs_0 : ∀ w ∈ u_ws RX0 TX0 12, w ∈ wsX8_mayActAs := by decide +kernel
theorem inX8_mayHaveAbove_0 : ∀ w ∈ u_ws RX0 TX0 12, w ∈ wsX8_mayHaveAbove := by decide +kernel
theorem inX8_mayHaveField_0 : ∀ w ∈ u_ws RX0 TX0 12, w ∈ wsX8_mayHaveField := by decide +kernel
theorem inX8_mayHaveMethod_0 : ∀ w ∈ u_ws RX0 TX0 12, w ∈ wsX8_mayHaveMethod := by decide +kernel
theorem inX8_mayHaveMethod_4 : ∀ w ∈ u_ws RX4 TX4 8, w ∈ wsX8_mayHaveMethod := by decide +kernel
theorem inX8_method_4 : ∀ w ∈ u_ws RX4 TX4 8, w ∈ wsX8_method := by decide +kernel
theorem inX8_method_5 : ∀ w ∈ u_ws RX5 TX5 4, w ∈ wsX8_method := by decide +kernel
theorem inX8_method_8 : ∀ w ∈ u_ws RX8 TX8 15, w ∈ wsX8_method := by decide +kernel
theorem inX8_ownField_8 : ∀ w ∈ u_ws RX8 TX8 15, w ∈ wsX8_ownField := by decide +kernel
theorem inX8_ownMethod_8 : ∀ w ∈ u_ws RX8 TX8 15, w ∈ wsX8_ownMethod := by decide +kernel
theorem inX8_proxy_0 : ∀ w ∈ u_ws RX0 TX0 12, w ∈ wsX8_proxy := by decide +kernel
theorem inX8_proxy_8 : ∀ w ∈ u_ws RX8 TX8 15, w ∈ wsX8_proxy := by decide +kernel
theorem inX8_result_7 : ∀ w ∈ u_ws RX7 TX7 2, w ∈ wsX8_result := by decide +kernel
theorem inX8_result_8 : ∀ w ∈ u_ws RX8 TX8 15, w ∈ wsX8_result := by decide +kernel
theorem inX8_resultKind_7 : ∀ w ∈ u_ws RX7 TX7 2, w ∈ wsX8_resultKind := by decide +kernel
theorem inX8_resultKind_8 : ∀ w ∈ u_ws RX8 TX8 15, w ∈ wsX8_resultKind := by decide +kernel
theorem inX8_start_8 : ∀ w ∈ u_ws RX8 TX8 15, w ∈ wsX8_start := by decide +kernel
theorem inX8_startAlone_0 : ∀ w ∈ u_ws RX0 TX0 12, w ∈ wsX8_startAlone := by decide +kernel
theorem inX8_startAlone_8 : ∀ w ∈ u_ws RX8 TX8 15, w ∈ wsX8_startAlone := by decide +kernel
theorem inX8_startFailure_0 : ∀ w ∈ u_ws RX0 TX0 12, w ∈ wsX8_startFailure := by decide +kernel
theorem inX8_startFailure_8 : ∀ w ∈ u_ws RX8 TX8 15, w ∈ wsX8_startFailure := by decide +kernel
theorem inX8_told_8 : ∀ w ∈ u_ws RX8 TX8 15, w ∈ wsX8_told := by decide +kernel
theorem inX8_type_0 : ∀ w ∈ u_ws RX0 TX0 12, w ∈ wsX8_type := by decide +kernel
theorem inX8_type_8 : ∀ w ∈ u_ws RX8 TX8 15, w ∈ wsX8_type := by decide +kernel
theorem inX8_value_8 : ∀ w ∈ u_ws RX8 TX8 15, w ∈ wsX8_value := by decide +kernel
theorem inX8_visibleField_0 : ∀ w ∈ u_ws RX0 TX0 12, w ∈ wsX8_visibleField := by decide +kernel
theorem inX8_visibleMethod_0 : ∀ w ∈ u_ws RX0 TX0 12, w ∈ wsX8_visibleMethod := by decide +kernel
theorem inX8_visibleMethodUpward_0 : ∀ w ∈ u_ws RX0 TX0 12, w ∈ wsX8_visibleMethodUpward := by decide +kernel
theorem df_X0 : ∀ j, j < 12 → defaultValue (tyX0 j) = vp_V [.int 0, .null, .int 0, .null, .int 0, .int 0, .int 0, .int 0, .int 0, .int 0, .int 0, .int 0] j := by
  intro j hj
  have h : j = 0 ∨ j = 1 ∨ j = 2 ∨ j = 3 ∨ j = 4 ∨ j = 5 ∨ j = 6 ∨ j = 7 ∨ j = 8 ∨ j = 9 ∨ j = 10 ∨ j = 11 := by omega
  rcases h with rfl | rfl | rfl | rfl | rfl | rfl | rfl | rfl | rfl | rfl | rfl | rfl <;> rfl
theorem df_X1 : ∀ j, j < 9 → defaultValue (tyX1 j) = vp_V [.null, .int 0, .int 0, .int 0, .int 0, .int 0, .long 0, .int 0, .long 0] j := by
  intro j hj
  have h : j = 0 ∨ j = 1 ∨ j = 2 ∨ j = 3 ∨ j = 4 ∨ j = 5 ∨ j = 6 ∨ j = 7 ∨ j = 8 := by omega
  rcases h with rfl | rfl | rfl | rfl | rfl | rfl | rfl | rfl | rfl <;> rfl
theorem df_X4 : ∀ j, j < 8 → defaultValue (tyX4 j) = vp_V [.null, .int 0, .int 0, .null, .int 0, .int 0, .int 0, .int 0] j := by
  intro j hj
  have h : j = 0 ∨ j = 1 ∨ j = 2 ∨ j = 3 ∨ j = 4 ∨ j = 5 ∨ j = 6 ∨ j = 7 := by omega
  rcases h with rfl | rfl | rfl | rfl | rfl | rfl | rfl | rfl <;> rfl
theorem df_X5 : ∀ j, j < 4 → defaultValue (tyX5 j) = vp_V [.int 0, .int 0, .int 0, .int 0] j := by
  intro j hj
  have h : j = 0 ∨ j = 1 ∨ j = 2 ∨ j = 3 := by omega
  rcases h with rfl | rfl | rfl | rfl <;> rfl
theorem df_X6 : ∀ j, j < 5 → defaultValue (tyX6 j) = vp_V [.null, .int 0, .null, .int 0, .int 0] j := by
  intro j hj
  have h : j = 0 ∨ j = 1 ∨ j = 2 ∨ j = 3 ∨ j = 4 := by omega
  rcases h with rfl | rfl | rfl | rfl | rfl <;> rfl
theorem df_X7 : ∀ j, j < 2 → defaultValue (tyX7 j) = vp_V [.int 0, .long 0] j := by
  intro j hj
  have h : j = 0 ∨ j = 1 := by omega
  rcases h with rfl | rfl <;> rfl
