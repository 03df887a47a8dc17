set_option maxRecDepth 20000 in
theorem ggX1_init_X3_init : GoodIn wsX1_init wsX3_init := goodIn_r _ [10, 11, 12, 13, 14, 15, 16, 17, 18, 19, 20, 21, 22, 23, 24, 25, 26, 27, 28, 29, 30, 31, 32, 33] (by decide +kernel) (by decide +kernel)
set_option maxRecDepth 20000 in
theorem gX1_init_X3_init_n3 : GoodIn wsX1_init (wsX3_init) := ggX1_init_X3_init
set_option maxRecDepth 20000 in
theorem ggX5_isOutside_X8_isOutsideName : GoodIn wsX5_isOutside wsX8_isOutsideName := goodIn_r _ [7] (by decide +kernel) (by decide +kernel)
set_option maxRecDepth 20000 in
theorem gX5_isOutside_X8_isOutsideName_n24 : GoodIn wsX5_isOutside (wsX8_isOutsideName) := ggX5_isOutside_X8_isOutsideName
set_option maxRecDepth 20000 in
theorem ggX8_init_X7_init : GoodIn wsX8_init wsX7_init := goodIn_r _ [29, 30, 2, 3, 31, 32, 63, 64] (by decide +kernel) (by decide +kernel)
set_option maxRecDepth 20000 in
theorem gX8_init_X7_init_n61 : GoodIn wsX8_init (wsX7_init) := ggX8_init_X7_init
set_option maxRecDepth 20000 in
theorem ggX8_init_X0_init : GoodIn wsX8_init wsX0_init := goodIn_r _ [34, 35, 2, 3, 36, 37, 38, 39, 40, 41, 42, 43, 44, 45, 46, 47, 65, 66, 67, 68, 69, 70, 71, 72, 73, 74, 75, 76] (by decide +kernel) (by decide +kernel)
set_option maxRecDepth 20000 in
theorem gX8_init_X0_init_n72 : GoodIn wsX8_init (wsX0_init) := ggX8_init_X0_init
set_option maxRecDepth 20000 in
theorem ggX8_type_X8_isClass : GoodIn wsX8_type wsX8_isClass := goodIn_r _ [10, 2, 34, 35, 36, 37, 38, 39, 40, 41, 42, 43, 44, 45, 46, 47, 48] (by decide +kernel) (by decide +kernel)
set_option maxRecDepth 20000 in
theorem gX8_type_X8_isClass : GoodIn wsX8_type (wsV RX8 75 RX8 yX8_isClass wsX8_isClass) := goodIn_app (goodIn_of _ (by decide +kernel)) ggX8_type_X8_isClass
set_option maxRecDepth 20000 in
theorem ggX8_type_X8_mayHaveAbove : GoodIn wsX8_type wsX8_mayHaveAbove := goodIn_r _ [13, 49, 50, 51, 52, 53, 54, 55, 56, 57, 58, 59, 60] (by decide +kernel) (by decide +kernel)
set_option maxRecDepth 20000 in
theorem gX8_type_X8_mayHaveAbove : GoodIn wsX8_type (va_wsS RX8 79 yX8_mayHaveAbove wsX8_mayHaveAbove) := goodIn_app (goodIn_of _ (by decide +kernel)) ggX8_type_X8_mayHaveAbove
set_option maxRecDepth 20000 in
theorem ggX8_type_X8_mayActAs : GoodIn wsX8_type wsX8_mayActAs := goodIn_r _ [16, 49, 50, 51, 52, 53, 54, 55, 56, 57, 58, 59, 60] (by decide +kernel) (by decide +kernel)
set_option maxRecDepth 20000 in
theorem gX8_type_X8_mayActAs : GoodIn wsX8_type (va_wsS RX8 83 yX8_mayActAs wsX8_mayActAs) := goodIn_app (goodIn_of _ (by decide +kernel)) ggX8_type_X8_mayActAs
set_option maxRecDepth 20000 in
theorem ggX8_type_X0_init : GoodIn wsX8_type wsX0_init := goodIn_r _ [18, 19, 20, 21, 22, 23, 24, 25, 26, 27, 28, 29, 30, 31, 32, 33, 49, 50, 51, 52, 53, 54, 55, 56, 57, 58, 59, 60] (by decide +kernel) (by decide +kernel)
set_option maxRecDepth 20000 in
theorem gX8_type_X0_init_n72 : GoodIn wsX8_type (wsX0_init) := ggX8_type_X0_init
set_option maxRecDepth 20000 in
theorem ggX8_constants_X8_isClass : GoodIn wsX8_constants wsX8_isClass := goodIn_r _ [6, 7, 8, 9, 10, 11, 12, 13, 14, 15, 16, 17, 18, 19, 20, 21, 22] (by decide +kernel) (by decide +kernel)
set_option maxRecDepth 20000 in
theorem gX8_constants_X8_isClass : GoodIn wsX8_constants (wsV RX8 75 RX8 yX8_isClass wsX8_isClass) := goodIn_app (goodIn_of _ (by decide +kernel)) ggX8_constants_X8_isClass
set_option maxRecDepth 20000 in
theorem ggX8_field_X8_isClass : GoodIn wsX8_field wsX8_isClass := goodIn_r _ [12, 13, 55, 56, 57, 58, 59, 60, 61, 62, 63, 64, 65, 66, 67, 68, 69] (by decide +kernel) (by decide +kernel)
set_option maxRecDepth 20000 in
theorem gX8_field_X8_isClass : GoodIn wsX8_field (wsV RX8 75 RX8 yX8_isClass wsX8_isClass) := goodIn_app (goodIn_of _ (by decide +kernel)) ggX8_field_X8_isClass
set_option maxRecDepth 20000 in
theorem ggX8_field_X8_isMissingClass : GoodIn wsX8_field wsX8_isMissingClass := goodIn_r _ [17, 13, 55, 56, 57, 58, 59, 60, 61, 62, 63, 64, 65, 66, 67, 68, 69] (by decide +kernel) (by decide +kernel)
set_option maxRecDepth 20000 in
theorem gX8_field_X8_isMissingClass : GoodIn wsX8_field (wsV RX8 95 RX8 yX8_isMissingClass wsX8_isMissingClass) := goodIn_app (goodIn_of _ (by decide +kernel)) ggX8_field_X8_isMissingClass
set_option maxRecDepth 20000 in
theorem ggX8_field_X8_isOutsideName : GoodIn wsX8_field wsX8_isOutsideName := goodIn_r _ [20] (by decide +kernel) (by decide +kernel)
set_option maxRecDepth 20000 in
theorem gX8_field_X8_isOutsideName : GoodIn wsX8_field (va_wsS RX8 98 yX8_isOutsideName wsX8_isOutsideName) := goodIn_app (goodIn_of _ (by decide +kernel)) ggX8_field_X8_isOutsideName
set_option maxRecDepth 20000 in
theorem ggX8_field_X8_mayHaveField : GoodIn wsX8_field wsX8_mayHaveField := goodIn_r _ [23, 79, 80, 81, 82, 83, 84, 85, 86, 87, 88, 89, 90] (by decide +kernel) (by decide +kernel)
set_option maxRecDepth 20000 in
theorem gX8_field_X8_mayHaveField : GoodIn wsX8_field (va_wsS RX8 101 yX8_mayHaveField wsX8_mayHaveField) := goodIn_app (goodIn_of _ (by decide +kernel)) ggX8_field_X8_mayHaveField
set_option maxRecDepth 20000 in
theorem ggX8_field_X8_ownField : GoodIn wsX8_field wsX8_ownField := goodIn_r _ [27, 3, 28, 29, 30, 31, 55, 56, 57, 58, 59, 60, 61, 62, 63, 64, 65, 66, 67, 68, 69, 70, 71, 72, 73, 74, 75, 76, 77, 78, 91, 92, 93, 94, 95, 96, 97, 98] (by decide +kernel) (by decide +kernel)
set_option maxRecDepth 20000 in
theorem gX8_field_X8_ownField : GoodIn wsX8_field (wsV RX8 105 RX8 yX8_ownField wsX8_ownField) := goodIn_app (goodIn_of _ (by decide +kernel)) ggX8_field_X8_ownField
set_option maxRecDepth 20000 in
theorem ggX8_field_X1_init : GoodIn wsX8_field wsX1_init := goodIn_r _ [33, 34, 35, 36, 37, 38, 39, 40, 41, 42, 43, 44, 45, 46, 47, 48, 49, 70, 71, 72, 73, 74, 75, 76, 77, 78, 91, 92, 93, 94, 95, 96, 97, 98] (by decide +kernel) (by decide +kernel)
set_option maxRecDepth 20000 in
theorem gX8_field_X1_init_n111 : GoodIn wsX8_field (wsX1_init) := ggX8_field_X1_init
set_option maxRecDepth 20000 in
theorem ggX8_field_X8_addMember : GoodIn wsX8_field wsX8_addMember := goodIn_r _ [53, 28, 3, 54, 55, 56, 57, 58, 59, 60, 61, 62, 63, 64, 65, 66, 67, 68, 69, 70, 71, 72, 73, 74, 75, 76, 77, 78, 91, 92, 93, 94, 95, 96, 97, 98, 79, 80, 81, 82, 83, 84, 85, 86, 87, 88, 89, 90] (by decide +kernel) (by decide +kernel)
set_option maxRecDepth 20000 in
theorem gX8_field_X8_addMember : GoodIn wsX8_field (wsV RX8 114 RX8 yX8_addMember wsX8_addMember) := goodIn_app (goodIn_of _ (by decide +kernel)) ggX8_field_X8_addMember
set_option maxRecDepth 20000 in
theorem ggX8_caller_X8_isClass : GoodIn wsX8_caller wsX8_isClass := goodIn_r _ [6, 7, 8, 9, 10, 11, 12, 13, 14, 15, 16, 17, 18, 19, 20, 21, 22] (by decide +kernel) (by decide +kernel)
set_option maxRecDepth 20000 in
theorem gX8_caller_X8_isClass : GoodIn wsX8_caller (wsV RX8 75 RX8 yX8_isClass wsX8_isClass) := goodIn_app (goodIn_of _ (by decide +kernel)) ggX8_caller_X8_isClass
set_option maxRecDepth 20000 in
theorem ggX8_findField_X8_isClass : GoodIn wsX8_findField wsX8_isClass := goodIn_r _ [6, 7, 47, 48, 49, 50, 51, 52, 53, 54, 55, 56, 57, 58, 59, 60, 61] (by decide +kernel) (by decide +kernel)
set_option maxRecDepth 20000 in
theorem gX8_findField_X8_isClass : GoodIn wsX8_findField (wsV RX8 75 RX8 yX8_isClass wsX8_isClass) := goodIn_app (goodIn_of _ (by decide +kernel)) ggX8_findField_X8_isClass
set_option maxRecDepth 20000 in
theorem ggX8_findField_X8_isOutsideName : GoodIn wsX8_findField wsX8_isOutsideName := goodIn_r _ [10] (by decide +kernel) (by decide +kernel)
set_option maxRecDepth 20000 in
theorem gX8_findField_X8_isOutsideName : GoodIn wsX8_findField (va_wsS RX8 98 yX8_isOutsideName wsX8_isOutsideName) := goodIn_app (goodIn_of _ (by decide +kernel)) ggX8_findField_X8_isOutsideName
set_option maxRecDepth 20000 in
theorem ggX8_findField_X8_visibleField : GoodIn wsX8_findField wsX8_visibleField := goodIn_r _ [14, 15, 16, 17, 18, 19, 5, 20, 21, 22, 23, 24, 47, 48, 49, 50, 51, 52, 53, 54, 55, 56, 57, 58, 59, 60, 61, 62, 63, 64, 65, 66, 67, 68, 69, 70, 71, 72, 73, 74, 75, 76, 77, 78, 79, 80, 81, 82, 83, 84, 85, 86, 87, 88, 89, 90] (by decide +kernel) (by decide +kernel)
set_option maxRecDepth 20000 in
theorem gX8_findField_X8_visibleField : GoodIn wsX8_findField (wsV RX8 158 RX8 yX8_visibleField wsX8_visibleField) := goodIn_app (goodIn_of _ (by decide +kernel)) ggX8_findField_X8_visibleField
set_option maxRecDepth 20000 in
theorem ggX8_findField_X8_ownField : GoodIn wsX8_findField wsX8_ownField := goodIn_r _ [20, 21, 15, 22, 23, 24, 47, 48, 49, 50, 51, 52, 53, 54, 55, 56, 57, 58, 59, 60, 61, 62, 63, 64, 65, 66, 67, 68, 69, 70, 71, 72, 73, 74, 75, 76, 77, 78] (by decide +kernel) (by decide +kernel)
set_option maxRecDepth 20000 in
theorem gX8_findField_X8_ownField : GoodIn wsX8_findField (wsV RX8 105 RX8 yX8_ownField wsX8_ownField) := goodIn_app (goodIn_of _ (by decide +kernel)) ggX8_findField_X8_ownField
set_option maxRecDepth 20000 in
theorem ggX8_findField_X8_addHandle : GoodIn wsX8_findField wsX8_addHandle := goodIn_r _ [28, 29, 30, 31, 32, 33, 15, 34, 35, 36, 5, 37, 38, 39, 40, 41, 42, 43, 44, 45, 46, 47, 48, 49, 50, 51, 52, 53, 54, 55, 56, 57, 58, 59, 60, 61, 91, 92, 93] (by decide +kernel) (by decide +kernel)
set_option maxRecDepth 20000 in
theorem gX8_findField_X8_addHandle : GoodIn wsX8_findField (wsV RX8 161 RX8 yX8_addHandle wsX8_addHandle) := goodIn_app (goodIn_of _ (by decide +kernel)) ggX8_findField_X8_addHandle
set_option maxRecDepth 20000 in
theorem ggX8_findMethod_X5_init : GoodIn wsX8_findMethod wsX5_init := goodIn_r _ [6, 7, 8, 9, 10, 11, 12, 13, 74, 75, 76, 77] (by decide +kernel) (by decide +kernel)
set_option maxRecDepth 20000 in
theorem gX8_findMethod_X5_init_n120 : GoodIn wsX8_findMethod (wsX5_init) := ggX8_findMethod_X5_init
set_option maxRecDepth 20000 in
theorem ggX8_findMethod_X8_isClass : GoodIn wsX8_findMethod wsX8_isClass := goodIn_r _ [18, 19, 78, 79, 80, 81, 82, 83, 84, 85, 86, 87, 88, 89, 90, 91, 92] (by decide +kernel) (by decide +kernel)
set_option maxRecDepth 20000 in
theorem gX8_findMethod_X8_isClass : GoodIn wsX8_findMethod (wsV RX8 75 RX8 yX8_isClass wsX8_isClass) := goodIn_app (goodIn_of _ (by decide +kernel)) ggX8_findMethod_X8_isClass
set_option maxRecDepth 20000 in
theorem ggX8_findMethod_X8_hasMissingClass : GoodIn wsX8_findMethod wsX8_hasMissingClass := goodIn_r _ [23, 24, 25, 26, 17, 27, 19, 74, 75, 76, 77, 78, 79, 80, 81, 82, 83, 84, 85, 86, 87, 88, 89, 90, 91, 92] (by decide +kernel) (by decide +kernel)
set_option maxRecDepth 20000 in
theorem gX8_findMethod_X8_hasMissingClass : GoodIn wsX8_findMethod (wsV RX8 123 RX8 yX8_hasMissingClass wsX8_hasMissingClass) := goodIn_app (goodIn_of _ (by decide +kernel)) ggX8_findMethod_X8_hasMissingClass
set_option maxRecDepth 20000 in
theorem ggX8_findMethod_X5_isOutside : GoodIn wsX8_findMethod wsX5_isOutside := goodIn_r _ [30, 10, 11, 12, 13, 31, 17, 32, 74, 75, 76, 77] (by decide +kernel) (by decide +kernel)
set_option maxRecDepth 20000 in
theorem gX8_findMethod_X5_isOutside_n127 : GoodIn wsX8_findMethod (wsX5_isOutside) := ggX8_findMethod_X5_isOutside
set_option maxRecDepth 20000 in
theorem ggX8_findMethod_X8_visibleMethod : GoodIn wsX8_findMethod wsX8_visibleMethod := goodIn_r _ [36, 37, 38, 39, 17, 40, 41, 42, 43, 44, 45, 46, 47, 48, 49, 50, 51, 3, 52, 53, 10, 11, 12, 13, 93, 94, 95, 96, 97, 98, 99, 100, 101, 102, 103, 104, 78, 79, 80, 81, 82, 83, 84, 85, 86, 87, 88, 89, 90, 91, 92, 105, 106, 107, 108, 109, 110, 111, 112, 113, 114, 115, 116, 117, 118, 119, 120, 121, 74, 75, 76, 77] (by decide +kernel) (by decide +kernel)
set_option maxRecDepth 20000 in
theorem gX8_findMethod_X8_visibleMethod : GoodIn wsX8_findMethod (wsV RX8 165 RX8 yX8_visibleMethod wsX8_visibleMethod) := goodIn_app (goodIn_of _ (by decide +kernel)) ggX8_findMethod_X8_visibleMethod
set_option maxRecDepth 20000 in
theorem ggX8_findMethod_X8_ownMethod : GoodIn wsX8_findMethod wsX8_ownMethod := goodIn_r _ [46, 47, 41, 48, 49, 50, 51, 3, 52, 53, 10, 11, 12, 13, 78, 79, 80, 81, 82, 83, 84, 85, 86, 87, 88, 89, 90, 91, 92, 105, 106, 107, 108, 109, 110, 111, 112, 113, 114, 115, 116, 117, 118, 119, 120, 121, 74, 75, 76, 77] (by decide +kernel) (by decide +kernel)
set_option maxRecDepth 20000 in
theorem gX8_findMethod_X8_ownMethod : GoodIn wsX8_findMethod (wsV RX8 154 RX8 yX8_ownMethod wsX8_ownMethod) := goodIn_app (goodIn_of _ (by decide +kernel)) ggX8_findMethod_X8_ownMethod
set_option maxRecDepth 20000 in
theorem ggX8_findMethod_X8_addHandle : GoodIn wsX8_findMethod wsX8_addHandle := goodIn_r _ [57, 58, 59, 60, 61, 62, 41, 63, 64, 65, 17, 66, 67, 68, 69, 70, 8, 9, 71, 72, 73, 78, 79, 80, 81, 82, 83, 84, 85, 86, 87, 88, 89, 90, 91, 92, 122, 123, 124] (by decide +kernel) (by decide +kernel)
set_option maxRecDepth 20000 in
theorem gX8_findMethod_X8_addHandle : GoodIn wsX8_findMethod (wsV RX8 161 RX8 yX8_addHandle wsX8_addHandle) := goodIn_app (goodIn_of _ (by decide +kernel)) ggX8_findMethod_X8_addHandle
set_option maxRecDepth 20000 in
theorem ggX8_leave_X8_isHandle : GoodIn wsX8_leave wsX8_isHandle := goodIn_r _ [8, 9, 15, 16, 17, 18, 19, 20, 21, 22, 23, 24, 25, 26, 27, 28, 29] (by decide +kernel) (by decide +kernel)
set_option maxRecDepth 20000 in
theorem gX8_leave_X8_isHandle : GoodIn wsX8_leave (wsV RX8 168 RX8 yX8_isHandle wsX8_isHandle) := goodIn_app (goodIn_of _ (by decide +kernel)) ggX8_leave_X8_isHandle
set_option maxRecDepth 20000 in
theorem ggX8_get_X8_isHandle : GoodIn wsX8_get wsX8_isHandle := goodIn_r _ [8, 9, 113, 114, 115, 116, 117, 118, 119, 120, 121, 122, 123, 124, 125, 126, 127] (by decide +kernel) (by decide +kernel)
set_option maxRecDepth 20000 in
theorem gX8_get_X8_isHandle : GoodIn wsX8_get (wsV RX8 168 RX8 yX8_isHandle wsX8_isHandle) := goodIn_app (goodIn_of _ (by decide +kernel)) ggX8_get_X8_isHandle
set_option maxRecDepth 20000 in
theorem ggX8_set_X8_isHandle : GoodIn wsX8_set wsX8_isHandle := goodIn_r _ [9, 10, 121, 122, 123, 124, 125, 126, 127, 128, 129, 130, 131, 132, 133, 134, 135] (by decide +kernel) (by decide +kernel)
set_option maxRecDepth 20000 in
theorem gX8_set_X8_isHandle : GoodIn wsX8_set (wsV RX8 168 RX8 yX8_isHandle wsX8_isHandle) := goodIn_app (goodIn_of _ (by decide +kernel)) ggX8_set_X8_isHandle
set_option maxRecDepth 20000 in
theorem ggX8_call_X8_isHandle : GoodIn wsX8_call wsX8_isHandle := goodIn_r _ [9, 10, 211, 212, 213, 214, 215, 216, 217, 218, 219, 220, 221, 222, 223, 224, 225] (by decide +kernel) (by decide +kernel)
set_option maxRecDepth 20000 in
theorem gX8_call_X8_isHandle : GoodIn wsX8_call (wsV RX8 168 RX8 yX8_isHandle wsX8_isHandle) := goodIn_app (goodIn_of _ (by decide +kernel)) ggX8_call_X8_isHandle
set_option maxRecDepth 20000 in
theorem ggX8_proxy_X8_isClass : GoodIn wsX8_proxy wsX8_isClass := goodIn_r _ [7, 8, 38, 39, 40, 41, 42, 43, 44, 45, 46, 47, 48, 49, 50, 51, 52] (by decide +kernel) (by decide +kernel)
set_option maxRecDepth 20000 in
theorem gX8_proxy_X8_isClass : GoodIn wsX8_proxy (wsV RX8 75 RX8 yX8_isClass wsX8_isClass) := goodIn_app (goodIn_of _ (by decide +kernel)) ggX8_proxy_X8_isClass
set_option maxRecDepth 20000 in
theorem ggX8_constant_X8_isClass : GoodIn wsX8_constant wsX8_isClass := goodIn_r _ [6, 7, 57, 58, 59, 60, 61, 62, 63, 64, 65, 66, 67, 68, 69, 70, 71] (by decide +kernel) (by decide +kernel)
set_option maxRecDepth 20000 in
theorem gX8_constant_X8_isClass : GoodIn wsX8_constant (wsV RX8 75 RX8 yX8_isClass wsX8_isClass) := goodIn_app (goodIn_of _ (by decide +kernel)) ggX8_constant_X8_isClass
set_option maxRecDepth 20000 in
theorem ggX8_about_X8_isClass : GoodIn wsX8_about wsX8_isClass := goodIn_r _ [6, 7, 8, 9, 10, 11, 12, 13, 14, 15, 16, 17, 18, 19, 20, 21, 22] (by decide +kernel) (by decide +kernel)
set_option maxRecDepth 20000 in
theorem gX8_about_X8_isClass : GoodIn wsX8_about (wsV RX8 75 RX8 yX8_isClass wsX8_isClass) := goodIn_app (goodIn_of _ (by decide +kernel)) ggX8_about_X8_isClass
set_option maxRecDepth 20000 in
theorem ggX8_is_X8_isThing : GoodIn wsX8_is wsX8_isThing := goodIn_r _ [7, 8, 19, 20, 21, 22, 23, 24, 25, 26, 27, 28, 29, 30, 31, 32, 33] (by decide +kernel) (by decide +kernel)
set_option maxRecDepth 20000 in
theorem gX8_is_X8_isThing : GoodIn wsX8_is (wsV RX8 273 RX8 yX8_isThing wsX8_isThing) := goodIn_app (goodIn_of _ (by decide +kernel)) ggX8_is_X8_isThing
set_option maxRecDepth 20000 in
theorem ggX8_handle_X8_isHandle : GoodIn wsX8_handle wsX8_isHandle := goodIn_r _ [6, 7, 15, 16, 17, 18, 19, 20, 21, 22, 23, 24, 25, 26, 27, 28, 29] (by decide +kernel) (by decide +kernel)
set_option maxRecDepth 20000 in
theorem gX8_handle_X8_isHandle : GoodIn wsX8_handle (wsV RX8 168 RX8 yX8_isHandle wsX8_isHandle) := goodIn_app (goodIn_of _ (by decide +kernel)) ggX8_handle_X8_isHandle
set_option maxRecDepth 20000 in
theorem ggX8_hasMissingClass_X8_isMissingClass : GoodIn wsX8_hasMissingClass wsX8_isMissingClass := goodIn_r _ [5, 6, 11, 12, 13, 14, 15, 16, 17, 18, 19, 20, 21, 22, 23, 24, 25] (by decide +kernel) (by decide +kernel)
set_option maxRecDepth 20000 in
theorem gX8_hasMissingClass_X8_isMissingClass : GoodIn wsX8_hasMissingClass (wsV RX8 95 RX8 yX8_isMissingClass wsX8_isMissingClass) := goodIn_app (goodIn_of _ (by decide +kernel)) ggX8_hasMissingClass_X8_isMissingClass
set_option maxRecDepth 20000 in
theorem ggX8_visibleField_X8_ownField : GoodIn wsX8_visibleField wsX8_ownField := goodIn_r _ [7, 8, 1, 9, 10, 11, 12, 13, 14, 15, 16, 17, 18, 19, 20, 21, 22, 23, 24, 25, 26, 27, 28, 29, 30, 31, 32, 33, 34, 35, 36, 37, 38, 39, 40, 41, 42, 43] (by decide +kernel) (by decide +kernel)
set_option maxRecDepth 20000 in
theorem gX8_visibleField_X8_ownField : GoodIn wsX8_visibleField (wsV RX8 105 RX8 yX8_ownField wsX8_ownField) := goodIn_app (goodIn_of _ (by decide +kernel)) ggX8_visibleField_X8_ownField
set_option maxRecDepth 20000 in
theorem ggX8_visibleMethod_X8_visibleMethodUpward : GoodIn wsX8_visibleMethod wsX8_visibleMethodUpward := goodIn_r _ [5, 6, 7, 8, 9, 10, 4, 11, 12, 13, 14, 15, 16, 17, 18, 19, 20, 21, 22, 23, 36, 37, 38, 39, 40, 41, 42, 43, 44, 45, 46, 47, 48, 49, 50, 51, 52, 53, 54, 55, 56, 57, 58, 59, 60, 61, 62, 63, 64, 65, 66, 67, 24, 25, 26, 27, 28, 29, 30, 31, 32, 33, 34, 35, 68, 69, 70, 71] (by decide +kernel) (by decide +kernel)
set_option maxRecDepth 20000 in
theorem gX8_visibleMethod_X8_visibleMethodUpward : GoodIn wsX8_visibleMethod (wsV RX8 336 RX8 yX8_visibleMethodUpward wsX8_visibleMethodUpward) := goodIn_app (goodIn_of _ (by decide +kernel)) ggX8_visibleMethod_X8_visibleMethodUpward
set_option maxRecDepth 20000 in
theorem ggX8_visibleMethodUpward_X8_ownMethod : GoodIn wsX8_visibleMethodUpward wsX8_ownMethod := goodIn_r _ [7, 8, 1, 9, 10, 11, 12, 13, 14, 15, 16, 17, 18, 19, 20, 21, 22, 23, 24, 25, 26, 27, 28, 29, 30, 31, 32, 33, 34, 35, 36, 37, 38, 39, 40, 41, 42, 43, 44, 45, 46, 47, 48, 49, 50, 51, 64, 65, 66, 67] (by decide +kernel) (by decide +kernel)
set_option maxRecDepth 20000 in
theorem gX8_visibleMethodUpward_X8_ownMethod : GoodIn wsX8_visibleMethodUpward (wsV RX8 154 RX8 yX8_ownMethod wsX8_ownMethod) := goodIn_app (goodIn_of _ (by decide +kernel)) ggX8_visibleMethodUpward_X8_ownMethod
set_option maxRecDepth 20000 in
theorem ggX8_addHandle_X8_failed : GoodIn wsX8_addHandle wsX8_failed := goodIn_r _ [11, 12, 21, 22, 23, 24, 25, 26, 27, 28, 29, 30, 31, 32, 33, 34, 35] (by decide +kernel) (by decide +kernel)
set_option maxRecDepth 20000 in
theorem gX8_addHandle_X8_failed : GoodIn wsX8_addHandle (wsV RX8 183 RX8 yX8_failed wsX8_failed) := goodIn_app (goodIn_of _ (by decide +kernel)) ggX8_addHandle_X8_failed
theorem inX0_init_0 : ∀ w ∈ u_ws RX0 TX0 12, w ∈ wsX0_init := by decide +kernel
theorem inX1_init_1 : ∀ w ∈ u_ws RX1 TX1 9, w ∈ wsX1_init := by decide +kernel
theorem inX3_init_1 : ∀ w ∈ u_ws RX1 TX1 9, w ∈ wsX3_init := by decide +kernel
theorem inX3_init_4 : ∀ w ∈ u_ws RX4 TX4 8, w ∈ wsX3_init := by decide +kernel
theorem inX5_init_5 : ∀ w ∈ u_ws RX5 TX5 4, w ∈ wsX5_init := by decide +kernel
theorem inX5_isOutside_5 : ∀ w ∈ u_ws RX5 TX5 4, w ∈ wsX5_isOutside := by decide +kernel
theorem inX5_startsWithClass_5 : ∀ w ∈ u_ws RX5 TX5 4, w ∈ wsX5_startsWithClass := by decide +kernel
theorem inX5_startsWithInt_5 : ∀ w ∈ u_ws RX5 TX5 4, w ∈ wsX5_startsWithInt := by decide +kernel
theorem inX7_init_7 : ∀ w ∈ u_ws RX7 TX7 2, w ∈ wsX7_init := by decide +kernel
theorem inX8_about_0 : ∀ w ∈ u_ws RX0 TX0 12, w ∈ wsX8_about := by decide +kernel
theorem inX8_about_8 : ∀ w ∈ u_ws RX8 TX8 15, w ∈ wsX8_about := by decide +kernel
theorem inX8_addMember_0 : ∀ w ∈ u_ws RX0 TX0 12, w ∈ wsX8_addMember := by decide +kernel
theorem inX8_addMember_1 : ∀ w ∈ u_ws RX1 TX1 9, w ∈ wsX8_addMember := by decide +kernel
theorem inX8_addMember_4 : ∀ w ∈ u_ws RX4 TX4 8, w ∈ wsX8_addMember := by decide +kernel
theorem inX8_addMember_8 : ∀ w ∈ u_ws RX8 TX8 15, w ∈ wsX8_addMember := by decide +kernel
theorem inX8_caller_8 : ∀ w ∈ u_ws RX8 TX8 15, w ∈ wsX8_caller := by decide +kernel
theorem inX8_cause_8 : ∀ w ∈ u_ws RX8 TX8 15, w ∈ wsX8_cause := by decide +kernel
theorem inX8_constant_0 : ∀ w ∈ u_ws RX0 TX0 12, w ∈ wsX8_constant := by decide +kernel
theorem inX8_constant_8 : ∀ w ∈ u_ws RX8 TX8 15, w ∈ wsX8_constant := by decide +kernel
theorem inX8_constants_0 : ∀ w ∈ u_ws RX0 TX0 12, w ∈ wsX8_constants := by decide +kernel
theorem inX8_constants_8 : ∀ w ∈ u_ws RX8 TX8 15, w ∈ wsX8_constants := by decide +kernel
theorem inX8_failed_8 : ∀ w ∈ u_ws RX8 TX8 15, w ∈ wsX8_failed := by decide +kernel
theorem inX8_field_1 : ∀ w ∈ u_ws RX1 TX1 9, w ∈ wsX8_field := by decide +kernel
theorem inX8_field_8 : ∀ w ∈ u_ws RX8 TX8 15, w ∈ wsX8_field := by decide +kernel
theorem inX8_findField_8 : ∀ w ∈ u_ws RX8 TX8 15, w ∈ wsX8_findField := by decide +kernel
theorem inX8_findMethod_5 : ∀ w ∈ u_ws RX5 TX5 4, w ∈ wsX8_findMethod := by decide +kernel
theorem inX8_findMethod_8 : ∀ w ∈ u_ws RX8 TX8 15, w ∈ wsX8_findMethod := by decide +kernel
theorem inX8_hasMissingClass_5 : ∀ w ∈ u_ws RX5 TX5 4, w ∈ wsX8_hasMissingClass := by decide +kernel
theorem inX8_init_0 : ∀ w ∈ u_ws RX0 TX0 12, w ∈ wsX8_init := by decide +kernel
theorem inX8_init_7 : ∀ w ∈ u_ws RX7 TX7 2, w ∈ wsX8_init := by decide +kernel
theorem inX8_init_8 : ∀ w ∈ u_ws RX8 TX8 15, w ∈ wsX8_init := by decide +kernel
theorem inX8_isClass_8 : ∀ w ∈ u_ws RX8 TX8 15, w ∈ wsX8_isClass := by decide +kernel
theorem inX8_isHandle_8 : ∀ w ∈ u_ws RX8 TX8 15, w ∈ wsX8_isHandle := by decide +kernel
theorem inX8_isMissingClass_8 : ∀ w ∈ u_ws RX8 TX8 15, w ∈ wsX8_isMissingClass := by decide +kernel
theorem inX8_isThing_8 : ∀ w ∈ u_ws RX8 TX8 15, w ∈ wsX8_isThing := by decide +kernel
theorem inX8_mayActAs_0 : ∀ w ∈ u_ws RX0 TX0 12, w ∈ wsX8_mayActAs := by decide +kernel
theorem inX8_mayHaveAbove_0 : ∀ w ∈ u_ws RX0 TX0 12, w ∈ wsX8_mayHaveAbove := by decide +kernel
theorem inX8_mayHaveField_0 : ∀ w ∈ u_ws RX0 TX0 12, w ∈ wsX8_mayHaveField := by decide +kernel
theorem inX8_ownField_8 : ∀ w ∈ u_ws RX8 TX8 15, w ∈ wsX8_ownField := by decide +kernel
theorem inX8_ownMethod_8 : ∀ w ∈ u_ws RX8 TX8 15, w ∈ wsX8_ownMethod := by decide +kernel
theorem inX8_proxy_0 : ∀ w ∈ u_ws RX0 TX0 12, w ∈ wsX8_proxy := by decide +kernel
theorem inX8_proxy_8 : ∀ w ∈ u_ws RX8 TX8 15, w ∈ wsX8_proxy := by decide +kernel
theorem inX8_result_7 : ∀ w ∈ u_ws RX7 TX7 2, w ∈ wsX8_result := by decide +kernel
theorem inX8_result_8 : ∀ w ∈ u_ws RX8 TX8 15, w ∈ wsX8_result := by decide +kernel
theorem inX8_resultKind_7 : ∀ w ∈ u_ws RX7 TX7 2, w ∈ wsX8_resultKind := by decide +kernel
theorem inX8_resultKind_8 : ∀ w ∈ u_ws RX8 TX8 15, w ∈ wsX8_resultKind := by decide +kernel
theorem inX8_told_8 : ∀ w ∈ u_ws RX8 TX8 15, w ∈ wsX8_told := by decide +kernel
theorem inX8_type_0 : ∀ w ∈ u_ws RX0 TX0 12, w ∈ wsX8_type := by decide +kernel
theorem inX8_type_8 : ∀ w ∈ u_ws RX8 TX8 15, w ∈ wsX8_type := by decide +kernel
theorem inX8_visibleField_0 : ∀ w ∈ u_ws RX0 TX0 12, w ∈ wsX8_visibleField := by decide +kernel
theorem inX8_visibleMethod_0 : ∀ w ∈ u_ws RX0 TX0 12, w ∈ wsX8_visibleMethod := by decide +kernel
theorem inX8_visibleMethodUpward_0 : ∀ w ∈ u_ws RX0 TX0 12, w ∈ wsX8_visibleMethodUpward := by decide +kernel
theorem df_X0 : ∀ j, j < 12 → defaultValue (tyX0 j) = vp_V [.int 0, .null, .int 0, .null, .int 0, .int 0, .int 0, .int 0, .int 0, .int 0, .int 0, .int 0] j := by
  intro j hj
  have h : j = 0 ∨ j = 1 ∨ j = 2 ∨ j = 3 ∨ j = 4 ∨ j = 5 ∨ j = 6 ∨ j = 7 ∨ j = 8 ∨ j = 9 ∨ j = 10 ∨ j = 11 := by omega
  rcases h with rfl | rfl | rfl | rfl | rfl | rfl | rfl | rfl | rfl | rfl | rfl | rfl <;> rfl
theorem df_X1 : ∀ j, j < 9 → defaultValue (tyX1 j) = vp_V [.null, .int 0, .int 0, .int 0, .int 0, .int 0, .long 0, .int 0, .long 0] j := by
  intro j hj
  have h : j = 0 ∨ j = 1 ∨ j = 2 ∨ j = 3 ∨ j = 4 ∨ j = 5 ∨ j = 6 ∨ j = 7 ∨ j = 8 := by omega
  rcases h with rfl | rfl | rfl | rfl | rfl | rfl | rfl | rfl | rfl <;> rfl
theorem df_X5 : ∀ j, j < 4 → defaultValue (tyX5 j) = vp_V [.int 0, .int 0, .int 0, .int 0] j := by
  intro j hj
  have h : j = 0 ∨ j = 1 ∨ j = 2 ∨ j = 3 := by omega
  rcases h with rfl | rfl | rfl | rfl <;> rfl
theorem df_X7 : ∀ j, j < 2 → defaultValue (tyX7 j) = vp_V [.int 0, .long 0] j := by
  intro j hj
  have h : j = 0 ∨ j = 1 := by omega
  rcases h with rfl | rfl <;> rfl
