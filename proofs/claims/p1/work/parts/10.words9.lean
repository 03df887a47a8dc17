set_option maxRecDepth 20000 in
theorem ggX9_isClass_X9_in : GoodIn wsX9_isClass wsX9_in := goodIn_r _ [5] (by decide +kernel) (by decide +kernel)
set_option maxRecDepth 20000 in
theorem gX9_isClass_X9_in : GoodIn wsX9_isClass (va_wsS RX9 115 yX9_in wsX9_in) := goodIn_app (goodIn_of _ (by decide +kernel)) ggX9_isClass_X9_in
set_option maxRecDepth 20000 in
theorem ggX9_isObject_X9_in : GoodIn wsX9_isObject wsX9_in := goodIn_r _ [5] (by decide +kernel) (by decide +kernel)
set_option maxRecDepth 20000 in
theorem gX9_isObject_X9_in : GoodIn wsX9_isObject (va_wsS RX9 115 yX9_in wsX9_in) := goodIn_app (goodIn_of _ (by decide +kernel)) ggX9_isObject_X9_in
set_option maxRecDepth 20000 in
theorem ggX9_type_X9_isClass : GoodIn wsX9_type wsX9_isClass := goodIn_r _ [13, 4, 14, 15, 12, 16, 17, 18, 19, 20, 21, 22, 23, 24, 25, 26, 27, 28, 29, 30, 31, 32, 33, 34, 35, 36, 37, 38, 39, 40, 41, 42, 43, 44, 45, 46, 47, 48, 49, 50, 51, 52, 53, 54, 55, 56, 57, 58] (by decide +kernel) (by decide +kernel)
set_option maxRecDepth 20000 in
theorem gX9_type_X9_isClass : GoodIn wsX9_type (wsV RX9 122 RX9 yX9_isClass wsX9_isClass) := goodIn_app (goodIn_of _ (by decide +kernel)) ggX9_type_X9_isClass
set_option maxRecDepth 20000 in
theorem ggX9_type_X9_in : GoodIn wsX9_type wsX9_in := goodIn_r _ [16] (by decide +kernel) (by decide +kernel)
set_option maxRecDepth 20000 in
theorem gX9_type_X9_in : GoodIn wsX9_type (va_wsS RX9 115 yX9_in wsX9_in) := goodIn_app (goodIn_of _ (by decide +kernel)) ggX9_type_X9_in
set_option maxRecDepth 20000 in
theorem ggX9_constants_X9_isClass : GoodIn wsX9_constants wsX9_isClass := goodIn_r _ [10, 11, 12, 13, 9, 14, 15, 16, 17, 18, 19, 20, 21, 22, 23, 24, 25, 26, 27, 28, 29, 30, 31, 32, 33, 34, 35, 36, 37, 38, 39, 40, 41, 42, 43, 44, 45, 46, 47, 48, 49, 50, 51, 52, 53, 54, 55, 56] (by decide +kernel) (by decide +kernel)
set_option maxRecDepth 20000 in
theorem gX9_constants_X9_isClass : GoodIn wsX9_constants (wsV RX9 122 RX9 yX9_isClass wsX9_isClass) := goodIn_app (goodIn_of _ (by decide +kernel)) ggX9_constants_X9_isClass
set_option maxRecDepth 20000 in
theorem ggX9_constants_X9_in : GoodIn wsX9_constants wsX9_in := goodIn_r _ [14] (by decide +kernel) (by decide +kernel)
set_option maxRecDepth 20000 in
theorem gX9_constants_X9_in : GoodIn wsX9_constants (va_wsS RX9 115 yX9_in wsX9_in) := goodIn_app (goodIn_of _ (by decide +kernel)) ggX9_constants_X9_in
set_option maxRecDepth 20000 in
theorem ggX9_isNoClass_X9_isClass : GoodIn wsX9_isNoClass wsX9_isClass := goodIn_r _ [5, 6, 7, 8, 4, 9, 10, 11, 12, 13, 14, 15, 16, 17, 18, 19, 20, 21, 22, 23, 24, 25, 26, 27, 28, 29, 30, 31, 32, 33, 34, 35, 36, 37, 38, 39, 40, 41, 42, 43, 44, 45, 46, 47, 48, 49, 50, 51] (by decide +kernel) (by decide +kernel)
set_option maxRecDepth 20000 in
theorem gX9_isNoClass_X9_isClass : GoodIn wsX9_isNoClass (wsV RX9 122 RX9 yX9_isClass wsX9_isClass) := goodIn_app (goodIn_of _ (by decide +kernel)) ggX9_isNoClass_X9_isClass
set_option maxRecDepth 20000 in
theorem ggX9_field_X9_isClass : GoodIn wsX9_field wsX9_isClass := goodIn_r _ [17, 18, 19, 20, 16, 21, 36, 37, 38, 39, 40, 41, 42, 43, 44, 45, 46, 47, 48, 49, 50, 51, 52, 53, 54, 55, 56, 57, 58, 59, 60, 61, 62, 63, 64, 65, 66, 67, 68, 69, 70, 71, 72, 73, 74, 75, 76, 77] (by decide +kernel) (by decide +kernel)
set_option maxRecDepth 20000 in
theorem gX9_field_X9_isClass : GoodIn wsX9_field (wsV RX9 122 RX9 yX9_isClass wsX9_isClass) := goodIn_app (goodIn_of _ (by decide +kernel)) ggX9_field_X9_isClass
set_option maxRecDepth 20000 in
theorem ggX9_field_X9_isNoClass : GoodIn wsX9_field wsX9_isNoClass := goodIn_r _ [25, 13, 14, 15, 16, 17, 18, 19, 20, 21, 36, 37, 38, 39, 40, 41, 42, 43, 44, 45, 46, 47, 48, 49, 50, 51, 52, 53, 54, 55, 56, 57, 58, 59, 60, 61, 62, 63, 64, 65, 66, 67, 68, 69, 70, 71, 72, 73, 74, 75, 76, 77] (by decide +kernel) (by decide +kernel)
set_option maxRecDepth 20000 in
theorem gX9_field_X9_isNoClass : GoodIn wsX9_field (wsV RX9 131 RX9 yX9_isNoClass wsX9_isNoClass) := goodIn_app (goodIn_of _ (by decide +kernel)) ggX9_field_X9_isNoClass
set_option maxRecDepth 20000 in
theorem ggX9_field_X9_in : GoodIn wsX9_field wsX9_in := goodIn_r _ [21] (by decide +kernel) (by decide +kernel)
set_option maxRecDepth 20000 in
theorem gX9_field_X9_in : GoodIn wsX9_field (va_wsS RX9 115 yX9_in wsX9_in) := goodIn_app (goodIn_of _ (by decide +kernel)) ggX9_field_X9_in
set_option maxRecDepth 20000 in
theorem ggX9_field_X9_hasField : GoodIn wsX9_field wsX9_hasField := goodIn_r _ [29, 5, 6, 7, 8, 36, 37, 38, 39, 40, 41, 42, 43, 44, 45, 46, 47, 48, 49, 50, 51, 52, 53, 54, 55, 56, 57, 58, 59, 60, 61, 62, 63, 64, 65, 66, 67, 68, 69, 70, 71, 72, 73, 74, 75, 76, 77] (by decide +kernel) (by decide +kernel)
set_option maxRecDepth 20000 in
theorem gX9_field_X9_hasField : GoodIn wsX9_field (wsV RX9 136 RX9 yX9_hasField wsX9_hasField) := goodIn_app (goodIn_of _ (by decide +kernel)) ggX9_field_X9_hasField
set_option maxRecDepth 20000 in
theorem ggX9_field_X9_first : GoodIn wsX9_field wsX9_first := goodIn_r _ [33, 34, 9, 35, 36, 37, 38, 39, 40, 41, 42, 43, 44, 45, 46, 47, 48, 49, 50, 51, 52, 53, 54, 55, 56, 57, 58, 59, 60, 61, 62, 63, 64, 65, 66, 67, 68, 69, 70, 71, 72, 73, 74, 75, 76, 77] (by decide +kernel) (by decide +kernel)
set_option maxRecDepth 20000 in
theorem gX9_field_X9_first : GoodIn wsX9_field (wsV RX9 140 RX9 yX9_first wsX9_first) := goodIn_app (goodIn_of _ (by decide +kernel)) ggX9_field_X9_first
set_option maxRecDepth 20000 in
theorem ggX9_bodyMay_X9_isClass : GoodIn wsX9_bodyMay wsX9_isClass := goodIn_r _ [8, 9, 10, 11, 7, 12, 13, 14, 15, 16, 17, 18, 19, 20, 21, 22, 23, 24, 25, 26, 27, 28, 29, 30, 31, 32, 33, 34, 35, 36, 37, 38, 39, 40, 41, 42, 43, 44, 45, 46, 47, 48, 49, 50, 51, 52, 53, 54] (by decide +kernel) (by decide +kernel)
set_option maxRecDepth 20000 in
theorem gX9_bodyMay_X9_isClass : GoodIn wsX9_bodyMay (wsV RX9 122 RX9 yX9_isClass wsX9_isClass) := goodIn_app (goodIn_of _ (by decide +kernel)) ggX9_bodyMay_X9_isClass
set_option maxRecDepth 20000 in
theorem ggX9_bodyMay_X9_in : GoodIn wsX9_bodyMay wsX9_in := goodIn_r _ [12] (by decide +kernel) (by decide +kernel)
set_option maxRecDepth 20000 in
theorem gX9_bodyMay_X9_in : GoodIn wsX9_bodyMay (va_wsS RX9 115 yX9_in wsX9_in) := goodIn_app (goodIn_of _ (by decide +kernel)) ggX9_bodyMay_X9_in
set_option maxRecDepth 20000 in
theorem ggX9_method_X9_isClass : GoodIn wsX9_method wsX9_isClass := goodIn_r _ [24, 25, 26, 27, 23, 28, 41, 42, 43, 44, 45, 46, 47, 48, 49, 50, 51, 52, 53, 54, 55, 56, 57, 58, 59, 60, 61, 62, 63, 64, 65, 66, 67, 68, 69, 70, 71, 72, 73, 74, 75, 76, 77, 78, 79, 80, 81, 82] (by decide +kernel) (by decide +kernel)
set_option maxRecDepth 20000 in
theorem gX9_method_X9_isClass : GoodIn wsX9_method (wsV RX9 122 RX9 yX9_isClass wsX9_isClass) := goodIn_app (goodIn_of _ (by decide +kernel)) ggX9_method_X9_isClass
set_option maxRecDepth 20000 in
theorem ggX9_method_X9_isNoClass : GoodIn wsX9_method wsX9_isNoClass := goodIn_r _ [32, 20, 21, 22, 23, 24, 25, 26, 27, 28, 41, 42, 43, 44, 45, 46, 47, 48, 49, 50, 51, 52, 53, 54, 55, 56, 57, 58, 59, 60, 61, 62, 63, 64, 65, 66, 67, 68, 69, 70, 71, 72, 73, 74, 75, 76, 77, 78, 79, 80, 81, 82] (by decide +kernel) (by decide +kernel)
set_option maxRecDepth 20000 in
theorem gX9_method_X9_isNoClass : GoodIn wsX9_method (wsV RX9 131 RX9 yX9_isNoClass wsX9_isNoClass) := goodIn_app (goodIn_of _ (by decide +kernel)) ggX9_method_X9_isNoClass
set_option maxRecDepth 20000 in
theorem ggX9_method_X9_in : GoodIn wsX9_method wsX9_in := goodIn_r _ [28] (by decide +kernel) (by decide +kernel)
set_option maxRecDepth 20000 in
theorem gX9_method_X9_in : GoodIn wsX9_method (va_wsS RX9 115 yX9_in wsX9_in) := goodIn_app (goodIn_of _ (by decide +kernel)) ggX9_method_X9_in
set_option maxRecDepth 20000 in
theorem ggX9_method_X9_bodyMay : GoodIn wsX9_method wsX9_bodyMay := goodIn_r _ [36, 7, 10, 15, 20, 21, 22, 23, 24, 25, 26, 27, 28, 41, 42, 43, 44, 45, 46, 47, 48, 49, 50, 51, 52, 53, 54, 55, 56, 57, 58, 59, 60, 61, 62, 63, 64, 65, 66, 67, 68, 69, 70, 71, 72, 73, 74, 75, 76, 77, 78, 79, 80, 81, 82] (by decide +kernel) (by decide +kernel)
set_option maxRecDepth 20000 in
theorem gX9_method_X9_bodyMay : GoodIn wsX9_method (wsV RX9 150 RX9 yX9_bodyMay wsX9_bodyMay) := goodIn_app (goodIn_of _ (by decide +kernel)) ggX9_method_X9_bodyMay
set_option maxRecDepth 20000 in
theorem ggX9_caller_X9_isClass : GoodIn wsX9_caller wsX9_isClass := goodIn_r _ [7, 8, 9, 10, 6, 11, 12, 13, 14, 15, 16, 17, 18, 19, 20, 21, 22, 23, 24, 25, 26, 27, 28, 29, 30, 31, 32, 33, 34, 35, 36, 37, 38, 39, 40, 41, 42, 43, 44, 45, 46, 47, 48, 49, 50, 51, 52, 53] (by decide +kernel) (by decide +kernel)
set_option maxRecDepth 20000 in
theorem gX9_caller_X9_isClass : GoodIn wsX9_caller (wsV RX9 122 RX9 yX9_isClass wsX9_isClass) := goodIn_app (goodIn_of _ (by decide +kernel)) ggX9_caller_X9_isClass
set_option maxRecDepth 20000 in
theorem ggX9_newHandle_X9_fails : GoodIn wsX9_newHandle wsX9_fails := goodIn_r _ [8, 9, 10, 11, 12, 13, 14, 15, 16, 17, 18, 19, 20, 21, 22, 23, 24, 25, 26, 27, 28, 29, 30, 31, 32, 33, 34, 35, 36, 37, 38, 39, 40, 41, 42, 43, 44, 45, 46, 47, 48, 49, 50, 51] (by decide +kernel) (by decide +kernel)
set_option maxRecDepth 20000 in
theorem gX9_newHandle_X9_fails : GoodIn wsX9_newHandle (wsV RX9 161 RX9 yX9_fails wsX9_fails) := goodIn_app (goodIn_of _ (by decide +kernel)) ggX9_newHandle_X9_fails
set_option maxRecDepth 20000 in
theorem ggX9_findField_X9_isClass : GoodIn wsX9_findField wsX9_isClass := goodIn_r _ [13, 14, 15, 16, 12, 17, 30, 31, 32, 33, 34, 35, 36, 37, 38, 39, 40, 41, 42, 43, 44, 45, 46, 47, 48, 49, 50, 51, 52, 53, 54, 55, 56, 57, 58, 59, 60, 61, 62, 63, 64, 65, 66, 67, 68, 69, 70, 71] (by decide +kernel) (by decide +kernel)
set_option maxRecDepth 20000 in
theorem gX9_findField_X9_isClass : GoodIn wsX9_findField (wsV RX9 122 RX9 yX9_isClass wsX9_isClass) := goodIn_app (goodIn_of _ (by decide +kernel)) ggX9_findField_X9_isClass
set_option maxRecDepth 20000 in
theorem ggX9_findField_X9_in : GoodIn wsX9_findField wsX9_in := goodIn_r _ [17] (by decide +kernel) (by decide +kernel)
set_option maxRecDepth 20000 in
theorem gX9_findField_X9_in : GoodIn wsX9_findField (va_wsS RX9 115 yX9_in wsX9_in) := goodIn_app (goodIn_of _ (by decide +kernel)) ggX9_findField_X9_in
set_option maxRecDepth 20000 in
theorem ggX9_findField_X9_newHandle : GoodIn wsX9_findField wsX9_newHandle := goodIn_r _ [21, 22, 23, 24, 25, 26, 27, 12, 28, 29, 30, 31, 32, 33, 34, 35, 36, 37, 38, 39, 40, 41, 42, 43, 44, 45, 46, 47, 48, 49, 50, 51, 52, 53, 54, 55, 56, 57, 58, 59, 60, 61, 62, 63, 64, 65, 66, 67, 68, 69, 70, 71] (by decide +kernel) (by decide +kernel)
set_option maxRecDepth 20000 in
theorem gX9_findField_X9_newHandle : GoodIn wsX9_findField (wsV RX9 168 RX9 yX9_newHandle wsX9_newHandle) := goodIn_app (goodIn_of _ (by decide +kernel)) ggX9_findField_X9_newHandle
set_option maxRecDepth 20000 in
theorem ggX9_findMethod_X9_isClass : GoodIn wsX9_findMethod wsX9_isClass := goodIn_r _ [10, 11, 12, 13, 9, 14, 46, 47, 48, 49, 50, 51, 52, 53, 54, 55, 56, 57, 58, 59, 60, 61, 62, 63, 64, 65, 66, 67, 68, 69, 70, 71, 72, 73, 74, 75, 76, 77, 78, 79, 80, 81, 82, 83, 84, 85, 86, 87] (by decide +kernel) (by decide +kernel)
set_option maxRecDepth 20000 in
theorem gX9_findMethod_X9_isClass : GoodIn wsX9_findMethod (wsV RX9 122 RX9 yX9_isClass wsX9_isClass) := goodIn_app (goodIn_of _ (by decide +kernel)) ggX9_findMethod_X9_isClass
set_option maxRecDepth 20000 in
theorem ggX9_findMethod_X9_isNoClass : GoodIn wsX9_findMethod wsX9_isNoClass := goodIn_r _ [18, 6, 7, 8, 9, 10, 11, 12, 13, 14, 46, 47, 48, 49, 50, 51, 52, 53, 54, 55, 56, 57, 58, 59, 60, 61, 62, 63, 64, 65, 66, 67, 68, 69, 70, 71, 72, 73, 74, 75, 76, 77, 78, 79, 80, 81, 82, 83, 84, 85, 86, 87] (by decide +kernel) (by decide +kernel)
set_option maxRecDepth 20000 in
theorem gX9_findMethod_X9_isNoClass : GoodIn wsX9_findMethod (wsV RX9 131 RX9 yX9_isNoClass wsX9_isNoClass) := goodIn_app (goodIn_of _ (by decide +kernel)) ggX9_findMethod_X9_isNoClass
set_option maxRecDepth 20000 in
theorem ggX9_findMethod_X9_in : GoodIn wsX9_findMethod wsX9_in := goodIn_r _ [14] (by decide +kernel) (by decide +kernel)
set_option maxRecDepth 20000 in
theorem gX9_findMethod_X9_in : GoodIn wsX9_findMethod (va_wsS RX9 115 yX9_in wsX9_in) := goodIn_app (goodIn_of _ (by decide +kernel)) ggX9_findMethod_X9_in
set_option maxRecDepth 20000 in
theorem ggX9_findMethod_X9_methodFrom : GoodIn wsX9_findMethod wsX9_methodFrom := goodIn_r _ [22, 23, 24, 25, 5, 26, 27, 28, 9, 29, 30, 31, 32, 33, 46, 47, 48, 49, 50, 51, 52, 53, 54, 55, 56, 57, 58, 59, 60, 61, 62, 63, 64, 65, 66, 67, 68, 69, 70, 71, 72, 73, 74, 75, 76, 77, 78, 79, 80, 81, 82, 83, 84, 85, 86, 87] (by decide +kernel) (by decide +kernel)
set_option maxRecDepth 20000 in
theorem gX9_findMethod_X9_methodFrom : GoodIn wsX9_findMethod (wsV RX9 171 RX9 yX9_methodFrom wsX9_methodFrom) := goodIn_app (goodIn_of _ (by decide +kernel)) ggX9_findMethod_X9_methodFrom
set_option maxRecDepth 20000 in
theorem ggX9_findMethod_X9_newHandle : GoodIn wsX9_findMethod wsX9_newHandle := goodIn_r _ [37, 38, 39, 40, 41, 42, 43, 9, 44, 45, 46, 47, 48, 49, 50, 51, 52, 53, 54, 55, 56, 57, 58, 59, 60, 61, 62, 63, 64, 65, 66, 67, 68, 69, 70, 71, 72, 73, 74, 75, 76, 77, 78, 79, 80, 81, 82, 83, 84, 85, 86, 87] (by decide +kernel) (by decide +kernel)
set_option maxRecDepth 20000 in
theorem gX9_findMethod_X9_newHandle : GoodIn wsX9_findMethod (wsV RX9 168 RX9 yX9_newHandle wsX9_newHandle) := goodIn_app (goodIn_of _ (by decide +kernel)) ggX9_findMethod_X9_newHandle
set_option maxRecDepth 20000 in
theorem ggX9_isHandle_X9_in : GoodIn wsX9_isHandle wsX9_in := goodIn_r _ [5] (by decide +kernel) (by decide +kernel)
set_option maxRecDepth 20000 in
theorem gX9_isHandle_X9_in : GoodIn wsX9_isHandle (va_wsS RX9 115 yX9_in wsX9_in) := goodIn_app (goodIn_of _ (by decide +kernel)) ggX9_isHandle_X9_in
set_option maxRecDepth 20000 in
theorem ggX9_leave_X9_isHandle : GoodIn wsX9_leave wsX9_isHandle := goodIn_r _ [11, 12, 13, 14, 10, 15, 21, 22, 23, 24, 25, 26, 27, 28, 29, 30, 31, 32, 33, 34, 35, 36, 37, 38, 39, 40, 41, 42, 43, 44, 45, 46, 47, 48, 49, 50, 51, 52, 53, 54, 55, 56, 57, 58, 59, 60, 61, 62] (by decide +kernel) (by decide +kernel)
set_option maxRecDepth 20000 in
theorem gX9_leave_X9_isHandle : GoodIn wsX9_leave (wsV RX9 175 RX9 yX9_isHandle wsX9_isHandle) := goodIn_app (goodIn_of _ (by decide +kernel)) ggX9_leave_X9_isHandle
set_option maxRecDepth 20000 in
theorem ggX9_value_X9_isObject : GoodIn wsX9_value wsX9_isObject := goodIn_r _ [11, 12, 13, 14, 10, 15, 16, 17, 18, 19, 20, 21, 22, 23, 24, 25, 26, 27, 28, 29, 30, 31, 32, 33, 34, 35, 36, 37, 38, 39, 40, 41, 42, 43, 44, 45, 46, 47, 48, 49, 50, 51, 52, 53, 54, 55, 56, 57] (by decide +kernel) (by decide +kernel)
set_option maxRecDepth 20000 in
theorem gX9_value_X9_isObject : GoodIn wsX9_value (wsV RX9 184 RX9 yX9_isObject wsX9_isObject) := goodIn_app (goodIn_of _ (by decide +kernel)) ggX9_value_X9_isObject
set_option maxRecDepth 20000 in
theorem ggX9_value_X9_in : GoodIn wsX9_value wsX9_in := goodIn_r _ [15] (by decide +kernel) (by decide +kernel)
set_option maxRecDepth 20000 in
theorem gX9_value_X9_in : GoodIn wsX9_value (va_wsS RX9 115 yX9_in wsX9_in) := goodIn_app (goodIn_of _ (by decide +kernel)) ggX9_value_X9_in
set_option maxRecDepth 20000 in
theorem ggX9_get_X9_isHandle : GoodIn wsX9_get wsX9_isHandle := goodIn_r _ [16, 17, 18, 19, 15, 20, 81, 82, 83, 84, 85, 86, 87, 88, 89, 90, 91, 92, 93, 94, 95, 96, 97, 98, 99, 100, 101, 102, 103, 104, 105, 106, 107, 108, 109, 110, 111, 112, 113, 114, 115, 116, 117, 118, 119, 120, 121, 122] (by decide +kernel) (by decide +kernel)
set_option maxRecDepth 20000 in
theorem gX9_get_X9_isHandle : GoodIn wsX9_get (wsV RX9 175 RX9 yX9_isHandle wsX9_isHandle) := goodIn_app (goodIn_of _ (by decide +kernel)) ggX9_get_X9_isHandle
set_option maxRecDepth 20000 in
theorem ggX9_set_X9_isHandle : GoodIn wsX9_set wsX9_isHandle := goodIn_r _ [17, 18, 19, 20, 16, 21, 87, 88, 89, 90, 91, 92, 93, 94, 95, 96, 97, 98, 99, 100, 101, 102, 103, 104, 105, 106, 107, 108, 109, 110, 111, 112, 113, 114, 115, 116, 117, 118, 119, 120, 121, 122, 123, 124, 125, 126, 127, 128] (by decide +kernel) (by decide +kernel)
set_option maxRecDepth 20000 in
theorem gX9_set_X9_isHandle : GoodIn wsX9_set (wsV RX9 175 RX9 yX9_isHandle wsX9_isHandle) := goodIn_app (goodIn_of _ (by decide +kernel)) ggX9_set_X9_isHandle
set_option maxRecDepth 20000 in
theorem ggX9_call_X9_isHandle : GoodIn wsX9_call wsX9_isHandle := goodIn_r _ [22, 23, 24, 25, 21, 26, 121, 122, 123, 124, 125, 126, 127, 128, 129, 130, 131, 132, 133, 134, 135, 136, 137, 138, 139, 140, 141, 142, 143, 144, 145, 146, 147, 148, 149, 150, 151, 152, 153, 154, 155, 156, 157, 158, 159, 160, 161, 162] (by decide +kernel) (by decide +kernel)
set_option maxRecDepth 20000 in
theorem gX9_call_X9_isHandle : GoodIn wsX9_call (wsV RX9 175 RX9 yX9_isHandle wsX9_isHandle) := goodIn_app (goodIn_of _ (by decide +kernel)) ggX9_call_X9_isHandle
set_option maxRecDepth 20000 in
theorem ggX9_make_X9_isClass : GoodIn wsX9_make wsX9_isClass := goodIn_r _ [12, 13, 14, 15, 11, 16, 69, 70, 71, 72, 73, 74, 75, 76, 77, 78, 79, 80, 81, 82, 83, 84, 85, 86, 87, 88, 89, 90, 91, 92, 93, 94, 95, 96, 97, 98, 99, 100, 101, 102, 103, 104, 105, 106, 107, 108, 109, 110] (by decide +kernel) (by decide +kernel)
set_option maxRecDepth 20000 in
theorem gX9_make_X9_isClass : GoodIn wsX9_make (wsV RX9 122 RX9 yX9_isClass wsX9_isClass) := goodIn_app (goodIn_of _ (by decide +kernel)) ggX9_make_X9_isClass
set_option maxRecDepth 20000 in
theorem ggX9_make_X9_started : GoodIn wsX9_make wsX9_started := goodIn_r _ [43, 44, 45, 35, 46, 47, 48, 2, 49, 50, 51, 11, 52, 33, 32, 53, 5, 7, 54, 55, 56, 57, 58, 23, 59, 69, 70, 71, 72, 73, 74, 75, 76, 77, 78, 79, 80, 81, 82, 83, 84, 85, 86, 87, 88, 89, 90, 91, 92, 93, 94, 95, 96, 97, 98, 99, 100, 101, 102, 103, 104, 105, 106, 107, 108, 109, 110] (by decide +kernel) (by decide +kernel)
set_option maxRecDepth 20000 in
theorem gX9_make_X9_started : GoodIn wsX9_make (wsV RX9 214 RX9 yX9_started wsX9_started) := goodIn_app (goodIn_of _ (by decide +kernel)) ggX9_make_X9_started
set_option maxRecDepth 20000 in
theorem ggX9_make_X9_newObject : GoodIn wsX9_make wsX9_newObject := goodIn_r _ [52, 2, 33, 32, 53, 5, 7, 54, 55, 56, 11, 57, 58, 23, 59, 69, 70, 71, 72, 73, 74, 75, 76, 77, 78, 79, 80, 81, 82, 83, 84, 85, 86, 87, 88, 89, 90, 91, 92, 93, 94, 95, 96, 97, 98, 99, 100, 101, 102, 103, 104, 105, 106, 107, 108, 109, 110] (by decide +kernel) (by decide +kernel)
set_option maxRecDepth 20000 in
theorem gX9_make_X9_newObject : GoodIn wsX9_make (wsV RX9 193 RX9 yX9_newObject wsX9_newObject) := goodIn_app (goodIn_of _ (by decide +kernel)) ggX9_make_X9_newObject
set_option maxRecDepth 20000 in
theorem ggX9_proxy_X9_isClass : GoodIn wsX9_proxy wsX9_isClass := goodIn_r _ [11, 12, 13, 14, 10, 15, 31, 32, 33, 34, 35, 36, 37, 38, 39, 40, 41, 42, 43, 44, 45, 46, 47, 48, 49, 50, 51, 52, 53, 54, 55, 56, 57, 58, 59, 60, 61, 62, 63, 64, 65, 66, 67, 68, 69, 70, 71, 72] (by decide +kernel) (by decide +kernel)
set_option maxRecDepth 20000 in
theorem gX9_proxy_X9_isClass : GoodIn wsX9_proxy (wsV RX9 122 RX9 yX9_isClass wsX9_isClass) := goodIn_app (goodIn_of _ (by decide +kernel)) ggX9_proxy_X9_isClass
set_option maxRecDepth 20000 in
theorem ggX9_proxy_X9_in : GoodIn wsX9_proxy wsX9_in := goodIn_r _ [15] (by decide +kernel) (by decide +kernel)
set_option maxRecDepth 20000 in
theorem gX9_proxy_X9_in : GoodIn wsX9_proxy (va_wsS RX9 115 yX9_in wsX9_in) := goodIn_app (goodIn_of _ (by decide +kernel)) ggX9_proxy_X9_in
set_option maxRecDepth 20000 in
theorem ggX9_constant_X9_isClass : GoodIn wsX9_constant wsX9_isClass := goodIn_r _ [9, 10, 11, 12, 8, 13, 44, 45, 46, 47, 48, 49, 50, 51, 52, 53, 54, 55, 56, 57, 58, 59, 60, 61, 62, 63, 64, 65, 66, 67, 68, 69, 70, 71, 72, 73, 74, 75, 76, 77, 78, 79, 80, 81, 82, 83, 84, 85] (by decide +kernel) (by decide +kernel)
set_option maxRecDepth 20000 in
theorem gX9_constant_X9_isClass : GoodIn wsX9_constant (wsV RX9 122 RX9 yX9_isClass wsX9_isClass) := goodIn_app (goodIn_of _ (by decide +kernel)) ggX9_constant_X9_isClass
set_option maxRecDepth 20000 in
theorem ggX9_start_X9_isClass : GoodIn wsX9_start wsX9_isClass := goodIn_r _ [6, 7, 8, 9, 5, 10, 43, 44, 45, 46, 47, 48, 49, 50, 51, 52, 53, 54, 55, 56, 57, 58, 59, 60, 61, 62, 63, 64, 65, 66, 67, 68, 69, 70, 71, 72, 73, 74, 75, 76, 77, 78, 79, 80, 81, 82, 83, 84] (by decide +kernel) (by decide +kernel)
set_option maxRecDepth 20000 in
theorem gX9_start_X9_isClass : GoodIn wsX9_start (wsV RX9 122 RX9 yX9_isClass wsX9_isClass) := goodIn_app (goodIn_of _ (by decide +kernel)) ggX9_start_X9_isClass
set_option maxRecDepth 20000 in
theorem ggX9_start_X9_started : GoodIn wsX9_start wsX9_started := goodIn_r _ [14, 15, 16, 17, 18, 19, 20, 21, 22, 23, 24, 5, 25, 26, 27, 28, 29, 30, 31, 32, 33, 34, 35, 36, 37, 43, 44, 45, 46, 47, 48, 49, 50, 51, 52, 53, 54, 55, 56, 57, 58, 59, 60, 61, 62, 63, 64, 65, 66, 67, 68, 69, 70, 71, 72, 73, 74, 75, 76, 77, 78, 79, 80, 81, 82, 83, 84] (by decide +kernel) (by decide +kernel)
set_option maxRecDepth 20000 in
theorem gX9_start_X9_started : GoodIn wsX9_start (wsV RX9 214 RX9 yX9_started wsX9_started) := goodIn_app (goodIn_of _ (by decide +kernel)) ggX9_start_X9_started
set_option maxRecDepth 20000 in
theorem ggX9_about_X9_isClass : GoodIn wsX9_about wsX9_isClass := goodIn_r _ [12, 13, 14, 15, 11, 16, 17, 18, 19, 20, 21, 22, 23, 24, 25, 26, 27, 28, 29, 30, 31, 32, 33, 34, 35, 36, 37, 38, 39, 40, 41, 42, 43, 44, 45, 46, 47, 48, 49, 50, 51, 52, 53, 54, 55, 56, 57, 58] (by decide +kernel) (by decide +kernel)
set_option maxRecDepth 20000 in
theorem gX9_about_X9_isClass : GoodIn wsX9_about (wsV RX9 122 RX9 yX9_isClass wsX9_isClass) := goodIn_app (goodIn_of _ (by decide +kernel)) ggX9_about_X9_isClass
set_option maxRecDepth 20000 in
theorem ggX9_is_X9_isObject : GoodIn wsX9_is wsX9_isObject := goodIn_r _ [6, 7, 8, 9, 5, 10, 28, 29, 30, 31, 32, 33, 34, 35, 36, 37, 38, 39, 40, 41, 42, 43, 44, 45, 46, 47, 48, 49, 50, 51, 52, 53, 54, 55, 56, 57, 58, 59, 60, 61, 62, 63, 64, 65, 66, 67, 68, 69] (by decide +kernel) (by decide +kernel)
set_option maxRecDepth 20000 in
theorem gX9_is_X9_isObject : GoodIn wsX9_is (wsV RX9 184 RX9 yX9_isObject wsX9_isObject) := goodIn_app (goodIn_of _ (by decide +kernel)) ggX9_is_X9_isObject
set_option maxRecDepth 20000 in
theorem ggX9_handle_X9_isHandle : GoodIn wsX9_handle wsX9_isHandle := goodIn_r _ [8, 9, 10, 11, 7, 12, 20, 21, 22, 23, 24, 25, 26, 27, 28, 29, 30, 31, 32, 33, 34, 35, 36, 37, 38, 39, 40, 41, 42, 43, 44, 45, 46, 47, 48, 49, 50, 51, 52, 53, 54, 55, 56, 57, 58, 59, 60, 61] (by decide +kernel) (by decide +kernel)
set_option maxRecDepth 20000 in
theorem gX9_handle_X9_isHandle : GoodIn wsX9_handle (wsV RX9 175 RX9 yX9_isHandle wsX9_isHandle) := goodIn_app (goodIn_of _ (by decide +kernel)) ggX9_handle_X9_isHandle
theorem inX9_about_9 : ∀ w ∈ u_ws RX9 TX9 42, w ∈ wsX9_about := by decide +kernel
theorem inX9_bodyMay_9 : ∀ w ∈ u_ws RX9 TX9 42, w ∈ wsX9_bodyMay := by decide +kernel
theorem inX9_call_9 : ∀ w ∈ u_ws RX9 TX9 42, w ∈ wsX9_call := by decide +kernel
theorem inX9_caller_9 : ∀ w ∈ u_ws RX9 TX9 42, w ∈ wsX9_caller := by decide +kernel
theorem inX9_cause_9 : ∀ w ∈ u_ws RX9 TX9 42, w ∈ wsX9_cause := by decide +kernel
theorem inX9_constant_9 : ∀ w ∈ u_ws RX9 TX9 42, w ∈ wsX9_constant := by decide +kernel
theorem inX9_constants_9 : ∀ w ∈ u_ws RX9 TX9 42, w ∈ wsX9_constants := by decide +kernel
theorem inX9_fails_9 : ∀ w ∈ u_ws RX9 TX9 42, w ∈ wsX9_fails := by decide +kernel
theorem inX9_field_9 : ∀ w ∈ u_ws RX9 TX9 42, w ∈ wsX9_field := by decide +kernel
theorem inX9_findField_9 : ∀ w ∈ u_ws RX9 TX9 42, w ∈ wsX9_findField := by decide +kernel
theorem inX9_findMethod_9 : ∀ w ∈ u_ws RX9 TX9 42, w ∈ wsX9_findMethod := by decide +kernel
theorem inX9_first_9 : ∀ w ∈ u_ws RX9 TX9 42, w ∈ wsX9_first := by decide +kernel
theorem inX9_get_9 : ∀ w ∈ u_ws RX9 TX9 42, w ∈ wsX9_get := by decide +kernel
theorem inX9_handle_9 : ∀ w ∈ u_ws RX9 TX9 42, w ∈ wsX9_handle := by decide +kernel
theorem inX9_hasField_9 : ∀ w ∈ u_ws RX9 TX9 42, w ∈ wsX9_hasField := by decide +kernel
theorem inX9_init_9 : ∀ w ∈ u_ws RX9 TX9 42, w ∈ wsX9_init := by decide +kernel
theorem inX9_is_9 : ∀ w ∈ u_ws RX9 TX9 42, w ∈ wsX9_is := by decide +kernel
theorem inX9_isClass_9 : ∀ w ∈ u_ws RX9 TX9 42, w ∈ wsX9_isClass := by decide +kernel
theorem inX9_isHandle_9 : ∀ w ∈ u_ws RX9 TX9 42, w ∈ wsX9_isHandle := by decide +kernel
theorem inX9_isObject_9 : ∀ w ∈ u_ws RX9 TX9 42, w ∈ wsX9_isObject := by decide +kernel
theorem inX9_leave_9 : ∀ w ∈ u_ws RX9 TX9 42, w ∈ wsX9_leave := by decide +kernel
theorem inX9_make_9 : ∀ w ∈ u_ws RX9 TX9 42, w ∈ wsX9_make := by decide +kernel
theorem inX9_method_9 : ∀ w ∈ u_ws RX9 TX9 42, w ∈ wsX9_method := by decide +kernel
theorem inX9_methodFrom_9 : ∀ w ∈ u_ws RX9 TX9 42, w ∈ wsX9_methodFrom := by decide +kernel
theorem inX9_newObject_9 : ∀ w ∈ u_ws RX9 TX9 42, w ∈ wsX9_newObject := by decide +kernel
theorem inX9_proxy_9 : ∀ w ∈ u_ws RX9 TX9 42, w ∈ wsX9_proxy := by decide +kernel
theorem inX9_result_9 : ∀ w ∈ u_ws RX9 TX9 42, w ∈ wsX9_result := by decide +kernel
theorem inX9_resultKind_9 : ∀ w ∈ u_ws RX9 TX9 42, w ∈ wsX9_resultKind := by decide +kernel
theorem inX9_set_9 : ∀ w ∈ u_ws RX9 TX9 42, w ∈ wsX9_set := by decide +kernel
theorem inX9_start_9 : ∀ w ∈ u_ws RX9 TX9 42, w ∈ wsX9_start := by decide +kernel
theorem inX9_started_9 : ∀ w ∈ u_ws RX9 TX9 42, w ∈ wsX9_started := by decide +kernel
theorem inX9_told_9 : ∀ w ∈ u_ws RX9 TX9 42, w ∈ wsX9_told := by decide +kernel
theorem inX9_type_9 : ∀ w ∈ u_ws RX9 TX9 42, w ∈ wsX9_type := by decide +kernel
theorem inX9_value_9 : ∀ w ∈ u_ws RX9 TX9 42, w ∈ wsX9_value := by decide +kernel

