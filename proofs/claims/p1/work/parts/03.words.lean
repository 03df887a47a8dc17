set_option maxRecDepth 20000 in
theorem ggX8_init_X7_init : GoodIn wsX8_init wsX7_init := goodIn_r _ [29, 30, 2, 3, 31, 32, 63, 64] (by decide +kernel) (by decide +kernel)
set_option maxRecDepth 20000 in
theorem gX8_init_X7_init_n61 : GoodIn wsX8_init (wsX7_init) := ggX8_init_X7_init
set_option maxRecDepth 20000 in
theorem ggX8_init_X0_init : GoodIn wsX8_init wsX0_init := goodIn_r _ [34, 35, 2, 3, 36, 37, 38, 39, 40, 41, 42, 43, 44, 45, 46, 47, 65, 66, 67, 68, 69, 70, 71, 72, 73, 74, 75, 76] (by decide +kernel) (by decide +kernel)
set_option maxRecDepth 20000 in
theorem gX8_init_X0_init_n72 : GoodIn wsX8_init (wsX0_init) := ggX8_init_X0_init
set_option maxRecDepth 20000 in
theorem ggX8_type_X8_isClass : GoodIn wsX8_type wsX8_isClass := goodIn_r _ [10, 2, 34, 35, 36, 37, 38, 39, 40, 41, 42, 43, 44, 45, 46, 47, 48] (by decide +kernel) (by decide +kernel)
set_option maxRecDepth 20000 in
theorem gX8_type_X8_isClass : GoodIn wsX8_type (wsV RX8 75 RX8 yX8_isClass wsX8_isClass) := goodIn_app (goodIn_of _ (by decide +kernel)) ggX8_type_X8_isClass
set_option maxRecDepth 20000 in
theorem ggX8_type_X8_mayHaveAbove : GoodIn wsX8_type wsX8_mayHaveAbove := goodIn_r _ [13, 49, 50, 51, 52, 53, 54, 55, 56, 57, 58, 59, 60] (by decide +kernel) (by decide +kernel)
set_option maxRecDepth 20000 in
theorem gX8_type_X8_mayHaveAbove : GoodIn wsX8_type (va_wsS RX8 79 yX8_mayHaveAbove wsX8_mayHaveAbove) := goodIn_app (goodIn_of _ (by decide +kernel)) ggX8_type_X8_mayHaveAbove
set_option maxRecDepth 20000 in
theorem ggX8_type_X8_mayActAs : GoodIn wsX8_type wsX8_mayActAs := goodIn_r _ [16, 49, 50, 51, 52, 53, 54, 55, 56, 57, 58, 59, 60] (by decide +kernel) (by decide +kernel)
set_option maxRecDepth 20000 in
theorem gX8_type_X8_mayActAs : GoodIn wsX8_type (va_wsS RX8 83 yX8_mayActAs wsX8_mayActAs) := goodIn_app (goodIn_of _ (by decide +kernel)) ggX8_type_X8_mayActAs
set_option maxRecDepth 20000 in
theorem ggX8_type_X0_init : GoodIn wsX8_type wsX0_init := goodIn_r _ [18, 19, 20, 21, 22, 23, 24, 25, 26, 27, 28, 29, 30, 31, 32, 33, 49, 50, 51, 52, 53, 54, 55, 56, 57, 58, 59, 60] (by decide +kernel) (by decide +kernel)
set_option maxRecDepth 20000 in
theorem gX8_type_X0_init_n72 : GoodIn wsX8_type (wsX0_init) := ggX8_type_X0_init
set_option maxRecDepth 20000 in
theorem ggX8_constants_X8_isClass : GoodIn wsX8_constants wsX8_isClass := goodIn_r _ [6, 7, 8, 9, 10, 11, 12, 13, 14, 15, 16, 17, 18, 19, 20, 21, 22] (by decide +kernel) (by decide +kernel)
set_option maxRecDepth 20000 in
theorem gX8_constants_X8_isClass : GoodIn wsX8_constants (wsV RX8 75 RX8 yX8_isClass wsX8_isClass) := goodIn_app (goodIn_of _ (by decide +kernel)) ggX8_constants_X8_isClass
set_option maxRecDepth 20000 in
theorem ggX8_caller_X8_isClass : GoodIn wsX8_caller wsX8_isClass := goodIn_r _ [6, 7, 8, 9, 10, 11, 12, 13, 14, 15, 16, 17, 18, 19, 20, 21, 22] (by decide +kernel) (by decide +kernel)
set_option maxRecDepth 20000 in
theorem gX8_caller_X8_isClass : GoodIn wsX8_caller (wsV RX8 75 RX8 yX8_isClass wsX8_isClass) := goodIn_app (goodIn_of _ (by decide +kernel)) ggX8_caller_X8_isClass
set_option maxRecDepth 20000 in
theorem ggX8_leave_X8_isHandle : GoodIn wsX8_leave wsX8_isHandle := goodIn_r _ [8, 9, 15, 16, 17, 18, 19, 20, 21, 22, 23, 24, 25, 26, 27, 28, 29] (by decide +kernel) (by decide +kernel)
set_option maxRecDepth 20000 in
theorem gX8_leave_X8_isHandle : GoodIn wsX8_leave (wsV RX8 168 RX8 yX8_isHandle wsX8_isHandle) := goodIn_app (goodIn_of _ (by decide +kernel)) ggX8_leave_X8_isHandle
set_option maxRecDepth 20000 in
theorem ggX8_get_X8_isHandle : GoodIn wsX8_get wsX8_isHandle := goodIn_r _ [8, 9, 113, 114, 115, 116, 117, 118, 119, 120, 121, 122, 123, 124, 125, 126, 127] (by decide +kernel) (by decide +kernel)
set_option maxRecDepth 20000 in
theorem gX8_get_X8_isHandle : GoodIn wsX8_get (wsV RX8 168 RX8 yX8_isHandle wsX8_isHandle) := goodIn_app (goodIn_of _ (by decide +kernel)) ggX8_get_X8_isHandle
set_option maxRecDepth 20000 in
theorem ggX8_set_X8_isHandle : GoodIn wsX8_set wsX8_isHandle := goodIn_r _ [9, 10, 121, 122, 123, 124, 125, 126, 127, 128, 129, 130, 131, 132, 133, 134, 135] (by decide +kernel) (by decide +kernel)
set_option maxRecDepth 20000 in
theorem gX8_set_X8_isHandle : GoodIn wsX8_set (wsV RX8 168 RX8 yX8_isHandle wsX8_isHandle) := goodIn_app (goodIn_of _ (by decide +kernel)) ggX8_set_X8_isHandle
set_option maxRecDepth 20000 in
theorem ggX8_call_X8_isHandle : GoodIn wsX8_call wsX8_isHandle := goodIn_r _ [9, 10, 211, 212, 213, 214, 215, 216, 217, 218, 219, 220, 221, 222, 223, 224, 225] (by decide +kernel) (by decide +kernel)
set_option maxRecDepth 20000 in
theorem gX8_call_X8_isHandle : GoodIn wsX8_call (wsV RX8 168 RX8 yX8_isHandle wsX8_isHandle) := goodIn_app (goodIn_of _ (by decide +kernel)) ggX8_call_X8_isHandle
set_option maxRecDepth 20000 in
theorem ggX8_proxy_X8_isClass : GoodIn wsX8_proxy wsX8_isClass := goodIn_r _ [7, 8, 38, 39, 40, 41, 42, 43, 44, 45, 46, 47, 48, 49, 50, 51, 52] (by decide +kernel) (by decide +kernel)
set_option maxRecDepth 20000 in
theorem gX8_proxy_X8_isClass : GoodIn wsX8_proxy (wsV RX8 75 RX8 yX8_isClass wsX8_isClass) := goodIn_app (goodIn_of _ (by decide +kernel)) ggX8_proxy_X8_isClass
set_option maxRecDepth 20000 in
theorem ggX8_constant_X8_isClass : GoodIn wsX8_constant wsX8_isClass := goodIn_r _ [6, 7, 57, 58, 59, 60, 61, 62, 63, 64, 65, 66, 67, 68, 69, 70, 71] (by decide +kernel) (by decide +kernel)
set_option maxRecDepth 20000 in
theorem gX8_constant_X8_isClass : GoodIn wsX8_constant (wsV RX8 75 RX8 yX8_isClass wsX8_isClass) := goodIn_app (goodIn_of _ (by decide +kernel)) ggX8_constant_X8_isClass
set_option maxRecDepth 20000 in
theorem ggX8_about_X8_isClass : GoodIn wsX8_about wsX8_isClass := goodIn_r _ [6, 7, 8, 9, 10, 11, 12, 13, 14, 15, 16, 17, 18, 19, 20, 21, 22] (by decide +kernel) (by decide +kernel)
set_option maxRecDepth 20000 in
theorem gX8_about_X8_isClass : GoodIn wsX8_about (wsV RX8 75 RX8 yX8_isClass wsX8_isClass) := goodIn_app (goodIn_of _ (by decide +kernel)) ggX8_about_X8_isClass
set_option maxRecDepth 20000 in
theorem ggX8_is_X8_isThing : GoodIn wsX8_is wsX8_isThing := goodIn_r _ [7, 8, 19, 20, 21, 22, 23, 24, 25, 26, 27, 28, 29, 30, 31, 32, 33] (by decide +kernel) (by decide +kernel)
set_option maxRecDepth 20000 in
theorem gX8_is_X8_isThing : GoodIn wsX8_is (wsV RX8 273 RX8 yX8_isThing wsX8_isThing) := goodIn_app (goodIn_of _ (by decide +kernel)) ggX8_is_X8_isThing
set_option maxRecDepth 20000 in
theorem ggX8_handle_X8_isHandle : GoodIn wsX8_handle wsX8_isHandle := goodIn_r _ [6, 7, 15, 16, 17, 18, 19, 20, 21, 22, 23, 24, 25, 26, 27, 28, 29] (by decide +kernel) (by decide +kernel)
set_option maxRecDepth 20000 in
theorem gX8_handle_X8_isHandle : GoodIn wsX8_handle (wsV RX8 168 RX8 yX8_isHandle wsX8_isHandle) := goodIn_app (goodIn_of _ (by decide +kernel)) ggX8_handle_X8_isHandle
theorem inX0_init_0 : ∀ w ∈ u_ws RX0 TX0 12, w ∈ wsX0_init := by decide +kernel
theorem inX7_init_7 : ∀ w ∈ u_ws RX7 TX7 2, w ∈ wsX7_init := by decide +kernel
theorem inX8_about_0 : ∀ w ∈ u_ws RX0 TX0 12, w ∈ wsX8_about := by decide +kernel
theorem inX8_about_8 : ∀ w ∈ u_ws RX8 TX8 15, w ∈ wsX8_about := by decide +kernel
theorem inX8_caller_8 : ∀ w ∈ u_ws RX8 TX8 15, w ∈ wsX8_caller := by decide +kernel
theorem inX8_cause_8 : ∀ w ∈ u_ws RX8 TX8 15, w ∈ wsX8_cause := by decide +kernel
theorem inX8_constant_0 : ∀ w ∈ u_ws RX0 TX0 12, w ∈ wsX8_constant := by decide +kernel
theorem inX8_constant_8 : ∀ w ∈ u_ws RX8 TX8 15, w ∈ wsX8_constant := by decide +kernel
theorem inX8_constants_0 : ∀ w ∈ u_ws RX0 TX0 12, w ∈ wsX8_constants := by decide +kernel
theorem inX8_constants_8 : ∀ w ∈ u_ws RX8 TX8 15, w ∈ wsX8_constants := by decide +kernel
theorem inX8_init_0 : ∀ w ∈ u_ws RX0 TX0 12, w ∈ wsX8_init := by decide +kernel
theorem inX8_init_7 : ∀ w ∈ u_ws RX7 TX7 2, w ∈ wsX8_init := by decide +kernel
theorem inX8_init_8 : ∀ w ∈ u_ws RX8 TX8 15, w ∈ wsX8_init := by decide +kernel
theorem inX8_isClass_8 : ∀ w ∈ u_ws RX8 TX8 15, w ∈ wsX8_isClass := by decide +kernel
theorem inX8_isHandle_8 : ∀ w ∈ u_ws RX8 TX8 15, w ∈ wsX8_isHandle := by decide +kernel
theorem inX8_isMissingClass_8 : ∀ w ∈ u_ws RX8 TX8 15, w ∈ wsX8_isMissingClass := by decide +kernel
theorem inX8_isThing_8 : ∀ w ∈ u_ws RX8 TX8 15, w ∈ wsX8_isThing := by decide +kernel
theorem inX8_mayActAs_0 : ∀ w ∈ u_ws RX0 TX0 12, w ∈ wsX8_mayActAs := by decide +kernel
theorem inX8_mayHaveAbove_0 : ∀ w ∈ u_ws RX0 TX0 12, w ∈ wsX8_mayHaveAbove := by decide +kernel
theorem inX8_proxy_0 : ∀ w ∈ u_ws RX0 TX0 12, w ∈ wsX8_proxy := by decide +kernel
theorem inX8_proxy_8 : ∀ w ∈ u_ws RX8 TX8 15, w ∈ wsX8_proxy := by decide +kernel
theorem inX8_result_7 : ∀ w ∈ u_ws RX7 TX7 2, w ∈ wsX8_result := by decide +kernel
theorem inX8_result_8 : ∀ w ∈ u_ws RX8 TX8 15, w ∈ wsX8_result := by decide +kernel
theorem inX8_resultKind_7 : ∀ w ∈ u_ws RX7 TX7 2, w ∈ wsX8_resultKind := by decide +kernel
theorem inX8_resultKind_8 : ∀ w ∈ u_ws RX8 TX8 15, w ∈ wsX8_resultKind := by decide +kernel
theorem inX8_told_8 : ∀ w ∈ u_ws RX8 TX8 15, w ∈ wsX8_told := by decide +kernel
theorem inX8_type_0 : ∀ w ∈ u_ws RX0 TX0 12, w ∈ wsX8_type := by decide +kernel
theorem inX8_type_8 : ∀ w ∈ u_ws RX8 TX8 15, w ∈ wsX8_type := by decide +kernel
theorem df_X0 : ∀ j, j < 12 → defaultValue (tyX0 j) = vp_V [.int 0, .null, .int 0, .null, .int 0, .int 0, .int 0, .int 0, .int 0, .int 0, .int 0, .int 0] j := by
  intro j hj
  have h : j = 0 ∨ j = 1 ∨ j = 2 ∨ j = 3 ∨ j = 4 ∨ j = 5 ∨ j = 6 ∨ j = 7 ∨ j = 8 ∨ j = 9 ∨ j = 10 ∨ j = 11 := by omega
  rcases h with rfl | rfl | rfl | rfl | rfl | rfl | rfl | rfl | rfl | rfl | rfl | rfl <;> rfl
theorem df_X7 : ∀ j, j < 2 → defaultValue (tyX7 j) = vp_V [.int 0, .long 0] j := by
  intro j hj
  have h : j = 0 ∨ j = 1 := by omega
  rcases h with rfl | rfl <;> rfl
