set_option maxRecDepth 20000 in
theorem ggX3_init_X0_init : GoodIn wsX3_init wsX0_init := goodIn_r _ [23, 24, 2, 3, 4, 25, 26, 27, 28, 29, 30, 55, 56, 57, 58, 59, 60] (by decide +kernel) (by decide +kernel)
set_option maxRecDepth 20000 in
theorem gX3_init_X0_init_n15 : GoodIn wsX3_init (wsX0_init) := ggX3_init_X0_init
set_option maxRecDepth 20000 in
theorem ggX3_init_X1_init : GoodIn wsX3_init wsX1_init := goodIn_r _ [32, 33, 2, 3, 4, 34, 35, 36, 37, 27, 38, 39, 40, 41, 61, 62, 63, 64, 65, 66, 67, 68, 69] (by decide +kernel) (by decide +kernel)
set_option maxRecDepth 20000 in
theorem gX3_init_X1_init_n22 : GoodIn wsX3_init (wsX1_init) := ggX3_init_X1_init
set_option maxRecDepth 20000 in
theorem ggX3_init_X2_init : GoodIn wsX3_init wsX2_init := goodIn_r _ [43, 44, 2, 3, 4, 45, 27, 46, 70, 71, 72, 73] (by decide +kernel) (by decide +kernel)
set_option maxRecDepth 20000 in
theorem gX3_init_X2_init_n29 : GoodIn wsX3_init (wsX2_init) := ggX3_init_X2_init
theorem dX3_init_0 : decode cX3_init 0 = .ok (.aload_n 0, 1) := by decide +kernel
theorem dX3_init_1 : decode cX3_init 1 = .ok (.invokespecial 1, 3) := by decide +kernel
theorem dX3_init_4 : decode cX3_init 4 = .ok (.aload_n 0, 1) := by decide +kernel
theorem dX3_init_5 : decode cX3_init 5 = .ok (.sipush 300, 3) := by decide +kernel
theorem dX3_init_8 : decode cX3_init 8 = .ok (.newarray .int, 2) := by decide +kernel
theorem dX3_init_10 : decode cX3_init 10 = .ok (.putfield 9, 3) := by decide +kernel
theorem dX3_init_13 : decode cX3_init 13 = .ok (.aload_n 0, 1) := by decide +kernel
theorem dX3_init_14 : decode cX3_init 14 = .ok (.new 13, 3) := by decide +kernel
theorem dX3_init_17 : decode cX3_init 17 = .ok (.dup, 1) := by decide +kernel
theorem dX3_init_18 : decode cX3_init 18 = .ok (.invokespecial 15, 3) := by decide +kernel
theorem dX3_init_21 : decode cX3_init 21 = .ok (.putfield 16, 3) := by decide +kernel
theorem dX3_init_24 : decode cX3_init 24 = .ok (.aload_n 0, 1) := by decide +kernel
theorem dX3_init_25 : decode cX3_init 25 = .ok (.new 20, 3) := by decide +kernel
theorem dX3_init_28 : decode cX3_init 28 = .ok (.dup, 1) := by decide +kernel
theorem dX3_init_29 : decode cX3_init 29 = .ok (.invokespecial 22, 3) := by decide +kernel
theorem dX3_init_32 : decode cX3_init 32 = .ok (.putfield 23, 3) := by decide +kernel
theorem dX3_init_35 : decode cX3_init 35 = .ok (.aload_n 0, 1) := by decide +kernel
theorem dX3_init_36 : decode cX3_init 36 = .ok (.new 27, 3) := by decide +kernel
theorem dX3_init_39 : decode cX3_init 39 = .ok (.dup, 1) := by decide +kernel
theorem dX3_init_40 : decode cX3_init 40 = .ok (.invokespecial 29, 3) := by decide +kernel
theorem dX3_init_43 : decode cX3_init 43 = .ok (.putfield 30, 3) := by decide +kernel
theorem dX3_init_46 : decode cX3_init 46 = .ok (.aload_n 0, 1) := by decide +kernel
theorem dX3_init_47 : decode cX3_init 47 = .ok (.new 27, 3) := by decide +kernel
theorem dX3_init_50 : decode cX3_init 50 = .ok (.dup, 1) := by decide +kernel
theorem dX3_init_51 : decode cX3_init 51 = .ok (.invokespecial 29, 3) := by decide +kernel
theorem dX3_init_54 : decode cX3_init 54 = .ok (.putfield 34, 3) := by decide +kernel
theorem dX3_init_57 : decode cX3_init 57 = .ok (.aload_n 0, 1) := by decide +kernel
theorem dX3_init_58 : decode cX3_init 58 = .ok (.iconst 1, 1) := by decide +kernel
theorem dX3_init_59 : decode cX3_init 59 = .ok (.putfield 37, 3) := by decide +kernel
theorem dX3_init_62 : decode cX3_init 62 = .ok (.aload_n 0, 1) := by decide +kernel
theorem dX3_init_63 : decode cX3_init 63 = .ok (.sipush 4096, 3) := by decide +kernel
theorem dX3_init_66 : decode cX3_init 66 = .ok (.putfield 41, 3) := by decide +kernel
theorem dX3_init_69 : decode cX3_init 69 = .ok (.aload_n 0, 1) := by decide +kernel
theorem dX3_init_70 : decode cX3_init 70 = .ok (.iconst 1, 1) := by decide +kernel
theorem dX3_init_71 : decode cX3_init 71 = .ok (.putfield 44, 3) := by decide +kernel
theorem dX3_init_74 : decode cX3_init 74 = .ok (.return_, 1) := by decide +kernel
set_option maxRecDepth 20000 in
theorem ggX3_functions_J7_fill_53178 : GoodIn wsX3_functions wsJ7_fill_53178 := goodIn_r _ [8] (by decide +kernel) (by decide +kernel)
set_option maxRecDepth 20000 in
theorem gX3_functions_J7_fill_53178 : GoodIn wsX3_functions (va_wsS RX3 48 yJ7_fill_53178 wsJ7_fill_53178) := goodIn_app (goodIn_of _ (by decide +kernel)) ggX3_functions_J7_fill_53178
set_option maxRecDepth 20000 in
theorem ggX3_functions_X0_forgetAll : GoodIn wsX3_functions wsX0_forgetAll := goodIn_r _ [13, 14, 15, 16, 17, 7, 18, 27, 28, 29, 30, 31, 32] (by decide +kernel) (by decide +kernel)
set_option maxRecDepth 20000 in
theorem gX3_functions_X0_forgetAll : GoodIn wsX3_functions (wsV RX3 54 RX0 yX0_forgetAll wsX0_forgetAll) := goodIn_app (goodIn_of _ (by decide +kernel)) ggX3_functions_X0_forgetAll
theorem dX3_functions_0 : decode cX3_functions 0 = .ok (.iload_n 1, 1) := by decide +kernel
theorem dX3_functions_1 : decode cX3_functions 1 = .ok (.iconst 1, 1) := by decide +kernel
theorem dX3_functions_2 : decode cX3_functions 2 = .ok (.if_icmp .lt 10, 3) := by decide +kernel
theorem dX3_functions_5 : decode cX3_functions 5 = .ok (.iload_n 1, 1) := by decide +kernel
theorem dX3_functions_6 : decode cX3_functions 6 = .ok (.sipush 300, 3) := by decide +kernel
theorem dX3_functions_9 : decode cX3_functions 9 = .ok (.if_icmp .le 5, 3) := by decide +kernel
theorem dX3_functions_12 : decode cX3_functions 12 = .ok (.iconst 0, 1) := by decide +kernel
theorem dX3_functions_13 : decode cX3_functions 13 = .ok (.ireturn, 1) := by decide +kernel
theorem dX3_functions_14 : decode cX3_functions 14 = .ok (.aload_n 0, 1) := by decide +kernel
theorem dX3_functions_15 : decode cX3_functions 15 = .ok (.iload_n 1, 1) := by decide +kernel
theorem dX3_functions_16 : decode cX3_functions 16 = .ok (.putfield 37, 3) := by decide +kernel
theorem dX3_functions_19 : decode cX3_functions 19 = .ok (.aload_n 0, 1) := by decide +kernel
theorem dX3_functions_20 : decode cX3_functions 20 = .ok (.getfield 9, 3) := by decide +kernel
theorem dX3_functions_23 : decode cX3_functions 23 = .ok (.iconst 0, 1) := by decide +kernel
theorem dX3_functions_24 : decode cX3_functions 24 = .ok (.invokestatic 48, 3) := by decide +kernel
theorem dX3_functions_27 : decode cX3_functions 27 = .ok (.aload_n 0, 1) := by decide +kernel
theorem dX3_functions_28 : decode cX3_functions 28 = .ok (.getfield 16, 3) := by decide +kernel
theorem dX3_functions_31 : decode cX3_functions 31 = .ok (.invokevirtual 54, 3) := by decide +kernel
theorem dX3_functions_34 : decode cX3_functions 34 = .ok (.aload_n 0, 1) := by decide +kernel
theorem dX3_functions_35 : decode cX3_functions 35 = .ok (.iconst 1, 1) := by decide +kernel
theorem dX3_functions_36 : decode cX3_functions 36 = .ok (.putfield 44, 3) := by decide +kernel
theorem dX3_functions_39 : decode cX3_functions 39 = .ok (.iconst 1, 1) := by decide +kernel
theorem dX3_functions_40 : decode cX3_functions 40 = .ok (.ireturn, 1) := by decide +kernel
set_option maxRecDepth 20000 in
theorem ggX3_size_X3_isFunction : GoodIn wsX3_size wsX3_isFunction := goodIn_r _ [8, 9, 10, 11, 12, 13, 14, 15, 16, 17] (by decide +kernel) (by decide +kernel)
set_option maxRecDepth 20000 in
theorem gX3_size_X3_isFunction : GoodIn wsX3_size (wsV RX3 57 RX3 yX3_isFunction wsX3_isFunction) := goodIn_app (goodIn_of _ (by decide +kernel)) ggX3_size_X3_isFunction
theorem dX3_size_0 : decode cX3_size 0 = .ok (.aload_n 0, 1) := by decide +kernel
theorem dX3_size_1 : decode cX3_size 1 = .ok (.iload_n 1, 1) := by decide +kernel
theorem dX3_size_2 : decode cX3_size 2 = .ok (.invokevirtual 57, 3) := by decide +kernel
theorem dX3_size_5 : decode cX3_size 5 = .ok (.ifCond .eq 13, 3) := by decide +kernel
theorem dX3_size_8 : decode cX3_size 8 = .ok (.iload_n 2, 1) := by decide +kernel
theorem dX3_size_9 : decode cX3_size 9 = .ok (.ifCond .lt 9, 3) := by decide +kernel
theorem dX3_size_12 : decode cX3_size 12 = .ok (.iload_n 2, 1) := by decide +kernel
theorem dX3_size_13 : decode cX3_size 13 = .ok (.ldc 61, 2) := by decide +kernel
theorem dX3_size_15 : decode cX3_size 15 = .ok (.if_icmp .le 5, 3) := by decide +kernel
theorem dX3_size_18 : decode cX3_size 18 = .ok (.iconst 0, 1) := by decide +kernel
theorem dX3_size_19 : decode cX3_size 19 = .ok (.ireturn, 1) := by decide +kernel
theorem dX3_size_20 : decode cX3_size 20 = .ok (.aload_n 0, 1) := by decide +kernel
theorem dX3_size_21 : decode cX3_size 21 = .ok (.getfield 9, 3) := by decide +kernel
theorem dX3_size_24 : decode cX3_size 24 = .ok (.iload_n 1, 1) := by decide +kernel
theorem dX3_size_25 : decode cX3_size 25 = .ok (.iload_n 2, 1) := by decide +kernel
theorem dX3_size_26 : decode cX3_size 26 = .ok (.iastore, 1) := by decide +kernel
theorem dX3_size_27 : decode cX3_size 27 = .ok (.aload_n 0, 1) := by decide +kernel
theorem dX3_size_28 : decode cX3_size 28 = .ok (.iconst 1, 1) := by decide +kernel
theorem dX3_size_29 : decode cX3_size 29 = .ok (.putfield 44, 3) := by decide +kernel
theorem dX3_size_32 : decode cX3_size 32 = .ok (.iconst 1, 1) := by decide +kernel
theorem dX3_size_33 : decode cX3_size 33 = .ok (.ireturn, 1) := by decide +kernel
set_option maxRecDepth 20000 in
theorem ggX3_call_X3_isFunction : GoodIn wsX3_call wsX3_isFunction := goodIn_r _ [11, 12, 32, 33, 34, 35, 36, 37, 38, 39] (by decide +kernel) (by decide +kernel)
set_option maxRecDepth 20000 in
theorem gX3_call_X3_isFunction : GoodIn wsX3_call (wsV RX3 57 RX3 yX3_isFunction wsX3_isFunction) := goodIn_app (goodIn_of _ (by decide +kernel)) ggX3_call_X3_isFunction
set_option maxRecDepth 20000 in
theorem ggX3_call_X0_pairFor : GoodIn wsX3_call wsX0_pairFor := goodIn_r _ [17, 18, 19, 20, 21, 40, 41, 42, 43, 44, 45] (by decide +kernel) (by decide +kernel)
set_option maxRecDepth 20000 in
theorem gX3_call_X0_pairFor : GoodIn wsX3_call (wsV RX3 67 RX0 yX0_pairFor wsX0_pairFor) := goodIn_app (goodIn_of _ (by decide +kernel)) ggX3_call_X0_pairFor
set_option maxRecDepth 20000 in
theorem ggX3_call_X0_raise : GoodIn wsX3_call wsX0_raise := goodIn_r _ [25, 21, 26, 27, 28, 29, 30, 31, 20, 40, 41, 42, 43, 44, 45] (by decide +kernel) (by decide +kernel)
set_option maxRecDepth 20000 in
theorem gX3_call_X0_raise : GoodIn wsX3_call (wsV RX3 73 RX0 yX0_raise wsX0_raise) := goodIn_app (goodIn_of _ (by decide +kernel)) ggX3_call_X0_raise
theorem dX3_call_0 : decode cX3_call 0 = .ok (.aload_n 0, 1) := by decide +kernel
theorem dX3_call_1 : decode cX3_call 1 = .ok (.iload_n 1, 1) := by decide +kernel
theorem dX3_call_2 : decode cX3_call 2 = .ok (.invokevirtual 57, 3) := by decide +kernel
theorem dX3_call_5 : decode cX3_call 5 = .ok (.ifCond .eq 11, 3) := by decide +kernel
theorem dX3_call_8 : decode cX3_call 8 = .ok (.aload_n 0, 1) := by decide +kernel
theorem dX3_call_9 : decode cX3_call 9 = .ok (.iload_n 2, 1) := by decide +kernel
theorem dX3_call_10 : decode cX3_call 10 = .ok (.invokevirtual 57, 3) := by decide +kernel
theorem dX3_call_13 : decode cX3_call 13 = .ok (.ifCond .ne 7, 3) := by decide +kernel
theorem dX3_call_16 : decode cX3_call 16 = .ok (.ldc2_w 62, 3) := by decide +kernel
theorem dX3_call_19 : decode cX3_call 19 = .ok (.lreturn, 1) := by decide +kernel
theorem dX3_call_20 : decode cX3_call 20 = .ok (.iload_n 3, 1) := by decide +kernel
theorem dX3_call_21 : decode cX3_call 21 = .ok (.iconst 1, 1) := by decide +kernel
theorem dX3_call_22 : decode cX3_call 22 = .ok (.if_icmp .lt 9, 3) := by decide +kernel
theorem dX3_call_25 : decode cX3_call 25 = .ok (.iload_n 3, 1) := by decide +kernel
theorem dX3_call_26 : decode cX3_call 26 = .ok (.ldc 64, 2) := by decide +kernel
theorem dX3_call_28 : decode cX3_call 28 = .ok (.if_icmp .le 7, 3) := by decide +kernel
theorem dX3_call_31 : decode cX3_call 31 = .ok (.ldc2_w 65, 3) := by decide +kernel
theorem dX3_call_34 : decode cX3_call 34 = .ok (.lreturn, 1) := by decide +kernel
theorem dX3_call_35 : decode cX3_call 35 = .ok (.aload_n 0, 1) := by decide +kernel
theorem dX3_call_36 : decode cX3_call 36 = .ok (.getfield 16, 3) := by decide +kernel
theorem dX3_call_39 : decode cX3_call 39 = .ok (.iload_n 1, 1) := by decide +kernel
theorem dX3_call_40 : decode cX3_call 40 = .ok (.iload_n 2, 1) := by decide +kernel
theorem dX3_call_41 : decode cX3_call 41 = .ok (.invokevirtual 67, 3) := by decide +kernel
theorem dX3_call_44 : decode cX3_call 44 = .ok (.istore 4, 2) := by decide +kernel
theorem dX3_call_46 : decode cX3_call 46 = .ok (.iload 4, 2) := by decide +kernel
theorem dX3_call_48 : decode cX3_call 48 = .ok (.iconst (-1), 1) := by decide +kernel
theorem dX3_call_49 : decode cX3_call 49 = .ok (.if_icmp .ne 7, 3) := by decide +kernel
theorem dX3_call_52 : decode cX3_call 52 = .ok (.ldc2_w 71, 3) := by decide +kernel
theorem dX3_call_55 : decode cX3_call 55 = .ok (.lreturn, 1) := by decide +kernel
theorem dX3_call_56 : decode cX3_call 56 = .ok (.aload_n 0, 1) := by decide +kernel
theorem dX3_call_57 : decode cX3_call 57 = .ok (.iconst 1, 1) := by decide +kernel
theorem dX3_call_58 : decode cX3_call 58 = .ok (.putfield 44, 3) := by decide +kernel
theorem dX3_call_61 : decode cX3_call 61 = .ok (.aload_n 0, 1) := by decide +kernel
theorem dX3_call_62 : decode cX3_call 62 = .ok (.getfield 16, 3) := by decide +kernel
theorem dX3_call_65 : decode cX3_call 65 = .ok (.iload 4, 2) := by decide +kernel
theorem dX3_call_67 : decode cX3_call 67 = .ok (.iload_n 3, 1) := by decide +kernel
theorem dX3_call_68 : decode cX3_call 68 = .ok (.invokevirtual 73, 3) := by decide +kernel
theorem dX3_call_71 : decode cX3_call 71 = .ok (.lreturn, 1) := by decide +kernel
theorem dX3_page_0 : decode cX3_page 0 = .ok (.iload_n 1, 1) := by decide +kernel
theorem dX3_page_1 : decode cX3_page 1 = .ok (.iconst 1, 1) := by decide +kernel
theorem dX3_page_2 : decode cX3_page 2 = .ok (.if_icmp .lt 9, 3) := by decide +kernel
theorem dX3_page_5 : decode cX3_page 5 = .ok (.iload_n 1, 1) := by decide +kernel
theorem dX3_page_6 : decode cX3_page 6 = .ok (.ldc 77, 2) := by decide +kernel
theorem dX3_page_8 : decode cX3_page 8 = .ok (.if_icmp .le 5, 3) := by decide +kernel
theorem dX3_page_11 : decode cX3_page 11 = .ok (.iconst 0, 1) := by decide +kernel
theorem dX3_page_12 : decode cX3_page 12 = .ok (.ireturn, 1) := by decide +kernel
theorem dX3_page_13 : decode cX3_page 13 = .ok (.aload_n 0, 1) := by decide +kernel
theorem dX3_page_14 : decode cX3_page 14 = .ok (.iload_n 1, 1) := by decide +kernel
theorem dX3_page_15 : decode cX3_page 15 = .ok (.putfield 41, 3) := by decide +kernel
theorem dX3_page_18 : decode cX3_page 18 = .ok (.aload_n 0, 1) := by decide +kernel
theorem dX3_page_19 : decode cX3_page 19 = .ok (.iconst 1, 1) := by decide +kernel
theorem dX3_page_20 : decode cX3_page 20 = .ok (.putfield 44, 3) := by decide +kernel
theorem dX3_page_23 : decode cX3_page 23 = .ok (.iconst 1, 1) := by decide +kernel
theorem dX3_page_24 : decode cX3_page 24 = .ok (.ireturn, 1) := by decide +kernel
set_option maxRecDepth 20000 in
theorem ggX3_heat_X3_isFunction : GoodIn wsX3_heat wsX3_isFunction := goodIn_r _ [7, 8, 15, 16, 17, 18, 19, 20, 21, 22] (by decide +kernel) (by decide +kernel)
set_option maxRecDepth 20000 in
theorem gX3_heat_X3_isFunction : GoodIn wsX3_heat (wsV RX3 57 RX3 yX3_isFunction wsX3_isFunction) := goodIn_app (goodIn_of _ (by decide +kernel)) ggX3_heat_X3_isFunction
set_option maxRecDepth 20000 in
theorem ggX3_heat_X0_heatOf : GoodIn wsX3_heat wsX0_heatOf := goodIn_r _ [13, 14, 23, 24, 25, 26, 27, 28] (by decide +kernel) (by decide +kernel)
set_option maxRecDepth 20000 in
theorem gX3_heat_X0_heatOf : GoodIn wsX3_heat (wsV RX3 78 RX0 yX0_heatOf wsX0_heatOf) := goodIn_app (goodIn_of _ (by decide +kernel)) ggX3_heat_X0_heatOf
theorem dX3_heat_0 : decode cX3_heat 0 = .ok (.aload_n 0, 1) := by decide +kernel
theorem dX3_heat_1 : decode cX3_heat 1 = .ok (.iload_n 1, 1) := by decide +kernel
theorem dX3_heat_2 : decode cX3_heat 2 = .ok (.invokevirtual 57, 3) := by decide +kernel
theorem dX3_heat_5 : decode cX3_heat 5 = .ok (.ifCond .eq 14, 3) := by decide +kernel
theorem dX3_heat_8 : decode cX3_heat 8 = .ok (.aload_n 0, 1) := by decide +kernel
theorem dX3_heat_9 : decode cX3_heat 9 = .ok (.getfield 16, 3) := by decide +kernel
theorem dX3_heat_12 : decode cX3_heat 12 = .ok (.iload_n 1, 1) := by decide +kernel
theorem dX3_heat_13 : decode cX3_heat 13 = .ok (.invokevirtual 78, 3) := by decide +kernel
theorem dX3_heat_16 : decode cX3_heat 16 = .ok (.goto 6, 3) := by decide +kernel
theorem dX3_heat_19 : decode cX3_heat 19 = .ok (.ldc2_w 62, 3) := by decide +kernel
theorem dX3_heat_22 : decode cX3_heat 22 = .ok (.lreturn, 1) := by decide +kernel
set_option maxRecDepth 20000 in
theorem ggX3_caller_X3_hasSize : GoodIn wsX3_caller wsX3_hasSize := goodIn_r _ [6, 7, 8, 9, 10, 5, 11, 12, 115, 116, 117, 118, 119, 120, 121, 122] (by decide +kernel) (by decide +kernel)
set_option maxRecDepth 20000 in
theorem gX3_caller_X3_hasSize : GoodIn wsX3_caller (wsV RX3 82 RX3 yX3_hasSize wsX3_hasSize) := goodIn_app (goodIn_of _ (by decide +kernel)) ggX3_caller_X3_hasSize
set_option maxRecDepth 20000 in
theorem ggX3_caller_X3_refresh : GoodIn wsX3_caller wsX3_refresh := goodIn_r _ [16, 17, 1, 7, 18, 19, 20, 21, 22, 23, 24, 25, 26, 27, 28, 29, 30, 31, 32, 33, 34, 35, 36, 37, 38, 39, 40, 41, 42, 43, 44, 45, 46, 47, 48, 49, 50, 51, 52, 53, 54, 55, 56, 57, 58, 59, 60, 61, 62, 63, 64, 65, 66, 67, 68, 69, 70, 71, 72, 73, 74, 75, 76, 77, 78, 79, 80, 81, 82, 83, 84, 85, 86, 87, 88, 89, 90, 91, 92, 93, 94, 95, 96, 97, 98, 99, 100, 101, 102, 103, 104, 105, 106, 107, 108, 109, 5, 110, 111, 12, 112, 113, 115, 116, 117, 118, 119, 120, 121, 122, 123, 124, 125, 126, 127, 128, 129, 130, 131, 132, 133, 134, 135, 136, 137, 138, 139, 140, 141] (by decide +kernel) (by decide +kernel)
set_option maxRecDepth 20000 in
theorem gX3_caller_X3_refresh : GoodIn wsX3_caller (wsV RX3 85 RX3 yX3_refresh wsX3_refresh) := goodIn_app (goodIn_of _ (by decide +kernel)) ggX3_caller_X3_refresh
set_option maxRecDepth 20000 in
theorem ggX3_caller_X0_callerOf : GoodIn wsX3_caller wsX0_callerOf := goodIn_r _ [67, 26, 28, 123, 124, 125, 126, 127, 128] (by decide +kernel) (by decide +kernel)
set_option maxRecDepth 20000 in
theorem gX3_caller_X0_callerOf : GoodIn wsX3_caller (wsV RX3 88 RX0 yX0_callerOf wsX0_callerOf) := goodIn_app (goodIn_of _ (by decide +kernel)) ggX3_caller_X0_callerOf
theorem dX3_caller_0 : decode cX3_caller 0 = .ok (.aload_n 0, 1) := by decide +kernel
theorem dX3_caller_1 : decode cX3_caller 1 = .ok (.iload_n 1, 1) := by decide +kernel
theorem dX3_caller_2 : decode cX3_caller 2 = .ok (.invokevirtual 82, 3) := by decide +kernel
theorem dX3_caller_5 : decode cX3_caller 5 = .ok (.ifCond .ne 5, 3) := by decide +kernel
theorem dX3_caller_8 : decode cX3_caller 8 = .ok (.iconst (-1), 1) := by decide +kernel
theorem dX3_caller_9 : decode cX3_caller 9 = .ok (.ireturn, 1) := by decide +kernel
theorem dX3_caller_10 : decode cX3_caller 10 = .ok (.aload_n 0, 1) := by decide +kernel
theorem dX3_caller_11 : decode cX3_caller 11 = .ok (.invokevirtual 85, 3) := by decide +kernel
theorem dX3_caller_14 : decode cX3_caller 14 = .ok (.aload_n 0, 1) := by decide +kernel
theorem dX3_caller_15 : decode cX3_caller 15 = .ok (.getfield 16, 3) := by decide +kernel
theorem dX3_caller_18 : decode cX3_caller 18 = .ok (.iload_n 1, 1) := by decide +kernel
theorem dX3_caller_19 : decode cX3_caller 19 = .ok (.invokevirtual 88, 3) := by decide +kernel
theorem dX3_caller_22 : decode cX3_caller 22 = .ok (.ireturn, 1) := by decide +kernel
set_option maxRecDepth 20000 in
theorem ggX3_length_X3_refresh : GoodIn wsX3_length wsX3_refresh := goodIn_r _ [6, 7, 8, 9, 10, 11, 1, 12, 13, 14, 15, 16, 17, 18, 19, 20, 21, 22, 23, 24, 25, 26, 27, 28, 29, 30, 31, 32, 33, 34, 35, 36, 37, 38, 39, 40, 41, 42, 43, 44, 45, 46, 47, 48, 49, 50, 51, 52, 53, 54, 55, 56, 57, 58, 59, 60, 61, 62, 63, 64, 65, 66, 67, 68, 69, 70, 71, 72, 73, 74, 75, 76, 77, 78, 79, 80, 81, 82, 83, 84, 85, 86, 87, 88, 89, 90, 91, 92, 93, 94, 95, 96, 97, 98, 99, 100, 5, 101, 102, 103, 104, 105, 110, 111, 112, 113, 114, 115, 116, 117, 118, 119, 120, 121, 122, 123, 124, 125, 126, 127, 128, 129, 130, 131, 132, 133, 134, 135, 136] (by decide +kernel) (by decide +kernel)
set_option maxRecDepth 20000 in
theorem gX3_length_X3_refresh : GoodIn wsX3_length (wsV RX3 85 RX3 yX3_refresh wsX3_refresh) := goodIn_app (goodIn_of _ (by decide +kernel)) ggX3_length_X3_refresh
set_option maxRecDepth 20000 in
theorem ggX3_length_X2_memberCount : GoodIn wsX3_length wsX2_memberCount := goodIn_r _ [109, 86, 133, 134, 135, 136] (by decide +kernel) (by decide +kernel)
set_option maxRecDepth 20000 in
theorem gX3_length_X2_memberCount : GoodIn wsX3_length (wsV RX3 92 RX2 yX2_memberCount wsX2_memberCount) := goodIn_app (goodIn_of _ (by decide +kernel)) ggX3_length_X2_memberCount
theorem dX3_length_0 : decode cX3_length 0 = .ok (.aload_n 0, 1) := by decide +kernel
theorem dX3_length_1 : decode cX3_length 1 = .ok (.invokevirtual 85, 3) := by decide +kernel
theorem dX3_length_4 : decode cX3_length 4 = .ok (.aload_n 0, 1) := by decide +kernel
theorem dX3_length_5 : decode cX3_length 5 = .ok (.getfield 30, 3) := by decide +kernel
theorem dX3_length_8 : decode cX3_length 8 = .ok (.invokevirtual 92, 3) := by decide +kernel
theorem dX3_length_11 : decode cX3_length 11 = .ok (.ireturn, 1) := by decide +kernel
set_option maxRecDepth 20000 in
theorem ggX3_row_X3_refresh : GoodIn wsX3_row wsX3_refresh := goodIn_r _ [6, 7, 8, 9, 10, 11, 1, 12, 13, 14, 15, 16, 17, 18, 19, 20, 21, 22, 23, 24, 25, 26, 27, 28, 29, 30, 31, 32, 33, 34, 35, 36, 37, 38, 39, 40, 41, 42, 43, 44, 45, 46, 47, 48, 49, 50, 51, 52, 53, 54, 55, 56, 57, 58, 59, 60, 61, 62, 63, 64, 65, 66, 67, 68, 69, 70, 71, 72, 73, 74, 75, 76, 77, 78, 79, 80, 81, 82, 83, 84, 85, 86, 87, 88, 89, 90, 91, 92, 93, 94, 95, 96, 97, 98, 99, 100, 5, 101, 102, 103, 104, 105, 110, 111, 112, 113, 114, 115, 116, 117, 118, 119, 120, 121, 122, 123, 124, 125, 126, 127, 128, 129, 130, 131, 132, 133, 134, 135, 136] (by decide +kernel) (by decide +kernel)
set_option maxRecDepth 20000 in
theorem gX3_row_X3_refresh : GoodIn wsX3_row (wsV RX3 85 RX3 yX3_refresh wsX3_refresh) := goodIn_app (goodIn_of _ (by decide +kernel)) ggX3_row_X3_refresh
set_option maxRecDepth 20000 in
theorem ggX3_row_X2_memberAt : GoodIn wsX3_row wsX2_memberAt := goodIn_r _ [109, 86, 97, 133, 134, 135, 136] (by decide +kernel) (by decide +kernel)
set_option maxRecDepth 20000 in
theorem gX3_row_X2_memberAt : GoodIn wsX3_row (wsV RX3 96 RX2 yX2_memberAt wsX2_memberAt) := goodIn_app (goodIn_of _ (by decide +kernel)) ggX3_row_X2_memberAt
theorem dX3_row_0 : decode cX3_row 0 = .ok (.aload_n 0, 1) := by decide +kernel
theorem dX3_row_1 : decode cX3_row 1 = .ok (.invokevirtual 85, 3) := by decide +kernel
theorem dX3_row_4 : decode cX3_row 4 = .ok (.aload_n 0, 1) := by decide +kernel
theorem dX3_row_5 : decode cX3_row 5 = .ok (.getfield 30, 3) := by decide +kernel
theorem dX3_row_8 : decode cX3_row 8 = .ok (.iload_n 1, 1) := by decide +kernel
theorem dX3_row_9 : decode cX3_row 9 = .ok (.invokevirtual 96, 3) := by decide +kernel
theorem dX3_row_12 : decode cX3_row 12 = .ok (.ireturn, 1) := by decide +kernel
set_option maxRecDepth 20000 in
theorem ggX3_begin_X3_hasSize : GoodIn wsX3_begin wsX3_hasSize := goodIn_r _ [7, 8, 9, 10, 11, 6, 12, 13, 119, 120, 121, 122, 123, 124, 125, 126] (by decide +kernel) (by decide +kernel)
set_option maxRecDepth 20000 in
theorem gX3_begin_X3_hasSize : GoodIn wsX3_begin (wsV RX3 82 RX3 yX3_hasSize wsX3_hasSize) := goodIn_app (goodIn_of _ (by decide +kernel)) ggX3_begin_X3_hasSize
set_option maxRecDepth 20000 in
theorem ggX3_begin_X3_refresh : GoodIn wsX3_begin wsX3_refresh := goodIn_r _ [17, 18, 19, 8, 20, 21, 2, 22, 23, 24, 25, 26, 27, 28, 29, 30, 31, 32, 33, 34, 35, 36, 37, 38, 39, 40, 41, 42, 43, 44, 45, 46, 47, 48, 49, 50, 51, 52, 53, 54, 55, 56, 57, 58, 59, 60, 61, 62, 63, 64, 65, 66, 67, 68, 69, 70, 71, 72, 73, 74, 75, 76, 77, 78, 79, 80, 81, 82, 83, 84, 85, 86, 87, 88, 89, 90, 91, 92, 93, 94, 95, 96, 97, 98, 99, 100, 101, 102, 103, 104, 105, 106, 107, 108, 109, 110, 6, 111, 112, 13, 113, 114, 119, 120, 121, 122, 123, 124, 125, 126, 127, 128, 129, 130, 131, 132, 133, 134, 135, 136, 137, 138, 139, 140, 141, 142, 143, 144, 145] (by decide +kernel) (by decide +kernel)
set_option maxRecDepth 20000 in
theorem gX3_begin_X3_refresh : GoodIn wsX3_begin (wsV RX3 85 RX3 yX3_refresh wsX3_refresh) := goodIn_app (goodIn_of _ (by decide +kernel)) ggX3_begin_X3_refresh
set_option maxRecDepth 20000 in
theorem ggX3_begin_X2_beginOf : GoodIn wsX3_begin wsX2_beginOf := goodIn_r _ [118, 98, 142, 143, 144, 145] (by decide +kernel) (by decide +kernel)
set_option maxRecDepth 20000 in
theorem gX3_begin_X2_beginOf : GoodIn wsX3_begin (wsV RX3 99 RX2 yX2_beginOf wsX2_beginOf) := goodIn_app (goodIn_of _ (by decide +kernel)) ggX3_begin_X2_beginOf
theorem dX3_begin_0 : decode cX3_begin 0 = .ok (.aload_n 0, 1) := by decide +kernel
theorem dX3_begin_1 : decode cX3_begin 1 = .ok (.iload_n 1, 1) := by decide +kernel
theorem dX3_begin_2 : decode cX3_begin 2 = .ok (.invokevirtual 82, 3) := by decide +kernel
theorem dX3_begin_5 : decode cX3_begin 5 = .ok (.ifCond .ne 7, 3) := by decide +kernel
theorem dX3_begin_8 : decode cX3_begin 8 = .ok (.ldc2_w 62, 3) := by decide +kernel
theorem dX3_begin_11 : decode cX3_begin 11 = .ok (.lreturn, 1) := by decide +kernel
theorem dX3_begin_12 : decode cX3_begin 12 = .ok (.aload_n 0, 1) := by decide +kernel
theorem dX3_begin_13 : decode cX3_begin 13 = .ok (.invokevirtual 85, 3) := by decide +kernel
theorem dX3_begin_16 : decode cX3_begin 16 = .ok (.aload_n 0, 1) := by decide +kernel
theorem dX3_begin_17 : decode cX3_begin 17 = .ok (.getfield 30, 3) := by decide +kernel
theorem dX3_begin_20 : decode cX3_begin 20 = .ok (.iload_n 1, 1) := by decide +kernel
theorem dX3_begin_21 : decode cX3_begin 21 = .ok (.invokevirtual 99, 3) := by decide +kernel
theorem dX3_begin_24 : decode cX3_begin 24 = .ok (.lreturn, 1) := by decide +kernel
set_option maxRecDepth 20000 in
theorem ggX3_clusters_X3_refresh : GoodIn wsX3_clusters wsX3_refresh := goodIn_r _ [6, 7, 8, 9, 1, 10, 11, 12, 13, 14, 15, 16, 17, 18, 19, 20, 21, 22, 23, 24, 25, 26, 27, 28, 29, 30, 31, 32, 33, 34, 35, 36, 37, 38, 39, 40, 41, 42, 43, 44, 45, 46, 47, 48, 49, 50, 51, 52, 53, 54, 55, 56, 57, 58, 59, 60, 61, 62, 63, 64, 65, 66, 67, 68, 69, 70, 71, 72, 73, 74, 75, 76, 77, 78, 79, 80, 81, 82, 83, 84, 85, 86, 87, 88, 89, 90, 91, 92, 93, 94, 95, 96, 97, 98, 99, 100, 5, 101, 102, 103, 104, 105, 110, 111, 112, 113, 114, 115, 116, 117, 118, 119, 120, 121, 122, 123, 124, 125, 126, 127, 128, 129, 130, 131, 132, 133, 134, 135, 136] (by decide +kernel) (by decide +kernel)
set_option maxRecDepth 20000 in
theorem gX3_clusters_X3_refresh : GoodIn wsX3_clusters (wsV RX3 85 RX3 yX3_refresh wsX3_refresh) := goodIn_app (goodIn_of _ (by decide +kernel)) ggX3_clusters_X3_refresh
set_option maxRecDepth 20000 in
theorem ggX3_clusters_X1_clusterCount : GoodIn wsX3_clusters wsX1_clusterCount := goodIn_r _ [109, 71, 124, 125, 126, 127, 128, 129, 130, 131, 132] (by decide +kernel) (by decide +kernel)
set_option maxRecDepth 20000 in
theorem gX3_clusters_X1_clusterCount : GoodIn wsX3_clusters (wsV RX3 102 RX1 yX1_clusterCount wsX1_clusterCount) := goodIn_app (goodIn_of _ (by decide +kernel)) ggX3_clusters_X1_clusterCount
theorem dX3_clusters_0 : decode cX3_clusters 0 = .ok (.aload_n 0, 1) := by decide +kernel
theorem dX3_clusters_1 : decode cX3_clusters 1 = .ok (.invokevirtual 85, 3) := by decide +kernel
theorem dX3_clusters_4 : decode cX3_clusters 4 = .ok (.aload_n 0, 1) := by decide +kernel
theorem dX3_clusters_5 : decode cX3_clusters 5 = .ok (.getfield 23, 3) := by decide +kernel
theorem dX3_clusters_8 : decode cX3_clusters 8 = .ok (.invokevirtual 102, 3) := by decide +kernel
theorem dX3_clusters_11 : decode cX3_clusters 11 = .ok (.ireturn, 1) := by decide +kernel
set_option maxRecDepth 20000 in
theorem ggX3_cluster_X3_hasSize : GoodIn wsX3_cluster wsX3_hasSize := goodIn_r _ [6, 7, 8, 9, 10, 5, 11, 12, 118, 119, 120, 121, 122, 123, 124, 125] (by decide +kernel) (by decide +kernel)
set_option maxRecDepth 20000 in
theorem gX3_cluster_X3_hasSize : GoodIn wsX3_cluster (wsV RX3 82 RX3 yX3_hasSize wsX3_hasSize) := goodIn_app (goodIn_of _ (by decide +kernel)) ggX3_cluster_X3_hasSize
set_option maxRecDepth 20000 in
theorem ggX3_cluster_X3_refresh : GoodIn wsX3_cluster wsX3_refresh := goodIn_r _ [16, 17, 18, 7, 1, 19, 20, 21, 22, 23, 24, 25, 26, 27, 28, 29, 30, 31, 32, 33, 34, 35, 36, 37, 38, 39, 40, 41, 42, 43, 44, 45, 46, 47, 48, 49, 50, 51, 52, 53, 54, 55, 56, 57, 58, 59, 60, 61, 62, 63, 64, 65, 66, 67, 68, 69, 70, 71, 72, 73, 74, 75, 76, 77, 78, 79, 80, 81, 82, 83, 84, 85, 86, 87, 88, 89, 90, 91, 92, 93, 94, 95, 96, 97, 98, 99, 100, 101, 102, 103, 104, 105, 106, 107, 108, 109, 5, 110, 111, 12, 112, 113, 118, 119, 120, 121, 122, 123, 124, 125, 126, 127, 128, 129, 130, 131, 132, 133, 134, 135, 136, 137, 138, 139, 140, 141, 142, 143, 144] (by decide +kernel) (by decide +kernel)
set_option maxRecDepth 20000 in
theorem gX3_cluster_X3_refresh : GoodIn wsX3_cluster (wsV RX3 85 RX3 yX3_refresh wsX3_refresh) := goodIn_app (goodIn_of _ (by decide +kernel)) ggX3_cluster_X3_refresh
set_option maxRecDepth 20000 in
theorem ggX3_cluster_X1_firstOf : GoodIn wsX3_cluster wsX1_firstOf := goodIn_r _ [117, 44, 132, 133, 134, 135, 136, 137, 138, 139, 140] (by decide +kernel) (by decide +kernel)
set_option maxRecDepth 20000 in
theorem gX3_cluster_X1_firstOf : GoodIn wsX3_cluster (wsV RX3 105 RX1 yX1_firstOf wsX1_firstOf) := goodIn_app (goodIn_of _ (by decide +kernel)) ggX3_cluster_X1_firstOf
theorem dX3_cluster_0 : decode cX3_cluster 0 = .ok (.aload_n 0, 1) := by decide +kernel
theorem dX3_cluster_1 : decode cX3_cluster 1 = .ok (.iload_n 1, 1) := by decide +kernel
theorem dX3_cluster_2 : decode cX3_cluster 2 = .ok (.invokevirtual 82, 3) := by decide +kernel
theorem dX3_cluster_5 : decode cX3_cluster 5 = .ok (.ifCond .ne 5, 3) := by decide +kernel
theorem dX3_cluster_8 : decode cX3_cluster 8 = .ok (.iconst (-1), 1) := by decide +kernel
theorem dX3_cluster_9 : decode cX3_cluster 9 = .ok (.ireturn, 1) := by decide +kernel
theorem dX3_cluster_10 : decode cX3_cluster 10 = .ok (.aload_n 0, 1) := by decide +kernel
theorem dX3_cluster_11 : decode cX3_cluster 11 = .ok (.invokevirtual 85, 3) := by decide +kernel
theorem dX3_cluster_14 : decode cX3_cluster 14 = .ok (.aload_n 0, 1) := by decide +kernel
theorem dX3_cluster_15 : decode cX3_cluster 15 = .ok (.getfield 23, 3) := by decide +kernel
theorem dX3_cluster_18 : decode cX3_cluster 18 = .ok (.iload_n 1, 1) := by decide +kernel
theorem dX3_cluster_19 : decode cX3_cluster 19 = .ok (.invokevirtual 105, 3) := by decide +kernel
theorem dX3_cluster_22 : decode cX3_cluster 22 = .ok (.ireturn, 1) := by decide +kernel
set_option maxRecDepth 20000 in
theorem ggX3_cost_X3_refresh : GoodIn wsX3_cost wsX3_refresh := goodIn_r _ [9, 10, 1, 11, 12, 13, 2, 14, 15, 16, 17, 18, 19, 20, 21, 22, 23, 24, 25, 26, 27, 28, 29, 30, 31, 32, 33, 34, 35, 36, 37, 38, 39, 40, 41, 42, 43, 44, 45, 46, 47, 48, 49, 50, 51, 52, 53, 54, 55, 56, 57, 58, 59, 60, 61, 62, 63, 64, 65, 66, 67, 68, 69, 70, 71, 72, 73, 74, 75, 76, 77, 78, 79, 80, 81, 82, 83, 84, 85, 86, 87, 88, 89, 90, 91, 92, 93, 94, 95, 96, 97, 98, 99, 100, 101, 102, 8, 103, 3, 104, 105, 106, 119, 120, 121, 122, 123, 124, 125, 126, 127, 128, 129, 130, 131, 132, 133, 134, 135, 136, 137, 138, 139, 140, 141, 142, 143, 144, 145] (by decide +kernel) (by decide +kernel)
set_option maxRecDepth 20000 in
theorem gX3_cost_X3_refresh : GoodIn wsX3_cost (wsV RX3 85 RX3 yX3_refresh wsX3_refresh) := goodIn_app (goodIn_of _ (by decide +kernel)) ggX3_cost_X3_refresh
set_option maxRecDepth 20000 in
theorem ggX3_cost_X0_costIn : GoodIn wsX3_cost wsX0_costIn := goodIn_r _ [110, 20, 21, 22, 111, 31, 112, 113, 67, 114, 115, 116, 117, 86, 118, 90, 127, 128, 129, 130, 131, 132, 142, 143, 144, 145] (by decide +kernel) (by decide +kernel)
set_option maxRecDepth 20000 in
theorem gX3_cost_X0_costIn : GoodIn wsX3_cost (wsV RX3 108 RX0 yX0_costIn wsX0_costIn) := goodIn_app (goodIn_of _ (by decide +kernel)) ggX3_cost_X0_costIn
theorem dX3_cost_0 : decode cX3_cost 0 = .ok (.iload_n 1, 1) := by decide +kernel
theorem dX3_cost_1 : decode cX3_cost 1 = .ok (.lookupswitch 59 #[(0, 27), (1, 43)], 27) := by decide +kernel
theorem dX3_cost_28 : decode cX3_cost 28 = .ok (.aload_n 0, 1) := by decide +kernel
theorem dX3_cost_29 : decode cX3_cost 29 = .ok (.invokevirtual 85, 3) := by decide +kernel
theorem dX3_cost_32 : decode cX3_cost 32 = .ok (.aload_n 0, 1) := by decide +kernel
theorem dX3_cost_33 : decode cX3_cost 33 = .ok (.getfield 16, 3) := by decide +kernel
theorem dX3_cost_36 : decode cX3_cost 36 = .ok (.aload_n 0, 1) := by decide +kernel
theorem dX3_cost_37 : decode cX3_cost 37 = .ok (.getfield 30, 3) := by decide +kernel
theorem dX3_cost_40 : decode cX3_cost 40 = .ok (.invokevirtual 108, 3) := by decide +kernel
theorem dX3_cost_43 : decode cX3_cost 43 = .ok (.lreturn, 1) := by decide +kernel
theorem dX3_cost_44 : decode cX3_cost 44 = .ok (.aload_n 0, 1) := by decide +kernel
theorem dX3_cost_45 : decode cX3_cost 45 = .ok (.invokevirtual 85, 3) := by decide +kernel
theorem dX3_cost_48 : decode cX3_cost 48 = .ok (.aload_n 0, 1) := by decide +kernel
theorem dX3_cost_49 : decode cX3_cost 49 = .ok (.getfield 16, 3) := by decide +kernel
theorem dX3_cost_52 : decode cX3_cost 52 = .ok (.aload_n 0, 1) := by decide +kernel
theorem dX3_cost_53 : decode cX3_cost 53 = .ok (.getfield 34, 3) := by decide +kernel
theorem dX3_cost_56 : decode cX3_cost 56 = .ok (.invokevirtual 108, 3) := by decide +kernel
theorem dX3_cost_59 : decode cX3_cost 59 = .ok (.lreturn, 1) := by decide +kernel
theorem dX3_cost_60 : decode cX3_cost 60 = .ok (.ldc2_w 62, 3) := by decide +kernel
theorem dX3_cost_63 : decode cX3_cost 63 = .ok (.lreturn, 1) := by decide +kernel
theorem dX3_isFunction_0 : decode cX3_isFunction 0 = .ok (.iload_n 1, 1) := by decide +kernel
theorem dX3_isFunction_1 : decode cX3_isFunction 1 = .ok (.ifCond .lt 15, 3) := by decide +kernel
theorem dX3_isFunction_4 : decode cX3_isFunction 4 = .ok (.iload_n 1, 1) := by decide +kernel
theorem dX3_isFunction_5 : decode cX3_isFunction 5 = .ok (.aload_n 0, 1) := by decide +kernel
theorem dX3_isFunction_6 : decode cX3_isFunction 6 = .ok (.getfield 37, 3) := by decide +kernel
theorem dX3_isFunction_9 : decode cX3_isFunction 9 = .ok (.if_icmp .ge 7, 3) := by decide +kernel
theorem dX3_isFunction_12 : decode cX3_isFunction 12 = .ok (.iconst 1, 1) := by decide +kernel
theorem dX3_isFunction_13 : decode cX3_isFunction 13 = .ok (.goto 4, 3) := by decide +kernel
theorem dX3_isFunction_16 : decode cX3_isFunction 16 = .ok (.iconst 0, 1) := by decide +kernel
theorem dX3_isFunction_17 : decode cX3_isFunction 17 = .ok (.ireturn, 1) := by decide +kernel
set_option maxRecDepth 20000 in
theorem ggX3_hasSize_X3_isFunction : GoodIn wsX3_hasSize wsX3_isFunction := goodIn_r _ [6, 7, 8, 9, 10, 11, 12, 13, 14, 15] (by decide +kernel) (by decide +kernel)
set_option maxRecDepth 20000 in
theorem gX3_hasSize_X3_isFunction : GoodIn wsX3_hasSize (wsV RX3 57 RX3 yX3_isFunction wsX3_isFunction) := goodIn_app (goodIn_of _ (by decide +kernel)) ggX3_hasSize_X3_isFunction
theorem dX3_hasSize_0 : decode cX3_hasSize 0 = .ok (.aload_n 0, 1) := by decide +kernel
theorem dX3_hasSize_1 : decode cX3_hasSize 1 = .ok (.iload_n 1, 1) := by decide +kernel
theorem dX3_hasSize_2 : decode cX3_hasSize 2 = .ok (.invokevirtual 57, 3) := by decide +kernel
theorem dX3_hasSize_5 : decode cX3_hasSize 5 = .ok (.ifCond .eq 16, 3) := by decide +kernel
theorem dX3_hasSize_8 : decode cX3_hasSize 8 = .ok (.aload_n 0, 1) := by decide +kernel
theorem dX3_hasSize_9 : decode cX3_hasSize 9 = .ok (.getfield 9, 3) := by decide +kernel
theorem dX3_hasSize_12 : decode cX3_hasSize 12 = .ok (.iload_n 1, 1) := by decide +kernel
theorem dX3_hasSize_13 : decode cX3_hasSize 13 = .ok (.iaload, 1) := by decide +kernel
theorem dX3_hasSize_14 : decode cX3_hasSize 14 = .ok (.ifCond .le 7, 3) := by decide +kernel
theorem dX3_hasSize_17 : decode cX3_hasSize 17 = .ok (.iconst 1, 1) := by decide +kernel
theorem dX3_hasSize_18 : decode cX3_hasSize 18 = .ok (.goto 4, 3) := by decide +kernel
theorem dX3_hasSize_21 : decode cX3_hasSize 21 = .ok (.iconst 0, 1) := by decide +kernel
theorem dX3_hasSize_22 : decode cX3_hasSize 22 = .ok (.ireturn, 1) := by decide +kernel
set_option maxRecDepth 20000 in
theorem ggX3_refresh_X0_findCallers : GoodIn wsX3_refresh wsX0_findCallers := goodIn_r _ [11, 12, 13, 14, 15, 16, 17, 18, 19, 20, 21, 22, 10, 23, 24, 110, 111, 112, 113, 114, 115] (by decide +kernel) (by decide +kernel)
set_option maxRecDepth 20000 in
theorem gX3_refresh_X0_findCallers : GoodIn wsX3_refresh (wsV RX3 112 RX0 yX0_findCallers wsX0_findCallers) := goodIn_app (goodIn_of _ (by decide +kernel)) ggX3_refresh_X0_findCallers
set_option maxRecDepth 20000 in
theorem ggX3_refresh_X1_build : GoodIn wsX3_refresh wsX1_build := goodIn_r _ [29, 30, 31, 32, 33, 34, 35, 28, 36, 37, 38, 39, 40, 41, 42, 43, 10, 44, 45, 46, 47, 48, 49, 50, 51, 52, 53, 12, 14, 54, 55, 56, 57, 58, 59, 60, 61, 62, 63, 64, 65, 66, 67, 68, 69, 70, 71, 116, 117, 118, 119, 120, 121, 122, 123, 124, 110, 111, 112, 113, 114, 115] (by decide +kernel) (by decide +kernel)
set_option maxRecDepth 20000 in
theorem gX3_refresh_X1_build : GoodIn wsX3_refresh (wsV RX3 116 RX1 yX1_build wsX1_build) := goodIn_app (goodIn_of _ (by decide +kernel)) ggX3_refresh_X1_build
set_option maxRecDepth 20000 in
theorem ggX3_refresh_X1_writeTo : GoodIn wsX3_refresh wsX1_writeTo := goodIn_r _ [75, 66, 67, 37, 76, 77, 78, 79, 80, 81, 82, 83, 84, 85, 86, 18, 87, 88, 89, 90, 91, 92, 116, 117, 118, 119, 120, 121, 122, 123, 124, 125, 126, 127, 128] (by decide +kernel) (by decide +kernel)
set_option maxRecDepth 20000 in
theorem gX3_refresh_X1_writeTo : GoodIn wsX3_refresh (wsV RX3 120 RX1 yX1_writeTo wsX1_writeTo) := goodIn_app (goodIn_of _ (by decide +kernel)) ggX3_refresh_X1_writeTo
set_option maxRecDepth 20000 in
theorem ggX3_refresh_X3_writeByNumber : GoodIn wsX3_refresh wsX3_writeByNumber := goodIn_r _ [97, 98, 99, 3, 100, 77, 78, 79, 80, 81, 82, 83, 84, 85, 86, 18, 87, 101, 89, 90, 91, 92, 102, 103, 104, 105, 106, 107, 108, 109, 125, 126, 127, 128] (by decide +kernel) (by decide +kernel)
set_option maxRecDepth 20000 in
theorem gX3_refresh_X3_writeByNumber : GoodIn wsX3_refresh (wsV RX3 124 RX3 yX3_writeByNumber wsX3_writeByNumber) := goodIn_app (goodIn_of _ (by decide +kernel)) ggX3_refresh_X3_writeByNumber
theorem dX3_refresh_0 : decode cX3_refresh 0 = .ok (.aload_n 0, 1) := by decide +kernel
theorem dX3_refresh_1 : decode cX3_refresh 1 = .ok (.getfield 44, 3) := by decide +kernel
theorem dX3_refresh_4 : decode cX3_refresh 4 = .ok (.ifCond .ne 4, 3) := by decide +kernel
theorem dX3_refresh_7 : decode cX3_refresh 7 = .ok (.return_, 1) := by decide +kernel
theorem dX3_refresh_8 : decode cX3_refresh 8 = .ok (.aload_n 0, 1) := by decide +kernel
theorem dX3_refresh_9 : decode cX3_refresh 9 = .ok (.getfield 16, 3) := by decide +kernel
theorem dX3_refresh_12 : decode cX3_refresh 12 = .ok (.aload_n 0, 1) := by decide +kernel
theorem dX3_refresh_13 : decode cX3_refresh 13 = .ok (.getfield 9, 3) := by decide +kernel
theorem dX3_refresh_16 : decode cX3_refresh 16 = .ok (.invokevirtual 112, 3) := by decide +kernel
theorem dX3_refresh_19 : decode cX3_refresh 19 = .ok (.aload_n 0, 1) := by decide +kernel
theorem dX3_refresh_20 : decode cX3_refresh 20 = .ok (.getfield 23, 3) := by decide +kernel
theorem dX3_refresh_23 : decode cX3_refresh 23 = .ok (.aload_n 0, 1) := by decide +kernel
theorem dX3_refresh_24 : decode cX3_refresh 24 = .ok (.getfield 9, 3) := by decide +kernel
theorem dX3_refresh_27 : decode cX3_refresh 27 = .ok (.aload_n 0, 1) := by decide +kernel
theorem dX3_refresh_28 : decode cX3_refresh 28 = .ok (.getfield 16, 3) := by decide +kernel
theorem dX3_refresh_31 : decode cX3_refresh 31 = .ok (.aload_n 0, 1) := by decide +kernel
theorem dX3_refresh_32 : decode cX3_refresh 32 = .ok (.getfield 41, 3) := by decide +kernel
theorem dX3_refresh_35 : decode cX3_refresh 35 = .ok (.invokevirtual 116, 3) := by decide +kernel
theorem dX3_refresh_38 : decode cX3_refresh 38 = .ok (.aload_n 0, 1) := by decide +kernel
theorem dX3_refresh_39 : decode cX3_refresh 39 = .ok (.getfield 23, 3) := by decide +kernel
theorem dX3_refresh_42 : decode cX3_refresh 42 = .ok (.aload_n 0, 1) := by decide +kernel
theorem dX3_refresh_43 : decode cX3_refresh 43 = .ok (.getfield 30, 3) := by decide +kernel
theorem dX3_refresh_46 : decode cX3_refresh 46 = .ok (.aload_n 0, 1) := by decide +kernel
theorem dX3_refresh_47 : decode cX3_refresh 47 = .ok (.getfield 9, 3) := by decide +kernel
theorem dX3_refresh_50 : decode cX3_refresh 50 = .ok (.invokevirtual 120, 3) := by decide +kernel
theorem dX3_refresh_53 : decode cX3_refresh 53 = .ok (.aload_n 0, 1) := by decide +kernel
theorem dX3_refresh_54 : decode cX3_refresh 54 = .ok (.invokevirtual 124, 3) := by decide +kernel
theorem dX3_refresh_57 : decode cX3_refresh 57 = .ok (.aload_n 0, 1) := by decide +kernel
theorem dX3_refresh_58 : decode cX3_refresh 58 = .ok (.iconst 0, 1) := by decide +kernel
theorem dX3_refresh_59 : decode cX3_refresh 59 = .ok (.putfield 44, 3) := by decide +kernel
theorem dX3_refresh_62 : decode cX3_refresh 62 = .ok (.return_, 1) := by decide +kernel
set_option maxRecDepth 20000 in
theorem ggX3_writeByNumber_X2_empty : GoodIn wsX3_writeByNumber wsX2_empty := goodIn_r _ [8, 9, 10, 11, 12, 13, 14, 15, 16, 30, 31, 32, 33] (by decide +kernel) (by decide +kernel)
set_option maxRecDepth 20000 in
theorem gX3_writeByNumber_X2_empty : GoodIn wsX3_writeByNumber (wsV RX3 127 RX2 yX2_empty wsX2_empty) := goodIn_app (goodIn_of _ (by decide +kernel)) ggX3_writeByNumber_X2_empty
set_option maxRecDepth 20000 in
theorem ggX3_writeByNumber_X2_append : GoodIn wsX3_writeByNumber wsX2_append := goodIn_r _ [20, 9, 21, 11, 10, 30, 31, 32, 33] (by decide +kernel) (by decide +kernel)
set_option maxRecDepth 20000 in
theorem gX3_writeByNumber_X2_append : GoodIn wsX3_writeByNumber (wsV RX3 130 RX2 yX2_append wsX2_append) := goodIn_app (goodIn_of _ (by decide +kernel)) ggX3_writeByNumber_X2_append
theorem dX3_writeByNumber_0 : decode cX3_writeByNumber 0 = .ok (.aload_n 0, 1) := by decide +kernel
theorem dX3_writeByNumber_1 : decode cX3_writeByNumber 1 = .ok (.getfield 34, 3) := by decide +kernel
theorem dX3_writeByNumber_4 : decode cX3_writeByNumber 4 = .ok (.invokevirtual 127, 3) := by decide +kernel
theorem dX3_writeByNumber_7 : decode cX3_writeByNumber 7 = .ok (.iconst 0, 1) := by decide +kernel
theorem dX3_writeByNumber_8 : decode cX3_writeByNumber 8 = .ok (.istore_n 1, 1) := by decide +kernel
theorem dX3_writeByNumber_9 : decode cX3_writeByNumber 9 = .ok (.iload_n 1, 1) := by decide +kernel
theorem dX3_writeByNumber_10 : decode cX3_writeByNumber 10 = .ok (.aload_n 0, 1) := by decide +kernel
theorem dX3_writeByNumber_11 : decode cX3_writeByNumber 11 = .ok (.getfield 37, 3) := by decide +kernel
theorem dX3_writeByNumber_14 : decode cX3_writeByNumber 14 = .ok (.if_icmp .ge 32, 3) := by decide +kernel
theorem dX3_writeByNumber_17 : decode cX3_writeByNumber 17 = .ok (.aload_n 0, 1) := by decide +kernel
theorem dX3_writeByNumber_18 : decode cX3_writeByNumber 18 = .ok (.getfield 9, 3) := by decide +kernel
theorem dX3_writeByNumber_21 : decode cX3_writeByNumber 21 = .ok (.iload_n 1, 1) := by decide +kernel
theorem dX3_writeByNumber_22 : decode cX3_writeByNumber 22 = .ok (.iaload, 1) := by decide +kernel
theorem dX3_writeByNumber_23 : decode cX3_writeByNumber 23 = .ok (.ifCond .le 17, 3) := by decide +kernel
theorem dX3_writeByNumber_26 : decode cX3_writeByNumber 26 = .ok (.aload_n 0, 1) := by decide +kernel
theorem dX3_writeByNumber_27 : decode cX3_writeByNumber 27 = .ok (.getfield 34, 3) := by decide +kernel
theorem dX3_writeByNumber_30 : decode cX3_writeByNumber 30 = .ok (.iload_n 1, 1) := by decide +kernel
theorem dX3_writeByNumber_31 : decode cX3_writeByNumber 31 = .ok (.aload_n 0, 1) := by decide +kernel
theorem dX3_writeByNumber_32 : decode cX3_writeByNumber 32 = .ok (.getfield 9, 3) := by decide +kernel
theorem dX3_writeByNumber_35 : decode cX3_writeByNumber 35 = .ok (.iload_n 1, 1) := by decide +kernel
theorem dX3_writeByNumber_36 : decode cX3_writeByNumber 36 = .ok (.iaload, 1) := by decide +kernel
theorem dX3_writeByNumber_37 : decode cX3_writeByNumber 37 = .ok (.invokevirtual 130, 3) := by decide +kernel
theorem dX3_writeByNumber_40 : decode cX3_writeByNumber 40 = .ok (.iinc 1 1, 3) := by decide +kernel
theorem dX3_writeByNumber_43 : decode cX3_writeByNumber 43 = .ok (.goto (-34), 3) := by decide +kernel
theorem dX3_writeByNumber_46 : decode cX3_writeByNumber 46 = .ok (.return_, 1) := by decide +kernel
