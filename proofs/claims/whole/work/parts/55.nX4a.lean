theorem dX4_init_0 : decode cX4_init 0 = .ok (.aload_n 0, 1) := by decide +kernel
theorem dX4_init_1 : decode cX4_init 1 = .ok (.invokespecial 1, 3) := by decide +kernel
theorem dX4_init_4 : decode cX4_init 4 = .ok (.aload_n 0, 1) := by decide +kernel
theorem dX4_init_5 : decode cX4_init 5 = .ok (.iconst 1, 1) := by decide +kernel
theorem dX4_init_6 : decode cX4_init 6 = .ok (.putfield 7, 3) := by decide +kernel
theorem dX4_init_9 : decode cX4_init 9 = .ok (.aload_n 0, 1) := by decide +kernel
theorem dX4_init_10 : decode cX4_init 10 = .ok (.sipush 4096, 3) := by decide +kernel
theorem dX4_init_13 : decode cX4_init 13 = .ok (.putfield 13, 3) := by decide +kernel
theorem dX4_init_16 : decode cX4_init 16 = .ok (.aload_n 0, 1) := by decide +kernel
theorem dX4_init_17 : decode cX4_init 17 = .ok (.sipush 300, 3) := by decide +kernel
theorem dX4_init_20 : decode cX4_init 20 = .ok (.newarray .int, 2) := by decide +kernel
theorem dX4_init_22 : decode cX4_init 22 = .ok (.putfield 16, 3) := by decide +kernel
theorem dX4_init_25 : decode cX4_init 25 = .ok (.aload_n 0, 1) := by decide +kernel
theorem dX4_init_26 : decode cX4_init 26 = .ok (.sipush 2000, 3) := by decide +kernel
theorem dX4_init_29 : decode cX4_init 29 = .ok (.newarray .int, 2) := by decide +kernel
theorem dX4_init_31 : decode cX4_init 31 = .ok (.putfield 20, 3) := by decide +kernel
theorem dX4_init_34 : decode cX4_init 34 = .ok (.aload_n 0, 1) := by decide +kernel
theorem dX4_init_35 : decode cX4_init 35 = .ok (.sipush 2000, 3) := by decide +kernel
theorem dX4_init_38 : decode cX4_init 38 = .ok (.newarray .int, 2) := by decide +kernel
theorem dX4_init_40 : decode cX4_init 40 = .ok (.putfield 23, 3) := by decide +kernel
theorem dX4_init_43 : decode cX4_init 43 = .ok (.aload_n 0, 1) := by decide +kernel
theorem dX4_init_44 : decode cX4_init 44 = .ok (.sipush 2000, 3) := by decide +kernel
theorem dX4_init_47 : decode cX4_init 47 = .ok (.newarray .long, 2) := by decide +kernel
theorem dX4_init_49 : decode cX4_init 49 = .ok (.putfield 26, 3) := by decide +kernel
theorem dX4_init_52 : decode cX4_init 52 = .ok (.aload_n 0, 1) := by decide +kernel
theorem dX4_init_53 : decode cX4_init 53 = .ok (.sipush 300, 3) := by decide +kernel
theorem dX4_init_56 : decode cX4_init 56 = .ok (.newarray .long, 2) := by decide +kernel
theorem dX4_init_58 : decode cX4_init 58 = .ok (.putfield 30, 3) := by decide +kernel
theorem dX4_init_61 : decode cX4_init 61 = .ok (.aload_n 0, 1) := by decide +kernel
theorem dX4_init_62 : decode cX4_init 62 = .ok (.sipush 300, 3) := by decide +kernel
theorem dX4_init_65 : decode cX4_init 65 = .ok (.newarray .int, 2) := by decide +kernel
theorem dX4_init_67 : decode cX4_init 67 = .ok (.putfield 33, 3) := by decide +kernel
theorem dX4_init_70 : decode cX4_init 70 = .ok (.aload_n 0, 1) := by decide +kernel
theorem dX4_init_71 : decode cX4_init 71 = .ok (.sipush 300, 3) := by decide +kernel
theorem dX4_init_74 : decode cX4_init 74 = .ok (.newarray .int, 2) := by decide +kernel
theorem dX4_init_76 : decode cX4_init 76 = .ok (.putfield 36, 3) := by decide +kernel
theorem dX4_init_79 : decode cX4_init 79 = .ok (.aload_n 0, 1) := by decide +kernel
theorem dX4_init_80 : decode cX4_init 80 = .ok (.sipush 300, 3) := by decide +kernel
theorem dX4_init_83 : decode cX4_init 83 = .ok (.newarray .int, 2) := by decide +kernel
theorem dX4_init_85 : decode cX4_init 85 = .ok (.putfield 39, 3) := by decide +kernel
theorem dX4_init_88 : decode cX4_init 88 = .ok (.aload_n 0, 1) := by decide +kernel
theorem dX4_init_89 : decode cX4_init 89 = .ok (.sipush 300, 3) := by decide +kernel
theorem dX4_init_92 : decode cX4_init 92 = .ok (.newarray .int, 2) := by decide +kernel
theorem dX4_init_94 : decode cX4_init 94 = .ok (.putfield 42, 3) := by decide +kernel
theorem dX4_init_97 : decode cX4_init 97 = .ok (.aload_n 0, 1) := by decide +kernel
theorem dX4_init_98 : decode cX4_init 98 = .ok (.sipush 300, 3) := by decide +kernel
theorem dX4_init_101 : decode cX4_init 101 = .ok (.newarray .long, 2) := by decide +kernel
theorem dX4_init_103 : decode cX4_init 103 = .ok (.putfield 45, 3) := by decide +kernel
theorem dX4_init_106 : decode cX4_init 106 = .ok (.aload_n 0, 1) := by decide +kernel
theorem dX4_init_107 : decode cX4_init 107 = .ok (.sipush 300, 3) := by decide +kernel
theorem dX4_init_110 : decode cX4_init 110 = .ok (.newarray .long, 2) := by decide +kernel
theorem dX4_init_112 : decode cX4_init 112 = .ok (.putfield 48, 3) := by decide +kernel
theorem dX4_init_115 : decode cX4_init 115 = .ok (.aload_n 0, 1) := by decide +kernel
theorem dX4_init_116 : decode cX4_init 116 = .ok (.sipush 300, 3) := by decide +kernel
theorem dX4_init_119 : decode cX4_init 119 = .ok (.newarray .int, 2) := by decide +kernel
theorem dX4_init_121 : decode cX4_init 121 = .ok (.putfield 51, 3) := by decide +kernel
theorem dX4_init_124 : decode cX4_init 124 = .ok (.aload_n 0, 1) := by decide +kernel
theorem dX4_init_125 : decode cX4_init 125 = .ok (.sipush 300, 3) := by decide +kernel
theorem dX4_init_128 : decode cX4_init 128 = .ok (.newarray .long, 2) := by decide +kernel
theorem dX4_init_130 : decode cX4_init 130 = .ok (.putfield 54, 3) := by decide +kernel
theorem dX4_init_133 : decode cX4_init 133 = .ok (.aload_n 0, 1) := by decide +kernel
theorem dX4_init_134 : decode cX4_init 134 = .ok (.sipush 300, 3) := by decide +kernel
theorem dX4_init_137 : decode cX4_init 137 = .ok (.newarray .long, 2) := by decide +kernel
theorem dX4_init_139 : decode cX4_init 139 = .ok (.putfield 57, 3) := by decide +kernel
theorem dX4_init_142 : decode cX4_init 142 = .ok (.aload_n 0, 1) := by decide +kernel
theorem dX4_init_143 : decode cX4_init 143 = .ok (.sipush 300, 3) := by decide +kernel
theorem dX4_init_146 : decode cX4_init 146 = .ok (.newarray .boolean, 2) := by decide +kernel
theorem dX4_init_148 : decode cX4_init 148 = .ok (.putfield 60, 3) := by decide +kernel
theorem dX4_init_151 : decode cX4_init 151 = .ok (.return_, 1) := by decide +kernel
theorem dX4_isFunction_0 : decode cX4_isFunction 0 = .ok (.iload_n 1, 1) := by decide +kernel
theorem dX4_isFunction_1 : decode cX4_isFunction 1 = .ok (.ifCond .lt 15, 3) := by decide +kernel
theorem dX4_isFunction_4 : decode cX4_isFunction 4 = .ok (.iload_n 1, 1) := by decide +kernel
theorem dX4_isFunction_5 : decode cX4_isFunction 5 = .ok (.aload_n 0, 1) := by decide +kernel
theorem dX4_isFunction_6 : decode cX4_isFunction 6 = .ok (.getfield 7, 3) := by decide +kernel
theorem dX4_isFunction_9 : decode cX4_isFunction 9 = .ok (.if_icmp .ge 7, 3) := by decide +kernel
theorem dX4_isFunction_12 : decode cX4_isFunction 12 = .ok (.iconst 1, 1) := by decide +kernel
theorem dX4_isFunction_13 : decode cX4_isFunction 13 = .ok (.goto 4, 3) := by decide +kernel
theorem dX4_isFunction_16 : decode cX4_isFunction 16 = .ok (.iconst 0, 1) := by decide +kernel
theorem dX4_isFunction_17 : decode cX4_isFunction 17 = .ok (.ireturn, 1) := by decide +kernel
theorem dX4_functions_0 : decode cX4_functions 0 = .ok (.iload_n 1, 1) := by decide +kernel
theorem dX4_functions_1 : decode cX4_functions 1 = .ok (.iconst 1, 1) := by decide +kernel
theorem dX4_functions_2 : decode cX4_functions 2 = .ok (.if_icmp .lt 10, 3) := by decide +kernel
theorem dX4_functions_5 : decode cX4_functions 5 = .ok (.iload_n 1, 1) := by decide +kernel
theorem dX4_functions_6 : decode cX4_functions 6 = .ok (.sipush 300, 3) := by decide +kernel
theorem dX4_functions_9 : decode cX4_functions 9 = .ok (.if_icmp .le 5, 3) := by decide +kernel
theorem dX4_functions_12 : decode cX4_functions 12 = .ok (.iconst 0, 1) := by decide +kernel
theorem dX4_functions_13 : decode cX4_functions 13 = .ok (.ireturn, 1) := by decide +kernel
theorem dX4_functions_14 : decode cX4_functions 14 = .ok (.aload_n 0, 1) := by decide +kernel
theorem dX4_functions_15 : decode cX4_functions 15 = .ok (.iload_n 1, 1) := by decide +kernel
theorem dX4_functions_16 : decode cX4_functions 16 = .ok (.putfield 7, 3) := by decide +kernel
theorem dX4_functions_19 : decode cX4_functions 19 = .ok (.aload_n 0, 1) := by decide +kernel
theorem dX4_functions_20 : decode cX4_functions 20 = .ok (.iconst 0, 1) := by decide +kernel
theorem dX4_functions_21 : decode cX4_functions 21 = .ok (.putfield 64, 3) := by decide +kernel
theorem dX4_functions_24 : decode cX4_functions 24 = .ok (.iconst 0, 1) := by decide +kernel
theorem dX4_functions_25 : decode cX4_functions 25 = .ok (.istore_n 2, 1) := by decide +kernel
theorem dX4_functions_26 : decode cX4_functions 26 = .ok (.iload_n 2, 1) := by decide +kernel
theorem dX4_functions_27 : decode cX4_functions 27 = .ok (.sipush 300, 3) := by decide +kernel
theorem dX4_functions_30 : decode cX4_functions 30 = .ok (.if_icmp .ge 16, 3) := by decide +kernel
theorem dX4_functions_33 : decode cX4_functions 33 = .ok (.aload_n 0, 1) := by decide +kernel
theorem dX4_functions_34 : decode cX4_functions 34 = .ok (.getfield 16, 3) := by decide +kernel
theorem dX4_functions_37 : decode cX4_functions 37 = .ok (.iload_n 2, 1) := by decide +kernel
theorem dX4_functions_38 : decode cX4_functions 38 = .ok (.iconst 0, 1) := by decide +kernel
theorem dX4_functions_39 : decode cX4_functions 39 = .ok (.iastore, 1) := by decide +kernel
theorem dX4_functions_40 : decode cX4_functions 40 = .ok (.iinc 2 1, 3) := by decide +kernel
theorem dX4_functions_43 : decode cX4_functions 43 = .ok (.goto (-17), 3) := by decide +kernel
theorem dX4_functions_46 : decode cX4_functions 46 = .ok (.aload_n 0, 1) := by decide +kernel
theorem dX4_functions_47 : decode cX4_functions 47 = .ok (.iconst 0, 1) := by decide +kernel
theorem dX4_functions_48 : decode cX4_functions 48 = .ok (.putfield 67, 3) := by decide +kernel
theorem dX4_functions_51 : decode cX4_functions 51 = .ok (.iconst 1, 1) := by decide +kernel
theorem dX4_functions_52 : decode cX4_functions 52 = .ok (.ireturn, 1) := by decide +kernel
set_option maxRecDepth 20000 in
theorem ggX4_size_X4_isFunction : GoodIn wsX4_size wsX4_isFunction := goodIn_r _ [8, 9, 10, 11, 12, 13, 14, 15, 16, 17, 18, 19, 20, 21, 22, 23, 24, 25, 26, 27, 28, 29, 30] (by decide +kernel) (by decide +kernel)
set_option maxRecDepth 20000 in
theorem gX4_size_X4_isFunction : GoodIn wsX4_size (wsV RX4 71 RX4 yX4_isFunction wsX4_isFunction) := goodIn_app (goodIn_of _ (by decide +kernel)) ggX4_size_X4_isFunction
theorem dX4_size_0 : decode cX4_size 0 = .ok (.aload_n 0, 1) := by decide +kernel
theorem dX4_size_1 : decode cX4_size 1 = .ok (.iload_n 1, 1) := by decide +kernel
theorem dX4_size_2 : decode cX4_size 2 = .ok (.invokevirtual 71, 3) := by decide +kernel
theorem dX4_size_5 : decode cX4_size 5 = .ok (.ifCond .eq 13, 3) := by decide +kernel
theorem dX4_size_8 : decode cX4_size 8 = .ok (.iload_n 2, 1) := by decide +kernel
theorem dX4_size_9 : decode cX4_size 9 = .ok (.ifCond .lt 9, 3) := by decide +kernel
theorem dX4_size_12 : decode cX4_size 12 = .ok (.iload_n 2, 1) := by decide +kernel
theorem dX4_size_13 : decode cX4_size 13 = .ok (.ldc 75, 2) := by decide +kernel
theorem dX4_size_15 : decode cX4_size 15 = .ok (.if_icmp .le 5, 3) := by decide +kernel
theorem dX4_size_18 : decode cX4_size 18 = .ok (.iconst 0, 1) := by decide +kernel
theorem dX4_size_19 : decode cX4_size 19 = .ok (.ireturn, 1) := by decide +kernel
theorem dX4_size_20 : decode cX4_size 20 = .ok (.aload_n 0, 1) := by decide +kernel
theorem dX4_size_21 : decode cX4_size 21 = .ok (.getfield 16, 3) := by decide +kernel
theorem dX4_size_24 : decode cX4_size 24 = .ok (.iload_n 1, 1) := by decide +kernel
theorem dX4_size_25 : decode cX4_size 25 = .ok (.iload_n 2, 1) := by decide +kernel
theorem dX4_size_26 : decode cX4_size 26 = .ok (.iastore, 1) := by decide +kernel
theorem dX4_size_27 : decode cX4_size 27 = .ok (.aload_n 0, 1) := by decide +kernel
theorem dX4_size_28 : decode cX4_size 28 = .ok (.iconst 0, 1) := by decide +kernel
theorem dX4_size_29 : decode cX4_size 29 = .ok (.putfield 67, 3) := by decide +kernel
theorem dX4_size_32 : decode cX4_size 32 = .ok (.iconst 1, 1) := by decide +kernel
theorem dX4_size_33 : decode cX4_size 33 = .ok (.ireturn, 1) := by decide +kernel
set_option maxRecDepth 20000 in
theorem ggX4_call_X4_isFunction : GoodIn wsX4_call wsX4_isFunction := goodIn_r _ [19, 20, 21, 22, 23, 24, 25, 26, 27, 28, 29, 30, 31, 32, 33, 34, 35, 36, 37, 38, 39, 40, 41] (by decide +kernel) (by decide +kernel)
set_option maxRecDepth 20000 in
theorem gX4_call_X4_isFunction : GoodIn wsX4_call (wsV RX4 71 RX4 yX4_isFunction wsX4_isFunction) := goodIn_app (goodIn_of _ (by decide +kernel)) ggX4_call_X4_isFunction
theorem dX4_call_0 : decode cX4_call 0 = .ok (.aload_n 0, 1) := by decide +kernel
theorem dX4_call_1 : decode cX4_call 1 = .ok (.iload_n 1, 1) := by decide +kernel
theorem dX4_call_2 : decode cX4_call 2 = .ok (.invokevirtual 71, 3) := by decide +kernel
theorem dX4_call_5 : decode cX4_call 5 = .ok (.ifCond .eq 11, 3) := by decide +kernel
theorem dX4_call_8 : decode cX4_call 8 = .ok (.aload_n 0, 1) := by decide +kernel
theorem dX4_call_9 : decode cX4_call 9 = .ok (.iload_n 2, 1) := by decide +kernel
theorem dX4_call_10 : decode cX4_call 10 = .ok (.invokevirtual 71, 3) := by decide +kernel
theorem dX4_call_13 : decode cX4_call 13 = .ok (.ifCond .ne 7, 3) := by decide +kernel
theorem dX4_call_16 : decode cX4_call 16 = .ok (.ldc2_w 76, 3) := by decide +kernel
theorem dX4_call_19 : decode cX4_call 19 = .ok (.lreturn, 1) := by decide +kernel
theorem dX4_call_20 : decode cX4_call 20 = .ok (.iload_n 3, 1) := by decide +kernel
theorem dX4_call_21 : decode cX4_call 21 = .ok (.iconst 1, 1) := by decide +kernel
theorem dX4_call_22 : decode cX4_call 22 = .ok (.if_icmp .lt 9, 3) := by decide +kernel
theorem dX4_call_25 : decode cX4_call 25 = .ok (.iload_n 3, 1) := by decide +kernel
theorem dX4_call_26 : decode cX4_call 26 = .ok (.ldc 78, 2) := by decide +kernel
theorem dX4_call_28 : decode cX4_call 28 = .ok (.if_icmp .le 7, 3) := by decide +kernel
theorem dX4_call_31 : decode cX4_call 31 = .ok (.ldc2_w 79, 3) := by decide +kernel
theorem dX4_call_34 : decode cX4_call 34 = .ok (.lreturn, 1) := by decide +kernel
theorem dX4_call_35 : decode cX4_call 35 = .ok (.iconst 0, 1) := by decide +kernel
theorem dX4_call_36 : decode cX4_call 36 = .ok (.istore 4, 2) := by decide +kernel
theorem dX4_call_38 : decode cX4_call 38 = .ok (.iload 4, 2) := by decide +kernel
theorem dX4_call_40 : decode cX4_call 40 = .ok (.aload_n 0, 1) := by decide +kernel
theorem dX4_call_41 : decode cX4_call 41 = .ok (.getfield 64, 3) := by decide +kernel
theorem dX4_call_44 : decode cX4_call 44 = .ok (.if_icmp .ge 31, 3) := by decide +kernel
theorem dX4_call_47 : decode cX4_call 47 = .ok (.aload_n 0, 1) := by decide +kernel
theorem dX4_call_48 : decode cX4_call 48 = .ok (.getfield 20, 3) := by decide +kernel
theorem dX4_call_51 : decode cX4_call 51 = .ok (.iload 4, 2) := by decide +kernel
theorem dX4_call_53 : decode cX4_call 53 = .ok (.iaload, 1) := by decide +kernel
theorem dX4_call_54 : decode cX4_call 54 = .ok (.iload_n 1, 1) := by decide +kernel
theorem dX4_call_55 : decode cX4_call 55 = .ok (.if_icmp .ne 14, 3) := by decide +kernel
theorem dX4_call_58 : decode cX4_call 58 = .ok (.aload_n 0, 1) := by decide +kernel
theorem dX4_call_59 : decode cX4_call 59 = .ok (.getfield 23, 3) := by decide +kernel
theorem dX4_call_62 : decode cX4_call 62 = .ok (.iload 4, 2) := by decide +kernel
theorem dX4_call_64 : decode cX4_call 64 = .ok (.iaload, 1) := by decide +kernel
theorem dX4_call_65 : decode cX4_call 65 = .ok (.iload_n 2, 1) := by decide +kernel
theorem dX4_call_66 : decode cX4_call 66 = .ok (.if_icmp .eq 9, 3) := by decide +kernel
theorem dX4_call_69 : decode cX4_call 69 = .ok (.iinc 4 1, 3) := by decide +kernel
theorem dX4_call_72 : decode cX4_call 72 = .ok (.goto (-34), 3) := by decide +kernel
theorem dX4_call_75 : decode cX4_call 75 = .ok (.iload 4, 2) := by decide +kernel
theorem dX4_call_77 : decode cX4_call 77 = .ok (.sipush 2000, 3) := by decide +kernel
theorem dX4_call_80 : decode cX4_call 80 = .ok (.if_icmp .ne 7, 3) := by decide +kernel
theorem dX4_call_83 : decode cX4_call 83 = .ok (.ldc2_w 81, 3) := by decide +kernel
theorem dX4_call_86 : decode cX4_call 86 = .ok (.lreturn, 1) := by decide +kernel
theorem dX4_call_87 : decode cX4_call 87 = .ok (.iload 4, 2) := by decide +kernel
theorem dX4_call_89 : decode cX4_call 89 = .ok (.aload_n 0, 1) := by decide +kernel
theorem dX4_call_90 : decode cX4_call 90 = .ok (.getfield 64, 3) := by decide +kernel
theorem dX4_call_93 : decode cX4_call 93 = .ok (.if_icmp .ne 37, 3) := by decide +kernel
theorem dX4_call_96 : decode cX4_call 96 = .ok (.aload_n 0, 1) := by decide +kernel
theorem dX4_call_97 : decode cX4_call 97 = .ok (.getfield 20, 3) := by decide +kernel
theorem dX4_call_100 : decode cX4_call 100 = .ok (.iload 4, 2) := by decide +kernel
theorem dX4_call_102 : decode cX4_call 102 = .ok (.iload_n 1, 1) := by decide +kernel
theorem dX4_call_103 : decode cX4_call 103 = .ok (.iastore, 1) := by decide +kernel
theorem dX4_call_104 : decode cX4_call 104 = .ok (.aload_n 0, 1) := by decide +kernel
theorem dX4_call_105 : decode cX4_call 105 = .ok (.getfield 23, 3) := by decide +kernel
theorem dX4_call_108 : decode cX4_call 108 = .ok (.iload 4, 2) := by decide +kernel
theorem dX4_call_110 : decode cX4_call 110 = .ok (.iload_n 2, 1) := by decide +kernel
theorem dX4_call_111 : decode cX4_call 111 = .ok (.iastore, 1) := by decide +kernel
theorem dX4_call_112 : decode cX4_call 112 = .ok (.aload_n 0, 1) := by decide +kernel
theorem dX4_call_113 : decode cX4_call 113 = .ok (.getfield 26, 3) := by decide +kernel
theorem dX4_call_116 : decode cX4_call 116 = .ok (.iload 4, 2) := by decide +kernel
theorem dX4_call_118 : decode cX4_call 118 = .ok (.lconst 0, 1) := by decide +kernel
theorem dX4_call_119 : decode cX4_call 119 = .ok (.lastore, 1) := by decide +kernel
theorem dX4_call_120 : decode cX4_call 120 = .ok (.aload_n 0, 1) := by decide +kernel
theorem dX4_call_121 : decode cX4_call 121 = .ok (.dup, 1) := by decide +kernel
theorem dX4_call_122 : decode cX4_call 122 = .ok (.getfield 64, 3) := by decide +kernel
theorem dX4_call_125 : decode cX4_call 125 = .ok (.iconst 1, 1) := by decide +kernel
theorem dX4_call_126 : decode cX4_call 126 = .ok (.iadd, 1) := by decide +kernel
theorem dX4_call_127 : decode cX4_call 127 = .ok (.putfield 64, 3) := by decide +kernel
theorem dX4_call_130 : decode cX4_call 130 = .ok (.aload_n 0, 1) := by decide +kernel
theorem dX4_call_131 : decode cX4_call 131 = .ok (.getfield 26, 3) := by decide +kernel
theorem dX4_call_134 : decode cX4_call 134 = .ok (.iload 4, 2) := by decide +kernel
theorem dX4_call_136 : decode cX4_call 136 = .ok (.aload_n 0, 1) := by decide +kernel
theorem dX4_call_137 : decode cX4_call 137 = .ok (.getfield 26, 3) := by decide +kernel
theorem dX4_call_140 : decode cX4_call 140 = .ok (.iload 4, 2) := by decide +kernel
theorem dX4_call_142 : decode cX4_call 142 = .ok (.laload, 1) := by decide +kernel
theorem dX4_call_143 : decode cX4_call 143 = .ok (.iload_n 3, 1) := by decide +kernel
theorem dX4_call_144 : decode cX4_call 144 = .ok (.i2l, 1) := by decide +kernel
theorem dX4_call_145 : decode cX4_call 145 = .ok (.ladd, 1) := by decide +kernel
theorem dX4_call_146 : decode cX4_call 146 = .ok (.ldc2_w 83, 3) := by decide +kernel
theorem dX4_call_149 : decode cX4_call 149 = .ok (.invokestatic 85, 3) := by decide +kernel
theorem dX4_call_152 : decode cX4_call 152 = .ok (.lastore, 1) := by decide +kernel
theorem dX4_call_153 : decode cX4_call 153 = .ok (.aload_n 0, 1) := by decide +kernel
theorem dX4_call_154 : decode cX4_call 154 = .ok (.iconst 0, 1) := by decide +kernel
theorem dX4_call_155 : decode cX4_call 155 = .ok (.putfield 67, 3) := by decide +kernel
theorem dX4_call_158 : decode cX4_call 158 = .ok (.aload_n 0, 1) := by decide +kernel
theorem dX4_call_159 : decode cX4_call 159 = .ok (.getfield 26, 3) := by decide +kernel
theorem dX4_call_162 : decode cX4_call 162 = .ok (.iload 4, 2) := by decide +kernel
theorem dX4_call_164 : decode cX4_call 164 = .ok (.laload, 1) := by decide +kernel
theorem dX4_call_165 : decode cX4_call 165 = .ok (.lreturn, 1) := by decide +kernel
theorem dX4_page_0 : decode cX4_page 0 = .ok (.iload_n 1, 1) := by decide +kernel
theorem dX4_page_1 : decode cX4_page 1 = .ok (.iconst 1, 1) := by decide +kernel
theorem dX4_page_2 : decode cX4_page 2 = .ok (.if_icmp .lt 9, 3) := by decide +kernel
theorem dX4_page_5 : decode cX4_page 5 = .ok (.iload_n 1, 1) := by decide +kernel
theorem dX4_page_6 : decode cX4_page 6 = .ok (.ldc 91, 2) := by decide +kernel
theorem dX4_page_8 : decode cX4_page 8 = .ok (.if_icmp .le 5, 3) := by decide +kernel
theorem dX4_page_11 : decode cX4_page 11 = .ok (.iconst 0, 1) := by decide +kernel
theorem dX4_page_12 : decode cX4_page 12 = .ok (.ireturn, 1) := by decide +kernel
theorem dX4_page_13 : decode cX4_page 13 = .ok (.aload_n 0, 1) := by decide +kernel
theorem dX4_page_14 : decode cX4_page 14 = .ok (.iload_n 1, 1) := by decide +kernel
theorem dX4_page_15 : decode cX4_page 15 = .ok (.putfield 13, 3) := by decide +kernel
theorem dX4_page_18 : decode cX4_page 18 = .ok (.aload_n 0, 1) := by decide +kernel
theorem dX4_page_19 : decode cX4_page 19 = .ok (.iconst 0, 1) := by decide +kernel
theorem dX4_page_20 : decode cX4_page 20 = .ok (.putfield 67, 3) := by decide +kernel
theorem dX4_page_23 : decode cX4_page 23 = .ok (.iconst 1, 1) := by decide +kernel
theorem dX4_page_24 : decode cX4_page 24 = .ok (.ireturn, 1) := by decide +kernel
set_option maxRecDepth 20000 in
theorem ggX4_heat_X4_know : GoodIn wsX4_heat wsX4_know := goodIn_r _ [7, 8, 9, 1, 10, 11, 12, 13, 14, 15, 16, 17, 18, 19, 20, 21, 22, 23, 24, 25, 6, 26, 27, 28, 29, 30, 31, 32, 33, 34, 35, 36, 37, 38, 39, 44, 45, 46, 47, 48, 49, 50, 51, 52, 53, 54, 55, 56, 57, 58, 59, 60, 61, 62, 63, 64] (by decide +kernel) (by decide +kernel)
set_option maxRecDepth 20000 in
theorem gX4_heat_X4_know : GoodIn wsX4_heat (wsV RX4 109 RX4 yX4_know wsX4_know) := goodIn_app (goodIn_of _ (by decide +kernel)) ggX4_heat_X4_know
set_option maxRecDepth 20000 in
theorem ggX4_heat_X4_isFunction : GoodIn wsX4_heat wsX4_isFunction := goodIn_r _ [43, 9, 44, 45, 46, 47, 48, 49, 50, 51, 52, 53, 54, 55, 56, 57, 58, 59, 60, 61, 62, 63, 64] (by decide +kernel) (by decide +kernel)
set_option maxRecDepth 20000 in
theorem gX4_heat_X4_isFunction : GoodIn wsX4_heat (wsV RX4 71 RX4 yX4_isFunction wsX4_isFunction) := goodIn_app (goodIn_of _ (by decide +kernel)) ggX4_heat_X4_isFunction
theorem dX4_heat_0 : decode cX4_heat 0 = .ok (.aload_n 0, 1) := by decide +kernel
theorem dX4_heat_1 : decode cX4_heat 1 = .ok (.invokevirtual 109, 3) := by decide +kernel
theorem dX4_heat_4 : decode cX4_heat 4 = .ok (.aload_n 0, 1) := by decide +kernel
theorem dX4_heat_5 : decode cX4_heat 5 = .ok (.iload_n 1, 1) := by decide +kernel
theorem dX4_heat_6 : decode cX4_heat 6 = .ok (.invokevirtual 71, 3) := by decide +kernel
theorem dX4_heat_9 : decode cX4_heat 9 = .ok (.ifCond .eq 12, 3) := by decide +kernel
theorem dX4_heat_12 : decode cX4_heat 12 = .ok (.aload_n 0, 1) := by decide +kernel
theorem dX4_heat_13 : decode cX4_heat 13 = .ok (.getfield 30, 3) := by decide +kernel
theorem dX4_heat_16 : decode cX4_heat 16 = .ok (.iload_n 1, 1) := by decide +kernel
theorem dX4_heat_17 : decode cX4_heat 17 = .ok (.laload, 1) := by decide +kernel
theorem dX4_heat_18 : decode cX4_heat 18 = .ok (.goto 6, 3) := by decide +kernel
theorem dX4_heat_21 : decode cX4_heat 21 = .ok (.ldc2_w 76, 3) := by decide +kernel
theorem dX4_heat_24 : decode cX4_heat 24 = .ok (.lreturn, 1) := by decide +kernel
set_option maxRecDepth 20000 in
theorem ggX4_caller_X4_know : GoodIn wsX4_caller wsX4_know := goodIn_r _ [7, 8, 9, 10, 2, 11, 12, 1, 13, 14, 15, 16, 17, 18, 19, 20, 21, 22, 23, 24, 6, 25, 26, 27, 28, 29, 30, 31, 32, 33, 34, 35, 36, 37, 38, 43, 44, 45, 46, 47, 48, 49, 50, 51, 52, 53, 54, 55, 56, 57, 58, 59, 60, 61, 62, 63] (by decide +kernel) (by decide +kernel)
set_option maxRecDepth 20000 in
theorem gX4_caller_X4_know : GoodIn wsX4_caller (wsV RX4 109 RX4 yX4_know wsX4_know) := goodIn_app (goodIn_of _ (by decide +kernel)) ggX4_caller_X4_know
set_option maxRecDepth 20000 in
theorem ggX4_caller_X4_isFunction : GoodIn wsX4_caller wsX4_isFunction := goodIn_r _ [42, 9, 43, 44, 45, 46, 47, 48, 49, 50, 51, 52, 53, 54, 55, 56, 57, 58, 59, 60, 61, 62, 63] (by decide +kernel) (by decide +kernel)
set_option maxRecDepth 20000 in
theorem gX4_caller_X4_isFunction : GoodIn wsX4_caller (wsV RX4 71 RX4 yX4_isFunction wsX4_isFunction) := goodIn_app (goodIn_of _ (by decide +kernel)) ggX4_caller_X4_isFunction
theorem dX4_caller_0 : decode cX4_caller 0 = .ok (.aload_n 0, 1) := by decide +kernel
theorem dX4_caller_1 : decode cX4_caller 1 = .ok (.invokevirtual 109, 3) := by decide +kernel
theorem dX4_caller_4 : decode cX4_caller 4 = .ok (.aload_n 0, 1) := by decide +kernel
theorem dX4_caller_5 : decode cX4_caller 5 = .ok (.iload_n 1, 1) := by decide +kernel
theorem dX4_caller_6 : decode cX4_caller 6 = .ok (.invokevirtual 71, 3) := by decide +kernel
theorem dX4_caller_9 : decode cX4_caller 9 = .ok (.ifCond .eq 21, 3) := by decide +kernel
theorem dX4_caller_12 : decode cX4_caller 12 = .ok (.aload_n 0, 1) := by decide +kernel
theorem dX4_caller_13 : decode cX4_caller 13 = .ok (.getfield 16, 3) := by decide +kernel
theorem dX4_caller_16 : decode cX4_caller 16 = .ok (.iload_n 1, 1) := by decide +kernel
theorem dX4_caller_17 : decode cX4_caller 17 = .ok (.iaload, 1) := by decide +kernel
theorem dX4_caller_18 : decode cX4_caller 18 = .ok (.ifCond .le 12, 3) := by decide +kernel
theorem dX4_caller_21 : decode cX4_caller 21 = .ok (.aload_n 0, 1) := by decide +kernel
theorem dX4_caller_22 : decode cX4_caller 22 = .ok (.getfield 33, 3) := by decide +kernel
theorem dX4_caller_25 : decode cX4_caller 25 = .ok (.iload_n 1, 1) := by decide +kernel
theorem dX4_caller_26 : decode cX4_caller 26 = .ok (.iaload, 1) := by decide +kernel
theorem dX4_caller_27 : decode cX4_caller 27 = .ok (.goto 4, 3) := by decide +kernel
theorem dX4_caller_30 : decode cX4_caller 30 = .ok (.iconst (-1), 1) := by decide +kernel
theorem dX4_caller_31 : decode cX4_caller 31 = .ok (.ireturn, 1) := by decide +kernel
set_option maxRecDepth 20000 in
theorem ggX4_length_X4_know : GoodIn wsX4_length wsX4_know := goodIn_r _ [6, 7, 8, 9, 10, 11, 12, 13, 14, 15, 16, 17, 18, 19, 20, 21, 22, 23, 24, 25, 5, 26, 27, 28, 29, 30, 31, 1, 32, 33, 34, 35, 36, 37, 38, 39, 40, 41, 42, 43, 44, 45, 46, 47, 48, 49, 50, 51, 52, 53, 54, 55, 56, 57, 58, 59] (by decide +kernel) (by decide +kernel)
set_option maxRecDepth 20000 in
theorem gX4_length_X4_know : GoodIn wsX4_length (wsV RX4 109 RX4 yX4_know wsX4_know) := goodIn_app (goodIn_of _ (by decide +kernel)) ggX4_length_X4_know
theorem dX4_length_0 : decode cX4_length 0 = .ok (.aload_n 0, 1) := by decide +kernel
theorem dX4_length_1 : decode cX4_length 1 = .ok (.invokevirtual 109, 3) := by decide +kernel
theorem dX4_length_4 : decode cX4_length 4 = .ok (.aload_n 0, 1) := by decide +kernel
theorem dX4_length_5 : decode cX4_length 5 = .ok (.getfield 99, 3) := by decide +kernel
theorem dX4_length_8 : decode cX4_length 8 = .ok (.ireturn, 1) := by decide +kernel
set_option maxRecDepth 20000 in
theorem ggX4_row_X4_know : GoodIn wsX4_row wsX4_know := goodIn_r _ [7, 8, 9, 10, 11, 12, 13, 14, 15, 16, 17, 18, 19, 20, 21, 22, 23, 24, 25, 26, 6, 27, 28, 29, 30, 31, 32, 1, 33, 2, 34, 35, 36, 37, 38, 39, 40, 41, 42, 43, 44, 45, 46, 47, 48, 49, 50, 51, 52, 53, 54, 55, 56, 57, 58, 59] (by decide +kernel) (by decide +kernel)
set_option maxRecDepth 20000 in
theorem gX4_row_X4_know : GoodIn wsX4_row (wsV RX4 109 RX4 yX4_know wsX4_know) := goodIn_app (goodIn_of _ (by decide +kernel)) ggX4_row_X4_know
theorem dX4_row_0 : decode cX4_row 0 = .ok (.aload_n 0, 1) := by decide +kernel
theorem dX4_row_1 : decode cX4_row 1 = .ok (.invokevirtual 109, 3) := by decide +kernel
theorem dX4_row_4 : decode cX4_row 4 = .ok (.iload_n 1, 1) := by decide +kernel
theorem dX4_row_5 : decode cX4_row 5 = .ok (.ifCond .lt 20, 3) := by decide +kernel
theorem dX4_row_8 : decode cX4_row 8 = .ok (.iload_n 1, 1) := by decide +kernel
theorem dX4_row_9 : decode cX4_row 9 = .ok (.aload_n 0, 1) := by decide +kernel
theorem dX4_row_10 : decode cX4_row 10 = .ok (.getfield 99, 3) := by decide +kernel
theorem dX4_row_13 : decode cX4_row 13 = .ok (.if_icmp .ge 12, 3) := by decide +kernel
theorem dX4_row_16 : decode cX4_row 16 = .ok (.aload_n 0, 1) := by decide +kernel
theorem dX4_row_17 : decode cX4_row 17 = .ok (.getfield 51, 3) := by decide +kernel
theorem dX4_row_20 : decode cX4_row 20 = .ok (.iload_n 1, 1) := by decide +kernel
theorem dX4_row_21 : decode cX4_row 21 = .ok (.iaload, 1) := by decide +kernel
theorem dX4_row_22 : decode cX4_row 22 = .ok (.goto 4, 3) := by decide +kernel
theorem dX4_row_25 : decode cX4_row 25 = .ok (.iconst (-1), 1) := by decide +kernel
theorem dX4_row_26 : decode cX4_row 26 = .ok (.ireturn, 1) := by decide +kernel
set_option maxRecDepth 20000 in
theorem ggX4_begin_X4_know : GoodIn wsX4_begin wsX4_know := goodIn_r _ [8, 9, 10, 11, 12, 13, 14, 1, 15, 16, 17, 18, 19, 20, 21, 22, 23, 24, 25, 26, 7, 27, 28, 29, 30, 31, 32, 33, 34, 35, 2, 36, 37, 38, 39, 44, 45, 46, 47, 48, 49, 50, 51, 52, 53, 54, 55, 56, 57, 58, 59, 60, 61, 62, 63, 64] (by decide +kernel) (by decide +kernel)
set_option maxRecDepth 20000 in
theorem gX4_begin_X4_know : GoodIn wsX4_begin (wsV RX4 109 RX4 yX4_know wsX4_know) := goodIn_app (goodIn_of _ (by decide +kernel)) ggX4_begin_X4_know
set_option maxRecDepth 20000 in
theorem ggX4_begin_X4_isFunction : GoodIn wsX4_begin wsX4_isFunction := goodIn_r _ [43, 10, 44, 45, 46, 47, 48, 49, 50, 51, 52, 53, 54, 55, 56, 57, 58, 59, 60, 61, 62, 63, 64] (by decide +kernel) (by decide +kernel)
set_option maxRecDepth 20000 in
theorem gX4_begin_X4_isFunction : GoodIn wsX4_begin (wsV RX4 71 RX4 yX4_isFunction wsX4_isFunction) := goodIn_app (goodIn_of _ (by decide +kernel)) ggX4_begin_X4_isFunction
theorem dX4_begin_0 : decode cX4_begin 0 = .ok (.aload_n 0, 1) := by decide +kernel
theorem dX4_begin_1 : decode cX4_begin 1 = .ok (.invokevirtual 109, 3) := by decide +kernel
theorem dX4_begin_4 : decode cX4_begin 4 = .ok (.aload_n 0, 1) := by decide +kernel
theorem dX4_begin_5 : decode cX4_begin 5 = .ok (.iload_n 1, 1) := by decide +kernel
theorem dX4_begin_6 : decode cX4_begin 6 = .ok (.invokevirtual 71, 3) := by decide +kernel
theorem dX4_begin_9 : decode cX4_begin 9 = .ok (.ifCond .eq 21, 3) := by decide +kernel
theorem dX4_begin_12 : decode cX4_begin 12 = .ok (.aload_n 0, 1) := by decide +kernel
theorem dX4_begin_13 : decode cX4_begin 13 = .ok (.getfield 16, 3) := by decide +kernel
theorem dX4_begin_16 : decode cX4_begin 16 = .ok (.iload_n 1, 1) := by decide +kernel
theorem dX4_begin_17 : decode cX4_begin 17 = .ok (.iaload, 1) := by decide +kernel
theorem dX4_begin_18 : decode cX4_begin 18 = .ok (.ifCond .le 12, 3) := by decide +kernel
theorem dX4_begin_21 : decode cX4_begin 21 = .ok (.aload_n 0, 1) := by decide +kernel
theorem dX4_begin_22 : decode cX4_begin 22 = .ok (.getfield 54, 3) := by decide +kernel
theorem dX4_begin_25 : decode cX4_begin 25 = .ok (.iload_n 1, 1) := by decide +kernel
theorem dX4_begin_26 : decode cX4_begin 26 = .ok (.laload, 1) := by decide +kernel
theorem dX4_begin_27 : decode cX4_begin 27 = .ok (.goto 6, 3) := by decide +kernel
theorem dX4_begin_30 : decode cX4_begin 30 = .ok (.ldc2_w 76, 3) := by decide +kernel
theorem dX4_begin_33 : decode cX4_begin 33 = .ok (.lreturn, 1) := by decide +kernel
set_option maxRecDepth 20000 in
theorem ggX4_clusters_X4_know : GoodIn wsX4_clusters wsX4_know := goodIn_r _ [6, 7, 8, 9, 10, 11, 12, 13, 14, 15, 16, 17, 18, 19, 20, 21, 22, 23, 24, 25, 5, 26, 27, 28, 29, 30, 31, 32, 1, 33, 34, 35, 36, 37, 38, 39, 40, 41, 42, 43, 44, 45, 46, 47, 48, 49, 50, 51, 52, 53, 54, 55, 56, 57, 58, 59] (by decide +kernel) (by decide +kernel)
set_option maxRecDepth 20000 in
theorem gX4_clusters_X4_know : GoodIn wsX4_clusters (wsV RX4 109 RX4 yX4_know wsX4_know) := goodIn_app (goodIn_of _ (by decide +kernel)) ggX4_clusters_X4_know
theorem dX4_clusters_0 : decode cX4_clusters 0 = .ok (.aload_n 0, 1) := by decide +kernel
theorem dX4_clusters_1 : decode cX4_clusters 1 = .ok (.invokevirtual 109, 3) := by decide +kernel
theorem dX4_clusters_4 : decode cX4_clusters 4 = .ok (.aload_n 0, 1) := by decide +kernel
theorem dX4_clusters_5 : decode cX4_clusters 5 = .ok (.getfield 102, 3) := by decide +kernel
theorem dX4_clusters_8 : decode cX4_clusters 8 = .ok (.ireturn, 1) := by decide +kernel
set_option maxRecDepth 20000 in
theorem ggX4_cluster_X4_know : GoodIn wsX4_cluster wsX4_know := goodIn_r _ [6, 7, 8, 9, 10, 11, 1, 12, 13, 14, 15, 16, 17, 18, 19, 20, 21, 22, 23, 24, 5, 25, 26, 27, 28, 29, 30, 31, 32, 33, 34, 35, 36, 37, 38, 43, 44, 45, 46, 47, 48, 49, 50, 51, 52, 53, 54, 55, 56, 57, 58, 59, 60, 61, 62, 63] (by decide +kernel) (by decide +kernel)
set_option maxRecDepth 20000 in
theorem gX4_cluster_X4_know : GoodIn wsX4_cluster (wsV RX4 109 RX4 yX4_know wsX4_know) := goodIn_app (goodIn_of _ (by decide +kernel)) ggX4_cluster_X4_know
set_option maxRecDepth 20000 in
theorem ggX4_cluster_X4_isFunction : GoodIn wsX4_cluster wsX4_isFunction := goodIn_r _ [42, 8, 43, 44, 45, 46, 47, 48, 49, 50, 51, 52, 53, 54, 55, 56, 57, 58, 59, 60, 61, 62, 63] (by decide +kernel) (by decide +kernel)
set_option maxRecDepth 20000 in
theorem gX4_cluster_X4_isFunction : GoodIn wsX4_cluster (wsV RX4 71 RX4 yX4_isFunction wsX4_isFunction) := goodIn_app (goodIn_of _ (by decide +kernel)) ggX4_cluster_X4_isFunction
theorem dX4_cluster_0 : decode cX4_cluster 0 = .ok (.aload_n 0, 1) := by decide +kernel
theorem dX4_cluster_1 : decode cX4_cluster 1 = .ok (.invokevirtual 109, 3) := by decide +kernel
theorem dX4_cluster_4 : decode cX4_cluster 4 = .ok (.aload_n 0, 1) := by decide +kernel
theorem dX4_cluster_5 : decode cX4_cluster 5 = .ok (.iload_n 1, 1) := by decide +kernel
theorem dX4_cluster_6 : decode cX4_cluster 6 = .ok (.invokevirtual 71, 3) := by decide +kernel
theorem dX4_cluster_9 : decode cX4_cluster 9 = .ok (.ifCond .eq 12, 3) := by decide +kernel
theorem dX4_cluster_12 : decode cX4_cluster 12 = .ok (.aload_n 0, 1) := by decide +kernel
theorem dX4_cluster_13 : decode cX4_cluster 13 = .ok (.getfield 36, 3) := by decide +kernel
theorem dX4_cluster_16 : decode cX4_cluster 16 = .ok (.iload_n 1, 1) := by decide +kernel
theorem dX4_cluster_17 : decode cX4_cluster 17 = .ok (.iaload, 1) := by decide +kernel
theorem dX4_cluster_18 : decode cX4_cluster 18 = .ok (.goto 4, 3) := by decide +kernel
theorem dX4_cluster_21 : decode cX4_cluster 21 = .ok (.iconst (-1), 1) := by decide +kernel
theorem dX4_cluster_22 : decode cX4_cluster 22 = .ok (.ireturn, 1) := by decide +kernel
