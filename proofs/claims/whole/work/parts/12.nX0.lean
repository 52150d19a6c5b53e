theorem dX0_init_0 : decode cX0_init 0 = .ok (.aload_n 0, 1) := by decide +kernel
theorem dX0_init_1 : decode cX0_init 1 = .ok (.invokespecial 3, 3) := by decide +kernel
theorem dX0_init_4 : decode cX0_init 4 = .ok (.aload_n 0, 1) := by decide +kernel
theorem dX0_init_5 : decode cX0_init 5 = .ok (.sipush 2000, 3) := by decide +kernel
theorem dX0_init_8 : decode cX0_init 8 = .ok (.newarray .int, 2) := by decide +kernel
theorem dX0_init_10 : decode cX0_init 10 = .ok (.putfield 9, 3) := by decide +kernel
theorem dX0_init_13 : decode cX0_init 13 = .ok (.aload_n 0, 1) := by decide +kernel
theorem dX0_init_14 : decode cX0_init 14 = .ok (.sipush 2000, 3) := by decide +kernel
theorem dX0_init_17 : decode cX0_init 17 = .ok (.newarray .int, 2) := by decide +kernel
theorem dX0_init_19 : decode cX0_init 19 = .ok (.putfield 15, 3) := by decide +kernel
theorem dX0_init_22 : decode cX0_init 22 = .ok (.aload_n 0, 1) := by decide +kernel
theorem dX0_init_23 : decode cX0_init 23 = .ok (.sipush 2000, 3) := by decide +kernel
theorem dX0_init_26 : decode cX0_init 26 = .ok (.newarray .long, 2) := by decide +kernel
theorem dX0_init_28 : decode cX0_init 28 = .ok (.putfield 18, 3) := by decide +kernel
theorem dX0_init_31 : decode cX0_init 31 = .ok (.aload_n 0, 1) := by decide +kernel
theorem dX0_init_32 : decode cX0_init 32 = .ok (.sipush 300, 3) := by decide +kernel
theorem dX0_init_35 : decode cX0_init 35 = .ok (.newarray .long, 2) := by decide +kernel
theorem dX0_init_37 : decode cX0_init 37 = .ok (.putfield 22, 3) := by decide +kernel
theorem dX0_init_40 : decode cX0_init 40 = .ok (.aload_n 0, 1) := by decide +kernel
theorem dX0_init_41 : decode cX0_init 41 = .ok (.sipush 300, 3) := by decide +kernel
theorem dX0_init_44 : decode cX0_init 44 = .ok (.newarray .int, 2) := by decide +kernel
theorem dX0_init_46 : decode cX0_init 46 = .ok (.putfield 25, 3) := by decide +kernel
theorem dX0_init_49 : decode cX0_init 49 = .ok (.return_, 1) := by decide +kernel
set_option maxRecDepth 20000 in
theorem ggX0_forgetAll_J7_fill_d0a16 : GoodIn wsX0_forgetAll wsJ7_fill_d0a16 := goodIn_r _ [6] (by decide +kernel) (by decide +kernel)
set_option maxRecDepth 20000 in
theorem gX0_forgetAll_J7_fill_d0a16 : GoodIn wsX0_forgetAll (va_wsS RX0 32 yJ7_fill_d0a16 wsJ7_fill_d0a16) := goodIn_app (goodIn_of _ (by decide +kernel)) ggX0_forgetAll_J7_fill_d0a16
theorem dX0_forgetAll_0 : decode cX0_forgetAll 0 = .ok (.aload_n 0, 1) := by decide +kernel
theorem dX0_forgetAll_1 : decode cX0_forgetAll 1 = .ok (.iconst 0, 1) := by decide +kernel
theorem dX0_forgetAll_2 : decode cX0_forgetAll 2 = .ok (.putfield 28, 3) := by decide +kernel
theorem dX0_forgetAll_5 : decode cX0_forgetAll 5 = .ok (.aload_n 0, 1) := by decide +kernel
theorem dX0_forgetAll_6 : decode cX0_forgetAll 6 = .ok (.getfield 22, 3) := by decide +kernel
theorem dX0_forgetAll_9 : decode cX0_forgetAll 9 = .ok (.lconst 0, 1) := by decide +kernel
theorem dX0_forgetAll_10 : decode cX0_forgetAll 10 = .ok (.invokestatic 32, 3) := by decide +kernel
theorem dX0_forgetAll_13 : decode cX0_forgetAll 13 = .ok (.return_, 1) := by decide +kernel
theorem dX0_pairFor_0 : decode cX0_pairFor 0 = .ok (.iconst 0, 1) := by decide +kernel
theorem dX0_pairFor_1 : decode cX0_pairFor 1 = .ok (.istore_n 3, 1) := by decide +kernel
theorem dX0_pairFor_2 : decode cX0_pairFor 2 = .ok (.iload_n 3, 1) := by decide +kernel
theorem dX0_pairFor_3 : decode cX0_pairFor 3 = .ok (.aload_n 0, 1) := by decide +kernel
theorem dX0_pairFor_4 : decode cX0_pairFor 4 = .ok (.getfield 28, 3) := by decide +kernel
theorem dX0_pairFor_7 : decode cX0_pairFor 7 = .ok (.if_icmp .ge 31, 3) := by decide +kernel
theorem dX0_pairFor_10 : decode cX0_pairFor 10 = .ok (.aload_n 0, 1) := by decide +kernel
theorem dX0_pairFor_11 : decode cX0_pairFor 11 = .ok (.getfield 9, 3) := by decide +kernel
theorem dX0_pairFor_14 : decode cX0_pairFor 14 = .ok (.iload_n 3, 1) := by decide +kernel
theorem dX0_pairFor_15 : decode cX0_pairFor 15 = .ok (.iaload, 1) := by decide +kernel
theorem dX0_pairFor_16 : decode cX0_pairFor 16 = .ok (.iload_n 1, 1) := by decide +kernel
theorem dX0_pairFor_17 : decode cX0_pairFor 17 = .ok (.if_icmp .ne 15, 3) := by decide +kernel
theorem dX0_pairFor_20 : decode cX0_pairFor 20 = .ok (.aload_n 0, 1) := by decide +kernel
theorem dX0_pairFor_21 : decode cX0_pairFor 21 = .ok (.getfield 15, 3) := by decide +kernel
theorem dX0_pairFor_24 : decode cX0_pairFor 24 = .ok (.iload_n 3, 1) := by decide +kernel
theorem dX0_pairFor_25 : decode cX0_pairFor 25 = .ok (.iaload, 1) := by decide +kernel
theorem dX0_pairFor_26 : decode cX0_pairFor 26 = .ok (.iload_n 2, 1) := by decide +kernel
theorem dX0_pairFor_27 : decode cX0_pairFor 27 = .ok (.if_icmp .ne 5, 3) := by decide +kernel
theorem dX0_pairFor_30 : decode cX0_pairFor 30 = .ok (.iload_n 3, 1) := by decide +kernel
theorem dX0_pairFor_31 : decode cX0_pairFor 31 = .ok (.ireturn, 1) := by decide +kernel
theorem dX0_pairFor_32 : decode cX0_pairFor 32 = .ok (.iinc 3 1, 3) := by decide +kernel
theorem dX0_pairFor_35 : decode cX0_pairFor 35 = .ok (.goto (-33), 3) := by decide +kernel
theorem dX0_pairFor_38 : decode cX0_pairFor 38 = .ok (.aload_n 0, 1) := by decide +kernel
theorem dX0_pairFor_39 : decode cX0_pairFor 39 = .ok (.getfield 28, 3) := by decide +kernel
theorem dX0_pairFor_42 : decode cX0_pairFor 42 = .ok (.sipush 2000, 3) := by decide +kernel
theorem dX0_pairFor_45 : decode cX0_pairFor 45 = .ok (.if_icmp .lt 5, 3) := by decide +kernel
theorem dX0_pairFor_48 : decode cX0_pairFor 48 = .ok (.iconst (-1), 1) := by decide +kernel
theorem dX0_pairFor_49 : decode cX0_pairFor 49 = .ok (.ireturn, 1) := by decide +kernel
theorem dX0_pairFor_50 : decode cX0_pairFor 50 = .ok (.aload_n 0, 1) := by decide +kernel
theorem dX0_pairFor_51 : decode cX0_pairFor 51 = .ok (.getfield 9, 3) := by decide +kernel
theorem dX0_pairFor_54 : decode cX0_pairFor 54 = .ok (.aload_n 0, 1) := by decide +kernel
theorem dX0_pairFor_55 : decode cX0_pairFor 55 = .ok (.getfield 28, 3) := by decide +kernel
theorem dX0_pairFor_58 : decode cX0_pairFor 58 = .ok (.iload_n 1, 1) := by decide +kernel
theorem dX0_pairFor_59 : decode cX0_pairFor 59 = .ok (.iastore, 1) := by decide +kernel
theorem dX0_pairFor_60 : decode cX0_pairFor 60 = .ok (.aload_n 0, 1) := by decide +kernel
theorem dX0_pairFor_61 : decode cX0_pairFor 61 = .ok (.getfield 15, 3) := by decide +kernel
theorem dX0_pairFor_64 : decode cX0_pairFor 64 = .ok (.aload_n 0, 1) := by decide +kernel
theorem dX0_pairFor_65 : decode cX0_pairFor 65 = .ok (.getfield 28, 3) := by decide +kernel
theorem dX0_pairFor_68 : decode cX0_pairFor 68 = .ok (.iload_n 2, 1) := by decide +kernel
theorem dX0_pairFor_69 : decode cX0_pairFor 69 = .ok (.iastore, 1) := by decide +kernel
theorem dX0_pairFor_70 : decode cX0_pairFor 70 = .ok (.aload_n 0, 1) := by decide +kernel
theorem dX0_pairFor_71 : decode cX0_pairFor 71 = .ok (.getfield 18, 3) := by decide +kernel
theorem dX0_pairFor_74 : decode cX0_pairFor 74 = .ok (.aload_n 0, 1) := by decide +kernel
theorem dX0_pairFor_75 : decode cX0_pairFor 75 = .ok (.getfield 28, 3) := by decide +kernel
theorem dX0_pairFor_78 : decode cX0_pairFor 78 = .ok (.lconst 0, 1) := by decide +kernel
theorem dX0_pairFor_79 : decode cX0_pairFor 79 = .ok (.lastore, 1) := by decide +kernel
theorem dX0_pairFor_80 : decode cX0_pairFor 80 = .ok (.aload_n 0, 1) := by decide +kernel
theorem dX0_pairFor_81 : decode cX0_pairFor 81 = .ok (.dup, 1) := by decide +kernel
theorem dX0_pairFor_82 : decode cX0_pairFor 82 = .ok (.getfield 28, 3) := by decide +kernel
theorem dX0_pairFor_85 : decode cX0_pairFor 85 = .ok (.iconst 1, 1) := by decide +kernel
theorem dX0_pairFor_86 : decode cX0_pairFor 86 = .ok (.iadd, 1) := by decide +kernel
theorem dX0_pairFor_87 : decode cX0_pairFor 87 = .ok (.putfield 28, 3) := by decide +kernel
theorem dX0_pairFor_90 : decode cX0_pairFor 90 = .ok (.aload_n 0, 1) := by decide +kernel
theorem dX0_pairFor_91 : decode cX0_pairFor 91 = .ok (.getfield 28, 3) := by decide +kernel
theorem dX0_pairFor_94 : decode cX0_pairFor 94 = .ok (.iconst 1, 1) := by decide +kernel
theorem dX0_pairFor_95 : decode cX0_pairFor 95 = .ok (.isub, 1) := by decide +kernel
theorem dX0_pairFor_96 : decode cX0_pairFor 96 = .ok (.ireturn, 1) := by decide +kernel
theorem dX0_raise_0 : decode cX0_raise 0 = .ok (.aload_n 0, 1) := by decide +kernel
theorem dX0_raise_1 : decode cX0_raise 1 = .ok (.getfield 18, 3) := by decide +kernel
theorem dX0_raise_4 : decode cX0_raise 4 = .ok (.iload_n 1, 1) := by decide +kernel
theorem dX0_raise_5 : decode cX0_raise 5 = .ok (.laload, 1) := by decide +kernel
theorem dX0_raise_6 : decode cX0_raise 6 = .ok (.iload_n 2, 1) := by decide +kernel
theorem dX0_raise_7 : decode cX0_raise 7 = .ok (.i2l, 1) := by decide +kernel
theorem dX0_raise_8 : decode cX0_raise 8 = .ok (.ladd, 1) := by decide +kernel
theorem dX0_raise_9 : decode cX0_raise 9 = .ok (.ldc2_w 38, 3) := by decide +kernel
theorem dX0_raise_12 : decode cX0_raise 12 = .ok (.invokestatic 40, 3) := by decide +kernel
theorem dX0_raise_15 : decode cX0_raise 15 = .ok (.lstore_n 3, 1) := by decide +kernel
theorem dX0_raise_16 : decode cX0_raise 16 = .ok (.aload_n 0, 1) := by decide +kernel
theorem dX0_raise_17 : decode cX0_raise 17 = .ok (.getfield 22, 3) := by decide +kernel
theorem dX0_raise_20 : decode cX0_raise 20 = .ok (.aload_n 0, 1) := by decide +kernel
theorem dX0_raise_21 : decode cX0_raise 21 = .ok (.getfield 15, 3) := by decide +kernel
theorem dX0_raise_24 : decode cX0_raise 24 = .ok (.iload_n 1, 1) := by decide +kernel
theorem dX0_raise_25 : decode cX0_raise 25 = .ok (.iaload, 1) := by decide +kernel
theorem dX0_raise_26 : decode cX0_raise 26 = .ok (.dup2, 1) := by decide +kernel
theorem dX0_raise_27 : decode cX0_raise 27 = .ok (.laload, 1) := by decide +kernel
theorem dX0_raise_28 : decode cX0_raise 28 = .ok (.lload_n 3, 1) := by decide +kernel
theorem dX0_raise_29 : decode cX0_raise 29 = .ok (.aload_n 0, 1) := by decide +kernel
theorem dX0_raise_30 : decode cX0_raise 30 = .ok (.getfield 18, 3) := by decide +kernel
theorem dX0_raise_33 : decode cX0_raise 33 = .ok (.iload_n 1, 1) := by decide +kernel
theorem dX0_raise_34 : decode cX0_raise 34 = .ok (.laload, 1) := by decide +kernel
theorem dX0_raise_35 : decode cX0_raise 35 = .ok (.lsub, 1) := by decide +kernel
theorem dX0_raise_36 : decode cX0_raise 36 = .ok (.ladd, 1) := by decide +kernel
theorem dX0_raise_37 : decode cX0_raise 37 = .ok (.lastore, 1) := by decide +kernel
theorem dX0_raise_38 : decode cX0_raise 38 = .ok (.aload_n 0, 1) := by decide +kernel
theorem dX0_raise_39 : decode cX0_raise 39 = .ok (.getfield 18, 3) := by decide +kernel
theorem dX0_raise_42 : decode cX0_raise 42 = .ok (.iload_n 1, 1) := by decide +kernel
theorem dX0_raise_43 : decode cX0_raise 43 = .ok (.lload_n 3, 1) := by decide +kernel
theorem dX0_raise_44 : decode cX0_raise 44 = .ok (.lastore, 1) := by decide +kernel
theorem dX0_raise_45 : decode cX0_raise 45 = .ok (.lload_n 3, 1) := by decide +kernel
theorem dX0_raise_46 : decode cX0_raise 46 = .ok (.lreturn, 1) := by decide +kernel
theorem dX0_heatOf_0 : decode cX0_heatOf 0 = .ok (.aload_n 0, 1) := by decide +kernel
theorem dX0_heatOf_1 : decode cX0_heatOf 1 = .ok (.getfield 22, 3) := by decide +kernel
theorem dX0_heatOf_4 : decode cX0_heatOf 4 = .ok (.iload_n 1, 1) := by decide +kernel
theorem dX0_heatOf_5 : decode cX0_heatOf 5 = .ok (.laload, 1) := by decide +kernel
theorem dX0_heatOf_6 : decode cX0_heatOf 6 = .ok (.lreturn, 1) := by decide +kernel
theorem dX0_callerOf_0 : decode cX0_callerOf 0 = .ok (.aload_n 0, 1) := by decide +kernel
theorem dX0_callerOf_1 : decode cX0_callerOf 1 = .ok (.getfield 25, 3) := by decide +kernel
theorem dX0_callerOf_4 : decode cX0_callerOf 4 = .ok (.iload_n 1, 1) := by decide +kernel
theorem dX0_callerOf_5 : decode cX0_callerOf 5 = .ok (.iaload, 1) := by decide +kernel
theorem dX0_callerOf_6 : decode cX0_callerOf 6 = .ok (.iconst (-1), 1) := by decide +kernel
theorem dX0_callerOf_7 : decode cX0_callerOf 7 = .ok (.if_icmp .ne 7, 3) := by decide +kernel
theorem dX0_callerOf_10 : decode cX0_callerOf 10 = .ok (.iconst (-1), 1) := by decide +kernel
theorem dX0_callerOf_11 : decode cX0_callerOf 11 = .ok (.goto 14, 3) := by decide +kernel
theorem dX0_callerOf_14 : decode cX0_callerOf 14 = .ok (.aload_n 0, 1) := by decide +kernel
theorem dX0_callerOf_15 : decode cX0_callerOf 15 = .ok (.getfield 9, 3) := by decide +kernel
theorem dX0_callerOf_18 : decode cX0_callerOf 18 = .ok (.aload_n 0, 1) := by decide +kernel
theorem dX0_callerOf_19 : decode cX0_callerOf 19 = .ok (.getfield 25, 3) := by decide +kernel
theorem dX0_callerOf_22 : decode cX0_callerOf 22 = .ok (.iload_n 1, 1) := by decide +kernel
theorem dX0_callerOf_23 : decode cX0_callerOf 23 = .ok (.iaload, 1) := by decide +kernel
theorem dX0_callerOf_24 : decode cX0_callerOf 24 = .ok (.iaload, 1) := by decide +kernel
theorem dX0_callerOf_25 : decode cX0_callerOf 25 = .ok (.ireturn, 1) := by decide +kernel
set_option maxRecDepth 20000 in
theorem ggX0_findCallers_J7_fill_53178 : GoodIn wsX0_findCallers wsJ7_fill_53178 := goodIn_r _ [8] (by decide +kernel) (by decide +kernel)
set_option maxRecDepth 20000 in
theorem gX0_findCallers_J7_fill_53178 : GoodIn wsX0_findCallers (va_wsS RX0 46 yJ7_fill_53178 wsJ7_fill_53178) := goodIn_app (goodIn_of _ (by decide +kernel)) ggX0_findCallers_J7_fill_53178
set_option maxRecDepth 20000 in
theorem ggX0_findCallers_X0_isStronger : GoodIn wsX0_findCallers wsX0_isStronger := goodIn_r _ [13, 14, 3, 15, 16, 17, 18, 19, 20] (by decide +kernel) (by decide +kernel)
set_option maxRecDepth 20000 in
theorem gX0_findCallers_X0_isStronger : GoodIn wsX0_findCallers (wsV RX0 49 RX0 yX0_isStronger wsX0_isStronger) := goodIn_app (goodIn_of _ (by decide +kernel)) ggX0_findCallers_X0_isStronger
theorem dX0_findCallers_0 : decode cX0_findCallers 0 = .ok (.aload_n 0, 1) := by decide +kernel
theorem dX0_findCallers_1 : decode cX0_findCallers 1 = .ok (.getfield 25, 3) := by decide +kernel
theorem dX0_findCallers_4 : decode cX0_findCallers 4 = .ok (.iconst (-1), 1) := by decide +kernel
theorem dX0_findCallers_5 : decode cX0_findCallers 5 = .ok (.invokestatic 46, 3) := by decide +kernel
theorem dX0_findCallers_8 : decode cX0_findCallers 8 = .ok (.iconst 0, 1) := by decide +kernel
theorem dX0_findCallers_9 : decode cX0_findCallers 9 = .ok (.istore_n 2, 1) := by decide +kernel
theorem dX0_findCallers_10 : decode cX0_findCallers 10 = .ok (.iload_n 2, 1) := by decide +kernel
theorem dX0_findCallers_11 : decode cX0_findCallers 11 = .ok (.aload_n 0, 1) := by decide +kernel
theorem dX0_findCallers_12 : decode cX0_findCallers 12 = .ok (.getfield 28, 3) := by decide +kernel
theorem dX0_findCallers_15 : decode cX0_findCallers 15 = .ok (.if_icmp .ge 66, 3) := by decide +kernel
theorem dX0_findCallers_18 : decode cX0_findCallers 18 = .ok (.aload_n 0, 1) := by decide +kernel
theorem dX0_findCallers_19 : decode cX0_findCallers 19 = .ok (.getfield 9, 3) := by decide +kernel
theorem dX0_findCallers_22 : decode cX0_findCallers 22 = .ok (.iload_n 2, 1) := by decide +kernel
theorem dX0_findCallers_23 : decode cX0_findCallers 23 = .ok (.iaload, 1) := by decide +kernel
theorem dX0_findCallers_24 : decode cX0_findCallers 24 = .ok (.aload_n 0, 1) := by decide +kernel
theorem dX0_findCallers_25 : decode cX0_findCallers 25 = .ok (.getfield 15, 3) := by decide +kernel
theorem dX0_findCallers_28 : decode cX0_findCallers 28 = .ok (.iload_n 2, 1) := by decide +kernel
theorem dX0_findCallers_29 : decode cX0_findCallers 29 = .ok (.iaload, 1) := by decide +kernel
theorem dX0_findCallers_30 : decode cX0_findCallers 30 = .ok (.if_icmp .eq 45, 3) := by decide +kernel
theorem dX0_findCallers_33 : decode cX0_findCallers 33 = .ok (.aload_n 1, 1) := by decide +kernel
theorem dX0_findCallers_34 : decode cX0_findCallers 34 = .ok (.aload_n 0, 1) := by decide +kernel
theorem dX0_findCallers_35 : decode cX0_findCallers 35 = .ok (.getfield 9, 3) := by decide +kernel
theorem dX0_findCallers_38 : decode cX0_findCallers 38 = .ok (.iload_n 2, 1) := by decide +kernel
theorem dX0_findCallers_39 : decode cX0_findCallers 39 = .ok (.iaload, 1) := by decide +kernel
theorem dX0_findCallers_40 : decode cX0_findCallers 40 = .ok (.iaload, 1) := by decide +kernel
theorem dX0_findCallers_41 : decode cX0_findCallers 41 = .ok (.ifCond .le 34, 3) := by decide +kernel
theorem dX0_findCallers_44 : decode cX0_findCallers 44 = .ok (.aload_n 0, 1) := by decide +kernel
theorem dX0_findCallers_45 : decode cX0_findCallers 45 = .ok (.iload_n 2, 1) := by decide +kernel
theorem dX0_findCallers_46 : decode cX0_findCallers 46 = .ok (.aload_n 0, 1) := by decide +kernel
theorem dX0_findCallers_47 : decode cX0_findCallers 47 = .ok (.getfield 25, 3) := by decide +kernel
theorem dX0_findCallers_50 : decode cX0_findCallers 50 = .ok (.aload_n 0, 1) := by decide +kernel
theorem dX0_findCallers_51 : decode cX0_findCallers 51 = .ok (.getfield 15, 3) := by decide +kernel
theorem dX0_findCallers_54 : decode cX0_findCallers 54 = .ok (.iload_n 2, 1) := by decide +kernel
theorem dX0_findCallers_55 : decode cX0_findCallers 55 = .ok (.iaload, 1) := by decide +kernel
theorem dX0_findCallers_56 : decode cX0_findCallers 56 = .ok (.iaload, 1) := by decide +kernel
theorem dX0_findCallers_57 : decode cX0_findCallers 57 = .ok (.invokevirtual 49, 3) := by decide +kernel
theorem dX0_findCallers_60 : decode cX0_findCallers 60 = .ok (.ifCond .eq 15, 3) := by decide +kernel
theorem dX0_findCallers_63 : decode cX0_findCallers 63 = .ok (.aload_n 0, 1) := by decide +kernel
theorem dX0_findCallers_64 : decode cX0_findCallers 64 = .ok (.getfield 25, 3) := by decide +kernel
theorem dX0_findCallers_67 : decode cX0_findCallers 67 = .ok (.aload_n 0, 1) := by decide +kernel
theorem dX0_findCallers_68 : decode cX0_findCallers 68 = .ok (.getfield 15, 3) := by decide +kernel
theorem dX0_findCallers_71 : decode cX0_findCallers 71 = .ok (.iload_n 2, 1) := by decide +kernel
theorem dX0_findCallers_72 : decode cX0_findCallers 72 = .ok (.iaload, 1) := by decide +kernel
theorem dX0_findCallers_73 : decode cX0_findCallers 73 = .ok (.iload_n 2, 1) := by decide +kernel
theorem dX0_findCallers_74 : decode cX0_findCallers 74 = .ok (.iastore, 1) := by decide +kernel
theorem dX0_findCallers_75 : decode cX0_findCallers 75 = .ok (.iinc 2 1, 3) := by decide +kernel
theorem dX0_findCallers_78 : decode cX0_findCallers 78 = .ok (.goto (-68), 3) := by decide +kernel
theorem dX0_findCallers_81 : decode cX0_findCallers 81 = .ok (.return_, 1) := by decide +kernel
theorem dX0_isStronger_0 : decode cX0_isStronger 0 = .ok (.iload_n 2, 1) := by decide +kernel
theorem dX0_isStronger_1 : decode cX0_isStronger 1 = .ok (.iconst (-1), 1) := by decide +kernel
theorem dX0_isStronger_2 : decode cX0_isStronger 2 = .ok (.if_icmp .eq 19, 3) := by decide +kernel
theorem dX0_isStronger_5 : decode cX0_isStronger 5 = .ok (.aload_n 0, 1) := by decide +kernel
theorem dX0_isStronger_6 : decode cX0_isStronger 6 = .ok (.getfield 18, 3) := by decide +kernel
theorem dX0_isStronger_9 : decode cX0_isStronger 9 = .ok (.iload_n 1, 1) := by decide +kernel
theorem dX0_isStronger_10 : decode cX0_isStronger 10 = .ok (.laload, 1) := by decide +kernel
theorem dX0_isStronger_11 : decode cX0_isStronger 11 = .ok (.aload_n 0, 1) := by decide +kernel
theorem dX0_isStronger_12 : decode cX0_isStronger 12 = .ok (.getfield 18, 3) := by decide +kernel
theorem dX0_isStronger_15 : decode cX0_isStronger 15 = .ok (.iload_n 2, 1) := by decide +kernel
theorem dX0_isStronger_16 : decode cX0_isStronger 16 = .ok (.laload, 1) := by decide +kernel
theorem dX0_isStronger_17 : decode cX0_isStronger 17 = .ok (.lcmp, 1) := by decide +kernel
theorem dX0_isStronger_18 : decode cX0_isStronger 18 = .ok (.ifCond .le 5, 3) := by decide +kernel
theorem dX0_isStronger_21 : decode cX0_isStronger 21 = .ok (.iconst 1, 1) := by decide +kernel
theorem dX0_isStronger_22 : decode cX0_isStronger 22 = .ok (.ireturn, 1) := by decide +kernel
theorem dX0_isStronger_23 : decode cX0_isStronger 23 = .ok (.aload_n 0, 1) := by decide +kernel
theorem dX0_isStronger_24 : decode cX0_isStronger 24 = .ok (.getfield 18, 3) := by decide +kernel
theorem dX0_isStronger_27 : decode cX0_isStronger 27 = .ok (.iload_n 1, 1) := by decide +kernel
theorem dX0_isStronger_28 : decode cX0_isStronger 28 = .ok (.laload, 1) := by decide +kernel
theorem dX0_isStronger_29 : decode cX0_isStronger 29 = .ok (.aload_n 0, 1) := by decide +kernel
theorem dX0_isStronger_30 : decode cX0_isStronger 30 = .ok (.getfield 18, 3) := by decide +kernel
theorem dX0_isStronger_33 : decode cX0_isStronger 33 = .ok (.iload_n 2, 1) := by decide +kernel
theorem dX0_isStronger_34 : decode cX0_isStronger 34 = .ok (.laload, 1) := by decide +kernel
theorem dX0_isStronger_35 : decode cX0_isStronger 35 = .ok (.lcmp, 1) := by decide +kernel
theorem dX0_isStronger_36 : decode cX0_isStronger 36 = .ok (.ifCond .ne 22, 3) := by decide +kernel
theorem dX0_isStronger_39 : decode cX0_isStronger 39 = .ok (.aload_n 0, 1) := by decide +kernel
theorem dX0_isStronger_40 : decode cX0_isStronger 40 = .ok (.getfield 9, 3) := by decide +kernel
theorem dX0_isStronger_43 : decode cX0_isStronger 43 = .ok (.iload_n 1, 1) := by decide +kernel
theorem dX0_isStronger_44 : decode cX0_isStronger 44 = .ok (.iaload, 1) := by decide +kernel
theorem dX0_isStronger_45 : decode cX0_isStronger 45 = .ok (.aload_n 0, 1) := by decide +kernel
theorem dX0_isStronger_46 : decode cX0_isStronger 46 = .ok (.getfield 9, 3) := by decide +kernel
theorem dX0_isStronger_49 : decode cX0_isStronger 49 = .ok (.iload_n 2, 1) := by decide +kernel
theorem dX0_isStronger_50 : decode cX0_isStronger 50 = .ok (.iaload, 1) := by decide +kernel
theorem dX0_isStronger_51 : decode cX0_isStronger 51 = .ok (.if_icmp .ge 7, 3) := by decide +kernel
theorem dX0_isStronger_54 : decode cX0_isStronger 54 = .ok (.iconst 1, 1) := by decide +kernel
theorem dX0_isStronger_55 : decode cX0_isStronger 55 = .ok (.goto 4, 3) := by decide +kernel
theorem dX0_isStronger_58 : decode cX0_isStronger 58 = .ok (.iconst 0, 1) := by decide +kernel
theorem dX0_isStronger_59 : decode cX0_isStronger 59 = .ok (.ireturn, 1) := by decide +kernel
set_option maxRecDepth 20000 in
theorem ggX0_costIn_X2_beginOf : GoodIn wsX0_costIn wsX2_beginOf := goodIn_r _ [14, 15, 22, 23, 24, 25] (by decide +kernel) (by decide +kernel)
set_option maxRecDepth 20000 in
theorem gX0_costIn_X2_beginOf : GoodIn wsX0_costIn (wsV RX0 53 RX2 yX2_beginOf wsX2_beginOf) := goodIn_app (goodIn_of _ (by decide +kernel)) ggX0_costIn_X2_beginOf
theorem dX0_costIn_0 : decode cX0_costIn 0 = .ok (.lconst 0, 1) := by decide +kernel
theorem dX0_costIn_1 : decode cX0_costIn 1 = .ok (.lstore_n 2, 1) := by decide +kernel
theorem dX0_costIn_2 : decode cX0_costIn 2 = .ok (.iconst 0, 1) := by decide +kernel
theorem dX0_costIn_3 : decode cX0_costIn 3 = .ok (.istore 4, 2) := by decide +kernel
theorem dX0_costIn_5 : decode cX0_costIn 5 = .ok (.iload 4, 2) := by decide +kernel
theorem dX0_costIn_7 : decode cX0_costIn 7 = .ok (.aload_n 0, 1) := by decide +kernel
theorem dX0_costIn_8 : decode cX0_costIn 8 = .ok (.getfield 28, 3) := by decide +kernel
theorem dX0_costIn_11 : decode cX0_costIn 11 = .ok (.if_icmp .ge 72, 3) := by decide +kernel
theorem dX0_costIn_14 : decode cX0_costIn 14 = .ok (.aload_n 1, 1) := by decide +kernel
theorem dX0_costIn_15 : decode cX0_costIn 15 = .ok (.aload_n 0, 1) := by decide +kernel
theorem dX0_costIn_16 : decode cX0_costIn 16 = .ok (.getfield 9, 3) := by decide +kernel
theorem dX0_costIn_19 : decode cX0_costIn 19 = .ok (.iload 4, 2) := by decide +kernel
theorem dX0_costIn_21 : decode cX0_costIn 21 = .ok (.iaload, 1) := by decide +kernel
theorem dX0_costIn_22 : decode cX0_costIn 22 = .ok (.invokevirtual 53, 3) := by decide +kernel
theorem dX0_costIn_25 : decode cX0_costIn 25 = .ok (.lstore 5, 2) := by decide +kernel
theorem dX0_costIn_27 : decode cX0_costIn 27 = .ok (.aload_n 1, 1) := by decide +kernel
theorem dX0_costIn_28 : decode cX0_costIn 28 = .ok (.aload_n 0, 1) := by decide +kernel
theorem dX0_costIn_29 : decode cX0_costIn 29 = .ok (.getfield 15, 3) := by decide +kernel
theorem dX0_costIn_32 : decode cX0_costIn 32 = .ok (.iload 4, 2) := by decide +kernel
theorem dX0_costIn_34 : decode cX0_costIn 34 = .ok (.iaload, 1) := by decide +kernel
theorem dX0_costIn_35 : decode cX0_costIn 35 = .ok (.invokevirtual 53, 3) := by decide +kernel
theorem dX0_costIn_38 : decode cX0_costIn 38 = .ok (.lstore 7, 2) := by decide +kernel
theorem dX0_costIn_40 : decode cX0_costIn 40 = .ok (.lload 5, 2) := by decide +kernel
theorem dX0_costIn_42 : decode cX0_costIn 42 = .ok (.ldc2_w 59, 3) := by decide +kernel
theorem dX0_costIn_45 : decode cX0_costIn 45 = .ok (.lcmp, 1) := by decide +kernel
theorem dX0_costIn_46 : decode cX0_costIn 46 = .ok (.ifCond .eq 31, 3) := by decide +kernel
theorem dX0_costIn_49 : decode cX0_costIn 49 = .ok (.lload 7, 2) := by decide +kernel
theorem dX0_costIn_51 : decode cX0_costIn 51 = .ok (.ldc2_w 59, 3) := by decide +kernel
theorem dX0_costIn_54 : decode cX0_costIn 54 = .ok (.lcmp, 1) := by decide +kernel
theorem dX0_costIn_55 : decode cX0_costIn 55 = .ok (.ifCond .eq 22, 3) := by decide +kernel
theorem dX0_costIn_58 : decode cX0_costIn 58 = .ok (.lload_n 2, 1) := by decide +kernel
theorem dX0_costIn_59 : decode cX0_costIn 59 = .ok (.aload_n 0, 1) := by decide +kernel
theorem dX0_costIn_60 : decode cX0_costIn 60 = .ok (.getfield 18, 3) := by decide +kernel
theorem dX0_costIn_63 : decode cX0_costIn 63 = .ok (.iload 4, 2) := by decide +kernel
theorem dX0_costIn_65 : decode cX0_costIn 65 = .ok (.laload, 1) := by decide +kernel
theorem dX0_costIn_66 : decode cX0_costIn 66 = .ok (.lload 5, 2) := by decide +kernel
theorem dX0_costIn_68 : decode cX0_costIn 68 = .ok (.lload 7, 2) := by decide +kernel
theorem dX0_costIn_70 : decode cX0_costIn 70 = .ok (.lsub, 1) := by decide +kernel
theorem dX0_costIn_71 : decode cX0_costIn 71 = .ok (.invokestatic 61, 3) := by decide +kernel
theorem dX0_costIn_74 : decode cX0_costIn 74 = .ok (.lmul, 1) := by decide +kernel
theorem dX0_costIn_75 : decode cX0_costIn 75 = .ok (.ladd, 1) := by decide +kernel
theorem dX0_costIn_76 : decode cX0_costIn 76 = .ok (.lstore_n 2, 1) := by decide +kernel
theorem dX0_costIn_77 : decode cX0_costIn 77 = .ok (.iinc 4 1, 3) := by decide +kernel
theorem dX0_costIn_80 : decode cX0_costIn 80 = .ok (.goto (-75), 3) := by decide +kernel
theorem dX0_costIn_83 : decode cX0_costIn 83 = .ok (.lload_n 2, 1) := by decide +kernel
theorem dX0_costIn_84 : decode cX0_costIn 84 = .ok (.lreturn, 1) := by decide +kernel
