theorem dX1_init_0 : decode cX1_init 0 = .ok (.aload_n 0, 1) := by decide +kernel
theorem dX1_init_1 : decode cX1_init 1 = .ok (.invokespecial 3, 3) := by decide +kernel
theorem dX1_init_4 : decode cX1_init 4 = .ok (.aload_n 0, 1) := by decide +kernel
theorem dX1_init_5 : decode cX1_init 5 = .ok (.sipush 300, 3) := by decide +kernel
theorem dX1_init_8 : decode cX1_init 8 = .ok (.newarray .int, 2) := by decide +kernel
theorem dX1_init_10 : decode cX1_init 10 = .ok (.putfield 9, 3) := by decide +kernel
theorem dX1_init_13 : decode cX1_init 13 = .ok (.aload_n 0, 1) := by decide +kernel
theorem dX1_init_14 : decode cX1_init 14 = .ok (.sipush 300, 3) := by decide +kernel
theorem dX1_init_17 : decode cX1_init 17 = .ok (.newarray .int, 2) := by decide +kernel
theorem dX1_init_19 : decode cX1_init 19 = .ok (.putfield 15, 3) := by decide +kernel
theorem dX1_init_22 : decode cX1_init 22 = .ok (.aload_n 0, 1) := by decide +kernel
theorem dX1_init_23 : decode cX1_init 23 = .ok (.sipush 300, 3) := by decide +kernel
theorem dX1_init_26 : decode cX1_init 26 = .ok (.newarray .int, 2) := by decide +kernel
theorem dX1_init_28 : decode cX1_init 28 = .ok (.putfield 18, 3) := by decide +kernel
theorem dX1_init_31 : decode cX1_init 31 = .ok (.aload_n 0, 1) := by decide +kernel
theorem dX1_init_32 : decode cX1_init 32 = .ok (.sipush 300, 3) := by decide +kernel
theorem dX1_init_35 : decode cX1_init 35 = .ok (.newarray .int, 2) := by decide +kernel
theorem dX1_init_37 : decode cX1_init 37 = .ok (.putfield 21, 3) := by decide +kernel
theorem dX1_init_40 : decode cX1_init 40 = .ok (.aload_n 0, 1) := by decide +kernel
theorem dX1_init_41 : decode cX1_init 41 = .ok (.sipush 300, 3) := by decide +kernel
theorem dX1_init_44 : decode cX1_init 44 = .ok (.newarray .long, 2) := by decide +kernel
theorem dX1_init_46 : decode cX1_init 46 = .ok (.putfield 24, 3) := by decide +kernel
theorem dX1_init_49 : decode cX1_init 49 = .ok (.aload_n 0, 1) := by decide +kernel
theorem dX1_init_50 : decode cX1_init 50 = .ok (.sipush 300, 3) := by decide +kernel
theorem dX1_init_53 : decode cX1_init 53 = .ok (.newarray .long, 2) := by decide +kernel
theorem dX1_init_55 : decode cX1_init 55 = .ok (.putfield 28, 3) := by decide +kernel
theorem dX1_init_58 : decode cX1_init 58 = .ok (.aload_n 0, 1) := by decide +kernel
theorem dX1_init_59 : decode cX1_init 59 = .ok (.sipush 300, 3) := by decide +kernel
theorem dX1_init_62 : decode cX1_init 62 = .ok (.newarray .int, 2) := by decide +kernel
theorem dX1_init_64 : decode cX1_init 64 = .ok (.putfield 31, 3) := by decide +kernel
theorem dX1_init_67 : decode cX1_init 67 = .ok (.aload_n 0, 1) := by decide +kernel
theorem dX1_init_68 : decode cX1_init 68 = .ok (.sipush 300, 3) := by decide +kernel
theorem dX1_init_71 : decode cX1_init 71 = .ok (.newarray .int, 2) := by decide +kernel
theorem dX1_init_73 : decode cX1_init 73 = .ok (.putfield 34, 3) := by decide +kernel
theorem dX1_init_76 : decode cX1_init 76 = .ok (.return_, 1) := by decide +kernel
set_option maxRecDepth 20000 in
theorem ggX1_build_X1_standAlone : GoodIn wsX1_build wsX1_standAlone := goodIn_r _ [8, 1, 9, 10, 11, 3, 12, 13, 14, 15, 16, 17, 18, 47, 48, 49, 50, 51, 52, 53, 54, 55, 56, 57, 58, 59, 60, 61] (by decide +kernel) (by decide +kernel)
set_option maxRecDepth 20000 in
theorem gX1_build_X1_standAlone : GoodIn wsX1_build (wsV RX1 37 RX1 yX1_standAlone wsX1_standAlone) := goodIn_app (goodIn_of _ (by decide +kernel)) ggX1_build_X1_standAlone
set_option maxRecDepth 20000 in
theorem ggX1_build_X1_orderByHeat : GoodIn wsX1_build wsX1_orderByHeat := goodIn_r _ [22, 1, 12, 2, 23, 24, 25, 16, 26, 27, 28, 47, 48, 49, 50, 51, 52, 53, 54, 55, 56, 57, 58, 59, 60, 61] (by decide +kernel) (by decide +kernel)
set_option maxRecDepth 20000 in
theorem gX1_build_X1_orderByHeat : GoodIn wsX1_build (wsV RX1 41 RX1 yX1_orderByHeat wsX1_orderByHeat) := goodIn_app (goodIn_of _ (by decide +kernel)) ggX1_build_X1_orderByHeat
set_option maxRecDepth 20000 in
theorem ggX1_build_X0_callerOf : GoodIn wsX1_build wsX0_callerOf := goodIn_r _ [26, 27, 28, 56, 57, 58, 59, 60, 61] (by decide +kernel) (by decide +kernel)
set_option maxRecDepth 20000 in
theorem gX1_build_X0_callerOf : GoodIn wsX1_build (wsV RX1 45 RX0 yX0_callerOf wsX0_callerOf) := goodIn_app (goodIn_of _ (by decide +kernel)) ggX1_build_X0_callerOf
set_option maxRecDepth 20000 in
theorem ggX1_build_X1_join : GoodIn wsX1_build wsX1_join := goodIn_r _ [32, 1, 9, 10, 11, 33, 34, 35, 36, 3, 12, 47, 48, 49, 50, 51, 52, 53, 54, 55] (by decide +kernel) (by decide +kernel)
set_option maxRecDepth 20000 in
theorem gX1_build_X1_join : GoodIn wsX1_build (wsV RX1 51 RX1 yX1_join wsX1_join) := goodIn_app (goodIn_of _ (by decide +kernel)) ggX1_build_X1_join
set_option maxRecDepth 20000 in
theorem ggX1_build_X1_rank : GoodIn wsX1_build wsX1_rank := goodIn_r _ [40, 41, 1, 11, 42, 43, 44, 45, 7, 46, 3, 12, 47, 48, 49, 50, 51, 52, 53, 54, 55] (by decide +kernel) (by decide +kernel)
set_option maxRecDepth 20000 in
theorem gX1_build_X1_rank : GoodIn wsX1_build (wsV RX1 55 RX1 yX1_rank wsX1_rank) := goodIn_app (goodIn_of _ (by decide +kernel)) ggX1_build_X1_rank
theorem dX1_build_0 : decode cX1_build 0 = .ok (.aload_n 0, 1) := by decide +kernel
theorem dX1_build_1 : decode cX1_build 1 = .ok (.aload_n 1, 1) := by decide +kernel
theorem dX1_build_2 : decode cX1_build 2 = .ok (.aload_n 2, 1) := by decide +kernel
theorem dX1_build_3 : decode cX1_build 3 = .ok (.invokevirtual 37, 3) := by decide +kernel
theorem dX1_build_6 : decode cX1_build 6 = .ok (.aload_n 0, 1) := by decide +kernel
theorem dX1_build_7 : decode cX1_build 7 = .ok (.aload_n 2, 1) := by decide +kernel
theorem dX1_build_8 : decode cX1_build 8 = .ok (.invokevirtual 41, 3) := by decide +kernel
theorem dX1_build_11 : decode cX1_build 11 = .ok (.istore 4, 2) := by decide +kernel
theorem dX1_build_13 : decode cX1_build 13 = .ok (.iconst 0, 1) := by decide +kernel
theorem dX1_build_14 : decode cX1_build 14 = .ok (.istore 5, 2) := by decide +kernel
theorem dX1_build_16 : decode cX1_build 16 = .ok (.iload 5, 2) := by decide +kernel
theorem dX1_build_18 : decode cX1_build 18 = .ok (.iload 4, 2) := by decide +kernel
theorem dX1_build_20 : decode cX1_build 20 = .ok (.if_icmp .ge 77, 3) := by decide +kernel
theorem dX1_build_23 : decode cX1_build 23 = .ok (.aload_n 0, 1) := by decide +kernel
theorem dX1_build_24 : decode cX1_build 24 = .ok (.getfield 9, 3) := by decide +kernel
theorem dX1_build_27 : decode cX1_build 27 = .ok (.aload_n 2, 1) := by decide +kernel
theorem dX1_build_28 : decode cX1_build 28 = .ok (.aload_n 0, 1) := by decide +kernel
theorem dX1_build_29 : decode cX1_build 29 = .ok (.getfield 31, 3) := by decide +kernel
theorem dX1_build_32 : decode cX1_build 32 = .ok (.iload 5, 2) := by decide +kernel
theorem dX1_build_34 : decode cX1_build 34 = .ok (.iaload, 1) := by decide +kernel
theorem dX1_build_35 : decode cX1_build 35 = .ok (.invokevirtual 45, 3) := by decide +kernel
theorem dX1_build_38 : decode cX1_build 38 = .ok (.iaload, 1) := by decide +kernel
theorem dX1_build_39 : decode cX1_build 39 = .ok (.istore 6, 2) := by decide +kernel
theorem dX1_build_41 : decode cX1_build 41 = .ok (.aload_n 0, 1) := by decide +kernel
theorem dX1_build_42 : decode cX1_build 42 = .ok (.getfield 9, 3) := by decide +kernel
theorem dX1_build_45 : decode cX1_build 45 = .ok (.aload_n 0, 1) := by decide +kernel
theorem dX1_build_46 : decode cX1_build 46 = .ok (.getfield 31, 3) := by decide +kernel
theorem dX1_build_49 : decode cX1_build 49 = .ok (.iload 5, 2) := by decide +kernel
theorem dX1_build_51 : decode cX1_build 51 = .ok (.iaload, 1) := by decide +kernel
theorem dX1_build_52 : decode cX1_build 52 = .ok (.iaload, 1) := by decide +kernel
theorem dX1_build_53 : decode cX1_build 53 = .ok (.istore 7, 2) := by decide +kernel
theorem dX1_build_55 : decode cX1_build 55 = .ok (.iload 6, 2) := by decide +kernel
theorem dX1_build_57 : decode cX1_build 57 = .ok (.iload 7, 2) := by decide +kernel
theorem dX1_build_59 : decode cX1_build 59 = .ok (.if_icmp .eq 32, 3) := by decide +kernel
theorem dX1_build_62 : decode cX1_build 62 = .ok (.aload_n 0, 1) := by decide +kernel
theorem dX1_build_63 : decode cX1_build 63 = .ok (.getfield 24, 3) := by decide +kernel
theorem dX1_build_66 : decode cX1_build 66 = .ok (.iload 6, 2) := by decide +kernel
theorem dX1_build_68 : decode cX1_build 68 = .ok (.laload, 1) := by decide +kernel
theorem dX1_build_69 : decode cX1_build 69 = .ok (.aload_n 0, 1) := by decide +kernel
theorem dX1_build_70 : decode cX1_build 70 = .ok (.getfield 24, 3) := by decide +kernel
theorem dX1_build_73 : decode cX1_build 73 = .ok (.iload 7, 2) := by decide +kernel
theorem dX1_build_75 : decode cX1_build 75 = .ok (.laload, 1) := by decide +kernel
theorem dX1_build_76 : decode cX1_build 76 = .ok (.ladd, 1) := by decide +kernel
theorem dX1_build_77 : decode cX1_build 77 = .ok (.iload_n 3, 1) := by decide +kernel
theorem dX1_build_78 : decode cX1_build 78 = .ok (.i2l, 1) := by decide +kernel
theorem dX1_build_79 : decode cX1_build 79 = .ok (.lcmp, 1) := by decide +kernel
theorem dX1_build_80 : decode cX1_build 80 = .ok (.ifCond .gt 11, 3) := by decide +kernel
theorem dX1_build_83 : decode cX1_build 83 = .ok (.aload_n 0, 1) := by decide +kernel
theorem dX1_build_84 : decode cX1_build 84 = .ok (.iload 6, 2) := by decide +kernel
theorem dX1_build_86 : decode cX1_build 86 = .ok (.iload 7, 2) := by decide +kernel
theorem dX1_build_88 : decode cX1_build 88 = .ok (.invokevirtual 51, 3) := by decide +kernel
theorem dX1_build_91 : decode cX1_build 91 = .ok (.iinc 5 1, 3) := by decide +kernel
theorem dX1_build_94 : decode cX1_build 94 = .ok (.goto (-78), 3) := by decide +kernel
theorem dX1_build_97 : decode cX1_build 97 = .ok (.aload_n 0, 1) := by decide +kernel
theorem dX1_build_98 : decode cX1_build 98 = .ok (.invokevirtual 55, 3) := by decide +kernel
theorem dX1_build_101 : decode cX1_build 101 = .ok (.return_, 1) := by decide +kernel
theorem dX1_clusterCount_0 : decode cX1_clusterCount 0 = .ok (.aload_n 0, 1) := by decide +kernel
theorem dX1_clusterCount_1 : decode cX1_clusterCount 1 = .ok (.getfield 58, 3) := by decide +kernel
theorem dX1_clusterCount_4 : decode cX1_clusterCount 4 = .ok (.ireturn, 1) := by decide +kernel
theorem dX1_firstOf_0 : decode cX1_firstOf 0 = .ok (.aload_n 0, 1) := by decide +kernel
theorem dX1_firstOf_1 : decode cX1_firstOf 1 = .ok (.getfield 9, 3) := by decide +kernel
theorem dX1_firstOf_4 : decode cX1_firstOf 4 = .ok (.iload_n 1, 1) := by decide +kernel
theorem dX1_firstOf_5 : decode cX1_firstOf 5 = .ok (.iaload, 1) := by decide +kernel
theorem dX1_firstOf_6 : decode cX1_firstOf 6 = .ok (.ireturn, 1) := by decide +kernel
set_option maxRecDepth 20000 in
theorem ggX1_writeTo_X2_empty : GoodIn wsX1_writeTo wsX2_empty := goodIn_r _ [8, 9, 10, 11, 12, 13, 14, 15, 16, 31, 32, 33, 34] (by decide +kernel) (by decide +kernel)
set_option maxRecDepth 20000 in
theorem gX1_writeTo_X2_empty : GoodIn wsX1_writeTo (wsV RX1 62 RX2 yX2_empty wsX2_empty) := goodIn_app (goodIn_of _ (by decide +kernel)) ggX1_writeTo_X2_empty
set_option maxRecDepth 20000 in
theorem ggX1_writeTo_X2_append : GoodIn wsX1_writeTo wsX2_append := goodIn_r _ [20, 9, 21, 11, 10, 31, 32, 33, 34] (by decide +kernel) (by decide +kernel)
set_option maxRecDepth 20000 in
theorem gX1_writeTo_X2_append : GoodIn wsX1_writeTo (wsV RX1 67 RX2 yX2_append wsX2_append) := goodIn_app (goodIn_of _ (by decide +kernel)) ggX1_writeTo_X2_append
theorem dX1_writeTo_0 : decode cX1_writeTo 0 = .ok (.aload_n 1, 1) := by decide +kernel
theorem dX1_writeTo_1 : decode cX1_writeTo 1 = .ok (.invokevirtual 62, 3) := by decide +kernel
theorem dX1_writeTo_4 : decode cX1_writeTo 4 = .ok (.iconst 0, 1) := by decide +kernel
theorem dX1_writeTo_5 : decode cX1_writeTo 5 = .ok (.istore_n 3, 1) := by decide +kernel
theorem dX1_writeTo_6 : decode cX1_writeTo 6 = .ok (.iload_n 3, 1) := by decide +kernel
theorem dX1_writeTo_7 : decode cX1_writeTo 7 = .ok (.aload_n 0, 1) := by decide +kernel
theorem dX1_writeTo_8 : decode cX1_writeTo 8 = .ok (.getfield 58, 3) := by decide +kernel
theorem dX1_writeTo_11 : decode cX1_writeTo 11 = .ok (.if_icmp .ge 59, 3) := by decide +kernel
theorem dX1_writeTo_14 : decode cX1_writeTo 14 = .ok (.aload_n 0, 1) := by decide +kernel
theorem dX1_writeTo_15 : decode cX1_writeTo 15 = .ok (.getfield 34, 3) := by decide +kernel
theorem dX1_writeTo_18 : decode cX1_writeTo 18 = .ok (.iload_n 3, 1) := by decide +kernel
theorem dX1_writeTo_19 : decode cX1_writeTo 19 = .ok (.iaload, 1) := by decide +kernel
theorem dX1_writeTo_20 : decode cX1_writeTo 20 = .ok (.istore 4, 2) := by decide +kernel
theorem dX1_writeTo_22 : decode cX1_writeTo 22 = .ok (.iconst 0, 1) := by decide +kernel
theorem dX1_writeTo_23 : decode cX1_writeTo 23 = .ok (.istore 5, 2) := by decide +kernel
theorem dX1_writeTo_25 : decode cX1_writeTo 25 = .ok (.iload 5, 2) := by decide +kernel
theorem dX1_writeTo_27 : decode cX1_writeTo 27 = .ok (.sipush 300, 3) := by decide +kernel
theorem dX1_writeTo_30 : decode cX1_writeTo 30 = .ok (.if_icmp .ge 34, 3) := by decide +kernel
theorem dX1_writeTo_33 : decode cX1_writeTo 33 = .ok (.iload 4, 2) := by decide +kernel
theorem dX1_writeTo_35 : decode cX1_writeTo 35 = .ok (.iconst (-1), 1) := by decide +kernel
theorem dX1_writeTo_36 : decode cX1_writeTo 36 = .ok (.if_icmp .eq 28, 3) := by decide +kernel
theorem dX1_writeTo_39 : decode cX1_writeTo 39 = .ok (.aload_n 1, 1) := by decide +kernel
theorem dX1_writeTo_40 : decode cX1_writeTo 40 = .ok (.iload 4, 2) := by decide +kernel
theorem dX1_writeTo_42 : decode cX1_writeTo 42 = .ok (.aload_n 2, 1) := by decide +kernel
theorem dX1_writeTo_43 : decode cX1_writeTo 43 = .ok (.iload 4, 2) := by decide +kernel
theorem dX1_writeTo_45 : decode cX1_writeTo 45 = .ok (.iaload, 1) := by decide +kernel
theorem dX1_writeTo_46 : decode cX1_writeTo 46 = .ok (.invokevirtual 67, 3) := by decide +kernel
theorem dX1_writeTo_49 : decode cX1_writeTo 49 = .ok (.aload_n 0, 1) := by decide +kernel
theorem dX1_writeTo_50 : decode cX1_writeTo 50 = .ok (.getfield 15, 3) := by decide +kernel
theorem dX1_writeTo_53 : decode cX1_writeTo 53 = .ok (.iload 4, 2) := by decide +kernel
theorem dX1_writeTo_55 : decode cX1_writeTo 55 = .ok (.iaload, 1) := by decide +kernel
theorem dX1_writeTo_56 : decode cX1_writeTo 56 = .ok (.istore 4, 2) := by decide +kernel
theorem dX1_writeTo_58 : decode cX1_writeTo 58 = .ok (.iinc 5 1, 3) := by decide +kernel
theorem dX1_writeTo_61 : decode cX1_writeTo 61 = .ok (.goto (-36), 3) := by decide +kernel
theorem dX1_writeTo_64 : decode cX1_writeTo 64 = .ok (.iinc 3 1, 3) := by decide +kernel
theorem dX1_writeTo_67 : decode cX1_writeTo 67 = .ok (.goto (-61), 3) := by decide +kernel
theorem dX1_writeTo_70 : decode cX1_writeTo 70 = .ok (.return_, 1) := by decide +kernel
set_option maxRecDepth 20000 in
theorem ggX1_standAlone_X0_heatOf : GoodIn wsX1_standAlone wsX0_heatOf := goodIn_r _ [11, 12, 22, 23, 24, 25, 26, 27] (by decide +kernel) (by decide +kernel)
set_option maxRecDepth 20000 in
theorem gX1_standAlone_X0_heatOf : GoodIn wsX1_standAlone (wsV RX1 70 RX0 yX0_heatOf wsX0_heatOf) := goodIn_app (goodIn_of _ (by decide +kernel)) ggX1_standAlone_X0_heatOf
theorem dX1_standAlone_0 : decode cX1_standAlone 0 = .ok (.iconst 0, 1) := by decide +kernel
theorem dX1_standAlone_1 : decode cX1_standAlone 1 = .ok (.istore_n 3, 1) := by decide +kernel
theorem dX1_standAlone_2 : decode cX1_standAlone 2 = .ok (.iload_n 3, 1) := by decide +kernel
theorem dX1_standAlone_3 : decode cX1_standAlone 3 = .ok (.sipush 300, 3) := by decide +kernel
theorem dX1_standAlone_6 : decode cX1_standAlone 6 = .ok (.if_icmp .ge 68, 3) := by decide +kernel
theorem dX1_standAlone_9 : decode cX1_standAlone 9 = .ok (.aload_n 0, 1) := by decide +kernel
theorem dX1_standAlone_10 : decode cX1_standAlone 10 = .ok (.getfield 9, 3) := by decide +kernel
theorem dX1_standAlone_13 : decode cX1_standAlone 13 = .ok (.iload_n 3, 1) := by decide +kernel
theorem dX1_standAlone_14 : decode cX1_standAlone 14 = .ok (.aload_n 1, 1) := by decide +kernel
theorem dX1_standAlone_15 : decode cX1_standAlone 15 = .ok (.iload_n 3, 1) := by decide +kernel
theorem dX1_standAlone_16 : decode cX1_standAlone 16 = .ok (.iaload, 1) := by decide +kernel
theorem dX1_standAlone_17 : decode cX1_standAlone 17 = .ok (.ifCond .le 7, 3) := by decide +kernel
theorem dX1_standAlone_20 : decode cX1_standAlone 20 = .ok (.iload_n 3, 1) := by decide +kernel
theorem dX1_standAlone_21 : decode cX1_standAlone 21 = .ok (.goto 4, 3) := by decide +kernel
theorem dX1_standAlone_24 : decode cX1_standAlone 24 = .ok (.iconst (-1), 1) := by decide +kernel
theorem dX1_standAlone_25 : decode cX1_standAlone 25 = .ok (.iastore, 1) := by decide +kernel
theorem dX1_standAlone_26 : decode cX1_standAlone 26 = .ok (.aload_n 0, 1) := by decide +kernel
theorem dX1_standAlone_27 : decode cX1_standAlone 27 = .ok (.getfield 15, 3) := by decide +kernel
theorem dX1_standAlone_30 : decode cX1_standAlone 30 = .ok (.iload_n 3, 1) := by decide +kernel
theorem dX1_standAlone_31 : decode cX1_standAlone 31 = .ok (.iconst (-1), 1) := by decide +kernel
theorem dX1_standAlone_32 : decode cX1_standAlone 32 = .ok (.iastore, 1) := by decide +kernel
theorem dX1_standAlone_33 : decode cX1_standAlone 33 = .ok (.aload_n 0, 1) := by decide +kernel
theorem dX1_standAlone_34 : decode cX1_standAlone 34 = .ok (.getfield 18, 3) := by decide +kernel
theorem dX1_standAlone_37 : decode cX1_standAlone 37 = .ok (.iload_n 3, 1) := by decide +kernel
theorem dX1_standAlone_38 : decode cX1_standAlone 38 = .ok (.iload_n 3, 1) := by decide +kernel
theorem dX1_standAlone_39 : decode cX1_standAlone 39 = .ok (.iastore, 1) := by decide +kernel
theorem dX1_standAlone_40 : decode cX1_standAlone 40 = .ok (.aload_n 0, 1) := by decide +kernel
theorem dX1_standAlone_41 : decode cX1_standAlone 41 = .ok (.getfield 21, 3) := by decide +kernel
theorem dX1_standAlone_44 : decode cX1_standAlone 44 = .ok (.iload_n 3, 1) := by decide +kernel
theorem dX1_standAlone_45 : decode cX1_standAlone 45 = .ok (.iload_n 3, 1) := by decide +kernel
theorem dX1_standAlone_46 : decode cX1_standAlone 46 = .ok (.iastore, 1) := by decide +kernel
theorem dX1_standAlone_47 : decode cX1_standAlone 47 = .ok (.aload_n 0, 1) := by decide +kernel
theorem dX1_standAlone_48 : decode cX1_standAlone 48 = .ok (.getfield 24, 3) := by decide +kernel
theorem dX1_standAlone_51 : decode cX1_standAlone 51 = .ok (.iload_n 3, 1) := by decide +kernel
theorem dX1_standAlone_52 : decode cX1_standAlone 52 = .ok (.aload_n 1, 1) := by decide +kernel
theorem dX1_standAlone_53 : decode cX1_standAlone 53 = .ok (.iload_n 3, 1) := by decide +kernel
theorem dX1_standAlone_54 : decode cX1_standAlone 54 = .ok (.iaload, 1) := by decide +kernel
theorem dX1_standAlone_55 : decode cX1_standAlone 55 = .ok (.i2l, 1) := by decide +kernel
theorem dX1_standAlone_56 : decode cX1_standAlone 56 = .ok (.lastore, 1) := by decide +kernel
theorem dX1_standAlone_57 : decode cX1_standAlone 57 = .ok (.aload_n 0, 1) := by decide +kernel
theorem dX1_standAlone_58 : decode cX1_standAlone 58 = .ok (.getfield 28, 3) := by decide +kernel
theorem dX1_standAlone_61 : decode cX1_standAlone 61 = .ok (.iload_n 3, 1) := by decide +kernel
theorem dX1_standAlone_62 : decode cX1_standAlone 62 = .ok (.aload_n 2, 1) := by decide +kernel
theorem dX1_standAlone_63 : decode cX1_standAlone 63 = .ok (.iload_n 3, 1) := by decide +kernel
theorem dX1_standAlone_64 : decode cX1_standAlone 64 = .ok (.invokevirtual 70, 3) := by decide +kernel
theorem dX1_standAlone_67 : decode cX1_standAlone 67 = .ok (.lastore, 1) := by decide +kernel
theorem dX1_standAlone_68 : decode cX1_standAlone 68 = .ok (.iinc 3 1, 3) := by decide +kernel
theorem dX1_standAlone_71 : decode cX1_standAlone 71 = .ok (.goto (-69), 3) := by decide +kernel
theorem dX1_standAlone_74 : decode cX1_standAlone 74 = .ok (.return_, 1) := by decide +kernel
set_option maxRecDepth 20000 in
theorem ggX1_orderByHeat_X0_callerOf : GoodIn wsX1_orderByHeat wsX0_callerOf := goodIn_r _ [8, 9, 10, 20, 21, 22, 23, 24, 25] (by decide +kernel) (by decide +kernel)
set_option maxRecDepth 20000 in
theorem gX1_orderByHeat_X0_callerOf : GoodIn wsX1_orderByHeat (wsV RX1 45 RX0 yX0_callerOf wsX0_callerOf) := goodIn_app (goodIn_of _ (by decide +kernel)) ggX1_orderByHeat_X0_callerOf
theorem dX1_orderByHeat_0 : decode cX1_orderByHeat 0 = .ok (.iconst 0, 1) := by decide +kernel
theorem dX1_orderByHeat_1 : decode cX1_orderByHeat 1 = .ok (.istore_n 2, 1) := by decide +kernel
theorem dX1_orderByHeat_2 : decode cX1_orderByHeat 2 = .ok (.iconst 0, 1) := by decide +kernel
theorem dX1_orderByHeat_3 : decode cX1_orderByHeat 3 = .ok (.istore_n 3, 1) := by decide +kernel
theorem dX1_orderByHeat_4 : decode cX1_orderByHeat 4 = .ok (.iload_n 3, 1) := by decide +kernel
theorem dX1_orderByHeat_5 : decode cX1_orderByHeat 5 = .ok (.sipush 300, 3) := by decide +kernel
theorem dX1_orderByHeat_8 : decode cX1_orderByHeat 8 = .ok (.if_icmp .ge 93, 3) := by decide +kernel
theorem dX1_orderByHeat_11 : decode cX1_orderByHeat 11 = .ok (.aload_n 0, 1) := by decide +kernel
theorem dX1_orderByHeat_12 : decode cX1_orderByHeat 12 = .ok (.getfield 9, 3) := by decide +kernel
theorem dX1_orderByHeat_15 : decode cX1_orderByHeat 15 = .ok (.iload_n 3, 1) := by decide +kernel
theorem dX1_orderByHeat_16 : decode cX1_orderByHeat 16 = .ok (.iaload, 1) := by decide +kernel
theorem dX1_orderByHeat_17 : decode cX1_orderByHeat 17 = .ok (.iconst (-1), 1) := by decide +kernel
theorem dX1_orderByHeat_18 : decode cX1_orderByHeat 18 = .ok (.if_icmp .eq 77, 3) := by decide +kernel
theorem dX1_orderByHeat_21 : decode cX1_orderByHeat 21 = .ok (.aload_n 1, 1) := by decide +kernel
theorem dX1_orderByHeat_22 : decode cX1_orderByHeat 22 = .ok (.iload_n 3, 1) := by decide +kernel
theorem dX1_orderByHeat_23 : decode cX1_orderByHeat 23 = .ok (.invokevirtual 45, 3) := by decide +kernel
theorem dX1_orderByHeat_26 : decode cX1_orderByHeat 26 = .ok (.iconst (-1), 1) := by decide +kernel
theorem dX1_orderByHeat_27 : decode cX1_orderByHeat 27 = .ok (.if_icmp .eq 68, 3) := by decide +kernel
theorem dX1_orderByHeat_30 : decode cX1_orderByHeat 30 = .ok (.iload_n 2, 1) := by decide +kernel
theorem dX1_orderByHeat_31 : decode cX1_orderByHeat 31 = .ok (.istore 4, 2) := by decide +kernel
theorem dX1_orderByHeat_33 : decode cX1_orderByHeat 33 = .ok (.iload 4, 2) := by decide +kernel
theorem dX1_orderByHeat_35 : decode cX1_orderByHeat 35 = .ok (.ifCond .le 49, 3) := by decide +kernel
theorem dX1_orderByHeat_38 : decode cX1_orderByHeat 38 = .ok (.aload_n 0, 1) := by decide +kernel
theorem dX1_orderByHeat_39 : decode cX1_orderByHeat 39 = .ok (.getfield 28, 3) := by decide +kernel
theorem dX1_orderByHeat_42 : decode cX1_orderByHeat 42 = .ok (.iload_n 3, 1) := by decide +kernel
theorem dX1_orderByHeat_43 : decode cX1_orderByHeat 43 = .ok (.laload, 1) := by decide +kernel
theorem dX1_orderByHeat_44 : decode cX1_orderByHeat 44 = .ok (.aload_n 0, 1) := by decide +kernel
theorem dX1_orderByHeat_45 : decode cX1_orderByHeat 45 = .ok (.getfield 28, 3) := by decide +kernel
theorem dX1_orderByHeat_48 : decode cX1_orderByHeat 48 = .ok (.aload_n 0, 1) := by decide +kernel
theorem dX1_orderByHeat_49 : decode cX1_orderByHeat 49 = .ok (.getfield 31, 3) := by decide +kernel
theorem dX1_orderByHeat_52 : decode cX1_orderByHeat 52 = .ok (.iload 4, 2) := by decide +kernel
theorem dX1_orderByHeat_54 : decode cX1_orderByHeat 54 = .ok (.iconst 1, 1) := by decide +kernel
theorem dX1_orderByHeat_55 : decode cX1_orderByHeat 55 = .ok (.isub, 1) := by decide +kernel
theorem dX1_orderByHeat_56 : decode cX1_orderByHeat 56 = .ok (.iaload, 1) := by decide +kernel
theorem dX1_orderByHeat_57 : decode cX1_orderByHeat 57 = .ok (.laload, 1) := by decide +kernel
theorem dX1_orderByHeat_58 : decode cX1_orderByHeat 58 = .ok (.lcmp, 1) := by decide +kernel
theorem dX1_orderByHeat_59 : decode cX1_orderByHeat 59 = .ok (.ifCond .le 25, 3) := by decide +kernel
theorem dX1_orderByHeat_62 : decode cX1_orderByHeat 62 = .ok (.aload_n 0, 1) := by decide +kernel
theorem dX1_orderByHeat_63 : decode cX1_orderByHeat 63 = .ok (.getfield 31, 3) := by decide +kernel
theorem dX1_orderByHeat_66 : decode cX1_orderByHeat 66 = .ok (.iload 4, 2) := by decide +kernel
theorem dX1_orderByHeat_68 : decode cX1_orderByHeat 68 = .ok (.aload_n 0, 1) := by decide +kernel
theorem dX1_orderByHeat_69 : decode cX1_orderByHeat 69 = .ok (.getfield 31, 3) := by decide +kernel
theorem dX1_orderByHeat_72 : decode cX1_orderByHeat 72 = .ok (.iload 4, 2) := by decide +kernel
theorem dX1_orderByHeat_74 : decode cX1_orderByHeat 74 = .ok (.iconst 1, 1) := by decide +kernel
theorem dX1_orderByHeat_75 : decode cX1_orderByHeat 75 = .ok (.isub, 1) := by decide +kernel
theorem dX1_orderByHeat_76 : decode cX1_orderByHeat 76 = .ok (.iaload, 1) := by decide +kernel
theorem dX1_orderByHeat_77 : decode cX1_orderByHeat 77 = .ok (.iastore, 1) := by decide +kernel
theorem dX1_orderByHeat_78 : decode cX1_orderByHeat 78 = .ok (.iinc 4 (-1), 3) := by decide +kernel
theorem dX1_orderByHeat_81 : decode cX1_orderByHeat 81 = .ok (.goto (-48), 3) := by decide +kernel
theorem dX1_orderByHeat_84 : decode cX1_orderByHeat 84 = .ok (.aload_n 0, 1) := by decide +kernel
theorem dX1_orderByHeat_85 : decode cX1_orderByHeat 85 = .ok (.getfield 31, 3) := by decide +kernel
theorem dX1_orderByHeat_88 : decode cX1_orderByHeat 88 = .ok (.iload 4, 2) := by decide +kernel
theorem dX1_orderByHeat_90 : decode cX1_orderByHeat 90 = .ok (.iload_n 3, 1) := by decide +kernel
theorem dX1_orderByHeat_91 : decode cX1_orderByHeat 91 = .ok (.iastore, 1) := by decide +kernel
theorem dX1_orderByHeat_92 : decode cX1_orderByHeat 92 = .ok (.iinc 2 1, 3) := by decide +kernel
theorem dX1_orderByHeat_95 : decode cX1_orderByHeat 95 = .ok (.iinc 3 1, 3) := by decide +kernel
theorem dX1_orderByHeat_98 : decode cX1_orderByHeat 98 = .ok (.goto (-94), 3) := by decide +kernel
theorem dX1_orderByHeat_101 : decode cX1_orderByHeat 101 = .ok (.iload_n 2, 1) := by decide +kernel
theorem dX1_orderByHeat_102 : decode cX1_orderByHeat 102 = .ok (.ireturn, 1) := by decide +kernel
theorem dX1_join_0 : decode cX1_join 0 = .ok (.iload_n 2, 1) := by decide +kernel
theorem dX1_join_1 : decode cX1_join 1 = .ok (.istore_n 3, 1) := by decide +kernel
theorem dX1_join_2 : decode cX1_join 2 = .ok (.iconst 0, 1) := by decide +kernel
theorem dX1_join_3 : decode cX1_join 3 = .ok (.istore 4, 2) := by decide +kernel
theorem dX1_join_5 : decode cX1_join 5 = .ok (.iload 4, 2) := by decide +kernel
theorem dX1_join_7 : decode cX1_join 7 = .ok (.sipush 300, 3) := by decide +kernel
theorem dX1_join_10 : decode cX1_join 10 = .ok (.if_icmp .ge 28, 3) := by decide +kernel
theorem dX1_join_13 : decode cX1_join 13 = .ok (.iload_n 3, 1) := by decide +kernel
theorem dX1_join_14 : decode cX1_join 14 = .ok (.iconst (-1), 1) := by decide +kernel
theorem dX1_join_15 : decode cX1_join 15 = .ok (.if_icmp .eq 23, 3) := by decide +kernel
theorem dX1_join_18 : decode cX1_join 18 = .ok (.aload_n 0, 1) := by decide +kernel
theorem dX1_join_19 : decode cX1_join 19 = .ok (.getfield 9, 3) := by decide +kernel
theorem dX1_join_22 : decode cX1_join 22 = .ok (.iload_n 3, 1) := by decide +kernel
theorem dX1_join_23 : decode cX1_join 23 = .ok (.iload_n 1, 1) := by decide +kernel
theorem dX1_join_24 : decode cX1_join 24 = .ok (.iastore, 1) := by decide +kernel
theorem dX1_join_25 : decode cX1_join 25 = .ok (.aload_n 0, 1) := by decide +kernel
theorem dX1_join_26 : decode cX1_join 26 = .ok (.getfield 15, 3) := by decide +kernel
theorem dX1_join_29 : decode cX1_join 29 = .ok (.iload_n 3, 1) := by decide +kernel
theorem dX1_join_30 : decode cX1_join 30 = .ok (.iaload, 1) := by decide +kernel
theorem dX1_join_31 : decode cX1_join 31 = .ok (.istore_n 3, 1) := by decide +kernel
theorem dX1_join_32 : decode cX1_join 32 = .ok (.iinc 4 1, 3) := by decide +kernel
theorem dX1_join_35 : decode cX1_join 35 = .ok (.goto (-30), 3) := by decide +kernel
theorem dX1_join_38 : decode cX1_join 38 = .ok (.aload_n 0, 1) := by decide +kernel
theorem dX1_join_39 : decode cX1_join 39 = .ok (.getfield 15, 3) := by decide +kernel
theorem dX1_join_42 : decode cX1_join 42 = .ok (.aload_n 0, 1) := by decide +kernel
theorem dX1_join_43 : decode cX1_join 43 = .ok (.getfield 18, 3) := by decide +kernel
theorem dX1_join_46 : decode cX1_join 46 = .ok (.iload_n 1, 1) := by decide +kernel
theorem dX1_join_47 : decode cX1_join 47 = .ok (.iaload, 1) := by decide +kernel
theorem dX1_join_48 : decode cX1_join 48 = .ok (.iload_n 2, 1) := by decide +kernel
theorem dX1_join_49 : decode cX1_join 49 = .ok (.iastore, 1) := by decide +kernel
theorem dX1_join_50 : decode cX1_join 50 = .ok (.aload_n 0, 1) := by decide +kernel
theorem dX1_join_51 : decode cX1_join 51 = .ok (.getfield 18, 3) := by decide +kernel
theorem dX1_join_54 : decode cX1_join 54 = .ok (.iload_n 1, 1) := by decide +kernel
theorem dX1_join_55 : decode cX1_join 55 = .ok (.aload_n 0, 1) := by decide +kernel
theorem dX1_join_56 : decode cX1_join 56 = .ok (.getfield 18, 3) := by decide +kernel
theorem dX1_join_59 : decode cX1_join 59 = .ok (.iload_n 2, 1) := by decide +kernel
theorem dX1_join_60 : decode cX1_join 60 = .ok (.iaload, 1) := by decide +kernel
theorem dX1_join_61 : decode cX1_join 61 = .ok (.iastore, 1) := by decide +kernel
theorem dX1_join_62 : decode cX1_join 62 = .ok (.aload_n 0, 1) := by decide +kernel
theorem dX1_join_63 : decode cX1_join 63 = .ok (.getfield 21, 3) := by decide +kernel
theorem dX1_join_66 : decode cX1_join 66 = .ok (.iload_n 1, 1) := by decide +kernel
theorem dX1_join_67 : decode cX1_join 67 = .ok (.aload_n 0, 1) := by decide +kernel
theorem dX1_join_68 : decode cX1_join 68 = .ok (.getfield 21, 3) := by decide +kernel
theorem dX1_join_71 : decode cX1_join 71 = .ok (.iload_n 1, 1) := by decide +kernel
theorem dX1_join_72 : decode cX1_join 72 = .ok (.iaload, 1) := by decide +kernel
theorem dX1_join_73 : decode cX1_join 73 = .ok (.aload_n 0, 1) := by decide +kernel
theorem dX1_join_74 : decode cX1_join 74 = .ok (.getfield 21, 3) := by decide +kernel
theorem dX1_join_77 : decode cX1_join 77 = .ok (.iload_n 2, 1) := by decide +kernel
theorem dX1_join_78 : decode cX1_join 78 = .ok (.iaload, 1) := by decide +kernel
theorem dX1_join_79 : decode cX1_join 79 = .ok (.invokestatic 74, 3) := by decide +kernel
theorem dX1_join_82 : decode cX1_join 82 = .ok (.iastore, 1) := by decide +kernel
theorem dX1_join_83 : decode cX1_join 83 = .ok (.aload_n 0, 1) := by decide +kernel
theorem dX1_join_84 : decode cX1_join 84 = .ok (.getfield 24, 3) := by decide +kernel
theorem dX1_join_87 : decode cX1_join 87 = .ok (.iload_n 1, 1) := by decide +kernel
theorem dX1_join_88 : decode cX1_join 88 = .ok (.dup2, 1) := by decide +kernel
theorem dX1_join_89 : decode cX1_join 89 = .ok (.laload, 1) := by decide +kernel
theorem dX1_join_90 : decode cX1_join 90 = .ok (.aload_n 0, 1) := by decide +kernel
theorem dX1_join_91 : decode cX1_join 91 = .ok (.getfield 24, 3) := by decide +kernel
theorem dX1_join_94 : decode cX1_join 94 = .ok (.iload_n 2, 1) := by decide +kernel
theorem dX1_join_95 : decode cX1_join 95 = .ok (.laload, 1) := by decide +kernel
theorem dX1_join_96 : decode cX1_join 96 = .ok (.ladd, 1) := by decide +kernel
theorem dX1_join_97 : decode cX1_join 97 = .ok (.lastore, 1) := by decide +kernel
theorem dX1_join_98 : decode cX1_join 98 = .ok (.aload_n 0, 1) := by decide +kernel
theorem dX1_join_99 : decode cX1_join 99 = .ok (.getfield 28, 3) := by decide +kernel
theorem dX1_join_102 : decode cX1_join 102 = .ok (.iload_n 1, 1) := by decide +kernel
theorem dX1_join_103 : decode cX1_join 103 = .ok (.dup2, 1) := by decide +kernel
theorem dX1_join_104 : decode cX1_join 104 = .ok (.laload, 1) := by decide +kernel
theorem dX1_join_105 : decode cX1_join 105 = .ok (.aload_n 0, 1) := by decide +kernel
theorem dX1_join_106 : decode cX1_join 106 = .ok (.getfield 28, 3) := by decide +kernel
theorem dX1_join_109 : decode cX1_join 109 = .ok (.iload_n 2, 1) := by decide +kernel
theorem dX1_join_110 : decode cX1_join 110 = .ok (.laload, 1) := by decide +kernel
theorem dX1_join_111 : decode cX1_join 111 = .ok (.ladd, 1) := by decide +kernel
theorem dX1_join_112 : decode cX1_join 112 = .ok (.lastore, 1) := by decide +kernel
theorem dX1_join_113 : decode cX1_join 113 = .ok (.return_, 1) := by decide +kernel
set_option maxRecDepth 20000 in
theorem ggX1_rank_X1_isDenser : GoodIn wsX1_rank wsX1_isDenser := goodIn_r _ [9, 10, 11, 12, 13, 14, 15, 16, 17, 18, 19, 20] (by decide +kernel) (by decide +kernel)
set_option maxRecDepth 20000 in
theorem gX1_rank_X1_isDenser : GoodIn wsX1_rank (wsV RX1 80 RX1 yX1_isDenser wsX1_isDenser) := goodIn_app (goodIn_of _ (by decide +kernel)) ggX1_rank_X1_isDenser
theorem dX1_rank_0 : decode cX1_rank 0 = .ok (.aload_n 0, 1) := by decide +kernel
theorem dX1_rank_1 : decode cX1_rank 1 = .ok (.iconst 0, 1) := by decide +kernel
theorem dX1_rank_2 : decode cX1_rank 2 = .ok (.putfield 58, 3) := by decide +kernel
theorem dX1_rank_5 : decode cX1_rank 5 = .ok (.iconst 0, 1) := by decide +kernel
theorem dX1_rank_6 : decode cX1_rank 6 = .ok (.istore_n 1, 1) := by decide +kernel
theorem dX1_rank_7 : decode cX1_rank 7 = .ok (.iload_n 1, 1) := by decide +kernel
theorem dX1_rank_8 : decode cX1_rank 8 = .ok (.sipush 300, 3) := by decide +kernel
theorem dX1_rank_11 : decode cX1_rank 11 = .ok (.if_icmp .ge 106, 3) := by decide +kernel
theorem dX1_rank_14 : decode cX1_rank 14 = .ok (.aload_n 0, 1) := by decide +kernel
theorem dX1_rank_15 : decode cX1_rank 15 = .ok (.getfield 9, 3) := by decide +kernel
theorem dX1_rank_18 : decode cX1_rank 18 = .ok (.iload_n 1, 1) := by decide +kernel
theorem dX1_rank_19 : decode cX1_rank 19 = .ok (.iaload, 1) := by decide +kernel
theorem dX1_rank_20 : decode cX1_rank 20 = .ok (.iconst (-1), 1) := by decide +kernel
theorem dX1_rank_21 : decode cX1_rank 21 = .ok (.if_icmp .eq 90, 3) := by decide +kernel
theorem dX1_rank_24 : decode cX1_rank 24 = .ok (.aload_n 0, 1) := by decide +kernel
theorem dX1_rank_25 : decode cX1_rank 25 = .ok (.getfield 21, 3) := by decide +kernel
theorem dX1_rank_28 : decode cX1_rank 28 = .ok (.aload_n 0, 1) := by decide +kernel
theorem dX1_rank_29 : decode cX1_rank 29 = .ok (.getfield 9, 3) := by decide +kernel
theorem dX1_rank_32 : decode cX1_rank 32 = .ok (.iload_n 1, 1) := by decide +kernel
theorem dX1_rank_33 : decode cX1_rank 33 = .ok (.iaload, 1) := by decide +kernel
theorem dX1_rank_34 : decode cX1_rank 34 = .ok (.iaload, 1) := by decide +kernel
theorem dX1_rank_35 : decode cX1_rank 35 = .ok (.iload_n 1, 1) := by decide +kernel
theorem dX1_rank_36 : decode cX1_rank 36 = .ok (.if_icmp .ne 75, 3) := by decide +kernel
theorem dX1_rank_39 : decode cX1_rank 39 = .ok (.aload_n 0, 1) := by decide +kernel
theorem dX1_rank_40 : decode cX1_rank 40 = .ok (.getfield 58, 3) := by decide +kernel
theorem dX1_rank_43 : decode cX1_rank 43 = .ok (.istore_n 2, 1) := by decide +kernel
theorem dX1_rank_44 : decode cX1_rank 44 = .ok (.iload_n 2, 1) := by decide +kernel
theorem dX1_rank_45 : decode cX1_rank 45 = .ok (.ifCond .le 44, 3) := by decide +kernel
theorem dX1_rank_48 : decode cX1_rank 48 = .ok (.aload_n 0, 1) := by decide +kernel
theorem dX1_rank_49 : decode cX1_rank 49 = .ok (.aload_n 0, 1) := by decide +kernel
theorem dX1_rank_50 : decode cX1_rank 50 = .ok (.getfield 9, 3) := by decide +kernel
theorem dX1_rank_53 : decode cX1_rank 53 = .ok (.iload_n 1, 1) := by decide +kernel
theorem dX1_rank_54 : decode cX1_rank 54 = .ok (.iaload, 1) := by decide +kernel
theorem dX1_rank_55 : decode cX1_rank 55 = .ok (.aload_n 0, 1) := by decide +kernel
theorem dX1_rank_56 : decode cX1_rank 56 = .ok (.getfield 34, 3) := by decide +kernel
theorem dX1_rank_59 : decode cX1_rank 59 = .ok (.iload_n 2, 1) := by decide +kernel
theorem dX1_rank_60 : decode cX1_rank 60 = .ok (.iconst 1, 1) := by decide +kernel
theorem dX1_rank_61 : decode cX1_rank 61 = .ok (.isub, 1) := by decide +kernel
theorem dX1_rank_62 : decode cX1_rank 62 = .ok (.iaload, 1) := by decide +kernel
theorem dX1_rank_63 : decode cX1_rank 63 = .ok (.invokevirtual 80, 3) := by decide +kernel
theorem dX1_rank_66 : decode cX1_rank 66 = .ok (.ifCond .eq 23, 3) := by decide +kernel
theorem dX1_rank_69 : decode cX1_rank 69 = .ok (.aload_n 0, 1) := by decide +kernel
theorem dX1_rank_70 : decode cX1_rank 70 = .ok (.getfield 34, 3) := by decide +kernel
theorem dX1_rank_73 : decode cX1_rank 73 = .ok (.iload_n 2, 1) := by decide +kernel
theorem dX1_rank_74 : decode cX1_rank 74 = .ok (.aload_n 0, 1) := by decide +kernel
theorem dX1_rank_75 : decode cX1_rank 75 = .ok (.getfield 34, 3) := by decide +kernel
theorem dX1_rank_78 : decode cX1_rank 78 = .ok (.iload_n 2, 1) := by decide +kernel
theorem dX1_rank_79 : decode cX1_rank 79 = .ok (.iconst 1, 1) := by decide +kernel
theorem dX1_rank_80 : decode cX1_rank 80 = .ok (.isub, 1) := by decide +kernel
theorem dX1_rank_81 : decode cX1_rank 81 = .ok (.iaload, 1) := by decide +kernel
theorem dX1_rank_82 : decode cX1_rank 82 = .ok (.iastore, 1) := by decide +kernel
theorem dX1_rank_83 : decode cX1_rank 83 = .ok (.iinc 2 (-1), 3) := by decide +kernel
theorem dX1_rank_86 : decode cX1_rank 86 = .ok (.goto (-42), 3) := by decide +kernel
theorem dX1_rank_89 : decode cX1_rank 89 = .ok (.aload_n 0, 1) := by decide +kernel
theorem dX1_rank_90 : decode cX1_rank 90 = .ok (.getfield 34, 3) := by decide +kernel
theorem dX1_rank_93 : decode cX1_rank 93 = .ok (.iload_n 2, 1) := by decide +kernel
theorem dX1_rank_94 : decode cX1_rank 94 = .ok (.aload_n 0, 1) := by decide +kernel
theorem dX1_rank_95 : decode cX1_rank 95 = .ok (.getfield 9, 3) := by decide +kernel
theorem dX1_rank_98 : decode cX1_rank 98 = .ok (.iload_n 1, 1) := by decide +kernel
theorem dX1_rank_99 : decode cX1_rank 99 = .ok (.iaload, 1) := by decide +kernel
theorem dX1_rank_100 : decode cX1_rank 100 = .ok (.iastore, 1) := by decide +kernel
theorem dX1_rank_101 : decode cX1_rank 101 = .ok (.aload_n 0, 1) := by decide +kernel
theorem dX1_rank_102 : decode cX1_rank 102 = .ok (.dup, 1) := by decide +kernel
theorem dX1_rank_103 : decode cX1_rank 103 = .ok (.getfield 58, 3) := by decide +kernel
theorem dX1_rank_106 : decode cX1_rank 106 = .ok (.iconst 1, 1) := by decide +kernel
theorem dX1_rank_107 : decode cX1_rank 107 = .ok (.iadd, 1) := by decide +kernel
theorem dX1_rank_108 : decode cX1_rank 108 = .ok (.putfield 58, 3) := by decide +kernel
theorem dX1_rank_111 : decode cX1_rank 111 = .ok (.iinc 1 1, 3) := by decide +kernel
theorem dX1_rank_114 : decode cX1_rank 114 = .ok (.goto (-107), 3) := by decide +kernel
theorem dX1_rank_117 : decode cX1_rank 117 = .ok (.return_, 1) := by decide +kernel
theorem dX1_isDenser_0 : decode cX1_isDenser 0 = .ok (.aload_n 0, 1) := by decide +kernel
theorem dX1_isDenser_1 : decode cX1_isDenser 1 = .ok (.getfield 24, 3) := by decide +kernel
theorem dX1_isDenser_4 : decode cX1_isDenser 4 = .ok (.iload_n 1, 1) := by decide +kernel
theorem dX1_isDenser_5 : decode cX1_isDenser 5 = .ok (.laload, 1) := by decide +kernel
theorem dX1_isDenser_6 : decode cX1_isDenser 6 = .ok (.lconst 0, 1) := by decide +kernel
theorem dX1_isDenser_7 : decode cX1_isDenser 7 = .ok (.lcmp, 1) := by decide +kernel
theorem dX1_isDenser_8 : decode cX1_isDenser 8 = .ok (.ifCond .le 14, 3) := by decide +kernel
theorem dX1_isDenser_11 : decode cX1_isDenser 11 = .ok (.aload_n 0, 1) := by decide +kernel
theorem dX1_isDenser_12 : decode cX1_isDenser 12 = .ok (.getfield 24, 3) := by decide +kernel
theorem dX1_isDenser_15 : decode cX1_isDenser 15 = .ok (.iload_n 2, 1) := by decide +kernel
theorem dX1_isDenser_16 : decode cX1_isDenser 16 = .ok (.laload, 1) := by decide +kernel
theorem dX1_isDenser_17 : decode cX1_isDenser 17 = .ok (.lconst 0, 1) := by decide +kernel
theorem dX1_isDenser_18 : decode cX1_isDenser 18 = .ok (.lcmp, 1) := by decide +kernel
theorem dX1_isDenser_19 : decode cX1_isDenser 19 = .ok (.ifCond .gt 5, 3) := by decide +kernel
theorem dX1_isDenser_22 : decode cX1_isDenser 22 = .ok (.iconst 0, 1) := by decide +kernel
theorem dX1_isDenser_23 : decode cX1_isDenser 23 = .ok (.ireturn, 1) := by decide +kernel
theorem dX1_isDenser_24 : decode cX1_isDenser 24 = .ok (.aload_n 0, 1) := by decide +kernel
theorem dX1_isDenser_25 : decode cX1_isDenser 25 = .ok (.getfield 28, 3) := by decide +kernel
theorem dX1_isDenser_28 : decode cX1_isDenser 28 = .ok (.iload_n 1, 1) := by decide +kernel
theorem dX1_isDenser_29 : decode cX1_isDenser 29 = .ok (.laload, 1) := by decide +kernel
theorem dX1_isDenser_30 : decode cX1_isDenser 30 = .ok (.aload_n 0, 1) := by decide +kernel
theorem dX1_isDenser_31 : decode cX1_isDenser 31 = .ok (.getfield 24, 3) := by decide +kernel
theorem dX1_isDenser_34 : decode cX1_isDenser 34 = .ok (.iload_n 1, 1) := by decide +kernel
theorem dX1_isDenser_35 : decode cX1_isDenser 35 = .ok (.laload, 1) := by decide +kernel
theorem dX1_isDenser_36 : decode cX1_isDenser 36 = .ok (.ldiv, 1) := by decide +kernel
theorem dX1_isDenser_37 : decode cX1_isDenser 37 = .ok (.lstore_n 3, 1) := by decide +kernel
theorem dX1_isDenser_38 : decode cX1_isDenser 38 = .ok (.aload_n 0, 1) := by decide +kernel
theorem dX1_isDenser_39 : decode cX1_isDenser 39 = .ok (.getfield 28, 3) := by decide +kernel
theorem dX1_isDenser_42 : decode cX1_isDenser 42 = .ok (.iload_n 2, 1) := by decide +kernel
theorem dX1_isDenser_43 : decode cX1_isDenser 43 = .ok (.laload, 1) := by decide +kernel
theorem dX1_isDenser_44 : decode cX1_isDenser 44 = .ok (.aload_n 0, 1) := by decide +kernel
theorem dX1_isDenser_45 : decode cX1_isDenser 45 = .ok (.getfield 24, 3) := by decide +kernel
theorem dX1_isDenser_48 : decode cX1_isDenser 48 = .ok (.iload_n 2, 1) := by decide +kernel
theorem dX1_isDenser_49 : decode cX1_isDenser 49 = .ok (.laload, 1) := by decide +kernel
theorem dX1_isDenser_50 : decode cX1_isDenser 50 = .ok (.ldiv, 1) := by decide +kernel
theorem dX1_isDenser_51 : decode cX1_isDenser 51 = .ok (.lstore 5, 2) := by decide +kernel
theorem dX1_isDenser_53 : decode cX1_isDenser 53 = .ok (.lload_n 3, 1) := by decide +kernel
theorem dX1_isDenser_54 : decode cX1_isDenser 54 = .ok (.lload 5, 2) := by decide +kernel
theorem dX1_isDenser_56 : decode cX1_isDenser 56 = .ok (.lcmp, 1) := by decide +kernel
theorem dX1_isDenser_57 : decode cX1_isDenser 57 = .ok (.ifCond .eq 16, 3) := by decide +kernel
theorem dX1_isDenser_60 : decode cX1_isDenser 60 = .ok (.lload_n 3, 1) := by decide +kernel
theorem dX1_isDenser_61 : decode cX1_isDenser 61 = .ok (.lload 5, 2) := by decide +kernel
theorem dX1_isDenser_63 : decode cX1_isDenser 63 = .ok (.lcmp, 1) := by decide +kernel
theorem dX1_isDenser_64 : decode cX1_isDenser 64 = .ok (.ifCond .le 7, 3) := by decide +kernel
theorem dX1_isDenser_67 : decode cX1_isDenser 67 = .ok (.iconst 1, 1) := by decide +kernel
theorem dX1_isDenser_68 : decode cX1_isDenser 68 = .ok (.goto 4, 3) := by decide +kernel
theorem dX1_isDenser_71 : decode cX1_isDenser 71 = .ok (.iconst 0, 1) := by decide +kernel
theorem dX1_isDenser_72 : decode cX1_isDenser 72 = .ok (.ireturn, 1) := by decide +kernel
theorem dX1_isDenser_73 : decode cX1_isDenser 73 = .ok (.aload_n 0, 1) := by decide +kernel
theorem dX1_isDenser_74 : decode cX1_isDenser 74 = .ok (.getfield 28, 3) := by decide +kernel
theorem dX1_isDenser_77 : decode cX1_isDenser 77 = .ok (.iload_n 1, 1) := by decide +kernel
theorem dX1_isDenser_78 : decode cX1_isDenser 78 = .ok (.laload, 1) := by decide +kernel
theorem dX1_isDenser_79 : decode cX1_isDenser 79 = .ok (.aload_n 0, 1) := by decide +kernel
theorem dX1_isDenser_80 : decode cX1_isDenser 80 = .ok (.getfield 24, 3) := by decide +kernel
theorem dX1_isDenser_83 : decode cX1_isDenser 83 = .ok (.iload_n 1, 1) := by decide +kernel
theorem dX1_isDenser_84 : decode cX1_isDenser 84 = .ok (.laload, 1) := by decide +kernel
theorem dX1_isDenser_85 : decode cX1_isDenser 85 = .ok (.lrem, 1) := by decide +kernel
theorem dX1_isDenser_86 : decode cX1_isDenser 86 = .ok (.aload_n 0, 1) := by decide +kernel
theorem dX1_isDenser_87 : decode cX1_isDenser 87 = .ok (.getfield 24, 3) := by decide +kernel
theorem dX1_isDenser_90 : decode cX1_isDenser 90 = .ok (.iload_n 2, 1) := by decide +kernel
theorem dX1_isDenser_91 : decode cX1_isDenser 91 = .ok (.laload, 1) := by decide +kernel
theorem dX1_isDenser_92 : decode cX1_isDenser 92 = .ok (.lmul, 1) := by decide +kernel
theorem dX1_isDenser_93 : decode cX1_isDenser 93 = .ok (.aload_n 0, 1) := by decide +kernel
theorem dX1_isDenser_94 : decode cX1_isDenser 94 = .ok (.getfield 28, 3) := by decide +kernel
theorem dX1_isDenser_97 : decode cX1_isDenser 97 = .ok (.iload_n 2, 1) := by decide +kernel
theorem dX1_isDenser_98 : decode cX1_isDenser 98 = .ok (.laload, 1) := by decide +kernel
theorem dX1_isDenser_99 : decode cX1_isDenser 99 = .ok (.aload_n 0, 1) := by decide +kernel
theorem dX1_isDenser_100 : decode cX1_isDenser 100 = .ok (.getfield 24, 3) := by decide +kernel
theorem dX1_isDenser_103 : decode cX1_isDenser 103 = .ok (.iload_n 2, 1) := by decide +kernel
theorem dX1_isDenser_104 : decode cX1_isDenser 104 = .ok (.laload, 1) := by decide +kernel
theorem dX1_isDenser_105 : decode cX1_isDenser 105 = .ok (.lrem, 1) := by decide +kernel
theorem dX1_isDenser_106 : decode cX1_isDenser 106 = .ok (.aload_n 0, 1) := by decide +kernel
theorem dX1_isDenser_107 : decode cX1_isDenser 107 = .ok (.getfield 24, 3) := by decide +kernel
theorem dX1_isDenser_110 : decode cX1_isDenser 110 = .ok (.iload_n 1, 1) := by decide +kernel
theorem dX1_isDenser_111 : decode cX1_isDenser 111 = .ok (.laload, 1) := by decide +kernel
theorem dX1_isDenser_112 : decode cX1_isDenser 112 = .ok (.lmul, 1) := by decide +kernel
theorem dX1_isDenser_113 : decode cX1_isDenser 113 = .ok (.lcmp, 1) := by decide +kernel
theorem dX1_isDenser_114 : decode cX1_isDenser 114 = .ok (.ifCond .le 7, 3) := by decide +kernel
theorem dX1_isDenser_117 : decode cX1_isDenser 117 = .ok (.iconst 1, 1) := by decide +kernel
theorem dX1_isDenser_118 : decode cX1_isDenser 118 = .ok (.goto 4, 3) := by decide +kernel
theorem dX1_isDenser_121 : decode cX1_isDenser 121 = .ok (.iconst 0, 1) := by decide +kernel
theorem dX1_isDenser_122 : decode cX1_isDenser 122 = .ok (.ireturn, 1) := by decide +kernel
