theorem dX2_init_0 : decode cX2_init 0 = .ok (.aload_n 0, 1) := by decide +kernel
theorem dX2_init_1 : decode cX2_init 1 = .ok (.invokespecial 3, 3) := by decide +kernel
theorem dX2_init_4 : decode cX2_init 4 = .ok (.aload_n 0, 1) := by decide +kernel
theorem dX2_init_5 : decode cX2_init 5 = .ok (.sipush 300, 3) := by decide +kernel
theorem dX2_init_8 : decode cX2_init 8 = .ok (.newarray .int, 2) := by decide +kernel
theorem dX2_init_10 : decode cX2_init 10 = .ok (.putfield 9, 3) := by decide +kernel
theorem dX2_init_13 : decode cX2_init 13 = .ok (.aload_n 0, 1) := by decide +kernel
theorem dX2_init_14 : decode cX2_init 14 = .ok (.sipush 300, 3) := by decide +kernel
theorem dX2_init_17 : decode cX2_init 17 = .ok (.newarray .long, 2) := by decide +kernel
theorem dX2_init_19 : decode cX2_init 19 = .ok (.putfield 15, 3) := by decide +kernel
theorem dX2_init_22 : decode cX2_init 22 = .ok (.return_, 1) := by decide +kernel
set_option maxRecDepth 20000 in
theorem ggX2_empty_J7_fill_d0a16 : GoodIn wsX2_empty wsJ7_fill_d0a16 := goodIn_r _ [8] (by decide +kernel) (by decide +kernel)
set_option maxRecDepth 20000 in
theorem gX2_empty_J7_fill_d0a16 : GoodIn wsX2_empty (va_wsS RX2 29 yJ7_fill_d0a16 wsJ7_fill_d0a16) := goodIn_app (goodIn_of _ (by decide +kernel)) ggX2_empty_J7_fill_d0a16
theorem dX2_empty_0 : decode cX2_empty 0 = .ok (.aload_n 0, 1) := by decide +kernel
theorem dX2_empty_1 : decode cX2_empty 1 = .ok (.iconst 0, 1) := by decide +kernel
theorem dX2_empty_2 : decode cX2_empty 2 = .ok (.putfield 19, 3) := by decide +kernel
theorem dX2_empty_5 : decode cX2_empty 5 = .ok (.aload_n 0, 1) := by decide +kernel
theorem dX2_empty_6 : decode cX2_empty 6 = .ok (.lconst 0, 1) := by decide +kernel
theorem dX2_empty_7 : decode cX2_empty 7 = .ok (.putfield 23, 3) := by decide +kernel
theorem dX2_empty_10 : decode cX2_empty 10 = .ok (.aload_n 0, 1) := by decide +kernel
theorem dX2_empty_11 : decode cX2_empty 11 = .ok (.getfield 15, 3) := by decide +kernel
theorem dX2_empty_14 : decode cX2_empty 14 = .ok (.ldc2_w 27, 3) := by decide +kernel
theorem dX2_empty_17 : decode cX2_empty 17 = .ok (.invokestatic 29, 3) := by decide +kernel
theorem dX2_empty_20 : decode cX2_empty 20 = .ok (.return_, 1) := by decide +kernel
theorem dX2_append_0 : decode cX2_append 0 = .ok (.aload_n 0, 1) := by decide +kernel
theorem dX2_append_1 : decode cX2_append 1 = .ok (.getfield 19, 3) := by decide +kernel
theorem dX2_append_4 : decode cX2_append 4 = .ok (.sipush 300, 3) := by decide +kernel
theorem dX2_append_7 : decode cX2_append 7 = .ok (.if_icmp .lt 4, 3) := by decide +kernel
theorem dX2_append_10 : decode cX2_append 10 = .ok (.return_, 1) := by decide +kernel
theorem dX2_append_11 : decode cX2_append 11 = .ok (.aload_n 0, 1) := by decide +kernel
theorem dX2_append_12 : decode cX2_append 12 = .ok (.getfield 9, 3) := by decide +kernel
theorem dX2_append_15 : decode cX2_append 15 = .ok (.aload_n 0, 1) := by decide +kernel
theorem dX2_append_16 : decode cX2_append 16 = .ok (.getfield 19, 3) := by decide +kernel
theorem dX2_append_19 : decode cX2_append 19 = .ok (.iload_n 1, 1) := by decide +kernel
theorem dX2_append_20 : decode cX2_append 20 = .ok (.iastore, 1) := by decide +kernel
theorem dX2_append_21 : decode cX2_append 21 = .ok (.aload_n 0, 1) := by decide +kernel
theorem dX2_append_22 : decode cX2_append 22 = .ok (.dup, 1) := by decide +kernel
theorem dX2_append_23 : decode cX2_append 23 = .ok (.getfield 19, 3) := by decide +kernel
theorem dX2_append_26 : decode cX2_append 26 = .ok (.iconst 1, 1) := by decide +kernel
theorem dX2_append_27 : decode cX2_append 27 = .ok (.iadd, 1) := by decide +kernel
theorem dX2_append_28 : decode cX2_append 28 = .ok (.putfield 19, 3) := by decide +kernel
theorem dX2_append_31 : decode cX2_append 31 = .ok (.aload_n 0, 1) := by decide +kernel
theorem dX2_append_32 : decode cX2_append 32 = .ok (.getfield 15, 3) := by decide +kernel
theorem dX2_append_35 : decode cX2_append 35 = .ok (.iload_n 1, 1) := by decide +kernel
theorem dX2_append_36 : decode cX2_append 36 = .ok (.aload_n 0, 1) := by decide +kernel
theorem dX2_append_37 : decode cX2_append 37 = .ok (.getfield 23, 3) := by decide +kernel
theorem dX2_append_40 : decode cX2_append 40 = .ok (.lastore, 1) := by decide +kernel
theorem dX2_append_41 : decode cX2_append 41 = .ok (.aload_n 0, 1) := by decide +kernel
theorem dX2_append_42 : decode cX2_append 42 = .ok (.dup, 1) := by decide +kernel
theorem dX2_append_43 : decode cX2_append 43 = .ok (.getfield 23, 3) := by decide +kernel
theorem dX2_append_46 : decode cX2_append 46 = .ok (.iload_n 2, 1) := by decide +kernel
theorem dX2_append_47 : decode cX2_append 47 = .ok (.i2l, 1) := by decide +kernel
theorem dX2_append_48 : decode cX2_append 48 = .ok (.ladd, 1) := by decide +kernel
theorem dX2_append_49 : decode cX2_append 49 = .ok (.putfield 23, 3) := by decide +kernel
theorem dX2_append_52 : decode cX2_append 52 = .ok (.return_, 1) := by decide +kernel
theorem dX2_memberCount_0 : decode cX2_memberCount 0 = .ok (.aload_n 0, 1) := by decide +kernel
theorem dX2_memberCount_1 : decode cX2_memberCount 1 = .ok (.getfield 19, 3) := by decide +kernel
theorem dX2_memberCount_4 : decode cX2_memberCount 4 = .ok (.ireturn, 1) := by decide +kernel
theorem dX2_memberAt_0 : decode cX2_memberAt 0 = .ok (.iload_n 1, 1) := by decide +kernel
theorem dX2_memberAt_1 : decode cX2_memberAt 1 = .ok (.ifCond .lt 20, 3) := by decide +kernel
theorem dX2_memberAt_4 : decode cX2_memberAt 4 = .ok (.iload_n 1, 1) := by decide +kernel
theorem dX2_memberAt_5 : decode cX2_memberAt 5 = .ok (.aload_n 0, 1) := by decide +kernel
theorem dX2_memberAt_6 : decode cX2_memberAt 6 = .ok (.getfield 19, 3) := by decide +kernel
theorem dX2_memberAt_9 : decode cX2_memberAt 9 = .ok (.if_icmp .ge 12, 3) := by decide +kernel
theorem dX2_memberAt_12 : decode cX2_memberAt 12 = .ok (.aload_n 0, 1) := by decide +kernel
theorem dX2_memberAt_13 : decode cX2_memberAt 13 = .ok (.getfield 9, 3) := by decide +kernel
theorem dX2_memberAt_16 : decode cX2_memberAt 16 = .ok (.iload_n 1, 1) := by decide +kernel
theorem dX2_memberAt_17 : decode cX2_memberAt 17 = .ok (.iaload, 1) := by decide +kernel
theorem dX2_memberAt_18 : decode cX2_memberAt 18 = .ok (.goto 4, 3) := by decide +kernel
theorem dX2_memberAt_21 : decode cX2_memberAt 21 = .ok (.iconst (-1), 1) := by decide +kernel
theorem dX2_memberAt_22 : decode cX2_memberAt 22 = .ok (.ireturn, 1) := by decide +kernel
theorem dX2_beginOf_0 : decode cX2_beginOf 0 = .ok (.aload_n 0, 1) := by decide +kernel
theorem dX2_beginOf_1 : decode cX2_beginOf 1 = .ok (.getfield 15, 3) := by decide +kernel
theorem dX2_beginOf_4 : decode cX2_beginOf 4 = .ok (.iload_n 1, 1) := by decide +kernel
theorem dX2_beginOf_5 : decode cX2_beginOf 5 = .ok (.laload, 1) := by decide +kernel
theorem dX2_beginOf_6 : decode cX2_beginOf 6 = .ok (.lreturn, 1) := by decide +kernel
