theorem dX0_init_0 : decode cX0_init 0 = .ok (.aload_n 0, 1) := by decide +kernel
theorem dX0_init_1 : decode cX0_init 1 = .ok (.invokespecial 3, 3) := by decide +kernel
theorem dX0_init_4 : decode cX0_init 4 = .ok (.aload_n 0, 1) := by decide +kernel
theorem dX0_init_5 : decode cX0_init 5 = .ok (.bipush 60, 2) := by decide +kernel
theorem dX0_init_7 : decode cX0_init 7 = .ok (.newarray .int, 2) := by decide +kernel
theorem dX0_init_9 : decode cX0_init 9 = .ok (.putfield 11, 3) := by decide +kernel
theorem dX0_init_12 : decode cX0_init 12 = .ok (.return_, 1) := by decide +kernel
theorem dX0_forgetAll_0 : decode cX0_forgetAll 0 = .ok (.aload_n 0, 1) := by decide +kernel
theorem dX0_forgetAll_1 : decode cX0_forgetAll 1 = .ok (.iconst 0, 1) := by decide +kernel
theorem dX0_forgetAll_2 : decode cX0_forgetAll 2 = .ok (.putfield 15, 3) := by decide +kernel
theorem dX0_forgetAll_5 : decode cX0_forgetAll 5 = .ok (.return_, 1) := by decide +kernel
theorem dX0_copyFrom_0 : decode cX0_copyFrom 0 = .ok (.aload_n 1, 1) := by decide +kernel
theorem dX0_copyFrom_1 : decode cX0_copyFrom 1 = .ok (.getfield 11, 3) := by decide +kernel
theorem dX0_copyFrom_4 : decode cX0_copyFrom 4 = .ok (.iconst 0, 1) := by decide +kernel
theorem dX0_copyFrom_5 : decode cX0_copyFrom 5 = .ok (.aload_n 0, 1) := by decide +kernel
theorem dX0_copyFrom_6 : decode cX0_copyFrom 6 = .ok (.getfield 11, 3) := by decide +kernel
theorem dX0_copyFrom_9 : decode cX0_copyFrom 9 = .ok (.iconst 0, 1) := by decide +kernel
theorem dX0_copyFrom_10 : decode cX0_copyFrom 10 = .ok (.aload_n 0, 1) := by decide +kernel
theorem dX0_copyFrom_11 : decode cX0_copyFrom 11 = .ok (.getfield 11, 3) := by decide +kernel
theorem dX0_copyFrom_14 : decode cX0_copyFrom 14 = .ok (.arraylength, 1) := by decide +kernel
theorem dX0_copyFrom_15 : decode cX0_copyFrom 15 = .ok (.invokestatic 19, 3) := by decide +kernel
theorem dX0_copyFrom_18 : decode cX0_copyFrom 18 = .ok (.aload_n 0, 1) := by decide +kernel
theorem dX0_copyFrom_19 : decode cX0_copyFrom 19 = .ok (.aload_n 1, 1) := by decide +kernel
theorem dX0_copyFrom_20 : decode cX0_copyFrom 20 = .ok (.getfield 15, 3) := by decide +kernel
theorem dX0_copyFrom_23 : decode cX0_copyFrom 23 = .ok (.putfield 15, 3) := by decide +kernel
theorem dX0_copyFrom_26 : decode cX0_copyFrom 26 = .ok (.return_, 1) := by decide +kernel
theorem dX0_arise_0 : decode cX0_arise 0 = .ok (.aload_n 0, 1) := by decide +kernel
theorem dX0_arise_1 : decode cX0_arise 1 = .ok (.getfield 11, 3) := by decide +kernel
theorem dX0_arise_4 : decode cX0_arise 4 = .ok (.iconst 0, 1) := by decide +kernel
theorem dX0_arise_5 : decode cX0_arise 5 = .ok (.aload_n 0, 1) := by decide +kernel
theorem dX0_arise_6 : decode cX0_arise 6 = .ok (.getfield 11, 3) := by decide +kernel
theorem dX0_arise_9 : decode cX0_arise 9 = .ok (.bipush 6, 2) := by decide +kernel
theorem dX0_arise_11 : decode cX0_arise 11 = .ok (.aload_n 0, 1) := by decide +kernel
theorem dX0_arise_12 : decode cX0_arise 12 = .ok (.getfield 11, 3) := by decide +kernel
theorem dX0_arise_15 : decode cX0_arise 15 = .ok (.arraylength, 1) := by decide +kernel
theorem dX0_arise_16 : decode cX0_arise 16 = .ok (.bipush 6, 2) := by decide +kernel
theorem dX0_arise_18 : decode cX0_arise 18 = .ok (.isub, 1) := by decide +kernel
theorem dX0_arise_19 : decode cX0_arise 19 = .ok (.invokestatic 19, 3) := by decide +kernel
theorem dX0_arise_22 : decode cX0_arise 22 = .ok (.aload_n 0, 1) := by decide +kernel
theorem dX0_arise_23 : decode cX0_arise 23 = .ok (.getfield 11, 3) := by decide +kernel
theorem dX0_arise_26 : decode cX0_arise 26 = .ok (.iconst 0, 1) := by decide +kernel
theorem dX0_arise_27 : decode cX0_arise 27 = .ok (.iload_n 1, 1) := by decide +kernel
theorem dX0_arise_28 : decode cX0_arise 28 = .ok (.iastore, 1) := by decide +kernel
theorem dX0_arise_29 : decode cX0_arise 29 = .ok (.aload_n 0, 1) := by decide +kernel
theorem dX0_arise_30 : decode cX0_arise 30 = .ok (.getfield 11, 3) := by decide +kernel
theorem dX0_arise_33 : decode cX0_arise 33 = .ok (.iconst 1, 1) := by decide +kernel
theorem dX0_arise_34 : decode cX0_arise 34 = .ok (.iload_n 2, 1) := by decide +kernel
theorem dX0_arise_35 : decode cX0_arise 35 = .ok (.iastore, 1) := by decide +kernel
theorem dX0_arise_36 : decode cX0_arise 36 = .ok (.aload_n 0, 1) := by decide +kernel
theorem dX0_arise_37 : decode cX0_arise 37 = .ok (.getfield 11, 3) := by decide +kernel
theorem dX0_arise_40 : decode cX0_arise 40 = .ok (.iconst 2, 1) := by decide +kernel
theorem dX0_arise_41 : decode cX0_arise 41 = .ok (.iload_n 3, 1) := by decide +kernel
theorem dX0_arise_42 : decode cX0_arise 42 = .ok (.iastore, 1) := by decide +kernel
theorem dX0_arise_43 : decode cX0_arise 43 = .ok (.aload_n 0, 1) := by decide +kernel
theorem dX0_arise_44 : decode cX0_arise 44 = .ok (.getfield 11, 3) := by decide +kernel
theorem dX0_arise_47 : decode cX0_arise 47 = .ok (.iconst 3, 1) := by decide +kernel
theorem dX0_arise_48 : decode cX0_arise 48 = .ok (.iload 4, 2) := by decide +kernel
theorem dX0_arise_50 : decode cX0_arise 50 = .ok (.iastore, 1) := by decide +kernel
theorem dX0_arise_51 : decode cX0_arise 51 = .ok (.aload_n 0, 1) := by decide +kernel
theorem dX0_arise_52 : decode cX0_arise 52 = .ok (.getfield 11, 3) := by decide +kernel
theorem dX0_arise_55 : decode cX0_arise 55 = .ok (.iconst 4, 1) := by decide +kernel
theorem dX0_arise_56 : decode cX0_arise 56 = .ok (.iconst 1, 1) := by decide +kernel
theorem dX0_arise_57 : decode cX0_arise 57 = .ok (.iastore, 1) := by decide +kernel
theorem dX0_arise_58 : decode cX0_arise 58 = .ok (.aload_n 0, 1) := by decide +kernel
theorem dX0_arise_59 : decode cX0_arise 59 = .ok (.getfield 11, 3) := by decide +kernel
theorem dX0_arise_62 : decode cX0_arise 62 = .ok (.iconst 5, 1) := by decide +kernel
theorem dX0_arise_63 : decode cX0_arise 63 = .ok (.iconst 0, 1) := by decide +kernel
theorem dX0_arise_64 : decode cX0_arise 64 = .ok (.iastore, 1) := by decide +kernel
theorem dX0_arise_65 : decode cX0_arise 65 = .ok (.aload_n 0, 1) := by decide +kernel
theorem dX0_arise_66 : decode cX0_arise 66 = .ok (.aload_n 0, 1) := by decide +kernel
theorem dX0_arise_67 : decode cX0_arise 67 = .ok (.getfield 15, 3) := by decide +kernel
theorem dX0_arise_70 : decode cX0_arise 70 = .ok (.iconst 1, 1) := by decide +kernel
theorem dX0_arise_71 : decode cX0_arise 71 = .ok (.iadd, 1) := by decide +kernel
theorem dX0_arise_72 : decode cX0_arise 72 = .ok (.bipush 10, 2) := by decide +kernel
theorem dX0_arise_74 : decode cX0_arise 74 = .ok (.invokestatic 25, 3) := by decide +kernel
theorem dX0_arise_77 : decode cX0_arise 77 = .ok (.putfield 15, 3) := by decide +kernel
theorem dX0_arise_80 : decode cX0_arise 80 = .ok (.return_, 1) := by decide +kernel
theorem dX0_goHigher_0 : decode cX0_goHigher 0 = .ok (.aload_n 0, 1) := by decide +kernel
theorem dX0_goHigher_1 : decode cX0_goHigher 1 = .ok (.getfield 11, 3) := by decide +kernel
theorem dX0_goHigher_4 : decode cX0_goHigher 4 = .ok (.iconst 4, 1) := by decide +kernel
theorem dX0_goHigher_5 : decode cX0_goHigher 5 = .ok (.dup2, 1) := by decide +kernel
theorem dX0_goHigher_6 : decode cX0_goHigher 6 = .ok (.iaload, 1) := by decide +kernel
theorem dX0_goHigher_7 : decode cX0_goHigher 7 = .ok (.iconst 1, 1) := by decide +kernel
theorem dX0_goHigher_8 : decode cX0_goHigher 8 = .ok (.iadd, 1) := by decide +kernel
theorem dX0_goHigher_9 : decode cX0_goHigher 9 = .ok (.iastore, 1) := by decide +kernel
theorem dX0_goHigher_10 : decode cX0_goHigher 10 = .ok (.return_, 1) := by decide +kernel
theorem dX0_markCaught_0 : decode cX0_markCaught 0 = .ok (.aload_n 0, 1) := by decide +kernel
theorem dX0_markCaught_1 : decode cX0_markCaught 1 = .ok (.getfield 11, 3) := by decide +kernel
theorem dX0_markCaught_4 : decode cX0_markCaught 4 = .ok (.iconst 5, 1) := by decide +kernel
theorem dX0_markCaught_5 : decode cX0_markCaught 5 = .ok (.iconst 1, 1) := by decide +kernel
theorem dX0_markCaught_6 : decode cX0_markCaught 6 = .ok (.iastore, 1) := by decide +kernel
theorem dX0_markCaught_7 : decode cX0_markCaught 7 = .ok (.return_, 1) := by decide +kernel
theorem dX0_tell_0 : decode cX0_tell 0 = .ok (.iload_n 1, 1) := by decide +kernel
theorem dX0_tell_1 : decode cX0_tell 1 = .ok (.aload_n 0, 1) := by decide +kernel
theorem dX0_tell_2 : decode cX0_tell 2 = .ok (.getfield 15, 3) := by decide +kernel
theorem dX0_tell_5 : decode cX0_tell 5 = .ok (.if_icmp .ge 17, 3) := by decide +kernel
theorem dX0_tell_8 : decode cX0_tell 8 = .ok (.aload_n 0, 1) := by decide +kernel
theorem dX0_tell_9 : decode cX0_tell 9 = .ok (.getfield 11, 3) := by decide +kernel
theorem dX0_tell_12 : decode cX0_tell 12 = .ok (.iload_n 1, 1) := by decide +kernel
theorem dX0_tell_13 : decode cX0_tell 13 = .ok (.bipush 6, 2) := by decide +kernel
theorem dX0_tell_15 : decode cX0_tell 15 = .ok (.imul, 1) := by decide +kernel
theorem dX0_tell_16 : decode cX0_tell 16 = .ok (.iload_n 2, 1) := by decide +kernel
theorem dX0_tell_17 : decode cX0_tell 17 = .ok (.iadd, 1) := by decide +kernel
theorem dX0_tell_18 : decode cX0_tell 18 = .ok (.iaload, 1) := by decide +kernel
theorem dX0_tell_19 : decode cX0_tell 19 = .ok (.goto 6, 3) := by decide +kernel
theorem dX0_tell_22 : decode cX0_tell 22 = .ok (.sipush (-10000), 3) := by decide +kernel
theorem dX0_tell_25 : decode cX0_tell 25 = .ok (.ireturn, 1) := by decide +kernel
theorem dX0_lastKind_0 : decode cX0_lastKind 0 = .ok (.aload_n 0, 1) := by decide +kernel
theorem dX0_lastKind_1 : decode cX0_lastKind 1 = .ok (.getfield 15, 3) := by decide +kernel
theorem dX0_lastKind_4 : decode cX0_lastKind 4 = .ok (.ifCond .le 12, 3) := by decide +kernel
theorem dX0_lastKind_7 : decode cX0_lastKind 7 = .ok (.aload_n 0, 1) := by decide +kernel
theorem dX0_lastKind_8 : decode cX0_lastKind 8 = .ok (.getfield 11, 3) := by decide +kernel
theorem dX0_lastKind_11 : decode cX0_lastKind 11 = .ok (.iconst 0, 1) := by decide +kernel
theorem dX0_lastKind_12 : decode cX0_lastKind 12 = .ok (.iaload, 1) := by decide +kernel
theorem dX0_lastKind_13 : decode cX0_lastKind 13 = .ok (.goto 4, 3) := by decide +kernel
theorem dX0_lastKind_16 : decode cX0_lastKind 16 = .ok (.iconst 0, 1) := by decide +kernel
theorem dX0_lastKind_17 : decode cX0_lastKind 17 = .ok (.ireturn, 1) := by decide +kernel
set_option maxRecDepth 20000 in
theorem ggX0_lastBlamedPart_X0_lastKind : GoodIn wsX0_lastBlamedPart wsX0_lastKind := goodIn_r _ [6, 7, 1, 11, 12] (by decide +kernel) (by decide +kernel)
set_option maxRecDepth 20000 in
theorem gX0_lastBlamedPart_X0_lastKind : GoodIn wsX0_lastBlamedPart (wsV RX0 31 RX0 yX0_lastKind wsX0_lastKind) := goodIn_app (goodIn_of _ (by decide +kernel)) ggX0_lastBlamedPart_X0_lastKind
set_option maxRecDepth 20000 in
theorem ggX0_lastBlamedPart_X0_blamedPart : GoodIn wsX0_lastBlamedPart wsX0_blamedPart := goodIn_r _ [10] (by decide +kernel) (by decide +kernel)
set_option maxRecDepth 20000 in
theorem gX0_lastBlamedPart_X0_blamedPart : GoodIn wsX0_lastBlamedPart (va_wsS RX0 35 yX0_blamedPart wsX0_blamedPart) := goodIn_app (goodIn_of _ (by decide +kernel)) ggX0_lastBlamedPart_X0_blamedPart
theorem dX0_lastBlamedPart_0 : decode cX0_lastBlamedPart 0 = .ok (.aload_n 0, 1) := by decide +kernel
theorem dX0_lastBlamedPart_1 : decode cX0_lastBlamedPart 1 = .ok (.invokevirtual 31, 3) := by decide +kernel
theorem dX0_lastBlamedPart_4 : decode cX0_lastBlamedPart 4 = .ok (.aload_n 0, 1) := by decide +kernel
theorem dX0_lastBlamedPart_5 : decode cX0_lastBlamedPart 5 = .ok (.getfield 11, 3) := by decide +kernel
theorem dX0_lastBlamedPart_8 : decode cX0_lastBlamedPart 8 = .ok (.iconst 1, 1) := by decide +kernel
theorem dX0_lastBlamedPart_9 : decode cX0_lastBlamedPart 9 = .ok (.iaload, 1) := by decide +kernel
theorem dX0_lastBlamedPart_10 : decode cX0_lastBlamedPart 10 = .ok (.aload_n 0, 1) := by decide +kernel
theorem dX0_lastBlamedPart_11 : decode cX0_lastBlamedPart 11 = .ok (.getfield 11, 3) := by decide +kernel
theorem dX0_lastBlamedPart_14 : decode cX0_lastBlamedPart 14 = .ok (.iconst 2, 1) := by decide +kernel
theorem dX0_lastBlamedPart_15 : decode cX0_lastBlamedPart 15 = .ok (.iaload, 1) := by decide +kernel
theorem dX0_lastBlamedPart_16 : decode cX0_lastBlamedPart 16 = .ok (.invokestatic 35, 3) := by decide +kernel
theorem dX0_lastBlamedPart_19 : decode cX0_lastBlamedPart 19 = .ok (.ireturn, 1) := by decide +kernel
theorem dX0_blamedPart_0 : decode cX0_blamedPart 0 = .ok (.iload_n 0, 1) := by decide +kernel
theorem dX0_blamedPart_1 : decode cX0_blamedPart 1 = .ok (.lookupswitch 31 #[(1, 27), (2, 29)], 27) := by decide +kernel
theorem dX0_blamedPart_28 : decode cX0_blamedPart 28 = .ok (.iload_n 1, 1) := by decide +kernel
theorem dX0_blamedPart_29 : decode cX0_blamedPart 29 = .ok (.ireturn, 1) := by decide +kernel
theorem dX0_blamedPart_30 : decode cX0_blamedPart 30 = .ok (.iload_n 2, 1) := by decide +kernel
theorem dX0_blamedPart_31 : decode cX0_blamedPart 31 = .ok (.ireturn, 1) := by decide +kernel
theorem dX0_blamedPart_32 : decode cX0_blamedPart 32 = .ok (.sipush (-10000), 3) := by decide +kernel
theorem dX0_blamedPart_35 : decode cX0_blamedPart 35 = .ok (.ireturn, 1) := by decide +kernel
set_option maxRecDepth 20000 in
theorem ggX1_init_J7_fill_53178 : GoodIn wsX1_init wsJ7_fill_53178 := goodIn_r _ [9] (by decide +kernel) (by decide +kernel)
set_option maxRecDepth 20000 in
theorem gX1_init_J7_fill_53178 : GoodIn wsX1_init (va_wsS RX1 15 yJ7_fill_53178 wsJ7_fill_53178) := goodIn_app (goodIn_of _ (by decide +kernel)) ggX1_init_J7_fill_53178
theorem dX1_init_0 : decode cX1_init 0 = .ok (.aload_n 0, 1) := by decide +kernel
theorem dX1_init_1 : decode cX1_init 1 = .ok (.invokespecial 3, 3) := by decide +kernel
theorem dX1_init_4 : decode cX1_init 4 = .ok (.aload_n 0, 1) := by decide +kernel
theorem dX1_init_5 : decode cX1_init 5 = .ok (.sipush 480, 3) := by decide +kernel
theorem dX1_init_8 : decode cX1_init 8 = .ok (.newarray .int, 2) := by decide +kernel
theorem dX1_init_10 : decode cX1_init 10 = .ok (.putfield 11, 3) := by decide +kernel
theorem dX1_init_13 : decode cX1_init 13 = .ok (.aload_n 0, 1) := by decide +kernel
theorem dX1_init_14 : decode cX1_init 14 = .ok (.getfield 11, 3) := by decide +kernel
theorem dX1_init_17 : decode cX1_init 17 = .ok (.sipush (-10000), 3) := by decide +kernel
theorem dX1_init_20 : decode cX1_init 20 = .ok (.invokestatic 15, 3) := by decide +kernel
theorem dX1_init_23 : decode cX1_init 23 = .ok (.return_, 1) := by decide +kernel
set_option maxRecDepth 20000 in
theorem ggX1_removeAll_J7_fill_53178 : GoodIn wsX1_removeAll wsJ7_fill_53178 := goodIn_r _ [5] (by decide +kernel) (by decide +kernel)
set_option maxRecDepth 20000 in
theorem gX1_removeAll_J7_fill_53178 : GoodIn wsX1_removeAll (va_wsS RX1 15 yJ7_fill_53178 wsJ7_fill_53178) := goodIn_app (goodIn_of _ (by decide +kernel)) ggX1_removeAll_J7_fill_53178
theorem dX1_removeAll_0 : decode cX1_removeAll 0 = .ok (.aload_n 0, 1) := by decide +kernel
theorem dX1_removeAll_1 : decode cX1_removeAll 1 = .ok (.getfield 11, 3) := by decide +kernel
theorem dX1_removeAll_4 : decode cX1_removeAll 4 = .ok (.sipush (-10000), 3) := by decide +kernel
theorem dX1_removeAll_7 : decode cX1_removeAll 7 = .ok (.invokestatic 15, 3) := by decide +kernel
theorem dX1_removeAll_10 : decode cX1_removeAll 10 = .ok (.return_, 1) := by decide +kernel
theorem dX1_copyFrom_0 : decode cX1_copyFrom 0 = .ok (.aload_n 1, 1) := by decide +kernel
theorem dX1_copyFrom_1 : decode cX1_copyFrom 1 = .ok (.getfield 11, 3) := by decide +kernel
theorem dX1_copyFrom_4 : decode cX1_copyFrom 4 = .ok (.iconst 0, 1) := by decide +kernel
theorem dX1_copyFrom_5 : decode cX1_copyFrom 5 = .ok (.aload_n 0, 1) := by decide +kernel
theorem dX1_copyFrom_6 : decode cX1_copyFrom 6 = .ok (.getfield 11, 3) := by decide +kernel
theorem dX1_copyFrom_9 : decode cX1_copyFrom 9 = .ok (.iconst 0, 1) := by decide +kernel
theorem dX1_copyFrom_10 : decode cX1_copyFrom 10 = .ok (.aload_n 0, 1) := by decide +kernel
theorem dX1_copyFrom_11 : decode cX1_copyFrom 11 = .ok (.getfield 11, 3) := by decide +kernel
theorem dX1_copyFrom_14 : decode cX1_copyFrom 14 = .ok (.arraylength, 1) := by decide +kernel
theorem dX1_copyFrom_15 : decode cX1_copyFrom 15 = .ok (.invokestatic 21, 3) := by decide +kernel
theorem dX1_copyFrom_18 : decode cX1_copyFrom 18 = .ok (.return_, 1) := by decide +kernel
set_option maxRecDepth 20000 in
theorem ggX1_find_X1_placeFor : GoodIn wsX1_find wsX1_placeFor := goodIn_r _ [5, 6, 7, 4, 8] (by decide +kernel) (by decide +kernel)
set_option maxRecDepth 20000 in
theorem gX1_find_X1_placeFor : GoodIn wsX1_find (va_wsS RX1 27 yX1_placeFor wsX1_placeFor) := goodIn_app (goodIn_of _ (by decide +kernel)) ggX1_find_X1_placeFor
theorem dX1_find_0 : decode cX1_find 0 = .ok (.iload_n 1, 1) := by decide +kernel
theorem dX1_find_1 : decode cX1_find 1 = .ok (.iload_n 2, 1) := by decide +kernel
theorem dX1_find_2 : decode cX1_find 2 = .ok (.invokestatic 27, 3) := by decide +kernel
theorem dX1_find_5 : decode cX1_find 5 = .ok (.istore_n 3, 1) := by decide +kernel
theorem dX1_find_6 : decode cX1_find 6 = .ok (.iload_n 3, 1) := by decide +kernel
theorem dX1_find_7 : decode cX1_find 7 = .ok (.sipush (-10000), 3) := by decide +kernel
theorem dX1_find_10 : decode cX1_find 10 = .ok (.if_icmp .eq 19, 3) := by decide +kernel
theorem dX1_find_13 : decode cX1_find 13 = .ok (.aload_n 0, 1) := by decide +kernel
theorem dX1_find_14 : decode cX1_find 14 = .ok (.getfield 11, 3) := by decide +kernel
theorem dX1_find_17 : decode cX1_find 17 = .ok (.iload_n 3, 1) := by decide +kernel
theorem dX1_find_18 : decode cX1_find 18 = .ok (.iaload, 1) := by decide +kernel
theorem dX1_find_19 : decode cX1_find 19 = .ok (.sipush (-10000), 3) := by decide +kernel
theorem dX1_find_22 : decode cX1_find 22 = .ok (.if_icmp .eq 7, 3) := by decide +kernel
theorem dX1_find_25 : decode cX1_find 25 = .ok (.iload_n 3, 1) := by decide +kernel
theorem dX1_find_26 : decode cX1_find 26 = .ok (.goto 6, 3) := by decide +kernel
theorem dX1_find_29 : decode cX1_find 29 = .ok (.sipush (-10000), 3) := by decide +kernel
theorem dX1_find_32 : decode cX1_find 32 = .ok (.ireturn, 1) := by decide +kernel
set_option maxRecDepth 20000 in
theorem ggX1_isThere_X1_find : GoodIn wsX1_isThere wsX1_find := goodIn_r _ [5, 6, 7, 8, 4, 9, 10, 11, 12, 13] (by decide +kernel) (by decide +kernel)
set_option maxRecDepth 20000 in
theorem gX1_isThere_X1_find : GoodIn wsX1_isThere (wsV RX1 31 RX1 yX1_find wsX1_find) := goodIn_app (goodIn_of _ (by decide +kernel)) ggX1_isThere_X1_find
theorem dX1_isThere_0 : decode cX1_isThere 0 = .ok (.aload_n 0, 1) := by decide +kernel
theorem dX1_isThere_1 : decode cX1_isThere 1 = .ok (.iload_n 1, 1) := by decide +kernel
theorem dX1_isThere_2 : decode cX1_isThere 2 = .ok (.iload_n 2, 1) := by decide +kernel
theorem dX1_isThere_3 : decode cX1_isThere 3 = .ok (.invokevirtual 31, 3) := by decide +kernel
theorem dX1_isThere_6 : decode cX1_isThere 6 = .ok (.sipush (-10000), 3) := by decide +kernel
theorem dX1_isThere_9 : decode cX1_isThere 9 = .ok (.if_icmp .eq 7, 3) := by decide +kernel
theorem dX1_isThere_12 : decode cX1_isThere 12 = .ok (.iconst 1, 1) := by decide +kernel
theorem dX1_isThere_13 : decode cX1_isThere 13 = .ok (.goto 4, 3) := by decide +kernel
theorem dX1_isThere_16 : decode cX1_isThere 16 = .ok (.iconst 0, 1) := by decide +kernel
theorem dX1_isThere_17 : decode cX1_isThere 17 = .ok (.ireturn, 1) := by decide +kernel
theorem dX1_bound_0 : decode cX1_bound 0 = .ok (.aload_n 0, 1) := by decide +kernel
theorem dX1_bound_1 : decode cX1_bound 1 = .ok (.getfield 11, 3) := by decide +kernel
theorem dX1_bound_4 : decode cX1_bound 4 = .ok (.iload_n 1, 1) := by decide +kernel
theorem dX1_bound_5 : decode cX1_bound 5 = .ok (.iload_n 2, 1) := by decide +kernel
theorem dX1_bound_6 : decode cX1_bound 6 = .ok (.iadd, 1) := by decide +kernel
theorem dX1_bound_7 : decode cX1_bound 7 = .ok (.iaload, 1) := by decide +kernel
theorem dX1_bound_8 : decode cX1_bound 8 = .ok (.ireturn, 1) := by decide +kernel
set_option maxRecDepth 20000 in
theorem ggX1_put_X1_placeFor : GoodIn wsX1_put wsX1_placeFor := goodIn_r _ [5, 6, 7, 4, 8] (by decide +kernel) (by decide +kernel)
set_option maxRecDepth 20000 in
theorem gX1_put_X1_placeFor : GoodIn wsX1_put (va_wsS RX1 27 yX1_placeFor wsX1_placeFor) := goodIn_app (goodIn_of _ (by decide +kernel)) ggX1_put_X1_placeFor
theorem dX1_put_0 : decode cX1_put 0 = .ok (.iload_n 1, 1) := by decide +kernel
theorem dX1_put_1 : decode cX1_put 1 = .ok (.iload_n 2, 1) := by decide +kernel
theorem dX1_put_2 : decode cX1_put 2 = .ok (.invokestatic 27, 3) := by decide +kernel
theorem dX1_put_5 : decode cX1_put 5 = .ok (.istore 7, 2) := by decide +kernel
theorem dX1_put_7 : decode cX1_put 7 = .ok (.iload 7, 2) := by decide +kernel
theorem dX1_put_9 : decode cX1_put 9 = .ok (.sipush (-10000), 3) := by decide +kernel
theorem dX1_put_12 : decode cX1_put 12 = .ok (.if_icmp .eq 46, 3) := by decide +kernel
theorem dX1_put_15 : decode cX1_put 15 = .ok (.aload_n 0, 1) := by decide +kernel
theorem dX1_put_16 : decode cX1_put 16 = .ok (.getfield 11, 3) := by decide +kernel
theorem dX1_put_19 : decode cX1_put 19 = .ok (.iload 7, 2) := by decide +kernel
theorem dX1_put_21 : decode cX1_put 21 = .ok (.iconst 0, 1) := by decide +kernel
theorem dX1_put_22 : decode cX1_put 22 = .ok (.iadd, 1) := by decide +kernel
theorem dX1_put_23 : decode cX1_put 23 = .ok (.iload_n 3, 1) := by decide +kernel
theorem dX1_put_24 : decode cX1_put 24 = .ok (.iastore, 1) := by decide +kernel
theorem dX1_put_25 : decode cX1_put 25 = .ok (.aload_n 0, 1) := by decide +kernel
theorem dX1_put_26 : decode cX1_put 26 = .ok (.getfield 11, 3) := by decide +kernel
theorem dX1_put_29 : decode cX1_put 29 = .ok (.iload 7, 2) := by decide +kernel
theorem dX1_put_31 : decode cX1_put 31 = .ok (.iconst 1, 1) := by decide +kernel
theorem dX1_put_32 : decode cX1_put 32 = .ok (.iadd, 1) := by decide +kernel
theorem dX1_put_33 : decode cX1_put 33 = .ok (.iload 4, 2) := by decide +kernel
theorem dX1_put_35 : decode cX1_put 35 = .ok (.iastore, 1) := by decide +kernel
theorem dX1_put_36 : decode cX1_put 36 = .ok (.aload_n 0, 1) := by decide +kernel
theorem dX1_put_37 : decode cX1_put 37 = .ok (.getfield 11, 3) := by decide +kernel
theorem dX1_put_40 : decode cX1_put 40 = .ok (.iload 7, 2) := by decide +kernel
theorem dX1_put_42 : decode cX1_put 42 = .ok (.iconst 2, 1) := by decide +kernel
theorem dX1_put_43 : decode cX1_put 43 = .ok (.iadd, 1) := by decide +kernel
theorem dX1_put_44 : decode cX1_put 44 = .ok (.iload 5, 2) := by decide +kernel
theorem dX1_put_46 : decode cX1_put 46 = .ok (.iastore, 1) := by decide +kernel
theorem dX1_put_47 : decode cX1_put 47 = .ok (.aload_n 0, 1) := by decide +kernel
theorem dX1_put_48 : decode cX1_put 48 = .ok (.getfield 11, 3) := by decide +kernel
theorem dX1_put_51 : decode cX1_put 51 = .ok (.iload 7, 2) := by decide +kernel
theorem dX1_put_53 : decode cX1_put 53 = .ok (.iconst 3, 1) := by decide +kernel
theorem dX1_put_54 : decode cX1_put 54 = .ok (.iadd, 1) := by decide +kernel
theorem dX1_put_55 : decode cX1_put 55 = .ok (.iload 6, 2) := by decide +kernel
theorem dX1_put_57 : decode cX1_put 57 = .ok (.iastore, 1) := by decide +kernel
theorem dX1_put_58 : decode cX1_put 58 = .ok (.return_, 1) := by decide +kernel
set_option maxRecDepth 20000 in
theorem ggX1_remove_X1_find : GoodIn wsX1_remove wsX1_find := goodIn_r _ [6, 1, 7, 8, 5, 9, 10, 11, 12, 13] (by decide +kernel) (by decide +kernel)
set_option maxRecDepth 20000 in
theorem gX1_remove_X1_find : GoodIn wsX1_remove (wsV RX1 31 RX1 yX1_find wsX1_find) := goodIn_app (goodIn_of _ (by decide +kernel)) ggX1_remove_X1_find
theorem dX1_remove_0 : decode cX1_remove 0 = .ok (.aload_n 0, 1) := by decide +kernel
theorem dX1_remove_1 : decode cX1_remove 1 = .ok (.iload_n 1, 1) := by decide +kernel
theorem dX1_remove_2 : decode cX1_remove 2 = .ok (.iload_n 2, 1) := by decide +kernel
theorem dX1_remove_3 : decode cX1_remove 3 = .ok (.invokevirtual 31, 3) := by decide +kernel
theorem dX1_remove_6 : decode cX1_remove 6 = .ok (.istore_n 3, 1) := by decide +kernel
theorem dX1_remove_7 : decode cX1_remove 7 = .ok (.iload_n 3, 1) := by decide +kernel
theorem dX1_remove_8 : decode cX1_remove 8 = .ok (.sipush (-10000), 3) := by decide +kernel
theorem dX1_remove_11 : decode cX1_remove 11 = .ok (.if_icmp .ne 5, 3) := by decide +kernel
theorem dX1_remove_14 : decode cX1_remove 14 = .ok (.iconst 0, 1) := by decide +kernel
theorem dX1_remove_15 : decode cX1_remove 15 = .ok (.ireturn, 1) := by decide +kernel
theorem dX1_remove_16 : decode cX1_remove 16 = .ok (.aload_n 0, 1) := by decide +kernel
theorem dX1_remove_17 : decode cX1_remove 17 = .ok (.getfield 11, 3) := by decide +kernel
theorem dX1_remove_20 : decode cX1_remove 20 = .ok (.iload_n 3, 1) := by decide +kernel
theorem dX1_remove_21 : decode cX1_remove 21 = .ok (.sipush (-10000), 3) := by decide +kernel
theorem dX1_remove_24 : decode cX1_remove 24 = .ok (.iastore, 1) := by decide +kernel
theorem dX1_remove_25 : decode cX1_remove 25 = .ok (.iconst 1, 1) := by decide +kernel
theorem dX1_remove_26 : decode cX1_remove 26 = .ok (.ireturn, 1) := by decide +kernel
theorem dX1_asks_0 : decode cX1_asks 0 = .ok (.iload_n 2, 1) := by decide +kernel
theorem dX1_asks_1 : decode cX1_asks 1 = .ok (.aload_n 0, 1) := by decide +kernel
theorem dX1_asks_2 : decode cX1_asks 2 = .ok (.getfield 11, 3) := by decide +kernel
theorem dX1_asks_5 : decode cX1_asks 5 = .ok (.iload_n 1, 1) := by decide +kernel
theorem dX1_asks_6 : decode cX1_asks 6 = .ok (.iconst 0, 1) := by decide +kernel
theorem dX1_asks_7 : decode cX1_asks 7 = .ok (.iadd, 1) := by decide +kernel
theorem dX1_asks_8 : decode cX1_asks 8 = .ok (.iaload, 1) := by decide +kernel
theorem dX1_asks_9 : decode cX1_asks 9 = .ok (.if_icmp .lt 19, 3) := by decide +kernel
theorem dX1_asks_12 : decode cX1_asks 12 = .ok (.iload_n 2, 1) := by decide +kernel
theorem dX1_asks_13 : decode cX1_asks 13 = .ok (.aload_n 0, 1) := by decide +kernel
theorem dX1_asks_14 : decode cX1_asks 14 = .ok (.getfield 11, 3) := by decide +kernel
theorem dX1_asks_17 : decode cX1_asks 17 = .ok (.iload_n 1, 1) := by decide +kernel
theorem dX1_asks_18 : decode cX1_asks 18 = .ok (.iconst 1, 1) := by decide +kernel
theorem dX1_asks_19 : decode cX1_asks 19 = .ok (.iadd, 1) := by decide +kernel
theorem dX1_asks_20 : decode cX1_asks 20 = .ok (.iaload, 1) := by decide +kernel
theorem dX1_asks_21 : decode cX1_asks 21 = .ok (.if_icmp .gt 7, 3) := by decide +kernel
theorem dX1_asks_24 : decode cX1_asks 24 = .ok (.iconst 1, 1) := by decide +kernel
theorem dX1_asks_25 : decode cX1_asks 25 = .ok (.goto 4, 3) := by decide +kernel
theorem dX1_asks_28 : decode cX1_asks 28 = .ok (.iconst 0, 1) := by decide +kernel
theorem dX1_asks_29 : decode cX1_asks 29 = .ok (.ireturn, 1) := by decide +kernel
theorem dX1_gives_0 : decode cX1_gives 0 = .ok (.iload_n 2, 1) := by decide +kernel
theorem dX1_gives_1 : decode cX1_gives 1 = .ok (.aload_n 0, 1) := by decide +kernel
theorem dX1_gives_2 : decode cX1_gives 2 = .ok (.getfield 11, 3) := by decide +kernel
theorem dX1_gives_5 : decode cX1_gives 5 = .ok (.iload_n 1, 1) := by decide +kernel
theorem dX1_gives_6 : decode cX1_gives 6 = .ok (.iconst 2, 1) := by decide +kernel
theorem dX1_gives_7 : decode cX1_gives 7 = .ok (.iadd, 1) := by decide +kernel
theorem dX1_gives_8 : decode cX1_gives 8 = .ok (.iaload, 1) := by decide +kernel
theorem dX1_gives_9 : decode cX1_gives 9 = .ok (.if_icmp .lt 19, 3) := by decide +kernel
theorem dX1_gives_12 : decode cX1_gives 12 = .ok (.iload_n 2, 1) := by decide +kernel
theorem dX1_gives_13 : decode cX1_gives 13 = .ok (.aload_n 0, 1) := by decide +kernel
theorem dX1_gives_14 : decode cX1_gives 14 = .ok (.getfield 11, 3) := by decide +kernel
theorem dX1_gives_17 : decode cX1_gives 17 = .ok (.iload_n 1, 1) := by decide +kernel
theorem dX1_gives_18 : decode cX1_gives 18 = .ok (.iconst 3, 1) := by decide +kernel
theorem dX1_gives_19 : decode cX1_gives 19 = .ok (.iadd, 1) := by decide +kernel
theorem dX1_gives_20 : decode cX1_gives 20 = .ok (.iaload, 1) := by decide +kernel
theorem dX1_gives_21 : decode cX1_gives 21 = .ok (.if_icmp .gt 7, 3) := by decide +kernel
theorem dX1_gives_24 : decode cX1_gives 24 = .ok (.iconst 1, 1) := by decide +kernel
theorem dX1_gives_25 : decode cX1_gives 25 = .ok (.goto 4, 3) := by decide +kernel
theorem dX1_gives_28 : decode cX1_gives 28 = .ok (.iconst 0, 1) := by decide +kernel
theorem dX1_gives_29 : decode cX1_gives 29 = .ok (.ireturn, 1) := by decide +kernel
theorem dX1_mayStandFor_0 : decode cX1_mayStandFor 0 = .ok (.aload_n 0, 1) := by decide +kernel
theorem dX1_mayStandFor_1 : decode cX1_mayStandFor 1 = .ok (.getfield 11, 3) := by decide +kernel
theorem dX1_mayStandFor_4 : decode cX1_mayStandFor 4 = .ok (.iload_n 1, 1) := by decide +kernel
theorem dX1_mayStandFor_5 : decode cX1_mayStandFor 5 = .ok (.iconst 0, 1) := by decide +kernel
theorem dX1_mayStandFor_6 : decode cX1_mayStandFor 6 = .ok (.iadd, 1) := by decide +kernel
theorem dX1_mayStandFor_7 : decode cX1_mayStandFor 7 = .ok (.iaload, 1) := by decide +kernel
theorem dX1_mayStandFor_8 : decode cX1_mayStandFor 8 = .ok (.aload_n 0, 1) := by decide +kernel
theorem dX1_mayStandFor_9 : decode cX1_mayStandFor 9 = .ok (.getfield 11, 3) := by decide +kernel
theorem dX1_mayStandFor_12 : decode cX1_mayStandFor 12 = .ok (.iload_n 2, 1) := by decide +kernel
theorem dX1_mayStandFor_13 : decode cX1_mayStandFor 13 = .ok (.iconst 0, 1) := by decide +kernel
theorem dX1_mayStandFor_14 : decode cX1_mayStandFor 14 = .ok (.iadd, 1) := by decide +kernel
theorem dX1_mayStandFor_15 : decode cX1_mayStandFor 15 = .ok (.iaload, 1) := by decide +kernel
theorem dX1_mayStandFor_16 : decode cX1_mayStandFor 16 = .ok (.if_icmp .gt 64, 3) := by decide +kernel
theorem dX1_mayStandFor_19 : decode cX1_mayStandFor 19 = .ok (.aload_n 0, 1) := by decide +kernel
theorem dX1_mayStandFor_20 : decode cX1_mayStandFor 20 = .ok (.getfield 11, 3) := by decide +kernel
theorem dX1_mayStandFor_23 : decode cX1_mayStandFor 23 = .ok (.iload_n 1, 1) := by decide +kernel
theorem dX1_mayStandFor_24 : decode cX1_mayStandFor 24 = .ok (.iconst 1, 1) := by decide +kernel
theorem dX1_mayStandFor_25 : decode cX1_mayStandFor 25 = .ok (.iadd, 1) := by decide +kernel
theorem dX1_mayStandFor_26 : decode cX1_mayStandFor 26 = .ok (.iaload, 1) := by decide +kernel
theorem dX1_mayStandFor_27 : decode cX1_mayStandFor 27 = .ok (.aload_n 0, 1) := by decide +kernel
theorem dX1_mayStandFor_28 : decode cX1_mayStandFor 28 = .ok (.getfield 11, 3) := by decide +kernel
theorem dX1_mayStandFor_31 : decode cX1_mayStandFor 31 = .ok (.iload_n 2, 1) := by decide +kernel
theorem dX1_mayStandFor_32 : decode cX1_mayStandFor 32 = .ok (.iconst 1, 1) := by decide +kernel
theorem dX1_mayStandFor_33 : decode cX1_mayStandFor 33 = .ok (.iadd, 1) := by decide +kernel
theorem dX1_mayStandFor_34 : decode cX1_mayStandFor 34 = .ok (.iaload, 1) := by decide +kernel
theorem dX1_mayStandFor_35 : decode cX1_mayStandFor 35 = .ok (.if_icmp .lt 45, 3) := by decide +kernel
theorem dX1_mayStandFor_38 : decode cX1_mayStandFor 38 = .ok (.aload_n 0, 1) := by decide +kernel
theorem dX1_mayStandFor_39 : decode cX1_mayStandFor 39 = .ok (.getfield 11, 3) := by decide +kernel
theorem dX1_mayStandFor_42 : decode cX1_mayStandFor 42 = .ok (.iload_n 1, 1) := by decide +kernel
theorem dX1_mayStandFor_43 : decode cX1_mayStandFor 43 = .ok (.iconst 2, 1) := by decide +kernel
theorem dX1_mayStandFor_44 : decode cX1_mayStandFor 44 = .ok (.iadd, 1) := by decide +kernel
theorem dX1_mayStandFor_45 : decode cX1_mayStandFor 45 = .ok (.iaload, 1) := by decide +kernel
theorem dX1_mayStandFor_46 : decode cX1_mayStandFor 46 = .ok (.aload_n 0, 1) := by decide +kernel
theorem dX1_mayStandFor_47 : decode cX1_mayStandFor 47 = .ok (.getfield 11, 3) := by decide +kernel
theorem dX1_mayStandFor_50 : decode cX1_mayStandFor 50 = .ok (.iload_n 2, 1) := by decide +kernel
theorem dX1_mayStandFor_51 : decode cX1_mayStandFor 51 = .ok (.iconst 2, 1) := by decide +kernel
theorem dX1_mayStandFor_52 : decode cX1_mayStandFor 52 = .ok (.iadd, 1) := by decide +kernel
theorem dX1_mayStandFor_53 : decode cX1_mayStandFor 53 = .ok (.iaload, 1) := by decide +kernel
theorem dX1_mayStandFor_54 : decode cX1_mayStandFor 54 = .ok (.if_icmp .lt 26, 3) := by decide +kernel
theorem dX1_mayStandFor_57 : decode cX1_mayStandFor 57 = .ok (.aload_n 0, 1) := by decide +kernel
theorem dX1_mayStandFor_58 : decode cX1_mayStandFor 58 = .ok (.getfield 11, 3) := by decide +kernel
theorem dX1_mayStandFor_61 : decode cX1_mayStandFor 61 = .ok (.iload_n 1, 1) := by decide +kernel
theorem dX1_mayStandFor_62 : decode cX1_mayStandFor 62 = .ok (.iconst 3, 1) := by decide +kernel
theorem dX1_mayStandFor_63 : decode cX1_mayStandFor 63 = .ok (.iadd, 1) := by decide +kernel
theorem dX1_mayStandFor_64 : decode cX1_mayStandFor 64 = .ok (.iaload, 1) := by decide +kernel
theorem dX1_mayStandFor_65 : decode cX1_mayStandFor 65 = .ok (.aload_n 0, 1) := by decide +kernel
theorem dX1_mayStandFor_66 : decode cX1_mayStandFor 66 = .ok (.getfield 11, 3) := by decide +kernel
theorem dX1_mayStandFor_69 : decode cX1_mayStandFor 69 = .ok (.iload_n 2, 1) := by decide +kernel
theorem dX1_mayStandFor_70 : decode cX1_mayStandFor 70 = .ok (.iconst 3, 1) := by decide +kernel
theorem dX1_mayStandFor_71 : decode cX1_mayStandFor 71 = .ok (.iadd, 1) := by decide +kernel
theorem dX1_mayStandFor_72 : decode cX1_mayStandFor 72 = .ok (.iaload, 1) := by decide +kernel
theorem dX1_mayStandFor_73 : decode cX1_mayStandFor 73 = .ok (.if_icmp .gt 7, 3) := by decide +kernel
theorem dX1_mayStandFor_76 : decode cX1_mayStandFor 76 = .ok (.iconst 1, 1) := by decide +kernel
theorem dX1_mayStandFor_77 : decode cX1_mayStandFor 77 = .ok (.goto 4, 3) := by decide +kernel
theorem dX1_mayStandFor_80 : decode cX1_mayStandFor 80 = .ok (.iconst 0, 1) := by decide +kernel
theorem dX1_mayStandFor_81 : decode cX1_mayStandFor 81 = .ok (.ireturn, 1) := by decide +kernel
set_option maxRecDepth 20000 in
theorem ggX1_countOwn_X1_countRow : GoodIn wsX1_countOwn wsX1_countRow := goodIn_r _ [5, 6, 7, 8, 4, 9, 10] (by decide +kernel) (by decide +kernel)
set_option maxRecDepth 20000 in
theorem gX1_countOwn_X1_countRow : GoodIn wsX1_countOwn (wsV RX1 34 RX1 yX1_countRow wsX1_countRow) := goodIn_app (goodIn_of _ (by decide +kernel)) ggX1_countOwn_X1_countRow
theorem dX1_countOwn_0 : decode cX1_countOwn 0 = .ok (.aload_n 0, 1) := by decide +kernel
theorem dX1_countOwn_1 : decode cX1_countOwn 1 = .ok (.bipush 11, 2) := by decide +kernel
theorem dX1_countOwn_3 : decode cX1_countOwn 3 = .ok (.invokevirtual 34, 3) := by decide +kernel
theorem dX1_countOwn_6 : decode cX1_countOwn 6 = .ok (.ireturn, 1) := by decide +kernel
set_option maxRecDepth 20000 in
theorem ggX1_countLinks_X1_countRow : GoodIn wsX1_countLinks wsX1_countRow := goodIn_r _ [5, 6, 7, 8, 4, 9, 10] (by decide +kernel) (by decide +kernel)
set_option maxRecDepth 20000 in
theorem gX1_countLinks_X1_countRow : GoodIn wsX1_countLinks (wsV RX1 34 RX1 yX1_countRow wsX1_countRow) := goodIn_app (goodIn_of _ (by decide +kernel)) ggX1_countLinks_X1_countRow
theorem dX1_countLinks_0 : decode cX1_countLinks 0 = .ok (.iconst 0, 1) := by decide +kernel
theorem dX1_countLinks_1 : decode cX1_countLinks 1 = .ok (.istore_n 1, 1) := by decide +kernel
theorem dX1_countLinks_2 : decode cX1_countLinks 2 = .ok (.iconst 0, 1) := by decide +kernel
theorem dX1_countLinks_3 : decode cX1_countLinks 3 = .ok (.istore_n 2, 1) := by decide +kernel
theorem dX1_countLinks_4 : decode cX1_countLinks 4 = .ok (.iload_n 2, 1) := by decide +kernel
theorem dX1_countLinks_5 : decode cX1_countLinks 5 = .ok (.bipush 10, 2) := by decide +kernel
theorem dX1_countLinks_7 : decode cX1_countLinks 7 = .ok (.if_icmp .gt 17, 3) := by decide +kernel
theorem dX1_countLinks_10 : decode cX1_countLinks 10 = .ok (.iload_n 1, 1) := by decide +kernel
theorem dX1_countLinks_11 : decode cX1_countLinks 11 = .ok (.aload_n 0, 1) := by decide +kernel
theorem dX1_countLinks_12 : decode cX1_countLinks 12 = .ok (.iload_n 2, 1) := by decide +kernel
theorem dX1_countLinks_13 : decode cX1_countLinks 13 = .ok (.invokevirtual 34, 3) := by decide +kernel
theorem dX1_countLinks_16 : decode cX1_countLinks 16 = .ok (.iadd, 1) := by decide +kernel
theorem dX1_countLinks_17 : decode cX1_countLinks 17 = .ok (.istore_n 1, 1) := by decide +kernel
theorem dX1_countLinks_18 : decode cX1_countLinks 18 = .ok (.iinc 2 1, 3) := by decide +kernel
theorem dX1_countLinks_21 : decode cX1_countLinks 21 = .ok (.goto (-17), 3) := by decide +kernel
theorem dX1_countLinks_24 : decode cX1_countLinks 24 = .ok (.iload_n 1, 1) := by decide +kernel
theorem dX1_countLinks_25 : decode cX1_countLinks 25 = .ok (.ireturn, 1) := by decide +kernel
set_option maxRecDepth 20000 in
theorem ggX1_countHoles_X1_place : GoodIn wsX1_countHoles wsX1_place := goodIn_r _ [5] (by decide +kernel) (by decide +kernel)
set_option maxRecDepth 20000 in
theorem gX1_countHoles_X1_place : GoodIn wsX1_countHoles (va_wsS RX1 38 yX1_place wsX1_place) := goodIn_app (goodIn_of _ (by decide +kernel)) ggX1_countHoles_X1_place
set_option maxRecDepth 20000 in
theorem ggX1_countHoles_X1_mayStandFor : GoodIn wsX1_countHoles wsX1_mayStandFor := goodIn_r _ [9, 1, 10] (by decide +kernel) (by decide +kernel)
set_option maxRecDepth 20000 in
theorem gX1_countHoles_X1_mayStandFor : GoodIn wsX1_countHoles (wsV RX1 41 RX1 yX1_mayStandFor wsX1_mayStandFor) := goodIn_app (goodIn_of _ (by decide +kernel)) ggX1_countHoles_X1_mayStandFor
theorem dX1_countHoles_0 : decode cX1_countHoles 0 = .ok (.iconst 0, 1) := by decide +kernel
theorem dX1_countHoles_1 : decode cX1_countHoles 1 = .ok (.istore_n 1, 1) := by decide +kernel
theorem dX1_countHoles_2 : decode cX1_countHoles 2 = .ok (.iconst 0, 1) := by decide +kernel
theorem dX1_countHoles_3 : decode cX1_countHoles 3 = .ok (.istore_n 2, 1) := by decide +kernel
theorem dX1_countHoles_4 : decode cX1_countHoles 4 = .ok (.iload_n 2, 1) := by decide +kernel
theorem dX1_countHoles_5 : decode cX1_countHoles 5 = .ok (.bipush 10, 2) := by decide +kernel
theorem dX1_countHoles_7 : decode cX1_countHoles 7 = .ok (.if_icmp .gt 78, 3) := by decide +kernel
theorem dX1_countHoles_10 : decode cX1_countHoles 10 = .ok (.iconst 0, 1) := by decide +kernel
theorem dX1_countHoles_11 : decode cX1_countHoles 11 = .ok (.istore_n 3, 1) := by decide +kernel
theorem dX1_countHoles_12 : decode cX1_countHoles 12 = .ok (.iload_n 3, 1) := by decide +kernel
theorem dX1_countHoles_13 : decode cX1_countHoles 13 = .ok (.bipush 10, 2) := by decide +kernel
theorem dX1_countHoles_15 : decode cX1_countHoles 15 = .ok (.if_icmp .ge 64, 3) := by decide +kernel
theorem dX1_countHoles_18 : decode cX1_countHoles 18 = .ok (.iload_n 2, 1) := by decide +kernel
theorem dX1_countHoles_19 : decode cX1_countHoles 19 = .ok (.iload_n 3, 1) := by decide +kernel
theorem dX1_countHoles_20 : decode cX1_countHoles 20 = .ok (.invokestatic 38, 3) := by decide +kernel
theorem dX1_countHoles_23 : decode cX1_countHoles 23 = .ok (.istore 4, 2) := by decide +kernel
theorem dX1_countHoles_25 : decode cX1_countHoles 25 = .ok (.bipush 11, 2) := by decide +kernel
theorem dX1_countHoles_27 : decode cX1_countHoles 27 = .ok (.iload_n 3, 1) := by decide +kernel
theorem dX1_countHoles_28 : decode cX1_countHoles 28 = .ok (.invokestatic 38, 3) := by decide +kernel
theorem dX1_countHoles_31 : decode cX1_countHoles 31 = .ok (.istore 5, 2) := by decide +kernel
theorem dX1_countHoles_33 : decode cX1_countHoles 33 = .ok (.aload_n 0, 1) := by decide +kernel
theorem dX1_countHoles_34 : decode cX1_countHoles 34 = .ok (.getfield 11, 3) := by decide +kernel
theorem dX1_countHoles_37 : decode cX1_countHoles 37 = .ok (.iload 4, 2) := by decide +kernel
theorem dX1_countHoles_39 : decode cX1_countHoles 39 = .ok (.iaload, 1) := by decide +kernel
theorem dX1_countHoles_40 : decode cX1_countHoles 40 = .ok (.sipush (-10000), 3) := by decide +kernel
theorem dX1_countHoles_43 : decode cX1_countHoles 43 = .ok (.if_icmp .eq 30, 3) := by decide +kernel
theorem dX1_countHoles_46 : decode cX1_countHoles 46 = .ok (.aload_n 0, 1) := by decide +kernel
theorem dX1_countHoles_47 : decode cX1_countHoles 47 = .ok (.getfield 11, 3) := by decide +kernel
theorem dX1_countHoles_50 : decode cX1_countHoles 50 = .ok (.iload 5, 2) := by decide +kernel
theorem dX1_countHoles_52 : decode cX1_countHoles 52 = .ok (.iaload, 1) := by decide +kernel
theorem dX1_countHoles_53 : decode cX1_countHoles 53 = .ok (.sipush (-10000), 3) := by decide +kernel
theorem dX1_countHoles_56 : decode cX1_countHoles 56 = .ok (.if_icmp .eq 17, 3) := by decide +kernel
theorem dX1_countHoles_59 : decode cX1_countHoles 59 = .ok (.aload_n 0, 1) := by decide +kernel
theorem dX1_countHoles_60 : decode cX1_countHoles 60 = .ok (.iload 5, 2) := by decide +kernel
theorem dX1_countHoles_62 : decode cX1_countHoles 62 = .ok (.iload 4, 2) := by decide +kernel
theorem dX1_countHoles_64 : decode cX1_countHoles 64 = .ok (.invokevirtual 41, 3) := by decide +kernel
theorem dX1_countHoles_67 : decode cX1_countHoles 67 = .ok (.ifCond .ne 6, 3) := by decide +kernel
theorem dX1_countHoles_70 : decode cX1_countHoles 70 = .ok (.iinc 1 1, 3) := by decide +kernel
theorem dX1_countHoles_73 : decode cX1_countHoles 73 = .ok (.iinc 3 1, 3) := by decide +kernel
theorem dX1_countHoles_76 : decode cX1_countHoles 76 = .ok (.goto (-64), 3) := by decide +kernel
theorem dX1_countHoles_79 : decode cX1_countHoles 79 = .ok (.iinc 2 1, 3) := by decide +kernel
theorem dX1_countHoles_82 : decode cX1_countHoles 82 = .ok (.goto (-78), 3) := by decide +kernel
theorem dX1_countHoles_85 : decode cX1_countHoles 85 = .ok (.iload_n 1, 1) := by decide +kernel
theorem dX1_countHoles_86 : decode cX1_countHoles 86 = .ok (.ireturn, 1) := by decide +kernel
set_option maxRecDepth 20000 in
theorem ggX1_countRow_X1_place : GoodIn wsX1_countRow wsX1_place := goodIn_r _ [5] (by decide +kernel) (by decide +kernel)
set_option maxRecDepth 20000 in
theorem gX1_countRow_X1_place : GoodIn wsX1_countRow (va_wsS RX1 38 yX1_place wsX1_place) := goodIn_app (goodIn_of _ (by decide +kernel)) ggX1_countRow_X1_place
theorem dX1_countRow_0 : decode cX1_countRow 0 = .ok (.iconst 0, 1) := by decide +kernel
theorem dX1_countRow_1 : decode cX1_countRow 1 = .ok (.istore_n 2, 1) := by decide +kernel
theorem dX1_countRow_2 : decode cX1_countRow 2 = .ok (.iconst 0, 1) := by decide +kernel
theorem dX1_countRow_3 : decode cX1_countRow 3 = .ok (.istore_n 3, 1) := by decide +kernel
theorem dX1_countRow_4 : decode cX1_countRow 4 = .ok (.iload_n 3, 1) := by decide +kernel
theorem dX1_countRow_5 : decode cX1_countRow 5 = .ok (.bipush 10, 2) := by decide +kernel
theorem dX1_countRow_7 : decode cX1_countRow 7 = .ok (.if_icmp .ge 28, 3) := by decide +kernel
theorem dX1_countRow_10 : decode cX1_countRow 10 = .ok (.aload_n 0, 1) := by decide +kernel
theorem dX1_countRow_11 : decode cX1_countRow 11 = .ok (.getfield 11, 3) := by decide +kernel
theorem dX1_countRow_14 : decode cX1_countRow 14 = .ok (.iload_n 1, 1) := by decide +kernel
theorem dX1_countRow_15 : decode cX1_countRow 15 = .ok (.iload_n 3, 1) := by decide +kernel
theorem dX1_countRow_16 : decode cX1_countRow 16 = .ok (.invokestatic 38, 3) := by decide +kernel
theorem dX1_countRow_19 : decode cX1_countRow 19 = .ok (.iaload, 1) := by decide +kernel
theorem dX1_countRow_20 : decode cX1_countRow 20 = .ok (.sipush (-10000), 3) := by decide +kernel
theorem dX1_countRow_23 : decode cX1_countRow 23 = .ok (.if_icmp .eq 6, 3) := by decide +kernel
theorem dX1_countRow_26 : decode cX1_countRow 26 = .ok (.iinc 2 1, 3) := by decide +kernel
theorem dX1_countRow_29 : decode cX1_countRow 29 = .ok (.iinc 3 1, 3) := by decide +kernel
theorem dX1_countRow_32 : decode cX1_countRow 32 = .ok (.goto (-28), 3) := by decide +kernel
theorem dX1_countRow_35 : decode cX1_countRow 35 = .ok (.iload_n 2, 1) := by decide +kernel
theorem dX1_countRow_36 : decode cX1_countRow 36 = .ok (.ireturn, 1) := by decide +kernel
set_option maxRecDepth 20000 in
theorem ggX1_placeFor_X1_place : GoodIn wsX1_placeFor wsX1_place := goodIn_r _ [4] (by decide +kernel) (by decide +kernel)
set_option maxRecDepth 20000 in
theorem gX1_placeFor_X1_place : GoodIn wsX1_placeFor (va_wsS RX1 38 yX1_place wsX1_place) := goodIn_app (goodIn_of _ (by decide +kernel)) ggX1_placeFor_X1_place
theorem dX1_placeFor_0 : decode cX1_placeFor 0 = .ok (.iload_n 0, 1) := by decide +kernel
theorem dX1_placeFor_1 : decode cX1_placeFor 1 = .ok (.istore_n 2, 1) := by decide +kernel
theorem dX1_placeFor_2 : decode cX1_placeFor 2 = .ok (.iload_n 0, 1) := by decide +kernel
theorem dX1_placeFor_3 : decode cX1_placeFor 3 = .ok (.sipush (-10001), 3) := by decide +kernel
theorem dX1_placeFor_6 : decode cX1_placeFor 6 = .ok (.if_icmp .ne 9, 3) := by decide +kernel
theorem dX1_placeFor_9 : decode cX1_placeFor 9 = .ok (.bipush 11, 2) := by decide +kernel
theorem dX1_placeFor_11 : decode cX1_placeFor 11 = .ok (.istore_n 2, 1) := by decide +kernel
theorem dX1_placeFor_12 : decode cX1_placeFor 12 = .ok (.goto 31, 3) := by decide +kernel
theorem dX1_placeFor_15 : decode cX1_placeFor 15 = .ok (.iload_n 0, 1) := by decide +kernel
theorem dX1_placeFor_16 : decode cX1_placeFor 16 = .ok (.sipush (-10000), 3) := by decide +kernel
theorem dX1_placeFor_19 : decode cX1_placeFor 19 = .ok (.if_icmp .ne 9, 3) := by decide +kernel
theorem dX1_placeFor_22 : decode cX1_placeFor 22 = .ok (.bipush 10, 2) := by decide +kernel
theorem dX1_placeFor_24 : decode cX1_placeFor 24 = .ok (.istore_n 2, 1) := by decide +kernel
theorem dX1_placeFor_25 : decode cX1_placeFor 25 = .ok (.goto 18, 3) := by decide +kernel
theorem dX1_placeFor_28 : decode cX1_placeFor 28 = .ok (.iload_n 0, 1) := by decide +kernel
theorem dX1_placeFor_29 : decode cX1_placeFor 29 = .ok (.iload_n 1, 1) := by decide +kernel
theorem dX1_placeFor_30 : decode cX1_placeFor 30 = .ok (.if_icmp .le 9, 3) := by decide +kernel
theorem dX1_placeFor_33 : decode cX1_placeFor 33 = .ok (.iload_n 0, 1) := by decide +kernel
theorem dX1_placeFor_34 : decode cX1_placeFor 34 = .ok (.bipush 10, 2) := by decide +kernel
theorem dX1_placeFor_36 : decode cX1_placeFor 36 = .ok (.if_icmp .lt 7, 3) := by decide +kernel
theorem dX1_placeFor_39 : decode cX1_placeFor 39 = .ok (.sipush (-10000), 3) := by decide +kernel
theorem dX1_placeFor_42 : decode cX1_placeFor 42 = .ok (.ireturn, 1) := by decide +kernel
theorem dX1_placeFor_43 : decode cX1_placeFor 43 = .ok (.iload_n 1, 1) := by decide +kernel
theorem dX1_placeFor_44 : decode cX1_placeFor 44 = .ok (.ifCond .lt 17, 3) := by decide +kernel
theorem dX1_placeFor_47 : decode cX1_placeFor 47 = .ok (.iload_n 1, 1) := by decide +kernel
theorem dX1_placeFor_48 : decode cX1_placeFor 48 = .ok (.bipush 10, 2) := by decide +kernel
theorem dX1_placeFor_50 : decode cX1_placeFor 50 = .ok (.if_icmp .ge 11, 3) := by decide +kernel
theorem dX1_placeFor_53 : decode cX1_placeFor 53 = .ok (.iload_n 2, 1) := by decide +kernel
theorem dX1_placeFor_54 : decode cX1_placeFor 54 = .ok (.iload_n 1, 1) := by decide +kernel
theorem dX1_placeFor_55 : decode cX1_placeFor 55 = .ok (.invokestatic 38, 3) := by decide +kernel
theorem dX1_placeFor_58 : decode cX1_placeFor 58 = .ok (.goto 6, 3) := by decide +kernel
theorem dX1_placeFor_61 : decode cX1_placeFor 61 = .ok (.sipush (-10000), 3) := by decide +kernel
theorem dX1_placeFor_64 : decode cX1_placeFor 64 = .ok (.ireturn, 1) := by decide +kernel
theorem dX1_place_0 : decode cX1_place 0 = .ok (.iload_n 0, 1) := by decide +kernel
theorem dX1_place_1 : decode cX1_place 1 = .ok (.bipush 10, 2) := by decide +kernel
theorem dX1_place_3 : decode cX1_place 3 = .ok (.imul, 1) := by decide +kernel
theorem dX1_place_4 : decode cX1_place 4 = .ok (.iload_n 1, 1) := by decide +kernel
theorem dX1_place_5 : decode cX1_place 5 = .ok (.iadd, 1) := by decide +kernel
theorem dX1_place_6 : decode cX1_place 6 = .ok (.iconst 4, 1) := by decide +kernel
theorem dX1_place_7 : decode cX1_place 7 = .ok (.imul, 1) := by decide +kernel
theorem dX1_place_8 : decode cX1_place 8 = .ok (.ireturn, 1) := by decide +kernel
