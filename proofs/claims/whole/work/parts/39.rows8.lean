theorem dX8_init_0 : decode cX8_init 0 = .ok (.aload_n 0, 1) := by decide +kernel
theorem dX8_init_1 : decode cX8_init 1 = .ok (.invokespecial 1, 3) := by decide +kernel
theorem dX8_init_4 : decode cX8_init 4 = .ok (.aload_n 0, 1) := by decide +kernel
theorem dX8_init_5 : decode cX8_init 5 = .ok (.bipush 120, 2) := by decide +kernel
theorem dX8_init_7 : decode cX8_init 7 = .ok (.newarray .int, 2) := by decide +kernel
theorem dX8_init_9 : decode cX8_init 9 = .ok (.putfield 7, 3) := by decide +kernel
theorem dX8_init_12 : decode cX8_init 12 = .ok (.aload_n 0, 1) := by decide +kernel
theorem dX8_init_13 : decode cX8_init 13 = .ok (.sipush 748, 3) := by decide +kernel
theorem dX8_init_16 : decode cX8_init 16 = .ok (.newarray .int, 2) := by decide +kernel
theorem dX8_init_18 : decode cX8_init 18 = .ok (.putfield 13, 3) := by decide +kernel
theorem dX8_init_21 : decode cX8_init 21 = .ok (.aload_n 0, 1) := by decide +kernel
theorem dX8_init_22 : decode cX8_init 22 = .ok (.sipush 748, 3) := by decide +kernel
theorem dX8_init_25 : decode cX8_init 25 = .ok (.newarray .int, 2) := by decide +kernel
theorem dX8_init_27 : decode cX8_init 27 = .ok (.putfield 16, 3) := by decide +kernel
theorem dX8_init_30 : decode cX8_init 30 = .ok (.aload_n 0, 1) := by decide +kernel
theorem dX8_init_31 : decode cX8_init 31 = .ok (.sipush 748, 3) := by decide +kernel
theorem dX8_init_34 : decode cX8_init 34 = .ok (.newarray .int, 2) := by decide +kernel
theorem dX8_init_36 : decode cX8_init 36 = .ok (.putfield 19, 3) := by decide +kernel
theorem dX8_init_39 : decode cX8_init 39 = .ok (.aload_n 0, 1) := by decide +kernel
theorem dX8_init_40 : decode cX8_init 40 = .ok (.sipush 10472, 3) := by decide +kernel
theorem dX8_init_43 : decode cX8_init 43 = .ok (.newarray .int, 2) := by decide +kernel
theorem dX8_init_45 : decode cX8_init 45 = .ok (.putfield 22, 3) := by decide +kernel
theorem dX8_init_48 : decode cX8_init 48 = .ok (.aload_n 0, 1) := by decide +kernel
theorem dX8_init_49 : decode cX8_init 49 = .ok (.sipush 1496, 3) := by decide +kernel
theorem dX8_init_52 : decode cX8_init 52 = .ok (.newarray .int, 2) := by decide +kernel
theorem dX8_init_54 : decode cX8_init 54 = .ok (.putfield 25, 3) := by decide +kernel
theorem dX8_init_57 : decode cX8_init 57 = .ok (.aload_n 0, 1) := by decide +kernel
theorem dX8_init_58 : decode cX8_init 58 = .ok (.iconst 2, 1) := by decide +kernel
theorem dX8_init_59 : decode cX8_init 59 = .ok (.newarray .boolean, 2) := by decide +kernel
theorem dX8_init_61 : decode cX8_init 61 = .ok (.putfield 28, 3) := by decide +kernel
theorem dX8_init_64 : decode cX8_init 64 = .ok (.aload_n 0, 1) := by decide +kernel
theorem dX8_init_65 : decode cX8_init 65 = .ok (.bipush 10, 2) := by decide +kernel
theorem dX8_init_67 : decode cX8_init 67 = .ok (.newarray .int, 2) := by decide +kernel
theorem dX8_init_69 : decode cX8_init 69 = .ok (.putfield 32, 3) := by decide +kernel
theorem dX8_init_72 : decode cX8_init 72 = .ok (.aload_n 0, 1) := by decide +kernel
theorem dX8_init_73 : decode cX8_init 73 = .ok (.bipush 10, 2) := by decide +kernel
theorem dX8_init_75 : decode cX8_init 75 = .ok (.newarray .int, 2) := by decide +kernel
theorem dX8_init_77 : decode cX8_init 77 = .ok (.putfield 35, 3) := by decide +kernel
theorem dX8_init_80 : decode cX8_init 80 = .ok (.aload_n 0, 1) := by decide +kernel
theorem dX8_init_81 : decode cX8_init 81 = .ok (.sipush 748, 3) := by decide +kernel
theorem dX8_init_84 : decode cX8_init 84 = .ok (.newarray .int, 2) := by decide +kernel
theorem dX8_init_86 : decode cX8_init 86 = .ok (.putfield 38, 3) := by decide +kernel
theorem dX8_init_89 : decode cX8_init 89 = .ok (.return_, 1) := by decide +kernel
theorem dX8_thrown_0 : decode cX8_thrown 0 = .ok (.aload_n 0, 1) := by decide +kernel
theorem dX8_thrown_1 : decode cX8_thrown 1 = .ok (.getfield 41, 3) := by decide +kernel
theorem dX8_thrown_4 : decode cX8_thrown 4 = .ok (.ireturn, 1) := by decide +kernel
theorem dX8_refused_0 : decode cX8_refused 0 = .ok (.aload_n 0, 1) := by decide +kernel
theorem dX8_refused_1 : decode cX8_refused 1 = .ok (.iload_n 1, 1) := by decide +kernel
theorem dX8_refused_2 : decode cX8_refused 2 = .ok (.putfield 41, 3) := by decide +kernel
theorem dX8_refused_5 : decode cX8_refused 5 = .ok (.iload_n 1, 1) := by decide +kernel
theorem dX8_refused_6 : decode cX8_refused 6 = .ok (.ifCond .le 7, 3) := by decide +kernel
theorem dX8_refused_9 : decode cX8_refused 9 = .ok (.iconst 1, 1) := by decide +kernel
theorem dX8_refused_10 : decode cX8_refused 10 = .ok (.goto 4, 3) := by decide +kernel
theorem dX8_refused_13 : decode cX8_refused 13 = .ok (.iconst 0, 1) := by decide +kernel
theorem dX8_refused_14 : decode cX8_refused 14 = .ok (.ireturn, 1) := by decide +kernel
theorem dX8_in_0 : decode cX8_in 0 = .ok (.lload_n 0, 1) := by decide +kernel
theorem dX8_in_1 : decode cX8_in 1 = .ok (.lload_n 2, 1) := by decide +kernel
theorem dX8_in_2 : decode cX8_in 2 = .ok (.lcmp, 1) := by decide +kernel
theorem dX8_in_3 : decode cX8_in 3 = .ok (.ifCond .lt 14, 3) := by decide +kernel
theorem dX8_in_6 : decode cX8_in 6 = .ok (.lload_n 0, 1) := by decide +kernel
theorem dX8_in_7 : decode cX8_in 7 = .ok (.lload 4, 2) := by decide +kernel
theorem dX8_in_9 : decode cX8_in 9 = .ok (.lcmp, 1) := by decide +kernel
theorem dX8_in_10 : decode cX8_in 10 = .ok (.ifCond .gt 7, 3) := by decide +kernel
theorem dX8_in_13 : decode cX8_in 13 = .ok (.iconst 1, 1) := by decide +kernel
theorem dX8_in_14 : decode cX8_in 14 = .ok (.goto 4, 3) := by decide +kernel
theorem dX8_in_17 : decode cX8_in 17 = .ok (.iconst 0, 1) := by decide +kernel
theorem dX8_in_18 : decode cX8_in 18 = .ok (.ireturn, 1) := by decide +kernel
theorem dX8_copy_0 : decode cX8_copy 0 = .ok (.iconst 0, 1) := by decide +kernel
theorem dX8_copy_1 : decode cX8_copy 1 = .ok (.istore 5, 2) := by decide +kernel
theorem dX8_copy_3 : decode cX8_copy 3 = .ok (.iload 5, 2) := by decide +kernel
theorem dX8_copy_5 : decode cX8_copy 5 = .ok (.iload 4, 2) := by decide +kernel
theorem dX8_copy_7 : decode cX8_copy 7 = .ok (.if_icmp .ge 21, 3) := by decide +kernel
theorem dX8_copy_10 : decode cX8_copy 10 = .ok (.aload_n 2, 1) := by decide +kernel
theorem dX8_copy_11 : decode cX8_copy 11 = .ok (.iload_n 3, 1) := by decide +kernel
theorem dX8_copy_12 : decode cX8_copy 12 = .ok (.iload 5, 2) := by decide +kernel
theorem dX8_copy_14 : decode cX8_copy 14 = .ok (.iadd, 1) := by decide +kernel
theorem dX8_copy_15 : decode cX8_copy 15 = .ok (.aload_n 0, 1) := by decide +kernel
theorem dX8_copy_16 : decode cX8_copy 16 = .ok (.iload_n 1, 1) := by decide +kernel
theorem dX8_copy_17 : decode cX8_copy 17 = .ok (.iload 5, 2) := by decide +kernel
theorem dX8_copy_19 : decode cX8_copy 19 = .ok (.iadd, 1) := by decide +kernel
theorem dX8_copy_20 : decode cX8_copy 20 = .ok (.iaload, 1) := by decide +kernel
theorem dX8_copy_21 : decode cX8_copy 21 = .ok (.iastore, 1) := by decide +kernel
theorem dX8_copy_22 : decode cX8_copy 22 = .ok (.iinc 5 1, 3) := by decide +kernel
theorem dX8_copy_25 : decode cX8_copy 25 = .ok (.goto (-22), 3) := by decide +kernel
theorem dX8_copy_28 : decode cX8_copy 28 = .ok (.return_, 1) := by decide +kernel
theorem dX8_tenTo_0 : decode cX8_tenTo 0 = .ok (.lconst 1, 1) := by decide +kernel
theorem dX8_tenTo_1 : decode cX8_tenTo 1 = .ok (.lstore_n 1, 1) := by decide +kernel
theorem dX8_tenTo_2 : decode cX8_tenTo 2 = .ok (.iconst 0, 1) := by decide +kernel
theorem dX8_tenTo_3 : decode cX8_tenTo 3 = .ok (.istore_n 3, 1) := by decide +kernel
theorem dX8_tenTo_4 : decode cX8_tenTo 4 = .ok (.iload_n 3, 1) := by decide +kernel
theorem dX8_tenTo_5 : decode cX8_tenTo 5 = .ok (.iload_n 0, 1) := by decide +kernel
theorem dX8_tenTo_6 : decode cX8_tenTo 6 = .ok (.if_icmp .ge 15, 3) := by decide +kernel
theorem dX8_tenTo_9 : decode cX8_tenTo 9 = .ok (.lload_n 1, 1) := by decide +kernel
theorem dX8_tenTo_10 : decode cX8_tenTo 10 = .ok (.ldc2_w 45, 3) := by decide +kernel
theorem dX8_tenTo_13 : decode cX8_tenTo 13 = .ok (.lmul, 1) := by decide +kernel
theorem dX8_tenTo_14 : decode cX8_tenTo 14 = .ok (.lstore_n 1, 1) := by decide +kernel
theorem dX8_tenTo_15 : decode cX8_tenTo 15 = .ok (.iinc 3 1, 3) := by decide +kernel
theorem dX8_tenTo_18 : decode cX8_tenTo 18 = .ok (.goto (-14), 3) := by decide +kernel
theorem dX8_tenTo_21 : decode cX8_tenTo 21 = .ok (.lload_n 1, 1) := by decide +kernel
theorem dX8_tenTo_22 : decode cX8_tenTo 22 = .ok (.lreturn, 1) := by decide +kernel
set_option maxRecDepth 20000 in
theorem ggX8_remember_X8_copy : GoodIn wsX8_remember wsX8_copy := goodIn_r _ [7] (by decide +kernel) (by decide +kernel)
set_option maxRecDepth 20000 in
theorem gX8_remember_X8_copy : GoodIn wsX8_remember (va_wsS RX8 50 yX8_copy wsX8_copy) := goodIn_app (goodIn_of _ (by decide +kernel)) ggX8_remember_X8_copy
theorem dX8_remember_0 : decode cX8_remember 0 = .ok (.aload_n 0, 1) := by decide +kernel
theorem dX8_remember_1 : decode cX8_remember 1 = .ok (.getfield 47, 3) := by decide +kernel
theorem dX8_remember_4 : decode cX8_remember 4 = .ok (.bipush 14, 2) := by decide +kernel
theorem dX8_remember_6 : decode cX8_remember 6 = .ok (.if_icmp .ne 31, 3) := by decide +kernel
theorem dX8_remember_9 : decode cX8_remember 9 = .ok (.aload_n 0, 1) := by decide +kernel
theorem dX8_remember_10 : decode cX8_remember 10 = .ok (.getfield 22, 3) := by decide +kernel
theorem dX8_remember_13 : decode cX8_remember 13 = .ok (.sipush 748, 3) := by decide +kernel
theorem dX8_remember_16 : decode cX8_remember 16 = .ok (.aload_n 0, 1) := by decide +kernel
theorem dX8_remember_17 : decode cX8_remember 17 = .ok (.getfield 22, 3) := by decide +kernel
theorem dX8_remember_20 : decode cX8_remember 20 = .ok (.iconst 0, 1) := by decide +kernel
theorem dX8_remember_21 : decode cX8_remember 21 = .ok (.sipush 9724, 3) := by decide +kernel
theorem dX8_remember_24 : decode cX8_remember 24 = .ok (.invokestatic 50, 3) := by decide +kernel
theorem dX8_remember_27 : decode cX8_remember 27 = .ok (.aload_n 0, 1) := by decide +kernel
theorem dX8_remember_28 : decode cX8_remember 28 = .ok (.dup, 1) := by decide +kernel
theorem dX8_remember_29 : decode cX8_remember 29 = .ok (.getfield 47, 3) := by decide +kernel
theorem dX8_remember_32 : decode cX8_remember 32 = .ok (.iconst 1, 1) := by decide +kernel
theorem dX8_remember_33 : decode cX8_remember 33 = .ok (.isub, 1) := by decide +kernel
theorem dX8_remember_34 : decode cX8_remember 34 = .ok (.putfield 47, 3) := by decide +kernel
theorem dX8_remember_37 : decode cX8_remember 37 = .ok (.aload_n 0, 1) := by decide +kernel
theorem dX8_remember_38 : decode cX8_remember 38 = .ok (.getfield 16, 3) := by decide +kernel
theorem dX8_remember_41 : decode cX8_remember 41 = .ok (.iconst 0, 1) := by decide +kernel
theorem dX8_remember_42 : decode cX8_remember 42 = .ok (.aload_n 0, 1) := by decide +kernel
theorem dX8_remember_43 : decode cX8_remember 43 = .ok (.getfield 22, 3) := by decide +kernel
theorem dX8_remember_46 : decode cX8_remember 46 = .ok (.sipush 748, 3) := by decide +kernel
theorem dX8_remember_49 : decode cX8_remember 49 = .ok (.aload_n 0, 1) := by decide +kernel
theorem dX8_remember_50 : decode cX8_remember 50 = .ok (.getfield 47, 3) := by decide +kernel
theorem dX8_remember_53 : decode cX8_remember 53 = .ok (.imul, 1) := by decide +kernel
theorem dX8_remember_54 : decode cX8_remember 54 = .ok (.sipush 748, 3) := by decide +kernel
theorem dX8_remember_57 : decode cX8_remember 57 = .ok (.invokestatic 50, 3) := by decide +kernel
theorem dX8_remember_60 : decode cX8_remember 60 = .ok (.aload_n 0, 1) := by decide +kernel
theorem dX8_remember_61 : decode cX8_remember 61 = .ok (.dup, 1) := by decide +kernel
theorem dX8_remember_62 : decode cX8_remember 62 = .ok (.getfield 47, 3) := by decide +kernel
theorem dX8_remember_65 : decode cX8_remember 65 = .ok (.iconst 1, 1) := by decide +kernel
theorem dX8_remember_66 : decode cX8_remember 66 = .ok (.iadd, 1) := by decide +kernel
theorem dX8_remember_67 : decode cX8_remember 67 = .ok (.putfield 47, 3) := by decide +kernel
theorem dX8_remember_70 : decode cX8_remember 70 = .ok (.return_, 1) := by decide +kernel
set_option maxRecDepth 20000 in
theorem ggX8_tryIt_X8_copy : GoodIn wsX8_tryIt wsX8_copy := goodIn_r _ [6] (by decide +kernel) (by decide +kernel)
set_option maxRecDepth 20000 in
theorem gX8_tryIt_X8_copy : GoodIn wsX8_tryIt (va_wsS RX8 50 yX8_copy wsX8_copy) := goodIn_app (goodIn_of _ (by decide +kernel)) ggX8_tryIt_X8_copy
theorem dX8_tryIt_0 : decode cX8_tryIt 0 = .ok (.aload_n 0, 1) := by decide +kernel
theorem dX8_tryIt_1 : decode cX8_tryIt 1 = .ok (.getfield 16, 3) := by decide +kernel
theorem dX8_tryIt_4 : decode cX8_tryIt 4 = .ok (.iconst 0, 1) := by decide +kernel
theorem dX8_tryIt_5 : decode cX8_tryIt 5 = .ok (.aload_n 0, 1) := by decide +kernel
theorem dX8_tryIt_6 : decode cX8_tryIt 6 = .ok (.getfield 19, 3) := by decide +kernel
theorem dX8_tryIt_9 : decode cX8_tryIt 9 = .ok (.iconst 0, 1) := by decide +kernel
theorem dX8_tryIt_10 : decode cX8_tryIt 10 = .ok (.sipush 748, 3) := by decide +kernel
theorem dX8_tryIt_13 : decode cX8_tryIt 13 = .ok (.invokestatic 50, 3) := by decide +kernel
theorem dX8_tryIt_16 : decode cX8_tryIt 16 = .ok (.return_, 1) := by decide +kernel
theorem dX8_partAt_0 : decode cX8_partAt 0 = .ok (.iconst 1, 1) := by decide +kernel
theorem dX8_partAt_1 : decode cX8_partAt 1 = .ok (.bipush 8, 2) := by decide +kernel
theorem dX8_partAt_3 : decode cX8_partAt 3 = .ok (.iload_n 0, 1) := by decide +kernel
theorem dX8_partAt_4 : decode cX8_partAt 4 = .ok (.imul, 1) := by decide +kernel
theorem dX8_partAt_5 : decode cX8_partAt 5 = .ok (.iadd, 1) := by decide +kernel
theorem dX8_partAt_6 : decode cX8_partAt 6 = .ok (.iload_n 1, 1) := by decide +kernel
theorem dX8_partAt_7 : decode cX8_partAt 7 = .ok (.iadd, 1) := by decide +kernel
theorem dX8_partAt_8 : decode cX8_partAt 8 = .ok (.ireturn, 1) := by decide +kernel
theorem dX8_sideOf_0 : decode cX8_sideOf 0 = .ok (.iload_n 0, 1) := by decide +kernel
theorem dX8_sideOf_1 : decode cX8_sideOf 1 = .ok (.sipush (-10001), 3) := by decide +kernel
theorem dX8_sideOf_4 : decode cX8_sideOf 4 = .ok (.if_icmp .ne 7, 3) := by decide +kernel
theorem dX8_sideOf_7 : decode cX8_sideOf 7 = .ok (.iconst 0, 1) := by decide +kernel
theorem dX8_sideOf_8 : decode cX8_sideOf 8 = .ok (.goto 17, 3) := by decide +kernel
theorem dX8_sideOf_11 : decode cX8_sideOf 11 = .ok (.iload_n 0, 1) := by decide +kernel
theorem dX8_sideOf_12 : decode cX8_sideOf 12 = .ok (.sipush (-10000), 3) := by decide +kernel
theorem dX8_sideOf_15 : decode cX8_sideOf 15 = .ok (.if_icmp .ne 7, 3) := by decide +kernel
theorem dX8_sideOf_18 : decode cX8_sideOf 18 = .ok (.iconst 1, 1) := by decide +kernel
theorem dX8_sideOf_19 : decode cX8_sideOf 19 = .ok (.goto 6, 3) := by decide +kernel
theorem dX8_sideOf_22 : decode cX8_sideOf 22 = .ok (.iconst 2, 1) := by decide +kernel
theorem dX8_sideOf_23 : decode cX8_sideOf 23 = .ok (.iload_n 0, 1) := by decide +kernel
theorem dX8_sideOf_24 : decode cX8_sideOf 24 = .ok (.iadd, 1) := by decide +kernel
theorem dX8_sideOf_25 : decode cX8_sideOf 25 = .ok (.ireturn, 1) := by decide +kernel
theorem dX8_contractAt_0 : decode cX8_contractAt 0 = .ok (.bipush 81, 2) := by decide +kernel
theorem dX8_contractAt_2 : decode cX8_contractAt 2 = .ok (.iconst 5, 1) := by decide +kernel
theorem dX8_contractAt_3 : decode cX8_contractAt 3 = .ok (.bipush 10, 2) := by decide +kernel
theorem dX8_contractAt_5 : decode cX8_contractAt 5 = .ok (.iload_n 0, 1) := by decide +kernel
theorem dX8_contractAt_6 : decode cX8_contractAt 6 = .ok (.imul, 1) := by decide +kernel
theorem dX8_contractAt_7 : decode cX8_contractAt 7 = .ok (.iload_n 1, 1) := by decide +kernel
theorem dX8_contractAt_8 : decode cX8_contractAt 8 = .ok (.iadd, 1) := by decide +kernel
theorem dX8_contractAt_9 : decode cX8_contractAt 9 = .ok (.imul, 1) := by decide +kernel
theorem dX8_contractAt_10 : decode cX8_contractAt 10 = .ok (.iadd, 1) := by decide +kernel
theorem dX8_contractAt_11 : decode cX8_contractAt 11 = .ok (.iload_n 2, 1) := by decide +kernel
theorem dX8_contractAt_12 : decode cX8_contractAt 12 = .ok (.iadd, 1) := by decide +kernel
theorem dX8_contractAt_13 : decode cX8_contractAt 13 = .ok (.ireturn, 1) := by decide +kernel
set_option maxRecDepth 20000 in
theorem ggX8_hasContract_X8_contractAt : GoodIn wsX8_hasContract wsX8_contractAt := goodIn_r _ [4] (by decide +kernel) (by decide +kernel)
set_option maxRecDepth 20000 in
theorem gX8_hasContract_X8_contractAt : GoodIn wsX8_hasContract (va_wsS RX8 54 yX8_contractAt wsX8_contractAt) := goodIn_app (goodIn_of _ (by decide +kernel)) ggX8_hasContract_X8_contractAt
theorem dX8_hasContract_0 : decode cX8_hasContract 0 = .ok (.aload_n 0, 1) := by decide +kernel
theorem dX8_hasContract_1 : decode cX8_hasContract 1 = .ok (.iload_n 1, 1) := by decide +kernel
theorem dX8_hasContract_2 : decode cX8_hasContract 2 = .ok (.iload_n 2, 1) := by decide +kernel
theorem dX8_hasContract_3 : decode cX8_hasContract 3 = .ok (.iconst 0, 1) := by decide +kernel
theorem dX8_hasContract_4 : decode cX8_hasContract 4 = .ok (.invokestatic 54, 3) := by decide +kernel
theorem dX8_hasContract_7 : decode cX8_hasContract 7 = .ok (.iaload, 1) := by decide +kernel
theorem dX8_hasContract_8 : decode cX8_hasContract 8 = .ok (.iconst 1, 1) := by decide +kernel
theorem dX8_hasContract_9 : decode cX8_hasContract 9 = .ok (.if_icmp .ne 7, 3) := by decide +kernel
theorem dX8_hasContract_12 : decode cX8_hasContract 12 = .ok (.iconst 1, 1) := by decide +kernel
theorem dX8_hasContract_13 : decode cX8_hasContract 13 = .ok (.goto 4, 3) := by decide +kernel
theorem dX8_hasContract_16 : decode cX8_hasContract 16 = .ok (.iconst 0, 1) := by decide +kernel
theorem dX8_hasContract_17 : decode cX8_hasContract 17 = .ok (.ireturn, 1) := by decide +kernel
set_option maxRecDepth 20000 in
theorem ggX8_asks_X8_hasContract : GoodIn wsX8_asks wsX8_hasContract := goodIn_r _ [4, 5, 6, 3, 7] (by decide +kernel) (by decide +kernel)
set_option maxRecDepth 20000 in
theorem gX8_asks_X8_hasContract : GoodIn wsX8_asks (va_wsS RX8 58 yX8_hasContract wsX8_hasContract) := goodIn_app (goodIn_of _ (by decide +kernel)) ggX8_asks_X8_hasContract
set_option maxRecDepth 20000 in
theorem ggX8_asks_X8_contractAt : GoodIn wsX8_asks wsX8_contractAt := goodIn_r _ [7] (by decide +kernel) (by decide +kernel)
set_option maxRecDepth 20000 in
theorem gX8_asks_X8_contractAt : GoodIn wsX8_asks (va_wsS RX8 54 yX8_contractAt wsX8_contractAt) := goodIn_app (goodIn_of _ (by decide +kernel)) ggX8_asks_X8_contractAt
set_option maxRecDepth 20000 in
theorem ggX8_asks_X8_in : GoodIn wsX8_asks wsX8_in := goodIn_r _ [10] (by decide +kernel) (by decide +kernel)
set_option maxRecDepth 20000 in
theorem gX8_asks_X8_in : GoodIn wsX8_asks (va_wsS RX8 62 yX8_in wsX8_in) := goodIn_app (goodIn_of _ (by decide +kernel)) ggX8_asks_X8_in
theorem dX8_asks_0 : decode cX8_asks 0 = .ok (.aload_n 0, 1) := by decide +kernel
theorem dX8_asks_1 : decode cX8_asks 1 = .ok (.iload_n 1, 1) := by decide +kernel
theorem dX8_asks_2 : decode cX8_asks 2 = .ok (.iload_n 2, 1) := by decide +kernel
theorem dX8_asks_3 : decode cX8_asks 3 = .ok (.invokestatic 58, 3) := by decide +kernel
theorem dX8_asks_6 : decode cX8_asks 6 = .ok (.ifCond .eq 29, 3) := by decide +kernel
theorem dX8_asks_9 : decode cX8_asks 9 = .ok (.iload_n 3, 1) := by decide +kernel
theorem dX8_asks_10 : decode cX8_asks 10 = .ok (.i2l, 1) := by decide +kernel
theorem dX8_asks_11 : decode cX8_asks 11 = .ok (.aload_n 0, 1) := by decide +kernel
theorem dX8_asks_12 : decode cX8_asks 12 = .ok (.iload_n 1, 1) := by decide +kernel
theorem dX8_asks_13 : decode cX8_asks 13 = .ok (.iload_n 2, 1) := by decide +kernel
theorem dX8_asks_14 : decode cX8_asks 14 = .ok (.iconst 1, 1) := by decide +kernel
theorem dX8_asks_15 : decode cX8_asks 15 = .ok (.invokestatic 54, 3) := by decide +kernel
theorem dX8_asks_18 : decode cX8_asks 18 = .ok (.iaload, 1) := by decide +kernel
theorem dX8_asks_19 : decode cX8_asks 19 = .ok (.i2l, 1) := by decide +kernel
theorem dX8_asks_20 : decode cX8_asks 20 = .ok (.aload_n 0, 1) := by decide +kernel
theorem dX8_asks_21 : decode cX8_asks 21 = .ok (.iload_n 1, 1) := by decide +kernel
theorem dX8_asks_22 : decode cX8_asks 22 = .ok (.iload_n 2, 1) := by decide +kernel
theorem dX8_asks_23 : decode cX8_asks 23 = .ok (.iconst 2, 1) := by decide +kernel
theorem dX8_asks_24 : decode cX8_asks 24 = .ok (.invokestatic 54, 3) := by decide +kernel
theorem dX8_asks_27 : decode cX8_asks 27 = .ok (.iaload, 1) := by decide +kernel
theorem dX8_asks_28 : decode cX8_asks 28 = .ok (.i2l, 1) := by decide +kernel
theorem dX8_asks_29 : decode cX8_asks 29 = .ok (.invokestatic 62, 3) := by decide +kernel
theorem dX8_asks_32 : decode cX8_asks 32 = .ok (.ifCond .eq 7, 3) := by decide +kernel
theorem dX8_asks_35 : decode cX8_asks 35 = .ok (.iconst 1, 1) := by decide +kernel
theorem dX8_asks_36 : decode cX8_asks 36 = .ok (.goto 4, 3) := by decide +kernel
theorem dX8_asks_39 : decode cX8_asks 39 = .ok (.iconst 0, 1) := by decide +kernel
theorem dX8_asks_40 : decode cX8_asks 40 = .ok (.ireturn, 1) := by decide +kernel
set_option maxRecDepth 20000 in
theorem ggX8_gives_X8_hasContract : GoodIn wsX8_gives wsX8_hasContract := goodIn_r _ [4, 5, 6, 3, 7] (by decide +kernel) (by decide +kernel)
set_option maxRecDepth 20000 in
theorem gX8_gives_X8_hasContract : GoodIn wsX8_gives (va_wsS RX8 58 yX8_hasContract wsX8_hasContract) := goodIn_app (goodIn_of _ (by decide +kernel)) ggX8_gives_X8_hasContract
set_option maxRecDepth 20000 in
theorem ggX8_gives_X8_contractAt : GoodIn wsX8_gives wsX8_contractAt := goodIn_r _ [7] (by decide +kernel) (by decide +kernel)
set_option maxRecDepth 20000 in
theorem gX8_gives_X8_contractAt : GoodIn wsX8_gives (va_wsS RX8 54 yX8_contractAt wsX8_contractAt) := goodIn_app (goodIn_of _ (by decide +kernel)) ggX8_gives_X8_contractAt
set_option maxRecDepth 20000 in
theorem ggX8_gives_X8_in : GoodIn wsX8_gives wsX8_in := goodIn_r _ [10] (by decide +kernel) (by decide +kernel)
set_option maxRecDepth 20000 in
theorem gX8_gives_X8_in : GoodIn wsX8_gives (va_wsS RX8 62 yX8_in wsX8_in) := goodIn_app (goodIn_of _ (by decide +kernel)) ggX8_gives_X8_in
theorem dX8_gives_0 : decode cX8_gives 0 = .ok (.aload_n 0, 1) := by decide +kernel
theorem dX8_gives_1 : decode cX8_gives 1 = .ok (.iload_n 1, 1) := by decide +kernel
theorem dX8_gives_2 : decode cX8_gives 2 = .ok (.iload_n 2, 1) := by decide +kernel
theorem dX8_gives_3 : decode cX8_gives 3 = .ok (.invokestatic 58, 3) := by decide +kernel
theorem dX8_gives_6 : decode cX8_gives 6 = .ok (.ifCond .eq 29, 3) := by decide +kernel
theorem dX8_gives_9 : decode cX8_gives 9 = .ok (.iload_n 3, 1) := by decide +kernel
theorem dX8_gives_10 : decode cX8_gives 10 = .ok (.i2l, 1) := by decide +kernel
theorem dX8_gives_11 : decode cX8_gives 11 = .ok (.aload_n 0, 1) := by decide +kernel
theorem dX8_gives_12 : decode cX8_gives 12 = .ok (.iload_n 1, 1) := by decide +kernel
theorem dX8_gives_13 : decode cX8_gives 13 = .ok (.iload_n 2, 1) := by decide +kernel
theorem dX8_gives_14 : decode cX8_gives 14 = .ok (.iconst 3, 1) := by decide +kernel
theorem dX8_gives_15 : decode cX8_gives 15 = .ok (.invokestatic 54, 3) := by decide +kernel
theorem dX8_gives_18 : decode cX8_gives 18 = .ok (.iaload, 1) := by decide +kernel
theorem dX8_gives_19 : decode cX8_gives 19 = .ok (.i2l, 1) := by decide +kernel
theorem dX8_gives_20 : decode cX8_gives 20 = .ok (.aload_n 0, 1) := by decide +kernel
theorem dX8_gives_21 : decode cX8_gives 21 = .ok (.iload_n 1, 1) := by decide +kernel
theorem dX8_gives_22 : decode cX8_gives 22 = .ok (.iload_n 2, 1) := by decide +kernel
theorem dX8_gives_23 : decode cX8_gives 23 = .ok (.iconst 4, 1) := by decide +kernel
theorem dX8_gives_24 : decode cX8_gives 24 = .ok (.invokestatic 54, 3) := by decide +kernel
theorem dX8_gives_27 : decode cX8_gives 27 = .ok (.iaload, 1) := by decide +kernel
theorem dX8_gives_28 : decode cX8_gives 28 = .ok (.i2l, 1) := by decide +kernel
theorem dX8_gives_29 : decode cX8_gives 29 = .ok (.invokestatic 62, 3) := by decide +kernel
theorem dX8_gives_32 : decode cX8_gives 32 = .ok (.ifCond .eq 7, 3) := by decide +kernel
theorem dX8_gives_35 : decode cX8_gives 35 = .ok (.iconst 1, 1) := by decide +kernel
theorem dX8_gives_36 : decode cX8_gives 36 = .ok (.goto 4, 3) := by decide +kernel
theorem dX8_gives_39 : decode cX8_gives 39 = .ok (.iconst 0, 1) := by decide +kernel
theorem dX8_gives_40 : decode cX8_gives 40 = .ok (.ireturn, 1) := by decide +kernel
set_option maxRecDepth 20000 in
theorem ggX8_next_X8_partAt : GoodIn wsX8_next wsX8_partAt := goodIn_r _ [4] (by decide +kernel) (by decide +kernel)
set_option maxRecDepth 20000 in
theorem gX8_next_X8_partAt : GoodIn wsX8_next (va_wsS RX8 66 yX8_partAt wsX8_partAt) := goodIn_app (goodIn_of _ (by decide +kernel)) ggX8_next_X8_partAt
theorem dX8_next_0 : decode cX8_next 0 = .ok (.aload_n 0, 1) := by decide +kernel
theorem dX8_next_1 : decode cX8_next 1 = .ok (.iload_n 1, 1) := by decide +kernel
theorem dX8_next_2 : decode cX8_next 2 = .ok (.iconst 2, 1) := by decide +kernel
theorem dX8_next_3 : decode cX8_next 3 = .ok (.invokestatic 66, 3) := by decide +kernel
theorem dX8_next_6 : decode cX8_next 6 = .ok (.iaload, 1) := by decide +kernel
theorem dX8_next_7 : decode cX8_next 7 = .ok (.iconst 1, 1) := by decide +kernel
theorem dX8_next_8 : decode cX8_next 8 = .ok (.isub, 1) := by decide +kernel
theorem dX8_next_9 : decode cX8_next 9 = .ok (.ireturn, 1) := by decide +kernel
set_option maxRecDepth 20000 in
theorem ggX8_chainLength_X8_next : GoodIn wsX8_chainLength wsX8_next := goodIn_r _ [4, 5, 6, 3, 7] (by decide +kernel) (by decide +kernel)
set_option maxRecDepth 20000 in
theorem gX8_chainLength_X8_next : GoodIn wsX8_chainLength (va_wsS RX8 70 yX8_next wsX8_next) := goodIn_app (goodIn_of _ (by decide +kernel)) ggX8_chainLength_X8_next
theorem dX8_chainLength_0 : decode cX8_chainLength 0 = .ok (.iconst 1, 1) := by decide +kernel
theorem dX8_chainLength_1 : decode cX8_chainLength 1 = .ok (.istore_n 2, 1) := by decide +kernel
theorem dX8_chainLength_2 : decode cX8_chainLength 2 = .ok (.aload_n 0, 1) := by decide +kernel
theorem dX8_chainLength_3 : decode cX8_chainLength 3 = .ok (.iload_n 1, 1) := by decide +kernel
theorem dX8_chainLength_4 : decode cX8_chainLength 4 = .ok (.invokestatic 70, 3) := by decide +kernel
theorem dX8_chainLength_7 : decode cX8_chainLength 7 = .ok (.istore_n 3, 1) := by decide +kernel
theorem dX8_chainLength_8 : decode cX8_chainLength 8 = .ok (.iload_n 3, 1) := by decide +kernel
theorem dX8_chainLength_9 : decode cX8_chainLength 9 = .ok (.ifCond .lt 15, 3) := by decide +kernel
theorem dX8_chainLength_12 : decode cX8_chainLength 12 = .ok (.iinc 2 1, 3) := by decide +kernel
theorem dX8_chainLength_15 : decode cX8_chainLength 15 = .ok (.aload_n 0, 1) := by decide +kernel
theorem dX8_chainLength_16 : decode cX8_chainLength 16 = .ok (.iload_n 3, 1) := by decide +kernel
theorem dX8_chainLength_17 : decode cX8_chainLength 17 = .ok (.invokestatic 70, 3) := by decide +kernel
theorem dX8_chainLength_20 : decode cX8_chainLength 20 = .ok (.istore_n 3, 1) := by decide +kernel
theorem dX8_chainLength_21 : decode cX8_chainLength 21 = .ok (.goto (-13), 3) := by decide +kernel
theorem dX8_chainLength_24 : decode cX8_chainLength 24 = .ok (.iload_n 2, 1) := by decide +kernel
theorem dX8_chainLength_25 : decode cX8_chainLength 25 = .ok (.ireturn, 1) := by decide +kernel
set_option maxRecDepth 20000 in
theorem ggX8_arise_X8_partAt : GoodIn wsX8_arise wsX8_partAt := goodIn_r _ [4] (by decide +kernel) (by decide +kernel)
set_option maxRecDepth 20000 in
theorem gX8_arise_X8_partAt : GoodIn wsX8_arise (va_wsS RX8 66 yX8_partAt wsX8_partAt) := goodIn_app (goodIn_of _ (by decide +kernel)) ggX8_arise_X8_partAt
theorem dX8_arise_0 : decode cX8_arise 0 = .ok (.bipush 59, 2) := by decide +kernel
theorem dX8_arise_2 : decode cX8_arise 2 = .ok (.istore 5, 2) := by decide +kernel
theorem dX8_arise_4 : decode cX8_arise 4 = .ok (.iload 5, 2) := by decide +kernel
theorem dX8_arise_6 : decode cX8_arise 6 = .ok (.iconst 5, 1) := by decide +kernel
theorem dX8_arise_7 : decode cX8_arise 7 = .ok (.if_icmp .le 28, 3) := by decide +kernel
theorem dX8_arise_10 : decode cX8_arise 10 = .ok (.aload_n 0, 1) := by decide +kernel
theorem dX8_arise_11 : decode cX8_arise 11 = .ok (.sipush 688, 3) := by decide +kernel
theorem dX8_arise_14 : decode cX8_arise 14 = .ok (.iload 5, 2) := by decide +kernel
theorem dX8_arise_16 : decode cX8_arise 16 = .ok (.iadd, 1) := by decide +kernel
theorem dX8_arise_17 : decode cX8_arise 17 = .ok (.aload_n 0, 1) := by decide +kernel
theorem dX8_arise_18 : decode cX8_arise 18 = .ok (.sipush 688, 3) := by decide +kernel
theorem dX8_arise_21 : decode cX8_arise 21 = .ok (.iload 5, 2) := by decide +kernel
theorem dX8_arise_23 : decode cX8_arise 23 = .ok (.iadd, 1) := by decide +kernel
theorem dX8_arise_24 : decode cX8_arise 24 = .ok (.bipush 6, 2) := by decide +kernel
theorem dX8_arise_26 : decode cX8_arise 26 = .ok (.isub, 1) := by decide +kernel
theorem dX8_arise_27 : decode cX8_arise 27 = .ok (.iaload, 1) := by decide +kernel
theorem dX8_arise_28 : decode cX8_arise 28 = .ok (.iastore, 1) := by decide +kernel
theorem dX8_arise_29 : decode cX8_arise 29 = .ok (.iinc 5 (-1), 3) := by decide +kernel
theorem dX8_arise_32 : decode cX8_arise 32 = .ok (.goto (-28), 3) := by decide +kernel
theorem dX8_arise_35 : decode cX8_arise 35 = .ok (.aload_n 0, 1) := by decide +kernel
theorem dX8_arise_36 : decode cX8_arise 36 = .ok (.sipush 688, 3) := by decide +kernel
theorem dX8_arise_39 : decode cX8_arise 39 = .ok (.iload_n 1, 1) := by decide +kernel
theorem dX8_arise_40 : decode cX8_arise 40 = .ok (.iastore, 1) := by decide +kernel
theorem dX8_arise_41 : decode cX8_arise 41 = .ok (.aload_n 0, 1) := by decide +kernel
theorem dX8_arise_42 : decode cX8_arise 42 = .ok (.sipush 689, 3) := by decide +kernel
theorem dX8_arise_45 : decode cX8_arise 45 = .ok (.iload_n 2, 1) := by decide +kernel
theorem dX8_arise_46 : decode cX8_arise 46 = .ok (.iastore, 1) := by decide +kernel
theorem dX8_arise_47 : decode cX8_arise 47 = .ok (.aload_n 0, 1) := by decide +kernel
theorem dX8_arise_48 : decode cX8_arise 48 = .ok (.sipush 690, 3) := by decide +kernel
theorem dX8_arise_51 : decode cX8_arise 51 = .ok (.iload_n 3, 1) := by decide +kernel
theorem dX8_arise_52 : decode cX8_arise 52 = .ok (.iastore, 1) := by decide +kernel
theorem dX8_arise_53 : decode cX8_arise 53 = .ok (.aload_n 0, 1) := by decide +kernel
theorem dX8_arise_54 : decode cX8_arise 54 = .ok (.sipush 691, 3) := by decide +kernel
theorem dX8_arise_57 : decode cX8_arise 57 = .ok (.iload 4, 2) := by decide +kernel
theorem dX8_arise_59 : decode cX8_arise 59 = .ok (.iastore, 1) := by decide +kernel
theorem dX8_arise_60 : decode cX8_arise 60 = .ok (.aload_n 0, 1) := by decide +kernel
theorem dX8_arise_61 : decode cX8_arise 61 = .ok (.sipush 692, 3) := by decide +kernel
theorem dX8_arise_64 : decode cX8_arise 64 = .ok (.iconst 1, 1) := by decide +kernel
theorem dX8_arise_65 : decode cX8_arise 65 = .ok (.iastore, 1) := by decide +kernel
theorem dX8_arise_66 : decode cX8_arise 66 = .ok (.aload_n 0, 1) := by decide +kernel
theorem dX8_arise_67 : decode cX8_arise 67 = .ok (.sipush 693, 3) := by decide +kernel
theorem dX8_arise_70 : decode cX8_arise 70 = .ok (.iconst 0, 1) := by decide +kernel
theorem dX8_arise_71 : decode cX8_arise 71 = .ok (.iastore, 1) := by decide +kernel
theorem dX8_arise_72 : decode cX8_arise 72 = .ok (.aload_n 0, 1) := by decide +kernel
theorem dX8_arise_73 : decode cX8_arise 73 = .ok (.sipush 687, 3) := by decide +kernel
theorem dX8_arise_76 : decode cX8_arise 76 = .ok (.dup2, 1) := by decide +kernel
theorem dX8_arise_77 : decode cX8_arise 77 = .ok (.iaload, 1) := by decide +kernel
theorem dX8_arise_78 : decode cX8_arise 78 = .ok (.aload_n 0, 1) := by decide +kernel
theorem dX8_arise_79 : decode cX8_arise 79 = .ok (.sipush 687, 3) := by decide +kernel
theorem dX8_arise_82 : decode cX8_arise 82 = .ok (.iaload, 1) := by decide +kernel
theorem dX8_arise_83 : decode cX8_arise 83 = .ok (.bipush 10, 2) := by decide +kernel
theorem dX8_arise_85 : decode cX8_arise 85 = .ok (.if_icmp .ge 7, 3) := by decide +kernel
theorem dX8_arise_88 : decode cX8_arise 88 = .ok (.iconst 1, 1) := by decide +kernel
theorem dX8_arise_89 : decode cX8_arise 89 = .ok (.goto 4, 3) := by decide +kernel
theorem dX8_arise_92 : decode cX8_arise 92 = .ok (.iconst 0, 1) := by decide +kernel
theorem dX8_arise_93 : decode cX8_arise 93 = .ok (.iadd, 1) := by decide +kernel
theorem dX8_arise_94 : decode cX8_arise 94 = .ok (.iastore, 1) := by decide +kernel
theorem dX8_arise_95 : decode cX8_arise 95 = .ok (.aload_n 0, 1) := by decide +kernel
theorem dX8_arise_96 : decode cX8_arise 96 = .ok (.sipush 683, 3) := by decide +kernel
theorem dX8_arise_99 : decode cX8_arise 99 = .ok (.dup2, 1) := by decide +kernel
theorem dX8_arise_100 : decode cX8_arise 100 = .ok (.iaload, 1) := by decide +kernel
theorem dX8_arise_101 : decode cX8_arise 101 = .ok (.iconst 1, 1) := by decide +kernel
theorem dX8_arise_102 : decode cX8_arise 102 = .ok (.iadd, 1) := by decide +kernel
theorem dX8_arise_103 : decode cX8_arise 103 = .ok (.iastore, 1) := by decide +kernel
theorem dX8_arise_104 : decode cX8_arise 104 = .ok (.aload_n 0, 1) := by decide +kernel
theorem dX8_arise_105 : decode cX8_arise 105 = .ok (.sipush 686, 3) := by decide +kernel
theorem dX8_arise_108 : decode cX8_arise 108 = .ok (.iload_n 1, 1) := by decide +kernel
theorem dX8_arise_109 : decode cX8_arise 109 = .ok (.iastore, 1) := by decide +kernel
theorem dX8_arise_110 : decode cX8_arise 110 = .ok (.iload_n 1, 1) := by decide +kernel
theorem dX8_arise_111 : decode cX8_arise 111 = .ok (.iconst 1, 1) := by decide +kernel
theorem dX8_arise_112 : decode cX8_arise 112 = .ok (.if_icmp .ne 7, 3) := by decide +kernel
theorem dX8_arise_115 : decode cX8_arise 115 = .ok (.iload_n 2, 1) := by decide +kernel
theorem dX8_arise_116 : decode cX8_arise 116 = .ok (.goto 15, 3) := by decide +kernel
theorem dX8_arise_119 : decode cX8_arise 119 = .ok (.iload_n 1, 1) := by decide +kernel
theorem dX8_arise_120 : decode cX8_arise 120 = .ok (.iconst 2, 1) := by decide +kernel
theorem dX8_arise_121 : decode cX8_arise 121 = .ok (.if_icmp .ne 7, 3) := by decide +kernel
theorem dX8_arise_124 : decode cX8_arise 124 = .ok (.iload_n 3, 1) := by decide +kernel
theorem dX8_arise_125 : decode cX8_arise 125 = .ok (.goto 6, 3) := by decide +kernel
theorem dX8_arise_128 : decode cX8_arise 128 = .ok (.sipush (-10000), 3) := by decide +kernel
theorem dX8_arise_131 : decode cX8_arise 131 = .ok (.istore 5, 2) := by decide +kernel
theorem dX8_arise_133 : decode cX8_arise 133 = .ok (.iload 5, 2) := by decide +kernel
theorem dX8_arise_135 : decode cX8_arise 135 = .ok (.sipush (-10000), 3) := by decide +kernel
theorem dX8_arise_138 : decode cX8_arise 138 = .ok (.if_icmp .eq 16, 3) := by decide +kernel
theorem dX8_arise_141 : decode cX8_arise 141 = .ok (.aload_n 0, 1) := by decide +kernel
theorem dX8_arise_142 : decode cX8_arise 142 = .ok (.iload 5, 2) := by decide +kernel
theorem dX8_arise_144 : decode cX8_arise 144 = .ok (.bipush 6, 2) := by decide +kernel
theorem dX8_arise_146 : decode cX8_arise 146 = .ok (.invokestatic 66, 3) := by decide +kernel
theorem dX8_arise_149 : decode cX8_arise 149 = .ok (.dup2, 1) := by decide +kernel
theorem dX8_arise_150 : decode cX8_arise 150 = .ok (.iaload, 1) := by decide +kernel
theorem dX8_arise_151 : decode cX8_arise 151 = .ok (.iconst 1, 1) := by decide +kernel
theorem dX8_arise_152 : decode cX8_arise 152 = .ok (.iadd, 1) := by decide +kernel
theorem dX8_arise_153 : decode cX8_arise 153 = .ok (.iastore, 1) := by decide +kernel
theorem dX8_arise_154 : decode cX8_arise 154 = .ok (.return_, 1) := by decide +kernel
set_option maxRecDepth 20000 in
theorem ggX8_begins_X8_sideOf : GoodIn wsX8_begins wsX8_sideOf := goodIn_r _ [4] (by decide +kernel) (by decide +kernel)
set_option maxRecDepth 20000 in
theorem gX8_begins_X8_sideOf : GoodIn wsX8_begins (va_wsS RX8 74 yX8_sideOf wsX8_sideOf) := goodIn_app (goodIn_of _ (by decide +kernel)) ggX8_begins_X8_sideOf
set_option maxRecDepth 20000 in
theorem ggX8_begins_X8_partAt : GoodIn wsX8_begins wsX8_partAt := goodIn_r _ [7] (by decide +kernel) (by decide +kernel)
set_option maxRecDepth 20000 in
theorem gX8_begins_X8_partAt : GoodIn wsX8_begins (va_wsS RX8 66 yX8_partAt wsX8_partAt) := goodIn_app (goodIn_of _ (by decide +kernel)) ggX8_begins_X8_partAt
set_option maxRecDepth 20000 in
theorem ggX8_begins_X8_asks : GoodIn wsX8_begins wsX8_asks := goodIn_r _ [10, 11, 12, 3, 13, 14, 15, 16, 17, 18, 19] (by decide +kernel) (by decide +kernel)
set_option maxRecDepth 20000 in
theorem gX8_begins_X8_asks : GoodIn wsX8_begins (va_wsS RX8 78 yX8_asks wsX8_asks) := goodIn_app (goodIn_of _ (by decide +kernel)) ggX8_begins_X8_asks
set_option maxRecDepth 20000 in
theorem ggX8_begins_X8_hasContract : GoodIn wsX8_begins wsX8_hasContract := goodIn_r _ [13, 14, 15, 3, 16] (by decide +kernel) (by decide +kernel)
set_option maxRecDepth 20000 in
theorem gX8_begins_X8_hasContract : GoodIn wsX8_begins (va_wsS RX8 58 yX8_hasContract wsX8_hasContract) := goodIn_app (goodIn_of _ (by decide +kernel)) ggX8_begins_X8_hasContract
set_option maxRecDepth 20000 in
theorem ggX8_begins_X8_arise : GoodIn wsX8_begins wsX8_arise := goodIn_r _ [22, 5, 6, 3, 7] (by decide +kernel) (by decide +kernel)
set_option maxRecDepth 20000 in
theorem gX8_begins_X8_arise : GoodIn wsX8_begins (va_wsS RX8 82 yX8_arise wsX8_arise) := goodIn_app (goodIn_of _ (by decide +kernel)) ggX8_begins_X8_arise
theorem dX8_begins_0 : decode cX8_begins 0 = .ok (.iload_n 1, 1) := by decide +kernel
theorem dX8_begins_1 : decode cX8_begins 1 = .ok (.invokestatic 74, 3) := by decide +kernel
theorem dX8_begins_4 : decode cX8_begins 4 = .ok (.istore 4, 2) := by decide +kernel
theorem dX8_begins_6 : decode cX8_begins 6 = .ok (.aload_n 0, 1) := by decide +kernel
theorem dX8_begins_7 : decode cX8_begins 7 = .ok (.sipush 681, 3) := by decide +kernel
theorem dX8_begins_10 : decode cX8_begins 10 = .ok (.dup2, 1) := by decide +kernel
theorem dX8_begins_11 : decode cX8_begins 11 = .ok (.iaload, 1) := by decide +kernel
theorem dX8_begins_12 : decode cX8_begins 12 = .ok (.iconst 1, 1) := by decide +kernel
theorem dX8_begins_13 : decode cX8_begins 13 = .ok (.iadd, 1) := by decide +kernel
theorem dX8_begins_14 : decode cX8_begins 14 = .ok (.iastore, 1) := by decide +kernel
theorem dX8_begins_15 : decode cX8_begins 15 = .ok (.aload_n 0, 1) := by decide +kernel
theorem dX8_begins_16 : decode cX8_begins 16 = .ok (.iload_n 2, 1) := by decide +kernel
theorem dX8_begins_17 : decode cX8_begins 17 = .ok (.iconst 5, 1) := by decide +kernel
theorem dX8_begins_18 : decode cX8_begins 18 = .ok (.invokestatic 66, 3) := by decide +kernel
theorem dX8_begins_21 : decode cX8_begins 21 = .ok (.dup2, 1) := by decide +kernel
theorem dX8_begins_22 : decode cX8_begins 22 = .ok (.iaload, 1) := by decide +kernel
theorem dX8_begins_23 : decode cX8_begins 23 = .ok (.iconst 1, 1) := by decide +kernel
theorem dX8_begins_24 : decode cX8_begins 24 = .ok (.iadd, 1) := by decide +kernel
theorem dX8_begins_25 : decode cX8_begins 25 = .ok (.iastore, 1) := by decide +kernel
theorem dX8_begins_26 : decode cX8_begins 26 = .ok (.aload_n 0, 1) := by decide +kernel
theorem dX8_begins_27 : decode cX8_begins 27 = .ok (.iload 4, 2) := by decide +kernel
theorem dX8_begins_29 : decode cX8_begins 29 = .ok (.iload_n 2, 1) := by decide +kernel
theorem dX8_begins_30 : decode cX8_begins 30 = .ok (.iload_n 3, 1) := by decide +kernel
theorem dX8_begins_31 : decode cX8_begins 31 = .ok (.invokestatic 78, 3) := by decide +kernel
theorem dX8_begins_34 : decode cX8_begins 34 = .ok (.ifCond .ne 7, 3) := by decide +kernel
theorem dX8_begins_37 : decode cX8_begins 37 = .ok (.iconst 1, 1) := by decide +kernel
theorem dX8_begins_38 : decode cX8_begins 38 = .ok (.goto 32, 3) := by decide +kernel
theorem dX8_begins_41 : decode cX8_begins 41 = .ok (.aload_n 0, 1) := by decide +kernel
theorem dX8_begins_42 : decode cX8_begins 42 = .ok (.iconst 0, 1) := by decide +kernel
theorem dX8_begins_43 : decode cX8_begins 43 = .ok (.iload_n 2, 1) := by decide +kernel
theorem dX8_begins_44 : decode cX8_begins 44 = .ok (.iload_n 3, 1) := by decide +kernel
theorem dX8_begins_45 : decode cX8_begins 45 = .ok (.invokestatic 78, 3) := by decide +kernel
theorem dX8_begins_48 : decode cX8_begins 48 = .ok (.ifCond .eq 7, 3) := by decide +kernel
theorem dX8_begins_51 : decode cX8_begins 51 = .ok (.iconst 0, 1) := by decide +kernel
theorem dX8_begins_52 : decode cX8_begins 52 = .ok (.goto 18, 3) := by decide +kernel
theorem dX8_begins_55 : decode cX8_begins 55 = .ok (.aload_n 0, 1) := by decide +kernel
theorem dX8_begins_56 : decode cX8_begins 56 = .ok (.iload 4, 2) := by decide +kernel
theorem dX8_begins_58 : decode cX8_begins 58 = .ok (.iload_n 2, 1) := by decide +kernel
theorem dX8_begins_59 : decode cX8_begins 59 = .ok (.invokestatic 58, 3) := by decide +kernel
theorem dX8_begins_62 : decode cX8_begins 62 = .ok (.ifCond .eq 7, 3) := by decide +kernel
theorem dX8_begins_65 : decode cX8_begins 65 = .ok (.iconst 3, 1) := by decide +kernel
theorem dX8_begins_66 : decode cX8_begins 66 = .ok (.goto 4, 3) := by decide +kernel
theorem dX8_begins_69 : decode cX8_begins 69 = .ok (.iconst 1, 1) := by decide +kernel
theorem dX8_begins_70 : decode cX8_begins 70 = .ok (.istore 5, 2) := by decide +kernel
theorem dX8_begins_72 : decode cX8_begins 72 = .ok (.iload 5, 2) := by decide +kernel
theorem dX8_begins_74 : decode cX8_begins 74 = .ok (.ifCond .le 12, 3) := by decide +kernel
theorem dX8_begins_77 : decode cX8_begins 77 = .ok (.aload_n 0, 1) := by decide +kernel
theorem dX8_begins_78 : decode cX8_begins 78 = .ok (.iload 5, 2) := by decide +kernel
theorem dX8_begins_80 : decode cX8_begins 80 = .ok (.iload_n 1, 1) := by decide +kernel
theorem dX8_begins_81 : decode cX8_begins 81 = .ok (.iload_n 2, 1) := by decide +kernel
theorem dX8_begins_82 : decode cX8_begins 82 = .ok (.iload_n 3, 1) := by decide +kernel
theorem dX8_begins_83 : decode cX8_begins 83 = .ok (.invokestatic 82, 3) := by decide +kernel
theorem dX8_begins_86 : decode cX8_begins 86 = .ok (.iload 5, 2) := by decide +kernel
theorem dX8_begins_88 : decode cX8_begins 88 = .ok (.ireturn, 1) := by decide +kernel
set_option maxRecDepth 20000 in
theorem ggX8_ends_X8_sideOf : GoodIn wsX8_ends wsX8_sideOf := goodIn_r _ [4] (by decide +kernel) (by decide +kernel)
set_option maxRecDepth 20000 in
theorem gX8_ends_X8_sideOf : GoodIn wsX8_ends (va_wsS RX8 74 yX8_sideOf wsX8_sideOf) := goodIn_app (goodIn_of _ (by decide +kernel)) ggX8_ends_X8_sideOf
set_option maxRecDepth 20000 in
theorem ggX8_ends_X8_gives : GoodIn wsX8_ends wsX8_gives := goodIn_r _ [7, 8, 9, 3, 10, 11, 12, 13, 14, 15, 16] (by decide +kernel) (by decide +kernel)
set_option maxRecDepth 20000 in
theorem gX8_ends_X8_gives : GoodIn wsX8_ends (va_wsS RX8 86 yX8_gives wsX8_gives) := goodIn_app (goodIn_of _ (by decide +kernel)) ggX8_ends_X8_gives
set_option maxRecDepth 20000 in
theorem ggX8_ends_X8_hasContract : GoodIn wsX8_ends wsX8_hasContract := goodIn_r _ [10, 11, 12, 3, 13] (by decide +kernel) (by decide +kernel)
set_option maxRecDepth 20000 in
theorem gX8_ends_X8_hasContract : GoodIn wsX8_ends (va_wsS RX8 58 yX8_hasContract wsX8_hasContract) := goodIn_app (goodIn_of _ (by decide +kernel)) ggX8_ends_X8_hasContract
set_option maxRecDepth 20000 in
theorem ggX8_ends_X8_arise : GoodIn wsX8_ends wsX8_arise := goodIn_r _ [19, 20, 21, 3, 22] (by decide +kernel) (by decide +kernel)
set_option maxRecDepth 20000 in
theorem gX8_ends_X8_arise : GoodIn wsX8_ends (va_wsS RX8 82 yX8_arise wsX8_arise) := goodIn_app (goodIn_of _ (by decide +kernel)) ggX8_ends_X8_arise
theorem dX8_ends_0 : decode cX8_ends 0 = .ok (.iload_n 1, 1) := by decide +kernel
theorem dX8_ends_1 : decode cX8_ends 1 = .ok (.invokestatic 74, 3) := by decide +kernel
theorem dX8_ends_4 : decode cX8_ends 4 = .ok (.istore 4, 2) := by decide +kernel
theorem dX8_ends_6 : decode cX8_ends 6 = .ok (.aload_n 0, 1) := by decide +kernel
theorem dX8_ends_7 : decode cX8_ends 7 = .ok (.iconst 0, 1) := by decide +kernel
theorem dX8_ends_8 : decode cX8_ends 8 = .ok (.iload_n 2, 1) := by decide +kernel
theorem dX8_ends_9 : decode cX8_ends 9 = .ok (.iload_n 3, 1) := by decide +kernel
theorem dX8_ends_10 : decode cX8_ends 10 = .ok (.invokestatic 86, 3) := by decide +kernel
theorem dX8_ends_13 : decode cX8_ends 13 = .ok (.ifCond .ne 7, 3) := by decide +kernel
theorem dX8_ends_16 : decode cX8_ends 16 = .ok (.iconst 2, 1) := by decide +kernel
theorem dX8_ends_17 : decode cX8_ends 17 = .ok (.goto 32, 3) := by decide +kernel
theorem dX8_ends_20 : decode cX8_ends 20 = .ok (.aload_n 0, 1) := by decide +kernel
theorem dX8_ends_21 : decode cX8_ends 21 = .ok (.iload 4, 2) := by decide +kernel
theorem dX8_ends_23 : decode cX8_ends 23 = .ok (.iload_n 2, 1) := by decide +kernel
theorem dX8_ends_24 : decode cX8_ends 24 = .ok (.iload_n 3, 1) := by decide +kernel
theorem dX8_ends_25 : decode cX8_ends 25 = .ok (.invokestatic 86, 3) := by decide +kernel
theorem dX8_ends_28 : decode cX8_ends 28 = .ok (.ifCond .eq 7, 3) := by decide +kernel
theorem dX8_ends_31 : decode cX8_ends 31 = .ok (.iconst 0, 1) := by decide +kernel
theorem dX8_ends_32 : decode cX8_ends 32 = .ok (.goto 17, 3) := by decide +kernel
theorem dX8_ends_35 : decode cX8_ends 35 = .ok (.aload_n 0, 1) := by decide +kernel
theorem dX8_ends_36 : decode cX8_ends 36 = .ok (.iconst 0, 1) := by decide +kernel
theorem dX8_ends_37 : decode cX8_ends 37 = .ok (.iload_n 2, 1) := by decide +kernel
theorem dX8_ends_38 : decode cX8_ends 38 = .ok (.invokestatic 58, 3) := by decide +kernel
theorem dX8_ends_41 : decode cX8_ends 41 = .ok (.ifCond .eq 7, 3) := by decide +kernel
theorem dX8_ends_44 : decode cX8_ends 44 = .ok (.iconst 3, 1) := by decide +kernel
theorem dX8_ends_45 : decode cX8_ends 45 = .ok (.goto 4, 3) := by decide +kernel
theorem dX8_ends_48 : decode cX8_ends 48 = .ok (.iconst 2, 1) := by decide +kernel
theorem dX8_ends_49 : decode cX8_ends 49 = .ok (.istore 5, 2) := by decide +kernel
theorem dX8_ends_51 : decode cX8_ends 51 = .ok (.iload 5, 2) := by decide +kernel
theorem dX8_ends_53 : decode cX8_ends 53 = .ok (.ifCond .le 12, 3) := by decide +kernel
theorem dX8_ends_56 : decode cX8_ends 56 = .ok (.aload_n 0, 1) := by decide +kernel
theorem dX8_ends_57 : decode cX8_ends 57 = .ok (.iload 5, 2) := by decide +kernel
theorem dX8_ends_59 : decode cX8_ends 59 = .ok (.iload_n 1, 1) := by decide +kernel
theorem dX8_ends_60 : decode cX8_ends 60 = .ok (.iload_n 2, 1) := by decide +kernel
theorem dX8_ends_61 : decode cX8_ends 61 = .ok (.iload_n 3, 1) := by decide +kernel
theorem dX8_ends_62 : decode cX8_ends 62 = .ok (.invokestatic 82, 3) := by decide +kernel
theorem dX8_ends_65 : decode cX8_ends 65 = .ok (.iload 5, 2) := by decide +kernel
theorem dX8_ends_67 : decode cX8_ends 67 = .ok (.ireturn, 1) := by decide +kernel
set_option maxRecDepth 20000 in
theorem ggX8_reckon_X8_partAt : GoodIn wsX8_reckon wsX8_partAt := goodIn_r _ [4] (by decide +kernel) (by decide +kernel)
set_option maxRecDepth 20000 in
theorem gX8_reckon_X8_partAt : GoodIn wsX8_reckon (va_wsS RX8 66 yX8_partAt wsX8_partAt) := goodIn_app (goodIn_of _ (by decide +kernel)) ggX8_reckon_X8_partAt
theorem dX8_reckon_0 : decode cX8_reckon 0 = .ok (.aload_n 0, 1) := by decide +kernel
theorem dX8_reckon_1 : decode cX8_reckon 1 = .ok (.iload_n 1, 1) := by decide +kernel
theorem dX8_reckon_2 : decode cX8_reckon 2 = .ok (.iconst 0, 1) := by decide +kernel
theorem dX8_reckon_3 : decode cX8_reckon 3 = .ok (.invokestatic 66, 3) := by decide +kernel
theorem dX8_reckon_6 : decode cX8_reckon 6 = .ok (.iaload, 1) := by decide +kernel
theorem dX8_reckon_7 : decode cX8_reckon 7 = .ok (.iload_n 2, 1) := by decide +kernel
theorem dX8_reckon_8 : decode cX8_reckon 8 = .ok (.imul, 1) := by decide +kernel
theorem dX8_reckon_9 : decode cX8_reckon 9 = .ok (.aload_n 0, 1) := by decide +kernel
theorem dX8_reckon_10 : decode cX8_reckon 10 = .ok (.iload_n 1, 1) := by decide +kernel
theorem dX8_reckon_11 : decode cX8_reckon 11 = .ok (.iconst 1, 1) := by decide +kernel
theorem dX8_reckon_12 : decode cX8_reckon 12 = .ok (.invokestatic 66, 3) := by decide +kernel
theorem dX8_reckon_15 : decode cX8_reckon 15 = .ok (.iaload, 1) := by decide +kernel
theorem dX8_reckon_16 : decode cX8_reckon 16 = .ok (.iadd, 1) := by decide +kernel
theorem dX8_reckon_17 : decode cX8_reckon 17 = .ok (.istore_n 3, 1) := by decide +kernel
theorem dX8_reckon_18 : decode cX8_reckon 18 = .ok (.iload_n 3, 1) := by decide +kernel
theorem dX8_reckon_19 : decode cX8_reckon 19 = .ok (.sipush 9999, 3) := by decide +kernel
theorem dX8_reckon_22 : decode cX8_reckon 22 = .ok (.if_icmp .le 9, 3) := by decide +kernel
theorem dX8_reckon_25 : decode cX8_reckon 25 = .ok (.sipush 9999, 3) := by decide +kernel
theorem dX8_reckon_28 : decode cX8_reckon 28 = .ok (.goto 17, 3) := by decide +kernel
theorem dX8_reckon_31 : decode cX8_reckon 31 = .ok (.iload_n 3, 1) := by decide +kernel
theorem dX8_reckon_32 : decode cX8_reckon 32 = .ok (.sipush (-9999), 3) := by decide +kernel
theorem dX8_reckon_35 : decode cX8_reckon 35 = .ok (.if_icmp .ge 9, 3) := by decide +kernel
theorem dX8_reckon_38 : decode cX8_reckon 38 = .ok (.sipush (-9999), 3) := by decide +kernel
theorem dX8_reckon_41 : decode cX8_reckon 41 = .ok (.goto 4, 3) := by decide +kernel
theorem dX8_reckon_44 : decode cX8_reckon 44 = .ok (.iload_n 3, 1) := by decide +kernel
theorem dX8_reckon_45 : decode cX8_reckon 45 = .ok (.ireturn, 1) := by decide +kernel
theorem dX8_callerAt_0 : decode cX8_callerAt 0 = .ok (.iload_n 1, 1) := by decide +kernel
theorem dX8_callerAt_1 : decode cX8_callerAt 1 = .ok (.ifCond .ne 9, 3) := by decide +kernel
theorem dX8_callerAt_4 : decode cX8_callerAt 4 = .ok (.sipush (-10000), 3) := by decide +kernel
theorem dX8_callerAt_7 : decode cX8_callerAt 7 = .ok (.goto 11, 3) := by decide +kernel
theorem dX8_callerAt_10 : decode cX8_callerAt 10 = .ok (.aload_n 0, 1) := by decide +kernel
theorem dX8_callerAt_11 : decode cX8_callerAt 11 = .ok (.getfield 32, 3) := by decide +kernel
theorem dX8_callerAt_14 : decode cX8_callerAt 14 = .ok (.iload_n 1, 1) := by decide +kernel
theorem dX8_callerAt_15 : decode cX8_callerAt 15 = .ok (.iconst 1, 1) := by decide +kernel
theorem dX8_callerAt_16 : decode cX8_callerAt 16 = .ok (.isub, 1) := by decide +kernel
theorem dX8_callerAt_17 : decode cX8_callerAt 17 = .ok (.iaload, 1) := by decide +kernel
theorem dX8_callerAt_18 : decode cX8_callerAt 18 = .ok (.ireturn, 1) := by decide +kernel
set_option maxRecDepth 20000 in
theorem ggX8_callIn_X8_begins : GoodIn wsX8_callIn wsX8_begins := goodIn_r _ [6, 7, 8, 5, 9, 10, 11, 12, 13, 14, 15, 16, 17, 18, 19, 20, 21, 22, 23, 24, 25, 26, 27] (by decide +kernel) (by decide +kernel)
set_option maxRecDepth 20000 in
theorem gX8_callIn_X8_begins : GoodIn wsX8_callIn (va_wsS RX8 89 yX8_begins wsX8_begins) := goodIn_app (goodIn_of _ (by decide +kernel)) ggX8_callIn_X8_begins
set_option maxRecDepth 20000 in
theorem ggX8_callIn_X8_next : GoodIn wsX8_callIn wsX8_next := goodIn_r _ [30, 10, 11, 5, 12] (by decide +kernel) (by decide +kernel)
set_option maxRecDepth 20000 in
theorem gX8_callIn_X8_next : GoodIn wsX8_callIn (va_wsS RX8 70 yX8_next wsX8_next) := goodIn_app (goodIn_of _ (by decide +kernel)) ggX8_callIn_X8_next
set_option maxRecDepth 20000 in
theorem ggX8_callIn_X8_partAt : GoodIn wsX8_callIn wsX8_partAt := goodIn_r _ [12] (by decide +kernel) (by decide +kernel)
set_option maxRecDepth 20000 in
theorem gX8_callIn_X8_partAt : GoodIn wsX8_callIn (va_wsS RX8 66 yX8_partAt wsX8_partAt) := goodIn_app (goodIn_of _ (by decide +kernel)) ggX8_callIn_X8_partAt
set_option maxRecDepth 20000 in
theorem ggX8_callIn_X8_reckon : GoodIn wsX8_callIn wsX8_reckon := goodIn_r _ [33, 10, 11, 5, 12] (by decide +kernel) (by decide +kernel)
set_option maxRecDepth 20000 in
theorem gX8_callIn_X8_reckon : GoodIn wsX8_callIn (va_wsS RX8 93 yX8_reckon wsX8_reckon) := goodIn_app (goodIn_of _ (by decide +kernel)) ggX8_callIn_X8_reckon
set_option maxRecDepth 20000 in
theorem ggX8_callIn_X8_callerAt : GoodIn wsX8_callIn wsX8_callerAt := goodIn_r _ [37, 1, 44, 45, 46, 47, 48, 49, 50, 51, 52, 53, 54, 55, 56, 57, 58, 59] (by decide +kernel) (by decide +kernel)
set_option maxRecDepth 20000 in
theorem gX8_callIn_X8_callerAt : GoodIn wsX8_callIn (wsV RX8 97 RX8 yX8_callerAt wsX8_callerAt) := goodIn_app (goodIn_of _ (by decide +kernel)) ggX8_callIn_X8_callerAt
set_option maxRecDepth 20000 in
theorem ggX8_callIn_X8_ends : GoodIn wsX8_callIn wsX8_ends := goodIn_r _ [40, 7, 8, 5, 9, 41, 42, 43, 16, 17, 18, 19, 20, 21, 22, 23, 24, 25, 26, 27, 10, 11, 12] (by decide +kernel) (by decide +kernel)
set_option maxRecDepth 20000 in
theorem gX8_callIn_X8_ends : GoodIn wsX8_callIn (va_wsS RX8 100 yX8_ends wsX8_ends) := goodIn_app (goodIn_of _ (by decide +kernel)) ggX8_callIn_X8_ends
theorem dX8_callIn_0 : decode cX8_callIn 0 = .ok (.aload_n 1, 1) := by decide +kernel
theorem dX8_callIn_1 : decode cX8_callIn 1 = .ok (.sipush 682, 3) := by decide +kernel
theorem dX8_callIn_4 : decode cX8_callIn 4 = .ok (.dup2, 1) := by decide +kernel
theorem dX8_callIn_5 : decode cX8_callIn 5 = .ok (.iaload, 1) := by decide +kernel
theorem dX8_callIn_6 : decode cX8_callIn 6 = .ok (.iconst 1, 1) := by decide +kernel
theorem dX8_callIn_7 : decode cX8_callIn 7 = .ok (.iadd, 1) := by decide +kernel
theorem dX8_callIn_8 : decode cX8_callIn 8 = .ok (.iastore, 1) := by decide +kernel
theorem dX8_callIn_9 : decode cX8_callIn 9 = .ok (.iconst 0, 1) := by decide +kernel
theorem dX8_callIn_10 : decode cX8_callIn 10 = .ok (.istore 4, 2) := by decide +kernel
theorem dX8_callIn_12 : decode cX8_callIn 12 = .ok (.aload_n 0, 1) := by decide +kernel
theorem dX8_callIn_13 : decode cX8_callIn 13 = .ok (.getfield 32, 3) := by decide +kernel
theorem dX8_callIn_16 : decode cX8_callIn 16 = .ok (.iconst 0, 1) := by decide +kernel
theorem dX8_callIn_17 : decode cX8_callIn 17 = .ok (.iload_n 2, 1) := by decide +kernel
theorem dX8_callIn_18 : decode cX8_callIn 18 = .ok (.iastore, 1) := by decide +kernel
theorem dX8_callIn_19 : decode cX8_callIn 19 = .ok (.aload_n 0, 1) := by decide +kernel
theorem dX8_callIn_20 : decode cX8_callIn 20 = .ok (.getfield 35, 3) := by decide +kernel
theorem dX8_callIn_23 : decode cX8_callIn 23 = .ok (.iconst 0, 1) := by decide +kernel
theorem dX8_callIn_24 : decode cX8_callIn 24 = .ok (.iload_n 3, 1) := by decide +kernel
theorem dX8_callIn_25 : decode cX8_callIn 25 = .ok (.iastore, 1) := by decide +kernel
theorem dX8_callIn_26 : decode cX8_callIn 26 = .ok (.aload_n 1, 1) := by decide +kernel
theorem dX8_callIn_27 : decode cX8_callIn 27 = .ok (.sipush (-10000), 3) := by decide +kernel
theorem dX8_callIn_30 : decode cX8_callIn 30 = .ok (.iload_n 2, 1) := by decide +kernel
theorem dX8_callIn_31 : decode cX8_callIn 31 = .ok (.iload_n 3, 1) := by decide +kernel
theorem dX8_callIn_32 : decode cX8_callIn 32 = .ok (.invokestatic 89, 3) := by decide +kernel
theorem dX8_callIn_35 : decode cX8_callIn 35 = .ok (.ifCond .le 7, 3) := by decide +kernel
theorem dX8_callIn_38 : decode cX8_callIn 38 = .ok (.iconst 1, 1) := by decide +kernel
theorem dX8_callIn_39 : decode cX8_callIn 39 = .ok (.goto 4, 3) := by decide +kernel
theorem dX8_callIn_42 : decode cX8_callIn 42 = .ok (.iconst 0, 1) := by decide +kernel
theorem dX8_callIn_43 : decode cX8_callIn 43 = .ok (.istore 5, 2) := by decide +kernel
theorem dX8_callIn_45 : decode cX8_callIn 45 = .ok (.iload 5, 2) := by decide +kernel
theorem dX8_callIn_47 : decode cX8_callIn 47 = .ok (.ifCond .ne 97, 3) := by decide +kernel
theorem dX8_callIn_50 : decode cX8_callIn 50 = .ok (.aload_n 1, 1) := by decide +kernel
theorem dX8_callIn_51 : decode cX8_callIn 51 = .ok (.aload_n 0, 1) := by decide +kernel
theorem dX8_callIn_52 : decode cX8_callIn 52 = .ok (.getfield 32, 3) := by decide +kernel
theorem dX8_callIn_55 : decode cX8_callIn 55 = .ok (.iload 4, 2) := by decide +kernel
theorem dX8_callIn_57 : decode cX8_callIn 57 = .ok (.iaload, 1) := by decide +kernel
theorem dX8_callIn_58 : decode cX8_callIn 58 = .ok (.invokestatic 70, 3) := by decide +kernel
theorem dX8_callIn_61 : decode cX8_callIn 61 = .ok (.ifCond .lt 83, 3) := by decide +kernel
theorem dX8_callIn_64 : decode cX8_callIn 64 = .ok (.aload_n 0, 1) := by decide +kernel
theorem dX8_callIn_65 : decode cX8_callIn 65 = .ok (.getfield 32, 3) := by decide +kernel
theorem dX8_callIn_68 : decode cX8_callIn 68 = .ok (.iload 4, 2) := by decide +kernel
theorem dX8_callIn_70 : decode cX8_callIn 70 = .ok (.iaload, 1) := by decide +kernel
theorem dX8_callIn_71 : decode cX8_callIn 71 = .ok (.istore 6, 2) := by decide +kernel
theorem dX8_callIn_73 : decode cX8_callIn 73 = .ok (.aload_n 0, 1) := by decide +kernel
theorem dX8_callIn_74 : decode cX8_callIn 74 = .ok (.getfield 35, 3) := by decide +kernel
theorem dX8_callIn_77 : decode cX8_callIn 77 = .ok (.iload 4, 2) := by decide +kernel
theorem dX8_callIn_79 : decode cX8_callIn 79 = .ok (.iaload, 1) := by decide +kernel
theorem dX8_callIn_80 : decode cX8_callIn 80 = .ok (.aload_n 1, 1) := by decide +kernel
theorem dX8_callIn_81 : decode cX8_callIn 81 = .ok (.iload 6, 2) := by decide +kernel
theorem dX8_callIn_83 : decode cX8_callIn 83 = .ok (.iconst 3, 1) := by decide +kernel
theorem dX8_callIn_84 : decode cX8_callIn 84 = .ok (.invokestatic 66, 3) := by decide +kernel
theorem dX8_callIn_87 : decode cX8_callIn 87 = .ok (.iaload, 1) := by decide +kernel
theorem dX8_callIn_88 : decode cX8_callIn 88 = .ok (.iadd, 1) := by decide +kernel
theorem dX8_callIn_89 : decode cX8_callIn 89 = .ok (.istore 7, 2) := by decide +kernel
theorem dX8_callIn_91 : decode cX8_callIn 91 = .ok (.iinc 4 1, 3) := by decide +kernel
theorem dX8_callIn_94 : decode cX8_callIn 94 = .ok (.aload_n 0, 1) := by decide +kernel
theorem dX8_callIn_95 : decode cX8_callIn 95 = .ok (.getfield 32, 3) := by decide +kernel
theorem dX8_callIn_98 : decode cX8_callIn 98 = .ok (.iload 4, 2) := by decide +kernel
theorem dX8_callIn_100 : decode cX8_callIn 100 = .ok (.aload_n 1, 1) := by decide +kernel
theorem dX8_callIn_101 : decode cX8_callIn 101 = .ok (.iload 6, 2) := by decide +kernel
theorem dX8_callIn_103 : decode cX8_callIn 103 = .ok (.invokestatic 70, 3) := by decide +kernel
theorem dX8_callIn_106 : decode cX8_callIn 106 = .ok (.iastore, 1) := by decide +kernel
theorem dX8_callIn_107 : decode cX8_callIn 107 = .ok (.aload_n 0, 1) := by decide +kernel
theorem dX8_callIn_108 : decode cX8_callIn 108 = .ok (.getfield 35, 3) := by decide +kernel
theorem dX8_callIn_111 : decode cX8_callIn 111 = .ok (.iload 4, 2) := by decide +kernel
theorem dX8_callIn_113 : decode cX8_callIn 113 = .ok (.iload 7, 2) := by decide +kernel
theorem dX8_callIn_115 : decode cX8_callIn 115 = .ok (.iastore, 1) := by decide +kernel
theorem dX8_callIn_116 : decode cX8_callIn 116 = .ok (.aload_n 1, 1) := by decide +kernel
theorem dX8_callIn_117 : decode cX8_callIn 117 = .ok (.iload 6, 2) := by decide +kernel
theorem dX8_callIn_119 : decode cX8_callIn 119 = .ok (.aload_n 0, 1) := by decide +kernel
theorem dX8_callIn_120 : decode cX8_callIn 120 = .ok (.getfield 32, 3) := by decide +kernel
theorem dX8_callIn_123 : decode cX8_callIn 123 = .ok (.iload 4, 2) := by decide +kernel
theorem dX8_callIn_125 : decode cX8_callIn 125 = .ok (.iaload, 1) := by decide +kernel
theorem dX8_callIn_126 : decode cX8_callIn 126 = .ok (.iload 7, 2) := by decide +kernel
theorem dX8_callIn_128 : decode cX8_callIn 128 = .ok (.invokestatic 89, 3) := by decide +kernel
theorem dX8_callIn_131 : decode cX8_callIn 131 = .ok (.ifCond .le 7, 3) := by decide +kernel
theorem dX8_callIn_134 : decode cX8_callIn 134 = .ok (.iconst 1, 1) := by decide +kernel
theorem dX8_callIn_135 : decode cX8_callIn 135 = .ok (.goto 4, 3) := by decide +kernel
theorem dX8_callIn_138 : decode cX8_callIn 138 = .ok (.iconst 0, 1) := by decide +kernel
theorem dX8_callIn_139 : decode cX8_callIn 139 = .ok (.istore 5, 2) := by decide +kernel
theorem dX8_callIn_141 : decode cX8_callIn 141 = .ok (.goto (-96), 3) := by decide +kernel
theorem dX8_callIn_144 : decode cX8_callIn 144 = .ok (.iconst 0, 1) := by decide +kernel
theorem dX8_callIn_145 : decode cX8_callIn 145 = .ok (.istore 6, 2) := by decide +kernel
theorem dX8_callIn_147 : decode cX8_callIn 147 = .ok (.iload 4, 2) := by decide +kernel
theorem dX8_callIn_149 : decode cX8_callIn 149 = .ok (.istore 7, 2) := by decide +kernel
theorem dX8_callIn_151 : decode cX8_callIn 151 = .ok (.iload 7, 2) := by decide +kernel
theorem dX8_callIn_153 : decode cX8_callIn 153 = .ok (.ifCond .lt 176, 3) := by decide +kernel
theorem dX8_callIn_156 : decode cX8_callIn 156 = .ok (.aload_n 0, 1) := by decide +kernel
theorem dX8_callIn_157 : decode cX8_callIn 157 = .ok (.getfield 32, 3) := by decide +kernel
theorem dX8_callIn_160 : decode cX8_callIn 160 = .ok (.iload 7, 2) := by decide +kernel
theorem dX8_callIn_162 : decode cX8_callIn 162 = .ok (.iaload, 1) := by decide +kernel
theorem dX8_callIn_163 : decode cX8_callIn 163 = .ok (.istore 8, 2) := by decide +kernel
theorem dX8_callIn_165 : decode cX8_callIn 165 = .ok (.iload 5, 2) := by decide +kernel
theorem dX8_callIn_167 : decode cX8_callIn 167 = .ok (.ifCond .eq 28, 3) := by decide +kernel
theorem dX8_callIn_170 : decode cX8_callIn 170 = .ok (.iload 7, 2) := by decide +kernel
theorem dX8_callIn_172 : decode cX8_callIn 172 = .ok (.iload 4, 2) := by decide +kernel
theorem dX8_callIn_174 : decode cX8_callIn 174 = .ok (.if_icmp .eq 17, 3) := by decide +kernel
theorem dX8_callIn_177 : decode cX8_callIn 177 = .ok (.aload_n 1, 1) := by decide +kernel
theorem dX8_callIn_178 : decode cX8_callIn 178 = .ok (.iload 8, 2) := by decide +kernel
theorem dX8_callIn_180 : decode cX8_callIn 180 = .ok (.iconst 4, 1) := by decide +kernel
theorem dX8_callIn_181 : decode cX8_callIn 181 = .ok (.invokestatic 66, 3) := by decide +kernel
theorem dX8_callIn_184 : decode cX8_callIn 184 = .ok (.iaload, 1) := by decide +kernel
theorem dX8_callIn_185 : decode cX8_callIn 185 = .ok (.sipush (-10000), 3) := by decide +kernel
theorem dX8_callIn_188 : decode cX8_callIn 188 = .ok (.if_icmp .ne 7, 3) := by decide +kernel
theorem dX8_callIn_191 : decode cX8_callIn 191 = .ok (.iconst 1, 1) := by decide +kernel
theorem dX8_callIn_192 : decode cX8_callIn 192 = .ok (.goto 4, 3) := by decide +kernel
theorem dX8_callIn_195 : decode cX8_callIn 195 = .ok (.iconst 0, 1) := by decide +kernel
theorem dX8_callIn_196 : decode cX8_callIn 196 = .ok (.istore 9, 2) := by decide +kernel
theorem dX8_callIn_198 : decode cX8_callIn 198 = .ok (.iload 9, 2) := by decide +kernel
theorem dX8_callIn_200 : decode cX8_callIn 200 = .ok (.ifCond .eq 26, 3) := by decide +kernel
theorem dX8_callIn_203 : decode cX8_callIn 203 = .ok (.aload_n 1, 1) := by decide +kernel
theorem dX8_callIn_204 : decode cX8_callIn 204 = .ok (.sipush 692, 3) := by decide +kernel
theorem dX8_callIn_207 : decode cX8_callIn 207 = .ok (.dup2, 1) := by decide +kernel
theorem dX8_callIn_208 : decode cX8_callIn 208 = .ok (.iaload, 1) := by decide +kernel
theorem dX8_callIn_209 : decode cX8_callIn 209 = .ok (.iload 7, 2) := by decide +kernel
theorem dX8_callIn_211 : decode cX8_callIn 211 = .ok (.iload 4, 2) := by decide +kernel
theorem dX8_callIn_213 : decode cX8_callIn 213 = .ok (.if_icmp .ne 7, 3) := by decide +kernel
theorem dX8_callIn_216 : decode cX8_callIn 216 = .ok (.iconst 0, 1) := by decide +kernel
theorem dX8_callIn_217 : decode cX8_callIn 217 = .ok (.goto 4, 3) := by decide +kernel
theorem dX8_callIn_220 : decode cX8_callIn 220 = .ok (.iconst 1, 1) := by decide +kernel
theorem dX8_callIn_221 : decode cX8_callIn 221 = .ok (.iadd, 1) := by decide +kernel
theorem dX8_callIn_222 : decode cX8_callIn 222 = .ok (.iastore, 1) := by decide +kernel
theorem dX8_callIn_223 : decode cX8_callIn 223 = .ok (.goto 100, 3) := by decide +kernel
theorem dX8_callIn_226 : decode cX8_callIn 226 = .ok (.iload 5, 2) := by decide +kernel
theorem dX8_callIn_228 : decode cX8_callIn 228 = .ok (.ifCond .eq 44, 3) := by decide +kernel
theorem dX8_callIn_231 : decode cX8_callIn 231 = .ok (.aload_n 1, 1) := by decide +kernel
theorem dX8_callIn_232 : decode cX8_callIn 232 = .ok (.sipush 693, 3) := by decide +kernel
theorem dX8_callIn_235 : decode cX8_callIn 235 = .ok (.iconst 1, 1) := by decide +kernel
theorem dX8_callIn_236 : decode cX8_callIn 236 = .ok (.iastore, 1) := by decide +kernel
theorem dX8_callIn_237 : decode cX8_callIn 237 = .ok (.aload_n 1, 1) := by decide +kernel
theorem dX8_callIn_238 : decode cX8_callIn 238 = .ok (.sipush 685, 3) := by decide +kernel
theorem dX8_callIn_241 : decode cX8_callIn 241 = .ok (.dup2, 1) := by decide +kernel
theorem dX8_callIn_242 : decode cX8_callIn 242 = .ok (.iaload, 1) := by decide +kernel
theorem dX8_callIn_243 : decode cX8_callIn 243 = .ok (.iconst 1, 1) := by decide +kernel
theorem dX8_callIn_244 : decode cX8_callIn 244 = .ok (.iadd, 1) := by decide +kernel
theorem dX8_callIn_245 : decode cX8_callIn 245 = .ok (.iastore, 1) := by decide +kernel
theorem dX8_callIn_246 : decode cX8_callIn 246 = .ok (.aload_n 1, 1) := by decide +kernel
theorem dX8_callIn_247 : decode cX8_callIn 247 = .ok (.iload 8, 2) := by decide +kernel
theorem dX8_callIn_249 : decode cX8_callIn 249 = .ok (.bipush 7, 2) := by decide +kernel
theorem dX8_callIn_251 : decode cX8_callIn 251 = .ok (.invokestatic 66, 3) := by decide +kernel
theorem dX8_callIn_254 : decode cX8_callIn 254 = .ok (.dup2, 1) := by decide +kernel
theorem dX8_callIn_255 : decode cX8_callIn 255 = .ok (.iaload, 1) := by decide +kernel
theorem dX8_callIn_256 : decode cX8_callIn 256 = .ok (.iconst 1, 1) := by decide +kernel
theorem dX8_callIn_257 : decode cX8_callIn 257 = .ok (.iadd, 1) := by decide +kernel
theorem dX8_callIn_258 : decode cX8_callIn 258 = .ok (.iastore, 1) := by decide +kernel
theorem dX8_callIn_259 : decode cX8_callIn 259 = .ok (.aload_n 1, 1) := by decide +kernel
theorem dX8_callIn_260 : decode cX8_callIn 260 = .ok (.iload 8, 2) := by decide +kernel
theorem dX8_callIn_262 : decode cX8_callIn 262 = .ok (.iconst 4, 1) := by decide +kernel
theorem dX8_callIn_263 : decode cX8_callIn 263 = .ok (.invokestatic 66, 3) := by decide +kernel
theorem dX8_callIn_266 : decode cX8_callIn 266 = .ok (.iaload, 1) := by decide +kernel
theorem dX8_callIn_267 : decode cX8_callIn 267 = .ok (.istore 6, 2) := by decide +kernel
theorem dX8_callIn_269 : decode cX8_callIn 269 = .ok (.goto 30, 3) := by decide +kernel
theorem dX8_callIn_272 : decode cX8_callIn 272 = .ok (.aload_n 1, 1) := by decide +kernel
theorem dX8_callIn_273 : decode cX8_callIn 273 = .ok (.iload 8, 2) := by decide +kernel
theorem dX8_callIn_275 : decode cX8_callIn 275 = .ok (.iload 7, 2) := by decide +kernel
theorem dX8_callIn_277 : decode cX8_callIn 277 = .ok (.iload 4, 2) := by decide +kernel
theorem dX8_callIn_279 : decode cX8_callIn 279 = .ok (.if_icmp .ne 13, 3) := by decide +kernel
theorem dX8_callIn_282 : decode cX8_callIn 282 = .ok (.aload_n 0, 1) := by decide +kernel
theorem dX8_callIn_283 : decode cX8_callIn 283 = .ok (.getfield 35, 3) := by decide +kernel
theorem dX8_callIn_286 : decode cX8_callIn 286 = .ok (.iload 7, 2) := by decide +kernel
theorem dX8_callIn_288 : decode cX8_callIn 288 = .ok (.iaload, 1) := by decide +kernel
theorem dX8_callIn_289 : decode cX8_callIn 289 = .ok (.goto 5, 3) := by decide +kernel
theorem dX8_callIn_292 : decode cX8_callIn 292 = .ok (.iload 6, 2) := by decide +kernel
theorem dX8_callIn_294 : decode cX8_callIn 294 = .ok (.invokestatic 93, 3) := by decide +kernel
theorem dX8_callIn_297 : decode cX8_callIn 297 = .ok (.istore 6, 2) := by decide +kernel
theorem dX8_callIn_299 : decode cX8_callIn 299 = .ok (.aload_n 1, 1) := by decide +kernel
theorem dX8_callIn_300 : decode cX8_callIn 300 = .ok (.aload_n 0, 1) := by decide +kernel
theorem dX8_callIn_301 : decode cX8_callIn 301 = .ok (.iload 7, 2) := by decide +kernel
theorem dX8_callIn_303 : decode cX8_callIn 303 = .ok (.invokevirtual 97, 3) := by decide +kernel
theorem dX8_callIn_306 : decode cX8_callIn 306 = .ok (.iload 8, 2) := by decide +kernel
theorem dX8_callIn_308 : decode cX8_callIn 308 = .ok (.iload 6, 2) := by decide +kernel
theorem dX8_callIn_310 : decode cX8_callIn 310 = .ok (.invokestatic 100, 3) := by decide +kernel
theorem dX8_callIn_313 : decode cX8_callIn 313 = .ok (.ifCond .le 7, 3) := by decide +kernel
theorem dX8_callIn_316 : decode cX8_callIn 316 = .ok (.iconst 1, 1) := by decide +kernel
theorem dX8_callIn_317 : decode cX8_callIn 317 = .ok (.goto 4, 3) := by decide +kernel
theorem dX8_callIn_320 : decode cX8_callIn 320 = .ok (.iconst 0, 1) := by decide +kernel
theorem dX8_callIn_321 : decode cX8_callIn 321 = .ok (.istore 5, 2) := by decide +kernel
theorem dX8_callIn_323 : decode cX8_callIn 323 = .ok (.iinc 7 (-1), 3) := by decide +kernel
theorem dX8_callIn_326 : decode cX8_callIn 326 = .ok (.goto (-175), 3) := by decide +kernel
theorem dX8_callIn_329 : decode cX8_callIn 329 = .ok (.aload_n 1, 1) := by decide +kernel
theorem dX8_callIn_330 : decode cX8_callIn 330 = .ok (.sipush 684, 3) := by decide +kernel
theorem dX8_callIn_333 : decode cX8_callIn 333 = .ok (.dup2, 1) := by decide +kernel
theorem dX8_callIn_334 : decode cX8_callIn 334 = .ok (.iaload, 1) := by decide +kernel
theorem dX8_callIn_335 : decode cX8_callIn 335 = .ok (.iload 5, 2) := by decide +kernel
theorem dX8_callIn_337 : decode cX8_callIn 337 = .ok (.ifCond .eq 7, 3) := by decide +kernel
theorem dX8_callIn_340 : decode cX8_callIn 340 = .ok (.iconst 1, 1) := by decide +kernel
theorem dX8_callIn_341 : decode cX8_callIn 341 = .ok (.goto 4, 3) := by decide +kernel
theorem dX8_callIn_344 : decode cX8_callIn 344 = .ok (.iconst 0, 1) := by decide +kernel
theorem dX8_callIn_345 : decode cX8_callIn 345 = .ok (.iadd, 1) := by decide +kernel
theorem dX8_callIn_346 : decode cX8_callIn 346 = .ok (.iastore, 1) := by decide +kernel
theorem dX8_callIn_347 : decode cX8_callIn 347 = .ok (.iload 5, 2) := by decide +kernel
theorem dX8_callIn_349 : decode cX8_callIn 349 = .ok (.ifCond .eq 9, 3) := by decide +kernel
theorem dX8_callIn_352 : decode cX8_callIn 352 = .ok (.sipush (-10000), 3) := by decide +kernel
theorem dX8_callIn_355 : decode cX8_callIn 355 = .ok (.goto 5, 3) := by decide +kernel
theorem dX8_callIn_358 : decode cX8_callIn 358 = .ok (.iload 6, 2) := by decide +kernel
theorem dX8_callIn_360 : decode cX8_callIn 360 = .ok (.ireturn, 1) := by decide +kernel
set_option maxRecDepth 20000 in
theorem ggX8_addIn_X8_partAt : GoodIn wsX8_addIn wsX8_partAt := goodIn_r _ [4] (by decide +kernel) (by decide +kernel)
set_option maxRecDepth 20000 in
theorem gX8_addIn_X8_partAt : GoodIn wsX8_addIn (va_wsS RX8 66 yX8_partAt wsX8_partAt) := goodIn_app (goodIn_of _ (by decide +kernel)) ggX8_addIn_X8_partAt
theorem dX8_addIn_0 : decode cX8_addIn 0 = .ok (.aload_n 0, 1) := by decide +kernel
theorem dX8_addIn_1 : decode cX8_addIn 1 = .ok (.iconst 0, 1) := by decide +kernel
theorem dX8_addIn_2 : decode cX8_addIn 2 = .ok (.iaload, 1) := by decide +kernel
theorem dX8_addIn_3 : decode cX8_addIn 3 = .ok (.istore_n 3, 1) := by decide +kernel
theorem dX8_addIn_4 : decode cX8_addIn 4 = .ok (.iconst 0, 1) := by decide +kernel
theorem dX8_addIn_5 : decode cX8_addIn 5 = .ok (.istore 4, 2) := by decide +kernel
theorem dX8_addIn_7 : decode cX8_addIn 7 = .ok (.iload 4, 2) := by decide +kernel
theorem dX8_addIn_9 : decode cX8_addIn 9 = .ok (.bipush 8, 2) := by decide +kernel
theorem dX8_addIn_11 : decode cX8_addIn 11 = .ok (.if_icmp .ge 18, 3) := by decide +kernel
theorem dX8_addIn_14 : decode cX8_addIn 14 = .ok (.aload_n 0, 1) := by decide +kernel
theorem dX8_addIn_15 : decode cX8_addIn 15 = .ok (.iload_n 3, 1) := by decide +kernel
theorem dX8_addIn_16 : decode cX8_addIn 16 = .ok (.iload 4, 2) := by decide +kernel
theorem dX8_addIn_18 : decode cX8_addIn 18 = .ok (.invokestatic 66, 3) := by decide +kernel
theorem dX8_addIn_21 : decode cX8_addIn 21 = .ok (.iconst 0, 1) := by decide +kernel
theorem dX8_addIn_22 : decode cX8_addIn 22 = .ok (.iastore, 1) := by decide +kernel
theorem dX8_addIn_23 : decode cX8_addIn 23 = .ok (.iinc 4 1, 3) := by decide +kernel
theorem dX8_addIn_26 : decode cX8_addIn 26 = .ok (.goto (-19), 3) := by decide +kernel
theorem dX8_addIn_29 : decode cX8_addIn 29 = .ok (.aload_n 0, 1) := by decide +kernel
theorem dX8_addIn_30 : decode cX8_addIn 30 = .ok (.iload_n 3, 1) := by decide +kernel
theorem dX8_addIn_31 : decode cX8_addIn 31 = .ok (.iconst 0, 1) := by decide +kernel
theorem dX8_addIn_32 : decode cX8_addIn 32 = .ok (.invokestatic 66, 3) := by decide +kernel
theorem dX8_addIn_35 : decode cX8_addIn 35 = .ok (.iload_n 1, 1) := by decide +kernel
theorem dX8_addIn_36 : decode cX8_addIn 36 = .ok (.iastore, 1) := by decide +kernel
theorem dX8_addIn_37 : decode cX8_addIn 37 = .ok (.aload_n 0, 1) := by decide +kernel
theorem dX8_addIn_38 : decode cX8_addIn 38 = .ok (.iload_n 3, 1) := by decide +kernel
theorem dX8_addIn_39 : decode cX8_addIn 39 = .ok (.iconst 1, 1) := by decide +kernel
theorem dX8_addIn_40 : decode cX8_addIn 40 = .ok (.invokestatic 66, 3) := by decide +kernel
theorem dX8_addIn_43 : decode cX8_addIn 43 = .ok (.iload_n 2, 1) := by decide +kernel
theorem dX8_addIn_44 : decode cX8_addIn 44 = .ok (.iastore, 1) := by decide +kernel
theorem dX8_addIn_45 : decode cX8_addIn 45 = .ok (.aload_n 0, 1) := by decide +kernel
theorem dX8_addIn_46 : decode cX8_addIn 46 = .ok (.iload_n 3, 1) := by decide +kernel
theorem dX8_addIn_47 : decode cX8_addIn 47 = .ok (.iconst 4, 1) := by decide +kernel
theorem dX8_addIn_48 : decode cX8_addIn 48 = .ok (.invokestatic 66, 3) := by decide +kernel
theorem dX8_addIn_51 : decode cX8_addIn 51 = .ok (.sipush (-10000), 3) := by decide +kernel
theorem dX8_addIn_54 : decode cX8_addIn 54 = .ok (.iastore, 1) := by decide +kernel
theorem dX8_addIn_55 : decode cX8_addIn 55 = .ok (.aload_n 0, 1) := by decide +kernel
theorem dX8_addIn_56 : decode cX8_addIn 56 = .ok (.iconst 0, 1) := by decide +kernel
theorem dX8_addIn_57 : decode cX8_addIn 57 = .ok (.dup2, 1) := by decide +kernel
theorem dX8_addIn_58 : decode cX8_addIn 58 = .ok (.iaload, 1) := by decide +kernel
theorem dX8_addIn_59 : decode cX8_addIn 59 = .ok (.iconst 1, 1) := by decide +kernel
theorem dX8_addIn_60 : decode cX8_addIn 60 = .ok (.iadd, 1) := by decide +kernel
theorem dX8_addIn_61 : decode cX8_addIn 61 = .ok (.iastore, 1) := by decide +kernel
theorem dX8_addIn_62 : decode cX8_addIn 62 = .ok (.return_, 1) := by decide +kernel
set_option maxRecDepth 20000 in
theorem ggX8_chainIn_X8_partAt : GoodIn wsX8_chainIn wsX8_partAt := goodIn_r _ [4] (by decide +kernel) (by decide +kernel)
set_option maxRecDepth 20000 in
theorem gX8_chainIn_X8_partAt : GoodIn wsX8_chainIn (va_wsS RX8 66 yX8_partAt wsX8_partAt) := goodIn_app (goodIn_of _ (by decide +kernel)) ggX8_chainIn_X8_partAt
theorem dX8_chainIn_0 : decode cX8_chainIn 0 = .ok (.aload_n 0, 1) := by decide +kernel
theorem dX8_chainIn_1 : decode cX8_chainIn 1 = .ok (.iload_n 1, 1) := by decide +kernel
theorem dX8_chainIn_2 : decode cX8_chainIn 2 = .ok (.iconst 2, 1) := by decide +kernel
theorem dX8_chainIn_3 : decode cX8_chainIn 3 = .ok (.invokestatic 66, 3) := by decide +kernel
theorem dX8_chainIn_6 : decode cX8_chainIn 6 = .ok (.iload_n 2, 1) := by decide +kernel
theorem dX8_chainIn_7 : decode cX8_chainIn 7 = .ok (.sipush (-10000), 3) := by decide +kernel
theorem dX8_chainIn_10 : decode cX8_chainIn 10 = .ok (.if_icmp .ne 7, 3) := by decide +kernel
theorem dX8_chainIn_13 : decode cX8_chainIn 13 = .ok (.iconst 0, 1) := by decide +kernel
theorem dX8_chainIn_14 : decode cX8_chainIn 14 = .ok (.goto 6, 3) := by decide +kernel
theorem dX8_chainIn_17 : decode cX8_chainIn 17 = .ok (.iload_n 2, 1) := by decide +kernel
theorem dX8_chainIn_18 : decode cX8_chainIn 18 = .ok (.iconst 1, 1) := by decide +kernel
theorem dX8_chainIn_19 : decode cX8_chainIn 19 = .ok (.iadd, 1) := by decide +kernel
theorem dX8_chainIn_20 : decode cX8_chainIn 20 = .ok (.iastore, 1) := by decide +kernel
theorem dX8_chainIn_21 : decode cX8_chainIn 21 = .ok (.aload_n 0, 1) := by decide +kernel
theorem dX8_chainIn_22 : decode cX8_chainIn 22 = .ok (.iload_n 1, 1) := by decide +kernel
theorem dX8_chainIn_23 : decode cX8_chainIn 23 = .ok (.iconst 3, 1) := by decide +kernel
theorem dX8_chainIn_24 : decode cX8_chainIn 24 = .ok (.invokestatic 66, 3) := by decide +kernel
theorem dX8_chainIn_27 : decode cX8_chainIn 27 = .ok (.iload_n 3, 1) := by decide +kernel
theorem dX8_chainIn_28 : decode cX8_chainIn 28 = .ok (.iastore, 1) := by decide +kernel
theorem dX8_chainIn_29 : decode cX8_chainIn 29 = .ok (.return_, 1) := by decide +kernel
set_option maxRecDepth 20000 in
theorem ggX8_promise_X8_contractAt : GoodIn wsX8_promise wsX8_contractAt := goodIn_r _ [4] (by decide +kernel) (by decide +kernel)
set_option maxRecDepth 20000 in
theorem gX8_promise_X8_contractAt : GoodIn wsX8_promise (va_wsS RX8 54 yX8_contractAt wsX8_contractAt) := goodIn_app (goodIn_of _ (by decide +kernel)) ggX8_promise_X8_contractAt
theorem dX8_promise_0 : decode cX8_promise 0 = .ok (.aload_n 0, 1) := by decide +kernel
theorem dX8_promise_1 : decode cX8_promise 1 = .ok (.iload_n 1, 1) := by decide +kernel
theorem dX8_promise_2 : decode cX8_promise 2 = .ok (.iload_n 2, 1) := by decide +kernel
theorem dX8_promise_3 : decode cX8_promise 3 = .ok (.iconst 0, 1) := by decide +kernel
theorem dX8_promise_4 : decode cX8_promise 4 = .ok (.invokestatic 54, 3) := by decide +kernel
theorem dX8_promise_7 : decode cX8_promise 7 = .ok (.iconst 1, 1) := by decide +kernel
theorem dX8_promise_8 : decode cX8_promise 8 = .ok (.iastore, 1) := by decide +kernel
theorem dX8_promise_9 : decode cX8_promise 9 = .ok (.aload_n 0, 1) := by decide +kernel
theorem dX8_promise_10 : decode cX8_promise 10 = .ok (.iload_n 1, 1) := by decide +kernel
theorem dX8_promise_11 : decode cX8_promise 11 = .ok (.iload_n 2, 1) := by decide +kernel
theorem dX8_promise_12 : decode cX8_promise 12 = .ok (.iconst 1, 1) := by decide +kernel
theorem dX8_promise_13 : decode cX8_promise 13 = .ok (.invokestatic 54, 3) := by decide +kernel
theorem dX8_promise_16 : decode cX8_promise 16 = .ok (.iload_n 3, 1) := by decide +kernel
theorem dX8_promise_17 : decode cX8_promise 17 = .ok (.iastore, 1) := by decide +kernel
theorem dX8_promise_18 : decode cX8_promise 18 = .ok (.aload_n 0, 1) := by decide +kernel
theorem dX8_promise_19 : decode cX8_promise 19 = .ok (.iload_n 1, 1) := by decide +kernel
theorem dX8_promise_20 : decode cX8_promise 20 = .ok (.iload_n 2, 1) := by decide +kernel
theorem dX8_promise_21 : decode cX8_promise 21 = .ok (.iconst 2, 1) := by decide +kernel
theorem dX8_promise_22 : decode cX8_promise 22 = .ok (.invokestatic 54, 3) := by decide +kernel
theorem dX8_promise_25 : decode cX8_promise 25 = .ok (.iload 4, 2) := by decide +kernel
theorem dX8_promise_27 : decode cX8_promise 27 = .ok (.iastore, 1) := by decide +kernel
theorem dX8_promise_28 : decode cX8_promise 28 = .ok (.aload_n 0, 1) := by decide +kernel
theorem dX8_promise_29 : decode cX8_promise 29 = .ok (.iload_n 1, 1) := by decide +kernel
theorem dX8_promise_30 : decode cX8_promise 30 = .ok (.iload_n 2, 1) := by decide +kernel
theorem dX8_promise_31 : decode cX8_promise 31 = .ok (.iconst 3, 1) := by decide +kernel
theorem dX8_promise_32 : decode cX8_promise 32 = .ok (.invokestatic 54, 3) := by decide +kernel
theorem dX8_promise_35 : decode cX8_promise 35 = .ok (.iload 5, 2) := by decide +kernel
theorem dX8_promise_37 : decode cX8_promise 37 = .ok (.iastore, 1) := by decide +kernel
theorem dX8_promise_38 : decode cX8_promise 38 = .ok (.aload_n 0, 1) := by decide +kernel
theorem dX8_promise_39 : decode cX8_promise 39 = .ok (.iload_n 1, 1) := by decide +kernel
theorem dX8_promise_40 : decode cX8_promise 40 = .ok (.iload_n 2, 1) := by decide +kernel
theorem dX8_promise_41 : decode cX8_promise 41 = .ok (.iconst 4, 1) := by decide +kernel
theorem dX8_promise_42 : decode cX8_promise 42 = .ok (.invokestatic 54, 3) := by decide +kernel
theorem dX8_promise_45 : decode cX8_promise 45 = .ok (.iload 6, 2) := by decide +kernel
theorem dX8_promise_47 : decode cX8_promise 47 = .ok (.iastore, 1) := by decide +kernel
theorem dX8_promise_48 : decode cX8_promise 48 = .ok (.return_, 1) := by decide +kernel
set_option maxRecDepth 20000 in
theorem ggX8_contracts_X8_contractAt : GoodIn wsX8_contracts wsX8_contractAt := goodIn_r _ [4] (by decide +kernel) (by decide +kernel)
set_option maxRecDepth 20000 in
theorem gX8_contracts_X8_contractAt : GoodIn wsX8_contracts (va_wsS RX8 54 yX8_contractAt wsX8_contractAt) := goodIn_app (goodIn_of _ (by decide +kernel)) ggX8_contracts_X8_contractAt
theorem dX8_contracts_0 : decode cX8_contracts 0 = .ok (.iconst 0, 1) := by decide +kernel
theorem dX8_contracts_1 : decode cX8_contracts 1 = .ok (.istore_n 3, 1) := by decide +kernel
theorem dX8_contracts_2 : decode cX8_contracts 2 = .ok (.iload_n 1, 1) := by decide +kernel
theorem dX8_contracts_3 : decode cX8_contracts 3 = .ok (.istore 4, 2) := by decide +kernel
theorem dX8_contracts_5 : decode cX8_contracts 5 = .ok (.iload 4, 2) := by decide +kernel
theorem dX8_contracts_7 : decode cX8_contracts 7 = .ok (.iload_n 2, 1) := by decide +kernel
theorem dX8_contracts_8 : decode cX8_contracts 8 = .ok (.if_icmp .gt 39, 3) := by decide +kernel
theorem dX8_contracts_11 : decode cX8_contracts 11 = .ok (.iconst 0, 1) := by decide +kernel
theorem dX8_contracts_12 : decode cX8_contracts 12 = .ok (.istore 5, 2) := by decide +kernel
theorem dX8_contracts_14 : decode cX8_contracts 14 = .ok (.iload 5, 2) := by decide +kernel
theorem dX8_contracts_16 : decode cX8_contracts 16 = .ok (.aload_n 0, 1) := by decide +kernel
theorem dX8_contracts_17 : decode cX8_contracts 17 = .ok (.iconst 0, 1) := by decide +kernel
theorem dX8_contracts_18 : decode cX8_contracts 18 = .ok (.iaload, 1) := by decide +kernel
theorem dX8_contracts_19 : decode cX8_contracts 19 = .ok (.if_icmp .ge 22, 3) := by decide +kernel
theorem dX8_contracts_22 : decode cX8_contracts 22 = .ok (.iload_n 3, 1) := by decide +kernel
theorem dX8_contracts_23 : decode cX8_contracts 23 = .ok (.aload_n 0, 1) := by decide +kernel
theorem dX8_contracts_24 : decode cX8_contracts 24 = .ok (.iload 4, 2) := by decide +kernel
theorem dX8_contracts_26 : decode cX8_contracts 26 = .ok (.iload 5, 2) := by decide +kernel
theorem dX8_contracts_28 : decode cX8_contracts 28 = .ok (.iconst 0, 1) := by decide +kernel
theorem dX8_contracts_29 : decode cX8_contracts 29 = .ok (.invokestatic 54, 3) := by decide +kernel
theorem dX8_contracts_32 : decode cX8_contracts 32 = .ok (.iaload, 1) := by decide +kernel
theorem dX8_contracts_33 : decode cX8_contracts 33 = .ok (.iadd, 1) := by decide +kernel
theorem dX8_contracts_34 : decode cX8_contracts 34 = .ok (.istore_n 3, 1) := by decide +kernel
theorem dX8_contracts_35 : decode cX8_contracts 35 = .ok (.iinc 5 1, 3) := by decide +kernel
theorem dX8_contracts_38 : decode cX8_contracts 38 = .ok (.goto (-24), 3) := by decide +kernel
theorem dX8_contracts_41 : decode cX8_contracts 41 = .ok (.iinc 4 1, 3) := by decide +kernel
theorem dX8_contracts_44 : decode cX8_contracts 44 = .ok (.goto (-39), 3) := by decide +kernel
theorem dX8_contracts_47 : decode cX8_contracts 47 = .ok (.iload_n 3, 1) := by decide +kernel
theorem dX8_contracts_48 : decode cX8_contracts 48 = .ok (.ireturn, 1) := by decide +kernel
set_option maxRecDepth 20000 in
theorem ggX8_append_X8_in : GoodIn wsX8_append wsX8_in := goodIn_r _ [7] (by decide +kernel) (by decide +kernel)
set_option maxRecDepth 20000 in
theorem gX8_append_X8_in : GoodIn wsX8_append (va_wsS RX8 62 yX8_in wsX8_in) := goodIn_app (goodIn_of _ (by decide +kernel)) ggX8_append_X8_in
set_option maxRecDepth 20000 in
theorem ggX8_append_X8_refused : GoodIn wsX8_append wsX8_refused := goodIn_r _ [11, 12, 13, 14, 15, 16, 17, 18, 19, 20, 21, 22, 23, 24, 25, 26, 27, 28] (by decide +kernel) (by decide +kernel)
set_option maxRecDepth 20000 in
theorem gX8_append_X8_refused : GoodIn wsX8_append (wsV RX8 108 RX8 yX8_refused wsX8_refused) := goodIn_app (goodIn_of _ (by decide +kernel)) ggX8_append_X8_refused
theorem dX8_append_0 : decode cX8_append 0 = .ok (.aload_n 0, 1) := by decide +kernel
theorem dX8_append_1 : decode cX8_append 1 = .ok (.iload_n 1, 1) := by decide +kernel
theorem dX8_append_2 : decode cX8_append 2 = .ok (.i2l, 1) := by decide +kernel
theorem dX8_append_3 : decode cX8_append 3 = .ok (.lconst 0, 1) := by decide +kernel
theorem dX8_append_4 : decode cX8_append 4 = .ok (.ldc2_w 103, 3) := by decide +kernel
theorem dX8_append_7 : decode cX8_append 7 = .ok (.invokestatic 62, 3) := by decide +kernel
theorem dX8_append_10 : decode cX8_append 10 = .ok (.ifCond .ne 7, 3) := by decide +kernel
theorem dX8_append_13 : decode cX8_append 13 = .ok (.iconst 1, 1) := by decide +kernel
theorem dX8_append_14 : decode cX8_append 14 = .ok (.goto 17, 3) := by decide +kernel
theorem dX8_append_17 : decode cX8_append 17 = .ok (.aload_n 0, 1) := by decide +kernel
theorem dX8_append_18 : decode cX8_append 18 = .ok (.getfield 105, 3) := by decide +kernel
theorem dX8_append_21 : decode cX8_append 21 = .ok (.bipush 120, 2) := by decide +kernel
theorem dX8_append_23 : decode cX8_append 23 = .ok (.if_icmp .ne 7, 3) := by decide +kernel
theorem dX8_append_26 : decode cX8_append 26 = .ok (.iconst 2, 1) := by decide +kernel
theorem dX8_append_27 : decode cX8_append 27 = .ok (.goto 4, 3) := by decide +kernel
theorem dX8_append_30 : decode cX8_append 30 = .ok (.iconst 0, 1) := by decide +kernel
theorem dX8_append_31 : decode cX8_append 31 = .ok (.invokevirtual 108, 3) := by decide +kernel
theorem dX8_append_34 : decode cX8_append 34 = .ok (.ifCond .eq 5, 3) := by decide +kernel
theorem dX8_append_37 : decode cX8_append 37 = .ok (.iconst 0, 1) := by decide +kernel
theorem dX8_append_38 : decode cX8_append 38 = .ok (.ireturn, 1) := by decide +kernel
theorem dX8_append_39 : decode cX8_append 39 = .ok (.aload_n 0, 1) := by decide +kernel
theorem dX8_append_40 : decode cX8_append 40 = .ok (.getfield 7, 3) := by decide +kernel
theorem dX8_append_43 : decode cX8_append 43 = .ok (.aload_n 0, 1) := by decide +kernel
theorem dX8_append_44 : decode cX8_append 44 = .ok (.getfield 105, 3) := by decide +kernel
theorem dX8_append_47 : decode cX8_append 47 = .ok (.iload_n 1, 1) := by decide +kernel
theorem dX8_append_48 : decode cX8_append 48 = .ok (.iastore, 1) := by decide +kernel
theorem dX8_append_49 : decode cX8_append 49 = .ok (.aload_n 0, 1) := by decide +kernel
theorem dX8_append_50 : decode cX8_append 50 = .ok (.dup, 1) := by decide +kernel
theorem dX8_append_51 : decode cX8_append 51 = .ok (.getfield 105, 3) := by decide +kernel
theorem dX8_append_54 : decode cX8_append 54 = .ok (.iconst 1, 1) := by decide +kernel
theorem dX8_append_55 : decode cX8_append 55 = .ok (.iadd, 1) := by decide +kernel
theorem dX8_append_56 : decode cX8_append 56 = .ok (.putfield 105, 3) := by decide +kernel
theorem dX8_append_59 : decode cX8_append 59 = .ok (.aload_n 0, 1) := by decide +kernel
theorem dX8_append_60 : decode cX8_append 60 = .ok (.getfield 105, 3) := by decide +kernel
theorem dX8_append_63 : decode cX8_append 63 = .ok (.ireturn, 1) := by decide +kernel
theorem dX8_clearText_0 : decode cX8_clearText 0 = .ok (.aload_n 0, 1) := by decide +kernel
theorem dX8_clearText_1 : decode cX8_clearText 1 = .ok (.iconst 0, 1) := by decide +kernel
theorem dX8_clearText_2 : decode cX8_clearText 2 = .ok (.putfield 41, 3) := by decide +kernel
theorem dX8_clearText_5 : decode cX8_clearText 5 = .ok (.aload_n 0, 1) := by decide +kernel
theorem dX8_clearText_6 : decode cX8_clearText 6 = .ok (.getfield 105, 3) := by decide +kernel
theorem dX8_clearText_9 : decode cX8_clearText 9 = .ok (.istore_n 1, 1) := by decide +kernel
theorem dX8_clearText_10 : decode cX8_clearText 10 = .ok (.aload_n 0, 1) := by decide +kernel
theorem dX8_clearText_11 : decode cX8_clearText 11 = .ok (.iconst 0, 1) := by decide +kernel
theorem dX8_clearText_12 : decode cX8_clearText 12 = .ok (.putfield 105, 3) := by decide +kernel
theorem dX8_clearText_15 : decode cX8_clearText 15 = .ok (.iload_n 1, 1) := by decide +kernel
theorem dX8_clearText_16 : decode cX8_clearText 16 = .ok (.ireturn, 1) := by decide +kernel
theorem dX8_isNext_0 : decode cX8_isNext 0 = .ok (.aload_n 0, 1) := by decide +kernel
theorem dX8_isNext_1 : decode cX8_isNext 1 = .ok (.getfield 112, 3) := by decide +kernel
theorem dX8_isNext_4 : decode cX8_isNext 4 = .ok (.aload_n 0, 1) := by decide +kernel
theorem dX8_isNext_5 : decode cX8_isNext 5 = .ok (.getfield 105, 3) := by decide +kernel
theorem dX8_isNext_8 : decode cX8_isNext 8 = .ok (.if_icmp .ge 20, 3) := by decide +kernel
theorem dX8_isNext_11 : decode cX8_isNext 11 = .ok (.aload_n 0, 1) := by decide +kernel
theorem dX8_isNext_12 : decode cX8_isNext 12 = .ok (.getfield 7, 3) := by decide +kernel
theorem dX8_isNext_15 : decode cX8_isNext 15 = .ok (.aload_n 0, 1) := by decide +kernel
theorem dX8_isNext_16 : decode cX8_isNext 16 = .ok (.getfield 112, 3) := by decide +kernel
theorem dX8_isNext_19 : decode cX8_isNext 19 = .ok (.iaload, 1) := by decide +kernel
theorem dX8_isNext_20 : decode cX8_isNext 20 = .ok (.iload_n 1, 1) := by decide +kernel
theorem dX8_isNext_21 : decode cX8_isNext 21 = .ok (.if_icmp .ne 7, 3) := by decide +kernel
theorem dX8_isNext_24 : decode cX8_isNext 24 = .ok (.iconst 1, 1) := by decide +kernel
theorem dX8_isNext_25 : decode cX8_isNext 25 = .ok (.goto 4, 3) := by decide +kernel
theorem dX8_isNext_28 : decode cX8_isNext 28 = .ok (.iconst 0, 1) := by decide +kernel
theorem dX8_isNext_29 : decode cX8_isNext 29 = .ok (.ireturn, 1) := by decide +kernel
theorem dX8_accept_0 : decode cX8_accept 0 = .ok (.aload_n 0, 1) := by decide +kernel
theorem dX8_accept_1 : decode cX8_accept 1 = .ok (.aload_n 0, 1) := by decide +kernel
theorem dX8_accept_2 : decode cX8_accept 2 = .ok (.getfield 115, 3) := by decide +kernel
theorem dX8_accept_5 : decode cX8_accept 5 = .ok (.ifCond .eq 11, 3) := by decide +kernel
theorem dX8_accept_8 : decode cX8_accept 8 = .ok (.iload_n 1, 1) := by decide +kernel
theorem dX8_accept_9 : decode cX8_accept 9 = .ok (.ifCond .eq 7, 3) := by decide +kernel
theorem dX8_accept_12 : decode cX8_accept 12 = .ok (.iconst 1, 1) := by decide +kernel
theorem dX8_accept_13 : decode cX8_accept 13 = .ok (.goto 4, 3) := by decide +kernel
theorem dX8_accept_16 : decode cX8_accept 16 = .ok (.iconst 0, 1) := by decide +kernel
theorem dX8_accept_17 : decode cX8_accept 17 = .ok (.putfield 115, 3) := by decide +kernel
theorem dX8_accept_20 : decode cX8_accept 20 = .ok (.aload_n 0, 1) := by decide +kernel
theorem dX8_accept_21 : decode cX8_accept 21 = .ok (.dup, 1) := by decide +kernel
theorem dX8_accept_22 : decode cX8_accept 22 = .ok (.getfield 112, 3) := by decide +kernel
theorem dX8_accept_25 : decode cX8_accept 25 = .ok (.aload_n 0, 1) := by decide +kernel
theorem dX8_accept_26 : decode cX8_accept 26 = .ok (.getfield 115, 3) := by decide +kernel
theorem dX8_accept_29 : decode cX8_accept 29 = .ok (.ifCond .eq 7, 3) := by decide +kernel
theorem dX8_accept_32 : decode cX8_accept 32 = .ok (.iconst 1, 1) := by decide +kernel
theorem dX8_accept_33 : decode cX8_accept 33 = .ok (.goto 4, 3) := by decide +kernel
theorem dX8_accept_36 : decode cX8_accept 36 = .ok (.iconst 0, 1) := by decide +kernel
theorem dX8_accept_37 : decode cX8_accept 37 = .ok (.iadd, 1) := by decide +kernel
theorem dX8_accept_38 : decode cX8_accept 38 = .ok (.putfield 112, 3) := by decide +kernel
theorem dX8_accept_41 : decode cX8_accept 41 = .ok (.return_, 1) := by decide +kernel
set_option maxRecDepth 20000 in
theorem ggX8_digit_X8_in : GoodIn wsX8_digit wsX8_in := goodIn_r _ [9] (by decide +kernel) (by decide +kernel)
set_option maxRecDepth 20000 in
theorem gX8_digit_X8_in : GoodIn wsX8_digit (va_wsS RX8 62 yX8_in wsX8_in) := goodIn_app (goodIn_of _ (by decide +kernel)) ggX8_digit_X8_in
set_option maxRecDepth 20000 in
theorem ggX8_digit_X8_accept : GoodIn wsX8_digit wsX8_accept := goodIn_r _ [13, 5, 1, 14, 15, 16, 17, 18, 19, 20, 21, 22, 23, 24, 25, 26, 27, 28, 29] (by decide +kernel) (by decide +kernel)
set_option maxRecDepth 20000 in
theorem gX8_digit_X8_accept : GoodIn wsX8_digit (wsV RX8 121 RX8 yX8_accept wsX8_accept) := goodIn_app (goodIn_of _ (by decide +kernel)) ggX8_digit_X8_accept
theorem dX8_digit_0 : decode cX8_digit 0 = .ok (.aload_n 0, 1) := by decide +kernel
theorem dX8_digit_1 : decode cX8_digit 1 = .ok (.getfield 112, 3) := by decide +kernel
theorem dX8_digit_4 : decode cX8_digit 4 = .ok (.aload_n 0, 1) := by decide +kernel
theorem dX8_digit_5 : decode cX8_digit 5 = .ok (.getfield 105, 3) := by decide +kernel
theorem dX8_digit_8 : decode cX8_digit 8 = .ok (.if_icmp .ge 18, 3) := by decide +kernel
theorem dX8_digit_11 : decode cX8_digit 11 = .ok (.aload_n 0, 1) := by decide +kernel
theorem dX8_digit_12 : decode cX8_digit 12 = .ok (.getfield 7, 3) := by decide +kernel
theorem dX8_digit_15 : decode cX8_digit 15 = .ok (.aload_n 0, 1) := by decide +kernel
theorem dX8_digit_16 : decode cX8_digit 16 = .ok (.getfield 112, 3) := by decide +kernel
theorem dX8_digit_19 : decode cX8_digit 19 = .ok (.iaload, 1) := by decide +kernel
theorem dX8_digit_20 : decode cX8_digit 20 = .ok (.bipush 48, 2) := by decide +kernel
theorem dX8_digit_22 : decode cX8_digit 22 = .ok (.isub, 1) := by decide +kernel
theorem dX8_digit_23 : decode cX8_digit 23 = .ok (.goto 6, 3) := by decide +kernel
theorem dX8_digit_26 : decode cX8_digit 26 = .ok (.sipush (-10000), 3) := by decide +kernel
theorem dX8_digit_29 : decode cX8_digit 29 = .ok (.istore_n 3, 1) := by decide +kernel
theorem dX8_digit_30 : decode cX8_digit 30 = .ok (.aload_n 0, 1) := by decide +kernel
theorem dX8_digit_31 : decode cX8_digit 31 = .ok (.iload_n 3, 1) := by decide +kernel
theorem dX8_digit_32 : decode cX8_digit 32 = .ok (.i2l, 1) := by decide +kernel
theorem dX8_digit_33 : decode cX8_digit 33 = .ok (.lconst 0, 1) := by decide +kernel
theorem dX8_digit_34 : decode cX8_digit 34 = .ok (.ldc2_w 119, 3) := by decide +kernel
theorem dX8_digit_37 : decode cX8_digit 37 = .ok (.invokestatic 62, 3) := by decide +kernel
theorem dX8_digit_40 : decode cX8_digit 40 = .ok (.ifCond .eq 19, 3) := by decide +kernel
theorem dX8_digit_43 : decode cX8_digit 43 = .ok (.iload_n 3, 1) := by decide +kernel
theorem dX8_digit_44 : decode cX8_digit 44 = .ok (.i2l, 1) := by decide +kernel
theorem dX8_digit_45 : decode cX8_digit 45 = .ok (.iload_n 1, 1) := by decide +kernel
theorem dX8_digit_46 : decode cX8_digit 46 = .ok (.i2l, 1) := by decide +kernel
theorem dX8_digit_47 : decode cX8_digit 47 = .ok (.iload_n 2, 1) := by decide +kernel
theorem dX8_digit_48 : decode cX8_digit 48 = .ok (.i2l, 1) := by decide +kernel
theorem dX8_digit_49 : decode cX8_digit 49 = .ok (.invokestatic 62, 3) := by decide +kernel
theorem dX8_digit_52 : decode cX8_digit 52 = .ok (.ifCond .eq 7, 3) := by decide +kernel
theorem dX8_digit_55 : decode cX8_digit 55 = .ok (.iconst 1, 1) := by decide +kernel
theorem dX8_digit_56 : decode cX8_digit 56 = .ok (.goto 4, 3) := by decide +kernel
theorem dX8_digit_59 : decode cX8_digit 59 = .ok (.iconst 0, 1) := by decide +kernel
theorem dX8_digit_60 : decode cX8_digit 60 = .ok (.invokevirtual 121, 3) := by decide +kernel
theorem dX8_digit_63 : decode cX8_digit 63 = .ok (.aload_n 0, 1) := by decide +kernel
theorem dX8_digit_64 : decode cX8_digit 64 = .ok (.getfield 115, 3) := by decide +kernel
theorem dX8_digit_67 : decode cX8_digit 67 = .ok (.ifCond .eq 7, 3) := by decide +kernel
theorem dX8_digit_70 : decode cX8_digit 70 = .ok (.iload_n 3, 1) := by decide +kernel
theorem dX8_digit_71 : decode cX8_digit 71 = .ok (.goto 4, 3) := by decide +kernel
theorem dX8_digit_74 : decode cX8_digit 74 = .ok (.iload_n 1, 1) := by decide +kernel
theorem dX8_digit_75 : decode cX8_digit 75 = .ok (.ireturn, 1) := by decide +kernel
set_option maxRecDepth 20000 in
theorem ggX8_signed_X8_isNext : GoodIn wsX8_signed wsX8_isNext := goodIn_r _ [5, 6, 7, 8, 22, 23, 24, 25, 26, 27, 28, 29, 30, 31, 32, 33, 34, 35, 36, 37] (by decide +kernel) (by decide +kernel)
set_option maxRecDepth 20000 in
theorem gX8_signed_X8_isNext : GoodIn wsX8_signed (wsV RX8 125 RX8 yX8_isNext wsX8_isNext) := goodIn_app (goodIn_of _ (by decide +kernel)) ggX8_signed_X8_isNext
set_option maxRecDepth 20000 in
theorem ggX8_signed_X8_accept : GoodIn wsX8_signed wsX8_accept := goodIn_r _ [12, 13, 6, 22, 23, 24, 25, 26, 27, 28, 29, 30, 31, 32, 33, 34, 35, 36, 37] (by decide +kernel) (by decide +kernel)
set_option maxRecDepth 20000 in
theorem gX8_signed_X8_accept : GoodIn wsX8_signed (wsV RX8 121 RX8 yX8_accept wsX8_accept) := goodIn_app (goodIn_of _ (by decide +kernel)) ggX8_signed_X8_accept
set_option maxRecDepth 20000 in
theorem ggX8_signed_X8_digit : GoodIn wsX8_signed wsX8_digit := goodIn_r _ [17, 6, 7, 8, 18, 13, 19, 20, 4, 21, 9, 10, 11, 12, 22, 23, 24, 25, 26, 27, 28, 29, 30, 31, 32, 33, 34, 35, 36, 37] (by decide +kernel) (by decide +kernel)
set_option maxRecDepth 20000 in
theorem gX8_signed_X8_digit : GoodIn wsX8_signed (wsV RX8 128 RX8 yX8_digit wsX8_digit) := goodIn_app (goodIn_of _ (by decide +kernel)) ggX8_signed_X8_digit
theorem dX8_signed_0 : decode cX8_signed 0 = .ok (.aload_n 0, 1) := by decide +kernel
theorem dX8_signed_1 : decode cX8_signed 1 = .ok (.bipush 45, 2) := by decide +kernel
theorem dX8_signed_3 : decode cX8_signed 3 = .ok (.invokevirtual 125, 3) := by decide +kernel
theorem dX8_signed_6 : decode cX8_signed 6 = .ok (.istore_n 2, 1) := by decide +kernel
theorem dX8_signed_7 : decode cX8_signed 7 = .ok (.aload_n 0, 1) := by decide +kernel
theorem dX8_signed_8 : decode cX8_signed 8 = .ok (.iload_n 2, 1) := by decide +kernel
theorem dX8_signed_9 : decode cX8_signed 9 = .ok (.ifCond .ne 12, 3) := by decide +kernel
theorem dX8_signed_12 : decode cX8_signed 12 = .ok (.aload_n 0, 1) := by decide +kernel
theorem dX8_signed_13 : decode cX8_signed 13 = .ok (.bipush 43, 2) := by decide +kernel
theorem dX8_signed_15 : decode cX8_signed 15 = .ok (.invokevirtual 125, 3) := by decide +kernel
theorem dX8_signed_18 : decode cX8_signed 18 = .ok (.ifCond .eq 7, 3) := by decide +kernel
theorem dX8_signed_21 : decode cX8_signed 21 = .ok (.iconst 1, 1) := by decide +kernel
theorem dX8_signed_22 : decode cX8_signed 22 = .ok (.goto 4, 3) := by decide +kernel
theorem dX8_signed_25 : decode cX8_signed 25 = .ok (.iconst 0, 1) := by decide +kernel
theorem dX8_signed_26 : decode cX8_signed 26 = .ok (.invokevirtual 121, 3) := by decide +kernel
theorem dX8_signed_29 : decode cX8_signed 29 = .ok (.aload_n 0, 1) := by decide +kernel
theorem dX8_signed_30 : decode cX8_signed 30 = .ok (.iconst 0, 1) := by decide +kernel
theorem dX8_signed_31 : decode cX8_signed 31 = .ok (.iload_n 1, 1) := by decide +kernel
theorem dX8_signed_32 : decode cX8_signed 32 = .ok (.invokevirtual 128, 3) := by decide +kernel
theorem dX8_signed_35 : decode cX8_signed 35 = .ok (.istore_n 3, 1) := by decide +kernel
theorem dX8_signed_36 : decode cX8_signed 36 = .ok (.bipush 10, 2) := by decide +kernel
theorem dX8_signed_38 : decode cX8_signed 38 = .ok (.iload_n 3, 1) := by decide +kernel
theorem dX8_signed_39 : decode cX8_signed 39 = .ok (.imul, 1) := by decide +kernel
theorem dX8_signed_40 : decode cX8_signed 40 = .ok (.aload_n 0, 1) := by decide +kernel
theorem dX8_signed_41 : decode cX8_signed 41 = .ok (.iconst 0, 1) := by decide +kernel
theorem dX8_signed_42 : decode cX8_signed 42 = .ok (.bipush 9, 2) := by decide +kernel
theorem dX8_signed_44 : decode cX8_signed 44 = .ok (.invokevirtual 128, 3) := by decide +kernel
theorem dX8_signed_47 : decode cX8_signed 47 = .ok (.iadd, 1) := by decide +kernel
theorem dX8_signed_48 : decode cX8_signed 48 = .ok (.istore 4, 2) := by decide +kernel
theorem dX8_signed_50 : decode cX8_signed 50 = .ok (.iload_n 2, 1) := by decide +kernel
theorem dX8_signed_51 : decode cX8_signed 51 = .ok (.ifCond .eq 9, 3) := by decide +kernel
theorem dX8_signed_54 : decode cX8_signed 54 = .ok (.iload 4, 2) := by decide +kernel
theorem dX8_signed_56 : decode cX8_signed 56 = .ok (.ineg, 1) := by decide +kernel
theorem dX8_signed_57 : decode cX8_signed 57 = .ok (.goto 5, 3) := by decide +kernel
theorem dX8_signed_60 : decode cX8_signed 60 = .ok (.iload 4, 2) := by decide +kernel
theorem dX8_signed_62 : decode cX8_signed 62 = .ok (.ireturn, 1) := by decide +kernel
theorem dX8_goes_0 : decode cX8_goes 0 = .ok (.aload_n 0, 1) := by decide +kernel
theorem dX8_goes_1 : decode cX8_goes 1 = .ok (.dup, 1) := by decide +kernel
theorem dX8_goes_2 : decode cX8_goes 2 = .ok (.getfield 131, 3) := by decide +kernel
theorem dX8_goes_5 : decode cX8_goes 5 = .ok (.aload_n 0, 1) := by decide +kernel
theorem dX8_goes_6 : decode cX8_goes 6 = .ok (.getfield 115, 3) := by decide +kernel
theorem dX8_goes_9 : decode cX8_goes 9 = .ok (.ifCond .eq 11, 3) := by decide +kernel
theorem dX8_goes_12 : decode cX8_goes 12 = .ok (.iload_n 1, 1) := by decide +kernel
theorem dX8_goes_13 : decode cX8_goes 13 = .ok (.ifCond .ne 7, 3) := by decide +kernel
theorem dX8_goes_16 : decode cX8_goes 16 = .ok (.iconst 1, 1) := by decide +kernel
theorem dX8_goes_17 : decode cX8_goes 17 = .ok (.goto 4, 3) := by decide +kernel
theorem dX8_goes_20 : decode cX8_goes 20 = .ok (.iconst 0, 1) := by decide +kernel
theorem dX8_goes_21 : decode cX8_goes 21 = .ok (.iadd, 1) := by decide +kernel
theorem dX8_goes_22 : decode cX8_goes 22 = .ok (.putfield 131, 3) := by decide +kernel
theorem dX8_goes_25 : decode cX8_goes 25 = .ok (.aload_n 0, 1) := by decide +kernel
theorem dX8_goes_26 : decode cX8_goes 26 = .ok (.getfield 115, 3) := by decide +kernel
theorem dX8_goes_29 : decode cX8_goes 29 = .ok (.ifCond .eq 11, 3) := by decide +kernel
theorem dX8_goes_32 : decode cX8_goes 32 = .ok (.iload_n 1, 1) := by decide +kernel
theorem dX8_goes_33 : decode cX8_goes 33 = .ok (.ifCond .eq 7, 3) := by decide +kernel
theorem dX8_goes_36 : decode cX8_goes 36 = .ok (.iconst 1, 1) := by decide +kernel
theorem dX8_goes_37 : decode cX8_goes 37 = .ok (.goto 4, 3) := by decide +kernel
theorem dX8_goes_40 : decode cX8_goes 40 = .ok (.iconst 0, 1) := by decide +kernel
theorem dX8_goes_41 : decode cX8_goes 41 = .ok (.ireturn, 1) := by decide +kernel
theorem dX8_isRead_0 : decode cX8_isRead 0 = .ok (.iload_n 1, 1) := by decide +kernel
theorem dX8_isRead_1 : decode cX8_isRead 1 = .ok (.aload_n 0, 1) := by decide +kernel
theorem dX8_isRead_2 : decode cX8_isRead 2 = .ok (.getfield 13, 3) := by decide +kernel
theorem dX8_isRead_5 : decode cX8_isRead 5 = .ok (.iconst 0, 1) := by decide +kernel
theorem dX8_isRead_6 : decode cX8_isRead 6 = .ok (.iaload, 1) := by decide +kernel
theorem dX8_isRead_7 : decode cX8_isRead 7 = .ok (.if_icmp .ge 7, 3) := by decide +kernel
theorem dX8_isRead_10 : decode cX8_isRead 10 = .ok (.iconst 1, 1) := by decide +kernel
theorem dX8_isRead_11 : decode cX8_isRead 11 = .ok (.goto 4, 3) := by decide +kernel
theorem dX8_isRead_14 : decode cX8_isRead 14 = .ok (.iconst 0, 1) := by decide +kernel
theorem dX8_isRead_15 : decode cX8_isRead 15 = .ok (.ireturn, 1) := by decide +kernel
set_option maxRecDepth 20000 in
theorem ggX8_readPart_X8_signed : GoodIn wsX8_readPart wsX8_signed := goodIn_r _ [6, 7, 8, 9, 5, 10, 11, 12, 13, 14, 15, 16, 17, 18, 19, 20, 21, 22, 23, 24, 25, 26, 38, 39, 40, 41, 42, 43, 44, 45, 46, 47, 48, 49, 50, 51, 52, 53] (by decide +kernel) (by decide +kernel)
set_option maxRecDepth 20000 in
theorem gX8_readPart_X8_signed : GoodIn wsX8_readPart (wsV RX8 134 RX8 yX8_signed wsX8_signed) := goodIn_app (goodIn_of _ (by decide +kernel)) ggX8_readPart_X8_signed
set_option maxRecDepth 20000 in
theorem ggX8_readPart_X8_goes : GoodIn wsX8_readPart wsX8_goes := goodIn_r _ [30, 31, 18, 38, 39, 40, 41, 42, 43, 44, 45, 46, 47, 48, 49, 50, 51, 52, 53] (by decide +kernel) (by decide +kernel)
set_option maxRecDepth 20000 in
theorem gX8_readPart_X8_goes : GoodIn wsX8_readPart (wsV RX8 137 RX8 yX8_goes wsX8_goes) := goodIn_app (goodIn_of _ (by decide +kernel)) ggX8_readPart_X8_goes
set_option maxRecDepth 20000 in
theorem ggX8_readPart_X8_addIn : GoodIn wsX8_readPart wsX8_addIn := goodIn_r _ [34, 35, 36, 5, 37] (by decide +kernel) (by decide +kernel)
set_option maxRecDepth 20000 in
theorem gX8_readPart_X8_addIn : GoodIn wsX8_readPart (va_wsS RX8 141 yX8_addIn wsX8_addIn) := goodIn_app (goodIn_of _ (by decide +kernel)) ggX8_readPart_X8_addIn
theorem dX8_readPart_0 : decode cX8_readPart 0 = .ok (.aload_n 0, 1) := by decide +kernel
theorem dX8_readPart_1 : decode cX8_readPart 1 = .ok (.iconst 0, 1) := by decide +kernel
theorem dX8_readPart_2 : decode cX8_readPart 2 = .ok (.invokevirtual 134, 3) := by decide +kernel
theorem dX8_readPart_5 : decode cX8_readPart 5 = .ok (.istore_n 1, 1) := by decide +kernel
theorem dX8_readPart_6 : decode cX8_readPart 6 = .ok (.aload_n 0, 1) := by decide +kernel
theorem dX8_readPart_7 : decode cX8_readPart 7 = .ok (.bipush 9, 2) := by decide +kernel
theorem dX8_readPart_9 : decode cX8_readPart 9 = .ok (.invokevirtual 134, 3) := by decide +kernel
theorem dX8_readPart_12 : decode cX8_readPart 12 = .ok (.istore_n 2, 1) := by decide +kernel
theorem dX8_readPart_13 : decode cX8_readPart 13 = .ok (.aload_n 0, 1) := by decide +kernel
theorem dX8_readPart_14 : decode cX8_readPart 14 = .ok (.aload_n 0, 1) := by decide +kernel
theorem dX8_readPart_15 : decode cX8_readPart 15 = .ok (.getfield 13, 3) := by decide +kernel
theorem dX8_readPart_18 : decode cX8_readPart 18 = .ok (.iconst 0, 1) := by decide +kernel
theorem dX8_readPart_19 : decode cX8_readPart 19 = .ok (.iaload, 1) := by decide +kernel
theorem dX8_readPart_20 : decode cX8_readPart 20 = .ok (.bipush 10, 2) := by decide +kernel
theorem dX8_readPart_22 : decode cX8_readPart 22 = .ok (.if_icmp .ge 7, 3) := by decide +kernel
theorem dX8_readPart_25 : decode cX8_readPart 25 = .ok (.iconst 1, 1) := by decide +kernel
theorem dX8_readPart_26 : decode cX8_readPart 26 = .ok (.goto 4, 3) := by decide +kernel
theorem dX8_readPart_29 : decode cX8_readPart 29 = .ok (.iconst 0, 1) := by decide +kernel
theorem dX8_readPart_30 : decode cX8_readPart 30 = .ok (.invokevirtual 137, 3) := by decide +kernel
theorem dX8_readPart_33 : decode cX8_readPart 33 = .ok (.ifCond .eq 12, 3) := by decide +kernel
theorem dX8_readPart_36 : decode cX8_readPart 36 = .ok (.aload_n 0, 1) := by decide +kernel
theorem dX8_readPart_37 : decode cX8_readPart 37 = .ok (.getfield 13, 3) := by decide +kernel
theorem dX8_readPart_40 : decode cX8_readPart 40 = .ok (.iload_n 1, 1) := by decide +kernel
theorem dX8_readPart_41 : decode cX8_readPart 41 = .ok (.iload_n 2, 1) := by decide +kernel
theorem dX8_readPart_42 : decode cX8_readPart 42 = .ok (.invokestatic 141, 3) := by decide +kernel
theorem dX8_readPart_45 : decode cX8_readPart 45 = .ok (.return_, 1) := by decide +kernel
set_option maxRecDepth 20000 in
theorem ggX8_readChain_X8_digit : GoodIn wsX8_readChain wsX8_digit := goodIn_r _ [6, 7, 8, 9, 10, 11, 12, 13, 5, 14, 15, 16, 17, 18, 42, 43, 44, 45, 46, 47, 48, 49, 50, 51, 52, 53, 54, 55, 56, 57] (by decide +kernel) (by decide +kernel)
set_option maxRecDepth 20000 in
theorem gX8_readChain_X8_digit : GoodIn wsX8_readChain (wsV RX8 128 RX8 yX8_digit wsX8_digit) := goodIn_app (goodIn_of _ (by decide +kernel)) ggX8_readChain_X8_digit
set_option maxRecDepth 20000 in
theorem ggX8_readChain_X8_signed : GoodIn wsX8_readChain wsX8_signed := goodIn_r _ [22, 23, 24, 25, 5, 26, 7, 8, 9, 15, 16, 17, 18, 11, 2, 3, 4, 6, 10, 12, 13, 14, 42, 43, 44, 45, 46, 47, 48, 49, 50, 51, 52, 53, 54, 55, 56, 57] (by decide +kernel) (by decide +kernel)
set_option maxRecDepth 20000 in
theorem gX8_readChain_X8_signed : GoodIn wsX8_readChain (wsV RX8 134 RX8 yX8_signed wsX8_signed) := goodIn_app (goodIn_of _ (by decide +kernel)) ggX8_readChain_X8_signed
set_option maxRecDepth 20000 in
theorem ggX8_readChain_X8_isRead : GoodIn wsX8_readChain wsX8_isRead := goodIn_r _ [30, 1, 42, 43, 44, 45, 46, 47, 48, 49, 50, 51, 52, 53, 54, 55, 56, 57] (by decide +kernel) (by decide +kernel)
set_option maxRecDepth 20000 in
theorem gX8_readChain_X8_isRead : GoodIn wsX8_readChain (wsV RX8 145 RX8 yX8_isRead wsX8_isRead) := goodIn_app (goodIn_of _ (by decide +kernel)) ggX8_readChain_X8_isRead
set_option maxRecDepth 20000 in
theorem ggX8_readChain_X8_goes : GoodIn wsX8_readChain wsX8_goes := goodIn_r _ [34, 35, 11, 42, 43, 44, 45, 46, 47, 48, 49, 50, 51, 52, 53, 54, 55, 56, 57] (by decide +kernel) (by decide +kernel)
set_option maxRecDepth 20000 in
theorem gX8_readChain_X8_goes : GoodIn wsX8_readChain (wsV RX8 137 RX8 yX8_goes wsX8_goes) := goodIn_app (goodIn_of _ (by decide +kernel)) ggX8_readChain_X8_goes
set_option maxRecDepth 20000 in
theorem ggX8_readChain_X8_chainIn : GoodIn wsX8_readChain wsX8_chainIn := goodIn_r _ [38, 39, 40, 5, 41] (by decide +kernel) (by decide +kernel)
set_option maxRecDepth 20000 in
theorem gX8_readChain_X8_chainIn : GoodIn wsX8_readChain (va_wsS RX8 148 yX8_chainIn wsX8_chainIn) := goodIn_app (goodIn_of _ (by decide +kernel)) ggX8_readChain_X8_chainIn
theorem dX8_readChain_0 : decode cX8_readChain 0 = .ok (.aload_n 0, 1) := by decide +kernel
theorem dX8_readChain_1 : decode cX8_readChain 1 = .ok (.iconst 0, 1) := by decide +kernel
theorem dX8_readChain_2 : decode cX8_readChain 2 = .ok (.bipush 9, 2) := by decide +kernel
theorem dX8_readChain_4 : decode cX8_readChain 4 = .ok (.invokevirtual 128, 3) := by decide +kernel
theorem dX8_readChain_7 : decode cX8_readChain 7 = .ok (.istore_n 1, 1) := by decide +kernel
theorem dX8_readChain_8 : decode cX8_readChain 8 = .ok (.aload_n 0, 1) := by decide +kernel
theorem dX8_readChain_9 : decode cX8_readChain 9 = .ok (.iconst 0, 1) := by decide +kernel
theorem dX8_readChain_10 : decode cX8_readChain 10 = .ok (.bipush 9, 2) := by decide +kernel
theorem dX8_readChain_12 : decode cX8_readChain 12 = .ok (.invokevirtual 128, 3) := by decide +kernel
theorem dX8_readChain_15 : decode cX8_readChain 15 = .ok (.istore_n 2, 1) := by decide +kernel
theorem dX8_readChain_16 : decode cX8_readChain 16 = .ok (.aload_n 0, 1) := by decide +kernel
theorem dX8_readChain_17 : decode cX8_readChain 17 = .ok (.bipush 9, 2) := by decide +kernel
theorem dX8_readChain_19 : decode cX8_readChain 19 = .ok (.invokevirtual 134, 3) := by decide +kernel
theorem dX8_readChain_22 : decode cX8_readChain 22 = .ok (.istore_n 3, 1) := by decide +kernel
theorem dX8_readChain_23 : decode cX8_readChain 23 = .ok (.aload_n 0, 1) := by decide +kernel
theorem dX8_readChain_24 : decode cX8_readChain 24 = .ok (.aload_n 0, 1) := by decide +kernel
theorem dX8_readChain_25 : decode cX8_readChain 25 = .ok (.iload_n 1, 1) := by decide +kernel
theorem dX8_readChain_26 : decode cX8_readChain 26 = .ok (.invokevirtual 145, 3) := by decide +kernel
theorem dX8_readChain_29 : decode cX8_readChain 29 = .ok (.ifCond .eq 12, 3) := by decide +kernel
theorem dX8_readChain_32 : decode cX8_readChain 32 = .ok (.iload_n 2, 1) := by decide +kernel
theorem dX8_readChain_33 : decode cX8_readChain 33 = .ok (.iload_n 1, 1) := by decide +kernel
theorem dX8_readChain_34 : decode cX8_readChain 34 = .ok (.if_icmp .ge 7, 3) := by decide +kernel
theorem dX8_readChain_37 : decode cX8_readChain 37 = .ok (.iconst 1, 1) := by decide +kernel
theorem dX8_readChain_38 : decode cX8_readChain 38 = .ok (.goto 4, 3) := by decide +kernel
theorem dX8_readChain_41 : decode cX8_readChain 41 = .ok (.iconst 0, 1) := by decide +kernel
theorem dX8_readChain_42 : decode cX8_readChain 42 = .ok (.invokevirtual 137, 3) := by decide +kernel
theorem dX8_readChain_45 : decode cX8_readChain 45 = .ok (.ifCond .eq 13, 3) := by decide +kernel
theorem dX8_readChain_48 : decode cX8_readChain 48 = .ok (.aload_n 0, 1) := by decide +kernel
theorem dX8_readChain_49 : decode cX8_readChain 49 = .ok (.getfield 13, 3) := by decide +kernel
theorem dX8_readChain_52 : decode cX8_readChain 52 = .ok (.iload_n 1, 1) := by decide +kernel
theorem dX8_readChain_53 : decode cX8_readChain 53 = .ok (.iload_n 2, 1) := by decide +kernel
theorem dX8_readChain_54 : decode cX8_readChain 54 = .ok (.iload_n 3, 1) := by decide +kernel
theorem dX8_readChain_55 : decode cX8_readChain 55 = .ok (.invokestatic 148, 3) := by decide +kernel
theorem dX8_readChain_58 : decode cX8_readChain 58 = .ok (.return_, 1) := by decide +kernel
set_option maxRecDepth 20000 in
theorem ggX8_readOwn_X8_digit : GoodIn wsX8_readOwn wsX8_digit := goodIn_r _ [6, 7, 8, 9, 10, 11, 12, 13, 5, 14, 15, 16, 17, 18, 42, 43, 44, 45, 46, 47, 48, 49, 50, 51, 52, 53, 54, 55, 56, 57] (by decide +kernel) (by decide +kernel)
set_option maxRecDepth 20000 in
theorem gX8_readOwn_X8_digit : GoodIn wsX8_readOwn (wsV RX8 128 RX8 yX8_digit wsX8_digit) := goodIn_app (goodIn_of _ (by decide +kernel)) ggX8_readOwn_X8_digit
set_option maxRecDepth 20000 in
theorem ggX8_readOwn_X8_signed : GoodIn wsX8_readOwn wsX8_signed := goodIn_r _ [22, 23, 24, 25, 5, 26, 7, 8, 9, 15, 16, 17, 18, 11, 2, 3, 4, 6, 10, 12, 13, 14, 42, 43, 44, 45, 46, 47, 48, 49, 50, 51, 52, 53, 54, 55, 56, 57] (by decide +kernel) (by decide +kernel)
set_option maxRecDepth 20000 in
theorem gX8_readOwn_X8_signed : GoodIn wsX8_readOwn (wsV RX8 134 RX8 yX8_signed wsX8_signed) := goodIn_app (goodIn_of _ (by decide +kernel)) ggX8_readOwn_X8_signed
set_option maxRecDepth 20000 in
theorem ggX8_readOwn_X8_isRead : GoodIn wsX8_readOwn wsX8_isRead := goodIn_r _ [30, 1, 42, 43, 44, 45, 46, 47, 48, 49, 50, 51, 52, 53, 54, 55, 56, 57] (by decide +kernel) (by decide +kernel)
set_option maxRecDepth 20000 in
theorem gX8_readOwn_X8_isRead : GoodIn wsX8_readOwn (wsV RX8 145 RX8 yX8_isRead wsX8_isRead) := goodIn_app (goodIn_of _ (by decide +kernel)) ggX8_readOwn_X8_isRead
set_option maxRecDepth 20000 in
theorem ggX8_readOwn_X8_goes : GoodIn wsX8_readOwn wsX8_goes := goodIn_r _ [34, 35, 11, 42, 43, 44, 45, 46, 47, 48, 49, 50, 51, 52, 53, 54, 55, 56, 57] (by decide +kernel) (by decide +kernel)
set_option maxRecDepth 20000 in
theorem gX8_readOwn_X8_goes : GoodIn wsX8_readOwn (wsV RX8 137 RX8 yX8_goes wsX8_goes) := goodIn_app (goodIn_of _ (by decide +kernel)) ggX8_readOwn_X8_goes
set_option maxRecDepth 20000 in
theorem ggX8_readOwn_X8_promise : GoodIn wsX8_readOwn wsX8_promise := goodIn_r _ [38, 39, 40, 5, 41] (by decide +kernel) (by decide +kernel)
set_option maxRecDepth 20000 in
theorem gX8_readOwn_X8_promise : GoodIn wsX8_readOwn (va_wsS RX8 152 yX8_promise wsX8_promise) := goodIn_app (goodIn_of _ (by decide +kernel)) ggX8_readOwn_X8_promise
theorem dX8_readOwn_0 : decode cX8_readOwn 0 = .ok (.aload_n 0, 1) := by decide +kernel
theorem dX8_readOwn_1 : decode cX8_readOwn 1 = .ok (.iconst 0, 1) := by decide +kernel
theorem dX8_readOwn_2 : decode cX8_readOwn 2 = .ok (.bipush 9, 2) := by decide +kernel
theorem dX8_readOwn_4 : decode cX8_readOwn 4 = .ok (.invokevirtual 128, 3) := by decide +kernel
theorem dX8_readOwn_7 : decode cX8_readOwn 7 = .ok (.istore_n 1, 1) := by decide +kernel
theorem dX8_readOwn_8 : decode cX8_readOwn 8 = .ok (.aload_n 0, 1) := by decide +kernel
theorem dX8_readOwn_9 : decode cX8_readOwn 9 = .ok (.bipush 9, 2) := by decide +kernel
theorem dX8_readOwn_11 : decode cX8_readOwn 11 = .ok (.invokevirtual 134, 3) := by decide +kernel
theorem dX8_readOwn_14 : decode cX8_readOwn 14 = .ok (.istore_n 2, 1) := by decide +kernel
theorem dX8_readOwn_15 : decode cX8_readOwn 15 = .ok (.aload_n 0, 1) := by decide +kernel
theorem dX8_readOwn_16 : decode cX8_readOwn 16 = .ok (.bipush 9, 2) := by decide +kernel
theorem dX8_readOwn_18 : decode cX8_readOwn 18 = .ok (.invokevirtual 134, 3) := by decide +kernel
theorem dX8_readOwn_21 : decode cX8_readOwn 21 = .ok (.istore_n 3, 1) := by decide +kernel
theorem dX8_readOwn_22 : decode cX8_readOwn 22 = .ok (.aload_n 0, 1) := by decide +kernel
theorem dX8_readOwn_23 : decode cX8_readOwn 23 = .ok (.bipush 9, 2) := by decide +kernel
theorem dX8_readOwn_25 : decode cX8_readOwn 25 = .ok (.invokevirtual 134, 3) := by decide +kernel
theorem dX8_readOwn_28 : decode cX8_readOwn 28 = .ok (.istore 4, 2) := by decide +kernel
theorem dX8_readOwn_30 : decode cX8_readOwn 30 = .ok (.aload_n 0, 1) := by decide +kernel
theorem dX8_readOwn_31 : decode cX8_readOwn 31 = .ok (.bipush 9, 2) := by decide +kernel
theorem dX8_readOwn_33 : decode cX8_readOwn 33 = .ok (.invokevirtual 134, 3) := by decide +kernel
theorem dX8_readOwn_36 : decode cX8_readOwn 36 = .ok (.istore 5, 2) := by decide +kernel
theorem dX8_readOwn_38 : decode cX8_readOwn 38 = .ok (.aload_n 0, 1) := by decide +kernel
theorem dX8_readOwn_39 : decode cX8_readOwn 39 = .ok (.aload_n 0, 1) := by decide +kernel
theorem dX8_readOwn_40 : decode cX8_readOwn 40 = .ok (.iload_n 1, 1) := by decide +kernel
theorem dX8_readOwn_41 : decode cX8_readOwn 41 = .ok (.invokevirtual 145, 3) := by decide +kernel
theorem dX8_readOwn_44 : decode cX8_readOwn 44 = .ok (.ifCond .eq 19, 3) := by decide +kernel
theorem dX8_readOwn_47 : decode cX8_readOwn 47 = .ok (.iload_n 2, 1) := by decide +kernel
theorem dX8_readOwn_48 : decode cX8_readOwn 48 = .ok (.iload_n 3, 1) := by decide +kernel
theorem dX8_readOwn_49 : decode cX8_readOwn 49 = .ok (.if_icmp .gt 14, 3) := by decide +kernel
theorem dX8_readOwn_52 : decode cX8_readOwn 52 = .ok (.iload 4, 2) := by decide +kernel
theorem dX8_readOwn_54 : decode cX8_readOwn 54 = .ok (.iload 5, 2) := by decide +kernel
theorem dX8_readOwn_56 : decode cX8_readOwn 56 = .ok (.if_icmp .gt 7, 3) := by decide +kernel
theorem dX8_readOwn_59 : decode cX8_readOwn 59 = .ok (.iconst 1, 1) := by decide +kernel
theorem dX8_readOwn_60 : decode cX8_readOwn 60 = .ok (.goto 4, 3) := by decide +kernel
theorem dX8_readOwn_63 : decode cX8_readOwn 63 = .ok (.iconst 0, 1) := by decide +kernel
theorem dX8_readOwn_64 : decode cX8_readOwn 64 = .ok (.invokevirtual 137, 3) := by decide +kernel
theorem dX8_readOwn_67 : decode cX8_readOwn 67 = .ok (.ifCond .eq 18, 3) := by decide +kernel
theorem dX8_readOwn_70 : decode cX8_readOwn 70 = .ok (.aload_n 0, 1) := by decide +kernel
theorem dX8_readOwn_71 : decode cX8_readOwn 71 = .ok (.getfield 13, 3) := by decide +kernel
theorem dX8_readOwn_74 : decode cX8_readOwn 74 = .ok (.iconst 0, 1) := by decide +kernel
theorem dX8_readOwn_75 : decode cX8_readOwn 75 = .ok (.iload_n 1, 1) := by decide +kernel
theorem dX8_readOwn_76 : decode cX8_readOwn 76 = .ok (.iload_n 2, 1) := by decide +kernel
theorem dX8_readOwn_77 : decode cX8_readOwn 77 = .ok (.iload_n 3, 1) := by decide +kernel
theorem dX8_readOwn_78 : decode cX8_readOwn 78 = .ok (.iload 4, 2) := by decide +kernel
theorem dX8_readOwn_80 : decode cX8_readOwn 80 = .ok (.iload 5, 2) := by decide +kernel
theorem dX8_readOwn_82 : decode cX8_readOwn 82 = .ok (.invokestatic 152, 3) := by decide +kernel
theorem dX8_readOwn_85 : decode cX8_readOwn 85 = .ok (.return_, 1) := by decide +kernel
set_option maxRecDepth 20000 in
theorem ggX8_readCall_X8_signed : GoodIn wsX8_readCall wsX8_signed := goodIn_r _ [6, 7, 8, 9, 5, 10, 11, 12, 13, 14, 15, 16, 17, 18, 19, 20, 21, 22, 23, 24, 25, 26, 75, 76, 77, 78, 79, 80, 81, 82, 83, 84, 85, 86, 87, 88, 89, 90] (by decide +kernel) (by decide +kernel)
set_option maxRecDepth 20000 in
theorem gX8_readCall_X8_signed : GoodIn wsX8_readCall (wsV RX8 134 RX8 yX8_signed wsX8_signed) := goodIn_app (goodIn_of _ (by decide +kernel)) ggX8_readCall_X8_signed
set_option maxRecDepth 20000 in
theorem ggX8_readCall_X8_goes : GoodIn wsX8_readCall wsX8_goes := goodIn_r _ [30, 31, 18, 75, 76, 77, 78, 79, 80, 81, 82, 83, 84, 85, 86, 87, 88, 89, 90] (by decide +kernel) (by decide +kernel)
set_option maxRecDepth 20000 in
theorem gX8_readCall_X8_goes : GoodIn wsX8_readCall (wsV RX8 137 RX8 yX8_goes wsX8_goes) := goodIn_app (goodIn_of _ (by decide +kernel)) ggX8_readCall_X8_goes
set_option maxRecDepth 20000 in
theorem ggX8_readCall_X8_callIn : GoodIn wsX8_readCall wsX8_callIn := goodIn_r _ [35, 36, 37, 38, 39, 5, 40, 41, 42, 43, 44, 45, 46, 47, 48, 49, 50, 51, 52, 53, 54, 55, 24, 25, 26, 56, 57, 58, 59, 60, 61, 62, 63, 64, 65, 66, 67, 68, 69, 70, 71, 72, 73, 74, 75, 76, 77, 78, 79, 80, 81, 82, 83, 84, 85, 86, 87, 88, 89, 90] (by decide +kernel) (by decide +kernel)
set_option maxRecDepth 20000 in
theorem gX8_readCall_X8_callIn : GoodIn wsX8_readCall (wsV RX8 156 RX8 yX8_callIn wsX8_callIn) := goodIn_app (goodIn_of _ (by decide +kernel)) ggX8_readCall_X8_callIn
theorem dX8_readCall_0 : decode cX8_readCall 0 = .ok (.aload_n 0, 1) := by decide +kernel
theorem dX8_readCall_1 : decode cX8_readCall 1 = .ok (.bipush 9, 2) := by decide +kernel
theorem dX8_readCall_3 : decode cX8_readCall 3 = .ok (.invokevirtual 134, 3) := by decide +kernel
theorem dX8_readCall_6 : decode cX8_readCall 6 = .ok (.istore_n 1, 1) := by decide +kernel
theorem dX8_readCall_7 : decode cX8_readCall 7 = .ok (.aload_n 0, 1) := by decide +kernel
theorem dX8_readCall_8 : decode cX8_readCall 8 = .ok (.aload_n 0, 1) := by decide +kernel
theorem dX8_readCall_9 : decode cX8_readCall 9 = .ok (.getfield 13, 3) := by decide +kernel
theorem dX8_readCall_12 : decode cX8_readCall 12 = .ok (.iconst 0, 1) := by decide +kernel
theorem dX8_readCall_13 : decode cX8_readCall 13 = .ok (.iaload, 1) := by decide +kernel
theorem dX8_readCall_14 : decode cX8_readCall 14 = .ok (.ifCond .le 7, 3) := by decide +kernel
theorem dX8_readCall_17 : decode cX8_readCall 17 = .ok (.iconst 1, 1) := by decide +kernel
theorem dX8_readCall_18 : decode cX8_readCall 18 = .ok (.goto 4, 3) := by decide +kernel
theorem dX8_readCall_21 : decode cX8_readCall 21 = .ok (.iconst 0, 1) := by decide +kernel
theorem dX8_readCall_22 : decode cX8_readCall 22 = .ok (.invokevirtual 137, 3) := by decide +kernel
theorem dX8_readCall_25 : decode cX8_readCall 25 = .ok (.ifCond .eq 21, 3) := by decide +kernel
theorem dX8_readCall_28 : decode cX8_readCall 28 = .ok (.aload_n 0, 1) := by decide +kernel
theorem dX8_readCall_29 : decode cX8_readCall 29 = .ok (.aload_n 0, 1) := by decide +kernel
theorem dX8_readCall_30 : decode cX8_readCall 30 = .ok (.getfield 13, 3) := by decide +kernel
theorem dX8_readCall_33 : decode cX8_readCall 33 = .ok (.aload_n 0, 1) := by decide +kernel
theorem dX8_readCall_34 : decode cX8_readCall 34 = .ok (.getfield 13, 3) := by decide +kernel
theorem dX8_readCall_37 : decode cX8_readCall 37 = .ok (.iconst 0, 1) := by decide +kernel
theorem dX8_readCall_38 : decode cX8_readCall 38 = .ok (.iaload, 1) := by decide +kernel
theorem dX8_readCall_39 : decode cX8_readCall 39 = .ok (.iconst 1, 1) := by decide +kernel
theorem dX8_readCall_40 : decode cX8_readCall 40 = .ok (.isub, 1) := by decide +kernel
theorem dX8_readCall_41 : decode cX8_readCall 41 = .ok (.iload_n 1, 1) := by decide +kernel
theorem dX8_readCall_42 : decode cX8_readCall 42 = .ok (.invokevirtual 156, 3) := by decide +kernel
theorem dX8_readCall_45 : decode cX8_readCall 45 = .ok (.pop, 1) := by decide +kernel
theorem dX8_readCall_46 : decode cX8_readCall 46 = .ok (.return_, 1) := by decide +kernel
set_option maxRecDepth 20000 in
theorem ggX8_readDrop_X8_digit : GoodIn wsX8_readDrop wsX8_digit := goodIn_r _ [6, 7, 8, 9, 10, 11, 12, 13, 5, 14, 15, 16, 17, 18, 34, 35, 36, 37, 38, 39, 40, 41, 42, 43, 44, 45, 46, 47, 48, 49] (by decide +kernel) (by decide +kernel)
set_option maxRecDepth 20000 in
theorem gX8_readDrop_X8_digit : GoodIn wsX8_readDrop (wsV RX8 128 RX8 yX8_digit wsX8_digit) := goodIn_app (goodIn_of _ (by decide +kernel)) ggX8_readDrop_X8_digit
set_option maxRecDepth 20000 in
theorem ggX8_readDrop_X8_isRead : GoodIn wsX8_readDrop wsX8_isRead := goodIn_r _ [22, 1, 34, 35, 36, 37, 38, 39, 40, 41, 42, 43, 44, 45, 46, 47, 48, 49] (by decide +kernel) (by decide +kernel)
set_option maxRecDepth 20000 in
theorem gX8_readDrop_X8_isRead : GoodIn wsX8_readDrop (wsV RX8 145 RX8 yX8_isRead wsX8_isRead) := goodIn_app (goodIn_of _ (by decide +kernel)) ggX8_readDrop_X8_isRead
set_option maxRecDepth 20000 in
theorem ggX8_readDrop_X8_hasContract : GoodIn wsX8_readDrop wsX8_hasContract := goodIn_r _ [25, 26, 27, 5, 28] (by decide +kernel) (by decide +kernel)
set_option maxRecDepth 20000 in
theorem gX8_readDrop_X8_hasContract : GoodIn wsX8_readDrop (va_wsS RX8 58 yX8_hasContract wsX8_hasContract) := goodIn_app (goodIn_of _ (by decide +kernel)) ggX8_readDrop_X8_hasContract
set_option maxRecDepth 20000 in
theorem ggX8_readDrop_X8_goes : GoodIn wsX8_readDrop wsX8_goes := goodIn_r _ [32, 33, 11, 34, 35, 36, 37, 38, 39, 40, 41, 42, 43, 44, 45, 46, 47, 48, 49] (by decide +kernel) (by decide +kernel)
set_option maxRecDepth 20000 in
theorem gX8_readDrop_X8_goes : GoodIn wsX8_readDrop (wsV RX8 137 RX8 yX8_goes wsX8_goes) := goodIn_app (goodIn_of _ (by decide +kernel)) ggX8_readDrop_X8_goes
set_option maxRecDepth 20000 in
theorem ggX8_readDrop_X8_contractAt : GoodIn wsX8_readDrop wsX8_contractAt := goodIn_r _ [28] (by decide +kernel) (by decide +kernel)
set_option maxRecDepth 20000 in
theorem gX8_readDrop_X8_contractAt : GoodIn wsX8_readDrop (va_wsS RX8 54 yX8_contractAt wsX8_contractAt) := goodIn_app (goodIn_of _ (by decide +kernel)) ggX8_readDrop_X8_contractAt
theorem dX8_readDrop_0 : decode cX8_readDrop 0 = .ok (.aload_n 0, 1) := by decide +kernel
theorem dX8_readDrop_1 : decode cX8_readDrop 1 = .ok (.iconst 0, 1) := by decide +kernel
theorem dX8_readDrop_2 : decode cX8_readDrop 2 = .ok (.bipush 9, 2) := by decide +kernel
theorem dX8_readDrop_4 : decode cX8_readDrop 4 = .ok (.invokevirtual 128, 3) := by decide +kernel
theorem dX8_readDrop_7 : decode cX8_readDrop 7 = .ok (.istore_n 1, 1) := by decide +kernel
theorem dX8_readDrop_8 : decode cX8_readDrop 8 = .ok (.aload_n 0, 1) := by decide +kernel
theorem dX8_readDrop_9 : decode cX8_readDrop 9 = .ok (.aload_n 0, 1) := by decide +kernel
theorem dX8_readDrop_10 : decode cX8_readDrop 10 = .ok (.iload_n 1, 1) := by decide +kernel
theorem dX8_readDrop_11 : decode cX8_readDrop 11 = .ok (.invokevirtual 145, 3) := by decide +kernel
theorem dX8_readDrop_14 : decode cX8_readDrop 14 = .ok (.ifCond .eq 19, 3) := by decide +kernel
theorem dX8_readDrop_17 : decode cX8_readDrop 17 = .ok (.aload_n 0, 1) := by decide +kernel
theorem dX8_readDrop_18 : decode cX8_readDrop 18 = .ok (.getfield 13, 3) := by decide +kernel
theorem dX8_readDrop_21 : decode cX8_readDrop 21 = .ok (.iconst 0, 1) := by decide +kernel
theorem dX8_readDrop_22 : decode cX8_readDrop 22 = .ok (.iload_n 1, 1) := by decide +kernel
theorem dX8_readDrop_23 : decode cX8_readDrop 23 = .ok (.invokestatic 58, 3) := by decide +kernel
theorem dX8_readDrop_26 : decode cX8_readDrop 26 = .ok (.ifCond .eq 7, 3) := by decide +kernel
theorem dX8_readDrop_29 : decode cX8_readDrop 29 = .ok (.iconst 1, 1) := by decide +kernel
theorem dX8_readDrop_30 : decode cX8_readDrop 30 = .ok (.goto 4, 3) := by decide +kernel
theorem dX8_readDrop_33 : decode cX8_readDrop 33 = .ok (.iconst 0, 1) := by decide +kernel
theorem dX8_readDrop_34 : decode cX8_readDrop 34 = .ok (.invokevirtual 137, 3) := by decide +kernel
theorem dX8_readDrop_37 : decode cX8_readDrop 37 = .ok (.ifCond .eq 15, 3) := by decide +kernel
theorem dX8_readDrop_40 : decode cX8_readDrop 40 = .ok (.aload_n 0, 1) := by decide +kernel
theorem dX8_readDrop_41 : decode cX8_readDrop 41 = .ok (.getfield 13, 3) := by decide +kernel
theorem dX8_readDrop_44 : decode cX8_readDrop 44 = .ok (.iconst 0, 1) := by decide +kernel
theorem dX8_readDrop_45 : decode cX8_readDrop 45 = .ok (.iload_n 1, 1) := by decide +kernel
theorem dX8_readDrop_46 : decode cX8_readDrop 46 = .ok (.iconst 0, 1) := by decide +kernel
theorem dX8_readDrop_47 : decode cX8_readDrop 47 = .ok (.invokestatic 54, 3) := by decide +kernel
theorem dX8_readDrop_50 : decode cX8_readDrop 50 = .ok (.iconst 0, 1) := by decide +kernel
theorem dX8_readDrop_51 : decode cX8_readDrop 51 = .ok (.iastore, 1) := by decide +kernel
theorem dX8_readDrop_52 : decode cX8_readDrop 52 = .ok (.return_, 1) := by decide +kernel
set_option maxRecDepth 20000 in
theorem ggX8_readCommand_X8_accept : GoodIn wsX8_readCommand wsX8_accept := goodIn_r _ [8, 3, 2, 108, 109, 110, 111, 112, 113, 114, 115, 116, 117, 118, 119, 120, 121, 122, 123] (by decide +kernel) (by decide +kernel)
set_option maxRecDepth 20000 in
theorem gX8_readCommand_X8_accept : GoodIn wsX8_readCommand (wsV RX8 121 RX8 yX8_accept wsX8_accept) := goodIn_app (goodIn_of _ (by decide +kernel)) ggX8_readCommand_X8_accept
set_option maxRecDepth 20000 in
theorem ggX8_readCommand_X8_readPart : GoodIn wsX8_readCommand wsX8_readPart := goodIn_r _ [12, 13, 14, 15, 16, 7, 17, 18, 19, 20, 21, 2, 22, 1, 4, 5, 6, 8, 3, 23, 24, 25, 26, 27, 28, 29, 30, 31, 32, 33, 34, 35, 36, 37, 38, 39, 40, 41, 108, 109, 110, 111, 112, 113, 114, 115, 116, 117, 118, 119, 120, 121, 122, 123] (by decide +kernel) (by decide +kernel)
set_option maxRecDepth 20000 in
theorem gX8_readCommand_X8_readPart : GoodIn wsX8_readCommand (wsV RX8 159 RX8 yX8_readPart wsX8_readPart) := goodIn_app (goodIn_of _ (by decide +kernel)) ggX8_readCommand_X8_readPart
set_option maxRecDepth 20000 in
theorem ggX8_readCommand_X8_readChain : GoodIn wsX8_readCommand wsX8_readChain := goodIn_r _ [45, 13, 23, 24, 25, 7, 26, 2, 22, 1, 27, 3, 28, 29, 30, 4, 5, 6, 8, 14, 15, 16, 17, 18, 19, 20, 21, 46, 47, 48, 49, 31, 32, 33, 34, 35, 50, 51, 52, 39, 40, 41, 108, 109, 110, 111, 112, 113, 114, 115, 116, 117, 118, 119, 120, 121, 122, 123] (by decide +kernel) (by decide +kernel)
set_option maxRecDepth 20000 in
theorem gX8_readCommand_X8_readChain : GoodIn wsX8_readCommand (wsV RX8 162 RX8 yX8_readChain wsX8_readChain) := goodIn_app (goodIn_of _ (by decide +kernel)) ggX8_readCommand_X8_readChain
set_option maxRecDepth 20000 in
theorem ggX8_readCommand_X8_readOwn : GoodIn wsX8_readCommand wsX8_readOwn := goodIn_r _ [56, 13, 23, 24, 25, 7, 26, 2, 22, 1, 27, 3, 28, 29, 30, 4, 5, 6, 8, 14, 15, 16, 17, 18, 19, 20, 21, 46, 47, 48, 49, 31, 32, 33, 34, 35, 57, 58, 59, 60, 61, 62, 108, 109, 110, 111, 112, 113, 114, 115, 116, 117, 118, 119, 120, 121, 122, 123] (by decide +kernel) (by decide +kernel)
set_option maxRecDepth 20000 in
theorem gX8_readCommand_X8_readOwn : GoodIn wsX8_readCommand (wsV RX8 165 RX8 yX8_readOwn wsX8_readOwn) := goodIn_app (goodIn_of _ (by decide +kernel)) ggX8_readCommand_X8_readOwn
set_option maxRecDepth 20000 in
theorem ggX8_readCommand_X8_readCall : GoodIn wsX8_readCommand wsX8_readCall := goodIn_r _ [66, 13, 14, 15, 16, 7, 17, 18, 19, 20, 21, 2, 22, 1, 4, 5, 6, 8, 3, 23, 24, 25, 26, 27, 28, 29, 30, 31, 32, 33, 34, 35, 67, 68, 69, 70, 71, 72, 73, 74, 75, 76, 77, 78, 39, 40, 41, 79, 80, 81, 82, 83, 84, 60, 61, 62, 85, 86, 87, 88, 89, 90, 91, 92, 93, 94, 95, 96, 97, 98, 99, 100, 101, 102, 103, 108, 109, 110, 111, 112, 113, 114, 115, 116, 117, 118, 119, 120, 121, 122, 123] (by decide +kernel) (by decide +kernel)
set_option maxRecDepth 20000 in
theorem gX8_readCommand_X8_readCall : GoodIn wsX8_readCommand (wsV RX8 168 RX8 yX8_readCall wsX8_readCall) := goodIn_app (goodIn_of _ (by decide +kernel)) ggX8_readCommand_X8_readCall
set_option maxRecDepth 20000 in
theorem ggX8_readCommand_X8_readDrop : GoodIn wsX8_readCommand wsX8_readDrop := goodIn_r _ [107, 13, 23, 24, 25, 7, 26, 2, 22, 1, 27, 3, 28, 29, 30, 4, 5, 6, 8, 46, 47, 48, 49, 82, 83, 84, 60, 61, 62, 31, 32, 33, 34, 35, 108, 109, 110, 111, 112, 113, 114, 115, 116, 117, 118, 119, 120, 121, 122, 123] (by decide +kernel) (by decide +kernel)
set_option maxRecDepth 20000 in
theorem gX8_readCommand_X8_readDrop : GoodIn wsX8_readCommand (wsV RX8 171 RX8 yX8_readDrop wsX8_readDrop) := goodIn_app (goodIn_of _ (by decide +kernel)) ggX8_readCommand_X8_readDrop
theorem dX8_readCommand_0 : decode cX8_readCommand 0 = .ok (.aload_n 0, 1) := by decide +kernel
theorem dX8_readCommand_1 : decode cX8_readCommand 1 = .ok (.getfield 7, 3) := by decide +kernel
theorem dX8_readCommand_4 : decode cX8_readCommand 4 = .ok (.aload_n 0, 1) := by decide +kernel
theorem dX8_readCommand_5 : decode cX8_readCommand 5 = .ok (.getfield 112, 3) := by decide +kernel
theorem dX8_readCommand_8 : decode cX8_readCommand 8 = .ok (.iaload, 1) := by decide +kernel
theorem dX8_readCommand_9 : decode cX8_readCommand 9 = .ok (.istore_n 1, 1) := by decide +kernel
theorem dX8_readCommand_10 : decode cX8_readCommand 10 = .ok (.aload_n 0, 1) := by decide +kernel
theorem dX8_readCommand_11 : decode cX8_readCommand 11 = .ok (.iload_n 1, 1) := by decide +kernel
theorem dX8_readCommand_12 : decode cX8_readCommand 12 = .ok (.bipush 110, 2) := by decide +kernel
theorem dX8_readCommand_14 : decode cX8_readCommand 14 = .ok (.if_icmp .eq 27, 3) := by decide +kernel
theorem dX8_readCommand_17 : decode cX8_readCommand 17 = .ok (.iload_n 1, 1) := by decide +kernel
theorem dX8_readCommand_18 : decode cX8_readCommand 18 = .ok (.bipush 115, 2) := by decide +kernel
theorem dX8_readCommand_20 : decode cX8_readCommand 20 = .ok (.if_icmp .eq 21, 3) := by decide +kernel
theorem dX8_readCommand_23 : decode cX8_readCommand 23 = .ok (.iload_n 1, 1) := by decide +kernel
theorem dX8_readCommand_24 : decode cX8_readCommand 24 = .ok (.bipush 111, 2) := by decide +kernel
theorem dX8_readCommand_26 : decode cX8_readCommand 26 = .ok (.if_icmp .eq 15, 3) := by decide +kernel
theorem dX8_readCommand_29 : decode cX8_readCommand 29 = .ok (.iload_n 1, 1) := by decide +kernel
theorem dX8_readCommand_30 : decode cX8_readCommand 30 = .ok (.bipush 107, 2) := by decide +kernel
theorem dX8_readCommand_32 : decode cX8_readCommand 32 = .ok (.if_icmp .eq 9, 3) := by decide +kernel
theorem dX8_readCommand_35 : decode cX8_readCommand 35 = .ok (.iload_n 1, 1) := by decide +kernel
theorem dX8_readCommand_36 : decode cX8_readCommand 36 = .ok (.bipush 120, 2) := by decide +kernel
theorem dX8_readCommand_38 : decode cX8_readCommand 38 = .ok (.if_icmp .ne 7, 3) := by decide +kernel
theorem dX8_readCommand_41 : decode cX8_readCommand 41 = .ok (.iconst 1, 1) := by decide +kernel
theorem dX8_readCommand_42 : decode cX8_readCommand 42 = .ok (.goto 4, 3) := by decide +kernel
theorem dX8_readCommand_45 : decode cX8_readCommand 45 = .ok (.iconst 0, 1) := by decide +kernel
theorem dX8_readCommand_46 : decode cX8_readCommand 46 = .ok (.invokevirtual 121, 3) := by decide +kernel
theorem dX8_readCommand_49 : decode cX8_readCommand 49 = .ok (.aload_n 0, 1) := by decide +kernel
theorem dX8_readCommand_50 : decode cX8_readCommand 50 = .ok (.getfield 115, 3) := by decide +kernel
theorem dX8_readCommand_53 : decode cX8_readCommand 53 = .ok (.ifCond .ne 4, 3) := by decide +kernel
theorem dX8_readCommand_56 : decode cX8_readCommand 56 = .ok (.return_, 1) := by decide +kernel
theorem dX8_readCommand_57 : decode cX8_readCommand 57 = .ok (.iload_n 1, 1) := by decide +kernel
theorem dX8_readCommand_58 : decode cX8_readCommand 58 = .ok (.bipush 110, 2) := by decide +kernel
theorem dX8_readCommand_60 : decode cX8_readCommand 60 = .ok (.if_icmp .ne 10, 3) := by decide +kernel
theorem dX8_readCommand_63 : decode cX8_readCommand 63 = .ok (.aload_n 0, 1) := by decide +kernel
theorem dX8_readCommand_64 : decode cX8_readCommand 64 = .ok (.invokevirtual 159, 3) := by decide +kernel
theorem dX8_readCommand_67 : decode cX8_readCommand 67 = .ok (.goto 46, 3) := by decide +kernel
theorem dX8_readCommand_70 : decode cX8_readCommand 70 = .ok (.iload_n 1, 1) := by decide +kernel
theorem dX8_readCommand_71 : decode cX8_readCommand 71 = .ok (.bipush 115, 2) := by decide +kernel
theorem dX8_readCommand_73 : decode cX8_readCommand 73 = .ok (.if_icmp .ne 10, 3) := by decide +kernel
theorem dX8_readCommand_76 : decode cX8_readCommand 76 = .ok (.aload_n 0, 1) := by decide +kernel
theorem dX8_readCommand_77 : decode cX8_readCommand 77 = .ok (.invokevirtual 162, 3) := by decide +kernel
theorem dX8_readCommand_80 : decode cX8_readCommand 80 = .ok (.goto 33, 3) := by decide +kernel
theorem dX8_readCommand_83 : decode cX8_readCommand 83 = .ok (.iload_n 1, 1) := by decide +kernel
theorem dX8_readCommand_84 : decode cX8_readCommand 84 = .ok (.bipush 111, 2) := by decide +kernel
theorem dX8_readCommand_86 : decode cX8_readCommand 86 = .ok (.if_icmp .ne 10, 3) := by decide +kernel
theorem dX8_readCommand_89 : decode cX8_readCommand 89 = .ok (.aload_n 0, 1) := by decide +kernel
theorem dX8_readCommand_90 : decode cX8_readCommand 90 = .ok (.invokevirtual 165, 3) := by decide +kernel
theorem dX8_readCommand_93 : decode cX8_readCommand 93 = .ok (.goto 20, 3) := by decide +kernel
theorem dX8_readCommand_96 : decode cX8_readCommand 96 = .ok (.iload_n 1, 1) := by decide +kernel
theorem dX8_readCommand_97 : decode cX8_readCommand 97 = .ok (.bipush 107, 2) := by decide +kernel
theorem dX8_readCommand_99 : decode cX8_readCommand 99 = .ok (.if_icmp .ne 10, 3) := by decide +kernel
theorem dX8_readCommand_102 : decode cX8_readCommand 102 = .ok (.aload_n 0, 1) := by decide +kernel
theorem dX8_readCommand_103 : decode cX8_readCommand 103 = .ok (.invokevirtual 168, 3) := by decide +kernel
theorem dX8_readCommand_106 : decode cX8_readCommand 106 = .ok (.goto 7, 3) := by decide +kernel
theorem dX8_readCommand_109 : decode cX8_readCommand 109 = .ok (.aload_n 0, 1) := by decide +kernel
theorem dX8_readCommand_110 : decode cX8_readCommand 110 = .ok (.invokevirtual 171, 3) := by decide +kernel
theorem dX8_readCommand_113 : decode cX8_readCommand 113 = .ok (.return_, 1) := by decide +kernel
set_option maxRecDepth 20000 in
theorem ggX8_readText_X8_isNext : GoodIn wsX8_readText wsX8_isNext := goodIn_r _ [10, 1, 5, 11, 112, 113, 114, 115, 116, 117, 118, 119, 120, 121, 122, 123, 124, 125, 126, 127] (by decide +kernel) (by decide +kernel)
set_option maxRecDepth 20000 in
theorem gX8_readText_X8_isNext : GoodIn wsX8_readText (wsV RX8 125 RX8 yX8_isNext wsX8_isNext) := goodIn_app (goodIn_of _ (by decide +kernel)) ggX8_readText_X8_isNext
set_option maxRecDepth 20000 in
theorem ggX8_readText_X8_accept : GoodIn wsX8_readText wsX8_accept := goodIn_r _ [15, 2, 1, 112, 113, 114, 115, 116, 117, 118, 119, 120, 121, 122, 123, 124, 125, 126, 127] (by decide +kernel) (by decide +kernel)
set_option maxRecDepth 20000 in
theorem gX8_readText_X8_accept : GoodIn wsX8_readText (wsV RX8 121 RX8 yX8_accept wsX8_accept) := goodIn_app (goodIn_of _ (by decide +kernel)) ggX8_readText_X8_accept
set_option maxRecDepth 20000 in
theorem ggX8_readText_X8_readCommand : GoodIn wsX8_readText wsX8_readCommand := goodIn_r _ [19, 11, 1, 2, 12, 13, 14, 9, 15, 20, 21, 22, 23, 4, 24, 25, 26, 27, 6, 7, 8, 10, 5, 28, 29, 30, 31, 32, 33, 34, 35, 36, 37, 38, 39, 3, 40, 41, 42, 43, 44, 45, 46, 47, 48, 49, 50, 51, 52, 53, 54, 55, 56, 57, 58, 59, 60, 61, 62, 63, 64, 65, 66, 67, 68, 69, 70, 71, 72, 73, 74, 75, 76, 77, 78, 79, 80, 81, 82, 83, 84, 85, 86, 87, 88, 89, 90, 91, 92, 93, 94, 95, 96, 97, 98, 99, 100, 101, 102, 103, 104, 105, 106, 107, 108, 109, 110, 111, 112, 113, 114, 115, 116, 117, 118, 119, 120, 121, 122, 123, 124, 125, 126, 127] (by decide +kernel) (by decide +kernel)
set_option maxRecDepth 20000 in
theorem gX8_readText_X8_readCommand : GoodIn wsX8_readText (wsV RX8 174 RX8 yX8_readCommand wsX8_readCommand) := goodIn_app (goodIn_of _ (by decide +kernel)) ggX8_readText_X8_readCommand
theorem dX8_readText_0 : decode cX8_readText 0 = .ok (.aload_n 0, 1) := by decide +kernel
theorem dX8_readText_1 : decode cX8_readText 1 = .ok (.iconst 0, 1) := by decide +kernel
theorem dX8_readText_2 : decode cX8_readText 2 = .ok (.putfield 112, 3) := by decide +kernel
theorem dX8_readText_5 : decode cX8_readText 5 = .ok (.aload_n 0, 1) := by decide +kernel
theorem dX8_readText_6 : decode cX8_readText 6 = .ok (.iconst 1, 1) := by decide +kernel
theorem dX8_readText_7 : decode cX8_readText 7 = .ok (.putfield 115, 3) := by decide +kernel
theorem dX8_readText_10 : decode cX8_readText 10 = .ok (.aload_n 0, 1) := by decide +kernel
theorem dX8_readText_11 : decode cX8_readText 11 = .ok (.iconst 0, 1) := by decide +kernel
theorem dX8_readText_12 : decode cX8_readText 12 = .ok (.putfield 131, 3) := by decide +kernel
theorem dX8_readText_15 : decode cX8_readText 15 = .ok (.iconst 0, 1) := by decide +kernel
theorem dX8_readText_16 : decode cX8_readText 16 = .ok (.istore_n 1, 1) := by decide +kernel
theorem dX8_readText_17 : decode cX8_readText 17 = .ok (.iload_n 1, 1) := by decide +kernel
theorem dX8_readText_18 : decode cX8_readText 18 = .ok (.sipush 748, 3) := by decide +kernel
theorem dX8_readText_21 : decode cX8_readText 21 = .ok (.if_icmp .ge 16, 3) := by decide +kernel
theorem dX8_readText_24 : decode cX8_readText 24 = .ok (.aload_n 0, 1) := by decide +kernel
theorem dX8_readText_25 : decode cX8_readText 25 = .ok (.getfield 13, 3) := by decide +kernel
theorem dX8_readText_28 : decode cX8_readText 28 = .ok (.iload_n 1, 1) := by decide +kernel
theorem dX8_readText_29 : decode cX8_readText 29 = .ok (.iconst 0, 1) := by decide +kernel
theorem dX8_readText_30 : decode cX8_readText 30 = .ok (.iastore, 1) := by decide +kernel
theorem dX8_readText_31 : decode cX8_readText 31 = .ok (.iinc 1 1, 3) := by decide +kernel
theorem dX8_readText_34 : decode cX8_readText 34 = .ok (.goto (-17), 3) := by decide +kernel
theorem dX8_readText_37 : decode cX8_readText 37 = .ok (.aload_n 0, 1) := by decide +kernel
theorem dX8_readText_38 : decode cX8_readText 38 = .ok (.aload_n 0, 1) := by decide +kernel
theorem dX8_readText_39 : decode cX8_readText 39 = .ok (.bipush 67, 2) := by decide +kernel
theorem dX8_readText_41 : decode cX8_readText 41 = .ok (.invokevirtual 125, 3) := by decide +kernel
theorem dX8_readText_44 : decode cX8_readText 44 = .ok (.invokevirtual 121, 3) := by decide +kernel
theorem dX8_readText_47 : decode cX8_readText 47 = .ok (.aload_n 0, 1) := by decide +kernel
theorem dX8_readText_48 : decode cX8_readText 48 = .ok (.getfield 115, 3) := by decide +kernel
theorem dX8_readText_51 : decode cX8_readText 51 = .ok (.ifCond .eq 21, 3) := by decide +kernel
theorem dX8_readText_54 : decode cX8_readText 54 = .ok (.aload_n 0, 1) := by decide +kernel
theorem dX8_readText_55 : decode cX8_readText 55 = .ok (.getfield 112, 3) := by decide +kernel
theorem dX8_readText_58 : decode cX8_readText 58 = .ok (.aload_n 0, 1) := by decide +kernel
theorem dX8_readText_59 : decode cX8_readText 59 = .ok (.getfield 105, 3) := by decide +kernel
theorem dX8_readText_62 : decode cX8_readText 62 = .ok (.if_icmp .ge 10, 3) := by decide +kernel
theorem dX8_readText_65 : decode cX8_readText 65 = .ok (.aload_n 0, 1) := by decide +kernel
theorem dX8_readText_66 : decode cX8_readText 66 = .ok (.invokevirtual 174, 3) := by decide +kernel
theorem dX8_readText_69 : decode cX8_readText 69 = .ok (.goto (-22), 3) := by decide +kernel
theorem dX8_readText_72 : decode cX8_readText 72 = .ok (.aload_n 0, 1) := by decide +kernel
theorem dX8_readText_73 : decode cX8_readText 73 = .ok (.getfield 115, 3) := by decide +kernel
theorem dX8_readText_76 : decode cX8_readText 76 = .ok (.ifCond .eq 9, 3) := by decide +kernel
theorem dX8_readText_79 : decode cX8_readText 79 = .ok (.sipush (-10000), 3) := by decide +kernel
theorem dX8_readText_82 : decode cX8_readText 82 = .ok (.goto 7, 3) := by decide +kernel
theorem dX8_readText_85 : decode cX8_readText 85 = .ok (.aload_n 0, 1) := by decide +kernel
theorem dX8_readText_86 : decode cX8_readText 86 = .ok (.getfield 112, 3) := by decide +kernel
theorem dX8_readText_89 : decode cX8_readText 89 = .ok (.ireturn, 1) := by decide +kernel
set_option maxRecDepth 20000 in
theorem ggX8_errorPosition_X8_readText : GoodIn wsX8_errorPosition wsX8_readText := goodIn_r _ [6, 7, 8, 9, 10, 11, 12, 13, 14, 5, 15, 16, 17, 18, 19, 20, 21, 22, 23, 24, 25, 26, 27, 28, 29, 30, 31, 32, 33, 34, 35, 36, 37, 38, 39, 40, 41, 42, 43, 44, 45, 46, 47, 48, 49, 50, 51, 52, 53, 54, 55, 56, 57, 58, 59, 60, 61, 62, 63, 64, 65, 66, 67, 68, 69, 70, 71, 72, 73, 74, 75, 76, 77, 78, 79, 80, 81, 82, 83, 84, 85, 86, 87, 88, 89, 90, 91, 92, 93, 94, 95, 96, 97, 98, 99, 100, 101, 102, 103, 104, 105, 106, 107, 108, 109, 110, 111, 112, 113, 114, 115, 116, 117, 118, 119, 120, 121, 122, 123, 124, 125, 126, 127, 128, 129, 130, 131, 132] (by decide +kernel) (by decide +kernel)
set_option maxRecDepth 20000 in
theorem gX8_errorPosition_X8_readText : GoodIn wsX8_errorPosition (wsV RX8 177 RX8 yX8_readText wsX8_readText) := goodIn_app (goodIn_of _ (by decide +kernel)) ggX8_errorPosition_X8_readText
theorem dX8_errorPosition_0 : decode cX8_errorPosition 0 = .ok (.aload_n 0, 1) := by decide +kernel
theorem dX8_errorPosition_1 : decode cX8_errorPosition 1 = .ok (.iconst 0, 1) := by decide +kernel
theorem dX8_errorPosition_2 : decode cX8_errorPosition 2 = .ok (.putfield 41, 3) := by decide +kernel
theorem dX8_errorPosition_5 : decode cX8_errorPosition 5 = .ok (.aload_n 0, 1) := by decide +kernel
theorem dX8_errorPosition_6 : decode cX8_errorPosition 6 = .ok (.invokevirtual 177, 3) := by decide +kernel
theorem dX8_errorPosition_9 : decode cX8_errorPosition 9 = .ok (.ireturn, 1) := by decide +kernel
set_option maxRecDepth 20000 in
theorem ggX8_load_X8_readText : GoodIn wsX8_load wsX8_readText := goodIn_r _ [10, 11, 12, 5, 1, 13, 14, 15, 16, 9, 17, 18, 19, 20, 21, 22, 23, 24, 25, 26, 27, 28, 29, 30, 31, 32, 33, 34, 35, 36, 37, 38, 39, 40, 41, 42, 43, 44, 45, 46, 47, 48, 49, 50, 51, 52, 53, 54, 55, 56, 57, 58, 59, 60, 61, 62, 63, 64, 65, 66, 67, 68, 69, 70, 71, 72, 73, 74, 75, 76, 77, 78, 79, 80, 81, 82, 83, 84, 85, 86, 87, 88, 89, 90, 91, 92, 93, 94, 95, 96, 97, 98, 99, 100, 101, 102, 103, 104, 105, 106, 107, 108, 109, 110, 111, 112, 113, 114, 115, 116, 117, 118, 127, 128, 129, 130, 131, 132, 133, 134, 135, 136, 137, 138, 139, 140, 141, 142] (by decide +kernel) (by decide +kernel)
set_option maxRecDepth 20000 in
theorem gX8_load_X8_readText : GoodIn wsX8_load (wsV RX8 177 RX8 yX8_readText wsX8_readText) := goodIn_app (goodIn_of _ (by decide +kernel)) ggX8_load_X8_readText
set_option maxRecDepth 20000 in
theorem ggX8_load_X8_refused : GoodIn wsX8_load wsX8_refused := goodIn_r _ [122, 123, 127, 128, 129, 130, 131, 132, 133, 134, 135, 136, 137, 138, 139, 140, 141, 142] (by decide +kernel) (by decide +kernel)
set_option maxRecDepth 20000 in
theorem gX8_load_X8_refused : GoodIn wsX8_load (wsV RX8 108 RX8 yX8_refused wsX8_refused) := goodIn_app (goodIn_of _ (by decide +kernel)) ggX8_load_X8_refused
set_option maxRecDepth 20000 in
theorem ggX8_load_X8_copy : GoodIn wsX8_load wsX8_copy := goodIn_r _ [126] (by decide +kernel) (by decide +kernel)
set_option maxRecDepth 20000 in
theorem gX8_load_X8_copy : GoodIn wsX8_load (va_wsS RX8 50 yX8_copy wsX8_copy) := goodIn_app (goodIn_of _ (by decide +kernel)) ggX8_load_X8_copy
theorem dX8_load_0 : decode cX8_load 0 = .ok (.aload_n 0, 1) := by decide +kernel
theorem dX8_load_1 : decode cX8_load 1 = .ok (.aload_n 0, 1) := by decide +kernel
theorem dX8_load_2 : decode cX8_load 2 = .ok (.invokevirtual 177, 3) := by decide +kernel
theorem dX8_load_5 : decode cX8_load 5 = .ok (.sipush (-10000), 3) := by decide +kernel
theorem dX8_load_8 : decode cX8_load 8 = .ok (.if_icmp .ne 7, 3) := by decide +kernel
theorem dX8_load_11 : decode cX8_load 11 = .ok (.iconst 0, 1) := by decide +kernel
theorem dX8_load_12 : decode cX8_load 12 = .ok (.goto 4, 3) := by decide +kernel
theorem dX8_load_15 : decode cX8_load 15 = .ok (.iconst 1, 1) := by decide +kernel
theorem dX8_load_16 : decode cX8_load 16 = .ok (.invokevirtual 108, 3) := by decide +kernel
theorem dX8_load_19 : decode cX8_load 19 = .ok (.ifCond .eq 5, 3) := by decide +kernel
theorem dX8_load_22 : decode cX8_load 22 = .ok (.iconst 0, 1) := by decide +kernel
theorem dX8_load_23 : decode cX8_load 23 = .ok (.ireturn, 1) := by decide +kernel
theorem dX8_load_24 : decode cX8_load 24 = .ok (.aload_n 0, 1) := by decide +kernel
theorem dX8_load_25 : decode cX8_load 25 = .ok (.getfield 13, 3) := by decide +kernel
theorem dX8_load_28 : decode cX8_load 28 = .ok (.iconst 0, 1) := by decide +kernel
theorem dX8_load_29 : decode cX8_load 29 = .ok (.aload_n 0, 1) := by decide +kernel
theorem dX8_load_30 : decode cX8_load 30 = .ok (.getfield 16, 3) := by decide +kernel
theorem dX8_load_33 : decode cX8_load 33 = .ok (.iconst 0, 1) := by decide +kernel
theorem dX8_load_34 : decode cX8_load 34 = .ok (.sipush 748, 3) := by decide +kernel
theorem dX8_load_37 : decode cX8_load 37 = .ok (.invokestatic 50, 3) := by decide +kernel
theorem dX8_load_40 : decode cX8_load 40 = .ok (.aload_n 0, 1) := by decide +kernel
theorem dX8_load_41 : decode cX8_load 41 = .ok (.iconst 0, 1) := by decide +kernel
theorem dX8_load_42 : decode cX8_load 42 = .ok (.putfield 47, 3) := by decide +kernel
theorem dX8_load_45 : decode cX8_load 45 = .ok (.aload_n 0, 1) := by decide +kernel
theorem dX8_load_46 : decode cX8_load 46 = .ok (.getfield 28, 3) := by decide +kernel
theorem dX8_load_49 : decode cX8_load 49 = .ok (.iconst 0, 1) := by decide +kernel
theorem dX8_load_50 : decode cX8_load 50 = .ok (.iconst 0, 1) := by decide +kernel
theorem dX8_load_51 : decode cX8_load 51 = .ok (.bastore, 1) := by decide +kernel
theorem dX8_load_52 : decode cX8_load 52 = .ok (.aload_n 0, 1) := by decide +kernel
theorem dX8_load_53 : decode cX8_load 53 = .ok (.getfield 28, 3) := by decide +kernel
theorem dX8_load_56 : decode cX8_load 56 = .ok (.iconst 1, 1) := by decide +kernel
theorem dX8_load_57 : decode cX8_load 57 = .ok (.iconst 0, 1) := by decide +kernel
theorem dX8_load_58 : decode cX8_load 58 = .ok (.bastore, 1) := by decide +kernel
theorem dX8_load_59 : decode cX8_load 59 = .ok (.aload_n 0, 1) := by decide +kernel
theorem dX8_load_60 : decode cX8_load 60 = .ok (.getfield 131, 3) := by decide +kernel
theorem dX8_load_63 : decode cX8_load 63 = .ok (.ireturn, 1) := by decide +kernel
set_option maxRecDepth 20000 in
theorem ggX8_about_X8_in : GoodIn wsX8_about wsX8_in := goodIn_r _ [6] (by decide +kernel) (by decide +kernel)
set_option maxRecDepth 20000 in
theorem gX8_about_X8_in : GoodIn wsX8_about (va_wsS RX8 62 yX8_in wsX8_in) := goodIn_app (goodIn_of _ (by decide +kernel)) ggX8_about_X8_in
set_option maxRecDepth 20000 in
theorem ggX8_about_X8_refused : GoodIn wsX8_about wsX8_refused := goodIn_r _ [10, 11, 18, 19, 20, 21, 22, 23, 24, 25, 26, 27, 28, 29, 30, 31, 32, 33] (by decide +kernel) (by decide +kernel)
set_option maxRecDepth 20000 in
theorem gX8_about_X8_refused : GoodIn wsX8_about (wsV RX8 108 RX8 yX8_refused wsX8_refused) := goodIn_app (goodIn_of _ (by decide +kernel)) ggX8_about_X8_refused
set_option maxRecDepth 20000 in
theorem ggX8_about_X8_contracts : GoodIn wsX8_about wsX8_contracts := goodIn_r _ [14, 15, 16, 5, 17] (by decide +kernel) (by decide +kernel)
set_option maxRecDepth 20000 in
theorem gX8_about_X8_contracts : GoodIn wsX8_about (va_wsS RX8 183 yX8_contracts wsX8_contracts) := goodIn_app (goodIn_of _ (by decide +kernel)) ggX8_about_X8_contracts
theorem dX8_about_0 : decode cX8_about 0 = .ok (.aload_n 0, 1) := by decide +kernel
theorem dX8_about_1 : decode cX8_about 1 = .ok (.iload_n 1, 1) := by decide +kernel
theorem dX8_about_2 : decode cX8_about 2 = .ok (.i2l, 1) := by decide +kernel
theorem dX8_about_3 : decode cX8_about 3 = .ok (.lconst 0, 1) := by decide +kernel
theorem dX8_about_4 : decode cX8_about 4 = .ok (.ldc2_w 181, 3) := by decide +kernel
theorem dX8_about_7 : decode cX8_about 7 = .ok (.invokestatic 62, 3) := by decide +kernel
theorem dX8_about_10 : decode cX8_about 10 = .ok (.ifCond .eq 7, 3) := by decide +kernel
theorem dX8_about_13 : decode cX8_about 13 = .ok (.iconst 0, 1) := by decide +kernel
theorem dX8_about_14 : decode cX8_about 14 = .ok (.goto 4, 3) := by decide +kernel
theorem dX8_about_17 : decode cX8_about 17 = .ok (.iconst 1, 1) := by decide +kernel
theorem dX8_about_18 : decode cX8_about 18 = .ok (.invokevirtual 108, 3) := by decide +kernel
theorem dX8_about_21 : decode cX8_about 21 = .ok (.ifCond .eq 5, 3) := by decide +kernel
theorem dX8_about_24 : decode cX8_about 24 = .ok (.iconst 0, 1) := by decide +kernel
theorem dX8_about_25 : decode cX8_about 25 = .ok (.ireturn, 1) := by decide +kernel
theorem dX8_about_26 : decode cX8_about 26 = .ok (.iload_n 1, 1) := by decide +kernel
theorem dX8_about_27 : decode cX8_about 27 = .ok (.tableswitch 53 0 2 #[25, 32, 42], 25) := by decide +kernel
theorem dX8_about_52 : decode cX8_about 52 = .ok (.aload_n 0, 1) := by decide +kernel
theorem dX8_about_53 : decode cX8_about 53 = .ok (.getfield 16, 3) := by decide +kernel
theorem dX8_about_56 : decode cX8_about 56 = .ok (.iconst 0, 1) := by decide +kernel
theorem dX8_about_57 : decode cX8_about 57 = .ok (.iaload, 1) := by decide +kernel
theorem dX8_about_58 : decode cX8_about 58 = .ok (.ireturn, 1) := by decide +kernel
theorem dX8_about_59 : decode cX8_about 59 = .ok (.aload_n 0, 1) := by decide +kernel
theorem dX8_about_60 : decode cX8_about 60 = .ok (.getfield 16, 3) := by decide +kernel
theorem dX8_about_63 : decode cX8_about 63 = .ok (.iconst 0, 1) := by decide +kernel
theorem dX8_about_64 : decode cX8_about 64 = .ok (.iconst 0, 1) := by decide +kernel
theorem dX8_about_65 : decode cX8_about 65 = .ok (.invokestatic 183, 3) := by decide +kernel
theorem dX8_about_68 : decode cX8_about 68 = .ok (.ireturn, 1) := by decide +kernel
theorem dX8_about_69 : decode cX8_about 69 = .ok (.aload_n 0, 1) := by decide +kernel
theorem dX8_about_70 : decode cX8_about 70 = .ok (.getfield 16, 3) := by decide +kernel
theorem dX8_about_73 : decode cX8_about 73 = .ok (.iconst 1, 1) := by decide +kernel
theorem dX8_about_74 : decode cX8_about 74 = .ok (.bipush 11, 2) := by decide +kernel
theorem dX8_about_76 : decode cX8_about 76 = .ok (.invokestatic 183, 3) := by decide +kernel
theorem dX8_about_79 : decode cX8_about 79 = .ok (.ireturn, 1) := by decide +kernel
theorem dX8_about_80 : decode cX8_about 80 = .ok (.aload_n 0, 1) := by decide +kernel
theorem dX8_about_81 : decode cX8_about 81 = .ok (.getfield 16, 3) := by decide +kernel
theorem dX8_about_84 : decode cX8_about 84 = .ok (.sipush 681, 3) := by decide +kernel
theorem dX8_about_87 : decode cX8_about 87 = .ok (.iload_n 1, 1) := by decide +kernel
theorem dX8_about_88 : decode cX8_about 88 = .ok (.iadd, 1) := by decide +kernel
theorem dX8_about_89 : decode cX8_about 89 = .ok (.iconst 3, 1) := by decide +kernel
theorem dX8_about_90 : decode cX8_about 90 = .ok (.isub, 1) := by decide +kernel
theorem dX8_about_91 : decode cX8_about 91 = .ok (.iaload, 1) := by decide +kernel
theorem dX8_about_92 : decode cX8_about 92 = .ok (.ireturn, 1) := by decide +kernel
set_option maxRecDepth 20000 in
theorem ggX8_isPart_X8_in : GoodIn wsX8_isPart wsX8_in := goodIn_r _ [5] (by decide +kernel) (by decide +kernel)
set_option maxRecDepth 20000 in
theorem gX8_isPart_X8_in : GoodIn wsX8_isPart (va_wsS RX8 62 yX8_in wsX8_in) := goodIn_app (goodIn_of _ (by decide +kernel)) ggX8_isPart_X8_in
theorem dX8_isPart_0 : decode cX8_isPart 0 = .ok (.iload_n 1, 1) := by decide +kernel
theorem dX8_isPart_1 : decode cX8_isPart 1 = .ok (.i2l, 1) := by decide +kernel
theorem dX8_isPart_2 : decode cX8_isPart 2 = .ok (.lconst 0, 1) := by decide +kernel
theorem dX8_isPart_3 : decode cX8_isPart 3 = .ok (.aload_n 0, 1) := by decide +kernel
theorem dX8_isPart_4 : decode cX8_isPart 4 = .ok (.getfield 16, 3) := by decide +kernel
theorem dX8_isPart_7 : decode cX8_isPart 7 = .ok (.iconst 0, 1) := by decide +kernel
theorem dX8_isPart_8 : decode cX8_isPart 8 = .ok (.iaload, 1) := by decide +kernel
theorem dX8_isPart_9 : decode cX8_isPart 9 = .ok (.iconst 1, 1) := by decide +kernel
theorem dX8_isPart_10 : decode cX8_isPart 10 = .ok (.isub, 1) := by decide +kernel
theorem dX8_isPart_11 : decode cX8_isPart 11 = .ok (.i2l, 1) := by decide +kernel
theorem dX8_isPart_12 : decode cX8_isPart 12 = .ok (.invokestatic 62, 3) := by decide +kernel
theorem dX8_isPart_15 : decode cX8_isPart 15 = .ok (.ireturn, 1) := by decide +kernel
set_option maxRecDepth 20000 in
theorem ggX8_part_X8_isPart : GoodIn wsX8_part wsX8_isPart := goodIn_r _ [7, 2, 8, 9, 6, 10, 25, 26, 27, 28, 29, 30, 31, 32, 33, 34, 35, 36, 37, 38, 39, 40] (by decide +kernel) (by decide +kernel)
set_option maxRecDepth 20000 in
theorem gX8_part_X8_isPart : GoodIn wsX8_part (wsV RX8 186 RX8 yX8_isPart wsX8_isPart) := goodIn_app (goodIn_of _ (by decide +kernel)) ggX8_part_X8_isPart
set_option maxRecDepth 20000 in
theorem ggX8_part_X8_in : GoodIn wsX8_part wsX8_in := goodIn_r _ [10] (by decide +kernel) (by decide +kernel)
set_option maxRecDepth 20000 in
theorem gX8_part_X8_in : GoodIn wsX8_part (va_wsS RX8 62 yX8_in wsX8_in) := goodIn_app (goodIn_of _ (by decide +kernel)) ggX8_part_X8_in
set_option maxRecDepth 20000 in
theorem ggX8_part_X8_refused : GoodIn wsX8_part wsX8_refused := goodIn_r _ [14, 15, 25, 26, 27, 28, 29, 30, 31, 32, 33, 34, 35, 36, 37, 38, 39, 40] (by decide +kernel) (by decide +kernel)
set_option maxRecDepth 20000 in
theorem gX8_part_X8_refused : GoodIn wsX8_part (wsV RX8 108 RX8 yX8_refused wsX8_refused) := goodIn_app (goodIn_of _ (by decide +kernel)) ggX8_part_X8_refused
set_option maxRecDepth 20000 in
theorem ggX8_part_X8_next : GoodIn wsX8_part wsX8_next := goodIn_r _ [18, 19, 20, 6, 21] (by decide +kernel) (by decide +kernel)
set_option maxRecDepth 20000 in
theorem gX8_part_X8_next : GoodIn wsX8_part (va_wsS RX8 70 yX8_next wsX8_next) := goodIn_app (goodIn_of _ (by decide +kernel)) ggX8_part_X8_next
set_option maxRecDepth 20000 in
theorem ggX8_part_X8_partAt : GoodIn wsX8_part wsX8_partAt := goodIn_r _ [21] (by decide +kernel) (by decide +kernel)
set_option maxRecDepth 20000 in
theorem gX8_part_X8_partAt : GoodIn wsX8_part (va_wsS RX8 66 yX8_partAt wsX8_partAt) := goodIn_app (goodIn_of _ (by decide +kernel)) ggX8_part_X8_partAt
set_option maxRecDepth 20000 in
theorem ggX8_part_X8_chainLength : GoodIn wsX8_part wsX8_chainLength := goodIn_r _ [24, 16, 17, 6, 18, 19, 20, 21] (by decide +kernel) (by decide +kernel)
set_option maxRecDepth 20000 in
theorem gX8_part_X8_chainLength : GoodIn wsX8_part (va_wsS RX8 189 yX8_chainLength wsX8_chainLength) := goodIn_app (goodIn_of _ (by decide +kernel)) ggX8_part_X8_chainLength
theorem dX8_part_0 : decode cX8_part 0 = .ok (.aload_n 0, 1) := by decide +kernel
theorem dX8_part_1 : decode cX8_part 1 = .ok (.aload_n 0, 1) := by decide +kernel
theorem dX8_part_2 : decode cX8_part 2 = .ok (.iload_n 1, 1) := by decide +kernel
theorem dX8_part_3 : decode cX8_part 3 = .ok (.invokevirtual 186, 3) := by decide +kernel
theorem dX8_part_6 : decode cX8_part 6 = .ok (.ifCond .ne 7, 3) := by decide +kernel
theorem dX8_part_9 : decode cX8_part 9 = .ok (.iconst 1, 1) := by decide +kernel
theorem dX8_part_10 : decode cX8_part 10 = .ok (.goto 20, 3) := by decide +kernel
theorem dX8_part_13 : decode cX8_part 13 = .ok (.iload_n 2, 1) := by decide +kernel
theorem dX8_part_14 : decode cX8_part 14 = .ok (.i2l, 1) := by decide +kernel
theorem dX8_part_15 : decode cX8_part 15 = .ok (.lconst 0, 1) := by decide +kernel
theorem dX8_part_16 : decode cX8_part 16 = .ok (.ldc2_w 181, 3) := by decide +kernel
theorem dX8_part_19 : decode cX8_part 19 = .ok (.invokestatic 62, 3) := by decide +kernel
theorem dX8_part_22 : decode cX8_part 22 = .ok (.ifCond .eq 7, 3) := by decide +kernel
theorem dX8_part_25 : decode cX8_part 25 = .ok (.iconst 0, 1) := by decide +kernel
theorem dX8_part_26 : decode cX8_part 26 = .ok (.goto 4, 3) := by decide +kernel
theorem dX8_part_29 : decode cX8_part 29 = .ok (.iconst 2, 1) := by decide +kernel
theorem dX8_part_30 : decode cX8_part 30 = .ok (.invokevirtual 108, 3) := by decide +kernel
theorem dX8_part_33 : decode cX8_part 33 = .ok (.ifCond .eq 5, 3) := by decide +kernel
theorem dX8_part_36 : decode cX8_part 36 = .ok (.iconst 0, 1) := by decide +kernel
theorem dX8_part_37 : decode cX8_part 37 = .ok (.ireturn, 1) := by decide +kernel
theorem dX8_part_38 : decode cX8_part 38 = .ok (.aload_n 0, 1) := by decide +kernel
theorem dX8_part_39 : decode cX8_part 39 = .ok (.getfield 16, 3) := by decide +kernel
theorem dX8_part_42 : decode cX8_part 42 = .ok (.iload_n 1, 1) := by decide +kernel
theorem dX8_part_43 : decode cX8_part 43 = .ok (.invokestatic 70, 3) := by decide +kernel
theorem dX8_part_46 : decode cX8_part 46 = .ok (.ifCond .lt 7, 3) := by decide +kernel
theorem dX8_part_49 : decode cX8_part 49 = .ok (.iconst 1, 1) := by decide +kernel
theorem dX8_part_50 : decode cX8_part 50 = .ok (.goto 4, 3) := by decide +kernel
theorem dX8_part_53 : decode cX8_part 53 = .ok (.iconst 0, 1) := by decide +kernel
theorem dX8_part_54 : decode cX8_part 54 = .ok (.istore_n 3, 1) := by decide +kernel
theorem dX8_part_55 : decode cX8_part 55 = .ok (.iload_n 2, 1) := by decide +kernel
theorem dX8_part_56 : decode cX8_part 56 = .ok (.lookupswitch 85 #[(2, 36), (3, 55), (8, 76)], 36) := by decide +kernel
theorem dX8_part_92 : decode cX8_part 92 = .ok (.iload_n 3, 1) := by decide +kernel
theorem dX8_part_93 : decode cX8_part 93 = .ok (.ifCond .eq 14, 3) := by decide +kernel
theorem dX8_part_96 : decode cX8_part 96 = .ok (.aload_n 0, 1) := by decide +kernel
theorem dX8_part_97 : decode cX8_part 97 = .ok (.getfield 16, 3) := by decide +kernel
theorem dX8_part_100 : decode cX8_part 100 = .ok (.iload_n 1, 1) := by decide +kernel
theorem dX8_part_101 : decode cX8_part 101 = .ok (.invokestatic 70, 3) := by decide +kernel
theorem dX8_part_104 : decode cX8_part 104 = .ok (.goto 6, 3) := by decide +kernel
theorem dX8_part_107 : decode cX8_part 107 = .ok (.sipush (-10000), 3) := by decide +kernel
theorem dX8_part_110 : decode cX8_part 110 = .ok (.ireturn, 1) := by decide +kernel
theorem dX8_part_111 : decode cX8_part 111 = .ok (.iload_n 3, 1) := by decide +kernel
theorem dX8_part_112 : decode cX8_part 112 = .ok (.ifCond .eq 16, 3) := by decide +kernel
theorem dX8_part_115 : decode cX8_part 115 = .ok (.aload_n 0, 1) := by decide +kernel
theorem dX8_part_116 : decode cX8_part 116 = .ok (.getfield 16, 3) := by decide +kernel
theorem dX8_part_119 : decode cX8_part 119 = .ok (.iload_n 1, 1) := by decide +kernel
theorem dX8_part_120 : decode cX8_part 120 = .ok (.iconst 3, 1) := by decide +kernel
theorem dX8_part_121 : decode cX8_part 121 = .ok (.invokestatic 66, 3) := by decide +kernel
theorem dX8_part_124 : decode cX8_part 124 = .ok (.iaload, 1) := by decide +kernel
theorem dX8_part_125 : decode cX8_part 125 = .ok (.goto 6, 3) := by decide +kernel
theorem dX8_part_128 : decode cX8_part 128 = .ok (.sipush (-10000), 3) := by decide +kernel
theorem dX8_part_131 : decode cX8_part 131 = .ok (.ireturn, 1) := by decide +kernel
theorem dX8_part_132 : decode cX8_part 132 = .ok (.aload_n 0, 1) := by decide +kernel
theorem dX8_part_133 : decode cX8_part 133 = .ok (.getfield 16, 3) := by decide +kernel
theorem dX8_part_136 : decode cX8_part 136 = .ok (.iload_n 1, 1) := by decide +kernel
theorem dX8_part_137 : decode cX8_part 137 = .ok (.invokestatic 189, 3) := by decide +kernel
theorem dX8_part_140 : decode cX8_part 140 = .ok (.ireturn, 1) := by decide +kernel
theorem dX8_part_141 : decode cX8_part 141 = .ok (.aload_n 0, 1) := by decide +kernel
theorem dX8_part_142 : decode cX8_part 142 = .ok (.getfield 16, 3) := by decide +kernel
theorem dX8_part_145 : decode cX8_part 145 = .ok (.iload_n 1, 1) := by decide +kernel
theorem dX8_part_146 : decode cX8_part 146 = .ok (.iload_n 2, 1) := by decide +kernel
theorem dX8_part_147 : decode cX8_part 147 = .ok (.invokestatic 66, 3) := by decide +kernel
theorem dX8_part_150 : decode cX8_part 150 = .ok (.iaload, 1) := by decide +kernel
theorem dX8_part_151 : decode cX8_part 151 = .ok (.ireturn, 1) := by decide +kernel
set_option maxRecDepth 20000 in
theorem ggX8_isContract_X8_isPart : GoodIn wsX8_isContract wsX8_isPart := goodIn_r _ [8, 3, 9, 10, 7, 11, 21, 22, 23, 24, 25, 26, 27, 28, 29, 30, 31, 32, 33, 34, 35, 36] (by decide +kernel) (by decide +kernel)
set_option maxRecDepth 20000 in
theorem gX8_isContract_X8_isPart : GoodIn wsX8_isContract (wsV RX8 186 RX8 yX8_isPart wsX8_isPart) := goodIn_app (goodIn_of _ (by decide +kernel)) ggX8_isContract_X8_isPart
set_option maxRecDepth 20000 in
theorem ggX8_isContract_X8_in : GoodIn wsX8_isContract wsX8_in := goodIn_r _ [11] (by decide +kernel) (by decide +kernel)
set_option maxRecDepth 20000 in
theorem gX8_isContract_X8_in : GoodIn wsX8_isContract (va_wsS RX8 62 yX8_in wsX8_in) := goodIn_app (goodIn_of _ (by decide +kernel)) ggX8_isContract_X8_in
set_option maxRecDepth 20000 in
theorem ggX8_isContract_X8_sideOf : GoodIn wsX8_isContract wsX8_sideOf := goodIn_r _ [14] (by decide +kernel) (by decide +kernel)
set_option maxRecDepth 20000 in
theorem gX8_isContract_X8_sideOf : GoodIn wsX8_isContract (va_wsS RX8 74 yX8_sideOf wsX8_sideOf) := goodIn_app (goodIn_of _ (by decide +kernel)) ggX8_isContract_X8_sideOf
set_option maxRecDepth 20000 in
theorem ggX8_isContract_X8_hasContract : GoodIn wsX8_isContract wsX8_hasContract := goodIn_r _ [17, 18, 19, 7, 20] (by decide +kernel) (by decide +kernel)
set_option maxRecDepth 20000 in
theorem gX8_isContract_X8_hasContract : GoodIn wsX8_isContract (va_wsS RX8 58 yX8_hasContract wsX8_hasContract) := goodIn_app (goodIn_of _ (by decide +kernel)) ggX8_isContract_X8_hasContract
theorem dX8_isContract_0 : decode cX8_isContract 0 = .ok (.aload_n 0, 1) := by decide +kernel
theorem dX8_isContract_1 : decode cX8_isContract 1 = .ok (.iload_n 2, 1) := by decide +kernel
theorem dX8_isContract_2 : decode cX8_isContract 2 = .ok (.invokevirtual 186, 3) := by decide +kernel
theorem dX8_isContract_5 : decode cX8_isContract 5 = .ok (.ifCond .eq 32, 3) := by decide +kernel
theorem dX8_isContract_8 : decode cX8_isContract 8 = .ok (.iload_n 1, 1) := by decide +kernel
theorem dX8_isContract_9 : decode cX8_isContract 9 = .ok (.i2l, 1) := by decide +kernel
theorem dX8_isContract_10 : decode cX8_isContract 10 = .ok (.ldc2_w 192, 3) := by decide +kernel
theorem dX8_isContract_13 : decode cX8_isContract 13 = .ok (.ldc2_w 194, 3) := by decide +kernel
theorem dX8_isContract_16 : decode cX8_isContract 16 = .ok (.invokestatic 62, 3) := by decide +kernel
theorem dX8_isContract_19 : decode cX8_isContract 19 = .ok (.ifCond .eq 18, 3) := by decide +kernel
theorem dX8_isContract_22 : decode cX8_isContract 22 = .ok (.aload_n 0, 1) := by decide +kernel
theorem dX8_isContract_23 : decode cX8_isContract 23 = .ok (.getfield 16, 3) := by decide +kernel
theorem dX8_isContract_26 : decode cX8_isContract 26 = .ok (.iload_n 1, 1) := by decide +kernel
theorem dX8_isContract_27 : decode cX8_isContract 27 = .ok (.invokestatic 74, 3) := by decide +kernel
theorem dX8_isContract_30 : decode cX8_isContract 30 = .ok (.iload_n 2, 1) := by decide +kernel
theorem dX8_isContract_31 : decode cX8_isContract 31 = .ok (.invokestatic 58, 3) := by decide +kernel
theorem dX8_isContract_34 : decode cX8_isContract 34 = .ok (.ifCond .ne 34, 3) := by decide +kernel
theorem dX8_isContract_37 : decode cX8_isContract 37 = .ok (.aload_n 0, 1) := by decide +kernel
theorem dX8_isContract_38 : decode cX8_isContract 38 = .ok (.iload_n 2, 1) := by decide +kernel
theorem dX8_isContract_39 : decode cX8_isContract 39 = .ok (.invokevirtual 186, 3) := by decide +kernel
theorem dX8_isContract_42 : decode cX8_isContract 42 = .ok (.ifCond .eq 30, 3) := by decide +kernel
theorem dX8_isContract_45 : decode cX8_isContract 45 = .ok (.aload_n 0, 1) := by decide +kernel
theorem dX8_isContract_46 : decode cX8_isContract 46 = .ok (.iload_n 1, 1) := by decide +kernel
theorem dX8_isContract_47 : decode cX8_isContract 47 = .ok (.invokevirtual 186, 3) := by decide +kernel
theorem dX8_isContract_50 : decode cX8_isContract 50 = .ok (.ifCond .eq 22, 3) := by decide +kernel
theorem dX8_isContract_53 : decode cX8_isContract 53 = .ok (.aload_n 0, 1) := by decide +kernel
theorem dX8_isContract_54 : decode cX8_isContract 54 = .ok (.getfield 16, 3) := by decide +kernel
theorem dX8_isContract_57 : decode cX8_isContract 57 = .ok (.iload_n 1, 1) := by decide +kernel
theorem dX8_isContract_58 : decode cX8_isContract 58 = .ok (.invokestatic 74, 3) := by decide +kernel
theorem dX8_isContract_61 : decode cX8_isContract 61 = .ok (.iload_n 2, 1) := by decide +kernel
theorem dX8_isContract_62 : decode cX8_isContract 62 = .ok (.invokestatic 58, 3) := by decide +kernel
theorem dX8_isContract_65 : decode cX8_isContract 65 = .ok (.ifCond .eq 7, 3) := by decide +kernel
theorem dX8_isContract_68 : decode cX8_isContract 68 = .ok (.iconst 1, 1) := by decide +kernel
theorem dX8_isContract_69 : decode cX8_isContract 69 = .ok (.goto 4, 3) := by decide +kernel
theorem dX8_isContract_72 : decode cX8_isContract 72 = .ok (.iconst 0, 1) := by decide +kernel
theorem dX8_isContract_73 : decode cX8_isContract 73 = .ok (.ireturn, 1) := by decide +kernel
set_option maxRecDepth 20000 in
theorem ggX8_contract_X8_isContract : GoodIn wsX8_contract wsX8_isContract := goodIn_r _ [7, 8, 9, 2, 10, 11, 12, 6, 13, 14, 15, 16, 17, 18, 19, 20, 21, 22, 23, 24, 25, 31, 32, 33, 34, 35, 36, 37, 38, 39, 40, 41, 42, 43, 44, 45, 46] (by decide +kernel) (by decide +kernel)
set_option maxRecDepth 20000 in
theorem gX8_contract_X8_isContract : GoodIn wsX8_contract (wsV RX8 196 RX8 yX8_isContract wsX8_isContract) := goodIn_app (goodIn_of _ (by decide +kernel)) ggX8_contract_X8_isContract
set_option maxRecDepth 20000 in
theorem ggX8_contract_X8_in : GoodIn wsX8_contract wsX8_in := goodIn_r _ [16] (by decide +kernel) (by decide +kernel)
set_option maxRecDepth 20000 in
theorem gX8_contract_X8_in : GoodIn wsX8_contract (va_wsS RX8 62 yX8_in wsX8_in) := goodIn_app (goodIn_of _ (by decide +kernel)) ggX8_contract_X8_in
set_option maxRecDepth 20000 in
theorem ggX8_contract_X8_refused : GoodIn wsX8_contract wsX8_refused := goodIn_r _ [29, 30, 31, 32, 33, 34, 35, 36, 37, 38, 39, 40, 41, 42, 43, 44, 45, 46] (by decide +kernel) (by decide +kernel)
set_option maxRecDepth 20000 in
theorem gX8_contract_X8_refused : GoodIn wsX8_contract (wsV RX8 108 RX8 yX8_refused wsX8_refused) := goodIn_app (goodIn_of _ (by decide +kernel)) ggX8_contract_X8_refused
set_option maxRecDepth 20000 in
theorem ggX8_contract_X8_sideOf : GoodIn wsX8_contract wsX8_sideOf := goodIn_r _ [19] (by decide +kernel) (by decide +kernel)
set_option maxRecDepth 20000 in
theorem gX8_contract_X8_sideOf : GoodIn wsX8_contract (va_wsS RX8 74 yX8_sideOf wsX8_sideOf) := goodIn_app (goodIn_of _ (by decide +kernel)) ggX8_contract_X8_sideOf
set_option maxRecDepth 20000 in
theorem ggX8_contract_X8_contractAt : GoodIn wsX8_contract wsX8_contractAt := goodIn_r _ [25] (by decide +kernel) (by decide +kernel)
set_option maxRecDepth 20000 in
theorem gX8_contract_X8_contractAt : GoodIn wsX8_contract (va_wsS RX8 54 yX8_contractAt wsX8_contractAt) := goodIn_app (goodIn_of _ (by decide +kernel)) ggX8_contract_X8_contractAt
theorem dX8_contract_0 : decode cX8_contract 0 = .ok (.aload_n 0, 1) := by decide +kernel
theorem dX8_contract_1 : decode cX8_contract 1 = .ok (.aload_n 0, 1) := by decide +kernel
theorem dX8_contract_2 : decode cX8_contract 2 = .ok (.iload_n 1, 1) := by decide +kernel
theorem dX8_contract_3 : decode cX8_contract 3 = .ok (.iload_n 2, 1) := by decide +kernel
theorem dX8_contract_4 : decode cX8_contract 4 = .ok (.invokevirtual 196, 3) := by decide +kernel
theorem dX8_contract_7 : decode cX8_contract 7 = .ok (.ifCond .ne 7, 3) := by decide +kernel
theorem dX8_contract_10 : decode cX8_contract 10 = .ok (.iconst 1, 1) := by decide +kernel
theorem dX8_contract_11 : decode cX8_contract 11 = .ok (.goto 20, 3) := by decide +kernel
theorem dX8_contract_14 : decode cX8_contract 14 = .ok (.iload_n 3, 1) := by decide +kernel
theorem dX8_contract_15 : decode cX8_contract 15 = .ok (.i2l, 1) := by decide +kernel
theorem dX8_contract_16 : decode cX8_contract 16 = .ok (.lconst 0, 1) := by decide +kernel
theorem dX8_contract_17 : decode cX8_contract 17 = .ok (.ldc2_w 200, 3) := by decide +kernel
theorem dX8_contract_20 : decode cX8_contract 20 = .ok (.invokestatic 62, 3) := by decide +kernel
theorem dX8_contract_23 : decode cX8_contract 23 = .ok (.ifCond .eq 7, 3) := by decide +kernel
theorem dX8_contract_26 : decode cX8_contract 26 = .ok (.iconst 0, 1) := by decide +kernel
theorem dX8_contract_27 : decode cX8_contract 27 = .ok (.goto 4, 3) := by decide +kernel
theorem dX8_contract_30 : decode cX8_contract 30 = .ok (.iconst 2, 1) := by decide +kernel
theorem dX8_contract_31 : decode cX8_contract 31 = .ok (.invokevirtual 108, 3) := by decide +kernel
theorem dX8_contract_34 : decode cX8_contract 34 = .ok (.ifCond .eq 5, 3) := by decide +kernel
theorem dX8_contract_37 : decode cX8_contract 37 = .ok (.iconst 0, 1) := by decide +kernel
theorem dX8_contract_38 : decode cX8_contract 38 = .ok (.ireturn, 1) := by decide +kernel
theorem dX8_contract_39 : decode cX8_contract 39 = .ok (.aload_n 0, 1) := by decide +kernel
theorem dX8_contract_40 : decode cX8_contract 40 = .ok (.getfield 16, 3) := by decide +kernel
theorem dX8_contract_43 : decode cX8_contract 43 = .ok (.iload_n 1, 1) := by decide +kernel
theorem dX8_contract_44 : decode cX8_contract 44 = .ok (.invokestatic 74, 3) := by decide +kernel
theorem dX8_contract_47 : decode cX8_contract 47 = .ok (.iload_n 2, 1) := by decide +kernel
theorem dX8_contract_48 : decode cX8_contract 48 = .ok (.iconst 1, 1) := by decide +kernel
theorem dX8_contract_49 : decode cX8_contract 49 = .ok (.iload_n 3, 1) := by decide +kernel
theorem dX8_contract_50 : decode cX8_contract 50 = .ok (.iadd, 1) := by decide +kernel
theorem dX8_contract_51 : decode cX8_contract 51 = .ok (.invokestatic 54, 3) := by decide +kernel
theorem dX8_contract_54 : decode cX8_contract 54 = .ok (.iaload, 1) := by decide +kernel
theorem dX8_contract_55 : decode cX8_contract 55 = .ok (.ireturn, 1) := by decide +kernel
set_option maxRecDepth 20000 in
theorem ggX8_blame_X8_in : GoodIn wsX8_blame wsX8_in := goodIn_r _ [7] (by decide +kernel) (by decide +kernel)
set_option maxRecDepth 20000 in
theorem gX8_blame_X8_in : GoodIn wsX8_blame (va_wsS RX8 62 yX8_in wsX8_in) := goodIn_app (goodIn_of _ (by decide +kernel)) ggX8_blame_X8_in
set_option maxRecDepth 20000 in
theorem ggX8_blame_X8_refused : GoodIn wsX8_blame wsX8_refused := goodIn_r _ [11, 12, 13, 14, 15, 16, 17, 18, 19, 20, 21, 22, 23, 24, 25, 26, 27, 28] (by decide +kernel) (by decide +kernel)
set_option maxRecDepth 20000 in
theorem gX8_blame_X8_refused : GoodIn wsX8_blame (wsV RX8 108 RX8 yX8_refused wsX8_refused) := goodIn_app (goodIn_of _ (by decide +kernel)) ggX8_blame_X8_refused
theorem dX8_blame_0 : decode cX8_blame 0 = .ok (.aload_n 0, 1) := by decide +kernel
theorem dX8_blame_1 : decode cX8_blame 1 = .ok (.iload_n 1, 1) := by decide +kernel
theorem dX8_blame_2 : decode cX8_blame 2 = .ok (.i2l, 1) := by decide +kernel
theorem dX8_blame_3 : decode cX8_blame 3 = .ok (.lconst 0, 1) := by decide +kernel
theorem dX8_blame_4 : decode cX8_blame 4 = .ok (.ldc2_w 119, 3) := by decide +kernel
theorem dX8_blame_7 : decode cX8_blame 7 = .ok (.invokestatic 62, 3) := by decide +kernel
theorem dX8_blame_10 : decode cX8_blame 10 = .ok (.ifCond .eq 19, 3) := by decide +kernel
theorem dX8_blame_13 : decode cX8_blame 13 = .ok (.iload_n 2, 1) := by decide +kernel
theorem dX8_blame_14 : decode cX8_blame 14 = .ok (.i2l, 1) := by decide +kernel
theorem dX8_blame_15 : decode cX8_blame 15 = .ok (.lconst 0, 1) := by decide +kernel
theorem dX8_blame_16 : decode cX8_blame 16 = .ok (.ldc2_w 202, 3) := by decide +kernel
theorem dX8_blame_19 : decode cX8_blame 19 = .ok (.invokestatic 62, 3) := by decide +kernel
theorem dX8_blame_22 : decode cX8_blame 22 = .ok (.ifCond .eq 7, 3) := by decide +kernel
theorem dX8_blame_25 : decode cX8_blame 25 = .ok (.iconst 0, 1) := by decide +kernel
theorem dX8_blame_26 : decode cX8_blame 26 = .ok (.goto 4, 3) := by decide +kernel
theorem dX8_blame_29 : decode cX8_blame 29 = .ok (.iconst 1, 1) := by decide +kernel
theorem dX8_blame_30 : decode cX8_blame 30 = .ok (.invokevirtual 108, 3) := by decide +kernel
theorem dX8_blame_33 : decode cX8_blame 33 = .ok (.ifCond .eq 5, 3) := by decide +kernel
theorem dX8_blame_36 : decode cX8_blame 36 = .ok (.iconst 0, 1) := by decide +kernel
theorem dX8_blame_37 : decode cX8_blame 37 = .ok (.ireturn, 1) := by decide +kernel
theorem dX8_blame_38 : decode cX8_blame 38 = .ok (.iload_n 1, 1) := by decide +kernel
theorem dX8_blame_39 : decode cX8_blame 39 = .ok (.aload_n 0, 1) := by decide +kernel
theorem dX8_blame_40 : decode cX8_blame 40 = .ok (.getfield 16, 3) := by decide +kernel
theorem dX8_blame_43 : decode cX8_blame 43 = .ok (.sipush 687, 3) := by decide +kernel
theorem dX8_blame_46 : decode cX8_blame 46 = .ok (.iaload, 1) := by decide +kernel
theorem dX8_blame_47 : decode cX8_blame 47 = .ok (.if_icmp .ge 21, 3) := by decide +kernel
theorem dX8_blame_50 : decode cX8_blame 50 = .ok (.aload_n 0, 1) := by decide +kernel
theorem dX8_blame_51 : decode cX8_blame 51 = .ok (.getfield 16, 3) := by decide +kernel
theorem dX8_blame_54 : decode cX8_blame 54 = .ok (.sipush 688, 3) := by decide +kernel
theorem dX8_blame_57 : decode cX8_blame 57 = .ok (.bipush 6, 2) := by decide +kernel
theorem dX8_blame_59 : decode cX8_blame 59 = .ok (.iload_n 1, 1) := by decide +kernel
theorem dX8_blame_60 : decode cX8_blame 60 = .ok (.imul, 1) := by decide +kernel
theorem dX8_blame_61 : decode cX8_blame 61 = .ok (.iadd, 1) := by decide +kernel
theorem dX8_blame_62 : decode cX8_blame 62 = .ok (.iload_n 2, 1) := by decide +kernel
theorem dX8_blame_63 : decode cX8_blame 63 = .ok (.iadd, 1) := by decide +kernel
theorem dX8_blame_64 : decode cX8_blame 64 = .ok (.iaload, 1) := by decide +kernel
theorem dX8_blame_65 : decode cX8_blame 65 = .ok (.goto 6, 3) := by decide +kernel
theorem dX8_blame_68 : decode cX8_blame 68 = .ok (.sipush (-10000), 3) := by decide +kernel
theorem dX8_blame_71 : decode cX8_blame 71 = .ok (.ireturn, 1) := by decide +kernel
set_option maxRecDepth 20000 in
theorem ggX8_isSmall_X8_in : GoodIn wsX8_isSmall wsX8_in := goodIn_r _ [6] (by decide +kernel) (by decide +kernel)
set_option maxRecDepth 20000 in
theorem gX8_isSmall_X8_in : GoodIn wsX8_isSmall (va_wsS RX8 62 yX8_in wsX8_in) := goodIn_app (goodIn_of _ (by decide +kernel)) ggX8_isSmall_X8_in
theorem dX8_isSmall_0 : decode cX8_isSmall 0 = .ok (.iload_n 0, 1) := by decide +kernel
theorem dX8_isSmall_1 : decode cX8_isSmall 1 = .ok (.i2l, 1) := by decide +kernel
theorem dX8_isSmall_2 : decode cX8_isSmall 2 = .ok (.ldc2_w 204, 3) := by decide +kernel
theorem dX8_isSmall_5 : decode cX8_isSmall 5 = .ok (.ldc2_w 206, 3) := by decide +kernel
theorem dX8_isSmall_8 : decode cX8_isSmall 8 = .ok (.invokestatic 62, 3) := by decide +kernel
theorem dX8_isSmall_11 : decode cX8_isSmall 11 = .ok (.ireturn, 1) := by decide +kernel
set_option maxRecDepth 20000 in
theorem ggX8_add_X8_in : GoodIn wsX8_add wsX8_in := goodIn_r _ [7] (by decide +kernel) (by decide +kernel)
set_option maxRecDepth 20000 in
theorem gX8_add_X8_in : GoodIn wsX8_add (va_wsS RX8 62 yX8_in wsX8_in) := goodIn_app (goodIn_of _ (by decide +kernel)) ggX8_add_X8_in
set_option maxRecDepth 20000 in
theorem ggX8_add_X8_isSmall : GoodIn wsX8_add wsX8_isSmall := goodIn_r _ [10, 11, 12, 4, 5, 6, 7] (by decide +kernel) (by decide +kernel)
set_option maxRecDepth 20000 in
theorem gX8_add_X8_isSmall : GoodIn wsX8_add (va_wsS RX8 210 yX8_isSmall wsX8_isSmall) := goodIn_app (goodIn_of _ (by decide +kernel)) ggX8_add_X8_isSmall
set_option maxRecDepth 20000 in
theorem ggX8_add_X8_refused : GoodIn wsX8_add wsX8_refused := goodIn_r _ [16, 17, 33, 34, 35, 36, 37, 38, 39, 40, 41, 42, 43, 44, 45, 46, 47, 48] (by decide +kernel) (by decide +kernel)
set_option maxRecDepth 20000 in
theorem gX8_add_X8_refused : GoodIn wsX8_add (wsV RX8 108 RX8 yX8_refused wsX8_refused) := goodIn_app (goodIn_of _ (by decide +kernel)) ggX8_add_X8_refused
set_option maxRecDepth 20000 in
theorem ggX8_add_X8_remember : GoodIn wsX8_add wsX8_remember := goodIn_r _ [21, 22, 23, 3, 24, 25, 6, 26, 33, 34, 35, 36, 37, 38, 39, 40, 41, 42, 43, 44, 45, 46, 47, 48] (by decide +kernel) (by decide +kernel)
set_option maxRecDepth 20000 in
theorem gX8_add_X8_remember : GoodIn wsX8_add (wsV RX8 213 RX8 yX8_remember wsX8_remember) := goodIn_app (goodIn_of _ (by decide +kernel)) ggX8_add_X8_remember
set_option maxRecDepth 20000 in
theorem ggX8_add_X8_addIn : GoodIn wsX8_add wsX8_addIn := goodIn_r _ [29, 30, 31, 6, 32] (by decide +kernel) (by decide +kernel)
set_option maxRecDepth 20000 in
theorem gX8_add_X8_addIn : GoodIn wsX8_add (va_wsS RX8 141 yX8_addIn wsX8_addIn) := goodIn_app (goodIn_of _ (by decide +kernel)) ggX8_add_X8_addIn
theorem dX8_add_0 : decode cX8_add 0 = .ok (.iload_n 1, 1) := by decide +kernel
theorem dX8_add_1 : decode cX8_add 1 = .ok (.i2l, 1) := by decide +kernel
theorem dX8_add_2 : decode cX8_add 2 = .ok (.ldc2_w 208, 3) := by decide +kernel
theorem dX8_add_5 : decode cX8_add 5 = .ok (.ldc2_w 119, 3) := by decide +kernel
theorem dX8_add_8 : decode cX8_add 8 = .ok (.invokestatic 62, 3) := by decide +kernel
theorem dX8_add_11 : decode cX8_add 11 = .ok (.ifCond .eq 14, 3) := by decide +kernel
theorem dX8_add_14 : decode cX8_add 14 = .ok (.iload_n 2, 1) := by decide +kernel
theorem dX8_add_15 : decode cX8_add 15 = .ok (.invokestatic 210, 3) := by decide +kernel
theorem dX8_add_18 : decode cX8_add 18 = .ok (.ifCond .eq 7, 3) := by decide +kernel
theorem dX8_add_21 : decode cX8_add 21 = .ok (.iconst 1, 1) := by decide +kernel
theorem dX8_add_22 : decode cX8_add 22 = .ok (.goto 4, 3) := by decide +kernel
theorem dX8_add_25 : decode cX8_add 25 = .ok (.iconst 0, 1) := by decide +kernel
theorem dX8_add_26 : decode cX8_add 26 = .ok (.istore_n 3, 1) := by decide +kernel
theorem dX8_add_27 : decode cX8_add 27 = .ok (.aload_n 0, 1) := by decide +kernel
theorem dX8_add_28 : decode cX8_add 28 = .ok (.iload_n 3, 1) := by decide +kernel
theorem dX8_add_29 : decode cX8_add 29 = .ok (.ifCond .ne 7, 3) := by decide +kernel
theorem dX8_add_32 : decode cX8_add 32 = .ok (.iconst 1, 1) := by decide +kernel
theorem dX8_add_33 : decode cX8_add 33 = .ok (.goto 19, 3) := by decide +kernel
theorem dX8_add_36 : decode cX8_add 36 = .ok (.aload_n 0, 1) := by decide +kernel
theorem dX8_add_37 : decode cX8_add 37 = .ok (.getfield 16, 3) := by decide +kernel
theorem dX8_add_40 : decode cX8_add 40 = .ok (.iconst 0, 1) := by decide +kernel
theorem dX8_add_41 : decode cX8_add 41 = .ok (.iaload, 1) := by decide +kernel
theorem dX8_add_42 : decode cX8_add 42 = .ok (.bipush 10, 2) := by decide +kernel
theorem dX8_add_44 : decode cX8_add 44 = .ok (.if_icmp .ne 7, 3) := by decide +kernel
theorem dX8_add_47 : decode cX8_add 47 = .ok (.iconst 2, 1) := by decide +kernel
theorem dX8_add_48 : decode cX8_add 48 = .ok (.goto 4, 3) := by decide +kernel
theorem dX8_add_51 : decode cX8_add 51 = .ok (.iconst 0, 1) := by decide +kernel
theorem dX8_add_52 : decode cX8_add 52 = .ok (.invokevirtual 108, 3) := by decide +kernel
theorem dX8_add_55 : decode cX8_add 55 = .ok (.ifCond .eq 5, 3) := by decide +kernel
theorem dX8_add_58 : decode cX8_add 58 = .ok (.iconst 0, 1) := by decide +kernel
theorem dX8_add_59 : decode cX8_add 59 = .ok (.ireturn, 1) := by decide +kernel
theorem dX8_add_60 : decode cX8_add 60 = .ok (.aload_n 0, 1) := by decide +kernel
theorem dX8_add_61 : decode cX8_add 61 = .ok (.invokevirtual 213, 3) := by decide +kernel
theorem dX8_add_64 : decode cX8_add 64 = .ok (.aload_n 0, 1) := by decide +kernel
theorem dX8_add_65 : decode cX8_add 65 = .ok (.getfield 16, 3) := by decide +kernel
theorem dX8_add_68 : decode cX8_add 68 = .ok (.iload_n 1, 1) := by decide +kernel
theorem dX8_add_69 : decode cX8_add 69 = .ok (.iload_n 2, 1) := by decide +kernel
theorem dX8_add_70 : decode cX8_add 70 = .ok (.invokestatic 141, 3) := by decide +kernel
theorem dX8_add_73 : decode cX8_add 73 = .ok (.aload_n 0, 1) := by decide +kernel
theorem dX8_add_74 : decode cX8_add 74 = .ok (.getfield 16, 3) := by decide +kernel
theorem dX8_add_77 : decode cX8_add 77 = .ok (.iconst 0, 1) := by decide +kernel
theorem dX8_add_78 : decode cX8_add 78 = .ok (.iaload, 1) := by decide +kernel
theorem dX8_add_79 : decode cX8_add 79 = .ok (.iconst 1, 1) := by decide +kernel
theorem dX8_add_80 : decode cX8_add 80 = .ok (.isub, 1) := by decide +kernel
theorem dX8_add_81 : decode cX8_add 81 = .ok (.ireturn, 1) := by decide +kernel
set_option maxRecDepth 20000 in
theorem ggX8_chain_X8_isPart : GoodIn wsX8_chain wsX8_isPart := goodIn_r _ [7, 2, 8, 9, 6, 10, 42, 43, 44, 45, 46, 47, 48, 49, 50, 51, 52, 53, 54, 55, 56, 57] (by decide +kernel) (by decide +kernel)
set_option maxRecDepth 20000 in
theorem gX8_chain_X8_isPart : GoodIn wsX8_chain (wsV RX8 186 RX8 yX8_isPart wsX8_isPart) := goodIn_app (goodIn_of _ (by decide +kernel)) ggX8_chain_X8_isPart
set_option maxRecDepth 20000 in
theorem ggX8_chain_X8_in : GoodIn wsX8_chain wsX8_in := goodIn_r _ [10] (by decide +kernel) (by decide +kernel)
set_option maxRecDepth 20000 in
theorem gX8_chain_X8_in : GoodIn wsX8_chain (va_wsS RX8 62 yX8_in wsX8_in) := goodIn_app (goodIn_of _ (by decide +kernel)) ggX8_chain_X8_in
set_option maxRecDepth 20000 in
theorem ggX8_chain_X8_isSmall : GoodIn wsX8_chain wsX8_isSmall := goodIn_r _ [13, 14, 15, 8, 9, 6, 10] (by decide +kernel) (by decide +kernel)
set_option maxRecDepth 20000 in
theorem gX8_chain_X8_isSmall : GoodIn wsX8_chain (va_wsS RX8 210 yX8_isSmall wsX8_isSmall) := goodIn_app (goodIn_of _ (by decide +kernel)) ggX8_chain_X8_isSmall
set_option maxRecDepth 20000 in
theorem ggX8_chain_X8_refused : GoodIn wsX8_chain wsX8_refused := goodIn_r _ [19, 20, 42, 43, 44, 45, 46, 47, 48, 49, 50, 51, 52, 53, 54, 55, 56, 57] (by decide +kernel) (by decide +kernel)
set_option maxRecDepth 20000 in
theorem gX8_chain_X8_refused : GoodIn wsX8_chain (wsV RX8 108 RX8 yX8_refused wsX8_refused) := goodIn_app (goodIn_of _ (by decide +kernel)) ggX8_chain_X8_refused
set_option maxRecDepth 20000 in
theorem ggX8_chain_X8_remember : GoodIn wsX8_chain wsX8_remember := goodIn_r _ [24, 25, 26, 2, 27, 28, 6, 29, 42, 43, 44, 45, 46, 47, 48, 49, 50, 51, 52, 53, 54, 55, 56, 57] (by decide +kernel) (by decide +kernel)
set_option maxRecDepth 20000 in
theorem gX8_chain_X8_remember : GoodIn wsX8_chain (wsV RX8 213 RX8 yX8_remember wsX8_remember) := goodIn_app (goodIn_of _ (by decide +kernel)) ggX8_chain_X8_remember
set_option maxRecDepth 20000 in
theorem ggX8_chain_X8_chainIn : GoodIn wsX8_chain wsX8_chainIn := goodIn_r _ [32, 33, 34, 6, 35] (by decide +kernel) (by decide +kernel)
set_option maxRecDepth 20000 in
theorem gX8_chain_X8_chainIn : GoodIn wsX8_chain (va_wsS RX8 148 yX8_chainIn wsX8_chainIn) := goodIn_app (goodIn_of _ (by decide +kernel)) ggX8_chain_X8_chainIn
set_option maxRecDepth 20000 in
theorem ggX8_chain_X8_chainLength : GoodIn wsX8_chain wsX8_chainLength := goodIn_r _ [38, 39, 40, 6, 41, 33, 34, 35] (by decide +kernel) (by decide +kernel)
set_option maxRecDepth 20000 in
theorem gX8_chain_X8_chainLength : GoodIn wsX8_chain (va_wsS RX8 189 yX8_chainLength wsX8_chainLength) := goodIn_app (goodIn_of _ (by decide +kernel)) ggX8_chain_X8_chainLength
theorem dX8_chain_0 : decode cX8_chain 0 = .ok (.iload_n 2, 1) := by decide +kernel
theorem dX8_chain_1 : decode cX8_chain 1 = .ok (.sipush (-10000), 3) := by decide +kernel
theorem dX8_chain_4 : decode cX8_chain 4 = .ok (.if_icmp .eq 30, 3) := by decide +kernel
theorem dX8_chain_7 : decode cX8_chain 7 = .ok (.iload_n 2, 1) := by decide +kernel
theorem dX8_chain_8 : decode cX8_chain 8 = .ok (.i2l, 1) := by decide +kernel
theorem dX8_chain_9 : decode cX8_chain 9 = .ok (.lconst 0, 1) := by decide +kernel
theorem dX8_chain_10 : decode cX8_chain 10 = .ok (.aload_n 0, 1) := by decide +kernel
theorem dX8_chain_11 : decode cX8_chain 11 = .ok (.iload_n 1, 1) := by decide +kernel
theorem dX8_chain_12 : decode cX8_chain 12 = .ok (.invokevirtual 186, 3) := by decide +kernel
theorem dX8_chain_15 : decode cX8_chain 15 = .ok (.ifCond .eq 10, 3) := by decide +kernel
theorem dX8_chain_18 : decode cX8_chain 18 = .ok (.iload_n 1, 1) := by decide +kernel
theorem dX8_chain_19 : decode cX8_chain 19 = .ok (.iconst 1, 1) := by decide +kernel
theorem dX8_chain_20 : decode cX8_chain 20 = .ok (.isub, 1) := by decide +kernel
theorem dX8_chain_21 : decode cX8_chain 21 = .ok (.i2l, 1) := by decide +kernel
theorem dX8_chain_22 : decode cX8_chain 22 = .ok (.goto 6, 3) := by decide +kernel
theorem dX8_chain_25 : decode cX8_chain 25 = .ok (.ldc2_w 216, 3) := by decide +kernel
theorem dX8_chain_28 : decode cX8_chain 28 = .ok (.invokestatic 62, 3) := by decide +kernel
theorem dX8_chain_31 : decode cX8_chain 31 = .ok (.ifCond .eq 14, 3) := by decide +kernel
theorem dX8_chain_34 : decode cX8_chain 34 = .ok (.iload_n 3, 1) := by decide +kernel
theorem dX8_chain_35 : decode cX8_chain 35 = .ok (.invokestatic 210, 3) := by decide +kernel
theorem dX8_chain_38 : decode cX8_chain 38 = .ok (.ifCond .eq 7, 3) := by decide +kernel
theorem dX8_chain_41 : decode cX8_chain 41 = .ok (.iconst 1, 1) := by decide +kernel
theorem dX8_chain_42 : decode cX8_chain 42 = .ok (.goto 4, 3) := by decide +kernel
theorem dX8_chain_45 : decode cX8_chain 45 = .ok (.iconst 0, 1) := by decide +kernel
theorem dX8_chain_46 : decode cX8_chain 46 = .ok (.istore 4, 2) := by decide +kernel
theorem dX8_chain_48 : decode cX8_chain 48 = .ok (.aload_n 0, 1) := by decide +kernel
theorem dX8_chain_49 : decode cX8_chain 49 = .ok (.aload_n 0, 1) := by decide +kernel
theorem dX8_chain_50 : decode cX8_chain 50 = .ok (.iload_n 1, 1) := by decide +kernel
theorem dX8_chain_51 : decode cX8_chain 51 = .ok (.invokevirtual 186, 3) := by decide +kernel
theorem dX8_chain_54 : decode cX8_chain 54 = .ok (.ifCond .ne 7, 3) := by decide +kernel
theorem dX8_chain_57 : decode cX8_chain 57 = .ok (.iconst 1, 1) := by decide +kernel
theorem dX8_chain_58 : decode cX8_chain 58 = .ok (.goto 13, 3) := by decide +kernel
theorem dX8_chain_61 : decode cX8_chain 61 = .ok (.iload 4, 2) := by decide +kernel
theorem dX8_chain_63 : decode cX8_chain 63 = .ok (.ifCond .eq 7, 3) := by decide +kernel
theorem dX8_chain_66 : decode cX8_chain 66 = .ok (.iconst 0, 1) := by decide +kernel
theorem dX8_chain_67 : decode cX8_chain 67 = .ok (.goto 4, 3) := by decide +kernel
theorem dX8_chain_70 : decode cX8_chain 70 = .ok (.iconst 2, 1) := by decide +kernel
theorem dX8_chain_71 : decode cX8_chain 71 = .ok (.invokevirtual 108, 3) := by decide +kernel
theorem dX8_chain_74 : decode cX8_chain 74 = .ok (.ifCond .eq 5, 3) := by decide +kernel
theorem dX8_chain_77 : decode cX8_chain 77 = .ok (.iconst 0, 1) := by decide +kernel
theorem dX8_chain_78 : decode cX8_chain 78 = .ok (.ireturn, 1) := by decide +kernel
theorem dX8_chain_79 : decode cX8_chain 79 = .ok (.aload_n 0, 1) := by decide +kernel
theorem dX8_chain_80 : decode cX8_chain 80 = .ok (.invokevirtual 213, 3) := by decide +kernel
theorem dX8_chain_83 : decode cX8_chain 83 = .ok (.aload_n 0, 1) := by decide +kernel
theorem dX8_chain_84 : decode cX8_chain 84 = .ok (.getfield 16, 3) := by decide +kernel
theorem dX8_chain_87 : decode cX8_chain 87 = .ok (.iload_n 1, 1) := by decide +kernel
theorem dX8_chain_88 : decode cX8_chain 88 = .ok (.iload_n 2, 1) := by decide +kernel
theorem dX8_chain_89 : decode cX8_chain 89 = .ok (.iload_n 3, 1) := by decide +kernel
theorem dX8_chain_90 : decode cX8_chain 90 = .ok (.invokestatic 148, 3) := by decide +kernel
theorem dX8_chain_93 : decode cX8_chain 93 = .ok (.aload_n 0, 1) := by decide +kernel
theorem dX8_chain_94 : decode cX8_chain 94 = .ok (.getfield 16, 3) := by decide +kernel
theorem dX8_chain_97 : decode cX8_chain 97 = .ok (.iload_n 1, 1) := by decide +kernel
theorem dX8_chain_98 : decode cX8_chain 98 = .ok (.invokestatic 189, 3) := by decide +kernel
theorem dX8_chain_101 : decode cX8_chain 101 = .ok (.ireturn, 1) := by decide +kernel
set_option maxRecDepth 20000 in
theorem ggX8_net_X8_isPart : GoodIn wsX8_net wsX8_isPart := goodIn_r _ [6, 1, 7, 8, 5, 9, 32, 33, 34, 35, 36, 37, 38, 39, 40, 41, 42, 43, 44, 45, 46, 47] (by decide +kernel) (by decide +kernel)
set_option maxRecDepth 20000 in
theorem gX8_net_X8_isPart : GoodIn wsX8_net (wsV RX8 186 RX8 yX8_isPart wsX8_isPart) := goodIn_app (goodIn_of _ (by decide +kernel)) ggX8_net_X8_isPart
set_option maxRecDepth 20000 in
theorem ggX8_net_X8_isSmall : GoodIn wsX8_net wsX8_isSmall := goodIn_r _ [12, 13, 14, 7, 8, 5, 9] (by decide +kernel) (by decide +kernel)
set_option maxRecDepth 20000 in
theorem gX8_net_X8_isSmall : GoodIn wsX8_net (va_wsS RX8 210 yX8_isSmall wsX8_isSmall) := goodIn_app (goodIn_of _ (by decide +kernel)) ggX8_net_X8_isSmall
set_option maxRecDepth 20000 in
theorem ggX8_net_X8_refused : GoodIn wsX8_net wsX8_refused := goodIn_r _ [18, 19, 32, 33, 34, 35, 36, 37, 38, 39, 40, 41, 42, 43, 44, 45, 46, 47] (by decide +kernel) (by decide +kernel)
set_option maxRecDepth 20000 in
theorem gX8_net_X8_refused : GoodIn wsX8_net (wsV RX8 108 RX8 yX8_refused wsX8_refused) := goodIn_app (goodIn_of _ (by decide +kernel)) ggX8_net_X8_refused
set_option maxRecDepth 20000 in
theorem ggX8_net_X8_remember : GoodIn wsX8_net wsX8_remember := goodIn_r _ [23, 24, 25, 1, 26, 27, 5, 28, 32, 33, 34, 35, 36, 37, 38, 39, 40, 41, 42, 43, 44, 45, 46, 47] (by decide +kernel) (by decide +kernel)
set_option maxRecDepth 20000 in
theorem gX8_net_X8_remember : GoodIn wsX8_net (wsV RX8 213 RX8 yX8_remember wsX8_remember) := goodIn_app (goodIn_of _ (by decide +kernel)) ggX8_net_X8_remember
set_option maxRecDepth 20000 in
theorem ggX8_net_X8_partAt : GoodIn wsX8_net wsX8_partAt := goodIn_r _ [31] (by decide +kernel) (by decide +kernel)
set_option maxRecDepth 20000 in
theorem gX8_net_X8_partAt : GoodIn wsX8_net (va_wsS RX8 66 yX8_partAt wsX8_partAt) := goodIn_app (goodIn_of _ (by decide +kernel)) ggX8_net_X8_partAt
theorem dX8_net_0 : decode cX8_net 0 = .ok (.aload_n 0, 1) := by decide +kernel
theorem dX8_net_1 : decode cX8_net 1 = .ok (.aload_n 0, 1) := by decide +kernel
theorem dX8_net_2 : decode cX8_net 2 = .ok (.iload_n 1, 1) := by decide +kernel
theorem dX8_net_3 : decode cX8_net 3 = .ok (.invokevirtual 186, 3) := by decide +kernel
theorem dX8_net_6 : decode cX8_net 6 = .ok (.ifCond .ne 7, 3) := by decide +kernel
theorem dX8_net_9 : decode cX8_net 9 = .ok (.iconst 1, 1) := by decide +kernel
theorem dX8_net_10 : decode cX8_net 10 = .ok (.goto 22, 3) := by decide +kernel
theorem dX8_net_13 : decode cX8_net 13 = .ok (.iload_n 2, 1) := by decide +kernel
theorem dX8_net_14 : decode cX8_net 14 = .ok (.sipush (-10000), 3) := by decide +kernel
theorem dX8_net_17 : decode cX8_net 17 = .ok (.if_icmp .eq 10, 3) := by decide +kernel
theorem dX8_net_20 : decode cX8_net 20 = .ok (.iload_n 2, 1) := by decide +kernel
theorem dX8_net_21 : decode cX8_net 21 = .ok (.invokestatic 210, 3) := by decide +kernel
theorem dX8_net_24 : decode cX8_net 24 = .ok (.ifCond .eq 7, 3) := by decide +kernel
theorem dX8_net_27 : decode cX8_net 27 = .ok (.iconst 0, 1) := by decide +kernel
theorem dX8_net_28 : decode cX8_net 28 = .ok (.goto 4, 3) := by decide +kernel
theorem dX8_net_31 : decode cX8_net 31 = .ok (.iconst 2, 1) := by decide +kernel
theorem dX8_net_32 : decode cX8_net 32 = .ok (.invokevirtual 108, 3) := by decide +kernel
theorem dX8_net_35 : decode cX8_net 35 = .ok (.ifCond .eq 5, 3) := by decide +kernel
theorem dX8_net_38 : decode cX8_net 38 = .ok (.iconst 0, 1) := by decide +kernel
theorem dX8_net_39 : decode cX8_net 39 = .ok (.ireturn, 1) := by decide +kernel
theorem dX8_net_40 : decode cX8_net 40 = .ok (.aload_n 0, 1) := by decide +kernel
theorem dX8_net_41 : decode cX8_net 41 = .ok (.invokevirtual 213, 3) := by decide +kernel
theorem dX8_net_44 : decode cX8_net 44 = .ok (.aload_n 0, 1) := by decide +kernel
theorem dX8_net_45 : decode cX8_net 45 = .ok (.getfield 16, 3) := by decide +kernel
theorem dX8_net_48 : decode cX8_net 48 = .ok (.iload_n 1, 1) := by decide +kernel
theorem dX8_net_49 : decode cX8_net 49 = .ok (.iconst 4, 1) := by decide +kernel
theorem dX8_net_50 : decode cX8_net 50 = .ok (.invokestatic 66, 3) := by decide +kernel
theorem dX8_net_53 : decode cX8_net 53 = .ok (.iaload, 1) := by decide +kernel
theorem dX8_net_54 : decode cX8_net 54 = .ok (.istore_n 3, 1) := by decide +kernel
theorem dX8_net_55 : decode cX8_net 55 = .ok (.aload_n 0, 1) := by decide +kernel
theorem dX8_net_56 : decode cX8_net 56 = .ok (.getfield 16, 3) := by decide +kernel
theorem dX8_net_59 : decode cX8_net 59 = .ok (.iload_n 1, 1) := by decide +kernel
theorem dX8_net_60 : decode cX8_net 60 = .ok (.iconst 4, 1) := by decide +kernel
theorem dX8_net_61 : decode cX8_net 61 = .ok (.invokestatic 66, 3) := by decide +kernel
theorem dX8_net_64 : decode cX8_net 64 = .ok (.iload_n 2, 1) := by decide +kernel
theorem dX8_net_65 : decode cX8_net 65 = .ok (.iastore, 1) := by decide +kernel
theorem dX8_net_66 : decode cX8_net 66 = .ok (.iload_n 3, 1) := by decide +kernel
theorem dX8_net_67 : decode cX8_net 67 = .ok (.ireturn, 1) := by decide +kernel
set_option maxRecDepth 20000 in
theorem ggX8_isRange_X8_in : GoodIn wsX8_isRange wsX8_in := goodIn_r _ [6] (by decide +kernel) (by decide +kernel)
set_option maxRecDepth 20000 in
theorem gX8_isRange_X8_in : GoodIn wsX8_isRange (va_wsS RX8 62 yX8_in wsX8_in) := goodIn_app (goodIn_of _ (by decide +kernel)) ggX8_isRange_X8_in
theorem dX8_isRange_0 : decode cX8_isRange 0 = .ok (.iload_n 0, 1) := by decide +kernel
theorem dX8_isRange_1 : decode cX8_isRange 1 = .ok (.i2l, 1) := by decide +kernel
theorem dX8_isRange_2 : decode cX8_isRange 2 = .ok (.ldc2_w 218, 3) := by decide +kernel
theorem dX8_isRange_5 : decode cX8_isRange 5 = .ok (.ldc2_w 220, 3) := by decide +kernel
theorem dX8_isRange_8 : decode cX8_isRange 8 = .ok (.invokestatic 62, 3) := by decide +kernel
theorem dX8_isRange_11 : decode cX8_isRange 11 = .ok (.ifCond .eq 26, 3) := by decide +kernel
theorem dX8_isRange_14 : decode cX8_isRange 14 = .ok (.iload_n 1, 1) := by decide +kernel
theorem dX8_isRange_15 : decode cX8_isRange 15 = .ok (.i2l, 1) := by decide +kernel
theorem dX8_isRange_16 : decode cX8_isRange 16 = .ok (.ldc2_w 218, 3) := by decide +kernel
theorem dX8_isRange_19 : decode cX8_isRange 19 = .ok (.ldc2_w 220, 3) := by decide +kernel
theorem dX8_isRange_22 : decode cX8_isRange 22 = .ok (.invokestatic 62, 3) := by decide +kernel
theorem dX8_isRange_25 : decode cX8_isRange 25 = .ok (.ifCond .eq 12, 3) := by decide +kernel
theorem dX8_isRange_28 : decode cX8_isRange 28 = .ok (.iload_n 0, 1) := by decide +kernel
theorem dX8_isRange_29 : decode cX8_isRange 29 = .ok (.iload_n 1, 1) := by decide +kernel
theorem dX8_isRange_30 : decode cX8_isRange 30 = .ok (.if_icmp .gt 7, 3) := by decide +kernel
theorem dX8_isRange_33 : decode cX8_isRange 33 = .ok (.iconst 1, 1) := by decide +kernel
theorem dX8_isRange_34 : decode cX8_isRange 34 = .ok (.goto 4, 3) := by decide +kernel
theorem dX8_isRange_37 : decode cX8_isRange 37 = .ok (.iconst 0, 1) := by decide +kernel
theorem dX8_isRange_38 : decode cX8_isRange 38 = .ok (.ireturn, 1) := by decide +kernel
set_option maxRecDepth 20000 in
theorem ggX8_own_X8_isRange : GoodIn wsX8_own wsX8_isRange := goodIn_r _ [5, 6, 7, 8, 9, 4, 10] (by decide +kernel) (by decide +kernel)
set_option maxRecDepth 20000 in
theorem gX8_own_X8_isRange : GoodIn wsX8_own (va_wsS RX8 222 yX8_isRange wsX8_isRange) := goodIn_app (goodIn_of _ (by decide +kernel)) ggX8_own_X8_isRange
set_option maxRecDepth 20000 in
theorem ggX8_own_X8_isPart : GoodIn wsX8_own wsX8_isPart := goodIn_r _ [14, 1, 8, 9, 4, 10, 38, 39, 40, 41, 42, 43, 44, 45, 46, 47, 48, 49, 50, 51, 52, 53] (by decide +kernel) (by decide +kernel)
set_option maxRecDepth 20000 in
theorem gX8_own_X8_isPart : GoodIn wsX8_own (wsV RX8 186 RX8 yX8_isPart wsX8_isPart) := goodIn_app (goodIn_of _ (by decide +kernel)) ggX8_own_X8_isPart
set_option maxRecDepth 20000 in
theorem ggX8_own_X8_refused : GoodIn wsX8_own wsX8_refused := goodIn_r _ [18, 19, 38, 39, 40, 41, 42, 43, 44, 45, 46, 47, 48, 49, 50, 51, 52, 53] (by decide +kernel) (by decide +kernel)
set_option maxRecDepth 20000 in
theorem gX8_own_X8_refused : GoodIn wsX8_own (wsV RX8 108 RX8 yX8_refused wsX8_refused) := goodIn_app (goodIn_of _ (by decide +kernel)) ggX8_own_X8_refused
set_option maxRecDepth 20000 in
theorem ggX8_own_X8_remember : GoodIn wsX8_own wsX8_remember := goodIn_r _ [23, 24, 25, 1, 26, 27, 4, 28, 38, 39, 40, 41, 42, 43, 44, 45, 46, 47, 48, 49, 50, 51, 52, 53] (by decide +kernel) (by decide +kernel)
set_option maxRecDepth 20000 in
theorem gX8_own_X8_remember : GoodIn wsX8_own (wsV RX8 213 RX8 yX8_remember wsX8_remember) := goodIn_app (goodIn_of _ (by decide +kernel)) ggX8_own_X8_remember
set_option maxRecDepth 20000 in
theorem ggX8_own_X8_promise : GoodIn wsX8_own wsX8_promise := goodIn_r _ [31, 32, 33, 4, 34] (by decide +kernel) (by decide +kernel)
set_option maxRecDepth 20000 in
theorem gX8_own_X8_promise : GoodIn wsX8_own (va_wsS RX8 152 yX8_promise wsX8_promise) := goodIn_app (goodIn_of _ (by decide +kernel)) ggX8_own_X8_promise
set_option maxRecDepth 20000 in
theorem ggX8_own_X8_contracts : GoodIn wsX8_own wsX8_contracts := goodIn_r _ [37, 32, 33, 4, 34] (by decide +kernel) (by decide +kernel)
set_option maxRecDepth 20000 in
theorem gX8_own_X8_contracts : GoodIn wsX8_own (va_wsS RX8 183 yX8_contracts wsX8_contracts) := goodIn_app (goodIn_of _ (by decide +kernel)) ggX8_own_X8_contracts
theorem dX8_own_0 : decode cX8_own 0 = .ok (.iload_n 2, 1) := by decide +kernel
theorem dX8_own_1 : decode cX8_own 1 = .ok (.iload_n 3, 1) := by decide +kernel
theorem dX8_own_2 : decode cX8_own 2 = .ok (.invokestatic 222, 3) := by decide +kernel
theorem dX8_own_5 : decode cX8_own 5 = .ok (.ifCond .eq 17, 3) := by decide +kernel
theorem dX8_own_8 : decode cX8_own 8 = .ok (.iload 4, 2) := by decide +kernel
theorem dX8_own_10 : decode cX8_own 10 = .ok (.iload 5, 2) := by decide +kernel
theorem dX8_own_12 : decode cX8_own 12 = .ok (.invokestatic 222, 3) := by decide +kernel
theorem dX8_own_15 : decode cX8_own 15 = .ok (.ifCond .eq 7, 3) := by decide +kernel
theorem dX8_own_18 : decode cX8_own 18 = .ok (.iconst 1, 1) := by decide +kernel
theorem dX8_own_19 : decode cX8_own 19 = .ok (.goto 4, 3) := by decide +kernel
theorem dX8_own_22 : decode cX8_own 22 = .ok (.iconst 0, 1) := by decide +kernel
theorem dX8_own_23 : decode cX8_own 23 = .ok (.istore 6, 2) := by decide +kernel
theorem dX8_own_25 : decode cX8_own 25 = .ok (.aload_n 0, 1) := by decide +kernel
theorem dX8_own_26 : decode cX8_own 26 = .ok (.aload_n 0, 1) := by decide +kernel
theorem dX8_own_27 : decode cX8_own 27 = .ok (.iload_n 1, 1) := by decide +kernel
theorem dX8_own_28 : decode cX8_own 28 = .ok (.invokevirtual 186, 3) := by decide +kernel
theorem dX8_own_31 : decode cX8_own 31 = .ok (.ifCond .ne 7, 3) := by decide +kernel
theorem dX8_own_34 : decode cX8_own 34 = .ok (.iconst 1, 1) := by decide +kernel
theorem dX8_own_35 : decode cX8_own 35 = .ok (.goto 13, 3) := by decide +kernel
theorem dX8_own_38 : decode cX8_own 38 = .ok (.iload 6, 2) := by decide +kernel
theorem dX8_own_40 : decode cX8_own 40 = .ok (.ifCond .eq 7, 3) := by decide +kernel
theorem dX8_own_43 : decode cX8_own 43 = .ok (.iconst 0, 1) := by decide +kernel
theorem dX8_own_44 : decode cX8_own 44 = .ok (.goto 4, 3) := by decide +kernel
theorem dX8_own_47 : decode cX8_own 47 = .ok (.iconst 2, 1) := by decide +kernel
theorem dX8_own_48 : decode cX8_own 48 = .ok (.invokevirtual 108, 3) := by decide +kernel
theorem dX8_own_51 : decode cX8_own 51 = .ok (.ifCond .eq 5, 3) := by decide +kernel
theorem dX8_own_54 : decode cX8_own 54 = .ok (.iconst 0, 1) := by decide +kernel
theorem dX8_own_55 : decode cX8_own 55 = .ok (.ireturn, 1) := by decide +kernel
theorem dX8_own_56 : decode cX8_own 56 = .ok (.aload_n 0, 1) := by decide +kernel
theorem dX8_own_57 : decode cX8_own 57 = .ok (.invokevirtual 213, 3) := by decide +kernel
theorem dX8_own_60 : decode cX8_own 60 = .ok (.aload_n 0, 1) := by decide +kernel
theorem dX8_own_61 : decode cX8_own 61 = .ok (.getfield 16, 3) := by decide +kernel
theorem dX8_own_64 : decode cX8_own 64 = .ok (.iconst 0, 1) := by decide +kernel
theorem dX8_own_65 : decode cX8_own 65 = .ok (.iload_n 1, 1) := by decide +kernel
theorem dX8_own_66 : decode cX8_own 66 = .ok (.iload_n 2, 1) := by decide +kernel
theorem dX8_own_67 : decode cX8_own 67 = .ok (.iload_n 3, 1) := by decide +kernel
theorem dX8_own_68 : decode cX8_own 68 = .ok (.iload 4, 2) := by decide +kernel
theorem dX8_own_70 : decode cX8_own 70 = .ok (.iload 5, 2) := by decide +kernel
theorem dX8_own_72 : decode cX8_own 72 = .ok (.invokestatic 152, 3) := by decide +kernel
theorem dX8_own_75 : decode cX8_own 75 = .ok (.aload_n 0, 1) := by decide +kernel
theorem dX8_own_76 : decode cX8_own 76 = .ok (.getfield 16, 3) := by decide +kernel
theorem dX8_own_79 : decode cX8_own 79 = .ok (.iconst 0, 1) := by decide +kernel
theorem dX8_own_80 : decode cX8_own 80 = .ok (.iconst 0, 1) := by decide +kernel
theorem dX8_own_81 : decode cX8_own 81 = .ok (.invokestatic 183, 3) := by decide +kernel
theorem dX8_own_84 : decode cX8_own 84 = .ok (.ireturn, 1) := by decide +kernel
set_option maxRecDepth 20000 in
theorem ggX8_link_X8_isPart : GoodIn wsX8_link wsX8_isPart := goodIn_r _ [6, 1, 7, 8, 5, 9, 41, 42, 43, 44, 45, 46, 47, 48, 49, 50, 51, 52, 53, 54, 55, 56] (by decide +kernel) (by decide +kernel)
set_option maxRecDepth 20000 in
theorem gX8_link_X8_isPart : GoodIn wsX8_link (wsV RX8 186 RX8 yX8_isPart wsX8_isPart) := goodIn_app (goodIn_of _ (by decide +kernel)) ggX8_link_X8_isPart
set_option maxRecDepth 20000 in
theorem ggX8_link_X8_isRange : GoodIn wsX8_link wsX8_isRange := goodIn_r _ [12, 13, 14, 7, 8, 5, 9] (by decide +kernel) (by decide +kernel)
set_option maxRecDepth 20000 in
theorem gX8_link_X8_isRange : GoodIn wsX8_link (va_wsS RX8 222 yX8_isRange wsX8_isRange) := goodIn_app (goodIn_of _ (by decide +kernel)) ggX8_link_X8_isRange
set_option maxRecDepth 20000 in
theorem ggX8_link_X8_refused : GoodIn wsX8_link wsX8_refused := goodIn_r _ [18, 19, 41, 42, 43, 44, 45, 46, 47, 48, 49, 50, 51, 52, 53, 54, 55, 56] (by decide +kernel) (by decide +kernel)
set_option maxRecDepth 20000 in
theorem gX8_link_X8_refused : GoodIn wsX8_link (wsV RX8 108 RX8 yX8_refused wsX8_refused) := goodIn_app (goodIn_of _ (by decide +kernel)) ggX8_link_X8_refused
set_option maxRecDepth 20000 in
theorem ggX8_link_X8_remember : GoodIn wsX8_link wsX8_remember := goodIn_r _ [23, 24, 25, 1, 26, 27, 5, 28, 41, 42, 43, 44, 45, 46, 47, 48, 49, 50, 51, 52, 53, 54, 55, 56] (by decide +kernel) (by decide +kernel)
set_option maxRecDepth 20000 in
theorem gX8_link_X8_remember : GoodIn wsX8_link (wsV RX8 213 RX8 yX8_remember wsX8_remember) := goodIn_app (goodIn_of _ (by decide +kernel)) ggX8_link_X8_remember
set_option maxRecDepth 20000 in
theorem ggX8_link_X8_sideOf : GoodIn wsX8_link wsX8_sideOf := goodIn_r _ [31] (by decide +kernel) (by decide +kernel)
set_option maxRecDepth 20000 in
theorem gX8_link_X8_sideOf : GoodIn wsX8_link (va_wsS RX8 74 yX8_sideOf wsX8_sideOf) := goodIn_app (goodIn_of _ (by decide +kernel)) ggX8_link_X8_sideOf
set_option maxRecDepth 20000 in
theorem ggX8_link_X8_promise : GoodIn wsX8_link wsX8_promise := goodIn_r _ [34, 35, 36, 5, 37] (by decide +kernel) (by decide +kernel)
set_option maxRecDepth 20000 in
theorem gX8_link_X8_promise : GoodIn wsX8_link (va_wsS RX8 152 yX8_promise wsX8_promise) := goodIn_app (goodIn_of _ (by decide +kernel)) ggX8_link_X8_promise
set_option maxRecDepth 20000 in
theorem ggX8_link_X8_contracts : GoodIn wsX8_link wsX8_contracts := goodIn_r _ [40, 35, 36, 5, 37] (by decide +kernel) (by decide +kernel)
set_option maxRecDepth 20000 in
theorem gX8_link_X8_contracts : GoodIn wsX8_link (va_wsS RX8 183 yX8_contracts wsX8_contracts) := goodIn_app (goodIn_of _ (by decide +kernel)) ggX8_link_X8_contracts
theorem dX8_link_0 : decode cX8_link 0 = .ok (.iload_n 1, 1) := by decide +kernel
theorem dX8_link_1 : decode cX8_link 1 = .ok (.sipush (-10000), 3) := by decide +kernel
theorem dX8_link_4 : decode cX8_link 4 = .ok (.if_icmp .eq 16, 3) := by decide +kernel
theorem dX8_link_7 : decode cX8_link 7 = .ok (.aload_n 0, 1) := by decide +kernel
theorem dX8_link_8 : decode cX8_link 8 = .ok (.iload_n 1, 1) := by decide +kernel
theorem dX8_link_9 : decode cX8_link 9 = .ok (.invokevirtual 186, 3) := by decide +kernel
theorem dX8_link_12 : decode cX8_link 12 = .ok (.ifCond .eq 31, 3) := by decide +kernel
theorem dX8_link_15 : decode cX8_link 15 = .ok (.iload_n 1, 1) := by decide +kernel
theorem dX8_link_16 : decode cX8_link 16 = .ok (.iload_n 2, 1) := by decide +kernel
theorem dX8_link_17 : decode cX8_link 17 = .ok (.if_icmp .le 26, 3) := by decide +kernel
theorem dX8_link_20 : decode cX8_link 20 = .ok (.iload_n 3, 1) := by decide +kernel
theorem dX8_link_21 : decode cX8_link 21 = .ok (.iload 4, 2) := by decide +kernel
theorem dX8_link_23 : decode cX8_link 23 = .ok (.invokestatic 222, 3) := by decide +kernel
theorem dX8_link_26 : decode cX8_link 26 = .ok (.ifCond .eq 17, 3) := by decide +kernel
theorem dX8_link_29 : decode cX8_link 29 = .ok (.iload 5, 2) := by decide +kernel
theorem dX8_link_31 : decode cX8_link 31 = .ok (.iload 6, 2) := by decide +kernel
theorem dX8_link_33 : decode cX8_link 33 = .ok (.invokestatic 222, 3) := by decide +kernel
theorem dX8_link_36 : decode cX8_link 36 = .ok (.ifCond .eq 7, 3) := by decide +kernel
theorem dX8_link_39 : decode cX8_link 39 = .ok (.iconst 1, 1) := by decide +kernel
theorem dX8_link_40 : decode cX8_link 40 = .ok (.goto 4, 3) := by decide +kernel
theorem dX8_link_43 : decode cX8_link 43 = .ok (.iconst 0, 1) := by decide +kernel
theorem dX8_link_44 : decode cX8_link 44 = .ok (.istore 7, 2) := by decide +kernel
theorem dX8_link_46 : decode cX8_link 46 = .ok (.aload_n 0, 1) := by decide +kernel
theorem dX8_link_47 : decode cX8_link 47 = .ok (.aload_n 0, 1) := by decide +kernel
theorem dX8_link_48 : decode cX8_link 48 = .ok (.iload_n 2, 1) := by decide +kernel
theorem dX8_link_49 : decode cX8_link 49 = .ok (.invokevirtual 186, 3) := by decide +kernel
theorem dX8_link_52 : decode cX8_link 52 = .ok (.ifCond .ne 7, 3) := by decide +kernel
theorem dX8_link_55 : decode cX8_link 55 = .ok (.iconst 1, 1) := by decide +kernel
theorem dX8_link_56 : decode cX8_link 56 = .ok (.goto 13, 3) := by decide +kernel
theorem dX8_link_59 : decode cX8_link 59 = .ok (.iload 7, 2) := by decide +kernel
theorem dX8_link_61 : decode cX8_link 61 = .ok (.ifCond .eq 7, 3) := by decide +kernel
theorem dX8_link_64 : decode cX8_link 64 = .ok (.iconst 0, 1) := by decide +kernel
theorem dX8_link_65 : decode cX8_link 65 = .ok (.goto 4, 3) := by decide +kernel
theorem dX8_link_68 : decode cX8_link 68 = .ok (.iconst 2, 1) := by decide +kernel
theorem dX8_link_69 : decode cX8_link 69 = .ok (.invokevirtual 108, 3) := by decide +kernel
theorem dX8_link_72 : decode cX8_link 72 = .ok (.ifCond .eq 5, 3) := by decide +kernel
theorem dX8_link_75 : decode cX8_link 75 = .ok (.iconst 0, 1) := by decide +kernel
theorem dX8_link_76 : decode cX8_link 76 = .ok (.ireturn, 1) := by decide +kernel
theorem dX8_link_77 : decode cX8_link 77 = .ok (.aload_n 0, 1) := by decide +kernel
theorem dX8_link_78 : decode cX8_link 78 = .ok (.invokevirtual 213, 3) := by decide +kernel
theorem dX8_link_81 : decode cX8_link 81 = .ok (.aload_n 0, 1) := by decide +kernel
theorem dX8_link_82 : decode cX8_link 82 = .ok (.getfield 16, 3) := by decide +kernel
theorem dX8_link_85 : decode cX8_link 85 = .ok (.iload_n 1, 1) := by decide +kernel
theorem dX8_link_86 : decode cX8_link 86 = .ok (.invokestatic 74, 3) := by decide +kernel
theorem dX8_link_89 : decode cX8_link 89 = .ok (.iload_n 2, 1) := by decide +kernel
theorem dX8_link_90 : decode cX8_link 90 = .ok (.iload_n 3, 1) := by decide +kernel
theorem dX8_link_91 : decode cX8_link 91 = .ok (.iload 4, 2) := by decide +kernel
theorem dX8_link_93 : decode cX8_link 93 = .ok (.iload 5, 2) := by decide +kernel
theorem dX8_link_95 : decode cX8_link 95 = .ok (.iload 6, 2) := by decide +kernel
theorem dX8_link_97 : decode cX8_link 97 = .ok (.invokestatic 152, 3) := by decide +kernel
theorem dX8_link_100 : decode cX8_link 100 = .ok (.aload_n 0, 1) := by decide +kernel
theorem dX8_link_101 : decode cX8_link 101 = .ok (.getfield 16, 3) := by decide +kernel
theorem dX8_link_104 : decode cX8_link 104 = .ok (.iconst 1, 1) := by decide +kernel
theorem dX8_link_105 : decode cX8_link 105 = .ok (.bipush 11, 2) := by decide +kernel
theorem dX8_link_107 : decode cX8_link 107 = .ok (.invokestatic 183, 3) := by decide +kernel
theorem dX8_link_110 : decode cX8_link 110 = .ok (.ireturn, 1) := by decide +kernel
set_option maxRecDepth 20000 in
theorem ggX8_drop_X8_isContract : GoodIn wsX8_drop wsX8_isContract := goodIn_r _ [6, 7, 8, 1, 9, 10, 11, 5, 12, 13, 14, 15, 16, 17, 18, 19, 20, 21, 22, 23, 24, 42, 43, 44, 45, 46, 47, 48, 49, 50, 51, 52, 53, 54, 55, 56, 57] (by decide +kernel) (by decide +kernel)
set_option maxRecDepth 20000 in
theorem gX8_drop_X8_isContract : GoodIn wsX8_drop (wsV RX8 196 RX8 yX8_isContract wsX8_isContract) := goodIn_app (goodIn_of _ (by decide +kernel)) ggX8_drop_X8_isContract
set_option maxRecDepth 20000 in
theorem ggX8_drop_X8_refused : GoodIn wsX8_drop wsX8_refused := goodIn_r _ [28, 29, 42, 43, 44, 45, 46, 47, 48, 49, 50, 51, 52, 53, 54, 55, 56, 57] (by decide +kernel) (by decide +kernel)
set_option maxRecDepth 20000 in
theorem gX8_drop_X8_refused : GoodIn wsX8_drop (wsV RX8 108 RX8 yX8_refused wsX8_refused) := goodIn_app (goodIn_of _ (by decide +kernel)) ggX8_drop_X8_refused
set_option maxRecDepth 20000 in
theorem ggX8_drop_X8_remember : GoodIn wsX8_drop wsX8_remember := goodIn_r _ [33, 34, 35, 1, 36, 37, 5, 38, 42, 43, 44, 45, 46, 47, 48, 49, 50, 51, 52, 53, 54, 55, 56, 57] (by decide +kernel) (by decide +kernel)
set_option maxRecDepth 20000 in
theorem gX8_drop_X8_remember : GoodIn wsX8_drop (wsV RX8 213 RX8 yX8_remember wsX8_remember) := goodIn_app (goodIn_of _ (by decide +kernel)) ggX8_drop_X8_remember
set_option maxRecDepth 20000 in
theorem ggX8_drop_X8_sideOf : GoodIn wsX8_drop wsX8_sideOf := goodIn_r _ [18] (by decide +kernel) (by decide +kernel)
set_option maxRecDepth 20000 in
theorem gX8_drop_X8_sideOf : GoodIn wsX8_drop (va_wsS RX8 74 yX8_sideOf wsX8_sideOf) := goodIn_app (goodIn_of _ (by decide +kernel)) ggX8_drop_X8_sideOf
set_option maxRecDepth 20000 in
theorem ggX8_drop_X8_contractAt : GoodIn wsX8_drop wsX8_contractAt := goodIn_r _ [24] (by decide +kernel) (by decide +kernel)
set_option maxRecDepth 20000 in
theorem gX8_drop_X8_contractAt : GoodIn wsX8_drop (va_wsS RX8 54 yX8_contractAt wsX8_contractAt) := goodIn_app (goodIn_of _ (by decide +kernel)) ggX8_drop_X8_contractAt
set_option maxRecDepth 20000 in
theorem ggX8_drop_X8_contracts : GoodIn wsX8_drop wsX8_contracts := goodIn_r _ [41, 22, 23, 5, 24] (by decide +kernel) (by decide +kernel)
set_option maxRecDepth 20000 in
theorem gX8_drop_X8_contracts : GoodIn wsX8_drop (va_wsS RX8 183 yX8_contracts wsX8_contracts) := goodIn_app (goodIn_of _ (by decide +kernel)) ggX8_drop_X8_contracts
theorem dX8_drop_0 : decode cX8_drop 0 = .ok (.aload_n 0, 1) := by decide +kernel
theorem dX8_drop_1 : decode cX8_drop 1 = .ok (.aload_n 0, 1) := by decide +kernel
theorem dX8_drop_2 : decode cX8_drop 2 = .ok (.iload_n 1, 1) := by decide +kernel
theorem dX8_drop_3 : decode cX8_drop 3 = .ok (.iload_n 2, 1) := by decide +kernel
theorem dX8_drop_4 : decode cX8_drop 4 = .ok (.invokevirtual 196, 3) := by decide +kernel
theorem dX8_drop_7 : decode cX8_drop 7 = .ok (.ifCond .eq 7, 3) := by decide +kernel
theorem dX8_drop_10 : decode cX8_drop 10 = .ok (.iconst 0, 1) := by decide +kernel
theorem dX8_drop_11 : decode cX8_drop 11 = .ok (.goto 4, 3) := by decide +kernel
theorem dX8_drop_14 : decode cX8_drop 14 = .ok (.iconst 1, 1) := by decide +kernel
theorem dX8_drop_15 : decode cX8_drop 15 = .ok (.invokevirtual 108, 3) := by decide +kernel
theorem dX8_drop_18 : decode cX8_drop 18 = .ok (.ifCond .eq 5, 3) := by decide +kernel
theorem dX8_drop_21 : decode cX8_drop 21 = .ok (.iconst 0, 1) := by decide +kernel
theorem dX8_drop_22 : decode cX8_drop 22 = .ok (.ireturn, 1) := by decide +kernel
theorem dX8_drop_23 : decode cX8_drop 23 = .ok (.aload_n 0, 1) := by decide +kernel
theorem dX8_drop_24 : decode cX8_drop 24 = .ok (.invokevirtual 213, 3) := by decide +kernel
theorem dX8_drop_27 : decode cX8_drop 27 = .ok (.aload_n 0, 1) := by decide +kernel
theorem dX8_drop_28 : decode cX8_drop 28 = .ok (.getfield 16, 3) := by decide +kernel
theorem dX8_drop_31 : decode cX8_drop 31 = .ok (.iload_n 1, 1) := by decide +kernel
theorem dX8_drop_32 : decode cX8_drop 32 = .ok (.invokestatic 74, 3) := by decide +kernel
theorem dX8_drop_35 : decode cX8_drop 35 = .ok (.iload_n 2, 1) := by decide +kernel
theorem dX8_drop_36 : decode cX8_drop 36 = .ok (.iconst 0, 1) := by decide +kernel
theorem dX8_drop_37 : decode cX8_drop 37 = .ok (.invokestatic 54, 3) := by decide +kernel
theorem dX8_drop_40 : decode cX8_drop 40 = .ok (.iconst 0, 1) := by decide +kernel
theorem dX8_drop_41 : decode cX8_drop 41 = .ok (.iastore, 1) := by decide +kernel
theorem dX8_drop_42 : decode cX8_drop 42 = .ok (.aload_n 0, 1) := by decide +kernel
theorem dX8_drop_43 : decode cX8_drop 43 = .ok (.getfield 16, 3) := by decide +kernel
theorem dX8_drop_46 : decode cX8_drop 46 = .ok (.iconst 0, 1) := by decide +kernel
theorem dX8_drop_47 : decode cX8_drop 47 = .ok (.bipush 11, 2) := by decide +kernel
theorem dX8_drop_49 : decode cX8_drop 49 = .ok (.invokestatic 183, 3) := by decide +kernel
theorem dX8_drop_52 : decode cX8_drop 52 = .ok (.ireturn, 1) := by decide +kernel
set_option maxRecDepth 20000 in
theorem ggX8_isNumber_X8_in : GoodIn wsX8_isNumber wsX8_in := goodIn_r _ [6] (by decide +kernel) (by decide +kernel)
set_option maxRecDepth 20000 in
theorem gX8_isNumber_X8_in : GoodIn wsX8_isNumber (va_wsS RX8 62 yX8_in wsX8_in) := goodIn_app (goodIn_of _ (by decide +kernel)) ggX8_isNumber_X8_in
theorem dX8_isNumber_0 : decode cX8_isNumber 0 = .ok (.iload_n 0, 1) := by decide +kernel
theorem dX8_isNumber_1 : decode cX8_isNumber 1 = .ok (.i2l, 1) := by decide +kernel
theorem dX8_isNumber_2 : decode cX8_isNumber 2 = .ok (.ldc2_w 225, 3) := by decide +kernel
theorem dX8_isNumber_5 : decode cX8_isNumber 5 = .ok (.ldc2_w 227, 3) := by decide +kernel
theorem dX8_isNumber_8 : decode cX8_isNumber 8 = .ok (.invokestatic 62, 3) := by decide +kernel
theorem dX8_isNumber_11 : decode cX8_isNumber 11 = .ok (.ireturn, 1) := by decide +kernel
set_option maxRecDepth 20000 in
theorem ggX8_call_X8_isPart : GoodIn wsX8_call wsX8_isPart := goodIn_r _ [6, 1, 7, 8, 5, 9, 72, 73, 74, 75, 76, 77, 78, 79, 80, 81, 82, 83, 84, 85, 86, 87] (by decide +kernel) (by decide +kernel)
set_option maxRecDepth 20000 in
theorem gX8_call_X8_isPart : GoodIn wsX8_call (wsV RX8 186 RX8 yX8_isPart wsX8_isPart) := goodIn_app (goodIn_of _ (by decide +kernel)) ggX8_call_X8_isPart
set_option maxRecDepth 20000 in
theorem ggX8_call_X8_isNumber : GoodIn wsX8_call wsX8_isNumber := goodIn_r _ [12, 13, 14, 7, 8, 5, 9] (by decide +kernel) (by decide +kernel)
set_option maxRecDepth 20000 in
theorem gX8_call_X8_isNumber : GoodIn wsX8_call (va_wsS RX8 229 yX8_isNumber wsX8_isNumber) := goodIn_app (goodIn_of _ (by decide +kernel)) ggX8_call_X8_isNumber
set_option maxRecDepth 20000 in
theorem ggX8_call_X8_refused : GoodIn wsX8_call wsX8_refused := goodIn_r _ [18, 19, 72, 73, 74, 75, 76, 77, 78, 79, 80, 81, 82, 83, 84, 85, 86, 87] (by decide +kernel) (by decide +kernel)
set_option maxRecDepth 20000 in
theorem gX8_call_X8_refused : GoodIn wsX8_call (wsV RX8 108 RX8 yX8_refused wsX8_refused) := goodIn_app (goodIn_of _ (by decide +kernel)) ggX8_call_X8_refused
set_option maxRecDepth 20000 in
theorem ggX8_call_X8_remember : GoodIn wsX8_call wsX8_remember := goodIn_r _ [23, 24, 25, 1, 26, 27, 5, 28, 72, 73, 74, 75, 76, 77, 78, 79, 80, 81, 82, 83, 84, 85, 86, 87] (by decide +kernel) (by decide +kernel)
set_option maxRecDepth 20000 in
theorem gX8_call_X8_remember : GoodIn wsX8_call (wsV RX8 213 RX8 yX8_remember wsX8_remember) := goodIn_app (goodIn_of _ (by decide +kernel)) ggX8_call_X8_remember
set_option maxRecDepth 20000 in
theorem ggX8_call_X8_callIn : GoodIn wsX8_call wsX8_callIn := goodIn_r _ [32, 33, 34, 35, 36, 5, 37, 38, 39, 40, 41, 42, 43, 44, 45, 46, 47, 48, 49, 50, 51, 52, 7, 8, 9, 53, 54, 55, 56, 57, 58, 59, 60, 61, 62, 63, 64, 65, 66, 67, 68, 69, 70, 71, 72, 73, 74, 75, 76, 77, 78, 79, 80, 81, 82, 83, 84, 85, 86, 87] (by decide +kernel) (by decide +kernel)
set_option maxRecDepth 20000 in
theorem gX8_call_X8_callIn : GoodIn wsX8_call (wsV RX8 156 RX8 yX8_callIn wsX8_callIn) := goodIn_app (goodIn_of _ (by decide +kernel)) ggX8_call_X8_callIn
theorem dX8_call_0 : decode cX8_call 0 = .ok (.aload_n 0, 1) := by decide +kernel
theorem dX8_call_1 : decode cX8_call 1 = .ok (.aload_n 0, 1) := by decide +kernel
theorem dX8_call_2 : decode cX8_call 2 = .ok (.iload_n 1, 1) := by decide +kernel
theorem dX8_call_3 : decode cX8_call 3 = .ok (.invokevirtual 186, 3) := by decide +kernel
theorem dX8_call_6 : decode cX8_call 6 = .ok (.ifCond .ne 7, 3) := by decide +kernel
theorem dX8_call_9 : decode cX8_call 9 = .ok (.iconst 1, 1) := by decide +kernel
theorem dX8_call_10 : decode cX8_call 10 = .ok (.goto 15, 3) := by decide +kernel
theorem dX8_call_13 : decode cX8_call 13 = .ok (.iload_n 2, 1) := by decide +kernel
theorem dX8_call_14 : decode cX8_call 14 = .ok (.invokestatic 229, 3) := by decide +kernel
theorem dX8_call_17 : decode cX8_call 17 = .ok (.ifCond .eq 7, 3) := by decide +kernel
theorem dX8_call_20 : decode cX8_call 20 = .ok (.iconst 0, 1) := by decide +kernel
theorem dX8_call_21 : decode cX8_call 21 = .ok (.goto 4, 3) := by decide +kernel
theorem dX8_call_24 : decode cX8_call 24 = .ok (.iconst 2, 1) := by decide +kernel
theorem dX8_call_25 : decode cX8_call 25 = .ok (.invokevirtual 108, 3) := by decide +kernel
theorem dX8_call_28 : decode cX8_call 28 = .ok (.ifCond .eq 5, 3) := by decide +kernel
theorem dX8_call_31 : decode cX8_call 31 = .ok (.iconst 0, 1) := by decide +kernel
theorem dX8_call_32 : decode cX8_call 32 = .ok (.ireturn, 1) := by decide +kernel
theorem dX8_call_33 : decode cX8_call 33 = .ok (.aload_n 0, 1) := by decide +kernel
theorem dX8_call_34 : decode cX8_call 34 = .ok (.invokevirtual 213, 3) := by decide +kernel
theorem dX8_call_37 : decode cX8_call 37 = .ok (.aload_n 0, 1) := by decide +kernel
theorem dX8_call_38 : decode cX8_call 38 = .ok (.aload_n 0, 1) := by decide +kernel
theorem dX8_call_39 : decode cX8_call 39 = .ok (.getfield 16, 3) := by decide +kernel
theorem dX8_call_42 : decode cX8_call 42 = .ok (.iload_n 1, 1) := by decide +kernel
theorem dX8_call_43 : decode cX8_call 43 = .ok (.iload_n 2, 1) := by decide +kernel
theorem dX8_call_44 : decode cX8_call 44 = .ok (.invokevirtual 156, 3) := by decide +kernel
theorem dX8_call_47 : decode cX8_call 47 = .ok (.ireturn, 1) := by decide +kernel
set_option maxRecDepth 20000 in
theorem ggX8_undo_X8_refused : GoodIn wsX8_undo wsX8_refused := goodIn_r _ [8, 9, 13, 14, 15, 16, 17, 18, 19, 20, 21, 22, 23, 24, 25, 26, 27, 28] (by decide +kernel) (by decide +kernel)
set_option maxRecDepth 20000 in
theorem gX8_undo_X8_refused : GoodIn wsX8_undo (wsV RX8 108 RX8 yX8_refused wsX8_refused) := goodIn_app (goodIn_of _ (by decide +kernel)) ggX8_undo_X8_refused
set_option maxRecDepth 20000 in
theorem ggX8_undo_X8_copy : GoodIn wsX8_undo wsX8_copy := goodIn_r _ [12] (by decide +kernel) (by decide +kernel)
set_option maxRecDepth 20000 in
theorem gX8_undo_X8_copy : GoodIn wsX8_undo (va_wsS RX8 50 yX8_copy wsX8_copy) := goodIn_app (goodIn_of _ (by decide +kernel)) ggX8_undo_X8_copy
theorem dX8_undo_0 : decode cX8_undo 0 = .ok (.aload_n 0, 1) := by decide +kernel
theorem dX8_undo_1 : decode cX8_undo 1 = .ok (.aload_n 0, 1) := by decide +kernel
theorem dX8_undo_2 : decode cX8_undo 2 = .ok (.getfield 47, 3) := by decide +kernel
theorem dX8_undo_5 : decode cX8_undo 5 = .ok (.ifCond .ne 7, 3) := by decide +kernel
theorem dX8_undo_8 : decode cX8_undo 8 = .ok (.iconst 1, 1) := by decide +kernel
theorem dX8_undo_9 : decode cX8_undo 9 = .ok (.goto 4, 3) := by decide +kernel
theorem dX8_undo_12 : decode cX8_undo 12 = .ok (.iconst 0, 1) := by decide +kernel
theorem dX8_undo_13 : decode cX8_undo 13 = .ok (.invokevirtual 108, 3) := by decide +kernel
theorem dX8_undo_16 : decode cX8_undo 16 = .ok (.ifCond .eq 5, 3) := by decide +kernel
theorem dX8_undo_19 : decode cX8_undo 19 = .ok (.iconst 0, 1) := by decide +kernel
theorem dX8_undo_20 : decode cX8_undo 20 = .ok (.ireturn, 1) := by decide +kernel
theorem dX8_undo_21 : decode cX8_undo 21 = .ok (.aload_n 0, 1) := by decide +kernel
theorem dX8_undo_22 : decode cX8_undo 22 = .ok (.dup, 1) := by decide +kernel
theorem dX8_undo_23 : decode cX8_undo 23 = .ok (.getfield 47, 3) := by decide +kernel
theorem dX8_undo_26 : decode cX8_undo 26 = .ok (.iconst 1, 1) := by decide +kernel
theorem dX8_undo_27 : decode cX8_undo 27 = .ok (.isub, 1) := by decide +kernel
theorem dX8_undo_28 : decode cX8_undo 28 = .ok (.putfield 47, 3) := by decide +kernel
theorem dX8_undo_31 : decode cX8_undo 31 = .ok (.aload_n 0, 1) := by decide +kernel
theorem dX8_undo_32 : decode cX8_undo 32 = .ok (.getfield 22, 3) := by decide +kernel
theorem dX8_undo_35 : decode cX8_undo 35 = .ok (.sipush 748, 3) := by decide +kernel
theorem dX8_undo_38 : decode cX8_undo 38 = .ok (.aload_n 0, 1) := by decide +kernel
theorem dX8_undo_39 : decode cX8_undo 39 = .ok (.getfield 47, 3) := by decide +kernel
theorem dX8_undo_42 : decode cX8_undo 42 = .ok (.imul, 1) := by decide +kernel
theorem dX8_undo_43 : decode cX8_undo 43 = .ok (.aload_n 0, 1) := by decide +kernel
theorem dX8_undo_44 : decode cX8_undo 44 = .ok (.getfield 16, 3) := by decide +kernel
theorem dX8_undo_47 : decode cX8_undo 47 = .ok (.iconst 0, 1) := by decide +kernel
theorem dX8_undo_48 : decode cX8_undo 48 = .ok (.sipush 748, 3) := by decide +kernel
theorem dX8_undo_51 : decode cX8_undo 51 = .ok (.invokestatic 50, 3) := by decide +kernel
theorem dX8_undo_54 : decode cX8_undo 54 = .ok (.aload_n 0, 1) := by decide +kernel
theorem dX8_undo_55 : decode cX8_undo 55 = .ok (.getfield 47, 3) := by decide +kernel
theorem dX8_undo_58 : decode cX8_undo 58 = .ok (.ireturn, 1) := by decide +kernel
set_option maxRecDepth 20000 in
theorem ggX8_would_X8_isPart : GoodIn wsX8_would wsX8_isPart := goodIn_r _ [8, 3, 9, 10, 7, 11, 72, 73, 74, 75, 76, 77, 78, 79, 80, 81, 82, 83, 84, 85, 86, 87] (by decide +kernel) (by decide +kernel)
set_option maxRecDepth 20000 in
theorem gX8_would_X8_isPart : GoodIn wsX8_would (wsV RX8 186 RX8 yX8_isPart wsX8_isPart) := goodIn_app (goodIn_of _ (by decide +kernel)) ggX8_would_X8_isPart
set_option maxRecDepth 20000 in
theorem ggX8_would_X8_isNumber : GoodIn wsX8_would wsX8_isNumber := goodIn_r _ [14, 15, 16, 9, 10, 7, 11] (by decide +kernel) (by decide +kernel)
set_option maxRecDepth 20000 in
theorem gX8_would_X8_isNumber : GoodIn wsX8_would (va_wsS RX8 229 yX8_isNumber wsX8_isNumber) := goodIn_app (goodIn_of _ (by decide +kernel)) ggX8_would_X8_isNumber
set_option maxRecDepth 20000 in
theorem ggX8_would_X8_in : GoodIn wsX8_would wsX8_in := goodIn_r _ [11] (by decide +kernel) (by decide +kernel)
set_option maxRecDepth 20000 in
theorem gX8_would_X8_in : GoodIn wsX8_would (va_wsS RX8 62 yX8_in wsX8_in) := goodIn_app (goodIn_of _ (by decide +kernel)) ggX8_would_X8_in
set_option maxRecDepth 20000 in
theorem ggX8_would_X8_refused : GoodIn wsX8_would wsX8_refused := goodIn_r _ [20, 21, 72, 73, 74, 75, 76, 77, 78, 79, 80, 81, 82, 83, 84, 85, 86, 87] (by decide +kernel) (by decide +kernel)
set_option maxRecDepth 20000 in
theorem gX8_would_X8_refused : GoodIn wsX8_would (wsV RX8 108 RX8 yX8_refused wsX8_refused) := goodIn_app (goodIn_of _ (by decide +kernel)) ggX8_would_X8_refused
set_option maxRecDepth 20000 in
theorem ggX8_would_X8_tryIt : GoodIn wsX8_would wsX8_tryIt := goodIn_r _ [25, 3, 2, 26, 27, 7, 28, 72, 73, 74, 75, 76, 77, 78, 79, 80, 81, 82, 83, 84, 85, 86, 87] (by decide +kernel) (by decide +kernel)
set_option maxRecDepth 20000 in
theorem gX8_would_X8_tryIt : GoodIn wsX8_would (wsV RX8 234 RX8 yX8_tryIt wsX8_tryIt) := goodIn_app (goodIn_of _ (by decide +kernel)) ggX8_would_X8_tryIt
set_option maxRecDepth 20000 in
theorem ggX8_would_X8_callIn : GoodIn wsX8_would wsX8_callIn := goodIn_r _ [32, 33, 34, 35, 36, 7, 37, 38, 39, 40, 41, 42, 43, 44, 45, 46, 47, 48, 49, 50, 51, 52, 9, 10, 11, 53, 54, 55, 56, 57, 58, 59, 60, 61, 62, 63, 64, 65, 66, 67, 68, 69, 70, 71, 72, 73, 74, 75, 76, 77, 78, 79, 80, 81, 82, 83, 84, 85, 86, 87] (by decide +kernel) (by decide +kernel)
set_option maxRecDepth 20000 in
theorem gX8_would_X8_callIn : GoodIn wsX8_would (wsV RX8 156 RX8 yX8_callIn wsX8_callIn) := goodIn_app (goodIn_of _ (by decide +kernel)) ggX8_would_X8_callIn
theorem dX8_would_0 : decode cX8_would 0 = .ok (.aload_n 0, 1) := by decide +kernel
theorem dX8_would_1 : decode cX8_would 1 = .ok (.aload_n 0, 1) := by decide +kernel
theorem dX8_would_2 : decode cX8_would 2 = .ok (.iload_n 1, 1) := by decide +kernel
theorem dX8_would_3 : decode cX8_would 3 = .ok (.invokevirtual 186, 3) := by decide +kernel
theorem dX8_would_6 : decode cX8_would 6 = .ok (.ifCond .ne 7, 3) := by decide +kernel
theorem dX8_would_9 : decode cX8_would 9 = .ok (.iconst 1, 1) := by decide +kernel
theorem dX8_would_10 : decode cX8_would 10 = .ok (.goto 27, 3) := by decide +kernel
theorem dX8_would_13 : decode cX8_would 13 = .ok (.iload_n 2, 1) := by decide +kernel
theorem dX8_would_14 : decode cX8_would 14 = .ok (.invokestatic 229, 3) := by decide +kernel
theorem dX8_would_17 : decode cX8_would 17 = .ok (.ifCond .eq 19, 3) := by decide +kernel
theorem dX8_would_20 : decode cX8_would 20 = .ok (.iload_n 3, 1) := by decide +kernel
theorem dX8_would_21 : decode cX8_would 21 = .ok (.i2l, 1) := by decide +kernel
theorem dX8_would_22 : decode cX8_would 22 = .ok (.lconst 0, 1) := by decide +kernel
theorem dX8_would_23 : decode cX8_would 23 = .ok (.ldc2_w 232, 3) := by decide +kernel
theorem dX8_would_26 : decode cX8_would 26 = .ok (.invokestatic 62, 3) := by decide +kernel
theorem dX8_would_29 : decode cX8_would 29 = .ok (.ifCond .eq 7, 3) := by decide +kernel
theorem dX8_would_32 : decode cX8_would 32 = .ok (.iconst 0, 1) := by decide +kernel
theorem dX8_would_33 : decode cX8_would 33 = .ok (.goto 4, 3) := by decide +kernel
theorem dX8_would_36 : decode cX8_would 36 = .ok (.iconst 2, 1) := by decide +kernel
theorem dX8_would_37 : decode cX8_would 37 = .ok (.invokevirtual 108, 3) := by decide +kernel
theorem dX8_would_40 : decode cX8_would 40 = .ok (.ifCond .eq 5, 3) := by decide +kernel
theorem dX8_would_43 : decode cX8_would 43 = .ok (.iconst 0, 1) := by decide +kernel
theorem dX8_would_44 : decode cX8_would 44 = .ok (.ireturn, 1) := by decide +kernel
theorem dX8_would_45 : decode cX8_would 45 = .ok (.aload_n 0, 1) := by decide +kernel
theorem dX8_would_46 : decode cX8_would 46 = .ok (.invokevirtual 234, 3) := by decide +kernel
theorem dX8_would_49 : decode cX8_would 49 = .ok (.aload_n 0, 1) := by decide +kernel
theorem dX8_would_50 : decode cX8_would 50 = .ok (.aload_n 0, 1) := by decide +kernel
theorem dX8_would_51 : decode cX8_would 51 = .ok (.getfield 19, 3) := by decide +kernel
theorem dX8_would_54 : decode cX8_would 54 = .ok (.iload_n 1, 1) := by decide +kernel
theorem dX8_would_55 : decode cX8_would 55 = .ok (.iload_n 2, 1) := by decide +kernel
theorem dX8_would_56 : decode cX8_would 56 = .ok (.invokevirtual 156, 3) := by decide +kernel
theorem dX8_would_59 : decode cX8_would 59 = .ok (.istore 4, 2) := by decide +kernel
theorem dX8_would_61 : decode cX8_would 61 = .ok (.iload 4, 2) := by decide +kernel
theorem dX8_would_63 : decode cX8_would 63 = .ok (.sipush (-10000), 3) := by decide +kernel
theorem dX8_would_66 : decode cX8_would 66 = .ok (.if_icmp .ne 7, 3) := by decide +kernel
theorem dX8_would_69 : decode cX8_would 69 = .ok (.iconst 1, 1) := by decide +kernel
theorem dX8_would_70 : decode cX8_would 70 = .ok (.goto 4, 3) := by decide +kernel
theorem dX8_would_73 : decode cX8_would 73 = .ok (.iconst 0, 1) := by decide +kernel
theorem dX8_would_74 : decode cX8_would 74 = .ok (.istore 5, 2) := by decide +kernel
theorem dX8_would_76 : decode cX8_would 76 = .ok (.iload_n 3, 1) := by decide +kernel
theorem dX8_would_77 : decode cX8_would 77 = .ok (.tableswitch 111 0 3 #[31, 34, 52, 93], 31) := by decide +kernel
theorem dX8_would_108 : decode cX8_would 108 = .ok (.iload 4, 2) := by decide +kernel
theorem dX8_would_110 : decode cX8_would 110 = .ok (.ireturn, 1) := by decide +kernel
theorem dX8_would_111 : decode cX8_would 111 = .ok (.iload 5, 2) := by decide +kernel
theorem dX8_would_113 : decode cX8_would 113 = .ok (.ifCond .eq 14, 3) := by decide +kernel
theorem dX8_would_116 : decode cX8_would 116 = .ok (.aload_n 0, 1) := by decide +kernel
theorem dX8_would_117 : decode cX8_would 117 = .ok (.getfield 19, 3) := by decide +kernel
theorem dX8_would_120 : decode cX8_would 120 = .ok (.sipush 688, 3) := by decide +kernel
theorem dX8_would_123 : decode cX8_would 123 = .ok (.iaload, 1) := by decide +kernel
theorem dX8_would_124 : decode cX8_would 124 = .ok (.goto 4, 3) := by decide +kernel
theorem dX8_would_127 : decode cX8_would 127 = .ok (.iconst 0, 1) := by decide +kernel
theorem dX8_would_128 : decode cX8_would 128 = .ok (.ireturn, 1) := by decide +kernel
theorem dX8_would_129 : decode cX8_would 129 = .ok (.iload 5, 2) := by decide +kernel
theorem dX8_would_131 : decode cX8_would 131 = .ok (.ifCond .eq 15, 3) := by decide +kernel
theorem dX8_would_134 : decode cX8_would 134 = .ok (.aload_n 0, 1) := by decide +kernel
theorem dX8_would_135 : decode cX8_would 135 = .ok (.getfield 19, 3) := by decide +kernel
theorem dX8_would_138 : decode cX8_would 138 = .ok (.sipush 688, 3) := by decide +kernel
theorem dX8_would_141 : decode cX8_would 141 = .ok (.iaload, 1) := by decide +kernel
theorem dX8_would_142 : decode cX8_would 142 = .ok (.iconst 3, 1) := by decide +kernel
theorem dX8_would_143 : decode cX8_would 143 = .ok (.if_icmp .ne 9, 3) := by decide +kernel
theorem dX8_would_146 : decode cX8_would 146 = .ok (.sipush (-10000), 3) := by decide +kernel
theorem dX8_would_149 : decode cX8_would 149 = .ok (.goto 20, 3) := by decide +kernel
theorem dX8_would_152 : decode cX8_would 152 = .ok (.aload_n 0, 1) := by decide +kernel
theorem dX8_would_153 : decode cX8_would 153 = .ok (.getfield 19, 3) := by decide +kernel
theorem dX8_would_156 : decode cX8_would 156 = .ok (.sipush 688, 3) := by decide +kernel
theorem dX8_would_159 : decode cX8_would 159 = .ok (.aload_n 0, 1) := by decide +kernel
theorem dX8_would_160 : decode cX8_would 160 = .ok (.getfield 19, 3) := by decide +kernel
theorem dX8_would_163 : decode cX8_would 163 = .ok (.sipush 688, 3) := by decide +kernel
theorem dX8_would_166 : decode cX8_would 166 = .ok (.iaload, 1) := by decide +kernel
theorem dX8_would_167 : decode cX8_would 167 = .ok (.iadd, 1) := by decide +kernel
theorem dX8_would_168 : decode cX8_would 168 = .ok (.iaload, 1) := by decide +kernel
theorem dX8_would_169 : decode cX8_would 169 = .ok (.ireturn, 1) := by decide +kernel
theorem dX8_would_170 : decode cX8_would 170 = .ok (.iload 5, 2) := by decide +kernel
theorem dX8_would_172 : decode cX8_would 172 = .ok (.ifCond .eq 14, 3) := by decide +kernel
theorem dX8_would_175 : decode cX8_would 175 = .ok (.aload_n 0, 1) := by decide +kernel
theorem dX8_would_176 : decode cX8_would 176 = .ok (.getfield 19, 3) := by decide +kernel
theorem dX8_would_179 : decode cX8_would 179 = .ok (.sipush 692, 3) := by decide +kernel
theorem dX8_would_182 : decode cX8_would 182 = .ok (.iaload, 1) := by decide +kernel
theorem dX8_would_183 : decode cX8_would 183 = .ok (.goto 4, 3) := by decide +kernel
theorem dX8_would_186 : decode cX8_would 186 = .ok (.iconst 0, 1) := by decide +kernel
theorem dX8_would_187 : decode cX8_would 187 = .ok (.ireturn, 1) := by decide +kernel
theorem dX8_would_188 : decode cX8_would 188 = .ok (.aload_n 0, 1) := by decide +kernel
theorem dX8_would_189 : decode cX8_would 189 = .ok (.getfield 19, 3) := by decide +kernel
theorem dX8_would_192 : decode cX8_would 192 = .ok (.sipush 685, 3) := by decide +kernel
theorem dX8_would_195 : decode cX8_would 195 = .ok (.iaload, 1) := by decide +kernel
theorem dX8_would_196 : decode cX8_would 196 = .ok (.aload_n 0, 1) := by decide +kernel
theorem dX8_would_197 : decode cX8_would 197 = .ok (.getfield 16, 3) := by decide +kernel
theorem dX8_would_200 : decode cX8_would 200 = .ok (.sipush 685, 3) := by decide +kernel
theorem dX8_would_203 : decode cX8_would 203 = .ok (.iaload, 1) := by decide +kernel
theorem dX8_would_204 : decode cX8_would 204 = .ok (.isub, 1) := by decide +kernel
theorem dX8_would_205 : decode cX8_would 205 = .ok (.ireturn, 1) := by decide +kernel
set_option maxRecDepth 20000 in
theorem ggX8_standsIn_X8_contractAt : GoodIn wsX8_standsIn wsX8_contractAt := goodIn_r _ [4] (by decide +kernel) (by decide +kernel)
set_option maxRecDepth 20000 in
theorem gX8_standsIn_X8_contractAt : GoodIn wsX8_standsIn (va_wsS RX8 54 yX8_contractAt wsX8_contractAt) := goodIn_app (goodIn_of _ (by decide +kernel)) ggX8_standsIn_X8_contractAt
theorem dX8_standsIn_0 : decode cX8_standsIn 0 = .ok (.aload_n 0, 1) := by decide +kernel
theorem dX8_standsIn_1 : decode cX8_standsIn 1 = .ok (.iload_n 1, 1) := by decide +kernel
theorem dX8_standsIn_2 : decode cX8_standsIn 2 = .ok (.iload_n 2, 1) := by decide +kernel
theorem dX8_standsIn_3 : decode cX8_standsIn 3 = .ok (.iconst 1, 1) := by decide +kernel
theorem dX8_standsIn_4 : decode cX8_standsIn 4 = .ok (.invokestatic 54, 3) := by decide +kernel
theorem dX8_standsIn_7 : decode cX8_standsIn 7 = .ok (.iaload, 1) := by decide +kernel
theorem dX8_standsIn_8 : decode cX8_standsIn 8 = .ok (.aload_n 0, 1) := by decide +kernel
theorem dX8_standsIn_9 : decode cX8_standsIn 9 = .ok (.iload_n 3, 1) := by decide +kernel
theorem dX8_standsIn_10 : decode cX8_standsIn 10 = .ok (.iload 4, 2) := by decide +kernel
theorem dX8_standsIn_12 : decode cX8_standsIn 12 = .ok (.iconst 1, 1) := by decide +kernel
theorem dX8_standsIn_13 : decode cX8_standsIn 13 = .ok (.invokestatic 54, 3) := by decide +kernel
theorem dX8_standsIn_16 : decode cX8_standsIn 16 = .ok (.iaload, 1) := by decide +kernel
theorem dX8_standsIn_17 : decode cX8_standsIn 17 = .ok (.if_icmp .gt 27, 3) := by decide +kernel
theorem dX8_standsIn_20 : decode cX8_standsIn 20 = .ok (.aload_n 0, 1) := by decide +kernel
theorem dX8_standsIn_21 : decode cX8_standsIn 21 = .ok (.iload_n 1, 1) := by decide +kernel
theorem dX8_standsIn_22 : decode cX8_standsIn 22 = .ok (.iload_n 2, 1) := by decide +kernel
theorem dX8_standsIn_23 : decode cX8_standsIn 23 = .ok (.iconst 2, 1) := by decide +kernel
theorem dX8_standsIn_24 : decode cX8_standsIn 24 = .ok (.invokestatic 54, 3) := by decide +kernel
theorem dX8_standsIn_27 : decode cX8_standsIn 27 = .ok (.iaload, 1) := by decide +kernel
theorem dX8_standsIn_28 : decode cX8_standsIn 28 = .ok (.aload_n 0, 1) := by decide +kernel
theorem dX8_standsIn_29 : decode cX8_standsIn 29 = .ok (.iload_n 3, 1) := by decide +kernel
theorem dX8_standsIn_30 : decode cX8_standsIn 30 = .ok (.iload 4, 2) := by decide +kernel
theorem dX8_standsIn_32 : decode cX8_standsIn 32 = .ok (.iconst 2, 1) := by decide +kernel
theorem dX8_standsIn_33 : decode cX8_standsIn 33 = .ok (.invokestatic 54, 3) := by decide +kernel
theorem dX8_standsIn_36 : decode cX8_standsIn 36 = .ok (.iaload, 1) := by decide +kernel
theorem dX8_standsIn_37 : decode cX8_standsIn 37 = .ok (.if_icmp .lt 7, 3) := by decide +kernel
theorem dX8_standsIn_40 : decode cX8_standsIn 40 = .ok (.iconst 1, 1) := by decide +kernel
theorem dX8_standsIn_41 : decode cX8_standsIn 41 = .ok (.goto 4, 3) := by decide +kernel
theorem dX8_standsIn_44 : decode cX8_standsIn 44 = .ok (.iconst 0, 1) := by decide +kernel
theorem dX8_standsIn_45 : decode cX8_standsIn 45 = .ok (.istore 5, 2) := by decide +kernel
theorem dX8_standsIn_47 : decode cX8_standsIn 47 = .ok (.aload_n 0, 1) := by decide +kernel
theorem dX8_standsIn_48 : decode cX8_standsIn 48 = .ok (.iload_n 1, 1) := by decide +kernel
theorem dX8_standsIn_49 : decode cX8_standsIn 49 = .ok (.iload_n 2, 1) := by decide +kernel
theorem dX8_standsIn_50 : decode cX8_standsIn 50 = .ok (.iconst 3, 1) := by decide +kernel
theorem dX8_standsIn_51 : decode cX8_standsIn 51 = .ok (.invokestatic 54, 3) := by decide +kernel
theorem dX8_standsIn_54 : decode cX8_standsIn 54 = .ok (.iaload, 1) := by decide +kernel
theorem dX8_standsIn_55 : decode cX8_standsIn 55 = .ok (.aload_n 0, 1) := by decide +kernel
theorem dX8_standsIn_56 : decode cX8_standsIn 56 = .ok (.iload_n 3, 1) := by decide +kernel
theorem dX8_standsIn_57 : decode cX8_standsIn 57 = .ok (.iload 4, 2) := by decide +kernel
theorem dX8_standsIn_59 : decode cX8_standsIn 59 = .ok (.iconst 3, 1) := by decide +kernel
theorem dX8_standsIn_60 : decode cX8_standsIn 60 = .ok (.invokestatic 54, 3) := by decide +kernel
theorem dX8_standsIn_63 : decode cX8_standsIn 63 = .ok (.iaload, 1) := by decide +kernel
theorem dX8_standsIn_64 : decode cX8_standsIn 64 = .ok (.if_icmp .lt 27, 3) := by decide +kernel
theorem dX8_standsIn_67 : decode cX8_standsIn 67 = .ok (.aload_n 0, 1) := by decide +kernel
theorem dX8_standsIn_68 : decode cX8_standsIn 68 = .ok (.iload_n 1, 1) := by decide +kernel
theorem dX8_standsIn_69 : decode cX8_standsIn 69 = .ok (.iload_n 2, 1) := by decide +kernel
theorem dX8_standsIn_70 : decode cX8_standsIn 70 = .ok (.iconst 4, 1) := by decide +kernel
theorem dX8_standsIn_71 : decode cX8_standsIn 71 = .ok (.invokestatic 54, 3) := by decide +kernel
theorem dX8_standsIn_74 : decode cX8_standsIn 74 = .ok (.iaload, 1) := by decide +kernel
theorem dX8_standsIn_75 : decode cX8_standsIn 75 = .ok (.aload_n 0, 1) := by decide +kernel
theorem dX8_standsIn_76 : decode cX8_standsIn 76 = .ok (.iload_n 3, 1) := by decide +kernel
theorem dX8_standsIn_77 : decode cX8_standsIn 77 = .ok (.iload 4, 2) := by decide +kernel
theorem dX8_standsIn_79 : decode cX8_standsIn 79 = .ok (.iconst 4, 1) := by decide +kernel
theorem dX8_standsIn_80 : decode cX8_standsIn 80 = .ok (.invokestatic 54, 3) := by decide +kernel
theorem dX8_standsIn_83 : decode cX8_standsIn 83 = .ok (.iaload, 1) := by decide +kernel
theorem dX8_standsIn_84 : decode cX8_standsIn 84 = .ok (.if_icmp .gt 7, 3) := by decide +kernel
theorem dX8_standsIn_87 : decode cX8_standsIn 87 = .ok (.iconst 1, 1) := by decide +kernel
theorem dX8_standsIn_88 : decode cX8_standsIn 88 = .ok (.goto 4, 3) := by decide +kernel
theorem dX8_standsIn_91 : decode cX8_standsIn 91 = .ok (.iconst 0, 1) := by decide +kernel
theorem dX8_standsIn_92 : decode cX8_standsIn 92 = .ok (.istore 6, 2) := by decide +kernel
theorem dX8_standsIn_94 : decode cX8_standsIn 94 = .ok (.iload 5, 2) := by decide +kernel
theorem dX8_standsIn_96 : decode cX8_standsIn 96 = .ok (.ifCond .eq 12, 3) := by decide +kernel
theorem dX8_standsIn_99 : decode cX8_standsIn 99 = .ok (.iload 6, 2) := by decide +kernel
theorem dX8_standsIn_101 : decode cX8_standsIn 101 = .ok (.ifCond .eq 7, 3) := by decide +kernel
theorem dX8_standsIn_104 : decode cX8_standsIn 104 = .ok (.iconst 1, 1) := by decide +kernel
theorem dX8_standsIn_105 : decode cX8_standsIn 105 = .ok (.goto 4, 3) := by decide +kernel
theorem dX8_standsIn_108 : decode cX8_standsIn 108 = .ok (.iconst 0, 1) := by decide +kernel
theorem dX8_standsIn_109 : decode cX8_standsIn 109 = .ok (.ireturn, 1) := by decide +kernel
set_option maxRecDepth 20000 in
theorem ggX8_stands_X8_isContract : GoodIn wsX8_stands wsX8_isContract := goodIn_r _ [6, 7, 8, 1, 9, 10, 11, 5, 12, 13, 14, 15, 16, 17, 18, 19, 20, 21, 22, 23, 24, 33, 34, 35, 36, 37, 38, 39, 40, 41, 42, 43, 44, 45, 46, 47, 48] (by decide +kernel) (by decide +kernel)
set_option maxRecDepth 20000 in
theorem gX8_stands_X8_isContract : GoodIn wsX8_stands (wsV RX8 196 RX8 yX8_isContract wsX8_isContract) := goodIn_app (goodIn_of _ (by decide +kernel)) ggX8_stands_X8_isContract
set_option maxRecDepth 20000 in
theorem ggX8_stands_X8_refused : GoodIn wsX8_stands wsX8_refused := goodIn_r _ [28, 29, 33, 34, 35, 36, 37, 38, 39, 40, 41, 42, 43, 44, 45, 46, 47, 48] (by decide +kernel) (by decide +kernel)
set_option maxRecDepth 20000 in
theorem gX8_stands_X8_refused : GoodIn wsX8_stands (wsV RX8 108 RX8 yX8_refused wsX8_refused) := goodIn_app (goodIn_of _ (by decide +kernel)) ggX8_stands_X8_refused
set_option maxRecDepth 20000 in
theorem ggX8_stands_X8_sideOf : GoodIn wsX8_stands wsX8_sideOf := goodIn_r _ [18] (by decide +kernel) (by decide +kernel)
set_option maxRecDepth 20000 in
theorem gX8_stands_X8_sideOf : GoodIn wsX8_stands (va_wsS RX8 74 yX8_sideOf wsX8_sideOf) := goodIn_app (goodIn_of _ (by decide +kernel)) ggX8_stands_X8_sideOf
set_option maxRecDepth 20000 in
theorem ggX8_stands_X8_standsIn : GoodIn wsX8_stands wsX8_standsIn := goodIn_r _ [32, 22, 23, 5, 24] (by decide +kernel) (by decide +kernel)
set_option maxRecDepth 20000 in
theorem gX8_stands_X8_standsIn : GoodIn wsX8_stands (va_wsS RX8 237 yX8_standsIn wsX8_standsIn) := goodIn_app (goodIn_of _ (by decide +kernel)) ggX8_stands_X8_standsIn
theorem dX8_stands_0 : decode cX8_stands 0 = .ok (.aload_n 0, 1) := by decide +kernel
theorem dX8_stands_1 : decode cX8_stands 1 = .ok (.aload_n 0, 1) := by decide +kernel
theorem dX8_stands_2 : decode cX8_stands 2 = .ok (.iload_n 1, 1) := by decide +kernel
theorem dX8_stands_3 : decode cX8_stands 3 = .ok (.iload_n 2, 1) := by decide +kernel
theorem dX8_stands_4 : decode cX8_stands 4 = .ok (.invokevirtual 196, 3) := by decide +kernel
theorem dX8_stands_7 : decode cX8_stands 7 = .ok (.ifCond .eq 17, 3) := by decide +kernel
theorem dX8_stands_10 : decode cX8_stands 10 = .ok (.aload_n 0, 1) := by decide +kernel
theorem dX8_stands_11 : decode cX8_stands 11 = .ok (.iload_n 3, 1) := by decide +kernel
theorem dX8_stands_12 : decode cX8_stands 12 = .ok (.iload 4, 2) := by decide +kernel
theorem dX8_stands_14 : decode cX8_stands 14 = .ok (.invokevirtual 196, 3) := by decide +kernel
theorem dX8_stands_17 : decode cX8_stands 17 = .ok (.ifCond .eq 7, 3) := by decide +kernel
theorem dX8_stands_20 : decode cX8_stands 20 = .ok (.iconst 0, 1) := by decide +kernel
theorem dX8_stands_21 : decode cX8_stands 21 = .ok (.goto 4, 3) := by decide +kernel
theorem dX8_stands_24 : decode cX8_stands 24 = .ok (.iconst 1, 1) := by decide +kernel
theorem dX8_stands_25 : decode cX8_stands 25 = .ok (.invokevirtual 108, 3) := by decide +kernel
theorem dX8_stands_28 : decode cX8_stands 28 = .ok (.ifCond .eq 5, 3) := by decide +kernel
theorem dX8_stands_31 : decode cX8_stands 31 = .ok (.iconst 0, 1) := by decide +kernel
theorem dX8_stands_32 : decode cX8_stands 32 = .ok (.ireturn, 1) := by decide +kernel
theorem dX8_stands_33 : decode cX8_stands 33 = .ok (.aload_n 0, 1) := by decide +kernel
theorem dX8_stands_34 : decode cX8_stands 34 = .ok (.getfield 16, 3) := by decide +kernel
theorem dX8_stands_37 : decode cX8_stands 37 = .ok (.iload_n 1, 1) := by decide +kernel
theorem dX8_stands_38 : decode cX8_stands 38 = .ok (.invokestatic 74, 3) := by decide +kernel
theorem dX8_stands_41 : decode cX8_stands 41 = .ok (.iload_n 2, 1) := by decide +kernel
theorem dX8_stands_42 : decode cX8_stands 42 = .ok (.iload_n 3, 1) := by decide +kernel
theorem dX8_stands_43 : decode cX8_stands 43 = .ok (.invokestatic 74, 3) := by decide +kernel
theorem dX8_stands_46 : decode cX8_stands 46 = .ok (.iload 4, 2) := by decide +kernel
theorem dX8_stands_48 : decode cX8_stands 48 = .ok (.invokestatic 237, 3) := by decide +kernel
theorem dX8_stands_51 : decode cX8_stands 51 = .ok (.ifCond .eq 7, 3) := by decide +kernel
theorem dX8_stands_54 : decode cX8_stands 54 = .ok (.iconst 1, 1) := by decide +kernel
theorem dX8_stands_55 : decode cX8_stands 55 = .ok (.goto 4, 3) := by decide +kernel
theorem dX8_stands_58 : decode cX8_stands 58 = .ok (.iconst 0, 1) := by decide +kernel
theorem dX8_stands_59 : decode cX8_stands 59 = .ok (.ireturn, 1) := by decide +kernel
set_option maxRecDepth 20000 in
theorem ggX8_holes_X8_hasContract : GoodIn wsX8_holes wsX8_hasContract := goodIn_r _ [6, 7, 8, 5, 9] (by decide +kernel) (by decide +kernel)
set_option maxRecDepth 20000 in
theorem gX8_holes_X8_hasContract : GoodIn wsX8_holes (va_wsS RX8 58 yX8_hasContract wsX8_hasContract) := goodIn_app (goodIn_of _ (by decide +kernel)) ggX8_holes_X8_hasContract
set_option maxRecDepth 20000 in
theorem ggX8_holes_X8_standsIn : GoodIn wsX8_holes wsX8_standsIn := goodIn_r _ [12, 7, 8, 5, 9] (by decide +kernel) (by decide +kernel)
set_option maxRecDepth 20000 in
theorem gX8_holes_X8_standsIn : GoodIn wsX8_holes (va_wsS RX8 237 yX8_standsIn wsX8_standsIn) := goodIn_app (goodIn_of _ (by decide +kernel)) ggX8_holes_X8_standsIn
theorem dX8_holes_0 : decode cX8_holes 0 = .ok (.aload_n 0, 1) := by decide +kernel
theorem dX8_holes_1 : decode cX8_holes 1 = .ok (.iconst 0, 1) := by decide +kernel
theorem dX8_holes_2 : decode cX8_holes 2 = .ok (.putfield 41, 3) := by decide +kernel
theorem dX8_holes_5 : decode cX8_holes 5 = .ok (.iconst 0, 1) := by decide +kernel
theorem dX8_holes_6 : decode cX8_holes 6 = .ok (.istore_n 1, 1) := by decide +kernel
theorem dX8_holes_7 : decode cX8_holes 7 = .ok (.iconst 1, 1) := by decide +kernel
theorem dX8_holes_8 : decode cX8_holes 8 = .ok (.istore_n 2, 1) := by decide +kernel
theorem dX8_holes_9 : decode cX8_holes 9 = .ok (.iload_n 2, 1) := by decide +kernel
theorem dX8_holes_10 : decode cX8_holes 10 = .ok (.bipush 11, 2) := by decide +kernel
theorem dX8_holes_12 : decode cX8_holes 12 = .ok (.if_icmp .gt 73, 3) := by decide +kernel
theorem dX8_holes_15 : decode cX8_holes 15 = .ok (.iconst 0, 1) := by decide +kernel
theorem dX8_holes_16 : decode cX8_holes 16 = .ok (.istore_n 3, 1) := by decide +kernel
theorem dX8_holes_17 : decode cX8_holes 17 = .ok (.iload_n 3, 1) := by decide +kernel
theorem dX8_holes_18 : decode cX8_holes 18 = .ok (.aload_n 0, 1) := by decide +kernel
theorem dX8_holes_19 : decode cX8_holes 19 = .ok (.getfield 16, 3) := by decide +kernel
theorem dX8_holes_22 : decode cX8_holes 22 = .ok (.iconst 0, 1) := by decide +kernel
theorem dX8_holes_23 : decode cX8_holes 23 = .ok (.iaload, 1) := by decide +kernel
theorem dX8_holes_24 : decode cX8_holes 24 = .ok (.if_icmp .ge 55, 3) := by decide +kernel
theorem dX8_holes_27 : decode cX8_holes 27 = .ok (.iload_n 1, 1) := by decide +kernel
theorem dX8_holes_28 : decode cX8_holes 28 = .ok (.aload_n 0, 1) := by decide +kernel
theorem dX8_holes_29 : decode cX8_holes 29 = .ok (.getfield 16, 3) := by decide +kernel
theorem dX8_holes_32 : decode cX8_holes 32 = .ok (.iload_n 2, 1) := by decide +kernel
theorem dX8_holes_33 : decode cX8_holes 33 = .ok (.iload_n 3, 1) := by decide +kernel
theorem dX8_holes_34 : decode cX8_holes 34 = .ok (.invokestatic 58, 3) := by decide +kernel
theorem dX8_holes_37 : decode cX8_holes 37 = .ok (.ifCond .eq 33, 3) := by decide +kernel
theorem dX8_holes_40 : decode cX8_holes 40 = .ok (.aload_n 0, 1) := by decide +kernel
theorem dX8_holes_41 : decode cX8_holes 41 = .ok (.getfield 16, 3) := by decide +kernel
theorem dX8_holes_44 : decode cX8_holes 44 = .ok (.iconst 0, 1) := by decide +kernel
theorem dX8_holes_45 : decode cX8_holes 45 = .ok (.iload_n 3, 1) := by decide +kernel
theorem dX8_holes_46 : decode cX8_holes 46 = .ok (.invokestatic 58, 3) := by decide +kernel
theorem dX8_holes_49 : decode cX8_holes 49 = .ok (.ifCond .eq 21, 3) := by decide +kernel
theorem dX8_holes_52 : decode cX8_holes 52 = .ok (.aload_n 0, 1) := by decide +kernel
theorem dX8_holes_53 : decode cX8_holes 53 = .ok (.getfield 16, 3) := by decide +kernel
theorem dX8_holes_56 : decode cX8_holes 56 = .ok (.iconst 0, 1) := by decide +kernel
theorem dX8_holes_57 : decode cX8_holes 57 = .ok (.iload_n 3, 1) := by decide +kernel
theorem dX8_holes_58 : decode cX8_holes 58 = .ok (.iload_n 2, 1) := by decide +kernel
theorem dX8_holes_59 : decode cX8_holes 59 = .ok (.iload_n 3, 1) := by decide +kernel
theorem dX8_holes_60 : decode cX8_holes 60 = .ok (.invokestatic 237, 3) := by decide +kernel
theorem dX8_holes_63 : decode cX8_holes 63 = .ok (.ifCond .ne 7, 3) := by decide +kernel
theorem dX8_holes_66 : decode cX8_holes 66 = .ok (.iconst 1, 1) := by decide +kernel
theorem dX8_holes_67 : decode cX8_holes 67 = .ok (.goto 4, 3) := by decide +kernel
theorem dX8_holes_70 : decode cX8_holes 70 = .ok (.iconst 0, 1) := by decide +kernel
theorem dX8_holes_71 : decode cX8_holes 71 = .ok (.iadd, 1) := by decide +kernel
theorem dX8_holes_72 : decode cX8_holes 72 = .ok (.istore_n 1, 1) := by decide +kernel
theorem dX8_holes_73 : decode cX8_holes 73 = .ok (.iinc 3 1, 3) := by decide +kernel
theorem dX8_holes_76 : decode cX8_holes 76 = .ok (.goto (-59), 3) := by decide +kernel
theorem dX8_holes_79 : decode cX8_holes 79 = .ok (.iinc 2 1, 3) := by decide +kernel
theorem dX8_holes_82 : decode cX8_holes 82 = .ok (.goto (-73), 3) := by decide +kernel
theorem dX8_holes_85 : decode cX8_holes 85 = .ok (.iload_n 1, 1) := by decide +kernel
theorem dX8_holes_86 : decode cX8_holes 86 = .ok (.ireturn, 1) := by decide +kernel
set_option maxRecDepth 20000 in
theorem ggX8_isBad_X8_tryIt : GoodIn wsX8_isBad wsX8_tryIt := goodIn_r _ [6, 7, 1, 8, 9, 5, 10, 57, 58, 59, 60, 61, 62, 63, 64, 65, 66, 67, 68, 69, 70, 71, 72] (by decide +kernel) (by decide +kernel)
set_option maxRecDepth 20000 in
theorem gX8_isBad_X8_tryIt : GoodIn wsX8_isBad (wsV RX8 234 RX8 yX8_tryIt wsX8_tryIt) := goodIn_app (goodIn_of _ (by decide +kernel)) ggX8_isBad_X8_tryIt
set_option maxRecDepth 20000 in
theorem ggX8_isBad_X8_callIn : GoodIn wsX8_isBad wsX8_callIn := goodIn_r _ [14, 15, 16, 17, 18, 5, 19, 20, 21, 22, 23, 24, 25, 26, 27, 28, 29, 30, 31, 32, 33, 34, 35, 36, 37, 38, 39, 40, 41, 42, 43, 44, 45, 46, 47, 48, 49, 50, 51, 52, 53, 54, 55, 56, 57, 58, 59, 60, 61, 62, 63, 64, 65, 66, 67, 68, 69, 70, 71, 72] (by decide +kernel) (by decide +kernel)
set_option maxRecDepth 20000 in
theorem gX8_isBad_X8_callIn : GoodIn wsX8_isBad (wsV RX8 156 RX8 yX8_callIn wsX8_callIn) := goodIn_app (goodIn_of _ (by decide +kernel)) ggX8_isBad_X8_callIn
theorem dX8_isBad_0 : decode cX8_isBad 0 = .ok (.aload_n 0, 1) := by decide +kernel
theorem dX8_isBad_1 : decode cX8_isBad 1 = .ok (.invokevirtual 234, 3) := by decide +kernel
theorem dX8_isBad_4 : decode cX8_isBad 4 = .ok (.aload_n 0, 1) := by decide +kernel
theorem dX8_isBad_5 : decode cX8_isBad 5 = .ok (.aload_n 0, 1) := by decide +kernel
theorem dX8_isBad_6 : decode cX8_isBad 6 = .ok (.getfield 19, 3) := by decide +kernel
theorem dX8_isBad_9 : decode cX8_isBad 9 = .ok (.iload_n 1, 1) := by decide +kernel
theorem dX8_isBad_10 : decode cX8_isBad 10 = .ok (.iload_n 2, 1) := by decide +kernel
theorem dX8_isBad_11 : decode cX8_isBad 11 = .ok (.invokevirtual 156, 3) := by decide +kernel
theorem dX8_isBad_14 : decode cX8_isBad 14 = .ok (.sipush (-10000), 3) := by decide +kernel
theorem dX8_isBad_17 : decode cX8_isBad 17 = .ok (.if_icmp .ne 7, 3) := by decide +kernel
theorem dX8_isBad_20 : decode cX8_isBad 20 = .ok (.iconst 1, 1) := by decide +kernel
theorem dX8_isBad_21 : decode cX8_isBad 21 = .ok (.goto 4, 3) := by decide +kernel
theorem dX8_isBad_24 : decode cX8_isBad 24 = .ok (.iconst 0, 1) := by decide +kernel
theorem dX8_isBad_25 : decode cX8_isBad 25 = .ok (.ireturn, 1) := by decide +kernel
set_option maxRecDepth 20000 in
theorem ggX8_isTried_X8_isNumber : GoodIn wsX8_isTried wsX8_isNumber := goodIn_r _ [5, 6, 7, 8, 9, 4, 10] (by decide +kernel) (by decide +kernel)
set_option maxRecDepth 20000 in
theorem gX8_isTried_X8_isNumber : GoodIn wsX8_isTried (va_wsS RX8 229 yX8_isNumber wsX8_isNumber) := goodIn_app (goodIn_of _ (by decide +kernel)) ggX8_isTried_X8_isNumber
set_option maxRecDepth 20000 in
theorem ggX8_isTried_X8_in : GoodIn wsX8_isTried wsX8_in := goodIn_r _ [10] (by decide +kernel) (by decide +kernel)
set_option maxRecDepth 20000 in
theorem gX8_isTried_X8_in : GoodIn wsX8_isTried (va_wsS RX8 62 yX8_in wsX8_in) := goodIn_app (goodIn_of _ (by decide +kernel)) ggX8_isTried_X8_in
theorem dX8_isTried_0 : decode cX8_isTried 0 = .ok (.iload_n 0, 1) := by decide +kernel
theorem dX8_isTried_1 : decode cX8_isTried 1 = .ok (.invokestatic 229, 3) := by decide +kernel
theorem dX8_isTried_4 : decode cX8_isTried 4 = .ok (.ifCond .eq 19, 3) := by decide +kernel
theorem dX8_isTried_7 : decode cX8_isTried 7 = .ok (.iload_n 1, 1) := by decide +kernel
theorem dX8_isTried_8 : decode cX8_isTried 8 = .ok (.i2l, 1) := by decide +kernel
theorem dX8_isTried_9 : decode cX8_isTried 9 = .ok (.lconst 1, 1) := by decide +kernel
theorem dX8_isTried_10 : decode cX8_isTried 10 = .ok (.ldc2_w 241, 3) := by decide +kernel
theorem dX8_isTried_13 : decode cX8_isTried 13 = .ok (.invokestatic 62, 3) := by decide +kernel
theorem dX8_isTried_16 : decode cX8_isTried 16 = .ok (.ifCond .eq 7, 3) := by decide +kernel
theorem dX8_isTried_19 : decode cX8_isTried 19 = .ok (.iconst 1, 1) := by decide +kernel
theorem dX8_isTried_20 : decode cX8_isTried 20 = .ok (.goto 4, 3) := by decide +kernel
theorem dX8_isTried_23 : decode cX8_isTried 23 = .ok (.iconst 0, 1) := by decide +kernel
theorem dX8_isTried_24 : decode cX8_isTried 24 = .ok (.ireturn, 1) := by decide +kernel
set_option maxRecDepth 20000 in
theorem ggX8_firstBad_X8_isPart : GoodIn wsX8_firstBad wsX8_isPart := goodIn_r _ [5, 6, 7, 8, 4, 9, 79, 80, 81, 82, 83, 84, 85, 86, 87, 88, 89, 90, 91, 92, 93, 94] (by decide +kernel) (by decide +kernel)
set_option maxRecDepth 20000 in
theorem gX8_firstBad_X8_isPart : GoodIn wsX8_firstBad (wsV RX8 186 RX8 yX8_isPart wsX8_isPart) := goodIn_app (goodIn_of _ (by decide +kernel)) ggX8_firstBad_X8_isPart
set_option maxRecDepth 20000 in
theorem ggX8_firstBad_X8_isTried : GoodIn wsX8_firstBad wsX8_isTried := goodIn_r _ [12, 13, 14, 15, 4, 16, 17, 18, 7, 8, 9] (by decide +kernel) (by decide +kernel)
set_option maxRecDepth 20000 in
theorem gX8_firstBad_X8_isTried : GoodIn wsX8_firstBad (va_wsS RX8 243 yX8_isTried wsX8_isTried) := goodIn_app (goodIn_of _ (by decide +kernel)) ggX8_firstBad_X8_isTried
set_option maxRecDepth 20000 in
theorem ggX8_firstBad_X8_refused : GoodIn wsX8_firstBad wsX8_refused := goodIn_r _ [22, 23, 79, 80, 81, 82, 83, 84, 85, 86, 87, 88, 89, 90, 91, 92, 93, 94] (by decide +kernel) (by decide +kernel)
set_option maxRecDepth 20000 in
theorem gX8_firstBad_X8_refused : GoodIn wsX8_firstBad (wsV RX8 108 RX8 yX8_refused wsX8_refused) := goodIn_app (goodIn_of _ (by decide +kernel)) ggX8_firstBad_X8_refused
set_option maxRecDepth 20000 in
theorem ggX8_firstBad_X8_isBad : GoodIn wsX8_firstBad wsX8_isBad := goodIn_r _ [27, 28, 29, 30, 31, 4, 32, 6, 33, 34, 35, 36, 37, 38, 39, 40, 41, 42, 43, 44, 45, 46, 47, 48, 49, 50, 51, 52, 53, 54, 55, 56, 57, 58, 59, 7, 8, 9, 60, 61, 62, 63, 64, 65, 66, 67, 68, 69, 70, 71, 72, 73, 74, 75, 76, 77, 78, 79, 80, 81, 82, 83, 84, 85, 86, 87, 88, 89, 90, 91, 92, 93, 94] (by decide +kernel) (by decide +kernel)
set_option maxRecDepth 20000 in
theorem gX8_firstBad_X8_isBad : GoodIn wsX8_firstBad (wsV RX8 246 RX8 yX8_isBad wsX8_isBad) := goodIn_app (goodIn_of _ (by decide +kernel)) ggX8_firstBad_X8_isBad
theorem dX8_firstBad_0 : decode cX8_firstBad 0 = .ok (.aload_n 0, 1) := by decide +kernel
theorem dX8_firstBad_1 : decode cX8_firstBad 1 = .ok (.aload_n 0, 1) := by decide +kernel
theorem dX8_firstBad_2 : decode cX8_firstBad 2 = .ok (.iload_n 1, 1) := by decide +kernel
theorem dX8_firstBad_3 : decode cX8_firstBad 3 = .ok (.invokevirtual 186, 3) := by decide +kernel
theorem dX8_firstBad_6 : decode cX8_firstBad 6 = .ok (.ifCond .ne 7, 3) := by decide +kernel
theorem dX8_firstBad_9 : decode cX8_firstBad 9 = .ok (.iconst 1, 1) := by decide +kernel
theorem dX8_firstBad_10 : decode cX8_firstBad 10 = .ok (.goto 16, 3) := by decide +kernel
theorem dX8_firstBad_13 : decode cX8_firstBad 13 = .ok (.iload_n 2, 1) := by decide +kernel
theorem dX8_firstBad_14 : decode cX8_firstBad 14 = .ok (.iload_n 3, 1) := by decide +kernel
theorem dX8_firstBad_15 : decode cX8_firstBad 15 = .ok (.invokestatic 243, 3) := by decide +kernel
theorem dX8_firstBad_18 : decode cX8_firstBad 18 = .ok (.ifCond .eq 7, 3) := by decide +kernel
theorem dX8_firstBad_21 : decode cX8_firstBad 21 = .ok (.iconst 0, 1) := by decide +kernel
theorem dX8_firstBad_22 : decode cX8_firstBad 22 = .ok (.goto 4, 3) := by decide +kernel
theorem dX8_firstBad_25 : decode cX8_firstBad 25 = .ok (.iconst 2, 1) := by decide +kernel
theorem dX8_firstBad_26 : decode cX8_firstBad 26 = .ok (.invokevirtual 108, 3) := by decide +kernel
theorem dX8_firstBad_29 : decode cX8_firstBad 29 = .ok (.ifCond .eq 5, 3) := by decide +kernel
theorem dX8_firstBad_32 : decode cX8_firstBad 32 = .ok (.iconst 0, 1) := by decide +kernel
theorem dX8_firstBad_33 : decode cX8_firstBad 33 = .ok (.ireturn, 1) := by decide +kernel
theorem dX8_firstBad_34 : decode cX8_firstBad 34 = .ok (.iconst 0, 1) := by decide +kernel
theorem dX8_firstBad_35 : decode cX8_firstBad 35 = .ok (.istore 4, 2) := by decide +kernel
theorem dX8_firstBad_37 : decode cX8_firstBad 37 = .ok (.iload 4, 2) := by decide +kernel
theorem dX8_firstBad_39 : decode cX8_firstBad 39 = .ok (.iload_n 3, 1) := by decide +kernel
theorem dX8_firstBad_40 : decode cX8_firstBad 40 = .ok (.if_icmp .ge 26, 3) := by decide +kernel
theorem dX8_firstBad_43 : decode cX8_firstBad 43 = .ok (.aload_n 0, 1) := by decide +kernel
theorem dX8_firstBad_44 : decode cX8_firstBad 44 = .ok (.iload_n 1, 1) := by decide +kernel
theorem dX8_firstBad_45 : decode cX8_firstBad 45 = .ok (.iload_n 2, 1) := by decide +kernel
theorem dX8_firstBad_46 : decode cX8_firstBad 46 = .ok (.iload 4, 2) := by decide +kernel
theorem dX8_firstBad_48 : decode cX8_firstBad 48 = .ok (.iadd, 1) := by decide +kernel
theorem dX8_firstBad_49 : decode cX8_firstBad 49 = .ok (.invokevirtual 246, 3) := by decide +kernel
theorem dX8_firstBad_52 : decode cX8_firstBad 52 = .ok (.ifCond .eq 8, 3) := by decide +kernel
theorem dX8_firstBad_55 : decode cX8_firstBad 55 = .ok (.iload_n 2, 1) := by decide +kernel
theorem dX8_firstBad_56 : decode cX8_firstBad 56 = .ok (.iload 4, 2) := by decide +kernel
theorem dX8_firstBad_58 : decode cX8_firstBad 58 = .ok (.iadd, 1) := by decide +kernel
theorem dX8_firstBad_59 : decode cX8_firstBad 59 = .ok (.ireturn, 1) := by decide +kernel
theorem dX8_firstBad_60 : decode cX8_firstBad 60 = .ok (.iinc 4 1, 3) := by decide +kernel
theorem dX8_firstBad_63 : decode cX8_firstBad 63 = .ok (.goto (-26), 3) := by decide +kernel
theorem dX8_firstBad_66 : decode cX8_firstBad 66 = .ok (.sipush (-10000), 3) := by decide +kernel
theorem dX8_firstBad_69 : decode cX8_firstBad 69 = .ok (.ireturn, 1) := by decide +kernel
set_option maxRecDepth 20000 in
theorem ggX8_mostBlamed_X8_isPart : GoodIn wsX8_mostBlamed wsX8_isPart := goodIn_r _ [7, 2, 8, 9, 6, 10, 75, 76, 77, 78, 79, 80, 81, 82, 83, 84, 85, 86, 87, 88, 89, 90] (by decide +kernel) (by decide +kernel)
set_option maxRecDepth 20000 in
theorem gX8_mostBlamed_X8_isPart : GoodIn wsX8_mostBlamed (wsV RX8 186 RX8 yX8_isPart wsX8_isPart) := goodIn_app (goodIn_of _ (by decide +kernel)) ggX8_mostBlamed_X8_isPart
set_option maxRecDepth 20000 in
theorem ggX8_mostBlamed_X8_isTried : GoodIn wsX8_mostBlamed wsX8_isTried := goodIn_r _ [13, 14, 15, 16, 6, 17, 18, 19, 8, 9, 10] (by decide +kernel) (by decide +kernel)
set_option maxRecDepth 20000 in
theorem gX8_mostBlamed_X8_isTried : GoodIn wsX8_mostBlamed (va_wsS RX8 243 yX8_isTried wsX8_isTried) := goodIn_app (goodIn_of _ (by decide +kernel)) ggX8_mostBlamed_X8_isTried
set_option maxRecDepth 20000 in
theorem ggX8_mostBlamed_X8_refused : GoodIn wsX8_mostBlamed wsX8_refused := goodIn_r _ [23, 24, 75, 76, 77, 78, 79, 80, 81, 82, 83, 84, 85, 86, 87, 88, 89, 90] (by decide +kernel) (by decide +kernel)
set_option maxRecDepth 20000 in
theorem gX8_mostBlamed_X8_refused : GoodIn wsX8_mostBlamed (wsV RX8 108 RX8 yX8_refused wsX8_refused) := goodIn_app (goodIn_of _ (by decide +kernel)) ggX8_mostBlamed_X8_refused
set_option maxRecDepth 20000 in
theorem ggX8_mostBlamed_X8_tryIt : GoodIn wsX8_mostBlamed wsX8_tryIt := goodIn_r _ [28, 2, 1, 29, 30, 6, 31, 75, 76, 77, 78, 79, 80, 81, 82, 83, 84, 85, 86, 87, 88, 89, 90] (by decide +kernel) (by decide +kernel)
set_option maxRecDepth 20000 in
theorem gX8_mostBlamed_X8_tryIt : GoodIn wsX8_mostBlamed (wsV RX8 234 RX8 yX8_tryIt wsX8_tryIt) := goodIn_app (goodIn_of _ (by decide +kernel)) ggX8_mostBlamed_X8_tryIt
set_option maxRecDepth 20000 in
theorem ggX8_mostBlamed_X8_callIn : GoodIn wsX8_mostBlamed wsX8_callIn := goodIn_r _ [35, 36, 37, 38, 39, 6, 40, 41, 42, 43, 44, 45, 46, 47, 48, 49, 50, 51, 52, 53, 54, 55, 8, 9, 10, 56, 57, 58, 59, 60, 61, 62, 63, 64, 65, 66, 67, 68, 69, 70, 71, 72, 73, 74, 75, 76, 77, 78, 79, 80, 81, 82, 83, 84, 85, 86, 87, 88, 89, 90] (by decide +kernel) (by decide +kernel)
set_option maxRecDepth 20000 in
theorem gX8_mostBlamed_X8_callIn : GoodIn wsX8_mostBlamed (wsV RX8 156 RX8 yX8_callIn wsX8_callIn) := goodIn_app (goodIn_of _ (by decide +kernel)) ggX8_mostBlamed_X8_callIn
set_option maxRecDepth 20000 in
theorem ggX8_mostBlamed_X8_partAt : GoodIn wsX8_mostBlamed wsX8_partAt := goodIn_r _ [46] (by decide +kernel) (by decide +kernel)
set_option maxRecDepth 20000 in
theorem gX8_mostBlamed_X8_partAt : GoodIn wsX8_mostBlamed (va_wsS RX8 66 yX8_partAt wsX8_partAt) := goodIn_app (goodIn_of _ (by decide +kernel)) ggX8_mostBlamed_X8_partAt
theorem dX8_mostBlamed_0 : decode cX8_mostBlamed 0 = .ok (.aload_n 0, 1) := by decide +kernel
theorem dX8_mostBlamed_1 : decode cX8_mostBlamed 1 = .ok (.aload_n 0, 1) := by decide +kernel
theorem dX8_mostBlamed_2 : decode cX8_mostBlamed 2 = .ok (.iload_n 1, 1) := by decide +kernel
theorem dX8_mostBlamed_3 : decode cX8_mostBlamed 3 = .ok (.invokevirtual 186, 3) := by decide +kernel
theorem dX8_mostBlamed_6 : decode cX8_mostBlamed 6 = .ok (.ifCond .ne 7, 3) := by decide +kernel
theorem dX8_mostBlamed_9 : decode cX8_mostBlamed 9 = .ok (.iconst 1, 1) := by decide +kernel
theorem dX8_mostBlamed_10 : decode cX8_mostBlamed 10 = .ok (.goto 16, 3) := by decide +kernel
theorem dX8_mostBlamed_13 : decode cX8_mostBlamed 13 = .ok (.iload_n 2, 1) := by decide +kernel
theorem dX8_mostBlamed_14 : decode cX8_mostBlamed 14 = .ok (.iload_n 3, 1) := by decide +kernel
theorem dX8_mostBlamed_15 : decode cX8_mostBlamed 15 = .ok (.invokestatic 243, 3) := by decide +kernel
theorem dX8_mostBlamed_18 : decode cX8_mostBlamed 18 = .ok (.ifCond .eq 7, 3) := by decide +kernel
theorem dX8_mostBlamed_21 : decode cX8_mostBlamed 21 = .ok (.iconst 0, 1) := by decide +kernel
theorem dX8_mostBlamed_22 : decode cX8_mostBlamed 22 = .ok (.goto 4, 3) := by decide +kernel
theorem dX8_mostBlamed_25 : decode cX8_mostBlamed 25 = .ok (.iconst 2, 1) := by decide +kernel
theorem dX8_mostBlamed_26 : decode cX8_mostBlamed 26 = .ok (.invokevirtual 108, 3) := by decide +kernel
theorem dX8_mostBlamed_29 : decode cX8_mostBlamed 29 = .ok (.ifCond .eq 5, 3) := by decide +kernel
theorem dX8_mostBlamed_32 : decode cX8_mostBlamed 32 = .ok (.iconst 0, 1) := by decide +kernel
theorem dX8_mostBlamed_33 : decode cX8_mostBlamed 33 = .ok (.ireturn, 1) := by decide +kernel
theorem dX8_mostBlamed_34 : decode cX8_mostBlamed 34 = .ok (.aload_n 0, 1) := by decide +kernel
theorem dX8_mostBlamed_35 : decode cX8_mostBlamed 35 = .ok (.invokevirtual 234, 3) := by decide +kernel
theorem dX8_mostBlamed_38 : decode cX8_mostBlamed 38 = .ok (.iconst 0, 1) := by decide +kernel
theorem dX8_mostBlamed_39 : decode cX8_mostBlamed 39 = .ok (.istore 4, 2) := by decide +kernel
theorem dX8_mostBlamed_41 : decode cX8_mostBlamed 41 = .ok (.iload 4, 2) := by decide +kernel
theorem dX8_mostBlamed_43 : decode cX8_mostBlamed 43 = .ok (.iload_n 3, 1) := by decide +kernel
theorem dX8_mostBlamed_44 : decode cX8_mostBlamed 44 = .ok (.if_icmp .ge 23, 3) := by decide +kernel
theorem dX8_mostBlamed_47 : decode cX8_mostBlamed 47 = .ok (.aload_n 0, 1) := by decide +kernel
theorem dX8_mostBlamed_48 : decode cX8_mostBlamed 48 = .ok (.aload_n 0, 1) := by decide +kernel
theorem dX8_mostBlamed_49 : decode cX8_mostBlamed 49 = .ok (.getfield 19, 3) := by decide +kernel
theorem dX8_mostBlamed_52 : decode cX8_mostBlamed 52 = .ok (.iload_n 1, 1) := by decide +kernel
theorem dX8_mostBlamed_53 : decode cX8_mostBlamed 53 = .ok (.iload_n 2, 1) := by decide +kernel
theorem dX8_mostBlamed_54 : decode cX8_mostBlamed 54 = .ok (.iload 4, 2) := by decide +kernel
theorem dX8_mostBlamed_56 : decode cX8_mostBlamed 56 = .ok (.iadd, 1) := by decide +kernel
theorem dX8_mostBlamed_57 : decode cX8_mostBlamed 57 = .ok (.invokevirtual 156, 3) := by decide +kernel
theorem dX8_mostBlamed_60 : decode cX8_mostBlamed 60 = .ok (.pop, 1) := by decide +kernel
theorem dX8_mostBlamed_61 : decode cX8_mostBlamed 61 = .ok (.iinc 4 1, 3) := by decide +kernel
theorem dX8_mostBlamed_64 : decode cX8_mostBlamed 64 = .ok (.goto (-23), 3) := by decide +kernel
theorem dX8_mostBlamed_67 : decode cX8_mostBlamed 67 = .ok (.sipush (-10000), 3) := by decide +kernel
theorem dX8_mostBlamed_70 : decode cX8_mostBlamed 70 = .ok (.istore 4, 2) := by decide +kernel
theorem dX8_mostBlamed_72 : decode cX8_mostBlamed 72 = .ok (.iconst 0, 1) := by decide +kernel
theorem dX8_mostBlamed_73 : decode cX8_mostBlamed 73 = .ok (.istore 5, 2) := by decide +kernel
theorem dX8_mostBlamed_75 : decode cX8_mostBlamed 75 = .ok (.iconst 0, 1) := by decide +kernel
theorem dX8_mostBlamed_76 : decode cX8_mostBlamed 76 = .ok (.istore 6, 2) := by decide +kernel
theorem dX8_mostBlamed_78 : decode cX8_mostBlamed 78 = .ok (.iload 6, 2) := by decide +kernel
theorem dX8_mostBlamed_80 : decode cX8_mostBlamed 80 = .ok (.aload_n 0, 1) := by decide +kernel
theorem dX8_mostBlamed_81 : decode cX8_mostBlamed 81 = .ok (.getfield 16, 3) := by decide +kernel
theorem dX8_mostBlamed_84 : decode cX8_mostBlamed 84 = .ok (.iconst 0, 1) := by decide +kernel
theorem dX8_mostBlamed_85 : decode cX8_mostBlamed 85 = .ok (.iaload, 1) := by decide +kernel
theorem dX8_mostBlamed_86 : decode cX8_mostBlamed 86 = .ok (.if_icmp .ge 68, 3) := by decide +kernel
theorem dX8_mostBlamed_89 : decode cX8_mostBlamed 89 = .ok (.aload_n 0, 1) := by decide +kernel
theorem dX8_mostBlamed_90 : decode cX8_mostBlamed 90 = .ok (.getfield 19, 3) := by decide +kernel
theorem dX8_mostBlamed_93 : decode cX8_mostBlamed 93 = .ok (.iload 6, 2) := by decide +kernel
theorem dX8_mostBlamed_95 : decode cX8_mostBlamed 95 = .ok (.bipush 6, 2) := by decide +kernel
theorem dX8_mostBlamed_97 : decode cX8_mostBlamed 97 = .ok (.invokestatic 66, 3) := by decide +kernel
theorem dX8_mostBlamed_100 : decode cX8_mostBlamed 100 = .ok (.iaload, 1) := by decide +kernel
theorem dX8_mostBlamed_101 : decode cX8_mostBlamed 101 = .ok (.aload_n 0, 1) := by decide +kernel
theorem dX8_mostBlamed_102 : decode cX8_mostBlamed 102 = .ok (.getfield 16, 3) := by decide +kernel
theorem dX8_mostBlamed_105 : decode cX8_mostBlamed 105 = .ok (.iload 6, 2) := by decide +kernel
theorem dX8_mostBlamed_107 : decode cX8_mostBlamed 107 = .ok (.bipush 6, 2) := by decide +kernel
theorem dX8_mostBlamed_109 : decode cX8_mostBlamed 109 = .ok (.invokestatic 66, 3) := by decide +kernel
theorem dX8_mostBlamed_112 : decode cX8_mostBlamed 112 = .ok (.iaload, 1) := by decide +kernel
theorem dX8_mostBlamed_113 : decode cX8_mostBlamed 113 = .ok (.isub, 1) := by decide +kernel
theorem dX8_mostBlamed_114 : decode cX8_mostBlamed 114 = .ok (.istore 7, 2) := by decide +kernel
theorem dX8_mostBlamed_116 : decode cX8_mostBlamed 116 = .ok (.iload 7, 2) := by decide +kernel
theorem dX8_mostBlamed_118 : decode cX8_mostBlamed 118 = .ok (.iload 5, 2) := by decide +kernel
theorem dX8_mostBlamed_120 : decode cX8_mostBlamed 120 = .ok (.if_icmp .le 8, 3) := by decide +kernel
theorem dX8_mostBlamed_123 : decode cX8_mostBlamed 123 = .ok (.iload 6, 2) := by decide +kernel
theorem dX8_mostBlamed_125 : decode cX8_mostBlamed 125 = .ok (.goto 5, 3) := by decide +kernel
theorem dX8_mostBlamed_128 : decode cX8_mostBlamed 128 = .ok (.iload 4, 2) := by decide +kernel
theorem dX8_mostBlamed_130 : decode cX8_mostBlamed 130 = .ok (.istore 4, 2) := by decide +kernel
theorem dX8_mostBlamed_132 : decode cX8_mostBlamed 132 = .ok (.iload 7, 2) := by decide +kernel
theorem dX8_mostBlamed_134 : decode cX8_mostBlamed 134 = .ok (.iload 5, 2) := by decide +kernel
theorem dX8_mostBlamed_136 : decode cX8_mostBlamed 136 = .ok (.if_icmp .le 8, 3) := by decide +kernel
theorem dX8_mostBlamed_139 : decode cX8_mostBlamed 139 = .ok (.iload 7, 2) := by decide +kernel
theorem dX8_mostBlamed_141 : decode cX8_mostBlamed 141 = .ok (.goto 5, 3) := by decide +kernel
theorem dX8_mostBlamed_144 : decode cX8_mostBlamed 144 = .ok (.iload 5, 2) := by decide +kernel
theorem dX8_mostBlamed_146 : decode cX8_mostBlamed 146 = .ok (.istore 5, 2) := by decide +kernel
theorem dX8_mostBlamed_148 : decode cX8_mostBlamed 148 = .ok (.iinc 6 1, 3) := by decide +kernel
theorem dX8_mostBlamed_151 : decode cX8_mostBlamed 151 = .ok (.goto (-73), 3) := by decide +kernel
theorem dX8_mostBlamed_154 : decode cX8_mostBlamed 154 = .ok (.iload 4, 2) := by decide +kernel
theorem dX8_mostBlamed_156 : decode cX8_mostBlamed 156 = .ok (.ireturn, 1) := by decide +kernel
set_option maxRecDepth 20000 in
theorem ggX8_reach_X8_isPart : GoodIn wsX8_reach wsX8_isPart := goodIn_r _ [5, 6, 7, 8, 4, 9, 75, 76, 77, 78, 79, 80, 81, 82, 83, 84, 85, 86, 87, 88, 89, 90] (by decide +kernel) (by decide +kernel)
set_option maxRecDepth 20000 in
theorem gX8_reach_X8_isPart : GoodIn wsX8_reach (wsV RX8 186 RX8 yX8_isPart wsX8_isPart) := goodIn_app (goodIn_of _ (by decide +kernel)) ggX8_reach_X8_isPart
set_option maxRecDepth 20000 in
theorem ggX8_reach_X8_isNumber : GoodIn wsX8_reach wsX8_isNumber := goodIn_r _ [12, 13, 14, 7, 8, 4, 9] (by decide +kernel) (by decide +kernel)
set_option maxRecDepth 20000 in
theorem gX8_reach_X8_isNumber : GoodIn wsX8_reach (va_wsS RX8 229 yX8_isNumber wsX8_isNumber) := goodIn_app (goodIn_of _ (by decide +kernel)) ggX8_reach_X8_isNumber
set_option maxRecDepth 20000 in
theorem ggX8_reach_X8_refused : GoodIn wsX8_reach wsX8_refused := goodIn_r _ [18, 19, 75, 76, 77, 78, 79, 80, 81, 82, 83, 84, 85, 86, 87, 88, 89, 90] (by decide +kernel) (by decide +kernel)
set_option maxRecDepth 20000 in
theorem gX8_reach_X8_refused : GoodIn wsX8_reach (wsV RX8 108 RX8 yX8_refused wsX8_refused) := goodIn_app (goodIn_of _ (by decide +kernel)) ggX8_reach_X8_refused
set_option maxRecDepth 20000 in
theorem ggX8_reach_X8_isBad : GoodIn wsX8_reach wsX8_isBad := goodIn_r _ [23, 24, 25, 26, 27, 4, 28, 6, 29, 30, 31, 32, 33, 34, 35, 36, 37, 38, 39, 40, 41, 42, 43, 44, 45, 46, 47, 48, 49, 50, 51, 52, 53, 54, 55, 7, 8, 9, 56, 57, 58, 59, 60, 61, 62, 63, 64, 65, 66, 67, 68, 69, 70, 71, 72, 73, 74, 75, 76, 77, 78, 79, 80, 81, 82, 83, 84, 85, 86, 87, 88, 89, 90] (by decide +kernel) (by decide +kernel)
set_option maxRecDepth 20000 in
theorem gX8_reach_X8_isBad : GoodIn wsX8_reach (wsV RX8 246 RX8 yX8_isBad wsX8_isBad) := goodIn_app (goodIn_of _ (by decide +kernel)) ggX8_reach_X8_isBad
theorem dX8_reach_0 : decode cX8_reach 0 = .ok (.aload_n 0, 1) := by decide +kernel
theorem dX8_reach_1 : decode cX8_reach 1 = .ok (.aload_n 0, 1) := by decide +kernel
theorem dX8_reach_2 : decode cX8_reach 2 = .ok (.iload_n 1, 1) := by decide +kernel
theorem dX8_reach_3 : decode cX8_reach 3 = .ok (.invokevirtual 186, 3) := by decide +kernel
theorem dX8_reach_6 : decode cX8_reach 6 = .ok (.ifCond .ne 7, 3) := by decide +kernel
theorem dX8_reach_9 : decode cX8_reach 9 = .ok (.iconst 1, 1) := by decide +kernel
theorem dX8_reach_10 : decode cX8_reach 10 = .ok (.goto 15, 3) := by decide +kernel
theorem dX8_reach_13 : decode cX8_reach 13 = .ok (.iload_n 2, 1) := by decide +kernel
theorem dX8_reach_14 : decode cX8_reach 14 = .ok (.invokestatic 229, 3) := by decide +kernel
theorem dX8_reach_17 : decode cX8_reach 17 = .ok (.ifCond .eq 7, 3) := by decide +kernel
theorem dX8_reach_20 : decode cX8_reach 20 = .ok (.iconst 0, 1) := by decide +kernel
theorem dX8_reach_21 : decode cX8_reach 21 = .ok (.goto 4, 3) := by decide +kernel
theorem dX8_reach_24 : decode cX8_reach 24 = .ok (.iconst 2, 1) := by decide +kernel
theorem dX8_reach_25 : decode cX8_reach 25 = .ok (.invokevirtual 108, 3) := by decide +kernel
theorem dX8_reach_28 : decode cX8_reach 28 = .ok (.ifCond .eq 5, 3) := by decide +kernel
theorem dX8_reach_31 : decode cX8_reach 31 = .ok (.iconst 0, 1) := by decide +kernel
theorem dX8_reach_32 : decode cX8_reach 32 = .ok (.ireturn, 1) := by decide +kernel
theorem dX8_reach_33 : decode cX8_reach 33 = .ok (.aload_n 0, 1) := by decide +kernel
theorem dX8_reach_34 : decode cX8_reach 34 = .ok (.iload_n 1, 1) := by decide +kernel
theorem dX8_reach_35 : decode cX8_reach 35 = .ok (.iload_n 2, 1) := by decide +kernel
theorem dX8_reach_36 : decode cX8_reach 36 = .ok (.invokevirtual 246, 3) := by decide +kernel
theorem dX8_reach_39 : decode cX8_reach 39 = .ok (.ifCond .eq 7, 3) := by decide +kernel
theorem dX8_reach_42 : decode cX8_reach 42 = .ok (.sipush (-10000), 3) := by decide +kernel
theorem dX8_reach_45 : decode cX8_reach 45 = .ok (.ireturn, 1) := by decide +kernel
theorem dX8_reach_46 : decode cX8_reach 46 = .ok (.iload_n 2, 1) := by decide +kernel
theorem dX8_reach_47 : decode cX8_reach 47 = .ok (.istore 4, 2) := by decide +kernel
theorem dX8_reach_49 : decode cX8_reach 49 = .ok (.iload_n 3, 1) := by decide +kernel
theorem dX8_reach_50 : decode cX8_reach 50 = .ok (.ifCond .eq 7, 3) := by decide +kernel
theorem dX8_reach_53 : decode cX8_reach 53 = .ok (.iconst 1, 1) := by decide +kernel
theorem dX8_reach_54 : decode cX8_reach 54 = .ok (.goto 4, 3) := by decide +kernel
theorem dX8_reach_57 : decode cX8_reach 57 = .ok (.iconst (-1), 1) := by decide +kernel
theorem dX8_reach_58 : decode cX8_reach 58 = .ok (.istore 5, 2) := by decide +kernel
theorem dX8_reach_60 : decode cX8_reach 60 = .ok (.iload 4, 2) := by decide +kernel
theorem dX8_reach_62 : decode cX8_reach 62 = .ok (.iload_n 2, 1) := by decide +kernel
theorem dX8_reach_63 : decode cX8_reach 63 = .ok (.iload 5, 2) := by decide +kernel
theorem dX8_reach_65 : decode cX8_reach 65 = .ok (.sipush 200, 3) := by decide +kernel
theorem dX8_reach_68 : decode cX8_reach 68 = .ok (.imul, 1) := by decide +kernel
theorem dX8_reach_69 : decode cX8_reach 69 = .ok (.iadd, 1) := by decide +kernel
theorem dX8_reach_70 : decode cX8_reach 70 = .ok (.if_icmp .eq 26, 3) := by decide +kernel
theorem dX8_reach_73 : decode cX8_reach 73 = .ok (.aload_n 0, 1) := by decide +kernel
theorem dX8_reach_74 : decode cX8_reach 74 = .ok (.iload_n 1, 1) := by decide +kernel
theorem dX8_reach_75 : decode cX8_reach 75 = .ok (.iload 4, 2) := by decide +kernel
theorem dX8_reach_77 : decode cX8_reach 77 = .ok (.iload 5, 2) := by decide +kernel
theorem dX8_reach_79 : decode cX8_reach 79 = .ok (.iadd, 1) := by decide +kernel
theorem dX8_reach_80 : decode cX8_reach 80 = .ok (.invokevirtual 246, 3) := by decide +kernel
theorem dX8_reach_83 : decode cX8_reach 83 = .ok (.ifCond .ne 13, 3) := by decide +kernel
theorem dX8_reach_86 : decode cX8_reach 86 = .ok (.iload 4, 2) := by decide +kernel
theorem dX8_reach_88 : decode cX8_reach 88 = .ok (.iload 5, 2) := by decide +kernel
theorem dX8_reach_90 : decode cX8_reach 90 = .ok (.iadd, 1) := by decide +kernel
theorem dX8_reach_91 : decode cX8_reach 91 = .ok (.istore 4, 2) := by decide +kernel
theorem dX8_reach_93 : decode cX8_reach 93 = .ok (.goto (-33), 3) := by decide +kernel
theorem dX8_reach_96 : decode cX8_reach 96 = .ok (.iload 4, 2) := by decide +kernel
theorem dX8_reach_98 : decode cX8_reach 98 = .ok (.ireturn, 1) := by decide +kernel
theorem dX8_isTrial_0 : decode cX8_isTrial 0 = .ok (.iload_n 1, 1) := by decide +kernel
theorem dX8_isTrial_1 : decode cX8_isTrial 1 = .ok (.aload_n 0, 1) := by decide +kernel
theorem dX8_isTrial_2 : decode cX8_isTrial 2 = .ok (.getfield 19, 3) := by decide +kernel
theorem dX8_isTrial_5 : decode cX8_isTrial 5 = .ok (.iconst 0, 1) := by decide +kernel
theorem dX8_isTrial_6 : decode cX8_isTrial 6 = .ok (.iaload, 1) := by decide +kernel
theorem dX8_isTrial_7 : decode cX8_isTrial 7 = .ok (.if_icmp .ge 7, 3) := by decide +kernel
theorem dX8_isTrial_10 : decode cX8_isTrial 10 = .ok (.iconst 1, 1) := by decide +kernel
theorem dX8_isTrial_11 : decode cX8_isTrial 11 = .ok (.goto 4, 3) := by decide +kernel
theorem dX8_isTrial_14 : decode cX8_isTrial 14 = .ok (.iconst 0, 1) := by decide +kernel
theorem dX8_isTrial_15 : decode cX8_isTrial 15 = .ok (.ireturn, 1) := by decide +kernel
set_option maxRecDepth 20000 in
theorem ggX8_chains_X8_isTrial : GoodIn wsX8_chains wsX8_isTrial := goodIn_r _ [6, 1, 13, 14, 15, 16, 17, 18, 19, 20, 21, 22, 23, 24, 25, 26, 27, 28] (by decide +kernel) (by decide +kernel)
set_option maxRecDepth 20000 in
theorem gX8_chains_X8_isTrial : GoodIn wsX8_chains (wsV RX8 249 RX8 yX8_isTrial wsX8_isTrial) := goodIn_app (goodIn_of _ (by decide +kernel)) ggX8_chains_X8_isTrial
set_option maxRecDepth 20000 in
theorem ggX8_chains_X8_chainIn : GoodIn wsX8_chains wsX8_chainIn := goodIn_r _ [9, 10, 11, 5, 12] (by decide +kernel) (by decide +kernel)
set_option maxRecDepth 20000 in
theorem gX8_chains_X8_chainIn : GoodIn wsX8_chains (va_wsS RX8 148 yX8_chainIn wsX8_chainIn) := goodIn_app (goodIn_of _ (by decide +kernel)) ggX8_chains_X8_chainIn
theorem dX8_chains_0 : decode cX8_chains 0 = .ok (.aload_n 0, 1) := by decide +kernel
theorem dX8_chains_1 : decode cX8_chains 1 = .ok (.iload_n 1, 1) := by decide +kernel
theorem dX8_chains_2 : decode cX8_chains 2 = .ok (.invokevirtual 249, 3) := by decide +kernel
theorem dX8_chains_5 : decode cX8_chains 5 = .ok (.ifCond .eq 8, 3) := by decide +kernel
theorem dX8_chains_8 : decode cX8_chains 8 = .ok (.iload_n 2, 1) := by decide +kernel
theorem dX8_chains_9 : decode cX8_chains 9 = .ok (.iload_n 1, 1) := by decide +kernel
theorem dX8_chains_10 : decode cX8_chains 10 = .ok (.if_icmp .lt 5, 3) := by decide +kernel
theorem dX8_chains_13 : decode cX8_chains 13 = .ok (.iconst 0, 1) := by decide +kernel
theorem dX8_chains_14 : decode cX8_chains 14 = .ok (.ireturn, 1) := by decide +kernel
theorem dX8_chains_15 : decode cX8_chains 15 = .ok (.aload_n 0, 1) := by decide +kernel
theorem dX8_chains_16 : decode cX8_chains 16 = .ok (.getfield 19, 3) := by decide +kernel
theorem dX8_chains_19 : decode cX8_chains 19 = .ok (.iload_n 1, 1) := by decide +kernel
theorem dX8_chains_20 : decode cX8_chains 20 = .ok (.iload_n 2, 1) := by decide +kernel
theorem dX8_chains_21 : decode cX8_chains 21 = .ok (.iconst 0, 1) := by decide +kernel
theorem dX8_chains_22 : decode cX8_chains 22 = .ok (.invokestatic 148, 3) := by decide +kernel
theorem dX8_chains_25 : decode cX8_chains 25 = .ok (.iconst 1, 1) := by decide +kernel
theorem dX8_chains_26 : decode cX8_chains 26 = .ok (.ireturn, 1) := by decide +kernel
set_option maxRecDepth 20000 in
theorem ggX8_nets_X8_isTrial : GoodIn wsX8_nets wsX8_isTrial := goodIn_r _ [6, 1, 10, 11, 12, 13, 14, 15, 16, 17, 18, 19, 20, 21, 22, 23, 24, 25] (by decide +kernel) (by decide +kernel)
set_option maxRecDepth 20000 in
theorem gX8_nets_X8_isTrial : GoodIn wsX8_nets (wsV RX8 249 RX8 yX8_isTrial wsX8_isTrial) := goodIn_app (goodIn_of _ (by decide +kernel)) ggX8_nets_X8_isTrial
set_option maxRecDepth 20000 in
theorem ggX8_nets_X8_partAt : GoodIn wsX8_nets wsX8_partAt := goodIn_r _ [9] (by decide +kernel) (by decide +kernel)
set_option maxRecDepth 20000 in
theorem gX8_nets_X8_partAt : GoodIn wsX8_nets (va_wsS RX8 66 yX8_partAt wsX8_partAt) := goodIn_app (goodIn_of _ (by decide +kernel)) ggX8_nets_X8_partAt
theorem dX8_nets_0 : decode cX8_nets 0 = .ok (.aload_n 0, 1) := by decide +kernel
theorem dX8_nets_1 : decode cX8_nets 1 = .ok (.iload_n 1, 1) := by decide +kernel
theorem dX8_nets_2 : decode cX8_nets 2 = .ok (.invokevirtual 249, 3) := by decide +kernel
theorem dX8_nets_5 : decode cX8_nets 5 = .ok (.ifCond .ne 5, 3) := by decide +kernel
theorem dX8_nets_8 : decode cX8_nets 8 = .ok (.iconst 0, 1) := by decide +kernel
theorem dX8_nets_9 : decode cX8_nets 9 = .ok (.ireturn, 1) := by decide +kernel
theorem dX8_nets_10 : decode cX8_nets 10 = .ok (.aload_n 0, 1) := by decide +kernel
theorem dX8_nets_11 : decode cX8_nets 11 = .ok (.getfield 19, 3) := by decide +kernel
theorem dX8_nets_14 : decode cX8_nets 14 = .ok (.iload_n 1, 1) := by decide +kernel
theorem dX8_nets_15 : decode cX8_nets 15 = .ok (.iconst 4, 1) := by decide +kernel
theorem dX8_nets_16 : decode cX8_nets 16 = .ok (.invokestatic 66, 3) := by decide +kernel
theorem dX8_nets_19 : decode cX8_nets 19 = .ok (.iload_n 2, 1) := by decide +kernel
theorem dX8_nets_20 : decode cX8_nets 20 = .ok (.iastore, 1) := by decide +kernel
theorem dX8_nets_21 : decode cX8_nets 21 = .ok (.iconst 1, 1) := by decide +kernel
theorem dX8_nets_22 : decode cX8_nets 22 = .ok (.ireturn, 1) := by decide +kernel
set_option maxRecDepth 20000 in
theorem ggX8_drops_X8_isTrial : GoodIn wsX8_drops wsX8_isTrial := goodIn_r _ [6, 1, 13, 14, 15, 16, 17, 18, 19, 20, 21, 22, 23, 24, 25, 26, 27, 28] (by decide +kernel) (by decide +kernel)
set_option maxRecDepth 20000 in
theorem gX8_drops_X8_isTrial : GoodIn wsX8_drops (wsV RX8 249 RX8 yX8_isTrial wsX8_isTrial) := goodIn_app (goodIn_of _ (by decide +kernel)) ggX8_drops_X8_isTrial
set_option maxRecDepth 20000 in
theorem ggX8_drops_X8_hasContract : GoodIn wsX8_drops wsX8_hasContract := goodIn_r _ [9, 10, 11, 5, 12] (by decide +kernel) (by decide +kernel)
set_option maxRecDepth 20000 in
theorem gX8_drops_X8_hasContract : GoodIn wsX8_drops (va_wsS RX8 58 yX8_hasContract wsX8_hasContract) := goodIn_app (goodIn_of _ (by decide +kernel)) ggX8_drops_X8_hasContract
set_option maxRecDepth 20000 in
theorem ggX8_drops_X8_contractAt : GoodIn wsX8_drops wsX8_contractAt := goodIn_r _ [12] (by decide +kernel) (by decide +kernel)
set_option maxRecDepth 20000 in
theorem gX8_drops_X8_contractAt : GoodIn wsX8_drops (va_wsS RX8 54 yX8_contractAt wsX8_contractAt) := goodIn_app (goodIn_of _ (by decide +kernel)) ggX8_drops_X8_contractAt
theorem dX8_drops_0 : decode cX8_drops 0 = .ok (.aload_n 0, 1) := by decide +kernel
theorem dX8_drops_1 : decode cX8_drops 1 = .ok (.iload_n 2, 1) := by decide +kernel
theorem dX8_drops_2 : decode cX8_drops 2 = .ok (.invokevirtual 249, 3) := by decide +kernel
theorem dX8_drops_5 : decode cX8_drops 5 = .ok (.ifCond .eq 15, 3) := by decide +kernel
theorem dX8_drops_8 : decode cX8_drops 8 = .ok (.aload_n 0, 1) := by decide +kernel
theorem dX8_drops_9 : decode cX8_drops 9 = .ok (.getfield 19, 3) := by decide +kernel
theorem dX8_drops_12 : decode cX8_drops 12 = .ok (.iload_n 1, 1) := by decide +kernel
theorem dX8_drops_13 : decode cX8_drops 13 = .ok (.iload_n 2, 1) := by decide +kernel
theorem dX8_drops_14 : decode cX8_drops 14 = .ok (.invokestatic 58, 3) := by decide +kernel
theorem dX8_drops_17 : decode cX8_drops 17 = .ok (.ifCond .ne 5, 3) := by decide +kernel
theorem dX8_drops_20 : decode cX8_drops 20 = .ok (.iconst 0, 1) := by decide +kernel
theorem dX8_drops_21 : decode cX8_drops 21 = .ok (.ireturn, 1) := by decide +kernel
theorem dX8_drops_22 : decode cX8_drops 22 = .ok (.aload_n 0, 1) := by decide +kernel
theorem dX8_drops_23 : decode cX8_drops 23 = .ok (.getfield 19, 3) := by decide +kernel
theorem dX8_drops_26 : decode cX8_drops 26 = .ok (.iload_n 1, 1) := by decide +kernel
theorem dX8_drops_27 : decode cX8_drops 27 = .ok (.iload_n 2, 1) := by decide +kernel
theorem dX8_drops_28 : decode cX8_drops 28 = .ok (.iconst 0, 1) := by decide +kernel
theorem dX8_drops_29 : decode cX8_drops 29 = .ok (.invokestatic 54, 3) := by decide +kernel
theorem dX8_drops_32 : decode cX8_drops 32 = .ok (.iconst 0, 1) := by decide +kernel
theorem dX8_drops_33 : decode cX8_drops 33 = .ok (.iastore, 1) := by decide +kernel
theorem dX8_drops_34 : decode cX8_drops 34 = .ok (.iconst 1, 1) := by decide +kernel
theorem dX8_drops_35 : decode cX8_drops 35 = .ok (.ireturn, 1) := by decide +kernel
set_option maxRecDepth 20000 in
theorem ggX8_asked_X8_copy : GoodIn wsX8_asked wsX8_copy := goodIn_r _ [6] (by decide +kernel) (by decide +kernel)
set_option maxRecDepth 20000 in
theorem gX8_asked_X8_copy : GoodIn wsX8_asked (va_wsS RX8 50 yX8_copy wsX8_copy) := goodIn_app (goodIn_of _ (by decide +kernel)) ggX8_asked_X8_copy
set_option maxRecDepth 20000 in
theorem ggX8_asked_X8_callIn : GoodIn wsX8_asked wsX8_callIn := goodIn_r _ [10, 11, 12, 13, 14, 5, 15, 16, 17, 18, 19, 20, 21, 22, 23, 24, 25, 26, 27, 28, 29, 30, 31, 32, 33, 34, 35, 36, 37, 38, 39, 40, 41, 42, 43, 44, 45, 46, 47, 48, 49, 50, 51, 52, 53, 54, 55, 56, 57, 58, 59, 60, 61, 62, 63, 64, 65, 66, 67, 68] (by decide +kernel) (by decide +kernel)
set_option maxRecDepth 20000 in
theorem gX8_asked_X8_callIn : GoodIn wsX8_asked (wsV RX8 156 RX8 yX8_callIn wsX8_callIn) := goodIn_app (goodIn_of _ (by decide +kernel)) ggX8_asked_X8_callIn
theorem dX8_asked_0 : decode cX8_asked 0 = .ok (.aload_n 0, 1) := by decide +kernel
theorem dX8_asked_1 : decode cX8_asked 1 = .ok (.getfield 19, 3) := by decide +kernel
theorem dX8_asked_4 : decode cX8_asked 4 = .ok (.iconst 0, 1) := by decide +kernel
theorem dX8_asked_5 : decode cX8_asked 5 = .ok (.aload_n 0, 1) := by decide +kernel
theorem dX8_asked_6 : decode cX8_asked 6 = .ok (.getfield 38, 3) := by decide +kernel
theorem dX8_asked_9 : decode cX8_asked 9 = .ok (.iconst 0, 1) := by decide +kernel
theorem dX8_asked_10 : decode cX8_asked 10 = .ok (.sipush 748, 3) := by decide +kernel
theorem dX8_asked_13 : decode cX8_asked 13 = .ok (.invokestatic 50, 3) := by decide +kernel
theorem dX8_asked_16 : decode cX8_asked 16 = .ok (.aload_n 0, 1) := by decide +kernel
theorem dX8_asked_17 : decode cX8_asked 17 = .ok (.aload_n 0, 1) := by decide +kernel
theorem dX8_asked_18 : decode cX8_asked 18 = .ok (.getfield 19, 3) := by decide +kernel
theorem dX8_asked_21 : decode cX8_asked 21 = .ok (.iload_n 1, 1) := by decide +kernel
theorem dX8_asked_22 : decode cX8_asked 22 = .ok (.iload_n 2, 1) := by decide +kernel
theorem dX8_asked_23 : decode cX8_asked 23 = .ok (.invokevirtual 156, 3) := by decide +kernel
theorem dX8_asked_26 : decode cX8_asked 26 = .ok (.istore_n 3, 1) := by decide +kernel
theorem dX8_asked_27 : decode cX8_asked 27 = .ok (.aload_n 0, 1) := by decide +kernel
theorem dX8_asked_28 : decode cX8_asked 28 = .ok (.getfield 38, 3) := by decide +kernel
theorem dX8_asked_31 : decode cX8_asked 31 = .ok (.iconst 0, 1) := by decide +kernel
theorem dX8_asked_32 : decode cX8_asked 32 = .ok (.aload_n 0, 1) := by decide +kernel
theorem dX8_asked_33 : decode cX8_asked 33 = .ok (.getfield 19, 3) := by decide +kernel
theorem dX8_asked_36 : decode cX8_asked 36 = .ok (.iconst 0, 1) := by decide +kernel
theorem dX8_asked_37 : decode cX8_asked 37 = .ok (.sipush 748, 3) := by decide +kernel
theorem dX8_asked_40 : decode cX8_asked 40 = .ok (.invokestatic 50, 3) := by decide +kernel
theorem dX8_asked_43 : decode cX8_asked 43 = .ok (.iload_n 3, 1) := by decide +kernel
theorem dX8_asked_44 : decode cX8_asked 44 = .ok (.ireturn, 1) := by decide +kernel
set_option maxRecDepth 20000 in
theorem ggX8_does_X8_isTrial : GoodIn wsX8_does wsX8_isTrial := goodIn_r _ [6, 1, 76, 77, 78, 79, 80, 81, 82, 83, 84, 85, 86, 87, 88, 89, 90, 91] (by decide +kernel) (by decide +kernel)
set_option maxRecDepth 20000 in
theorem gX8_does_X8_isTrial : GoodIn wsX8_does (wsV RX8 249 RX8 yX8_isTrial wsX8_isTrial) := goodIn_app (goodIn_of _ (by decide +kernel)) ggX8_does_X8_isTrial
set_option maxRecDepth 20000 in
theorem ggX8_does_X8_callIn : GoodIn wsX8_does wsX8_callIn := goodIn_r _ [10, 11, 12, 13, 14, 5, 15, 16, 17, 18, 19, 20, 21, 22, 23, 24, 25, 26, 27, 28, 29, 30, 31, 32, 33, 34, 35, 36, 37, 38, 39, 40, 41, 42, 43, 44, 45, 46, 47, 48, 49, 50, 51, 52, 76, 77, 78, 79, 80, 81, 82, 83, 84, 85, 86, 87, 88, 89, 90, 91] (by decide +kernel) (by decide +kernel)
set_option maxRecDepth 20000 in
theorem gX8_does_X8_callIn : GoodIn wsX8_does (wsV RX8 156 RX8 yX8_callIn wsX8_callIn) := goodIn_app (goodIn_of _ (by decide +kernel)) ggX8_does_X8_callIn
set_option maxRecDepth 20000 in
theorem ggX8_does_X8_chains : GoodIn wsX8_does wsX8_chains := goodIn_r _ [56, 1, 2, 3, 4, 5, 6, 57, 58, 59, 19, 20, 21, 76, 77, 78, 79, 80, 81, 82, 83, 84, 85, 86, 87, 88, 89, 90, 91] (by decide +kernel) (by decide +kernel)
set_option maxRecDepth 20000 in
theorem gX8_does_X8_chains : GoodIn wsX8_does (wsV RX8 252 RX8 yX8_chains wsX8_chains) := goodIn_app (goodIn_of _ (by decide +kernel)) ggX8_does_X8_chains
set_option maxRecDepth 20000 in
theorem ggX8_does_X8_nets : GoodIn wsX8_does wsX8_nets := goodIn_r _ [63, 1, 2, 3, 4, 5, 6, 19, 20, 21, 76, 77, 78, 79, 80, 81, 82, 83, 84, 85, 86, 87, 88, 89, 90, 91] (by decide +kernel) (by decide +kernel)
set_option maxRecDepth 20000 in
theorem gX8_does_X8_nets : GoodIn wsX8_does (wsV RX8 255 RX8 yX8_nets wsX8_nets) := goodIn_app (goodIn_of _ (by decide +kernel)) ggX8_does_X8_nets
set_option maxRecDepth 20000 in
theorem ggX8_does_X8_drops : GoodIn wsX8_does wsX8_drops := goodIn_r _ [67, 1, 2, 3, 4, 5, 6, 25, 26, 27, 28, 29, 30, 76, 77, 78, 79, 80, 81, 82, 83, 84, 85, 86, 87, 88, 89, 90, 91] (by decide +kernel) (by decide +kernel)
set_option maxRecDepth 20000 in
theorem gX8_does_X8_drops : GoodIn wsX8_does (wsV RX8 258 RX8 yX8_drops wsX8_drops) := goodIn_app (goodIn_of _ (by decide +kernel)) ggX8_does_X8_drops
set_option maxRecDepth 20000 in
theorem ggX8_does_X8_partAt : GoodIn wsX8_does wsX8_partAt := goodIn_r _ [21] (by decide +kernel) (by decide +kernel)
set_option maxRecDepth 20000 in
theorem gX8_does_X8_partAt : GoodIn wsX8_does (va_wsS RX8 66 yX8_partAt wsX8_partAt) := goodIn_app (goodIn_of _ (by decide +kernel)) ggX8_does_X8_partAt
set_option maxRecDepth 20000 in
theorem ggX8_does_X8_asked : GoodIn wsX8_does wsX8_asked := goodIn_r _ [71, 1, 72, 73, 74, 5, 75, 7, 8, 9, 10, 11, 12, 13, 14, 15, 16, 17, 18, 19, 20, 21, 22, 23, 24, 25, 26, 27, 28, 29, 30, 31, 32, 33, 34, 35, 36, 37, 38, 39, 40, 41, 42, 43, 44, 45, 46, 47, 48, 49, 50, 51, 52, 76, 77, 78, 79, 80, 81, 82, 83, 84, 85, 86, 87, 88, 89, 90, 91] (by decide +kernel) (by decide +kernel)
set_option maxRecDepth 20000 in
theorem gX8_does_X8_asked : GoodIn wsX8_does (wsV RX8 261 RX8 yX8_asked wsX8_asked) := goodIn_app (goodIn_of _ (by decide +kernel)) ggX8_does_X8_asked
theorem dX8_does_0 : decode cX8_does 0 = .ok (.iload_n 1, 1) := by decide +kernel
theorem dX8_does_1 : decode cX8_does 1 = .ok (.sipush 10000, 3) := by decide +kernel
theorem dX8_does_4 : decode cX8_does 4 = .ok (.idiv, 1) := by decide +kernel
theorem dX8_does_5 : decode cX8_does 5 = .ok (.istore_n 2, 1) := by decide +kernel
theorem dX8_does_6 : decode cX8_does 6 = .ok (.iload_n 1, 1) := by decide +kernel
theorem dX8_does_7 : decode cX8_does 7 = .ok (.sipush 1000, 3) := by decide +kernel
theorem dX8_does_10 : decode cX8_does 10 = .ok (.idiv, 1) := by decide +kernel
theorem dX8_does_11 : decode cX8_does 11 = .ok (.bipush 10, 2) := by decide +kernel
theorem dX8_does_13 : decode cX8_does 13 = .ok (.irem, 1) := by decide +kernel
theorem dX8_does_14 : decode cX8_does 14 = .ok (.istore_n 3, 1) := by decide +kernel
theorem dX8_does_15 : decode cX8_does 15 = .ok (.iload_n 1, 1) := by decide +kernel
theorem dX8_does_16 : decode cX8_does 16 = .ok (.sipush 1000, 3) := by decide +kernel
theorem dX8_does_19 : decode cX8_does 19 = .ok (.irem, 1) := by decide +kernel
theorem dX8_does_20 : decode cX8_does 20 = .ok (.istore 4, 2) := by decide +kernel
theorem dX8_does_22 : decode cX8_does 22 = .ok (.iload_n 1, 1) := by decide +kernel
theorem dX8_does_23 : decode cX8_does 23 = .ok (.bipush 100, 2) := by decide +kernel
theorem dX8_does_25 : decode cX8_does 25 = .ok (.idiv, 1) := by decide +kernel
theorem dX8_does_26 : decode cX8_does 26 = .ok (.bipush 10, 2) := by decide +kernel
theorem dX8_does_28 : decode cX8_does 28 = .ok (.irem, 1) := by decide +kernel
theorem dX8_does_29 : decode cX8_does 29 = .ok (.istore 5, 2) := by decide +kernel
theorem dX8_does_31 : decode cX8_does 31 = .ok (.iload_n 1, 1) := by decide +kernel
theorem dX8_does_32 : decode cX8_does 32 = .ok (.bipush 100, 2) := by decide +kernel
theorem dX8_does_34 : decode cX8_does 34 = .ok (.irem, 1) := by decide +kernel
theorem dX8_does_35 : decode cX8_does 35 = .ok (.istore 6, 2) := by decide +kernel
theorem dX8_does_37 : decode cX8_does 37 = .ok (.iload_n 2, 1) := by decide +kernel
theorem dX8_does_38 : decode cX8_does 38 = .ok (.tableswitch 305 1 9 #[50, 85, 120, 141, 162, 182, 213, 248, 276], 50) := by decide +kernel
theorem dX8_does_88 : decode cX8_does 88 = .ok (.aload_n 0, 1) := by decide +kernel
theorem dX8_does_89 : decode cX8_does 89 = .ok (.iload_n 3, 1) := by decide +kernel
theorem dX8_does_90 : decode cX8_does 90 = .ok (.invokevirtual 249, 3) := by decide +kernel
theorem dX8_does_93 : decode cX8_does 93 = .ok (.ifCond .eq 28, 3) := by decide +kernel
theorem dX8_does_96 : decode cX8_does 96 = .ok (.aload_n 0, 1) := by decide +kernel
theorem dX8_does_97 : decode cX8_does 97 = .ok (.aload_n 0, 1) := by decide +kernel
theorem dX8_does_98 : decode cX8_does 98 = .ok (.getfield 19, 3) := by decide +kernel
theorem dX8_does_101 : decode cX8_does 101 = .ok (.iload_n 3, 1) := by decide +kernel
theorem dX8_does_102 : decode cX8_does 102 = .ok (.iload 4, 2) := by decide +kernel
theorem dX8_does_104 : decode cX8_does 104 = .ok (.sipush 500, 3) := by decide +kernel
theorem dX8_does_107 : decode cX8_does 107 = .ok (.isub, 1) := by decide +kernel
theorem dX8_does_108 : decode cX8_does 108 = .ok (.invokevirtual 156, 3) := by decide +kernel
theorem dX8_does_111 : decode cX8_does 111 = .ok (.sipush (-10000), 3) := by decide +kernel
theorem dX8_does_114 : decode cX8_does 114 = .ok (.if_icmp .eq 7, 3) := by decide +kernel
theorem dX8_does_117 : decode cX8_does 117 = .ok (.iconst 1, 1) := by decide +kernel
theorem dX8_does_118 : decode cX8_does 118 = .ok (.goto 4, 3) := by decide +kernel
theorem dX8_does_121 : decode cX8_does 121 = .ok (.iconst 0, 1) := by decide +kernel
theorem dX8_does_122 : decode cX8_does 122 = .ok (.ireturn, 1) := by decide +kernel
theorem dX8_does_123 : decode cX8_does 123 = .ok (.aload_n 0, 1) := by decide +kernel
theorem dX8_does_124 : decode cX8_does 124 = .ok (.iload_n 3, 1) := by decide +kernel
theorem dX8_does_125 : decode cX8_does 125 = .ok (.invokevirtual 249, 3) := by decide +kernel
theorem dX8_does_128 : decode cX8_does 128 = .ok (.ifCond .eq 28, 3) := by decide +kernel
theorem dX8_does_131 : decode cX8_does 131 = .ok (.aload_n 0, 1) := by decide +kernel
theorem dX8_does_132 : decode cX8_does 132 = .ok (.aload_n 0, 1) := by decide +kernel
theorem dX8_does_133 : decode cX8_does 133 = .ok (.getfield 19, 3) := by decide +kernel
theorem dX8_does_136 : decode cX8_does 136 = .ok (.iload_n 3, 1) := by decide +kernel
theorem dX8_does_137 : decode cX8_does 137 = .ok (.iload 4, 2) := by decide +kernel
theorem dX8_does_139 : decode cX8_does 139 = .ok (.sipush 500, 3) := by decide +kernel
theorem dX8_does_142 : decode cX8_does 142 = .ok (.isub, 1) := by decide +kernel
theorem dX8_does_143 : decode cX8_does 143 = .ok (.invokevirtual 156, 3) := by decide +kernel
theorem dX8_does_146 : decode cX8_does 146 = .ok (.sipush (-10000), 3) := by decide +kernel
theorem dX8_does_149 : decode cX8_does 149 = .ok (.if_icmp .ne 7, 3) := by decide +kernel
theorem dX8_does_152 : decode cX8_does 152 = .ok (.iconst 1, 1) := by decide +kernel
theorem dX8_does_153 : decode cX8_does 153 = .ok (.goto 4, 3) := by decide +kernel
theorem dX8_does_156 : decode cX8_does 156 = .ok (.iconst 0, 1) := by decide +kernel
theorem dX8_does_157 : decode cX8_does 157 = .ok (.ireturn, 1) := by decide +kernel
theorem dX8_does_158 : decode cX8_does 158 = .ok (.iload 6, 2) := by decide +kernel
theorem dX8_does_160 : decode cX8_does 160 = .ok (.ifCond .ne 17, 3) := by decide +kernel
theorem dX8_does_163 : decode cX8_does 163 = .ok (.aload_n 0, 1) := by decide +kernel
theorem dX8_does_164 : decode cX8_does 164 = .ok (.iload_n 3, 1) := by decide +kernel
theorem dX8_does_165 : decode cX8_does 165 = .ok (.iload 5, 2) := by decide +kernel
theorem dX8_does_167 : decode cX8_does 167 = .ok (.invokevirtual 252, 3) := by decide +kernel
theorem dX8_does_170 : decode cX8_does 170 = .ok (.ifCond .eq 7, 3) := by decide +kernel
theorem dX8_does_173 : decode cX8_does 173 = .ok (.iconst 1, 1) := by decide +kernel
theorem dX8_does_174 : decode cX8_does 174 = .ok (.goto 4, 3) := by decide +kernel
theorem dX8_does_177 : decode cX8_does 177 = .ok (.iconst 0, 1) := by decide +kernel
theorem dX8_does_178 : decode cX8_does 178 = .ok (.ireturn, 1) := by decide +kernel
theorem dX8_does_179 : decode cX8_does 179 = .ok (.iload 5, 2) := by decide +kernel
theorem dX8_does_181 : decode cX8_does 181 = .ok (.ifCond .ne 17, 3) := by decide +kernel
theorem dX8_does_184 : decode cX8_does 184 = .ok (.aload_n 0, 1) := by decide +kernel
theorem dX8_does_185 : decode cX8_does 185 = .ok (.iload_n 3, 1) := by decide +kernel
theorem dX8_does_186 : decode cX8_does 186 = .ok (.iload 6, 2) := by decide +kernel
theorem dX8_does_188 : decode cX8_does 188 = .ok (.invokevirtual 255, 3) := by decide +kernel
theorem dX8_does_191 : decode cX8_does 191 = .ok (.ifCond .eq 7, 3) := by decide +kernel
theorem dX8_does_194 : decode cX8_does 194 = .ok (.iconst 1, 1) := by decide +kernel
theorem dX8_does_195 : decode cX8_does 195 = .ok (.goto 4, 3) := by decide +kernel
theorem dX8_does_198 : decode cX8_does 198 = .ok (.iconst 0, 1) := by decide +kernel
theorem dX8_does_199 : decode cX8_does 199 = .ok (.ireturn, 1) := by decide +kernel
theorem dX8_does_200 : decode cX8_does 200 = .ok (.iload 4, 2) := by decide +kernel
theorem dX8_does_202 : decode cX8_does 202 = .ok (.ifCond .ne 16, 3) := by decide +kernel
theorem dX8_does_205 : decode cX8_does 205 = .ok (.aload_n 0, 1) := by decide +kernel
theorem dX8_does_206 : decode cX8_does 206 = .ok (.iconst 0, 1) := by decide +kernel
theorem dX8_does_207 : decode cX8_does 207 = .ok (.iload_n 3, 1) := by decide +kernel
theorem dX8_does_208 : decode cX8_does 208 = .ok (.invokevirtual 258, 3) := by decide +kernel
theorem dX8_does_211 : decode cX8_does 211 = .ok (.ifCond .eq 7, 3) := by decide +kernel
theorem dX8_does_214 : decode cX8_does 214 = .ok (.iconst 1, 1) := by decide +kernel
theorem dX8_does_215 : decode cX8_does 215 = .ok (.goto 4, 3) := by decide +kernel
theorem dX8_does_218 : decode cX8_does 218 = .ok (.iconst 0, 1) := by decide +kernel
theorem dX8_does_219 : decode cX8_does 219 = .ok (.ireturn, 1) := by decide +kernel
theorem dX8_does_220 : decode cX8_does 220 = .ok (.iload 6, 2) := by decide +kernel
theorem dX8_does_222 : decode cX8_does 222 = .ok (.ifCond .ne 27, 3) := by decide +kernel
theorem dX8_does_225 : decode cX8_does 225 = .ok (.aload_n 0, 1) := by decide +kernel
theorem dX8_does_226 : decode cX8_does 226 = .ok (.iload_n 3, 1) := by decide +kernel
theorem dX8_does_227 : decode cX8_does 227 = .ok (.invokevirtual 249, 3) := by decide +kernel
theorem dX8_does_230 : decode cX8_does 230 = .ok (.ifCond .eq 19, 3) := by decide +kernel
theorem dX8_does_233 : decode cX8_does 233 = .ok (.aload_n 0, 1) := by decide +kernel
theorem dX8_does_234 : decode cX8_does 234 = .ok (.iconst 2, 1) := by decide +kernel
theorem dX8_does_235 : decode cX8_does 235 = .ok (.iload_n 3, 1) := by decide +kernel
theorem dX8_does_236 : decode cX8_does 236 = .ok (.iadd, 1) := by decide +kernel
theorem dX8_does_237 : decode cX8_does 237 = .ok (.iload 5, 2) := by decide +kernel
theorem dX8_does_239 : decode cX8_does 239 = .ok (.invokevirtual 258, 3) := by decide +kernel
theorem dX8_does_242 : decode cX8_does 242 = .ok (.ifCond .eq 7, 3) := by decide +kernel
theorem dX8_does_245 : decode cX8_does 245 = .ok (.iconst 1, 1) := by decide +kernel
theorem dX8_does_246 : decode cX8_does 246 = .ok (.goto 4, 3) := by decide +kernel
theorem dX8_does_249 : decode cX8_does 249 = .ok (.iconst 0, 1) := by decide +kernel
theorem dX8_does_250 : decode cX8_does 250 = .ok (.ireturn, 1) := by decide +kernel
theorem dX8_does_251 : decode cX8_does 251 = .ok (.iload 5, 2) := by decide +kernel
theorem dX8_does_253 : decode cX8_does 253 = .ok (.ifCond .ne 31, 3) := by decide +kernel
theorem dX8_does_256 : decode cX8_does 256 = .ok (.aload_n 0, 1) := by decide +kernel
theorem dX8_does_257 : decode cX8_does 257 = .ok (.iload_n 3, 1) := by decide +kernel
theorem dX8_does_258 : decode cX8_does 258 = .ok (.invokevirtual 249, 3) := by decide +kernel
theorem dX8_does_261 : decode cX8_does 261 = .ok (.ifCond .eq 23, 3) := by decide +kernel
theorem dX8_does_264 : decode cX8_does 264 = .ok (.aload_n 0, 1) := by decide +kernel
theorem dX8_does_265 : decode cX8_does 265 = .ok (.getfield 19, 3) := by decide +kernel
theorem dX8_does_268 : decode cX8_does 268 = .ok (.iload_n 3, 1) := by decide +kernel
theorem dX8_does_269 : decode cX8_does 269 = .ok (.bipush 6, 2) := by decide +kernel
theorem dX8_does_271 : decode cX8_does 271 = .ok (.invokestatic 66, 3) := by decide +kernel
theorem dX8_does_274 : decode cX8_does 274 = .ok (.iaload, 1) := by decide +kernel
theorem dX8_does_275 : decode cX8_does 275 = .ok (.iload 6, 2) := by decide +kernel
theorem dX8_does_277 : decode cX8_does 277 = .ok (.if_icmp .gt 7, 3) := by decide +kernel
theorem dX8_does_280 : decode cX8_does 280 = .ok (.iconst 1, 1) := by decide +kernel
theorem dX8_does_281 : decode cX8_does 281 = .ok (.goto 4, 3) := by decide +kernel
theorem dX8_does_284 : decode cX8_does 284 = .ok (.iconst 0, 1) := by decide +kernel
theorem dX8_does_285 : decode cX8_does 285 = .ok (.ireturn, 1) := by decide +kernel
theorem dX8_does_286 : decode cX8_does 286 = .ok (.iload_n 3, 1) := by decide +kernel
theorem dX8_does_287 : decode cX8_does 287 = .ok (.ifCond .ne 25, 3) := by decide +kernel
theorem dX8_does_290 : decode cX8_does 290 = .ok (.iload 5, 2) := by decide +kernel
theorem dX8_does_292 : decode cX8_does 292 = .ok (.ifCond .ne 20, 3) := by decide +kernel
theorem dX8_does_295 : decode cX8_does 295 = .ok (.aload_n 0, 1) := by decide +kernel
theorem dX8_does_296 : decode cX8_does 296 = .ok (.getfield 19, 3) := by decide +kernel
theorem dX8_does_299 : decode cX8_does 299 = .ok (.sipush 683, 3) := by decide +kernel
theorem dX8_does_302 : decode cX8_does 302 = .ok (.iaload, 1) := by decide +kernel
theorem dX8_does_303 : decode cX8_does 303 = .ok (.iload 6, 2) := by decide +kernel
theorem dX8_does_305 : decode cX8_does 305 = .ok (.if_icmp .gt 7, 3) := by decide +kernel
theorem dX8_does_308 : decode cX8_does 308 = .ok (.iconst 1, 1) := by decide +kernel
theorem dX8_does_309 : decode cX8_does 309 = .ok (.goto 4, 3) := by decide +kernel
theorem dX8_does_312 : decode cX8_does 312 = .ok (.iconst 0, 1) := by decide +kernel
theorem dX8_does_313 : decode cX8_does 313 = .ok (.ireturn, 1) := by decide +kernel
theorem dX8_does_314 : decode cX8_does 314 = .ok (.aload_n 0, 1) := by decide +kernel
theorem dX8_does_315 : decode cX8_does 315 = .ok (.iload_n 3, 1) := by decide +kernel
theorem dX8_does_316 : decode cX8_does 316 = .ok (.invokevirtual 249, 3) := by decide +kernel
theorem dX8_does_319 : decode cX8_does 319 = .ok (.ifCond .eq 22, 3) := by decide +kernel
theorem dX8_does_322 : decode cX8_does 322 = .ok (.aload_n 0, 1) := by decide +kernel
theorem dX8_does_323 : decode cX8_does 323 = .ok (.iload_n 3, 1) := by decide +kernel
theorem dX8_does_324 : decode cX8_does 324 = .ok (.iconst 0, 1) := by decide +kernel
theorem dX8_does_325 : decode cX8_does 325 = .ok (.invokevirtual 261, 3) := by decide +kernel
theorem dX8_does_328 : decode cX8_does 328 = .ok (.iload 4, 2) := by decide +kernel
theorem dX8_does_330 : decode cX8_does 330 = .ok (.sipush 500, 3) := by decide +kernel
theorem dX8_does_333 : decode cX8_does 333 = .ok (.isub, 1) := by decide +kernel
theorem dX8_does_334 : decode cX8_does 334 = .ok (.if_icmp .ne 7, 3) := by decide +kernel
theorem dX8_does_337 : decode cX8_does 337 = .ok (.iconst 1, 1) := by decide +kernel
theorem dX8_does_338 : decode cX8_does 338 = .ok (.goto 4, 3) := by decide +kernel
theorem dX8_does_341 : decode cX8_does 341 = .ok (.iconst 0, 1) := by decide +kernel
theorem dX8_does_342 : decode cX8_does 342 = .ok (.ireturn, 1) := by decide +kernel
theorem dX8_does_343 : decode cX8_does 343 = .ok (.iconst 0, 1) := by decide +kernel
theorem dX8_does_344 : decode cX8_does 344 = .ok (.ireturn, 1) := by decide +kernel
set_option maxRecDepth 20000 in
theorem ggX8_runScript_X8_in : GoodIn wsX8_runScript wsX8_in := goodIn_r _ [6] (by decide +kernel) (by decide +kernel)
set_option maxRecDepth 20000 in
theorem gX8_runScript_X8_in : GoodIn wsX8_runScript (va_wsS RX8 62 yX8_in wsX8_in) := goodIn_app (goodIn_of _ (by decide +kernel)) ggX8_runScript_X8_in
set_option maxRecDepth 20000 in
theorem ggX8_runScript_X8_tenTo : GoodIn wsX8_runScript wsX8_tenTo := goodIn_r _ [9, 10] (by decide +kernel) (by decide +kernel)
set_option maxRecDepth 20000 in
theorem gX8_runScript_X8_tenTo : GoodIn wsX8_runScript (va_wsS RX8 264 yX8_tenTo wsX8_tenTo) := goodIn_app (goodIn_of _ (by decide +kernel)) ggX8_runScript_X8_tenTo
set_option maxRecDepth 20000 in
theorem ggX8_runScript_X8_refused : GoodIn wsX8_runScript wsX8_refused := goodIn_r _ [14, 15, 96, 97, 98, 99, 100, 101, 102, 103, 104, 105, 106, 107, 108, 109, 110, 111] (by decide +kernel) (by decide +kernel)
set_option maxRecDepth 20000 in
theorem gX8_runScript_X8_refused : GoodIn wsX8_runScript (wsV RX8 108 RX8 yX8_refused wsX8_refused) := goodIn_app (goodIn_of _ (by decide +kernel)) ggX8_runScript_X8_refused
set_option maxRecDepth 20000 in
theorem ggX8_runScript_X8_tryIt : GoodIn wsX8_runScript wsX8_tryIt := goodIn_r _ [19, 20, 21, 22, 23, 5, 24, 96, 97, 98, 99, 100, 101, 102, 103, 104, 105, 106, 107, 108, 109, 110, 111] (by decide +kernel) (by decide +kernel)
set_option maxRecDepth 20000 in
theorem gX8_runScript_X8_tryIt : GoodIn wsX8_runScript (wsV RX8 234 RX8 yX8_tryIt wsX8_tryIt) := goodIn_app (goodIn_of _ (by decide +kernel)) ggX8_runScript_X8_tryIt
set_option maxRecDepth 20000 in
theorem ggX8_runScript_X8_does : GoodIn wsX8_runScript wsX8_does := goodIn_r _ [28, 21, 29, 30, 31, 5, 32, 33, 34, 35, 36, 37, 38, 39, 40, 41, 42, 43, 44, 45, 46, 47, 48, 49, 50, 51, 52, 53, 54, 55, 56, 3, 4, 6, 57, 58, 59, 60, 61, 62, 63, 64, 65, 66, 67, 68, 69, 70, 71, 72, 73, 74, 75, 76, 77, 78, 79, 80, 81, 82, 83, 84, 85, 86, 87, 88, 89, 90, 91, 92, 93, 94, 95, 22, 23, 24, 96, 97, 98, 99, 100, 101, 102, 103, 104, 105, 106, 107, 108, 109, 110, 111] (by decide +kernel) (by decide +kernel)
set_option maxRecDepth 20000 in
theorem gX8_runScript_X8_does : GoodIn wsX8_runScript (wsV RX8 270 RX8 yX8_does wsX8_does) := goodIn_app (goodIn_of _ (by decide +kernel)) ggX8_runScript_X8_does
theorem dX8_runScript_0 : decode cX8_runScript 0 = .ok (.iload_n 1, 1) := by decide +kernel
theorem dX8_runScript_1 : decode cX8_runScript 1 = .ok (.i2l, 1) := by decide +kernel
theorem dX8_runScript_2 : decode cX8_runScript 2 = .ok (.lconst 1, 1) := by decide +kernel
theorem dX8_runScript_3 : decode cX8_runScript 3 = .ok (.ldc2_w 200, 3) := by decide +kernel
theorem dX8_runScript_6 : decode cX8_runScript 6 = .ok (.invokestatic 62, 3) := by decide +kernel
theorem dX8_runScript_9 : decode cX8_runScript 9 = .ok (.istore 4, 2) := by decide +kernel
theorem dX8_runScript_11 : decode cX8_runScript 11 = .ok (.aload_n 0, 1) := by decide +kernel
theorem dX8_runScript_12 : decode cX8_runScript 12 = .ok (.iload 4, 2) := by decide +kernel
theorem dX8_runScript_14 : decode cX8_runScript 14 = .ok (.ifCond .eq 32, 3) := by decide +kernel
theorem dX8_runScript_17 : decode cX8_runScript 17 = .ok (.lload_n 2, 1) := by decide +kernel
theorem dX8_runScript_18 : decode cX8_runScript 18 = .ok (.lconst 0, 1) := by decide +kernel
theorem dX8_runScript_19 : decode cX8_runScript 19 = .ok (.iload 4, 2) := by decide +kernel
theorem dX8_runScript_21 : decode cX8_runScript 21 = .ok (.ifCond .eq 9, 3) := by decide +kernel
theorem dX8_runScript_24 : decode cX8_runScript 24 = .ok (.iconst 5, 1) := by decide +kernel
theorem dX8_runScript_25 : decode cX8_runScript 25 = .ok (.iload_n 1, 1) := by decide +kernel
theorem dX8_runScript_26 : decode cX8_runScript 26 = .ok (.imul, 1) := by decide +kernel
theorem dX8_runScript_27 : decode cX8_runScript 27 = .ok (.goto 4, 3) := by decide +kernel
theorem dX8_runScript_30 : decode cX8_runScript 30 = .ok (.iconst 0, 1) := by decide +kernel
theorem dX8_runScript_31 : decode cX8_runScript 31 = .ok (.invokestatic 264, 3) := by decide +kernel
theorem dX8_runScript_34 : decode cX8_runScript 34 = .ok (.lconst 1, 1) := by decide +kernel
theorem dX8_runScript_35 : decode cX8_runScript 35 = .ok (.lsub, 1) := by decide +kernel
theorem dX8_runScript_36 : decode cX8_runScript 36 = .ok (.invokestatic 62, 3) := by decide +kernel
theorem dX8_runScript_39 : decode cX8_runScript 39 = .ok (.ifCond .eq 7, 3) := by decide +kernel
theorem dX8_runScript_42 : decode cX8_runScript 42 = .ok (.iconst 0, 1) := by decide +kernel
theorem dX8_runScript_43 : decode cX8_runScript 43 = .ok (.goto 4, 3) := by decide +kernel
theorem dX8_runScript_46 : decode cX8_runScript 46 = .ok (.iconst 1, 1) := by decide +kernel
theorem dX8_runScript_47 : decode cX8_runScript 47 = .ok (.invokevirtual 108, 3) := by decide +kernel
theorem dX8_runScript_50 : decode cX8_runScript 50 = .ok (.ifCond .eq 5, 3) := by decide +kernel
theorem dX8_runScript_53 : decode cX8_runScript 53 = .ok (.iconst 0, 1) := by decide +kernel
theorem dX8_runScript_54 : decode cX8_runScript 54 = .ok (.ireturn, 1) := by decide +kernel
theorem dX8_runScript_55 : decode cX8_runScript 55 = .ok (.aload_n 0, 1) := by decide +kernel
theorem dX8_runScript_56 : decode cX8_runScript 56 = .ok (.invokevirtual 234, 3) := by decide +kernel
theorem dX8_runScript_59 : decode cX8_runScript 59 = .ok (.iconst 0, 1) := by decide +kernel
theorem dX8_runScript_60 : decode cX8_runScript 60 = .ok (.istore 5, 2) := by decide +kernel
theorem dX8_runScript_62 : decode cX8_runScript 62 = .ok (.iload 5, 2) := by decide +kernel
theorem dX8_runScript_64 : decode cX8_runScript 64 = .ok (.iload_n 1, 1) := by decide +kernel
theorem dX8_runScript_65 : decode cX8_runScript 65 = .ok (.if_icmp .ge 37, 3) := by decide +kernel
theorem dX8_runScript_68 : decode cX8_runScript 68 = .ok (.aload_n 0, 1) := by decide +kernel
theorem dX8_runScript_69 : decode cX8_runScript 69 = .ok (.lload_n 2, 1) := by decide +kernel
theorem dX8_runScript_70 : decode cX8_runScript 70 = .ok (.iconst 5, 1) := by decide +kernel
theorem dX8_runScript_71 : decode cX8_runScript 71 = .ok (.iload_n 1, 1) := by decide +kernel
theorem dX8_runScript_72 : decode cX8_runScript 72 = .ok (.iconst 1, 1) := by decide +kernel
theorem dX8_runScript_73 : decode cX8_runScript 73 = .ok (.isub, 1) := by decide +kernel
theorem dX8_runScript_74 : decode cX8_runScript 74 = .ok (.iload 5, 2) := by decide +kernel
theorem dX8_runScript_76 : decode cX8_runScript 76 = .ok (.isub, 1) := by decide +kernel
theorem dX8_runScript_77 : decode cX8_runScript 77 = .ok (.imul, 1) := by decide +kernel
theorem dX8_runScript_78 : decode cX8_runScript 78 = .ok (.invokestatic 264, 3) := by decide +kernel
theorem dX8_runScript_81 : decode cX8_runScript 81 = .ok (.ldiv, 1) := by decide +kernel
theorem dX8_runScript_82 : decode cX8_runScript 82 = .ok (.ldc2_w 268, 3) := by decide +kernel
theorem dX8_runScript_85 : decode cX8_runScript 85 = .ok (.lrem, 1) := by decide +kernel
theorem dX8_runScript_86 : decode cX8_runScript 86 = .ok (.l2i, 1) := by decide +kernel
theorem dX8_runScript_87 : decode cX8_runScript 87 = .ok (.invokevirtual 270, 3) := by decide +kernel
theorem dX8_runScript_90 : decode cX8_runScript 90 = .ok (.ifCond .ne 6, 3) := by decide +kernel
theorem dX8_runScript_93 : decode cX8_runScript 93 = .ok (.iload 5, 2) := by decide +kernel
theorem dX8_runScript_95 : decode cX8_runScript 95 = .ok (.ireturn, 1) := by decide +kernel
theorem dX8_runScript_96 : decode cX8_runScript 96 = .ok (.iinc 5 1, 3) := by decide +kernel
theorem dX8_runScript_99 : decode cX8_runScript 99 = .ok (.goto (-37), 3) := by decide +kernel
theorem dX8_runScript_102 : decode cX8_runScript 102 = .ok (.sipush (-10000), 3) := by decide +kernel
theorem dX8_runScript_105 : decode cX8_runScript 105 = .ok (.ireturn, 1) := by decide +kernel
set_option maxRecDepth 20000 in
theorem ggX8_simulate_X8_in : GoodIn wsX8_simulate wsX8_in := goodIn_r _ [9] (by decide +kernel) (by decide +kernel)
set_option maxRecDepth 20000 in
theorem gX8_simulate_X8_in : GoodIn wsX8_simulate (va_wsS RX8 62 yX8_in wsX8_in) := goodIn_app (goodIn_of _ (by decide +kernel)) ggX8_simulate_X8_in
set_option maxRecDepth 20000 in
theorem ggX8_simulate_X8_refused : GoodIn wsX8_simulate wsX8_refused := goodIn_r _ [13, 14, 65, 66, 67, 68, 69, 70, 71, 72, 73, 74, 75, 76, 77, 78, 79, 80] (by decide +kernel) (by decide +kernel)
set_option maxRecDepth 20000 in
theorem gX8_simulate_X8_refused : GoodIn wsX8_simulate (wsV RX8 108 RX8 yX8_refused wsX8_refused) := goodIn_app (goodIn_of _ (by decide +kernel)) ggX8_simulate_X8_refused
set_option maxRecDepth 20000 in
theorem ggX8_simulate_X8_tryIt : GoodIn wsX8_simulate wsX8_tryIt := goodIn_r _ [18, 2, 5, 19, 20, 8, 21, 65, 66, 67, 68, 69, 70, 71, 72, 73, 74, 75, 76, 77, 78, 79, 80] (by decide +kernel) (by decide +kernel)
set_option maxRecDepth 20000 in
theorem gX8_simulate_X8_tryIt : GoodIn wsX8_simulate (wsV RX8 234 RX8 yX8_tryIt wsX8_tryIt) := goodIn_app (goodIn_of _ (by decide +kernel)) ggX8_simulate_X8_tryIt
set_option maxRecDepth 20000 in
theorem ggX8_simulate_X8_callIn : GoodIn wsX8_simulate wsX8_callIn := goodIn_r _ [25, 26, 27, 28, 29, 8, 30, 31, 32, 33, 34, 35, 36, 37, 38, 39, 40, 41, 42, 43, 44, 45, 6, 7, 9, 46, 47, 48, 49, 50, 51, 52, 53, 54, 55, 56, 57, 58, 59, 60, 61, 62, 63, 64, 65, 66, 67, 68, 69, 70, 71, 72, 73, 74, 75, 76, 77, 78, 79, 80] (by decide +kernel) (by decide +kernel)
set_option maxRecDepth 20000 in
theorem gX8_simulate_X8_callIn : GoodIn wsX8_simulate (wsV RX8 156 RX8 yX8_callIn wsX8_callIn) := goodIn_app (goodIn_of _ (by decide +kernel)) ggX8_simulate_X8_callIn
set_option maxRecDepth 20000 in
theorem ggX8_simulate_X8_partAt : GoodIn wsX8_simulate wsX8_partAt := goodIn_r _ [36] (by decide +kernel) (by decide +kernel)
set_option maxRecDepth 20000 in
theorem gX8_simulate_X8_partAt : GoodIn wsX8_simulate (va_wsS RX8 66 yX8_partAt wsX8_partAt) := goodIn_app (goodIn_of _ (by decide +kernel)) ggX8_simulate_X8_partAt
theorem dX8_simulate_0 : decode cX8_simulate 0 = .ok (.aload_n 0, 1) := by decide +kernel
theorem dX8_simulate_1 : decode cX8_simulate 1 = .ok (.iload_n 3, 1) := by decide +kernel
theorem dX8_simulate_2 : decode cX8_simulate 2 = .ok (.i2l, 1) := by decide +kernel
theorem dX8_simulate_3 : decode cX8_simulate 3 = .ok (.lconst 1, 1) := by decide +kernel
theorem dX8_simulate_4 : decode cX8_simulate 4 = .ok (.ldc2_w 206, 3) := by decide +kernel
theorem dX8_simulate_7 : decode cX8_simulate 7 = .ok (.invokestatic 62, 3) := by decide +kernel
theorem dX8_simulate_10 : decode cX8_simulate 10 = .ok (.ifCond .eq 7, 3) := by decide +kernel
theorem dX8_simulate_13 : decode cX8_simulate 13 = .ok (.iconst 0, 1) := by decide +kernel
theorem dX8_simulate_14 : decode cX8_simulate 14 = .ok (.goto 4, 3) := by decide +kernel
theorem dX8_simulate_17 : decode cX8_simulate 17 = .ok (.iconst 1, 1) := by decide +kernel
theorem dX8_simulate_18 : decode cX8_simulate 18 = .ok (.invokevirtual 108, 3) := by decide +kernel
theorem dX8_simulate_21 : decode cX8_simulate 21 = .ok (.ifCond .eq 5, 3) := by decide +kernel
theorem dX8_simulate_24 : decode cX8_simulate 24 = .ok (.iconst 0, 1) := by decide +kernel
theorem dX8_simulate_25 : decode cX8_simulate 25 = .ok (.ireturn, 1) := by decide +kernel
theorem dX8_simulate_26 : decode cX8_simulate 26 = .ok (.aload_n 0, 1) := by decide +kernel
theorem dX8_simulate_27 : decode cX8_simulate 27 = .ok (.invokevirtual 234, 3) := by decide +kernel
theorem dX8_simulate_30 : decode cX8_simulate 30 = .ok (.lload_n 1, 1) := by decide +kernel
theorem dX8_simulate_31 : decode cX8_simulate 31 = .ok (.lstore 4, 2) := by decide +kernel
theorem dX8_simulate_33 : decode cX8_simulate 33 = .ok (.iconst 0, 1) := by decide +kernel
theorem dX8_simulate_34 : decode cX8_simulate 34 = .ok (.istore 6, 2) := by decide +kernel
theorem dX8_simulate_36 : decode cX8_simulate 36 = .ok (.iload 6, 2) := by decide +kernel
theorem dX8_simulate_38 : decode cX8_simulate 38 = .ok (.iload_n 3, 1) := by decide +kernel
theorem dX8_simulate_39 : decode cX8_simulate 39 = .ok (.if_icmp .ge 68, 3) := by decide +kernel
theorem dX8_simulate_42 : decode cX8_simulate 42 = .ok (.aload_n 0, 1) := by decide +kernel
theorem dX8_simulate_43 : decode cX8_simulate 43 = .ok (.getfield 16, 3) := by decide +kernel
theorem dX8_simulate_46 : decode cX8_simulate 46 = .ok (.iconst 0, 1) := by decide +kernel
theorem dX8_simulate_47 : decode cX8_simulate 47 = .ok (.iaload, 1) := by decide +kernel
theorem dX8_simulate_48 : decode cX8_simulate 48 = .ok (.ifCond .le 59, 3) := by decide +kernel
theorem dX8_simulate_51 : decode cX8_simulate 51 = .ok (.lload 4, 2) := by decide +kernel
theorem dX8_simulate_53 : decode cX8_simulate 53 = .ok (.ldc2_w 273, 3) := by decide +kernel
theorem dX8_simulate_56 : decode cX8_simulate 56 = .ok (.lmul, 1) := by decide +kernel
theorem dX8_simulate_57 : decode cX8_simulate 57 = .ok (.ldc2_w 275, 3) := by decide +kernel
theorem dX8_simulate_60 : decode cX8_simulate 60 = .ok (.ladd, 1) := by decide +kernel
theorem dX8_simulate_61 : decode cX8_simulate 61 = .ok (.lstore 4, 2) := by decide +kernel
theorem dX8_simulate_63 : decode cX8_simulate 63 = .ok (.lload 4, 2) := by decide +kernel
theorem dX8_simulate_65 : decode cX8_simulate 65 = .ok (.bipush 33, 2) := by decide +kernel
theorem dX8_simulate_67 : decode cX8_simulate 67 = .ok (.lushr, 1) := by decide +kernel
theorem dX8_simulate_68 : decode cX8_simulate 68 = .ok (.l2i, 1) := by decide +kernel
theorem dX8_simulate_69 : decode cX8_simulate 69 = .ok (.istore 7, 2) := by decide +kernel
theorem dX8_simulate_71 : decode cX8_simulate 71 = .ok (.aload_n 0, 1) := by decide +kernel
theorem dX8_simulate_72 : decode cX8_simulate 72 = .ok (.aload_n 0, 1) := by decide +kernel
theorem dX8_simulate_73 : decode cX8_simulate 73 = .ok (.getfield 19, 3) := by decide +kernel
theorem dX8_simulate_76 : decode cX8_simulate 76 = .ok (.iload 7, 2) := by decide +kernel
theorem dX8_simulate_78 : decode cX8_simulate 78 = .ok (.aload_n 0, 1) := by decide +kernel
theorem dX8_simulate_79 : decode cX8_simulate 79 = .ok (.getfield 16, 3) := by decide +kernel
theorem dX8_simulate_82 : decode cX8_simulate 82 = .ok (.iconst 0, 1) := by decide +kernel
theorem dX8_simulate_83 : decode cX8_simulate 83 = .ok (.iaload, 1) := by decide +kernel
theorem dX8_simulate_84 : decode cX8_simulate 84 = .ok (.irem, 1) := by decide +kernel
theorem dX8_simulate_85 : decode cX8_simulate 85 = .ok (.iload 7, 2) := by decide +kernel
theorem dX8_simulate_87 : decode cX8_simulate 87 = .ok (.bipush 16, 2) := by decide +kernel
theorem dX8_simulate_89 : decode cX8_simulate 89 = .ok (.idiv, 1) := by decide +kernel
theorem dX8_simulate_90 : decode cX8_simulate 90 = .ok (.sipush 201, 3) := by decide +kernel
theorem dX8_simulate_93 : decode cX8_simulate 93 = .ok (.irem, 1) := by decide +kernel
theorem dX8_simulate_94 : decode cX8_simulate 94 = .ok (.bipush 100, 2) := by decide +kernel
theorem dX8_simulate_96 : decode cX8_simulate 96 = .ok (.isub, 1) := by decide +kernel
theorem dX8_simulate_97 : decode cX8_simulate 97 = .ok (.invokevirtual 156, 3) := by decide +kernel
theorem dX8_simulate_100 : decode cX8_simulate 100 = .ok (.pop, 1) := by decide +kernel
theorem dX8_simulate_101 : decode cX8_simulate 101 = .ok (.iinc 6 1, 3) := by decide +kernel
theorem dX8_simulate_104 : decode cX8_simulate 104 = .ok (.goto (-68), 3) := by decide +kernel
theorem dX8_simulate_107 : decode cX8_simulate 107 = .ok (.iconst 0, 1) := by decide +kernel
theorem dX8_simulate_108 : decode cX8_simulate 108 = .ok (.istore 6, 2) := by decide +kernel
theorem dX8_simulate_110 : decode cX8_simulate 110 = .ok (.iconst 0, 1) := by decide +kernel
theorem dX8_simulate_111 : decode cX8_simulate 111 = .ok (.istore 7, 2) := by decide +kernel
theorem dX8_simulate_113 : decode cX8_simulate 113 = .ok (.iload 7, 2) := by decide +kernel
theorem dX8_simulate_115 : decode cX8_simulate 115 = .ok (.aload_n 0, 1) := by decide +kernel
theorem dX8_simulate_116 : decode cX8_simulate 116 = .ok (.getfield 16, 3) := by decide +kernel
theorem dX8_simulate_119 : decode cX8_simulate 119 = .ok (.iconst 0, 1) := by decide +kernel
theorem dX8_simulate_120 : decode cX8_simulate 120 = .ok (.iaload, 1) := by decide +kernel
theorem dX8_simulate_121 : decode cX8_simulate 121 = .ok (.if_icmp .ge 46, 3) := by decide +kernel
theorem dX8_simulate_124 : decode cX8_simulate 124 = .ok (.iload 6, 2) := by decide +kernel
theorem dX8_simulate_126 : decode cX8_simulate 126 = .ok (.aload_n 0, 1) := by decide +kernel
theorem dX8_simulate_127 : decode cX8_simulate 127 = .ok (.getfield 19, 3) := by decide +kernel
theorem dX8_simulate_130 : decode cX8_simulate 130 = .ok (.iload 7, 2) := by decide +kernel
theorem dX8_simulate_132 : decode cX8_simulate 132 = .ok (.bipush 6, 2) := by decide +kernel
theorem dX8_simulate_134 : decode cX8_simulate 134 = .ok (.invokestatic 66, 3) := by decide +kernel
theorem dX8_simulate_137 : decode cX8_simulate 137 = .ok (.iaload, 1) := by decide +kernel
theorem dX8_simulate_138 : decode cX8_simulate 138 = .ok (.aload_n 0, 1) := by decide +kernel
theorem dX8_simulate_139 : decode cX8_simulate 139 = .ok (.getfield 16, 3) := by decide +kernel
theorem dX8_simulate_142 : decode cX8_simulate 142 = .ok (.iload 7, 2) := by decide +kernel
theorem dX8_simulate_144 : decode cX8_simulate 144 = .ok (.bipush 6, 2) := by decide +kernel
theorem dX8_simulate_146 : decode cX8_simulate 146 = .ok (.invokestatic 66, 3) := by decide +kernel
theorem dX8_simulate_149 : decode cX8_simulate 149 = .ok (.iaload, 1) := by decide +kernel
theorem dX8_simulate_150 : decode cX8_simulate 150 = .ok (.if_icmp .le 7, 3) := by decide +kernel
theorem dX8_simulate_153 : decode cX8_simulate 153 = .ok (.iconst 1, 1) := by decide +kernel
theorem dX8_simulate_154 : decode cX8_simulate 154 = .ok (.goto 4, 3) := by decide +kernel
theorem dX8_simulate_157 : decode cX8_simulate 157 = .ok (.iconst 0, 1) := by decide +kernel
theorem dX8_simulate_158 : decode cX8_simulate 158 = .ok (.iadd, 1) := by decide +kernel
theorem dX8_simulate_159 : decode cX8_simulate 159 = .ok (.istore 6, 2) := by decide +kernel
theorem dX8_simulate_161 : decode cX8_simulate 161 = .ok (.iinc 7 1, 3) := by decide +kernel
theorem dX8_simulate_164 : decode cX8_simulate 164 = .ok (.goto (-51), 3) := by decide +kernel
theorem dX8_simulate_167 : decode cX8_simulate 167 = .ok (.sipush 10000, 3) := by decide +kernel
theorem dX8_simulate_170 : decode cX8_simulate 170 = .ok (.aload_n 0, 1) := by decide +kernel
theorem dX8_simulate_171 : decode cX8_simulate 171 = .ok (.getfield 19, 3) := by decide +kernel
theorem dX8_simulate_174 : decode cX8_simulate 174 = .ok (.sipush 684, 3) := by decide +kernel
theorem dX8_simulate_177 : decode cX8_simulate 177 = .ok (.iaload, 1) := by decide +kernel
theorem dX8_simulate_178 : decode cX8_simulate 178 = .ok (.aload_n 0, 1) := by decide +kernel
theorem dX8_simulate_179 : decode cX8_simulate 179 = .ok (.getfield 16, 3) := by decide +kernel
theorem dX8_simulate_182 : decode cX8_simulate 182 = .ok (.sipush 684, 3) := by decide +kernel
theorem dX8_simulate_185 : decode cX8_simulate 185 = .ok (.iaload, 1) := by decide +kernel
theorem dX8_simulate_186 : decode cX8_simulate 186 = .ok (.isub, 1) := by decide +kernel
theorem dX8_simulate_187 : decode cX8_simulate 187 = .ok (.imul, 1) := by decide +kernel
theorem dX8_simulate_188 : decode cX8_simulate 188 = .ok (.bipush 100, 2) := by decide +kernel
theorem dX8_simulate_190 : decode cX8_simulate 190 = .ok (.aload_n 0, 1) := by decide +kernel
theorem dX8_simulate_191 : decode cX8_simulate 191 = .ok (.getfield 19, 3) := by decide +kernel
theorem dX8_simulate_194 : decode cX8_simulate 194 = .ok (.sipush 685, 3) := by decide +kernel
theorem dX8_simulate_197 : decode cX8_simulate 197 = .ok (.iaload, 1) := by decide +kernel
theorem dX8_simulate_198 : decode cX8_simulate 198 = .ok (.aload_n 0, 1) := by decide +kernel
theorem dX8_simulate_199 : decode cX8_simulate 199 = .ok (.getfield 16, 3) := by decide +kernel
theorem dX8_simulate_202 : decode cX8_simulate 202 = .ok (.sipush 685, 3) := by decide +kernel
theorem dX8_simulate_205 : decode cX8_simulate 205 = .ok (.iaload, 1) := by decide +kernel
theorem dX8_simulate_206 : decode cX8_simulate 206 = .ok (.isub, 1) := by decide +kernel
theorem dX8_simulate_207 : decode cX8_simulate 207 = .ok (.imul, 1) := by decide +kernel
theorem dX8_simulate_208 : decode cX8_simulate 208 = .ok (.iadd, 1) := by decide +kernel
theorem dX8_simulate_209 : decode cX8_simulate 209 = .ok (.iload 6, 2) := by decide +kernel
theorem dX8_simulate_211 : decode cX8_simulate 211 = .ok (.iadd, 1) := by decide +kernel
theorem dX8_simulate_212 : decode cX8_simulate 212 = .ok (.ireturn, 1) := by decide +kernel
set_option maxRecDepth 20000 in
theorem ggX8_save_X8_in : GoodIn wsX8_save wsX8_in := goodIn_r _ [7] (by decide +kernel) (by decide +kernel)
set_option maxRecDepth 20000 in
theorem gX8_save_X8_in : GoodIn wsX8_save (va_wsS RX8 62 yX8_in wsX8_in) := goodIn_app (goodIn_of _ (by decide +kernel)) ggX8_save_X8_in
set_option maxRecDepth 20000 in
theorem ggX8_save_X8_refused : GoodIn wsX8_save wsX8_refused := goodIn_r _ [11, 12, 16, 17, 18, 19, 20, 21, 22, 23, 24, 25, 26, 27, 28, 29, 30, 31] (by decide +kernel) (by decide +kernel)
set_option maxRecDepth 20000 in
theorem gX8_save_X8_refused : GoodIn wsX8_save (wsV RX8 108 RX8 yX8_refused wsX8_refused) := goodIn_app (goodIn_of _ (by decide +kernel)) ggX8_save_X8_refused
set_option maxRecDepth 20000 in
theorem ggX8_save_X8_copy : GoodIn wsX8_save wsX8_copy := goodIn_r _ [15] (by decide +kernel) (by decide +kernel)
set_option maxRecDepth 20000 in
theorem gX8_save_X8_copy : GoodIn wsX8_save (va_wsS RX8 50 yX8_copy wsX8_copy) := goodIn_app (goodIn_of _ (by decide +kernel)) ggX8_save_X8_copy
theorem dX8_save_0 : decode cX8_save 0 = .ok (.aload_n 0, 1) := by decide +kernel
theorem dX8_save_1 : decode cX8_save 1 = .ok (.iload_n 1, 1) := by decide +kernel
theorem dX8_save_2 : decode cX8_save 2 = .ok (.i2l, 1) := by decide +kernel
theorem dX8_save_3 : decode cX8_save 3 = .ok (.lconst 0, 1) := by decide +kernel
theorem dX8_save_4 : decode cX8_save 4 = .ok (.lconst 1, 1) := by decide +kernel
theorem dX8_save_5 : decode cX8_save 5 = .ok (.invokestatic 62, 3) := by decide +kernel
theorem dX8_save_8 : decode cX8_save 8 = .ok (.ifCond .eq 7, 3) := by decide +kernel
theorem dX8_save_11 : decode cX8_save 11 = .ok (.iconst 0, 1) := by decide +kernel
theorem dX8_save_12 : decode cX8_save 12 = .ok (.goto 4, 3) := by decide +kernel
theorem dX8_save_15 : decode cX8_save 15 = .ok (.iconst 1, 1) := by decide +kernel
theorem dX8_save_16 : decode cX8_save 16 = .ok (.invokevirtual 108, 3) := by decide +kernel
theorem dX8_save_19 : decode cX8_save 19 = .ok (.ifCond .eq 5, 3) := by decide +kernel
theorem dX8_save_22 : decode cX8_save 22 = .ok (.iconst 0, 1) := by decide +kernel
theorem dX8_save_23 : decode cX8_save 23 = .ok (.ireturn, 1) := by decide +kernel
theorem dX8_save_24 : decode cX8_save 24 = .ok (.aload_n 0, 1) := by decide +kernel
theorem dX8_save_25 : decode cX8_save 25 = .ok (.getfield 16, 3) := by decide +kernel
theorem dX8_save_28 : decode cX8_save 28 = .ok (.iconst 0, 1) := by decide +kernel
theorem dX8_save_29 : decode cX8_save 29 = .ok (.aload_n 0, 1) := by decide +kernel
theorem dX8_save_30 : decode cX8_save 30 = .ok (.getfield 25, 3) := by decide +kernel
theorem dX8_save_33 : decode cX8_save 33 = .ok (.sipush 748, 3) := by decide +kernel
theorem dX8_save_36 : decode cX8_save 36 = .ok (.iload_n 1, 1) := by decide +kernel
theorem dX8_save_37 : decode cX8_save 37 = .ok (.imul, 1) := by decide +kernel
theorem dX8_save_38 : decode cX8_save 38 = .ok (.sipush 748, 3) := by decide +kernel
theorem dX8_save_41 : decode cX8_save 41 = .ok (.invokestatic 50, 3) := by decide +kernel
theorem dX8_save_44 : decode cX8_save 44 = .ok (.aload_n 0, 1) := by decide +kernel
theorem dX8_save_45 : decode cX8_save 45 = .ok (.getfield 28, 3) := by decide +kernel
theorem dX8_save_48 : decode cX8_save 48 = .ok (.iload_n 1, 1) := by decide +kernel
theorem dX8_save_49 : decode cX8_save 49 = .ok (.iconst 1, 1) := by decide +kernel
theorem dX8_save_50 : decode cX8_save 50 = .ok (.bastore, 1) := by decide +kernel
theorem dX8_save_51 : decode cX8_save 51 = .ok (.aload_n 0, 1) := by decide +kernel
theorem dX8_save_52 : decode cX8_save 52 = .ok (.getfield 16, 3) := by decide +kernel
theorem dX8_save_55 : decode cX8_save 55 = .ok (.iconst 0, 1) := by decide +kernel
theorem dX8_save_56 : decode cX8_save 56 = .ok (.iaload, 1) := by decide +kernel
theorem dX8_save_57 : decode cX8_save 57 = .ok (.ireturn, 1) := by decide +kernel
set_option maxRecDepth 20000 in
theorem ggX8_restore_X8_in : GoodIn wsX8_restore wsX8_in := goodIn_r _ [8] (by decide +kernel) (by decide +kernel)
set_option maxRecDepth 20000 in
theorem gX8_restore_X8_in : GoodIn wsX8_restore (va_wsS RX8 62 yX8_in wsX8_in) := goodIn_app (goodIn_of _ (by decide +kernel)) ggX8_restore_X8_in
set_option maxRecDepth 20000 in
theorem ggX8_restore_X8_refused : GoodIn wsX8_restore wsX8_refused := goodIn_r _ [12, 13, 17, 18, 19, 20, 21, 22, 23, 24, 25, 26, 27, 28, 29, 30, 31, 32] (by decide +kernel) (by decide +kernel)
set_option maxRecDepth 20000 in
theorem gX8_restore_X8_refused : GoodIn wsX8_restore (wsV RX8 108 RX8 yX8_refused wsX8_refused) := goodIn_app (goodIn_of _ (by decide +kernel)) ggX8_restore_X8_refused
set_option maxRecDepth 20000 in
theorem ggX8_restore_X8_copy : GoodIn wsX8_restore wsX8_copy := goodIn_r _ [16] (by decide +kernel) (by decide +kernel)
set_option maxRecDepth 20000 in
theorem gX8_restore_X8_copy : GoodIn wsX8_restore (va_wsS RX8 50 yX8_copy wsX8_copy) := goodIn_app (goodIn_of _ (by decide +kernel)) ggX8_restore_X8_copy
theorem dX8_restore_0 : decode cX8_restore 0 = .ok (.aload_n 0, 1) := by decide +kernel
theorem dX8_restore_1 : decode cX8_restore 1 = .ok (.iload_n 1, 1) := by decide +kernel
theorem dX8_restore_2 : decode cX8_restore 2 = .ok (.i2l, 1) := by decide +kernel
theorem dX8_restore_3 : decode cX8_restore 3 = .ok (.lconst 0, 1) := by decide +kernel
theorem dX8_restore_4 : decode cX8_restore 4 = .ok (.lconst 1, 1) := by decide +kernel
theorem dX8_restore_5 : decode cX8_restore 5 = .ok (.invokestatic 62, 3) := by decide +kernel
theorem dX8_restore_8 : decode cX8_restore 8 = .ok (.ifCond .ne 7, 3) := by decide +kernel
theorem dX8_restore_11 : decode cX8_restore 11 = .ok (.iconst 1, 1) := by decide +kernel
theorem dX8_restore_12 : decode cX8_restore 12 = .ok (.goto 17, 3) := by decide +kernel
theorem dX8_restore_15 : decode cX8_restore 15 = .ok (.aload_n 0, 1) := by decide +kernel
theorem dX8_restore_16 : decode cX8_restore 16 = .ok (.getfield 28, 3) := by decide +kernel
theorem dX8_restore_19 : decode cX8_restore 19 = .ok (.iload_n 1, 1) := by decide +kernel
theorem dX8_restore_20 : decode cX8_restore 20 = .ok (.baload, 1) := by decide +kernel
theorem dX8_restore_21 : decode cX8_restore 21 = .ok (.ifCond .eq 7, 3) := by decide +kernel
theorem dX8_restore_24 : decode cX8_restore 24 = .ok (.iconst 0, 1) := by decide +kernel
theorem dX8_restore_25 : decode cX8_restore 25 = .ok (.goto 4, 3) := by decide +kernel
theorem dX8_restore_28 : decode cX8_restore 28 = .ok (.iconst 2, 1) := by decide +kernel
theorem dX8_restore_29 : decode cX8_restore 29 = .ok (.invokevirtual 108, 3) := by decide +kernel
theorem dX8_restore_32 : decode cX8_restore 32 = .ok (.ifCond .eq 5, 3) := by decide +kernel
theorem dX8_restore_35 : decode cX8_restore 35 = .ok (.iconst 0, 1) := by decide +kernel
theorem dX8_restore_36 : decode cX8_restore 36 = .ok (.ireturn, 1) := by decide +kernel
theorem dX8_restore_37 : decode cX8_restore 37 = .ok (.aload_n 0, 1) := by decide +kernel
theorem dX8_restore_38 : decode cX8_restore 38 = .ok (.getfield 25, 3) := by decide +kernel
theorem dX8_restore_41 : decode cX8_restore 41 = .ok (.sipush 748, 3) := by decide +kernel
theorem dX8_restore_44 : decode cX8_restore 44 = .ok (.iload_n 1, 1) := by decide +kernel
theorem dX8_restore_45 : decode cX8_restore 45 = .ok (.imul, 1) := by decide +kernel
theorem dX8_restore_46 : decode cX8_restore 46 = .ok (.aload_n 0, 1) := by decide +kernel
theorem dX8_restore_47 : decode cX8_restore 47 = .ok (.getfield 16, 3) := by decide +kernel
theorem dX8_restore_50 : decode cX8_restore 50 = .ok (.iconst 0, 1) := by decide +kernel
theorem dX8_restore_51 : decode cX8_restore 51 = .ok (.sipush 748, 3) := by decide +kernel
theorem dX8_restore_54 : decode cX8_restore 54 = .ok (.invokestatic 50, 3) := by decide +kernel
theorem dX8_restore_57 : decode cX8_restore 57 = .ok (.aload_n 0, 1) := by decide +kernel
theorem dX8_restore_58 : decode cX8_restore 58 = .ok (.iconst 0, 1) := by decide +kernel
theorem dX8_restore_59 : decode cX8_restore 59 = .ok (.putfield 47, 3) := by decide +kernel
theorem dX8_restore_62 : decode cX8_restore 62 = .ok (.aload_n 0, 1) := by decide +kernel
theorem dX8_restore_63 : decode cX8_restore 63 = .ok (.getfield 16, 3) := by decide +kernel
theorem dX8_restore_66 : decode cX8_restore 66 = .ok (.iconst 0, 1) := by decide +kernel
theorem dX8_restore_67 : decode cX8_restore 67 = .ok (.iaload, 1) := by decide +kernel
theorem dX8_restore_68 : decode cX8_restore 68 = .ok (.ireturn, 1) := by decide +kernel
