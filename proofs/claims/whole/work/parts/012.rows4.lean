set_option maxRecDepth 20000 in
theorem ggX4_init_X1_init : GoodIn wsX4_init wsX1_init := goodIn_r _ [16, 17, 2, 3, 12, 18, 19, 20, 21, 22, 27] (by decide +kernel) (by decide +kernel)
set_option maxRecDepth 20000 in
theorem gX4_init_X1_init : GoodIn wsX4_init (wsX1_init) := ggX4_init_X1_init
set_option maxRecDepth 20000 in
theorem ggX4_init_X0_init : GoodIn wsX4_init wsX0_init := goodIn_r _ [24, 25, 2, 3, 12, 26, 37, 38] (by decide +kernel) (by decide +kernel)
set_option maxRecDepth 20000 in
theorem gX4_init_X0_init_n20 : GoodIn wsX4_init (wsX0_init) := ggX4_init_X0_init
theorem dX4_init_0 : decode cX4_init 0 = .ok (.aload_n 0, 1) := by decide +kernel
theorem dX4_init_1 : decode cX4_init 1 = .ok (.invokespecial 3, 3) := by decide +kernel
theorem dX4_init_4 : decode cX4_init 4 = .ok (.aload_n 0, 1) := by decide +kernel
theorem dX4_init_5 : decode cX4_init 5 = .ok (.new 9, 3) := by decide +kernel
theorem dX4_init_8 : decode cX4_init 8 = .ok (.dup, 1) := by decide +kernel
theorem dX4_init_9 : decode cX4_init 9 = .ok (.invokespecial 11, 3) := by decide +kernel
theorem dX4_init_12 : decode cX4_init 12 = .ok (.putfield 12, 3) := by decide +kernel
theorem dX4_init_15 : decode cX4_init 15 = .ok (.aload_n 0, 1) := by decide +kernel
theorem dX4_init_16 : decode cX4_init 16 = .ok (.new 18, 3) := by decide +kernel
theorem dX4_init_19 : decode cX4_init 19 = .ok (.dup, 1) := by decide +kernel
theorem dX4_init_20 : decode cX4_init 20 = .ok (.invokespecial 20, 3) := by decide +kernel
theorem dX4_init_23 : decode cX4_init 23 = .ok (.putfield 21, 3) := by decide +kernel
theorem dX4_init_26 : decode cX4_init 26 = .ok (.aload_n 0, 1) := by decide +kernel
theorem dX4_init_27 : decode cX4_init 27 = .ok (.bipush 80, 2) := by decide +kernel
theorem dX4_init_29 : decode cX4_init 29 = .ok (.newarray .int, 2) := by decide +kernel
theorem dX4_init_31 : decode cX4_init 31 = .ok (.putfield 25, 3) := by decide +kernel
theorem dX4_init_34 : decode cX4_init 34 = .ok (.return_, 1) := by decide +kernel
set_option maxRecDepth 20000 in
theorem ggX4_makeNew_X1_removeAll : GoodIn wsX4_makeNew wsX1_removeAll := goodIn_r _ [13, 14, 15, 16, 17, 18, 34] (by decide +kernel) (by decide +kernel)
set_option maxRecDepth 20000 in
theorem gX4_makeNew_X1_removeAll : GoodIn wsX4_makeNew (wsV RX4 29 RX1 yX1_removeAll wsX1_removeAll) := goodIn_app (goodIn_of _ (by decide +kernel)) ggX4_makeNew_X1_removeAll
set_option maxRecDepth 20000 in
theorem ggX4_makeNew_X0_forgetAll : GoodIn wsX4_makeNew wsX0_forgetAll := goodIn_r _ [23, 24, 35, 36] (by decide +kernel) (by decide +kernel)
set_option maxRecDepth 20000 in
theorem gX4_makeNew_X0_forgetAll : GoodIn wsX4_makeNew (wsV RX4 32 RX0 yX0_forgetAll wsX0_forgetAll) := goodIn_app (goodIn_of _ (by decide +kernel)) ggX4_makeNew_X0_forgetAll
theorem dX4_makeNew_0 : decode cX4_makeNew 0 = .ok (.aload_n 0, 1) := by decide +kernel
theorem dX4_makeNew_1 : decode cX4_makeNew 1 = .ok (.getfield 12, 3) := by decide +kernel
theorem dX4_makeNew_4 : decode cX4_makeNew 4 = .ok (.invokevirtual 29, 3) := by decide +kernel
theorem dX4_makeNew_7 : decode cX4_makeNew 7 = .ok (.aload_n 0, 1) := by decide +kernel
theorem dX4_makeNew_8 : decode cX4_makeNew 8 = .ok (.getfield 21, 3) := by decide +kernel
theorem dX4_makeNew_11 : decode cX4_makeNew 11 = .ok (.invokevirtual 32, 3) := by decide +kernel
theorem dX4_makeNew_14 : decode cX4_makeNew 14 = .ok (.aload_n 0, 1) := by decide +kernel
theorem dX4_makeNew_15 : decode cX4_makeNew 15 = .ok (.iconst 0, 1) := by decide +kernel
theorem dX4_makeNew_16 : decode cX4_makeNew 16 = .ok (.putfield 35, 3) := by decide +kernel
theorem dX4_makeNew_19 : decode cX4_makeNew 19 = .ok (.aload_n 0, 1) := by decide +kernel
theorem dX4_makeNew_20 : decode cX4_makeNew 20 = .ok (.iconst 0, 1) := by decide +kernel
theorem dX4_makeNew_21 : decode cX4_makeNew 21 = .ok (.putfield 39, 3) := by decide +kernel
theorem dX4_makeNew_24 : decode cX4_makeNew 24 = .ok (.aload_n 0, 1) := by decide +kernel
theorem dX4_makeNew_25 : decode cX4_makeNew 25 = .ok (.iconst 0, 1) := by decide +kernel
theorem dX4_makeNew_26 : decode cX4_makeNew 26 = .ok (.putfield 42, 3) := by decide +kernel
theorem dX4_makeNew_29 : decode cX4_makeNew 29 = .ok (.aload_n 0, 1) := by decide +kernel
theorem dX4_makeNew_30 : decode cX4_makeNew 30 = .ok (.iconst 0, 1) := by decide +kernel
theorem dX4_makeNew_31 : decode cX4_makeNew 31 = .ok (.putfield 45, 3) := by decide +kernel
theorem dX4_makeNew_34 : decode cX4_makeNew 34 = .ok (.aload_n 0, 1) := by decide +kernel
theorem dX4_makeNew_35 : decode cX4_makeNew 35 = .ok (.iconst 0, 1) := by decide +kernel
theorem dX4_makeNew_36 : decode cX4_makeNew 36 = .ok (.putfield 48, 3) := by decide +kernel
theorem dX4_makeNew_39 : decode cX4_makeNew 39 = .ok (.aload_n 0, 1) := by decide +kernel
theorem dX4_makeNew_40 : decode cX4_makeNew 40 = .ok (.iconst 0, 1) := by decide +kernel
theorem dX4_makeNew_41 : decode cX4_makeNew 41 = .ok (.putfield 51, 3) := by decide +kernel
theorem dX4_makeNew_44 : decode cX4_makeNew 44 = .ok (.return_, 1) := by decide +kernel
set_option maxRecDepth 20000 in
theorem ggX4_copyFrom_X1_copyFrom : GoodIn wsX4_copyFrom wsX1_copyFrom := goodIn_r _ [18, 19, 20, 5, 6, 7, 38] (by decide +kernel) (by decide +kernel)
set_option maxRecDepth 20000 in
theorem gX4_copyFrom_X1_copyFrom : GoodIn wsX4_copyFrom (wsV RX4 54 RX1 yX1_copyFrom wsX1_copyFrom) := goodIn_app (goodIn_of _ (by decide +kernel)) ggX4_copyFrom_X1_copyFrom
set_option maxRecDepth 20000 in
theorem ggX4_copyFrom_X0_copyFrom : GoodIn wsX4_copyFrom wsX0_copyFrom := goodIn_r _ [25, 26, 27, 5, 6, 7, 28, 39, 40] (by decide +kernel) (by decide +kernel)
set_option maxRecDepth 20000 in
theorem gX4_copyFrom_X0_copyFrom : GoodIn wsX4_copyFrom (wsV RX4 58 RX0 yX0_copyFrom wsX0_copyFrom) := goodIn_app (goodIn_of _ (by decide +kernel)) ggX4_copyFrom_X0_copyFrom
theorem dX4_copyFrom_0 : decode cX4_copyFrom 0 = .ok (.aload_n 0, 1) := by decide +kernel
theorem dX4_copyFrom_1 : decode cX4_copyFrom 1 = .ok (.getfield 12, 3) := by decide +kernel
theorem dX4_copyFrom_4 : decode cX4_copyFrom 4 = .ok (.aload_n 1, 1) := by decide +kernel
theorem dX4_copyFrom_5 : decode cX4_copyFrom 5 = .ok (.getfield 12, 3) := by decide +kernel
theorem dX4_copyFrom_8 : decode cX4_copyFrom 8 = .ok (.invokevirtual 54, 3) := by decide +kernel
theorem dX4_copyFrom_11 : decode cX4_copyFrom 11 = .ok (.aload_n 0, 1) := by decide +kernel
theorem dX4_copyFrom_12 : decode cX4_copyFrom 12 = .ok (.getfield 21, 3) := by decide +kernel
theorem dX4_copyFrom_15 : decode cX4_copyFrom 15 = .ok (.aload_n 1, 1) := by decide +kernel
theorem dX4_copyFrom_16 : decode cX4_copyFrom 16 = .ok (.getfield 21, 3) := by decide +kernel
theorem dX4_copyFrom_19 : decode cX4_copyFrom 19 = .ok (.invokevirtual 58, 3) := by decide +kernel
theorem dX4_copyFrom_22 : decode cX4_copyFrom 22 = .ok (.aload_n 1, 1) := by decide +kernel
theorem dX4_copyFrom_23 : decode cX4_copyFrom 23 = .ok (.getfield 25, 3) := by decide +kernel
theorem dX4_copyFrom_26 : decode cX4_copyFrom 26 = .ok (.iconst 0, 1) := by decide +kernel
theorem dX4_copyFrom_27 : decode cX4_copyFrom 27 = .ok (.aload_n 0, 1) := by decide +kernel
theorem dX4_copyFrom_28 : decode cX4_copyFrom 28 = .ok (.getfield 25, 3) := by decide +kernel
theorem dX4_copyFrom_31 : decode cX4_copyFrom 31 = .ok (.iconst 0, 1) := by decide +kernel
theorem dX4_copyFrom_32 : decode cX4_copyFrom 32 = .ok (.aload_n 0, 1) := by decide +kernel
theorem dX4_copyFrom_33 : decode cX4_copyFrom 33 = .ok (.getfield 25, 3) := by decide +kernel
theorem dX4_copyFrom_36 : decode cX4_copyFrom 36 = .ok (.arraylength, 1) := by decide +kernel
theorem dX4_copyFrom_37 : decode cX4_copyFrom 37 = .ok (.invokestatic 61, 3) := by decide +kernel
theorem dX4_copyFrom_40 : decode cX4_copyFrom 40 = .ok (.aload_n 0, 1) := by decide +kernel
theorem dX4_copyFrom_41 : decode cX4_copyFrom 41 = .ok (.aload_n 1, 1) := by decide +kernel
theorem dX4_copyFrom_42 : decode cX4_copyFrom 42 = .ok (.getfield 35, 3) := by decide +kernel
theorem dX4_copyFrom_45 : decode cX4_copyFrom 45 = .ok (.putfield 35, 3) := by decide +kernel
theorem dX4_copyFrom_48 : decode cX4_copyFrom 48 = .ok (.aload_n 0, 1) := by decide +kernel
theorem dX4_copyFrom_49 : decode cX4_copyFrom 49 = .ok (.aload_n 1, 1) := by decide +kernel
theorem dX4_copyFrom_50 : decode cX4_copyFrom 50 = .ok (.getfield 39, 3) := by decide +kernel
theorem dX4_copyFrom_53 : decode cX4_copyFrom 53 = .ok (.putfield 39, 3) := by decide +kernel
theorem dX4_copyFrom_56 : decode cX4_copyFrom 56 = .ok (.aload_n 0, 1) := by decide +kernel
theorem dX4_copyFrom_57 : decode cX4_copyFrom 57 = .ok (.aload_n 1, 1) := by decide +kernel
theorem dX4_copyFrom_58 : decode cX4_copyFrom 58 = .ok (.getfield 42, 3) := by decide +kernel
theorem dX4_copyFrom_61 : decode cX4_copyFrom 61 = .ok (.putfield 42, 3) := by decide +kernel
theorem dX4_copyFrom_64 : decode cX4_copyFrom 64 = .ok (.aload_n 0, 1) := by decide +kernel
theorem dX4_copyFrom_65 : decode cX4_copyFrom 65 = .ok (.aload_n 1, 1) := by decide +kernel
theorem dX4_copyFrom_66 : decode cX4_copyFrom 66 = .ok (.getfield 45, 3) := by decide +kernel
theorem dX4_copyFrom_69 : decode cX4_copyFrom 69 = .ok (.putfield 45, 3) := by decide +kernel
theorem dX4_copyFrom_72 : decode cX4_copyFrom 72 = .ok (.aload_n 0, 1) := by decide +kernel
theorem dX4_copyFrom_73 : decode cX4_copyFrom 73 = .ok (.aload_n 1, 1) := by decide +kernel
theorem dX4_copyFrom_74 : decode cX4_copyFrom 74 = .ok (.getfield 48, 3) := by decide +kernel
theorem dX4_copyFrom_77 : decode cX4_copyFrom 77 = .ok (.putfield 48, 3) := by decide +kernel
theorem dX4_copyFrom_80 : decode cX4_copyFrom 80 = .ok (.aload_n 0, 1) := by decide +kernel
theorem dX4_copyFrom_81 : decode cX4_copyFrom 81 = .ok (.aload_n 1, 1) := by decide +kernel
theorem dX4_copyFrom_82 : decode cX4_copyFrom 82 = .ok (.getfield 51, 3) := by decide +kernel
theorem dX4_copyFrom_85 : decode cX4_copyFrom 85 = .ok (.putfield 51, 3) := by decide +kernel
theorem dX4_copyFrom_88 : decode cX4_copyFrom 88 = .ok (.return_, 1) := by decide +kernel
theorem dX4_hasPart_0 : decode cX4_hasPart 0 = .ok (.iload_n 1, 1) := by decide +kernel
theorem dX4_hasPart_1 : decode cX4_hasPart 1 = .ok (.ifCond .lt 15, 3) := by decide +kernel
theorem dX4_hasPart_4 : decode cX4_hasPart 4 = .ok (.iload_n 1, 1) := by decide +kernel
theorem dX4_hasPart_5 : decode cX4_hasPart 5 = .ok (.aload_n 0, 1) := by decide +kernel
theorem dX4_hasPart_6 : decode cX4_hasPart 6 = .ok (.getfield 35, 3) := by decide +kernel
theorem dX4_hasPart_9 : decode cX4_hasPart 9 = .ok (.if_icmp .ge 7, 3) := by decide +kernel
theorem dX4_hasPart_12 : decode cX4_hasPart 12 = .ok (.iconst 1, 1) := by decide +kernel
theorem dX4_hasPart_13 : decode cX4_hasPart 13 = .ok (.goto 4, 3) := by decide +kernel
theorem dX4_hasPart_16 : decode cX4_hasPart 16 = .ok (.iconst 0, 1) := by decide +kernel
theorem dX4_hasPart_17 : decode cX4_hasPart 17 = .ok (.ireturn, 1) := by decide +kernel
theorem dX4_hasRoom_0 : decode cX4_hasRoom 0 = .ok (.aload_n 0, 1) := by decide +kernel
theorem dX4_hasRoom_1 : decode cX4_hasRoom 1 = .ok (.getfield 35, 3) := by decide +kernel
theorem dX4_hasRoom_4 : decode cX4_hasRoom 4 = .ok (.bipush 10, 2) := by decide +kernel
theorem dX4_hasRoom_6 : decode cX4_hasRoom 6 = .ok (.if_icmp .ge 7, 3) := by decide +kernel
theorem dX4_hasRoom_9 : decode cX4_hasRoom 9 = .ok (.iconst 1, 1) := by decide +kernel
theorem dX4_hasRoom_10 : decode cX4_hasRoom 10 = .ok (.goto 4, 3) := by decide +kernel
theorem dX4_hasRoom_13 : decode cX4_hasRoom 13 = .ok (.iconst 0, 1) := by decide +kernel
theorem dX4_hasRoom_14 : decode cX4_hasRoom 14 = .ok (.ireturn, 1) := by decide +kernel
theorem dX4_mayChainTo_0 : decode cX4_mayChainTo 0 = .ok (.iload_n 2, 1) := by decide +kernel
theorem dX4_mayChainTo_1 : decode cX4_mayChainTo 1 = .ok (.ifCond .lt 12, 3) := by decide +kernel
theorem dX4_mayChainTo_4 : decode cX4_mayChainTo 4 = .ok (.iload_n 2, 1) := by decide +kernel
theorem dX4_mayChainTo_5 : decode cX4_mayChainTo 5 = .ok (.iload_n 1, 1) := by decide +kernel
theorem dX4_mayChainTo_6 : decode cX4_mayChainTo 6 = .ok (.if_icmp .ge 7, 3) := by decide +kernel
theorem dX4_mayChainTo_9 : decode cX4_mayChainTo 9 = .ok (.iconst 1, 1) := by decide +kernel
theorem dX4_mayChainTo_10 : decode cX4_mayChainTo 10 = .ok (.goto 4, 3) := by decide +kernel
theorem dX4_mayChainTo_13 : decode cX4_mayChainTo 13 = .ok (.iconst 0, 1) := by decide +kernel
theorem dX4_mayChainTo_14 : decode cX4_mayChainTo 14 = .ok (.ireturn, 1) := by decide +kernel
theorem dX4_ofPart_0 : decode cX4_ofPart 0 = .ok (.iload_n 1, 1) := by decide +kernel
theorem dX4_ofPart_1 : decode cX4_ofPart 1 = .ok (.ifCond .lt 23, 3) := by decide +kernel
theorem dX4_ofPart_4 : decode cX4_ofPart 4 = .ok (.iload_n 1, 1) := by decide +kernel
theorem dX4_ofPart_5 : decode cX4_ofPart 5 = .ok (.bipush 10, 2) := by decide +kernel
theorem dX4_ofPart_7 : decode cX4_ofPart 7 = .ok (.if_icmp .ge 17, 3) := by decide +kernel
theorem dX4_ofPart_10 : decode cX4_ofPart 10 = .ok (.aload_n 0, 1) := by decide +kernel
theorem dX4_ofPart_11 : decode cX4_ofPart 11 = .ok (.getfield 25, 3) := by decide +kernel
theorem dX4_ofPart_14 : decode cX4_ofPart 14 = .ok (.iload_n 1, 1) := by decide +kernel
theorem dX4_ofPart_15 : decode cX4_ofPart 15 = .ok (.bipush 8, 2) := by decide +kernel
theorem dX4_ofPart_17 : decode cX4_ofPart 17 = .ok (.imul, 1) := by decide +kernel
theorem dX4_ofPart_18 : decode cX4_ofPart 18 = .ok (.iload_n 2, 1) := by decide +kernel
theorem dX4_ofPart_19 : decode cX4_ofPart 19 = .ok (.iadd, 1) := by decide +kernel
theorem dX4_ofPart_20 : decode cX4_ofPart 20 = .ok (.iaload, 1) := by decide +kernel
theorem dX4_ofPart_21 : decode cX4_ofPart 21 = .ok (.goto 6, 3) := by decide +kernel
theorem dX4_ofPart_24 : decode cX4_ofPart 24 = .ok (.sipush (-10000), 3) := by decide +kernel
theorem dX4_ofPart_27 : decode cX4_ofPart 27 = .ok (.ireturn, 1) := by decide +kernel
set_option maxRecDepth 20000 in
theorem ggX4_addPart_X4_setNumber : GoodIn wsX4_addPart wsX4_setNumber := goodIn_r _ [6, 7, 16, 17, 18, 19, 20, 21, 22, 23, 24] (by decide +kernel) (by decide +kernel)
set_option maxRecDepth 20000 in
theorem gX4_addPart_X4_setNumber : GoodIn wsX4_addPart (wsV RX4 67 RX4 yX4_setNumber wsX4_setNumber) := goodIn_app (goodIn_of _ (by decide +kernel)) ggX4_addPart_X4_setNumber
set_option maxRecDepth 20000 in
theorem ggX4_addPart_X4_chainTo : GoodIn wsX4_addPart wsX4_chainTo := goodIn_r _ [11, 2, 3, 4, 5, 6, 7, 16, 17, 18, 19, 20, 21, 22, 23, 24] (by decide +kernel) (by decide +kernel)
set_option maxRecDepth 20000 in
theorem gX4_addPart_X4_chainTo : GoodIn wsX4_addPart (wsV RX4 71 RX4 yX4_chainTo wsX4_chainTo) := goodIn_app (goodIn_of _ (by decide +kernel)) ggX4_addPart_X4_chainTo
set_option maxRecDepth 20000 in
theorem ggX4_addPart_X4_setNet : GoodIn wsX4_addPart wsX4_setNet := goodIn_r _ [15, 2, 3, 4, 5, 6, 7, 16, 17, 18, 19, 20, 21, 22, 23, 24] (by decide +kernel) (by decide +kernel)
set_option maxRecDepth 20000 in
theorem gX4_addPart_X4_setNet : GoodIn wsX4_addPart (wsV RX4 74 RX4 yX4_setNet wsX4_setNet) := goodIn_app (goodIn_of _ (by decide +kernel)) ggX4_addPart_X4_setNet
theorem dX4_addPart_0 : decode cX4_addPart 0 = .ok (.aload_n 0, 1) := by decide +kernel
theorem dX4_addPart_1 : decode cX4_addPart 1 = .ok (.getfield 35, 3) := by decide +kernel
theorem dX4_addPart_4 : decode cX4_addPart 4 = .ok (.istore_n 3, 1) := by decide +kernel
theorem dX4_addPart_5 : decode cX4_addPart 5 = .ok (.aload_n 0, 1) := by decide +kernel
theorem dX4_addPart_6 : decode cX4_addPart 6 = .ok (.dup, 1) := by decide +kernel
theorem dX4_addPart_7 : decode cX4_addPart 7 = .ok (.getfield 35, 3) := by decide +kernel
theorem dX4_addPart_10 : decode cX4_addPart 10 = .ok (.iconst 1, 1) := by decide +kernel
theorem dX4_addPart_11 : decode cX4_addPart 11 = .ok (.iadd, 1) := by decide +kernel
theorem dX4_addPart_12 : decode cX4_addPart 12 = .ok (.putfield 35, 3) := by decide +kernel
theorem dX4_addPart_15 : decode cX4_addPart 15 = .ok (.aload_n 0, 1) := by decide +kernel
theorem dX4_addPart_16 : decode cX4_addPart 16 = .ok (.iload_n 3, 1) := by decide +kernel
theorem dX4_addPart_17 : decode cX4_addPart 17 = .ok (.iconst 0, 1) := by decide +kernel
theorem dX4_addPart_18 : decode cX4_addPart 18 = .ok (.iload_n 1, 1) := by decide +kernel
theorem dX4_addPart_19 : decode cX4_addPart 19 = .ok (.invokevirtual 67, 3) := by decide +kernel
theorem dX4_addPart_22 : decode cX4_addPart 22 = .ok (.aload_n 0, 1) := by decide +kernel
theorem dX4_addPart_23 : decode cX4_addPart 23 = .ok (.iload_n 3, 1) := by decide +kernel
theorem dX4_addPart_24 : decode cX4_addPart 24 = .ok (.iconst 1, 1) := by decide +kernel
theorem dX4_addPart_25 : decode cX4_addPart 25 = .ok (.iload_n 2, 1) := by decide +kernel
theorem dX4_addPart_26 : decode cX4_addPart 26 = .ok (.invokevirtual 67, 3) := by decide +kernel
theorem dX4_addPart_29 : decode cX4_addPart 29 = .ok (.aload_n 0, 1) := by decide +kernel
theorem dX4_addPart_30 : decode cX4_addPart 30 = .ok (.iload_n 3, 1) := by decide +kernel
theorem dX4_addPart_31 : decode cX4_addPart 31 = .ok (.sipush (-10000), 3) := by decide +kernel
theorem dX4_addPart_34 : decode cX4_addPart 34 = .ok (.iconst 0, 1) := by decide +kernel
theorem dX4_addPart_35 : decode cX4_addPart 35 = .ok (.invokevirtual 71, 3) := by decide +kernel
theorem dX4_addPart_38 : decode cX4_addPart 38 = .ok (.aload_n 0, 1) := by decide +kernel
theorem dX4_addPart_39 : decode cX4_addPart 39 = .ok (.iload_n 3, 1) := by decide +kernel
theorem dX4_addPart_40 : decode cX4_addPart 40 = .ok (.sipush (-10000), 3) := by decide +kernel
theorem dX4_addPart_43 : decode cX4_addPart 43 = .ok (.invokevirtual 74, 3) := by decide +kernel
theorem dX4_addPart_46 : decode cX4_addPart 46 = .ok (.aload_n 0, 1) := by decide +kernel
theorem dX4_addPart_47 : decode cX4_addPart 47 = .ok (.iload_n 3, 1) := by decide +kernel
theorem dX4_addPart_48 : decode cX4_addPart 48 = .ok (.iconst 5, 1) := by decide +kernel
theorem dX4_addPart_49 : decode cX4_addPart 49 = .ok (.iconst 0, 1) := by decide +kernel
theorem dX4_addPart_50 : decode cX4_addPart 50 = .ok (.invokevirtual 67, 3) := by decide +kernel
theorem dX4_addPart_53 : decode cX4_addPart 53 = .ok (.aload_n 0, 1) := by decide +kernel
theorem dX4_addPart_54 : decode cX4_addPart 54 = .ok (.iload_n 3, 1) := by decide +kernel
theorem dX4_addPart_55 : decode cX4_addPart 55 = .ok (.bipush 6, 2) := by decide +kernel
theorem dX4_addPart_57 : decode cX4_addPart 57 = .ok (.iconst 0, 1) := by decide +kernel
theorem dX4_addPart_58 : decode cX4_addPart 58 = .ok (.invokevirtual 67, 3) := by decide +kernel
theorem dX4_addPart_61 : decode cX4_addPart 61 = .ok (.aload_n 0, 1) := by decide +kernel
theorem dX4_addPart_62 : decode cX4_addPart 62 = .ok (.iload_n 3, 1) := by decide +kernel
theorem dX4_addPart_63 : decode cX4_addPart 63 = .ok (.bipush 7, 2) := by decide +kernel
theorem dX4_addPart_65 : decode cX4_addPart 65 = .ok (.iconst 0, 1) := by decide +kernel
theorem dX4_addPart_66 : decode cX4_addPart 66 = .ok (.invokevirtual 67, 3) := by decide +kernel
theorem dX4_addPart_69 : decode cX4_addPart 69 = .ok (.return_, 1) := by decide +kernel
set_option maxRecDepth 20000 in
theorem ggX4_chainTo_X4_setNumber : GoodIn wsX4_chainTo wsX4_setNumber := goodIn_r _ [5, 6, 7, 8, 9, 10, 11, 12, 13, 14, 15] (by decide +kernel) (by decide +kernel)
set_option maxRecDepth 20000 in
theorem gX4_chainTo_X4_setNumber : GoodIn wsX4_chainTo (wsV RX4 67 RX4 yX4_setNumber wsX4_setNumber) := goodIn_app (goodIn_of _ (by decide +kernel)) ggX4_chainTo_X4_setNumber
theorem dX4_chainTo_0 : decode cX4_chainTo 0 = .ok (.aload_n 0, 1) := by decide +kernel
theorem dX4_chainTo_1 : decode cX4_chainTo 1 = .ok (.iload_n 1, 1) := by decide +kernel
theorem dX4_chainTo_2 : decode cX4_chainTo 2 = .ok (.iconst 2, 1) := by decide +kernel
theorem dX4_chainTo_3 : decode cX4_chainTo 3 = .ok (.iload_n 2, 1) := by decide +kernel
theorem dX4_chainTo_4 : decode cX4_chainTo 4 = .ok (.invokevirtual 67, 3) := by decide +kernel
theorem dX4_chainTo_7 : decode cX4_chainTo 7 = .ok (.aload_n 0, 1) := by decide +kernel
theorem dX4_chainTo_8 : decode cX4_chainTo 8 = .ok (.iload_n 1, 1) := by decide +kernel
theorem dX4_chainTo_9 : decode cX4_chainTo 9 = .ok (.iconst 3, 1) := by decide +kernel
theorem dX4_chainTo_10 : decode cX4_chainTo 10 = .ok (.iload_n 2, 1) := by decide +kernel
theorem dX4_chainTo_11 : decode cX4_chainTo 11 = .ok (.sipush (-10000), 3) := by decide +kernel
theorem dX4_chainTo_14 : decode cX4_chainTo 14 = .ok (.if_icmp .ne 9, 3) := by decide +kernel
theorem dX4_chainTo_17 : decode cX4_chainTo 17 = .ok (.sipush (-10000), 3) := by decide +kernel
theorem dX4_chainTo_20 : decode cX4_chainTo 20 = .ok (.goto 4, 3) := by decide +kernel
theorem dX4_chainTo_23 : decode cX4_chainTo 23 = .ok (.iload_n 3, 1) := by decide +kernel
theorem dX4_chainTo_24 : decode cX4_chainTo 24 = .ok (.invokevirtual 67, 3) := by decide +kernel
theorem dX4_chainTo_27 : decode cX4_chainTo 27 = .ok (.return_, 1) := by decide +kernel
set_option maxRecDepth 20000 in
theorem ggX4_setNet_X4_setNumber : GoodIn wsX4_setNet wsX4_setNumber := goodIn_r _ [5, 6, 7, 8, 9, 10, 11, 12, 13, 14, 15] (by decide +kernel) (by decide +kernel)
set_option maxRecDepth 20000 in
theorem gX4_setNet_X4_setNumber : GoodIn wsX4_setNet (wsV RX4 67 RX4 yX4_setNumber wsX4_setNumber) := goodIn_app (goodIn_of _ (by decide +kernel)) ggX4_setNet_X4_setNumber
theorem dX4_setNet_0 : decode cX4_setNet 0 = .ok (.aload_n 0, 1) := by decide +kernel
theorem dX4_setNet_1 : decode cX4_setNet 1 = .ok (.iload_n 1, 1) := by decide +kernel
theorem dX4_setNet_2 : decode cX4_setNet 2 = .ok (.iconst 4, 1) := by decide +kernel
theorem dX4_setNet_3 : decode cX4_setNet 3 = .ok (.iload_n 2, 1) := by decide +kernel
theorem dX4_setNet_4 : decode cX4_setNet 4 = .ok (.invokevirtual 67, 3) := by decide +kernel
theorem dX4_setNet_7 : decode cX4_setNet 7 = .ok (.return_, 1) := by decide +kernel
set_option maxRecDepth 20000 in
theorem ggX4_chainLength_X4_ofPart : GoodIn wsX4_chainLength wsX4_ofPart := goodIn_r _ [5, 6, 7, 8, 9, 10, 11, 12, 13, 14, 15] (by decide +kernel) (by decide +kernel)
set_option maxRecDepth 20000 in
theorem gX4_chainLength_X4_ofPart : GoodIn wsX4_chainLength (wsV RX4 78 RX4 yX4_ofPart wsX4_ofPart) := goodIn_app (goodIn_of _ (by decide +kernel)) ggX4_chainLength_X4_ofPart
theorem dX4_chainLength_0 : decode cX4_chainLength 0 = .ok (.iconst 1, 1) := by decide +kernel
theorem dX4_chainLength_1 : decode cX4_chainLength 1 = .ok (.istore_n 2, 1) := by decide +kernel
theorem dX4_chainLength_2 : decode cX4_chainLength 2 = .ok (.aload_n 0, 1) := by decide +kernel
theorem dX4_chainLength_3 : decode cX4_chainLength 3 = .ok (.iload_n 1, 1) := by decide +kernel
theorem dX4_chainLength_4 : decode cX4_chainLength 4 = .ok (.iconst 2, 1) := by decide +kernel
theorem dX4_chainLength_5 : decode cX4_chainLength 5 = .ok (.invokevirtual 78, 3) := by decide +kernel
theorem dX4_chainLength_8 : decode cX4_chainLength 8 = .ok (.istore_n 3, 1) := by decide +kernel
theorem dX4_chainLength_9 : decode cX4_chainLength 9 = .ok (.iload_n 3, 1) := by decide +kernel
theorem dX4_chainLength_10 : decode cX4_chainLength 10 = .ok (.sipush (-10000), 3) := by decide +kernel
theorem dX4_chainLength_13 : decode cX4_chainLength 13 = .ok (.if_icmp .eq 22, 3) := by decide +kernel
theorem dX4_chainLength_16 : decode cX4_chainLength 16 = .ok (.iload_n 2, 1) := by decide +kernel
theorem dX4_chainLength_17 : decode cX4_chainLength 17 = .ok (.bipush 10, 2) := by decide +kernel
theorem dX4_chainLength_19 : decode cX4_chainLength 19 = .ok (.if_icmp .ge 16, 3) := by decide +kernel
theorem dX4_chainLength_22 : decode cX4_chainLength 22 = .ok (.iinc 2 1, 3) := by decide +kernel
theorem dX4_chainLength_25 : decode cX4_chainLength 25 = .ok (.aload_n 0, 1) := by decide +kernel
theorem dX4_chainLength_26 : decode cX4_chainLength 26 = .ok (.iload_n 3, 1) := by decide +kernel
theorem dX4_chainLength_27 : decode cX4_chainLength 27 = .ok (.iconst 2, 1) := by decide +kernel
theorem dX4_chainLength_28 : decode cX4_chainLength 28 = .ok (.invokevirtual 78, 3) := by decide +kernel
theorem dX4_chainLength_31 : decode cX4_chainLength 31 = .ok (.istore_n 3, 1) := by decide +kernel
theorem dX4_chainLength_32 : decode cX4_chainLength 32 = .ok (.goto (-23), 3) := by decide +kernel
theorem dX4_chainLength_35 : decode cX4_chainLength 35 = .ok (.iload_n 2, 1) := by decide +kernel
theorem dX4_chainLength_36 : decode cX4_chainLength 36 = .ok (.ireturn, 1) := by decide +kernel
set_option maxRecDepth 20000 in
theorem ggX4_callFromOutside_X4_callOver : GoodIn wsX4_callFromOutside wsX4_callOver := goodIn_r _ [7, 8, 9, 10, 11, 12, 6, 13, 14, 15, 16, 17, 18, 19, 20, 21, 22, 23, 24, 25, 26, 27, 28, 29, 30, 31, 32, 33, 34, 35, 36, 37, 38, 39, 40, 41, 42, 43, 44, 45, 46, 47, 48, 49, 50, 51, 52, 53, 54, 55, 56, 57, 58, 59, 60, 61, 62, 63, 64, 65, 66, 67, 68, 69, 70, 3, 4, 5, 71, 72, 73, 74, 75, 76, 77, 78, 79, 80, 81, 82, 83, 84, 85, 86, 87, 88, 89, 90, 91, 92, 93, 94, 95] (by decide +kernel) (by decide +kernel)
set_option maxRecDepth 20000 in
theorem gX4_callFromOutside_X4_callOver : GoodIn wsX4_callFromOutside (wsV RX4 82 RX4 yX4_callOver wsX4_callOver) := goodIn_app (goodIn_of _ (by decide +kernel)) ggX4_callFromOutside_X4_callOver
theorem dX4_callFromOutside_0 : decode cX4_callFromOutside 0 = .ok (.aload_n 0, 1) := by decide +kernel
theorem dX4_callFromOutside_1 : decode cX4_callFromOutside 1 = .ok (.dup, 1) := by decide +kernel
theorem dX4_callFromOutside_2 : decode cX4_callFromOutside 2 = .ok (.getfield 42, 3) := by decide +kernel
theorem dX4_callFromOutside_5 : decode cX4_callFromOutside 5 = .ok (.iconst 1, 1) := by decide +kernel
theorem dX4_callFromOutside_6 : decode cX4_callFromOutside 6 = .ok (.iadd, 1) := by decide +kernel
theorem dX4_callFromOutside_7 : decode cX4_callFromOutside 7 = .ok (.putfield 42, 3) := by decide +kernel
theorem dX4_callFromOutside_10 : decode cX4_callFromOutside 10 = .ok (.aload_n 0, 1) := by decide +kernel
theorem dX4_callFromOutside_11 : decode cX4_callFromOutside 11 = .ok (.sipush (-10000), 3) := by decide +kernel
theorem dX4_callFromOutside_14 : decode cX4_callFromOutside 14 = .ok (.iload_n 1, 1) := by decide +kernel
theorem dX4_callFromOutside_15 : decode cX4_callFromOutside 15 = .ok (.iload_n 2, 1) := by decide +kernel
theorem dX4_callFromOutside_16 : decode cX4_callFromOutside 16 = .ok (.iconst 1, 1) := by decide +kernel
theorem dX4_callFromOutside_17 : decode cX4_callFromOutside 17 = .ok (.invokevirtual 82, 3) := by decide +kernel
theorem dX4_callFromOutside_20 : decode cX4_callFromOutside 20 = .ok (.istore_n 3, 1) := by decide +kernel
theorem dX4_callFromOutside_21 : decode cX4_callFromOutside 21 = .ok (.iload_n 3, 1) := by decide +kernel
theorem dX4_callFromOutside_22 : decode cX4_callFromOutside 22 = .ok (.sipush (-10000), 3) := by decide +kernel
theorem dX4_callFromOutside_25 : decode cX4_callFromOutside 25 = .ok (.if_icmp .ne 13, 3) := by decide +kernel
theorem dX4_callFromOutside_28 : decode cX4_callFromOutside 28 = .ok (.aload_n 0, 1) := by decide +kernel
theorem dX4_callFromOutside_29 : decode cX4_callFromOutside 29 = .ok (.dup, 1) := by decide +kernel
theorem dX4_callFromOutside_30 : decode cX4_callFromOutside 30 = .ok (.getfield 48, 3) := by decide +kernel
theorem dX4_callFromOutside_33 : decode cX4_callFromOutside 33 = .ok (.iconst 1, 1) := by decide +kernel
theorem dX4_callFromOutside_34 : decode cX4_callFromOutside 34 = .ok (.iadd, 1) := by decide +kernel
theorem dX4_callFromOutside_35 : decode cX4_callFromOutside 35 = .ok (.putfield 48, 3) := by decide +kernel
theorem dX4_callFromOutside_38 : decode cX4_callFromOutside 38 = .ok (.iload_n 3, 1) := by decide +kernel
theorem dX4_callFromOutside_39 : decode cX4_callFromOutside 39 = .ok (.ireturn, 1) := by decide +kernel
set_option maxRecDepth 20000 in
theorem ggX4_callOver_X4_countOne : GoodIn wsX4_callOver wsX4_countOne := goodIn_r _ [7, 8, 81, 82, 83, 84, 85, 86, 87, 88, 89] (by decide +kernel) (by decide +kernel)
set_option maxRecDepth 20000 in
theorem gX4_callOver_X4_countOne : GoodIn wsX4_callOver (wsV RX4 86 RX4 yX4_countOne wsX4_countOne) := goodIn_app (goodIn_of _ (by decide +kernel)) ggX4_callOver_X4_countOne
set_option maxRecDepth 20000 in
theorem ggX4_callOver_X1_find : GoodIn wsX4_callOver wsX1_find := goodIn_r _ [13, 14, 15, 16, 12, 17, 18, 19, 20, 90] (by decide +kernel) (by decide +kernel)
set_option maxRecDepth 20000 in
theorem gX4_callOver_X1_find : GoodIn wsX4_callOver (wsV RX4 89 RX1 yX1_find wsX1_find) := goodIn_app (goodIn_of _ (by decide +kernel)) ggX4_callOver_X1_find
set_option maxRecDepth 20000 in
theorem ggX4_callOver_X1_asks : GoodIn wsX4_callOver wsX1_asks := goodIn_r _ [24, 14, 90] (by decide +kernel) (by decide +kernel)
set_option maxRecDepth 20000 in
theorem gX4_callOver_X1_asks : GoodIn wsX4_callOver (wsV RX4 92 RX1 yX1_asks wsX1_asks) := goodIn_app (goodIn_of _ (by decide +kernel)) ggX4_callOver_X1_asks
set_option maxRecDepth 20000 in
theorem ggX4_callOver_X4_accuse : GoodIn wsX4_callOver wsX4_accuse := goodIn_r _ [28, 29, 30, 31, 32, 33, 34, 35, 36, 37, 38, 39, 40, 41, 42, 43, 44, 45, 46, 47, 48, 3, 4, 5, 6, 7, 8, 81, 82, 83, 84, 85, 86, 87, 88, 89, 91, 92] (by decide +kernel) (by decide +kernel)
set_option maxRecDepth 20000 in
theorem gX4_callOver_X4_accuse : GoodIn wsX4_callOver (wsV RX4 96 RX4 yX4_accuse wsX4_accuse) := goodIn_app (goodIn_of _ (by decide +kernel)) ggX4_callOver_X4_accuse
set_option maxRecDepth 20000 in
theorem ggX4_callOver_X4_reckon : GoodIn wsX4_callOver wsX4_reckon := goodIn_r _ [56, 57, 43, 44, 45, 58, 59, 60, 61, 62, 63, 6, 64, 8, 65, 66, 67, 68, 69, 70, 71, 30, 72, 73, 74, 75, 34, 76, 36, 77, 78, 79, 80, 3, 4, 5, 7, 0, 1, 2, 9, 10, 11, 12, 13, 14, 15, 16, 17, 18, 19, 20, 21, 22, 23, 24, 25, 26, 27, 28, 29, 31, 32, 33, 35, 37, 38, 39, 40, 41, 42, 46, 47, 48, 49, 50, 51, 52, 53, 54, 55, 81, 82, 83, 84, 85, 86, 87, 88, 89, 90, 91, 92] (by decide +kernel) (by decide +kernel)
set_option maxRecDepth 20000 in
theorem gX4_callOver_X4_reckon : GoodIn wsX4_callOver (wsV RX4 99 RX4 yX4_reckon wsX4_reckon) := goodIn_app (goodIn_of _ (by decide +kernel)) ggX4_callOver_X4_reckon
set_option maxRecDepth 20000 in
theorem ggX4_callOver_X1_gives : GoodIn wsX4_callOver wsX1_gives := goodIn_r _ [55, 14, 90] (by decide +kernel) (by decide +kernel)
set_option maxRecDepth 20000 in
theorem gX4_callOver_X1_gives : GoodIn wsX4_callOver (wsV RX4 103 RX1 yX1_gives wsX1_gives) := goodIn_app (goodIn_of _ (by decide +kernel)) ggX4_callOver_X1_gives
theorem dX4_callOver_0 : decode cX4_callOver 0 = .ok (.aload_n 0, 1) := by decide +kernel
theorem dX4_callOver_1 : decode cX4_callOver 1 = .ok (.dup, 1) := by decide +kernel
theorem dX4_callOver_2 : decode cX4_callOver 2 = .ok (.getfield 39, 3) := by decide +kernel
theorem dX4_callOver_5 : decode cX4_callOver 5 = .ok (.iconst 1, 1) := by decide +kernel
theorem dX4_callOver_6 : decode cX4_callOver 6 = .ok (.iadd, 1) := by decide +kernel
theorem dX4_callOver_7 : decode cX4_callOver 7 = .ok (.putfield 39, 3) := by decide +kernel
theorem dX4_callOver_10 : decode cX4_callOver 10 = .ok (.aload_n 0, 1) := by decide +kernel
theorem dX4_callOver_11 : decode cX4_callOver 11 = .ok (.iload_n 2, 1) := by decide +kernel
theorem dX4_callOver_12 : decode cX4_callOver 12 = .ok (.iconst 5, 1) := by decide +kernel
theorem dX4_callOver_13 : decode cX4_callOver 13 = .ok (.invokevirtual 86, 3) := by decide +kernel
theorem dX4_callOver_16 : decode cX4_callOver 16 = .ok (.aload_n 0, 1) := by decide +kernel
theorem dX4_callOver_17 : decode cX4_callOver 17 = .ok (.getfield 12, 3) := by decide +kernel
theorem dX4_callOver_20 : decode cX4_callOver 20 = .ok (.iload_n 1, 1) := by decide +kernel
theorem dX4_callOver_21 : decode cX4_callOver 21 = .ok (.iload_n 2, 1) := by decide +kernel
theorem dX4_callOver_22 : decode cX4_callOver 22 = .ok (.invokevirtual 89, 3) := by decide +kernel
theorem dX4_callOver_25 : decode cX4_callOver 25 = .ok (.istore 5, 2) := by decide +kernel
theorem dX4_callOver_27 : decode cX4_callOver 27 = .ok (.aload_n 0, 1) := by decide +kernel
theorem dX4_callOver_28 : decode cX4_callOver 28 = .ok (.getfield 12, 3) := by decide +kernel
theorem dX4_callOver_31 : decode cX4_callOver 31 = .ok (.sipush (-10001), 3) := by decide +kernel
theorem dX4_callOver_34 : decode cX4_callOver 34 = .ok (.iload_n 2, 1) := by decide +kernel
theorem dX4_callOver_35 : decode cX4_callOver 35 = .ok (.invokevirtual 89, 3) := by decide +kernel
theorem dX4_callOver_38 : decode cX4_callOver 38 = .ok (.istore 6, 2) := by decide +kernel
theorem dX4_callOver_40 : decode cX4_callOver 40 = .ok (.iload 5, 2) := by decide +kernel
theorem dX4_callOver_42 : decode cX4_callOver 42 = .ok (.sipush (-10000), 3) := by decide +kernel
theorem dX4_callOver_45 : decode cX4_callOver 45 = .ok (.if_icmp .eq 25, 3) := by decide +kernel
theorem dX4_callOver_48 : decode cX4_callOver 48 = .ok (.aload_n 0, 1) := by decide +kernel
theorem dX4_callOver_49 : decode cX4_callOver 49 = .ok (.getfield 12, 3) := by decide +kernel
theorem dX4_callOver_52 : decode cX4_callOver 52 = .ok (.iload 5, 2) := by decide +kernel
theorem dX4_callOver_54 : decode cX4_callOver 54 = .ok (.iload_n 3, 1) := by decide +kernel
theorem dX4_callOver_55 : decode cX4_callOver 55 = .ok (.invokevirtual 92, 3) := by decide +kernel
theorem dX4_callOver_58 : decode cX4_callOver 58 = .ok (.ifCond .ne 12, 3) := by decide +kernel
theorem dX4_callOver_61 : decode cX4_callOver 61 = .ok (.aload_n 0, 1) := by decide +kernel
theorem dX4_callOver_62 : decode cX4_callOver 62 = .ok (.iconst 1, 1) := by decide +kernel
theorem dX4_callOver_63 : decode cX4_callOver 63 = .ok (.iload_n 1, 1) := by decide +kernel
theorem dX4_callOver_64 : decode cX4_callOver 64 = .ok (.iload_n 2, 1) := by decide +kernel
theorem dX4_callOver_65 : decode cX4_callOver 65 = .ok (.iload_n 3, 1) := by decide +kernel
theorem dX4_callOver_66 : decode cX4_callOver 66 = .ok (.invokevirtual 96, 3) := by decide +kernel
theorem dX4_callOver_69 : decode cX4_callOver 69 = .ok (.ireturn, 1) := by decide +kernel
theorem dX4_callOver_70 : decode cX4_callOver 70 = .ok (.iload 6, 2) := by decide +kernel
theorem dX4_callOver_72 : decode cX4_callOver 72 = .ok (.sipush (-10000), 3) := by decide +kernel
theorem dX4_callOver_75 : decode cX4_callOver 75 = .ok (.if_icmp .eq 37, 3) := by decide +kernel
theorem dX4_callOver_78 : decode cX4_callOver 78 = .ok (.aload_n 0, 1) := by decide +kernel
theorem dX4_callOver_79 : decode cX4_callOver 79 = .ok (.getfield 12, 3) := by decide +kernel
theorem dX4_callOver_82 : decode cX4_callOver 82 = .ok (.iload 6, 2) := by decide +kernel
theorem dX4_callOver_84 : decode cX4_callOver 84 = .ok (.iload_n 3, 1) := by decide +kernel
theorem dX4_callOver_85 : decode cX4_callOver 85 = .ok (.invokevirtual 92, 3) := by decide +kernel
theorem dX4_callOver_88 : decode cX4_callOver 88 = .ok (.ifCond .ne 24, 3) := by decide +kernel
theorem dX4_callOver_91 : decode cX4_callOver 91 = .ok (.aload_n 0, 1) := by decide +kernel
theorem dX4_callOver_92 : decode cX4_callOver 92 = .ok (.iload 5, 2) := by decide +kernel
theorem dX4_callOver_94 : decode cX4_callOver 94 = .ok (.sipush (-10000), 3) := by decide +kernel
theorem dX4_callOver_97 : decode cX4_callOver 97 = .ok (.if_icmp .eq 7, 3) := by decide +kernel
theorem dX4_callOver_100 : decode cX4_callOver 100 = .ok (.iconst 3, 1) := by decide +kernel
theorem dX4_callOver_101 : decode cX4_callOver 101 = .ok (.goto 4, 3) := by decide +kernel
theorem dX4_callOver_104 : decode cX4_callOver 104 = .ok (.iconst 1, 1) := by decide +kernel
theorem dX4_callOver_105 : decode cX4_callOver 105 = .ok (.iload_n 1, 1) := by decide +kernel
theorem dX4_callOver_106 : decode cX4_callOver 106 = .ok (.iload_n 2, 1) := by decide +kernel
theorem dX4_callOver_107 : decode cX4_callOver 107 = .ok (.iload_n 3, 1) := by decide +kernel
theorem dX4_callOver_108 : decode cX4_callOver 108 = .ok (.invokevirtual 96, 3) := by decide +kernel
theorem dX4_callOver_111 : decode cX4_callOver 111 = .ok (.ireturn, 1) := by decide +kernel
theorem dX4_callOver_112 : decode cX4_callOver 112 = .ok (.aload_n 0, 1) := by decide +kernel
theorem dX4_callOver_113 : decode cX4_callOver 113 = .ok (.iload_n 2, 1) := by decide +kernel
theorem dX4_callOver_114 : decode cX4_callOver 114 = .ok (.iload_n 3, 1) := by decide +kernel
theorem dX4_callOver_115 : decode cX4_callOver 115 = .ok (.iload 4, 2) := by decide +kernel
theorem dX4_callOver_117 : decode cX4_callOver 117 = .ok (.invokevirtual 99, 3) := by decide +kernel
theorem dX4_callOver_120 : decode cX4_callOver 120 = .ok (.istore 7, 2) := by decide +kernel
theorem dX4_callOver_122 : decode cX4_callOver 122 = .ok (.iload 7, 2) := by decide +kernel
theorem dX4_callOver_124 : decode cX4_callOver 124 = .ok (.sipush (-10000), 3) := by decide +kernel
theorem dX4_callOver_127 : decode cX4_callOver 127 = .ok (.if_icmp .ne 7, 3) := by decide +kernel
theorem dX4_callOver_130 : decode cX4_callOver 130 = .ok (.sipush (-10000), 3) := by decide +kernel
theorem dX4_callOver_133 : decode cX4_callOver 133 = .ok (.ireturn, 1) := by decide +kernel
theorem dX4_callOver_134 : decode cX4_callOver 134 = .ok (.iload 6, 2) := by decide +kernel
theorem dX4_callOver_136 : decode cX4_callOver 136 = .ok (.sipush (-10000), 3) := by decide +kernel
theorem dX4_callOver_139 : decode cX4_callOver 139 = .ok (.if_icmp .eq 27, 3) := by decide +kernel
theorem dX4_callOver_142 : decode cX4_callOver 142 = .ok (.aload_n 0, 1) := by decide +kernel
theorem dX4_callOver_143 : decode cX4_callOver 143 = .ok (.getfield 12, 3) := by decide +kernel
theorem dX4_callOver_146 : decode cX4_callOver 146 = .ok (.iload 6, 2) := by decide +kernel
theorem dX4_callOver_148 : decode cX4_callOver 148 = .ok (.iload 7, 2) := by decide +kernel
theorem dX4_callOver_150 : decode cX4_callOver 150 = .ok (.invokevirtual 103, 3) := by decide +kernel
theorem dX4_callOver_153 : decode cX4_callOver 153 = .ok (.ifCond .ne 13, 3) := by decide +kernel
theorem dX4_callOver_156 : decode cX4_callOver 156 = .ok (.aload_n 0, 1) := by decide +kernel
theorem dX4_callOver_157 : decode cX4_callOver 157 = .ok (.iconst 2, 1) := by decide +kernel
theorem dX4_callOver_158 : decode cX4_callOver 158 = .ok (.iload_n 1, 1) := by decide +kernel
theorem dX4_callOver_159 : decode cX4_callOver 159 = .ok (.iload_n 2, 1) := by decide +kernel
theorem dX4_callOver_160 : decode cX4_callOver 160 = .ok (.iload 7, 2) := by decide +kernel
theorem dX4_callOver_162 : decode cX4_callOver 162 = .ok (.invokevirtual 96, 3) := by decide +kernel
theorem dX4_callOver_165 : decode cX4_callOver 165 = .ok (.ireturn, 1) := by decide +kernel
theorem dX4_callOver_166 : decode cX4_callOver 166 = .ok (.iload 5, 2) := by decide +kernel
theorem dX4_callOver_168 : decode cX4_callOver 168 = .ok (.sipush (-10000), 3) := by decide +kernel
theorem dX4_callOver_171 : decode cX4_callOver 171 = .ok (.if_icmp .eq 39, 3) := by decide +kernel
theorem dX4_callOver_174 : decode cX4_callOver 174 = .ok (.aload_n 0, 1) := by decide +kernel
theorem dX4_callOver_175 : decode cX4_callOver 175 = .ok (.getfield 12, 3) := by decide +kernel
theorem dX4_callOver_178 : decode cX4_callOver 178 = .ok (.iload 5, 2) := by decide +kernel
theorem dX4_callOver_180 : decode cX4_callOver 180 = .ok (.iload 7, 2) := by decide +kernel
theorem dX4_callOver_182 : decode cX4_callOver 182 = .ok (.invokevirtual 103, 3) := by decide +kernel
theorem dX4_callOver_185 : decode cX4_callOver 185 = .ok (.ifCond .ne 25, 3) := by decide +kernel
theorem dX4_callOver_188 : decode cX4_callOver 188 = .ok (.aload_n 0, 1) := by decide +kernel
theorem dX4_callOver_189 : decode cX4_callOver 189 = .ok (.iload 6, 2) := by decide +kernel
theorem dX4_callOver_191 : decode cX4_callOver 191 = .ok (.sipush (-10000), 3) := by decide +kernel
theorem dX4_callOver_194 : decode cX4_callOver 194 = .ok (.if_icmp .eq 7, 3) := by decide +kernel
theorem dX4_callOver_197 : decode cX4_callOver 197 = .ok (.iconst 3, 1) := by decide +kernel
theorem dX4_callOver_198 : decode cX4_callOver 198 = .ok (.goto 4, 3) := by decide +kernel
theorem dX4_callOver_201 : decode cX4_callOver 201 = .ok (.iconst 2, 1) := by decide +kernel
theorem dX4_callOver_202 : decode cX4_callOver 202 = .ok (.iload_n 1, 1) := by decide +kernel
theorem dX4_callOver_203 : decode cX4_callOver 203 = .ok (.iload_n 2, 1) := by decide +kernel
theorem dX4_callOver_204 : decode cX4_callOver 204 = .ok (.iload 7, 2) := by decide +kernel
theorem dX4_callOver_206 : decode cX4_callOver 206 = .ok (.invokevirtual 96, 3) := by decide +kernel
theorem dX4_callOver_209 : decode cX4_callOver 209 = .ok (.ireturn, 1) := by decide +kernel
theorem dX4_callOver_210 : decode cX4_callOver 210 = .ok (.iload 7, 2) := by decide +kernel
theorem dX4_callOver_212 : decode cX4_callOver 212 = .ok (.ireturn, 1) := by decide +kernel
set_option maxRecDepth 20000 in
theorem ggX4_reckon_X4_ofPart : GoodIn wsX4_reckon wsX4_ofPart := goodIn_r _ [12, 13, 81, 82, 83, 84, 85, 86, 87, 88, 89] (by decide +kernel) (by decide +kernel)
set_option maxRecDepth 20000 in
theorem gX4_reckon_X4_ofPart : GoodIn wsX4_reckon (wsV RX4 78 RX4 yX4_ofPart wsX4_ofPart) := goodIn_app (goodIn_of _ (by decide +kernel)) ggX4_reckon_X4_ofPart
set_option maxRecDepth 20000 in
theorem ggX4_reckon_X4_callOver : GoodIn wsX4_reckon wsX4_callOver := goodIn_r _ [37, 38, 39, 33, 34, 35, 11, 36, 13, 40, 41, 42, 43, 44, 45, 46, 47, 48, 49, 50, 51, 52, 53, 54, 55, 56, 57, 58, 59, 60, 21, 61, 62, 63, 26, 64, 28, 65, 66, 67, 68, 69, 70, 2, 3, 4, 71, 72, 73, 74, 75, 76, 77, 78, 79, 80, 0, 1, 5, 6, 7, 8, 9, 10, 12, 14, 15, 16, 17, 18, 19, 20, 22, 23, 24, 25, 27, 29, 30, 31, 32, 81, 82, 83, 84, 85, 86, 87, 88, 89, 90, 91, 92] (by decide +kernel) (by decide +kernel)
set_option maxRecDepth 20000 in
theorem gX4_reckon_X4_callOver : GoodIn wsX4_reckon (wsV RX4 82 RX4 yX4_callOver wsX4_callOver) := goodIn_app (goodIn_of _ (by decide +kernel)) ggX4_reckon_X4_callOver
set_option maxRecDepth 20000 in
theorem ggX4_reckon_X4_afterBlame : GoodIn wsX4_reckon wsX4_afterBlame := goodIn_r _ [20, 21, 22, 8, 9, 10, 11, 12, 13, 23, 24, 25, 26, 27, 28, 29, 30, 31, 32, 33, 34, 35, 36, 81, 82, 83, 84, 85, 86, 87, 88, 89, 91, 92] (by decide +kernel) (by decide +kernel)
set_option maxRecDepth 20000 in
theorem gX4_reckon_X4_afterBlame : GoodIn wsX4_reckon (wsV RX4 106 RX4 yX4_afterBlame wsX4_afterBlame) := goodIn_app (goodIn_of _ (by decide +kernel)) ggX4_reckon_X4_afterBlame
theorem dX4_reckon_0 : decode cX4_reckon 0 = .ok (.aload_n 0, 1) := by decide +kernel
theorem dX4_reckon_1 : decode cX4_reckon 1 = .ok (.iload_n 1, 1) := by decide +kernel
theorem dX4_reckon_2 : decode cX4_reckon 2 = .ok (.iconst 2, 1) := by decide +kernel
theorem dX4_reckon_3 : decode cX4_reckon 3 = .ok (.invokevirtual 78, 3) := by decide +kernel
theorem dX4_reckon_6 : decode cX4_reckon 6 = .ok (.istore 4, 2) := by decide +kernel
theorem dX4_reckon_8 : decode cX4_reckon 8 = .ok (.iload_n 2, 1) := by decide +kernel
theorem dX4_reckon_9 : decode cX4_reckon 9 = .ok (.istore 5, 2) := by decide +kernel
theorem dX4_reckon_11 : decode cX4_reckon 11 = .ok (.iload 4, 2) := by decide +kernel
theorem dX4_reckon_13 : decode cX4_reckon 13 = .ok (.sipush (-10000), 3) := by decide +kernel
theorem dX4_reckon_16 : decode cX4_reckon 16 = .ok (.if_icmp .eq 43, 3) := by decide +kernel
theorem dX4_reckon_19 : decode cX4_reckon 19 = .ok (.iload_n 3, 1) := by decide +kernel
theorem dX4_reckon_20 : decode cX4_reckon 20 = .ok (.bipush 10, 2) := by decide +kernel
theorem dX4_reckon_22 : decode cX4_reckon 22 = .ok (.if_icmp .ge 37, 3) := by decide +kernel
theorem dX4_reckon_25 : decode cX4_reckon 25 = .ok (.aload_n 0, 1) := by decide +kernel
theorem dX4_reckon_26 : decode cX4_reckon 26 = .ok (.iload_n 1, 1) := by decide +kernel
theorem dX4_reckon_27 : decode cX4_reckon 27 = .ok (.iload 4, 2) := by decide +kernel
theorem dX4_reckon_29 : decode cX4_reckon 29 = .ok (.iload_n 2, 1) := by decide +kernel
theorem dX4_reckon_30 : decode cX4_reckon 30 = .ok (.aload_n 0, 1) := by decide +kernel
theorem dX4_reckon_31 : decode cX4_reckon 31 = .ok (.iload_n 1, 1) := by decide +kernel
theorem dX4_reckon_32 : decode cX4_reckon 32 = .ok (.iconst 3, 1) := by decide +kernel
theorem dX4_reckon_33 : decode cX4_reckon 33 = .ok (.invokevirtual 78, 3) := by decide +kernel
theorem dX4_reckon_36 : decode cX4_reckon 36 = .ok (.iadd, 1) := by decide +kernel
theorem dX4_reckon_37 : decode cX4_reckon 37 = .ok (.iload_n 3, 1) := by decide +kernel
theorem dX4_reckon_38 : decode cX4_reckon 38 = .ok (.iconst 1, 1) := by decide +kernel
theorem dX4_reckon_39 : decode cX4_reckon 39 = .ok (.iadd, 1) := by decide +kernel
theorem dX4_reckon_40 : decode cX4_reckon 40 = .ok (.invokevirtual 82, 3) := by decide +kernel
theorem dX4_reckon_43 : decode cX4_reckon 43 = .ok (.istore 5, 2) := by decide +kernel
theorem dX4_reckon_45 : decode cX4_reckon 45 = .ok (.iload 5, 2) := by decide +kernel
theorem dX4_reckon_47 : decode cX4_reckon 47 = .ok (.sipush (-10000), 3) := by decide +kernel
theorem dX4_reckon_50 : decode cX4_reckon 50 = .ok (.if_icmp .ne 9, 3) := by decide +kernel
theorem dX4_reckon_53 : decode cX4_reckon 53 = .ok (.aload_n 0, 1) := by decide +kernel
theorem dX4_reckon_54 : decode cX4_reckon 54 = .ok (.iload_n 1, 1) := by decide +kernel
theorem dX4_reckon_55 : decode cX4_reckon 55 = .ok (.invokevirtual 106, 3) := by decide +kernel
theorem dX4_reckon_58 : decode cX4_reckon 58 = .ok (.ireturn, 1) := by decide +kernel
theorem dX4_reckon_59 : decode cX4_reckon 59 = .ok (.aload_n 0, 1) := by decide +kernel
theorem dX4_reckon_60 : decode cX4_reckon 60 = .ok (.iload_n 1, 1) := by decide +kernel
theorem dX4_reckon_61 : decode cX4_reckon 61 = .ok (.iconst 0, 1) := by decide +kernel
theorem dX4_reckon_62 : decode cX4_reckon 62 = .ok (.invokevirtual 78, 3) := by decide +kernel
theorem dX4_reckon_65 : decode cX4_reckon 65 = .ok (.iload 5, 2) := by decide +kernel
theorem dX4_reckon_67 : decode cX4_reckon 67 = .ok (.imul, 1) := by decide +kernel
theorem dX4_reckon_68 : decode cX4_reckon 68 = .ok (.aload_n 0, 1) := by decide +kernel
theorem dX4_reckon_69 : decode cX4_reckon 69 = .ok (.iload_n 1, 1) := by decide +kernel
theorem dX4_reckon_70 : decode cX4_reckon 70 = .ok (.iconst 1, 1) := by decide +kernel
theorem dX4_reckon_71 : decode cX4_reckon 71 = .ok (.invokevirtual 78, 3) := by decide +kernel
theorem dX4_reckon_74 : decode cX4_reckon 74 = .ok (.iadd, 1) := by decide +kernel
theorem dX4_reckon_75 : decode cX4_reckon 75 = .ok (.istore 6, 2) := by decide +kernel
theorem dX4_reckon_77 : decode cX4_reckon 77 = .ok (.sipush (-9999), 3) := by decide +kernel
theorem dX4_reckon_80 : decode cX4_reckon 80 = .ok (.sipush 9999, 3) := by decide +kernel
theorem dX4_reckon_83 : decode cX4_reckon 83 = .ok (.iload 6, 2) := by decide +kernel
theorem dX4_reckon_85 : decode cX4_reckon 85 = .ok (.invokestatic 110, 3) := by decide +kernel
theorem dX4_reckon_88 : decode cX4_reckon 88 = .ok (.invokestatic 115, 3) := by decide +kernel
theorem dX4_reckon_91 : decode cX4_reckon 91 = .ok (.ireturn, 1) := by decide +kernel
set_option maxRecDepth 20000 in
theorem ggX4_afterBlame_X4_ofPart : GoodIn wsX4_afterBlame wsX4_ofPart := goodIn_r _ [7, 8, 23, 24, 25, 26, 27, 28, 29, 30, 31] (by decide +kernel) (by decide +kernel)
set_option maxRecDepth 20000 in
theorem gX4_afterBlame_X4_ofPart : GoodIn wsX4_afterBlame (wsV RX4 78 RX4 yX4_ofPart wsX4_ofPart) := goodIn_app (goodIn_of _ (by decide +kernel)) ggX4_afterBlame_X4_ofPart
set_option maxRecDepth 20000 in
theorem ggX4_afterBlame_X0_goHigher : GoodIn wsX4_afterBlame wsX0_goHigher := goodIn_r _ [13, 14, 32, 33] (by decide +kernel) (by decide +kernel)
set_option maxRecDepth 20000 in
theorem gX4_afterBlame_X0_goHigher : GoodIn wsX4_afterBlame (wsV RX4 118 RX0 yX0_goHigher wsX0_goHigher) := goodIn_app (goodIn_of _ (by decide +kernel)) ggX4_afterBlame_X0_goHigher
set_option maxRecDepth 20000 in
theorem ggX4_afterBlame_X0_markCaught : GoodIn wsX4_afterBlame wsX0_markCaught := goodIn_r _ [18, 14, 32, 33] (by decide +kernel) (by decide +kernel)
set_option maxRecDepth 20000 in
theorem gX4_afterBlame_X0_markCaught : GoodIn wsX4_afterBlame (wsV RX4 121 RX0 yX0_markCaught wsX0_markCaught) := goodIn_app (goodIn_of _ (by decide +kernel)) ggX4_afterBlame_X0_markCaught
set_option maxRecDepth 20000 in
theorem ggX4_afterBlame_X4_countOne : GoodIn wsX4_afterBlame wsX4_countOne := goodIn_r _ [22, 8, 23, 24, 25, 26, 27, 28, 29, 30, 31] (by decide +kernel) (by decide +kernel)
set_option maxRecDepth 20000 in
theorem gX4_afterBlame_X4_countOne : GoodIn wsX4_afterBlame (wsV RX4 86 RX4 yX4_countOne wsX4_countOne) := goodIn_app (goodIn_of _ (by decide +kernel)) ggX4_afterBlame_X4_countOne
theorem dX4_afterBlame_0 : decode cX4_afterBlame 0 = .ok (.aload_n 0, 1) := by decide +kernel
theorem dX4_afterBlame_1 : decode cX4_afterBlame 1 = .ok (.iload_n 1, 1) := by decide +kernel
theorem dX4_afterBlame_2 : decode cX4_afterBlame 2 = .ok (.iconst 4, 1) := by decide +kernel
theorem dX4_afterBlame_3 : decode cX4_afterBlame 3 = .ok (.invokevirtual 78, 3) := by decide +kernel
theorem dX4_afterBlame_6 : decode cX4_afterBlame 6 = .ok (.istore_n 2, 1) := by decide +kernel
theorem dX4_afterBlame_7 : decode cX4_afterBlame 7 = .ok (.iload_n 2, 1) := by decide +kernel
theorem dX4_afterBlame_8 : decode cX4_afterBlame 8 = .ok (.sipush (-10000), 3) := by decide +kernel
theorem dX4_afterBlame_11 : decode cX4_afterBlame 11 = .ok (.if_icmp .ne 13, 3) := by decide +kernel
theorem dX4_afterBlame_14 : decode cX4_afterBlame 14 = .ok (.aload_n 0, 1) := by decide +kernel
theorem dX4_afterBlame_15 : decode cX4_afterBlame 15 = .ok (.getfield 21, 3) := by decide +kernel
theorem dX4_afterBlame_18 : decode cX4_afterBlame 18 = .ok (.invokevirtual 118, 3) := by decide +kernel
theorem dX4_afterBlame_21 : decode cX4_afterBlame 21 = .ok (.goto 27, 3) := by decide +kernel
theorem dX4_afterBlame_24 : decode cX4_afterBlame 24 = .ok (.aload_n 0, 1) := by decide +kernel
theorem dX4_afterBlame_25 : decode cX4_afterBlame 25 = .ok (.getfield 21, 3) := by decide +kernel
theorem dX4_afterBlame_28 : decode cX4_afterBlame 28 = .ok (.invokevirtual 121, 3) := by decide +kernel
theorem dX4_afterBlame_31 : decode cX4_afterBlame 31 = .ok (.aload_n 0, 1) := by decide +kernel
theorem dX4_afterBlame_32 : decode cX4_afterBlame 32 = .ok (.iload_n 1, 1) := by decide +kernel
theorem dX4_afterBlame_33 : decode cX4_afterBlame 33 = .ok (.bipush 7, 2) := by decide +kernel
theorem dX4_afterBlame_35 : decode cX4_afterBlame 35 = .ok (.invokevirtual 86, 3) := by decide +kernel
theorem dX4_afterBlame_38 : decode cX4_afterBlame 38 = .ok (.aload_n 0, 1) := by decide +kernel
theorem dX4_afterBlame_39 : decode cX4_afterBlame 39 = .ok (.dup, 1) := by decide +kernel
theorem dX4_afterBlame_40 : decode cX4_afterBlame 40 = .ok (.getfield 51, 3) := by decide +kernel
theorem dX4_afterBlame_43 : decode cX4_afterBlame 43 = .ok (.iconst 1, 1) := by decide +kernel
theorem dX4_afterBlame_44 : decode cX4_afterBlame 44 = .ok (.iadd, 1) := by decide +kernel
theorem dX4_afterBlame_45 : decode cX4_afterBlame 45 = .ok (.putfield 51, 3) := by decide +kernel
theorem dX4_afterBlame_48 : decode cX4_afterBlame 48 = .ok (.iload_n 2, 1) := by decide +kernel
theorem dX4_afterBlame_49 : decode cX4_afterBlame 49 = .ok (.ireturn, 1) := by decide +kernel
set_option maxRecDepth 20000 in
theorem ggX4_accuse_X0_arise : GoodIn wsX4_accuse wsX0_arise := goodIn_r _ [7, 8, 9, 10, 11, 12, 13, 14, 15, 16, 17, 36, 37] (by decide +kernel) (by decide +kernel)
set_option maxRecDepth 20000 in
theorem gX4_accuse_X0_arise : GoodIn wsX4_accuse (wsV RX4 124 RX0 yX0_arise wsX0_arise) := goodIn_app (goodIn_of _ (by decide +kernel)) ggX4_accuse_X0_arise
set_option maxRecDepth 20000 in
theorem ggX4_accuse_X0_blamedPart : GoodIn wsX4_accuse wsX0_blamedPart := goodIn_r _ [20] (by decide +kernel) (by decide +kernel)
set_option maxRecDepth 20000 in
theorem gX4_accuse_X0_blamedPart : GoodIn wsX4_accuse (va_wsS RX4 128 yX0_blamedPart wsX0_blamedPart) := goodIn_app (goodIn_of _ (by decide +kernel)) ggX4_accuse_X0_blamedPart
set_option maxRecDepth 20000 in
theorem ggX4_accuse_X4_countOne : GoodIn wsX4_accuse wsX4_countOne := goodIn_r _ [25, 26, 27, 28, 29, 30, 31, 32, 33, 34, 35] (by decide +kernel) (by decide +kernel)
set_option maxRecDepth 20000 in
theorem gX4_accuse_X4_countOne : GoodIn wsX4_accuse (wsV RX4 86 RX4 yX4_countOne wsX4_countOne) := goodIn_app (goodIn_of _ (by decide +kernel)) ggX4_accuse_X4_countOne
theorem dX4_accuse_0 : decode cX4_accuse 0 = .ok (.aload_n 0, 1) := by decide +kernel
theorem dX4_accuse_1 : decode cX4_accuse 1 = .ok (.dup, 1) := by decide +kernel
theorem dX4_accuse_2 : decode cX4_accuse 2 = .ok (.getfield 45, 3) := by decide +kernel
theorem dX4_accuse_5 : decode cX4_accuse 5 = .ok (.iconst 1, 1) := by decide +kernel
theorem dX4_accuse_6 : decode cX4_accuse 6 = .ok (.iadd, 1) := by decide +kernel
theorem dX4_accuse_7 : decode cX4_accuse 7 = .ok (.putfield 45, 3) := by decide +kernel
theorem dX4_accuse_10 : decode cX4_accuse 10 = .ok (.aload_n 0, 1) := by decide +kernel
theorem dX4_accuse_11 : decode cX4_accuse 11 = .ok (.getfield 21, 3) := by decide +kernel
theorem dX4_accuse_14 : decode cX4_accuse 14 = .ok (.iload_n 1, 1) := by decide +kernel
theorem dX4_accuse_15 : decode cX4_accuse 15 = .ok (.iload_n 2, 1) := by decide +kernel
theorem dX4_accuse_16 : decode cX4_accuse 16 = .ok (.iload_n 3, 1) := by decide +kernel
theorem dX4_accuse_17 : decode cX4_accuse 17 = .ok (.iload 4, 2) := by decide +kernel
theorem dX4_accuse_19 : decode cX4_accuse 19 = .ok (.invokevirtual 124, 3) := by decide +kernel
theorem dX4_accuse_22 : decode cX4_accuse 22 = .ok (.iload_n 1, 1) := by decide +kernel
theorem dX4_accuse_23 : decode cX4_accuse 23 = .ok (.iload_n 2, 1) := by decide +kernel
theorem dX4_accuse_24 : decode cX4_accuse 24 = .ok (.iload_n 3, 1) := by decide +kernel
theorem dX4_accuse_25 : decode cX4_accuse 25 = .ok (.invokestatic 128, 3) := by decide +kernel
theorem dX4_accuse_28 : decode cX4_accuse 28 = .ok (.istore 5, 2) := by decide +kernel
theorem dX4_accuse_30 : decode cX4_accuse 30 = .ok (.iload 5, 2) := by decide +kernel
theorem dX4_accuse_32 : decode cX4_accuse 32 = .ok (.sipush (-10000), 3) := by decide +kernel
theorem dX4_accuse_35 : decode cX4_accuse 35 = .ok (.if_icmp .eq 11, 3) := by decide +kernel
theorem dX4_accuse_38 : decode cX4_accuse 38 = .ok (.aload_n 0, 1) := by decide +kernel
theorem dX4_accuse_39 : decode cX4_accuse 39 = .ok (.iload 5, 2) := by decide +kernel
theorem dX4_accuse_41 : decode cX4_accuse 41 = .ok (.bipush 6, 2) := by decide +kernel
theorem dX4_accuse_43 : decode cX4_accuse 43 = .ok (.invokevirtual 86, 3) := by decide +kernel
theorem dX4_accuse_46 : decode cX4_accuse 46 = .ok (.sipush (-10000), 3) := by decide +kernel
theorem dX4_accuse_49 : decode cX4_accuse 49 = .ok (.ireturn, 1) := by decide +kernel
theorem dX4_countOne_0 : decode cX4_countOne 0 = .ok (.iload_n 1, 1) := by decide +kernel
theorem dX4_countOne_1 : decode cX4_countOne 1 = .ok (.ifCond .lt 24, 3) := by decide +kernel
theorem dX4_countOne_4 : decode cX4_countOne 4 = .ok (.iload_n 1, 1) := by decide +kernel
theorem dX4_countOne_5 : decode cX4_countOne 5 = .ok (.bipush 10, 2) := by decide +kernel
theorem dX4_countOne_7 : decode cX4_countOne 7 = .ok (.if_icmp .ge 18, 3) := by decide +kernel
theorem dX4_countOne_10 : decode cX4_countOne 10 = .ok (.aload_n 0, 1) := by decide +kernel
theorem dX4_countOne_11 : decode cX4_countOne 11 = .ok (.getfield 25, 3) := by decide +kernel
theorem dX4_countOne_14 : decode cX4_countOne 14 = .ok (.iload_n 1, 1) := by decide +kernel
theorem dX4_countOne_15 : decode cX4_countOne 15 = .ok (.bipush 8, 2) := by decide +kernel
theorem dX4_countOne_17 : decode cX4_countOne 17 = .ok (.imul, 1) := by decide +kernel
theorem dX4_countOne_18 : decode cX4_countOne 18 = .ok (.iload_n 2, 1) := by decide +kernel
theorem dX4_countOne_19 : decode cX4_countOne 19 = .ok (.iadd, 1) := by decide +kernel
theorem dX4_countOne_20 : decode cX4_countOne 20 = .ok (.dup2, 1) := by decide +kernel
theorem dX4_countOne_21 : decode cX4_countOne 21 = .ok (.iaload, 1) := by decide +kernel
theorem dX4_countOne_22 : decode cX4_countOne 22 = .ok (.iconst 1, 1) := by decide +kernel
theorem dX4_countOne_23 : decode cX4_countOne 23 = .ok (.iadd, 1) := by decide +kernel
theorem dX4_countOne_24 : decode cX4_countOne 24 = .ok (.iastore, 1) := by decide +kernel
theorem dX4_countOne_25 : decode cX4_countOne 25 = .ok (.return_, 1) := by decide +kernel
theorem dX4_setNumber_0 : decode cX4_setNumber 0 = .ok (.iload_n 1, 1) := by decide +kernel
theorem dX4_setNumber_1 : decode cX4_setNumber 1 = .ok (.ifCond .lt 21, 3) := by decide +kernel
theorem dX4_setNumber_4 : decode cX4_setNumber 4 = .ok (.iload_n 1, 1) := by decide +kernel
theorem dX4_setNumber_5 : decode cX4_setNumber 5 = .ok (.bipush 10, 2) := by decide +kernel
theorem dX4_setNumber_7 : decode cX4_setNumber 7 = .ok (.if_icmp .ge 15, 3) := by decide +kernel
theorem dX4_setNumber_10 : decode cX4_setNumber 10 = .ok (.aload_n 0, 1) := by decide +kernel
theorem dX4_setNumber_11 : decode cX4_setNumber 11 = .ok (.getfield 25, 3) := by decide +kernel
theorem dX4_setNumber_14 : decode cX4_setNumber 14 = .ok (.iload_n 1, 1) := by decide +kernel
theorem dX4_setNumber_15 : decode cX4_setNumber 15 = .ok (.bipush 8, 2) := by decide +kernel
theorem dX4_setNumber_17 : decode cX4_setNumber 17 = .ok (.imul, 1) := by decide +kernel
theorem dX4_setNumber_18 : decode cX4_setNumber 18 = .ok (.iload_n 2, 1) := by decide +kernel
theorem dX4_setNumber_19 : decode cX4_setNumber 19 = .ok (.iadd, 1) := by decide +kernel
theorem dX4_setNumber_20 : decode cX4_setNumber 20 = .ok (.iload_n 3, 1) := by decide +kernel
theorem dX4_setNumber_21 : decode cX4_setNumber 21 = .ok (.iastore, 1) := by decide +kernel
theorem dX4_setNumber_22 : decode cX4_setNumber 22 = .ok (.return_, 1) := by decide +kernel
