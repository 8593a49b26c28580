theorem dX2_init_0 : decode cX2_init 0 = .ok (.aload_n 0, 1) := by decide +kernel
theorem dX2_init_1 : decode cX2_init 1 = .ok (.invokespecial 3, 3) := by decide +kernel
theorem dX2_init_4 : decode cX2_init 4 = .ok (.aload_n 0, 1) := by decide +kernel
theorem dX2_init_5 : decode cX2_init 5 = .ok (.aload_n 1, 1) := by decide +kernel
theorem dX2_init_6 : decode cX2_init 6 = .ok (.putfield 9, 3) := by decide +kernel
theorem dX2_init_9 : decode cX2_init 9 = .ok (.aload_n 0, 1) := by decide +kernel
theorem dX2_init_10 : decode cX2_init 10 = .ok (.aload_n 2, 1) := by decide +kernel
theorem dX2_init_11 : decode cX2_init 11 = .ok (.putfield 15, 3) := by decide +kernel
theorem dX2_init_14 : decode cX2_init 14 = .ok (.return_, 1) := by decide +kernel
set_option maxRecDepth 20000 in
theorem ggX2_doCommands_X6_size : GoodIn wsX2_doCommands wsX6_size := goodIn_r _ [8, 9, 181, 182] (by decide +kernel) (by decide +kernel)
set_option maxRecDepth 20000 in
theorem gX2_doCommands_X6_size : GoodIn wsX2_doCommands (wsV RX2 23 RX6 yX6_size wsX6_size) := goodIn_app (goodIn_of _ (by decide +kernel)) ggX2_doCommands_X6_size
set_option maxRecDepth 20000 in
theorem ggX2_doCommands_X6_codeAt : GoodIn wsX2_doCommands wsX6_codeAt := goodIn_r _ [13, 9, 14, 181, 182] (by decide +kernel) (by decide +kernel)
set_option maxRecDepth 20000 in
theorem gX2_doCommands_X6_codeAt : GoodIn wsX2_doCommands (wsV RX2 29 RX6 yX6_codeAt wsX6_codeAt) := goodIn_app (goodIn_of _ (by decide +kernel)) ggX2_doCommands_X6_codeAt
set_option maxRecDepth 20000 in
theorem ggX2_doCommands_X2_isAdded : GoodIn wsX2_doCommands wsX2_isAdded := goodIn_r _ [19, 3, 20, 21, 22, 18, 23, 2, 1, 10, 11, 12, 7, 13, 9, 14, 24, 25, 26, 27, 28, 29, 30, 31, 32, 33, 34, 35, 36, 37, 38, 39, 40, 41, 42, 43, 44, 45, 46, 47, 48, 49, 50, 169, 170, 171, 181, 182, 172, 173, 174, 175, 176, 177, 178, 179, 180] (by decide +kernel) (by decide +kernel)
set_option maxRecDepth 20000 in
theorem gX2_doCommands_X2_isAdded : GoodIn wsX2_doCommands (wsV RX2 33 RX2 yX2_isAdded wsX2_isAdded) := goodIn_app (goodIn_of _ (by decide +kernel)) ggX2_doCommands_X2_isAdded
set_option maxRecDepth 20000 in
theorem ggX2_doCommands_X2_isChained : GoodIn wsX2_doCommands wsX2_isChained := goodIn_r _ [54, 3, 24, 25, 26, 18, 27, 2, 1, 10, 11, 12, 7, 13, 9, 14, 20, 21, 22, 23, 55, 56, 57, 31, 58, 33, 59, 60, 61, 62, 63, 44, 45, 46, 38, 39, 40, 41, 42, 169, 170, 171, 181, 182, 172, 173, 174, 175, 176, 177, 178, 179, 180] (by decide +kernel) (by decide +kernel)
set_option maxRecDepth 20000 in
theorem gX2_doCommands_X2_isChained : GoodIn wsX2_doCommands (wsV RX2 37 RX2 yX2_isChained wsX2_isChained) := goodIn_app (goodIn_of _ (by decide +kernel)) ggX2_doCommands_X2_isChained
set_option maxRecDepth 20000 in
theorem ggX2_doCommands_X2_isOwned : GoodIn wsX2_doCommands wsX2_isOwned := goodIn_r _ [67, 3, 24, 25, 26, 18, 27, 2, 1, 10, 11, 12, 7, 13, 9, 14, 20, 21, 22, 23, 55, 56, 57, 31, 58, 33, 68, 69, 70, 71, 72, 73, 74, 75, 76, 77, 78, 79, 80, 81, 82, 169, 170, 171, 172, 173, 174, 175, 176, 177, 178, 179, 180, 181, 182, 183] (by decide +kernel) (by decide +kernel)
set_option maxRecDepth 20000 in
theorem gX2_doCommands_X2_isOwned : GoodIn wsX2_doCommands (wsV RX2 40 RX2 yX2_isOwned wsX2_isOwned) := goodIn_app (goodIn_of _ (by decide +kernel)) ggX2_doCommands_X2_isOwned
set_option maxRecDepth 20000 in
theorem ggX2_doCommands_X2_isCalled : GoodIn wsX2_doCommands wsX2_isCalled := goodIn_r _ [86, 3, 20, 21, 22, 18, 23, 2, 1, 10, 11, 12, 7, 13, 9, 14, 24, 25, 26, 27, 55, 56, 57, 31, 58, 33, 87, 88, 89, 90, 91, 92, 93, 94, 95, 96, 97, 98, 99, 100, 101, 102, 42, 103, 104, 105, 74, 106, 76, 77, 78, 79, 80, 81, 82, 107, 108, 109, 110, 111, 112, 113, 114, 115, 116, 117, 118, 119, 120, 121, 122, 123, 124, 125, 126, 127, 128, 129, 130, 131, 132, 133, 134, 135, 136, 137, 138, 139, 140, 141, 142, 143, 144, 145, 146, 147, 148, 149, 150, 151, 152, 153, 154, 155, 156, 157, 158, 159, 160, 161, 162, 163, 169, 170, 171, 172, 173, 174, 175, 176, 177, 178, 179, 180, 181, 182, 183, 184, 185] (by decide +kernel) (by decide +kernel)
set_option maxRecDepth 20000 in
theorem gX2_doCommands_X2_isCalled : GoodIn wsX2_doCommands (wsV RX2 43 RX2 yX2_isCalled wsX2_isCalled) := goodIn_app (goodIn_of _ (by decide +kernel)) ggX2_doCommands_X2_isCalled
set_option maxRecDepth 20000 in
theorem ggX2_doCommands_X2_readDigit : GoodIn wsX2_doCommands wsX2_readDigit := goodIn_r _ [27, 2, 1, 10, 11, 12, 7, 13, 9, 14, 169, 170, 171, 181, 182] (by decide +kernel) (by decide +kernel)
set_option maxRecDepth 20000 in
theorem gX2_doCommands_X2_readDigit : GoodIn wsX2_doCommands (wsV RX2 52 RX2 yX2_readDigit wsX2_readDigit) := goodIn_app (goodIn_of _ (by decide +kernel)) ggX2_doCommands_X2_readDigit
set_option maxRecDepth 20000 in
theorem ggX2_doCommands_X1_remove : GoodIn wsX2_doCommands wsX1_remove := goodIn_r _ [167, 76, 168, 104, 105, 74, 106, 77, 78, 79, 80, 81, 82, 183] (by decide +kernel) (by decide +kernel)
set_option maxRecDepth 20000 in
theorem gX2_doCommands_X1_remove : GoodIn wsX2_doCommands (wsV RX2 55 RX1 yX1_remove wsX1_remove) := goodIn_app (goodIn_of _ (by decide +kernel)) ggX2_doCommands_X1_remove
theorem dX2_doCommands_0 : decode cX2_doCommands 0 = .ok (.iconst 0, 1) := by decide +kernel
theorem dX2_doCommands_1 : decode cX2_doCommands 1 = .ok (.istore_n 1, 1) := by decide +kernel
theorem dX2_doCommands_2 : decode cX2_doCommands 2 = .ok (.aload_n 0, 1) := by decide +kernel
theorem dX2_doCommands_3 : decode cX2_doCommands 3 = .ok (.iconst 1, 1) := by decide +kernel
theorem dX2_doCommands_4 : decode cX2_doCommands 4 = .ok (.putfield 19, 3) := by decide +kernel
theorem dX2_doCommands_7 : decode cX2_doCommands 7 = .ok (.aload_n 0, 1) := by decide +kernel
theorem dX2_doCommands_8 : decode cX2_doCommands 8 = .ok (.getfield 19, 3) := by decide +kernel
theorem dX2_doCommands_11 : decode cX2_doCommands 11 = .ok (.aload_n 0, 1) := by decide +kernel
theorem dX2_doCommands_12 : decode cX2_doCommands 12 = .ok (.getfield 9, 3) := by decide +kernel
theorem dX2_doCommands_15 : decode cX2_doCommands 15 = .ok (.invokevirtual 23, 3) := by decide +kernel
theorem dX2_doCommands_18 : decode cX2_doCommands 18 = .ok (.if_icmp .ge 138, 3) := by decide +kernel
theorem dX2_doCommands_21 : decode cX2_doCommands 21 = .ok (.aload_n 0, 1) := by decide +kernel
theorem dX2_doCommands_22 : decode cX2_doCommands 22 = .ok (.getfield 9, 3) := by decide +kernel
theorem dX2_doCommands_25 : decode cX2_doCommands 25 = .ok (.aload_n 0, 1) := by decide +kernel
theorem dX2_doCommands_26 : decode cX2_doCommands 26 = .ok (.getfield 19, 3) := by decide +kernel
theorem dX2_doCommands_29 : decode cX2_doCommands 29 = .ok (.invokevirtual 29, 3) := by decide +kernel
theorem dX2_doCommands_32 : decode cX2_doCommands 32 = .ok (.istore_n 2, 1) := by decide +kernel
theorem dX2_doCommands_33 : decode cX2_doCommands 33 = .ok (.aload_n 0, 1) := by decide +kernel
theorem dX2_doCommands_34 : decode cX2_doCommands 34 = .ok (.dup, 1) := by decide +kernel
theorem dX2_doCommands_35 : decode cX2_doCommands 35 = .ok (.getfield 19, 3) := by decide +kernel
theorem dX2_doCommands_38 : decode cX2_doCommands 38 = .ok (.iconst 1, 1) := by decide +kernel
theorem dX2_doCommands_39 : decode cX2_doCommands 39 = .ok (.iadd, 1) := by decide +kernel
theorem dX2_doCommands_40 : decode cX2_doCommands 40 = .ok (.putfield 19, 3) := by decide +kernel
theorem dX2_doCommands_43 : decode cX2_doCommands 43 = .ok (.iload_n 2, 1) := by decide +kernel
theorem dX2_doCommands_44 : decode cX2_doCommands 44 = .ok (.tableswitch 84 107 115 #[76, 84, 84, 52, 68, 84, 84, 84, 60], 52) := by decide +kernel
theorem dX2_doCommands_96 : decode cX2_doCommands 96 = .ok (.aload_n 0, 1) := by decide +kernel
theorem dX2_doCommands_97 : decode cX2_doCommands 97 = .ok (.invokevirtual 33, 3) := by decide +kernel
theorem dX2_doCommands_100 : decode cX2_doCommands 100 = .ok (.istore_n 3, 1) := by decide +kernel
theorem dX2_doCommands_101 : decode cX2_doCommands 101 = .ok (.goto 45, 3) := by decide +kernel
theorem dX2_doCommands_104 : decode cX2_doCommands 104 = .ok (.aload_n 0, 1) := by decide +kernel
theorem dX2_doCommands_105 : decode cX2_doCommands 105 = .ok (.invokevirtual 37, 3) := by decide +kernel
theorem dX2_doCommands_108 : decode cX2_doCommands 108 = .ok (.istore_n 3, 1) := by decide +kernel
theorem dX2_doCommands_109 : decode cX2_doCommands 109 = .ok (.goto 37, 3) := by decide +kernel
theorem dX2_doCommands_112 : decode cX2_doCommands 112 = .ok (.aload_n 0, 1) := by decide +kernel
theorem dX2_doCommands_113 : decode cX2_doCommands 113 = .ok (.invokevirtual 40, 3) := by decide +kernel
theorem dX2_doCommands_116 : decode cX2_doCommands 116 = .ok (.istore_n 3, 1) := by decide +kernel
theorem dX2_doCommands_117 : decode cX2_doCommands 117 = .ok (.goto 29, 3) := by decide +kernel
theorem dX2_doCommands_120 : decode cX2_doCommands 120 = .ok (.aload_n 0, 1) := by decide +kernel
theorem dX2_doCommands_121 : decode cX2_doCommands 121 = .ok (.invokevirtual 43, 3) := by decide +kernel
theorem dX2_doCommands_124 : decode cX2_doCommands 124 = .ok (.istore_n 3, 1) := by decide +kernel
theorem dX2_doCommands_125 : decode cX2_doCommands 125 = .ok (.goto 21, 3) := by decide +kernel
theorem dX2_doCommands_128 : decode cX2_doCommands 128 = .ok (.aload_n 0, 1) := by decide +kernel
theorem dX2_doCommands_129 : decode cX2_doCommands 129 = .ok (.getfield 15, 3) := by decide +kernel
theorem dX2_doCommands_132 : decode cX2_doCommands 132 = .ok (.getfield 46, 3) := by decide +kernel
theorem dX2_doCommands_135 : decode cX2_doCommands 135 = .ok (.sipush (-10001), 3) := by decide +kernel
theorem dX2_doCommands_138 : decode cX2_doCommands 138 = .ok (.aload_n 0, 1) := by decide +kernel
theorem dX2_doCommands_139 : decode cX2_doCommands 139 = .ok (.invokevirtual 52, 3) := by decide +kernel
theorem dX2_doCommands_142 : decode cX2_doCommands 142 = .ok (.invokevirtual 55, 3) := by decide +kernel
theorem dX2_doCommands_145 : decode cX2_doCommands 145 = .ok (.istore_n 3, 1) := by decide +kernel
theorem dX2_doCommands_146 : decode cX2_doCommands 146 = .ok (.iload_n 3, 1) := by decide +kernel
theorem dX2_doCommands_147 : decode cX2_doCommands 147 = .ok (.ifCond .ne 6, 3) := by decide +kernel
theorem dX2_doCommands_150 : decode cX2_doCommands 150 = .ok (.iinc 1 1, 3) := by decide +kernel
theorem dX2_doCommands_153 : decode cX2_doCommands 153 = .ok (.goto (-146), 3) := by decide +kernel
theorem dX2_doCommands_156 : decode cX2_doCommands 156 = .ok (.iload_n 1, 1) := by decide +kernel
theorem dX2_doCommands_157 : decode cX2_doCommands 157 = .ok (.ireturn, 1) := by decide +kernel
set_option maxRecDepth 20000 in
theorem ggX2_isAdded_X2_readSigned : GoodIn wsX2_isAdded wsX2_readSigned := goodIn_r _ [6, 7, 8, 9, 10, 11, 12, 13, 14, 15, 16, 17, 18, 5, 19, 43, 44, 45, 46, 47] (by decide +kernel) (by decide +kernel)
set_option maxRecDepth 20000 in
theorem gX2_isAdded_X2_readSigned : GoodIn wsX2_isAdded (wsV RX2 61 RX2 yX2_readSigned wsX2_readSigned) := goodIn_app (goodIn_of _ (by decide +kernel)) ggX2_isAdded_X2_readSigned
set_option maxRecDepth 20000 in
theorem ggX2_isAdded_X4_hasRoom : GoodIn wsX2_isAdded wsX4_hasRoom := goodIn_r _ [24, 25, 48, 49, 50, 51, 52, 53, 54, 55, 56] (by decide +kernel) (by decide +kernel)
set_option maxRecDepth 20000 in
theorem gX2_isAdded_X4_hasRoom : GoodIn wsX2_isAdded (wsV RX2 64 RX4 yX4_hasRoom wsX4_hasRoom) := goodIn_app (goodIn_of _ (by decide +kernel)) ggX2_isAdded_X4_hasRoom
set_option maxRecDepth 20000 in
theorem ggX2_isAdded_X4_addPart : GoodIn wsX2_isAdded wsX4_addPart := goodIn_r _ [29, 25, 30, 31, 32, 23, 33, 34, 35, 36, 37, 38, 39, 40, 41, 42, 48, 49, 50, 51, 52, 53, 54, 55, 56] (by decide +kernel) (by decide +kernel)
set_option maxRecDepth 20000 in
theorem gX2_isAdded_X4_addPart : GoodIn wsX2_isAdded (wsV RX2 67 RX4 yX4_addPart wsX4_addPart) := goodIn_app (goodIn_of _ (by decide +kernel)) ggX2_isAdded_X4_addPart
theorem dX2_isAdded_0 : decode cX2_isAdded 0 = .ok (.aload_n 0, 1) := by decide +kernel
theorem dX2_isAdded_1 : decode cX2_isAdded 1 = .ok (.invokevirtual 61, 3) := by decide +kernel
theorem dX2_isAdded_4 : decode cX2_isAdded 4 = .ok (.istore_n 1, 1) := by decide +kernel
theorem dX2_isAdded_5 : decode cX2_isAdded 5 = .ok (.aload_n 0, 1) := by decide +kernel
theorem dX2_isAdded_6 : decode cX2_isAdded 6 = .ok (.invokevirtual 61, 3) := by decide +kernel
theorem dX2_isAdded_9 : decode cX2_isAdded 9 = .ok (.istore_n 2, 1) := by decide +kernel
theorem dX2_isAdded_10 : decode cX2_isAdded 10 = .ok (.aload_n 0, 1) := by decide +kernel
theorem dX2_isAdded_11 : decode cX2_isAdded 11 = .ok (.getfield 15, 3) := by decide +kernel
theorem dX2_isAdded_14 : decode cX2_isAdded 14 = .ok (.invokevirtual 64, 3) := by decide +kernel
theorem dX2_isAdded_17 : decode cX2_isAdded 17 = .ok (.ifCond .ne 5, 3) := by decide +kernel
theorem dX2_isAdded_20 : decode cX2_isAdded 20 = .ok (.iconst 0, 1) := by decide +kernel
theorem dX2_isAdded_21 : decode cX2_isAdded 21 = .ok (.ireturn, 1) := by decide +kernel
theorem dX2_isAdded_22 : decode cX2_isAdded 22 = .ok (.aload_n 0, 1) := by decide +kernel
theorem dX2_isAdded_23 : decode cX2_isAdded 23 = .ok (.getfield 15, 3) := by decide +kernel
theorem dX2_isAdded_26 : decode cX2_isAdded 26 = .ok (.iload_n 1, 1) := by decide +kernel
theorem dX2_isAdded_27 : decode cX2_isAdded 27 = .ok (.iload_n 2, 1) := by decide +kernel
theorem dX2_isAdded_28 : decode cX2_isAdded 28 = .ok (.invokevirtual 67, 3) := by decide +kernel
theorem dX2_isAdded_31 : decode cX2_isAdded 31 = .ok (.iconst 1, 1) := by decide +kernel
theorem dX2_isAdded_32 : decode cX2_isAdded 32 = .ok (.ireturn, 1) := by decide +kernel
set_option maxRecDepth 20000 in
theorem ggX2_isChained_X2_readDigit : GoodIn wsX2_isChained wsX2_readDigit := goodIn_r _ [6, 7, 8, 9, 10, 11, 12, 13, 14, 15, 39, 40, 41, 42, 43] (by decide +kernel) (by decide +kernel)
set_option maxRecDepth 20000 in
theorem gX2_isChained_X2_readDigit : GoodIn wsX2_isChained (wsV RX2 52 RX2 yX2_readDigit wsX2_readDigit) := goodIn_app (goodIn_of _ (by decide +kernel)) ggX2_isChained_X2_readDigit
set_option maxRecDepth 20000 in
theorem ggX2_isChained_X2_readSigned : GoodIn wsX2_isChained wsX2_readSigned := goodIn_r _ [19, 7, 8, 9, 10, 11, 12, 13, 14, 15, 2, 3, 4, 5, 6, 39, 40, 41, 42, 43] (by decide +kernel) (by decide +kernel)
set_option maxRecDepth 20000 in
theorem gX2_isChained_X2_readSigned : GoodIn wsX2_isChained (wsV RX2 61 RX2 yX2_readSigned wsX2_readSigned) := goodIn_app (goodIn_of _ (by decide +kernel)) ggX2_isChained_X2_readSigned
set_option maxRecDepth 20000 in
theorem ggX2_isChained_X4_hasPart : GoodIn wsX2_isChained wsX4_hasPart := goodIn_r _ [24, 25, 44, 45, 46, 47, 48, 49, 50, 51, 52] (by decide +kernel) (by decide +kernel)
set_option maxRecDepth 20000 in
theorem gX2_isChained_X4_hasPart : GoodIn wsX2_isChained (wsV RX2 71 RX4 yX4_hasPart wsX4_hasPart) := goodIn_app (goodIn_of _ (by decide +kernel)) ggX2_isChained_X4_hasPart
set_option maxRecDepth 20000 in
theorem ggX2_isChained_X4_mayChainTo : GoodIn wsX2_isChained wsX4_mayChainTo := goodIn_r _ [29] (by decide +kernel) (by decide +kernel)
set_option maxRecDepth 20000 in
theorem gX2_isChained_X4_mayChainTo : GoodIn wsX2_isChained (wsV RX2 75 RX4 yX4_mayChainTo wsX4_mayChainTo) := goodIn_app (goodIn_of _ (by decide +kernel)) ggX2_isChained_X4_mayChainTo
set_option maxRecDepth 20000 in
theorem ggX2_isChained_X4_chainTo : GoodIn wsX2_isChained wsX4_chainTo := goodIn_r _ [33, 34, 35, 36, 23, 37, 38, 44, 45, 46, 47, 48, 49, 50, 51, 52] (by decide +kernel) (by decide +kernel)
set_option maxRecDepth 20000 in
theorem gX2_isChained_X4_chainTo : GoodIn wsX2_isChained (wsV RX2 78 RX4 yX4_chainTo wsX4_chainTo) := goodIn_app (goodIn_of _ (by decide +kernel)) ggX2_isChained_X4_chainTo
theorem dX2_isChained_0 : decode cX2_isChained 0 = .ok (.aload_n 0, 1) := by decide +kernel
theorem dX2_isChained_1 : decode cX2_isChained 1 = .ok (.invokevirtual 52, 3) := by decide +kernel
theorem dX2_isChained_4 : decode cX2_isChained 4 = .ok (.istore_n 1, 1) := by decide +kernel
theorem dX2_isChained_5 : decode cX2_isChained 5 = .ok (.aload_n 0, 1) := by decide +kernel
theorem dX2_isChained_6 : decode cX2_isChained 6 = .ok (.invokevirtual 52, 3) := by decide +kernel
theorem dX2_isChained_9 : decode cX2_isChained 9 = .ok (.istore_n 2, 1) := by decide +kernel
theorem dX2_isChained_10 : decode cX2_isChained 10 = .ok (.aload_n 0, 1) := by decide +kernel
theorem dX2_isChained_11 : decode cX2_isChained 11 = .ok (.invokevirtual 61, 3) := by decide +kernel
theorem dX2_isChained_14 : decode cX2_isChained 14 = .ok (.istore_n 3, 1) := by decide +kernel
theorem dX2_isChained_15 : decode cX2_isChained 15 = .ok (.aload_n 0, 1) := by decide +kernel
theorem dX2_isChained_16 : decode cX2_isChained 16 = .ok (.getfield 15, 3) := by decide +kernel
theorem dX2_isChained_19 : decode cX2_isChained 19 = .ok (.iload_n 1, 1) := by decide +kernel
theorem dX2_isChained_20 : decode cX2_isChained 20 = .ok (.invokevirtual 71, 3) := by decide +kernel
theorem dX2_isChained_23 : decode cX2_isChained 23 = .ok (.ifCond .eq 15, 3) := by decide +kernel
theorem dX2_isChained_26 : decode cX2_isChained 26 = .ok (.aload_n 0, 1) := by decide +kernel
theorem dX2_isChained_27 : decode cX2_isChained 27 = .ok (.getfield 15, 3) := by decide +kernel
theorem dX2_isChained_30 : decode cX2_isChained 30 = .ok (.iload_n 1, 1) := by decide +kernel
theorem dX2_isChained_31 : decode cX2_isChained 31 = .ok (.iload_n 2, 1) := by decide +kernel
theorem dX2_isChained_32 : decode cX2_isChained 32 = .ok (.invokevirtual 75, 3) := by decide +kernel
theorem dX2_isChained_35 : decode cX2_isChained 35 = .ok (.ifCond .ne 5, 3) := by decide +kernel
theorem dX2_isChained_38 : decode cX2_isChained 38 = .ok (.iconst 0, 1) := by decide +kernel
theorem dX2_isChained_39 : decode cX2_isChained 39 = .ok (.ireturn, 1) := by decide +kernel
theorem dX2_isChained_40 : decode cX2_isChained 40 = .ok (.aload_n 0, 1) := by decide +kernel
theorem dX2_isChained_41 : decode cX2_isChained 41 = .ok (.getfield 15, 3) := by decide +kernel
theorem dX2_isChained_44 : decode cX2_isChained 44 = .ok (.iload_n 1, 1) := by decide +kernel
theorem dX2_isChained_45 : decode cX2_isChained 45 = .ok (.iload_n 2, 1) := by decide +kernel
theorem dX2_isChained_46 : decode cX2_isChained 46 = .ok (.iload_n 3, 1) := by decide +kernel
theorem dX2_isChained_47 : decode cX2_isChained 47 = .ok (.invokevirtual 78, 3) := by decide +kernel
theorem dX2_isChained_50 : decode cX2_isChained 50 = .ok (.iconst 1, 1) := by decide +kernel
theorem dX2_isChained_51 : decode cX2_isChained 51 = .ok (.ireturn, 1) := by decide +kernel
set_option maxRecDepth 20000 in
theorem ggX2_isOwned_X2_readDigit : GoodIn wsX2_isOwned wsX2_readDigit := goodIn_r _ [6, 7, 8, 9, 10, 11, 12, 13, 14, 15, 41, 42, 43, 53, 54] (by decide +kernel) (by decide +kernel)
set_option maxRecDepth 20000 in
theorem gX2_isOwned_X2_readDigit : GoodIn wsX2_isOwned (wsV RX2 52 RX2 yX2_readDigit wsX2_readDigit) := goodIn_app (goodIn_of _ (by decide +kernel)) ggX2_isOwned_X2_readDigit
set_option maxRecDepth 20000 in
theorem ggX2_isOwned_X2_readSigned : GoodIn wsX2_isOwned wsX2_readSigned := goodIn_r _ [19, 7, 8, 9, 10, 11, 12, 13, 14, 15, 2, 3, 4, 5, 6, 41, 42, 43, 53, 54] (by decide +kernel) (by decide +kernel)
set_option maxRecDepth 20000 in
theorem gX2_isOwned_X2_readSigned : GoodIn wsX2_isOwned (wsV RX2 61 RX2 yX2_readSigned wsX2_readSigned) := goodIn_app (goodIn_of _ (by decide +kernel)) ggX2_isOwned_X2_readSigned
set_option maxRecDepth 20000 in
theorem ggX2_isOwned_X4_hasPart : GoodIn wsX2_isOwned wsX4_hasPart := goodIn_r _ [24, 25, 44, 45, 46, 47, 48, 49, 50, 51, 52] (by decide +kernel) (by decide +kernel)
set_option maxRecDepth 20000 in
theorem gX2_isOwned_X4_hasPart : GoodIn wsX2_isOwned (wsV RX2 71 RX4 yX4_hasPart wsX4_hasPart) := goodIn_app (goodIn_of _ (by decide +kernel)) ggX2_isOwned_X4_hasPart
set_option maxRecDepth 20000 in
theorem ggX2_isOwned_X7_isRange : GoodIn wsX2_isOwned wsX7_isRange := goodIn_r _ [28] (by decide +kernel) (by decide +kernel)
set_option maxRecDepth 20000 in
theorem gX2_isOwned_X7_isRange_n82 : GoodIn wsX2_isOwned (wsX7_isRange) := ggX2_isOwned_X7_isRange
set_option maxRecDepth 20000 in
theorem ggX2_isOwned_X1_put : GoodIn wsX2_isOwned wsX1_put := goodIn_r _ [33, 34, 35, 36, 32, 37, 38, 39, 40, 55] (by decide +kernel) (by decide +kernel)
set_option maxRecDepth 20000 in
theorem gX2_isOwned_X1_put : GoodIn wsX2_isOwned (wsV RX2 85 RX1 yX1_put wsX1_put) := goodIn_app (goodIn_of _ (by decide +kernel)) ggX2_isOwned_X1_put
theorem dX2_isOwned_0 : decode cX2_isOwned 0 = .ok (.aload_n 0, 1) := by decide +kernel
theorem dX2_isOwned_1 : decode cX2_isOwned 1 = .ok (.invokevirtual 52, 3) := by decide +kernel
theorem dX2_isOwned_4 : decode cX2_isOwned 4 = .ok (.istore_n 1, 1) := by decide +kernel
theorem dX2_isOwned_5 : decode cX2_isOwned 5 = .ok (.aload_n 0, 1) := by decide +kernel
theorem dX2_isOwned_6 : decode cX2_isOwned 6 = .ok (.invokevirtual 61, 3) := by decide +kernel
theorem dX2_isOwned_9 : decode cX2_isOwned 9 = .ok (.istore_n 2, 1) := by decide +kernel
theorem dX2_isOwned_10 : decode cX2_isOwned 10 = .ok (.aload_n 0, 1) := by decide +kernel
theorem dX2_isOwned_11 : decode cX2_isOwned 11 = .ok (.invokevirtual 61, 3) := by decide +kernel
theorem dX2_isOwned_14 : decode cX2_isOwned 14 = .ok (.istore_n 3, 1) := by decide +kernel
theorem dX2_isOwned_15 : decode cX2_isOwned 15 = .ok (.aload_n 0, 1) := by decide +kernel
theorem dX2_isOwned_16 : decode cX2_isOwned 16 = .ok (.invokevirtual 61, 3) := by decide +kernel
theorem dX2_isOwned_19 : decode cX2_isOwned 19 = .ok (.istore 4, 2) := by decide +kernel
theorem dX2_isOwned_21 : decode cX2_isOwned 21 = .ok (.aload_n 0, 1) := by decide +kernel
theorem dX2_isOwned_22 : decode cX2_isOwned 22 = .ok (.invokevirtual 61, 3) := by decide +kernel
theorem dX2_isOwned_25 : decode cX2_isOwned 25 = .ok (.istore 5, 2) := by decide +kernel
theorem dX2_isOwned_27 : decode cX2_isOwned 27 = .ok (.aload_n 0, 1) := by decide +kernel
theorem dX2_isOwned_28 : decode cX2_isOwned 28 = .ok (.getfield 15, 3) := by decide +kernel
theorem dX2_isOwned_31 : decode cX2_isOwned 31 = .ok (.iload_n 1, 1) := by decide +kernel
theorem dX2_isOwned_32 : decode cX2_isOwned 32 = .ok (.invokevirtual 71, 3) := by decide +kernel
theorem dX2_isOwned_35 : decode cX2_isOwned 35 = .ok (.ifCond .eq 21, 3) := by decide +kernel
theorem dX2_isOwned_38 : decode cX2_isOwned 38 = .ok (.iload_n 2, 1) := by decide +kernel
theorem dX2_isOwned_39 : decode cX2_isOwned 39 = .ok (.iload_n 3, 1) := by decide +kernel
theorem dX2_isOwned_40 : decode cX2_isOwned 40 = .ok (.invokestatic 82, 3) := by decide +kernel
theorem dX2_isOwned_43 : decode cX2_isOwned 43 = .ok (.ifCond .eq 13, 3) := by decide +kernel
theorem dX2_isOwned_46 : decode cX2_isOwned 46 = .ok (.iload 4, 2) := by decide +kernel
theorem dX2_isOwned_48 : decode cX2_isOwned 48 = .ok (.iload 5, 2) := by decide +kernel
theorem dX2_isOwned_50 : decode cX2_isOwned 50 = .ok (.invokestatic 82, 3) := by decide +kernel
theorem dX2_isOwned_53 : decode cX2_isOwned 53 = .ok (.ifCond .ne 5, 3) := by decide +kernel
theorem dX2_isOwned_56 : decode cX2_isOwned 56 = .ok (.iconst 0, 1) := by decide +kernel
theorem dX2_isOwned_57 : decode cX2_isOwned 57 = .ok (.ireturn, 1) := by decide +kernel
theorem dX2_isOwned_58 : decode cX2_isOwned 58 = .ok (.aload_n 0, 1) := by decide +kernel
theorem dX2_isOwned_59 : decode cX2_isOwned 59 = .ok (.getfield 15, 3) := by decide +kernel
theorem dX2_isOwned_62 : decode cX2_isOwned 62 = .ok (.getfield 46, 3) := by decide +kernel
theorem dX2_isOwned_65 : decode cX2_isOwned 65 = .ok (.sipush (-10001), 3) := by decide +kernel
theorem dX2_isOwned_68 : decode cX2_isOwned 68 = .ok (.iload_n 1, 1) := by decide +kernel
theorem dX2_isOwned_69 : decode cX2_isOwned 69 = .ok (.iload_n 2, 1) := by decide +kernel
theorem dX2_isOwned_70 : decode cX2_isOwned 70 = .ok (.iload_n 3, 1) := by decide +kernel
theorem dX2_isOwned_71 : decode cX2_isOwned 71 = .ok (.iload 4, 2) := by decide +kernel
theorem dX2_isOwned_73 : decode cX2_isOwned 73 = .ok (.iload 5, 2) := by decide +kernel
theorem dX2_isOwned_75 : decode cX2_isOwned 75 = .ok (.invokevirtual 85, 3) := by decide +kernel
theorem dX2_isOwned_78 : decode cX2_isOwned 78 = .ok (.iconst 1, 1) := by decide +kernel
theorem dX2_isOwned_79 : decode cX2_isOwned 79 = .ok (.ireturn, 1) := by decide +kernel
set_option maxRecDepth 20000 in
theorem ggX2_isCalled_X2_readSigned : GoodIn wsX2_isCalled wsX2_readSigned := goodIn_r _ [6, 7, 8, 9, 10, 11, 12, 13, 14, 15, 16, 17, 18, 5, 19, 112, 113, 114, 124, 125] (by decide +kernel) (by decide +kernel)
set_option maxRecDepth 20000 in
theorem gX2_isCalled_X2_readSigned : GoodIn wsX2_isCalled (wsV RX2 61 RX2 yX2_readSigned wsX2_readSigned) := goodIn_app (goodIn_of _ (by decide +kernel)) ggX2_isCalled_X2_readSigned
set_option maxRecDepth 20000 in
theorem ggX2_isCalled_X4_hasPart : GoodIn wsX2_isCalled wsX4_hasPart := goodIn_r _ [24, 25, 115, 116, 117, 118, 119, 120, 121, 122, 123] (by decide +kernel) (by decide +kernel)
set_option maxRecDepth 20000 in
theorem gX2_isCalled_X4_hasPart : GoodIn wsX2_isCalled (wsV RX2 71 RX4 yX4_hasPart wsX4_hasPart) := goodIn_app (goodIn_of _ (by decide +kernel)) ggX2_isCalled_X4_hasPart
set_option maxRecDepth 20000 in
theorem ggX2_isCalled_X4_callFromOutside : GoodIn wsX2_isCalled wsX4_callFromOutside := goodIn_r _ [29, 30, 31, 32, 33, 34, 23, 35, 36, 37, 38, 39, 40, 41, 42, 43, 44, 45, 46, 47, 48, 49, 50, 51, 52, 53, 54, 55, 56, 57, 58, 59, 60, 61, 62, 63, 64, 65, 66, 67, 68, 69, 70, 71, 72, 73, 74, 75, 76, 77, 78, 79, 80, 81, 82, 83, 84, 85, 86, 87, 88, 89, 90, 91, 92, 93, 94, 95, 96, 97, 98, 99, 100, 101, 102, 103, 104, 105, 106, 107, 108, 109, 110, 111, 115, 116, 117, 118, 119, 120, 121, 122, 123, 126, 127, 128] (by decide +kernel) (by decide +kernel)
set_option maxRecDepth 20000 in
theorem gX2_isCalled_X4_callFromOutside : GoodIn wsX2_isCalled (wsV RX2 92 RX4 yX4_callFromOutside wsX4_callFromOutside) := goodIn_app (goodIn_of _ (by decide +kernel)) ggX2_isCalled_X4_callFromOutside
theorem dX2_isCalled_0 : decode cX2_isCalled 0 = .ok (.aload_n 0, 1) := by decide +kernel
theorem dX2_isCalled_1 : decode cX2_isCalled 1 = .ok (.invokevirtual 61, 3) := by decide +kernel
theorem dX2_isCalled_4 : decode cX2_isCalled 4 = .ok (.istore_n 1, 1) := by decide +kernel
theorem dX2_isCalled_5 : decode cX2_isCalled 5 = .ok (.aload_n 0, 1) := by decide +kernel
theorem dX2_isCalled_6 : decode cX2_isCalled 6 = .ok (.getfield 15, 3) := by decide +kernel
theorem dX2_isCalled_9 : decode cX2_isCalled 9 = .ok (.getfield 89, 3) := by decide +kernel
theorem dX2_isCalled_12 : decode cX2_isCalled 12 = .ok (.iconst 1, 1) := by decide +kernel
theorem dX2_isCalled_13 : decode cX2_isCalled 13 = .ok (.isub, 1) := by decide +kernel
theorem dX2_isCalled_14 : decode cX2_isCalled 14 = .ok (.istore_n 2, 1) := by decide +kernel
theorem dX2_isCalled_15 : decode cX2_isCalled 15 = .ok (.aload_n 0, 1) := by decide +kernel
theorem dX2_isCalled_16 : decode cX2_isCalled 16 = .ok (.getfield 15, 3) := by decide +kernel
theorem dX2_isCalled_19 : decode cX2_isCalled 19 = .ok (.iload_n 2, 1) := by decide +kernel
theorem dX2_isCalled_20 : decode cX2_isCalled 20 = .ok (.invokevirtual 71, 3) := by decide +kernel
theorem dX2_isCalled_23 : decode cX2_isCalled 23 = .ok (.ifCond .ne 5, 3) := by decide +kernel
theorem dX2_isCalled_26 : decode cX2_isCalled 26 = .ok (.iconst 0, 1) := by decide +kernel
theorem dX2_isCalled_27 : decode cX2_isCalled 27 = .ok (.ireturn, 1) := by decide +kernel
theorem dX2_isCalled_28 : decode cX2_isCalled 28 = .ok (.aload_n 0, 1) := by decide +kernel
theorem dX2_isCalled_29 : decode cX2_isCalled 29 = .ok (.getfield 15, 3) := by decide +kernel
theorem dX2_isCalled_32 : decode cX2_isCalled 32 = .ok (.iload_n 2, 1) := by decide +kernel
theorem dX2_isCalled_33 : decode cX2_isCalled 33 = .ok (.iload_n 1, 1) := by decide +kernel
theorem dX2_isCalled_34 : decode cX2_isCalled 34 = .ok (.invokevirtual 92, 3) := by decide +kernel
theorem dX2_isCalled_37 : decode cX2_isCalled 37 = .ok (.pop, 1) := by decide +kernel
theorem dX2_isCalled_38 : decode cX2_isCalled 38 = .ok (.iconst 1, 1) := by decide +kernel
theorem dX2_isCalled_39 : decode cX2_isCalled 39 = .ok (.ireturn, 1) := by decide +kernel
set_option maxRecDepth 20000 in
theorem ggX2_readDigit_X6_codeAt : GoodIn wsX2_readDigit wsX6_codeAt := goodIn_r _ [7, 8, 9, 13, 14] (by decide +kernel) (by decide +kernel)
set_option maxRecDepth 20000 in
theorem gX2_readDigit_X6_codeAt : GoodIn wsX2_readDigit (wsV RX2 29 RX6 yX6_codeAt wsX6_codeAt) := goodIn_app (goodIn_of _ (by decide +kernel)) ggX2_readDigit_X6_codeAt
theorem dX2_readDigit_0 : decode cX2_readDigit 0 = .ok (.aload_n 0, 1) := by decide +kernel
theorem dX2_readDigit_1 : decode cX2_readDigit 1 = .ok (.getfield 9, 3) := by decide +kernel
theorem dX2_readDigit_4 : decode cX2_readDigit 4 = .ok (.aload_n 0, 1) := by decide +kernel
theorem dX2_readDigit_5 : decode cX2_readDigit 5 = .ok (.getfield 19, 3) := by decide +kernel
theorem dX2_readDigit_8 : decode cX2_readDigit 8 = .ok (.invokevirtual 29, 3) := by decide +kernel
theorem dX2_readDigit_11 : decode cX2_readDigit 11 = .ok (.bipush 48, 2) := by decide +kernel
theorem dX2_readDigit_13 : decode cX2_readDigit 13 = .ok (.isub, 1) := by decide +kernel
theorem dX2_readDigit_14 : decode cX2_readDigit 14 = .ok (.istore_n 1, 1) := by decide +kernel
theorem dX2_readDigit_15 : decode cX2_readDigit 15 = .ok (.aload_n 0, 1) := by decide +kernel
theorem dX2_readDigit_16 : decode cX2_readDigit 16 = .ok (.dup, 1) := by decide +kernel
theorem dX2_readDigit_17 : decode cX2_readDigit 17 = .ok (.getfield 19, 3) := by decide +kernel
theorem dX2_readDigit_20 : decode cX2_readDigit 20 = .ok (.iconst 1, 1) := by decide +kernel
theorem dX2_readDigit_21 : decode cX2_readDigit 21 = .ok (.iadd, 1) := by decide +kernel
theorem dX2_readDigit_22 : decode cX2_readDigit 22 = .ok (.putfield 19, 3) := by decide +kernel
theorem dX2_readDigit_25 : decode cX2_readDigit 25 = .ok (.iload_n 1, 1) := by decide +kernel
theorem dX2_readDigit_26 : decode cX2_readDigit 26 = .ok (.ireturn, 1) := by decide +kernel
set_option maxRecDepth 20000 in
theorem ggX2_readSigned_X6_codeAt : GoodIn wsX2_readSigned wsX6_codeAt := goodIn_r _ [7, 8, 9, 18, 19] (by decide +kernel) (by decide +kernel)
set_option maxRecDepth 20000 in
theorem gX2_readSigned_X6_codeAt : GoodIn wsX2_readSigned (wsV RX2 29 RX6 yX6_codeAt wsX6_codeAt) := goodIn_app (goodIn_of _ (by decide +kernel)) ggX2_readSigned_X6_codeAt
set_option maxRecDepth 20000 in
theorem ggX2_readSigned_X2_readDigit : GoodIn wsX2_readSigned wsX2_readDigit := goodIn_r _ [14, 1, 2, 3, 4, 5, 6, 7, 8, 9, 15, 16, 17, 18, 19] (by decide +kernel) (by decide +kernel)
set_option maxRecDepth 20000 in
theorem gX2_readSigned_X2_readDigit : GoodIn wsX2_readSigned (wsV RX2 52 RX2 yX2_readDigit wsX2_readDigit) := goodIn_app (goodIn_of _ (by decide +kernel)) ggX2_readSigned_X2_readDigit
theorem dX2_readSigned_0 : decode cX2_readSigned 0 = .ok (.aload_n 0, 1) := by decide +kernel
theorem dX2_readSigned_1 : decode cX2_readSigned 1 = .ok (.getfield 9, 3) := by decide +kernel
theorem dX2_readSigned_4 : decode cX2_readSigned 4 = .ok (.aload_n 0, 1) := by decide +kernel
theorem dX2_readSigned_5 : decode cX2_readSigned 5 = .ok (.getfield 19, 3) := by decide +kernel
theorem dX2_readSigned_8 : decode cX2_readSigned 8 = .ok (.invokevirtual 29, 3) := by decide +kernel
theorem dX2_readSigned_11 : decode cX2_readSigned 11 = .ok (.bipush 45, 2) := by decide +kernel
theorem dX2_readSigned_13 : decode cX2_readSigned 13 = .ok (.if_icmp .ne 7, 3) := by decide +kernel
theorem dX2_readSigned_16 : decode cX2_readSigned 16 = .ok (.iconst 1, 1) := by decide +kernel
theorem dX2_readSigned_17 : decode cX2_readSigned 17 = .ok (.goto 4, 3) := by decide +kernel
theorem dX2_readSigned_20 : decode cX2_readSigned 20 = .ok (.iconst 0, 1) := by decide +kernel
theorem dX2_readSigned_21 : decode cX2_readSigned 21 = .ok (.istore_n 1, 1) := by decide +kernel
theorem dX2_readSigned_22 : decode cX2_readSigned 22 = .ok (.aload_n 0, 1) := by decide +kernel
theorem dX2_readSigned_23 : decode cX2_readSigned 23 = .ok (.dup, 1) := by decide +kernel
theorem dX2_readSigned_24 : decode cX2_readSigned 24 = .ok (.getfield 19, 3) := by decide +kernel
theorem dX2_readSigned_27 : decode cX2_readSigned 27 = .ok (.iconst 1, 1) := by decide +kernel
theorem dX2_readSigned_28 : decode cX2_readSigned 28 = .ok (.iadd, 1) := by decide +kernel
theorem dX2_readSigned_29 : decode cX2_readSigned 29 = .ok (.putfield 19, 3) := by decide +kernel
theorem dX2_readSigned_32 : decode cX2_readSigned 32 = .ok (.aload_n 0, 1) := by decide +kernel
theorem dX2_readSigned_33 : decode cX2_readSigned 33 = .ok (.invokevirtual 52, 3) := by decide +kernel
theorem dX2_readSigned_36 : decode cX2_readSigned 36 = .ok (.istore_n 2, 1) := by decide +kernel
theorem dX2_readSigned_37 : decode cX2_readSigned 37 = .ok (.bipush 10, 2) := by decide +kernel
theorem dX2_readSigned_39 : decode cX2_readSigned 39 = .ok (.iload_n 2, 1) := by decide +kernel
theorem dX2_readSigned_40 : decode cX2_readSigned 40 = .ok (.imul, 1) := by decide +kernel
theorem dX2_readSigned_41 : decode cX2_readSigned 41 = .ok (.aload_n 0, 1) := by decide +kernel
theorem dX2_readSigned_42 : decode cX2_readSigned 42 = .ok (.invokevirtual 52, 3) := by decide +kernel
theorem dX2_readSigned_45 : decode cX2_readSigned 45 = .ok (.iadd, 1) := by decide +kernel
theorem dX2_readSigned_46 : decode cX2_readSigned 46 = .ok (.istore_n 3, 1) := by decide +kernel
theorem dX2_readSigned_47 : decode cX2_readSigned 47 = .ok (.iload_n 1, 1) := by decide +kernel
theorem dX2_readSigned_48 : decode cX2_readSigned 48 = .ok (.ifCond .eq 8, 3) := by decide +kernel
theorem dX2_readSigned_51 : decode cX2_readSigned 51 = .ok (.iload_n 3, 1) := by decide +kernel
theorem dX2_readSigned_52 : decode cX2_readSigned 52 = .ok (.ineg, 1) := by decide +kernel
theorem dX2_readSigned_53 : decode cX2_readSigned 53 = .ok (.goto 4, 3) := by decide +kernel
theorem dX2_readSigned_56 : decode cX2_readSigned 56 = .ok (.iload_n 3, 1) := by decide +kernel
theorem dX2_readSigned_57 : decode cX2_readSigned 57 = .ok (.ireturn, 1) := by decide +kernel
set_option maxRecDepth 20000 in
theorem ggX3_init_X4_init : GoodIn wsX3_init wsX4_init := goodIn_r _ [9, 10, 2, 3, 11, 12, 13, 14, 15, 16, 17, 18, 19, 20, 21, 22, 23, 24, 25, 26, 27, 28, 29, 30, 31, 32, 33, 46, 37, 38, 39, 40, 41, 42, 43, 44, 45, 47, 48] (by decide +kernel) (by decide +kernel)
set_option maxRecDepth 20000 in
theorem gX3_init_X4_init_n15 : GoodIn wsX3_init (wsX4_init) := ggX3_init_X4_init
theorem dX3_init_0 : decode cX3_init 0 = .ok (.aload_n 0, 1) := by decide +kernel
theorem dX3_init_1 : decode cX3_init 1 = .ok (.invokespecial 1, 3) := by decide +kernel
theorem dX3_init_4 : decode cX3_init 4 = .ok (.aload_n 0, 1) := by decide +kernel
theorem dX3_init_5 : decode cX3_init 5 = .ok (.bipush 14, 2) := by decide +kernel
theorem dX3_init_7 : decode cX3_init 7 = .ok (.anewarray 9, 3) := by decide +kernel
theorem dX3_init_10 : decode cX3_init 10 = .ok (.putfield 11, 3) := by decide +kernel
theorem dX3_init_13 : decode cX3_init 13 = .ok (.iconst 0, 1) := by decide +kernel
theorem dX3_init_14 : decode cX3_init 14 = .ok (.istore_n 1, 1) := by decide +kernel
theorem dX3_init_15 : decode cX3_init 15 = .ok (.iload_n 1, 1) := by decide +kernel
theorem dX3_init_16 : decode cX3_init 16 = .ok (.bipush 14, 2) := by decide +kernel
theorem dX3_init_18 : decode cX3_init 18 = .ok (.if_icmp .ge 22, 3) := by decide +kernel
theorem dX3_init_21 : decode cX3_init 21 = .ok (.aload_n 0, 1) := by decide +kernel
theorem dX3_init_22 : decode cX3_init 22 = .ok (.getfield 11, 3) := by decide +kernel
theorem dX3_init_25 : decode cX3_init 25 = .ok (.iload_n 1, 1) := by decide +kernel
theorem dX3_init_26 : decode cX3_init 26 = .ok (.new 9, 3) := by decide +kernel
theorem dX3_init_29 : decode cX3_init 29 = .ok (.dup, 1) := by decide +kernel
theorem dX3_init_30 : decode cX3_init 30 = .ok (.invokespecial 15, 3) := by decide +kernel
theorem dX3_init_33 : decode cX3_init 33 = .ok (.aastore, 1) := by decide +kernel
theorem dX3_init_34 : decode cX3_init 34 = .ok (.iinc 1 1, 3) := by decide +kernel
theorem dX3_init_37 : decode cX3_init 37 = .ok (.goto (-22), 3) := by decide +kernel
theorem dX3_init_40 : decode cX3_init 40 = .ok (.return_, 1) := by decide +kernel
theorem dX3_size_0 : decode cX3_size 0 = .ok (.aload_n 0, 1) := by decide +kernel
theorem dX3_size_1 : decode cX3_size 1 = .ok (.getfield 16, 3) := by decide +kernel
theorem dX3_size_4 : decode cX3_size 4 = .ok (.ireturn, 1) := by decide +kernel
theorem dX3_forgetAll_0 : decode cX3_forgetAll 0 = .ok (.aload_n 0, 1) := by decide +kernel
theorem dX3_forgetAll_1 : decode cX3_forgetAll 1 = .ok (.iconst 0, 1) := by decide +kernel
theorem dX3_forgetAll_2 : decode cX3_forgetAll 2 = .ok (.putfield 16, 3) := by decide +kernel
theorem dX3_forgetAll_5 : decode cX3_forgetAll 5 = .ok (.return_, 1) := by decide +kernel
set_option maxRecDepth 20000 in
theorem ggX3_remember_X4_copyFrom : GoodIn wsX3_remember wsX4_copyFrom := goodIn_r _ [12, 13, 14, 15, 16, 17, 18, 19, 20, 21, 22, 23, 24, 25, 26, 27, 28, 29, 30, 31, 32, 33, 34, 35, 36, 37, 38, 39, 40, 44, 45, 46, 47, 48, 49, 50, 51, 52, 53, 54, 55] (by decide +kernel) (by decide +kernel)
set_option maxRecDepth 20000 in
theorem gX3_remember_X4_copyFrom : GoodIn wsX3_remember (wsV RX3 23 RX4 yX4_copyFrom wsX4_copyFrom) := goodIn_app (goodIn_of _ (by decide +kernel)) ggX3_remember_X4_copyFrom
theorem dX3_remember_0 : decode cX3_remember 0 = .ok (.aload_n 0, 1) := by decide +kernel
theorem dX3_remember_1 : decode cX3_remember 1 = .ok (.getfield 11, 3) := by decide +kernel
theorem dX3_remember_4 : decode cX3_remember 4 = .ok (.aload_n 0, 1) := by decide +kernel
theorem dX3_remember_5 : decode cX3_remember 5 = .ok (.getfield 20, 3) := by decide +kernel
theorem dX3_remember_8 : decode cX3_remember 8 = .ok (.aaload, 1) := by decide +kernel
theorem dX3_remember_9 : decode cX3_remember 9 = .ok (.aload_n 1, 1) := by decide +kernel
theorem dX3_remember_10 : decode cX3_remember 10 = .ok (.invokevirtual 23, 3) := by decide +kernel
theorem dX3_remember_13 : decode cX3_remember 13 = .ok (.aload_n 0, 1) := by decide +kernel
theorem dX3_remember_14 : decode cX3_remember 14 = .ok (.aload_n 0, 1) := by decide +kernel
theorem dX3_remember_15 : decode cX3_remember 15 = .ok (.getfield 20, 3) := by decide +kernel
theorem dX3_remember_18 : decode cX3_remember 18 = .ok (.iconst 1, 1) := by decide +kernel
theorem dX3_remember_19 : decode cX3_remember 19 = .ok (.iadd, 1) := by decide +kernel
theorem dX3_remember_20 : decode cX3_remember 20 = .ok (.bipush 14, 2) := by decide +kernel
theorem dX3_remember_22 : decode cX3_remember 22 = .ok (.irem, 1) := by decide +kernel
theorem dX3_remember_23 : decode cX3_remember 23 = .ok (.putfield 20, 3) := by decide +kernel
theorem dX3_remember_26 : decode cX3_remember 26 = .ok (.aload_n 0, 1) := by decide +kernel
theorem dX3_remember_27 : decode cX3_remember 27 = .ok (.aload_n 0, 1) := by decide +kernel
theorem dX3_remember_28 : decode cX3_remember 28 = .ok (.getfield 16, 3) := by decide +kernel
theorem dX3_remember_31 : decode cX3_remember 31 = .ok (.iconst 1, 1) := by decide +kernel
theorem dX3_remember_32 : decode cX3_remember 32 = .ok (.iadd, 1) := by decide +kernel
theorem dX3_remember_33 : decode cX3_remember 33 = .ok (.bipush 14, 2) := by decide +kernel
theorem dX3_remember_35 : decode cX3_remember 35 = .ok (.invokestatic 27, 3) := by decide +kernel
theorem dX3_remember_38 : decode cX3_remember 38 = .ok (.putfield 16, 3) := by decide +kernel
theorem dX3_remember_41 : decode cX3_remember 41 = .ok (.return_, 1) := by decide +kernel
set_option maxRecDepth 20000 in
theorem ggX3_takeBackInto_X4_copyFrom : GoodIn wsX3_takeBackInto wsX4_copyFrom := goodIn_r _ [8, 9, 10, 11, 12, 13, 14, 15, 16, 17, 18, 19, 20, 21, 22, 23, 24, 25, 26, 27, 28, 29, 30, 31, 32, 33, 34, 35, 36, 40, 41, 42, 43, 44, 45, 46, 47, 48, 49, 50, 51] (by decide +kernel) (by decide +kernel)
set_option maxRecDepth 20000 in
theorem gX3_takeBackInto_X4_copyFrom : GoodIn wsX3_takeBackInto (wsV RX3 23 RX4 yX4_copyFrom wsX4_copyFrom) := goodIn_app (goodIn_of _ (by decide +kernel)) ggX3_takeBackInto_X4_copyFrom
theorem dX3_takeBackInto_0 : decode cX3_takeBackInto 0 = .ok (.aload_n 0, 1) := by decide +kernel
theorem dX3_takeBackInto_1 : decode cX3_takeBackInto 1 = .ok (.aload_n 0, 1) := by decide +kernel
theorem dX3_takeBackInto_2 : decode cX3_takeBackInto 2 = .ok (.getfield 20, 3) := by decide +kernel
theorem dX3_takeBackInto_5 : decode cX3_takeBackInto 5 = .ok (.bipush 14, 2) := by decide +kernel
theorem dX3_takeBackInto_7 : decode cX3_takeBackInto 7 = .ok (.iadd, 1) := by decide +kernel
theorem dX3_takeBackInto_8 : decode cX3_takeBackInto 8 = .ok (.iconst 1, 1) := by decide +kernel
theorem dX3_takeBackInto_9 : decode cX3_takeBackInto 9 = .ok (.isub, 1) := by decide +kernel
theorem dX3_takeBackInto_10 : decode cX3_takeBackInto 10 = .ok (.bipush 14, 2) := by decide +kernel
theorem dX3_takeBackInto_12 : decode cX3_takeBackInto 12 = .ok (.irem, 1) := by decide +kernel
theorem dX3_takeBackInto_13 : decode cX3_takeBackInto 13 = .ok (.putfield 20, 3) := by decide +kernel
theorem dX3_takeBackInto_16 : decode cX3_takeBackInto 16 = .ok (.aload_n 0, 1) := by decide +kernel
theorem dX3_takeBackInto_17 : decode cX3_takeBackInto 17 = .ok (.dup, 1) := by decide +kernel
theorem dX3_takeBackInto_18 : decode cX3_takeBackInto 18 = .ok (.getfield 16, 3) := by decide +kernel
theorem dX3_takeBackInto_21 : decode cX3_takeBackInto 21 = .ok (.iconst 1, 1) := by decide +kernel
theorem dX3_takeBackInto_22 : decode cX3_takeBackInto 22 = .ok (.isub, 1) := by decide +kernel
theorem dX3_takeBackInto_23 : decode cX3_takeBackInto 23 = .ok (.putfield 16, 3) := by decide +kernel
theorem dX3_takeBackInto_26 : decode cX3_takeBackInto 26 = .ok (.aload_n 1, 1) := by decide +kernel
theorem dX3_takeBackInto_27 : decode cX3_takeBackInto 27 = .ok (.aload_n 0, 1) := by decide +kernel
theorem dX3_takeBackInto_28 : decode cX3_takeBackInto 28 = .ok (.getfield 11, 3) := by decide +kernel
theorem dX3_takeBackInto_31 : decode cX3_takeBackInto 31 = .ok (.aload_n 0, 1) := by decide +kernel
theorem dX3_takeBackInto_32 : decode cX3_takeBackInto 32 = .ok (.getfield 20, 3) := by decide +kernel
theorem dX3_takeBackInto_35 : decode cX3_takeBackInto 35 = .ok (.aaload, 1) := by decide +kernel
theorem dX3_takeBackInto_36 : decode cX3_takeBackInto 36 = .ok (.invokevirtual 23, 3) := by decide +kernel
theorem dX3_takeBackInto_39 : decode cX3_takeBackInto 39 = .ok (.return_, 1) := by decide +kernel
theorem dX5_init_0 : decode cX5_init 0 = .ok (.aload_n 0, 1) := by decide +kernel
theorem dX5_init_1 : decode cX5_init 1 = .ok (.invokespecial 3, 3) := by decide +kernel
theorem dX5_init_4 : decode cX5_init 4 = .ok (.aload_n 0, 1) := by decide +kernel
theorem dX5_init_5 : decode cX5_init 5 = .ok (.aload_n 1, 1) := by decide +kernel
theorem dX5_init_6 : decode cX5_init 6 = .ok (.putfield 9, 3) := by decide +kernel
theorem dX5_init_9 : decode cX5_init 9 = .ok (.aload_n 0, 1) := by decide +kernel
theorem dX5_init_10 : decode cX5_init 10 = .ok (.aload_n 2, 1) := by decide +kernel
theorem dX5_init_11 : decode cX5_init 11 = .ok (.putfield 15, 3) := by decide +kernel
theorem dX5_init_14 : decode cX5_init 14 = .ok (.return_, 1) := by decide +kernel
theorem dX5_groupFromRight_0 : decode cX5_groupFromRight 0 = .ok (.lload_n 0, 1) := by decide +kernel
theorem dX5_groupFromRight_1 : decode cX5_groupFromRight 1 = .ok (.lstore_n 3, 1) := by decide +kernel
theorem dX5_groupFromRight_2 : decode cX5_groupFromRight 2 = .ok (.iconst 0, 1) := by decide +kernel
theorem dX5_groupFromRight_3 : decode cX5_groupFromRight 3 = .ok (.istore 5, 2) := by decide +kernel
theorem dX5_groupFromRight_5 : decode cX5_groupFromRight 5 = .ok (.iload 5, 2) := by decide +kernel
theorem dX5_groupFromRight_7 : decode cX5_groupFromRight 7 = .ok (.iload_n 2, 1) := by decide +kernel
theorem dX5_groupFromRight_8 : decode cX5_groupFromRight 8 = .ok (.if_icmp .ge 15, 3) := by decide +kernel
theorem dX5_groupFromRight_11 : decode cX5_groupFromRight 11 = .ok (.lload_n 3, 1) := by decide +kernel
theorem dX5_groupFromRight_12 : decode cX5_groupFromRight 12 = .ok (.ldc2_w 18, 3) := by decide +kernel
theorem dX5_groupFromRight_15 : decode cX5_groupFromRight 15 = .ok (.ldiv, 1) := by decide +kernel
theorem dX5_groupFromRight_16 : decode cX5_groupFromRight 16 = .ok (.lstore_n 3, 1) := by decide +kernel
theorem dX5_groupFromRight_17 : decode cX5_groupFromRight 17 = .ok (.iinc 5 1, 3) := by decide +kernel
theorem dX5_groupFromRight_20 : decode cX5_groupFromRight 20 = .ok (.goto (-15), 3) := by decide +kernel
theorem dX5_groupFromRight_23 : decode cX5_groupFromRight 23 = .ok (.lload_n 3, 1) := by decide +kernel
theorem dX5_groupFromRight_24 : decode cX5_groupFromRight 24 = .ok (.lreturn, 1) := by decide +kernel
set_option maxRecDepth 20000 in
theorem ggX5_succeeds_X4_hasPart : GoodIn wsX5_succeeds wsX4_hasPart := goodIn_r _ [6, 7, 146, 147, 148, 149, 150, 151, 152, 153, 154] (by decide +kernel) (by decide +kernel)
set_option maxRecDepth 20000 in
theorem gX5_succeeds_X4_hasPart : GoodIn wsX5_succeeds (wsV RX5 20 RX4 yX4_hasPart wsX4_hasPart) := goodIn_app (goodIn_of _ (by decide +kernel)) ggX5_succeeds_X4_hasPart
set_option maxRecDepth 20000 in
theorem ggX5_succeeds_X4_callFromOutside : GoodIn wsX5_succeeds wsX4_callFromOutside := goodIn_r _ [11, 12, 13, 14, 15, 16, 5, 17, 18, 19, 20, 21, 22, 23, 24, 25, 26, 27, 28, 29, 30, 31, 32, 33, 34, 35, 36, 37, 38, 39, 40, 41, 42, 43, 44, 45, 46, 47, 48, 49, 50, 51, 52, 53, 54, 55, 56, 57, 58, 59, 60, 61, 62, 63, 64, 65, 66, 67, 68, 69, 70, 71, 72, 73, 74, 75, 76, 77, 78, 79, 80, 81, 82, 83, 84, 85, 86, 87, 88, 89, 90, 91, 92, 93, 146, 147, 148, 149, 150, 151, 152, 153, 154, 155, 156, 157] (by decide +kernel) (by decide +kernel)
set_option maxRecDepth 20000 in
theorem gX5_succeeds_X4_callFromOutside : GoodIn wsX5_succeeds (wsV RX5 26 RX4 yX4_callFromOutside wsX4_callFromOutside) := goodIn_app (goodIn_of _ (by decide +kernel)) ggX5_succeeds_X4_callFromOutside
set_option maxRecDepth 20000 in
theorem ggX5_succeeds_X5_isChained : GoodIn wsX5_succeeds wsX5_isChained := goodIn_r _ [98, 1, 2, 3, 4, 5, 6, 7, 99, 100, 101, 102, 103, 104, 105, 106, 107, 108, 109, 110, 24, 144, 145, 146, 147, 148, 149, 150, 151, 152, 153, 154] (by decide +kernel) (by decide +kernel)
set_option maxRecDepth 20000 in
theorem gX5_succeeds_X5_isChained : GoodIn wsX5_succeeds (wsV RX5 30 RX5 yX5_isChained wsX5_isChained) := goodIn_app (goodIn_of _ (by decide +kernel)) ggX5_succeeds_X5_isChained
set_option maxRecDepth 20000 in
theorem ggX5_succeeds_X5_isNetted : GoodIn wsX5_succeeds wsX5_isNetted := goodIn_r _ [114, 1, 2, 3, 4, 5, 6, 7, 115, 116, 117, 118, 107, 108, 109, 110, 24, 144, 145, 146, 147, 148, 149, 150, 151, 152, 153, 154] (by decide +kernel) (by decide +kernel)
set_option maxRecDepth 20000 in
theorem gX5_succeeds_X5_isNetted : GoodIn wsX5_succeeds (wsV RX5 34 RX5 yX5_isNetted wsX5_isNetted) := goodIn_app (goodIn_of _ (by decide +kernel)) ggX5_succeeds_X5_isNetted
set_option maxRecDepth 20000 in
theorem ggX5_succeeds_X1_remove : GoodIn wsX5_succeeds wsX1_remove := goodIn_r _ [122, 30, 123, 26, 27, 28, 29, 31, 32, 33, 34, 35, 36, 155] (by decide +kernel) (by decide +kernel)
set_option maxRecDepth 20000 in
theorem gX5_succeeds_X1_remove : GoodIn wsX5_succeeds (wsV RX5 41 RX1 yX1_remove wsX1_remove) := goodIn_app (goodIn_of _ (by decide +kernel)) ggX5_succeeds_X1_remove
set_option maxRecDepth 20000 in
theorem ggX5_succeeds_X4_ofPart : GoodIn wsX5_succeeds wsX4_ofPart := goodIn_r _ [80, 24, 146, 147, 148, 149, 150, 151, 152, 153, 154] (by decide +kernel) (by decide +kernel)
set_option maxRecDepth 20000 in
theorem gX5_succeeds_X4_ofPart : GoodIn wsX5_succeeds (wsV RX5 46 RX4 yX4_ofPart wsX4_ofPart) := goodIn_app (goodIn_of _ (by decide +kernel)) ggX5_succeeds_X4_ofPart
set_option maxRecDepth 20000 in
theorem ggX5_succeeds_X5_wouldGive : GoodIn wsX5_succeeds wsX5_wouldGive := goodIn_r _ [128, 129, 1, 130, 131, 132, 5, 133, 19, 46, 24, 134, 54, 55, 56, 7, 18, 12, 45, 13, 85, 135, 136, 137, 28, 138, 30, 139, 140, 141, 142, 50, 143, 52, 53, 57, 8, 9, 10, 11, 14, 15, 16, 17, 20, 21, 22, 23, 25, 26, 27, 29, 31, 32, 33, 34, 35, 36, 37, 38, 39, 40, 41, 42, 43, 44, 47, 48, 49, 51, 58, 59, 60, 61, 62, 63, 64, 65, 66, 67, 68, 69, 70, 71, 72, 73, 74, 75, 76, 77, 78, 79, 80, 81, 82, 83, 84, 86, 87, 88, 89, 90, 91, 92, 93, 144, 145, 146, 147, 148, 149, 150, 151, 152, 153, 154, 155, 156, 157] (by decide +kernel) (by decide +kernel)
set_option maxRecDepth 20000 in
theorem gX5_succeeds_X5_wouldGive : GoodIn wsX5_succeeds (wsV RX5 53 RX5 yX5_wouldGive wsX5_wouldGive) := goodIn_app (goodIn_of _ (by decide +kernel)) ggX5_succeeds_X5_wouldGive
theorem dX5_succeeds_0 : decode cX5_succeeds 0 = .ok (.iload_n 1, 1) := by decide +kernel
theorem dX5_succeeds_1 : decode cX5_succeeds 1 = .ok (.sipush 1000, 3) := by decide +kernel
theorem dX5_succeeds_4 : decode cX5_succeeds 4 = .ok (.idiv, 1) := by decide +kernel
theorem dX5_succeeds_5 : decode cX5_succeeds 5 = .ok (.bipush 10, 2) := by decide +kernel
theorem dX5_succeeds_7 : decode cX5_succeeds 7 = .ok (.irem, 1) := by decide +kernel
theorem dX5_succeeds_8 : decode cX5_succeeds 8 = .ok (.istore_n 2, 1) := by decide +kernel
theorem dX5_succeeds_9 : decode cX5_succeeds 9 = .ok (.iload_n 1, 1) := by decide +kernel
theorem dX5_succeeds_10 : decode cX5_succeeds 10 = .ok (.bipush 100, 2) := by decide +kernel
theorem dX5_succeeds_12 : decode cX5_succeeds 12 = .ok (.idiv, 1) := by decide +kernel
theorem dX5_succeeds_13 : decode cX5_succeeds 13 = .ok (.bipush 10, 2) := by decide +kernel
theorem dX5_succeeds_15 : decode cX5_succeeds 15 = .ok (.irem, 1) := by decide +kernel
theorem dX5_succeeds_16 : decode cX5_succeeds 16 = .ok (.istore_n 3, 1) := by decide +kernel
theorem dX5_succeeds_17 : decode cX5_succeeds 17 = .ok (.iload_n 1, 1) := by decide +kernel
theorem dX5_succeeds_18 : decode cX5_succeeds 18 = .ok (.bipush 100, 2) := by decide +kernel
theorem dX5_succeeds_20 : decode cX5_succeeds 20 = .ok (.irem, 1) := by decide +kernel
theorem dX5_succeeds_21 : decode cX5_succeeds 21 = .ok (.istore 4, 2) := by decide +kernel
theorem dX5_succeeds_23 : decode cX5_succeeds 23 = .ok (.iload_n 1, 1) := by decide +kernel
theorem dX5_succeeds_24 : decode cX5_succeeds 24 = .ok (.sipush 1000, 3) := by decide +kernel
theorem dX5_succeeds_27 : decode cX5_succeeds 27 = .ok (.irem, 1) := by decide +kernel
theorem dX5_succeeds_28 : decode cX5_succeeds 28 = .ok (.sipush 500, 3) := by decide +kernel
theorem dX5_succeeds_31 : decode cX5_succeeds 31 = .ok (.isub, 1) := by decide +kernel
theorem dX5_succeeds_32 : decode cX5_succeeds 32 = .ok (.istore 5, 2) := by decide +kernel
theorem dX5_succeeds_34 : decode cX5_succeeds 34 = .ok (.iload_n 1, 1) := by decide +kernel
theorem dX5_succeeds_35 : decode cX5_succeeds 35 = .ok (.sipush 10000, 3) := by decide +kernel
theorem dX5_succeeds_38 : decode cX5_succeeds 38 = .ok (.idiv, 1) := by decide +kernel
theorem dX5_succeeds_39 : decode cX5_succeeds 39 = .ok (.tableswitch 302 1 9 #[49, 82, 115, 135, 155, 187, 213, 249, 275], 49) := by decide +kernel
theorem dX5_succeeds_88 : decode cX5_succeeds 88 = .ok (.aload_n 0, 1) := by decide +kernel
theorem dX5_succeeds_89 : decode cX5_succeeds 89 = .ok (.getfield 9, 3) := by decide +kernel
theorem dX5_succeeds_92 : decode cX5_succeeds 92 = .ok (.iload_n 2, 1) := by decide +kernel
theorem dX5_succeeds_93 : decode cX5_succeeds 93 = .ok (.invokevirtual 20, 3) := by decide +kernel
theorem dX5_succeeds_96 : decode cX5_succeeds 96 = .ok (.ifCond .eq 23, 3) := by decide +kernel
theorem dX5_succeeds_99 : decode cX5_succeeds 99 = .ok (.aload_n 0, 1) := by decide +kernel
theorem dX5_succeeds_100 : decode cX5_succeeds 100 = .ok (.getfield 9, 3) := by decide +kernel
theorem dX5_succeeds_103 : decode cX5_succeeds 103 = .ok (.iload_n 2, 1) := by decide +kernel
theorem dX5_succeeds_104 : decode cX5_succeeds 104 = .ok (.iload 5, 2) := by decide +kernel
theorem dX5_succeeds_106 : decode cX5_succeeds 106 = .ok (.invokevirtual 26, 3) := by decide +kernel
theorem dX5_succeeds_109 : decode cX5_succeeds 109 = .ok (.sipush (-10000), 3) := by decide +kernel
theorem dX5_succeeds_112 : decode cX5_succeeds 112 = .ok (.if_icmp .eq 7, 3) := by decide +kernel
theorem dX5_succeeds_115 : decode cX5_succeeds 115 = .ok (.iconst 1, 1) := by decide +kernel
theorem dX5_succeeds_116 : decode cX5_succeeds 116 = .ok (.goto 4, 3) := by decide +kernel
theorem dX5_succeeds_119 : decode cX5_succeeds 119 = .ok (.iconst 0, 1) := by decide +kernel
theorem dX5_succeeds_120 : decode cX5_succeeds 120 = .ok (.ireturn, 1) := by decide +kernel
theorem dX5_succeeds_121 : decode cX5_succeeds 121 = .ok (.aload_n 0, 1) := by decide +kernel
theorem dX5_succeeds_122 : decode cX5_succeeds 122 = .ok (.getfield 9, 3) := by decide +kernel
theorem dX5_succeeds_125 : decode cX5_succeeds 125 = .ok (.iload_n 2, 1) := by decide +kernel
theorem dX5_succeeds_126 : decode cX5_succeeds 126 = .ok (.invokevirtual 20, 3) := by decide +kernel
theorem dX5_succeeds_129 : decode cX5_succeeds 129 = .ok (.ifCond .eq 23, 3) := by decide +kernel
theorem dX5_succeeds_132 : decode cX5_succeeds 132 = .ok (.aload_n 0, 1) := by decide +kernel
theorem dX5_succeeds_133 : decode cX5_succeeds 133 = .ok (.getfield 9, 3) := by decide +kernel
theorem dX5_succeeds_136 : decode cX5_succeeds 136 = .ok (.iload_n 2, 1) := by decide +kernel
theorem dX5_succeeds_137 : decode cX5_succeeds 137 = .ok (.iload 5, 2) := by decide +kernel
theorem dX5_succeeds_139 : decode cX5_succeeds 139 = .ok (.invokevirtual 26, 3) := by decide +kernel
theorem dX5_succeeds_142 : decode cX5_succeeds 142 = .ok (.sipush (-10000), 3) := by decide +kernel
theorem dX5_succeeds_145 : decode cX5_succeeds 145 = .ok (.if_icmp .ne 7, 3) := by decide +kernel
theorem dX5_succeeds_148 : decode cX5_succeeds 148 = .ok (.iconst 1, 1) := by decide +kernel
theorem dX5_succeeds_149 : decode cX5_succeeds 149 = .ok (.goto 4, 3) := by decide +kernel
theorem dX5_succeeds_152 : decode cX5_succeeds 152 = .ok (.iconst 0, 1) := by decide +kernel
theorem dX5_succeeds_153 : decode cX5_succeeds 153 = .ok (.ireturn, 1) := by decide +kernel
theorem dX5_succeeds_154 : decode cX5_succeeds 154 = .ok (.iload 4, 2) := by decide +kernel
theorem dX5_succeeds_156 : decode cX5_succeeds 156 = .ok (.ifCond .ne 16, 3) := by decide +kernel
theorem dX5_succeeds_159 : decode cX5_succeeds 159 = .ok (.aload_n 0, 1) := by decide +kernel
theorem dX5_succeeds_160 : decode cX5_succeeds 160 = .ok (.iload_n 2, 1) := by decide +kernel
theorem dX5_succeeds_161 : decode cX5_succeeds 161 = .ok (.iload_n 3, 1) := by decide +kernel
theorem dX5_succeeds_162 : decode cX5_succeeds 162 = .ok (.invokevirtual 30, 3) := by decide +kernel
theorem dX5_succeeds_165 : decode cX5_succeeds 165 = .ok (.ifCond .eq 7, 3) := by decide +kernel
theorem dX5_succeeds_168 : decode cX5_succeeds 168 = .ok (.iconst 1, 1) := by decide +kernel
theorem dX5_succeeds_169 : decode cX5_succeeds 169 = .ok (.goto 4, 3) := by decide +kernel
theorem dX5_succeeds_172 : decode cX5_succeeds 172 = .ok (.iconst 0, 1) := by decide +kernel
theorem dX5_succeeds_173 : decode cX5_succeeds 173 = .ok (.ireturn, 1) := by decide +kernel
theorem dX5_succeeds_174 : decode cX5_succeeds 174 = .ok (.iload_n 3, 1) := by decide +kernel
theorem dX5_succeeds_175 : decode cX5_succeeds 175 = .ok (.ifCond .ne 17, 3) := by decide +kernel
theorem dX5_succeeds_178 : decode cX5_succeeds 178 = .ok (.aload_n 0, 1) := by decide +kernel
theorem dX5_succeeds_179 : decode cX5_succeeds 179 = .ok (.iload_n 2, 1) := by decide +kernel
theorem dX5_succeeds_180 : decode cX5_succeeds 180 = .ok (.iload 4, 2) := by decide +kernel
theorem dX5_succeeds_182 : decode cX5_succeeds 182 = .ok (.invokevirtual 34, 3) := by decide +kernel
theorem dX5_succeeds_185 : decode cX5_succeeds 185 = .ok (.ifCond .eq 7, 3) := by decide +kernel
theorem dX5_succeeds_188 : decode cX5_succeeds 188 = .ok (.iconst 1, 1) := by decide +kernel
theorem dX5_succeeds_189 : decode cX5_succeeds 189 = .ok (.goto 4, 3) := by decide +kernel
theorem dX5_succeeds_192 : decode cX5_succeeds 192 = .ok (.iconst 0, 1) := by decide +kernel
theorem dX5_succeeds_193 : decode cX5_succeeds 193 = .ok (.ireturn, 1) := by decide +kernel
theorem dX5_succeeds_194 : decode cX5_succeeds 194 = .ok (.iload_n 3, 1) := by decide +kernel
theorem dX5_succeeds_195 : decode cX5_succeeds 195 = .ok (.ifCond .ne 29, 3) := by decide +kernel
theorem dX5_succeeds_198 : decode cX5_succeeds 198 = .ok (.iload 4, 2) := by decide +kernel
theorem dX5_succeeds_200 : decode cX5_succeeds 200 = .ok (.ifCond .ne 24, 3) := by decide +kernel
theorem dX5_succeeds_203 : decode cX5_succeeds 203 = .ok (.aload_n 0, 1) := by decide +kernel
theorem dX5_succeeds_204 : decode cX5_succeeds 204 = .ok (.getfield 9, 3) := by decide +kernel
theorem dX5_succeeds_207 : decode cX5_succeeds 207 = .ok (.getfield 37, 3) := by decide +kernel
theorem dX5_succeeds_210 : decode cX5_succeeds 210 = .ok (.sipush (-10001), 3) := by decide +kernel
theorem dX5_succeeds_213 : decode cX5_succeeds 213 = .ok (.iload_n 2, 1) := by decide +kernel
theorem dX5_succeeds_214 : decode cX5_succeeds 214 = .ok (.invokevirtual 41, 3) := by decide +kernel
theorem dX5_succeeds_217 : decode cX5_succeeds 217 = .ok (.ifCond .eq 7, 3) := by decide +kernel
theorem dX5_succeeds_220 : decode cX5_succeeds 220 = .ok (.iconst 1, 1) := by decide +kernel
theorem dX5_succeeds_221 : decode cX5_succeeds 221 = .ok (.goto 4, 3) := by decide +kernel
theorem dX5_succeeds_224 : decode cX5_succeeds 224 = .ok (.iconst 0, 1) := by decide +kernel
theorem dX5_succeeds_225 : decode cX5_succeeds 225 = .ok (.ireturn, 1) := by decide +kernel
theorem dX5_succeeds_226 : decode cX5_succeeds 226 = .ok (.iload 4, 2) := by decide +kernel
theorem dX5_succeeds_228 : decode cX5_succeeds 228 = .ok (.ifCond .ne 22, 3) := by decide +kernel
theorem dX5_succeeds_231 : decode cX5_succeeds 231 = .ok (.aload_n 0, 1) := by decide +kernel
theorem dX5_succeeds_232 : decode cX5_succeeds 232 = .ok (.getfield 9, 3) := by decide +kernel
theorem dX5_succeeds_235 : decode cX5_succeeds 235 = .ok (.getfield 37, 3) := by decide +kernel
theorem dX5_succeeds_238 : decode cX5_succeeds 238 = .ok (.iload_n 2, 1) := by decide +kernel
theorem dX5_succeeds_239 : decode cX5_succeeds 239 = .ok (.iload_n 3, 1) := by decide +kernel
theorem dX5_succeeds_240 : decode cX5_succeeds 240 = .ok (.invokevirtual 41, 3) := by decide +kernel
theorem dX5_succeeds_243 : decode cX5_succeeds 243 = .ok (.ifCond .eq 7, 3) := by decide +kernel
theorem dX5_succeeds_246 : decode cX5_succeeds 246 = .ok (.iconst 1, 1) := by decide +kernel
theorem dX5_succeeds_247 : decode cX5_succeeds 247 = .ok (.goto 4, 3) := by decide +kernel
theorem dX5_succeeds_250 : decode cX5_succeeds 250 = .ok (.iconst 0, 1) := by decide +kernel
theorem dX5_succeeds_251 : decode cX5_succeeds 251 = .ok (.ireturn, 1) := by decide +kernel
theorem dX5_succeeds_252 : decode cX5_succeeds 252 = .ok (.iload_n 3, 1) := by decide +kernel
theorem dX5_succeeds_253 : decode cX5_succeeds 253 = .ok (.ifCond .ne 33, 3) := by decide +kernel
theorem dX5_succeeds_256 : decode cX5_succeeds 256 = .ok (.aload_n 0, 1) := by decide +kernel
theorem dX5_succeeds_257 : decode cX5_succeeds 257 = .ok (.getfield 9, 3) := by decide +kernel
theorem dX5_succeeds_260 : decode cX5_succeeds 260 = .ok (.iload_n 2, 1) := by decide +kernel
theorem dX5_succeeds_261 : decode cX5_succeeds 261 = .ok (.invokevirtual 20, 3) := by decide +kernel
theorem dX5_succeeds_264 : decode cX5_succeeds 264 = .ok (.ifCond .eq 22, 3) := by decide +kernel
theorem dX5_succeeds_267 : decode cX5_succeeds 267 = .ok (.aload_n 0, 1) := by decide +kernel
theorem dX5_succeeds_268 : decode cX5_succeeds 268 = .ok (.getfield 9, 3) := by decide +kernel
theorem dX5_succeeds_271 : decode cX5_succeeds 271 = .ok (.iload_n 2, 1) := by decide +kernel
theorem dX5_succeeds_272 : decode cX5_succeeds 272 = .ok (.bipush 6, 2) := by decide +kernel
theorem dX5_succeeds_274 : decode cX5_succeeds 274 = .ok (.invokevirtual 46, 3) := by decide +kernel
theorem dX5_succeeds_277 : decode cX5_succeeds 277 = .ok (.iload 4, 2) := by decide +kernel
theorem dX5_succeeds_279 : decode cX5_succeeds 279 = .ok (.if_icmp .gt 7, 3) := by decide +kernel
theorem dX5_succeeds_282 : decode cX5_succeeds 282 = .ok (.iconst 1, 1) := by decide +kernel
theorem dX5_succeeds_283 : decode cX5_succeeds 283 = .ok (.goto 4, 3) := by decide +kernel
theorem dX5_succeeds_286 : decode cX5_succeeds 286 = .ok (.iconst 0, 1) := by decide +kernel
theorem dX5_succeeds_287 : decode cX5_succeeds 287 = .ok (.ireturn, 1) := by decide +kernel
theorem dX5_succeeds_288 : decode cX5_succeeds 288 = .ok (.iload_n 2, 1) := by decide +kernel
theorem dX5_succeeds_289 : decode cX5_succeeds 289 = .ok (.ifCond .ne 23, 3) := by decide +kernel
theorem dX5_succeeds_292 : decode cX5_succeeds 292 = .ok (.iload_n 3, 1) := by decide +kernel
theorem dX5_succeeds_293 : decode cX5_succeeds 293 = .ok (.ifCond .ne 19, 3) := by decide +kernel
theorem dX5_succeeds_296 : decode cX5_succeeds 296 = .ok (.aload_n 0, 1) := by decide +kernel
theorem dX5_succeeds_297 : decode cX5_succeeds 297 = .ok (.getfield 9, 3) := by decide +kernel
theorem dX5_succeeds_300 : decode cX5_succeeds 300 = .ok (.getfield 49, 3) := by decide +kernel
theorem dX5_succeeds_303 : decode cX5_succeeds 303 = .ok (.iload 4, 2) := by decide +kernel
theorem dX5_succeeds_305 : decode cX5_succeeds 305 = .ok (.if_icmp .gt 7, 3) := by decide +kernel
theorem dX5_succeeds_308 : decode cX5_succeeds 308 = .ok (.iconst 1, 1) := by decide +kernel
theorem dX5_succeeds_309 : decode cX5_succeeds 309 = .ok (.goto 4, 3) := by decide +kernel
theorem dX5_succeeds_312 : decode cX5_succeeds 312 = .ok (.iconst 0, 1) := by decide +kernel
theorem dX5_succeeds_313 : decode cX5_succeeds 313 = .ok (.ireturn, 1) := by decide +kernel
theorem dX5_succeeds_314 : decode cX5_succeeds 314 = .ok (.aload_n 0, 1) := by decide +kernel
theorem dX5_succeeds_315 : decode cX5_succeeds 315 = .ok (.getfield 9, 3) := by decide +kernel
theorem dX5_succeeds_318 : decode cX5_succeeds 318 = .ok (.iload_n 2, 1) := by decide +kernel
theorem dX5_succeeds_319 : decode cX5_succeeds 319 = .ok (.invokevirtual 20, 3) := by decide +kernel
theorem dX5_succeeds_322 : decode cX5_succeeds 322 = .ok (.ifCond .eq 17, 3) := by decide +kernel
theorem dX5_succeeds_325 : decode cX5_succeeds 325 = .ok (.aload_n 0, 1) := by decide +kernel
theorem dX5_succeeds_326 : decode cX5_succeeds 326 = .ok (.iload_n 2, 1) := by decide +kernel
theorem dX5_succeeds_327 : decode cX5_succeeds 327 = .ok (.invokevirtual 53, 3) := by decide +kernel
theorem dX5_succeeds_330 : decode cX5_succeeds 330 = .ok (.iload 5, 2) := by decide +kernel
theorem dX5_succeeds_332 : decode cX5_succeeds 332 = .ok (.if_icmp .ne 7, 3) := by decide +kernel
theorem dX5_succeeds_335 : decode cX5_succeeds 335 = .ok (.iconst 1, 1) := by decide +kernel
theorem dX5_succeeds_336 : decode cX5_succeeds 336 = .ok (.goto 4, 3) := by decide +kernel
theorem dX5_succeeds_339 : decode cX5_succeeds 339 = .ok (.iconst 0, 1) := by decide +kernel
theorem dX5_succeeds_340 : decode cX5_succeeds 340 = .ok (.ireturn, 1) := by decide +kernel
theorem dX5_succeeds_341 : decode cX5_succeeds 341 = .ok (.iconst 0, 1) := by decide +kernel
theorem dX5_succeeds_342 : decode cX5_succeeds 342 = .ok (.ireturn, 1) := by decide +kernel
set_option maxRecDepth 20000 in
theorem ggX5_isChained_X4_hasPart : GoodIn wsX5_isChained wsX4_hasPart := goodIn_r _ [6, 7, 23, 24, 25, 26, 27, 28, 29, 30, 31] (by decide +kernel) (by decide +kernel)
set_option maxRecDepth 20000 in
theorem gX5_isChained_X4_hasPart : GoodIn wsX5_isChained (wsV RX5 20 RX4 yX4_hasPart wsX4_hasPart) := goodIn_app (goodIn_of _ (by decide +kernel)) ggX5_isChained_X4_hasPart
set_option maxRecDepth 20000 in
theorem ggX5_isChained_X4_mayChainTo : GoodIn wsX5_isChained wsX4_mayChainTo := goodIn_r _ [11] (by decide +kernel) (by decide +kernel)
set_option maxRecDepth 20000 in
theorem gX5_isChained_X4_mayChainTo : GoodIn wsX5_isChained (wsV RX5 57 RX4 yX4_mayChainTo wsX4_mayChainTo) := goodIn_app (goodIn_of _ (by decide +kernel)) ggX5_isChained_X4_mayChainTo
set_option maxRecDepth 20000 in
theorem ggX5_isChained_X4_chainTo : GoodIn wsX5_isChained wsX4_chainTo := goodIn_r _ [15, 16, 17, 18, 5, 19, 20, 23, 24, 25, 26, 27, 28, 29, 30, 31] (by decide +kernel) (by decide +kernel)
set_option maxRecDepth 20000 in
theorem gX5_isChained_X4_chainTo : GoodIn wsX5_isChained (wsV RX5 60 RX4 yX4_chainTo wsX4_chainTo) := goodIn_app (goodIn_of _ (by decide +kernel)) ggX5_isChained_X4_chainTo
theorem dX5_isChained_0 : decode cX5_isChained 0 = .ok (.aload_n 0, 1) := by decide +kernel
theorem dX5_isChained_1 : decode cX5_isChained 1 = .ok (.getfield 9, 3) := by decide +kernel
theorem dX5_isChained_4 : decode cX5_isChained 4 = .ok (.iload_n 1, 1) := by decide +kernel
theorem dX5_isChained_5 : decode cX5_isChained 5 = .ok (.invokevirtual 20, 3) := by decide +kernel
theorem dX5_isChained_8 : decode cX5_isChained 8 = .ok (.ifCond .eq 15, 3) := by decide +kernel
theorem dX5_isChained_11 : decode cX5_isChained 11 = .ok (.aload_n 0, 1) := by decide +kernel
theorem dX5_isChained_12 : decode cX5_isChained 12 = .ok (.getfield 9, 3) := by decide +kernel
theorem dX5_isChained_15 : decode cX5_isChained 15 = .ok (.iload_n 1, 1) := by decide +kernel
theorem dX5_isChained_16 : decode cX5_isChained 16 = .ok (.iload_n 2, 1) := by decide +kernel
theorem dX5_isChained_17 : decode cX5_isChained 17 = .ok (.invokevirtual 57, 3) := by decide +kernel
theorem dX5_isChained_20 : decode cX5_isChained 20 = .ok (.ifCond .ne 5, 3) := by decide +kernel
theorem dX5_isChained_23 : decode cX5_isChained 23 = .ok (.iconst 0, 1) := by decide +kernel
theorem dX5_isChained_24 : decode cX5_isChained 24 = .ok (.ireturn, 1) := by decide +kernel
theorem dX5_isChained_25 : decode cX5_isChained 25 = .ok (.aload_n 0, 1) := by decide +kernel
theorem dX5_isChained_26 : decode cX5_isChained 26 = .ok (.getfield 9, 3) := by decide +kernel
theorem dX5_isChained_29 : decode cX5_isChained 29 = .ok (.iload_n 1, 1) := by decide +kernel
theorem dX5_isChained_30 : decode cX5_isChained 30 = .ok (.iload_n 2, 1) := by decide +kernel
theorem dX5_isChained_31 : decode cX5_isChained 31 = .ok (.iconst 0, 1) := by decide +kernel
theorem dX5_isChained_32 : decode cX5_isChained 32 = .ok (.invokevirtual 60, 3) := by decide +kernel
theorem dX5_isChained_35 : decode cX5_isChained 35 = .ok (.iconst 1, 1) := by decide +kernel
theorem dX5_isChained_36 : decode cX5_isChained 36 = .ok (.ireturn, 1) := by decide +kernel
set_option maxRecDepth 20000 in
theorem ggX5_isNetted_X4_hasPart : GoodIn wsX5_isNetted wsX4_hasPart := goodIn_r _ [6, 7, 19, 20, 21, 22, 23, 24, 25, 26, 27] (by decide +kernel) (by decide +kernel)
set_option maxRecDepth 20000 in
theorem gX5_isNetted_X4_hasPart : GoodIn wsX5_isNetted (wsV RX5 20 RX4 yX4_hasPart wsX4_hasPart) := goodIn_app (goodIn_of _ (by decide +kernel)) ggX5_isNetted_X4_hasPart
set_option maxRecDepth 20000 in
theorem ggX5_isNetted_X4_setNet : GoodIn wsX5_isNetted wsX4_setNet := goodIn_r _ [11, 12, 13, 14, 5, 15, 16, 19, 20, 21, 22, 23, 24, 25, 26, 27] (by decide +kernel) (by decide +kernel)
set_option maxRecDepth 20000 in
theorem gX5_isNetted_X4_setNet : GoodIn wsX5_isNetted (wsV RX5 64 RX4 yX4_setNet wsX4_setNet) := goodIn_app (goodIn_of _ (by decide +kernel)) ggX5_isNetted_X4_setNet
theorem dX5_isNetted_0 : decode cX5_isNetted 0 = .ok (.aload_n 0, 1) := by decide +kernel
theorem dX5_isNetted_1 : decode cX5_isNetted 1 = .ok (.getfield 9, 3) := by decide +kernel
theorem dX5_isNetted_4 : decode cX5_isNetted 4 = .ok (.iload_n 1, 1) := by decide +kernel
theorem dX5_isNetted_5 : decode cX5_isNetted 5 = .ok (.invokevirtual 20, 3) := by decide +kernel
theorem dX5_isNetted_8 : decode cX5_isNetted 8 = .ok (.ifCond .ne 5, 3) := by decide +kernel
theorem dX5_isNetted_11 : decode cX5_isNetted 11 = .ok (.iconst 0, 1) := by decide +kernel
theorem dX5_isNetted_12 : decode cX5_isNetted 12 = .ok (.ireturn, 1) := by decide +kernel
theorem dX5_isNetted_13 : decode cX5_isNetted 13 = .ok (.aload_n 0, 1) := by decide +kernel
theorem dX5_isNetted_14 : decode cX5_isNetted 14 = .ok (.getfield 9, 3) := by decide +kernel
theorem dX5_isNetted_17 : decode cX5_isNetted 17 = .ok (.iload_n 1, 1) := by decide +kernel
theorem dX5_isNetted_18 : decode cX5_isNetted 18 = .ok (.iload_n 2, 1) := by decide +kernel
theorem dX5_isNetted_19 : decode cX5_isNetted 19 = .ok (.invokevirtual 64, 3) := by decide +kernel
theorem dX5_isNetted_22 : decode cX5_isNetted 22 = .ok (.iconst 1, 1) := by decide +kernel
theorem dX5_isNetted_23 : decode cX5_isNetted 23 = .ok (.ireturn, 1) := by decide +kernel
set_option maxRecDepth 20000 in
theorem ggX5_wouldGive_X4_copyFrom : GoodIn wsX5_wouldGive wsX4_copyFrom := goodIn_r _ [7, 8, 9, 10, 11, 12, 13, 14, 15, 16, 17, 18, 19, 20, 21, 22, 23, 24, 25, 26, 27, 28, 29, 30, 31, 32, 33, 34, 35, 107, 108, 109, 110, 111, 112, 113, 114, 115, 116, 117, 118] (by decide +kernel) (by decide +kernel)
set_option maxRecDepth 20000 in
theorem gX5_wouldGive_X4_copyFrom : GoodIn wsX5_wouldGive (wsV RX5 68 RX4 yX4_copyFrom wsX4_copyFrom) := goodIn_app (goodIn_of _ (by decide +kernel)) ggX5_wouldGive_X4_copyFrom
set_option maxRecDepth 20000 in
theorem ggX5_wouldGive_X4_callFromOutside : GoodIn wsX5_wouldGive wsX4_callFromOutside := goodIn_r _ [39, 17, 19, 40, 41, 42, 6, 43, 16, 8, 44, 45, 46, 47, 10, 48, 49, 50, 24, 51, 26, 52, 53, 54, 55, 56, 57, 58, 59, 60, 61, 62, 63, 64, 65, 18, 9, 66, 67, 68, 31, 69, 33, 34, 12, 13, 14, 35, 70, 71, 72, 73, 74, 75, 76, 77, 78, 79, 80, 81, 82, 83, 84, 85, 86, 87, 88, 89, 90, 91, 92, 93, 94, 95, 96, 20, 97, 98, 99, 100, 101, 102, 103, 104, 107, 108, 109, 110, 111, 112, 113, 114, 115, 116, 117, 118] (by decide +kernel) (by decide +kernel)
set_option maxRecDepth 20000 in
theorem gX5_wouldGive_X4_callFromOutside : GoodIn wsX5_wouldGive (wsV RX5 26 RX4 yX4_callFromOutside wsX4_callFromOutside) := goodIn_app (goodIn_of _ (by decide +kernel)) ggX5_wouldGive_X4_callFromOutside
theorem dX5_wouldGive_0 : decode cX5_wouldGive 0 = .ok (.aload_n 0, 1) := by decide +kernel
theorem dX5_wouldGive_1 : decode cX5_wouldGive 1 = .ok (.getfield 15, 3) := by decide +kernel
theorem dX5_wouldGive_4 : decode cX5_wouldGive 4 = .ok (.aload_n 0, 1) := by decide +kernel
theorem dX5_wouldGive_5 : decode cX5_wouldGive 5 = .ok (.getfield 9, 3) := by decide +kernel
theorem dX5_wouldGive_8 : decode cX5_wouldGive 8 = .ok (.invokevirtual 68, 3) := by decide +kernel
theorem dX5_wouldGive_11 : decode cX5_wouldGive 11 = .ok (.aload_n 0, 1) := by decide +kernel
theorem dX5_wouldGive_12 : decode cX5_wouldGive 12 = .ok (.getfield 15, 3) := by decide +kernel
theorem dX5_wouldGive_15 : decode cX5_wouldGive 15 = .ok (.iload_n 1, 1) := by decide +kernel
theorem dX5_wouldGive_16 : decode cX5_wouldGive 16 = .ok (.iconst 0, 1) := by decide +kernel
theorem dX5_wouldGive_17 : decode cX5_wouldGive 17 = .ok (.invokevirtual 26, 3) := by decide +kernel
theorem dX5_wouldGive_20 : decode cX5_wouldGive 20 = .ok (.ireturn, 1) := by decide +kernel
theorem dX6_init_0 : decode cX6_init 0 = .ok (.aload_n 0, 1) := by decide +kernel
theorem dX6_init_1 : decode cX6_init 1 = .ok (.invokespecial 3, 3) := by decide +kernel
theorem dX6_init_4 : decode cX6_init 4 = .ok (.aload_n 0, 1) := by decide +kernel
theorem dX6_init_5 : decode cX6_init 5 = .ok (.bipush 120, 2) := by decide +kernel
theorem dX6_init_7 : decode cX6_init 7 = .ok (.newarray .char, 2) := by decide +kernel
theorem dX6_init_9 : decode cX6_init 9 = .ok (.putfield 11, 3) := by decide +kernel
theorem dX6_init_12 : decode cX6_init 12 = .ok (.return_, 1) := by decide +kernel
theorem dX6_size_0 : decode cX6_size 0 = .ok (.aload_n 0, 1) := by decide +kernel
theorem dX6_size_1 : decode cX6_size 1 = .ok (.getfield 15, 3) := by decide +kernel
theorem dX6_size_4 : decode cX6_size 4 = .ok (.ireturn, 1) := by decide +kernel
theorem dX6_isFull_0 : decode cX6_isFull 0 = .ok (.aload_n 0, 1) := by decide +kernel
theorem dX6_isFull_1 : decode cX6_isFull 1 = .ok (.getfield 15, 3) := by decide +kernel
theorem dX6_isFull_4 : decode cX6_isFull 4 = .ok (.bipush 120, 2) := by decide +kernel
theorem dX6_isFull_6 : decode cX6_isFull 6 = .ok (.if_icmp .lt 7, 3) := by decide +kernel
theorem dX6_isFull_9 : decode cX6_isFull 9 = .ok (.iconst 1, 1) := by decide +kernel
theorem dX6_isFull_10 : decode cX6_isFull 10 = .ok (.goto 4, 3) := by decide +kernel
theorem dX6_isFull_13 : decode cX6_isFull 13 = .ok (.iconst 0, 1) := by decide +kernel
theorem dX6_isFull_14 : decode cX6_isFull 14 = .ok (.ireturn, 1) := by decide +kernel
set_option maxRecDepth 20000 in
theorem ggX6_put_X6_isFull : GoodIn wsX6_put wsX6_isFull := goodIn_r _ [7, 2, 8, 9] (by decide +kernel) (by decide +kernel)
set_option maxRecDepth 20000 in
theorem gX6_put_X6_isFull : GoodIn wsX6_put (wsV RX6 19 RX6 yX6_isFull wsX6_isFull) := goodIn_app (goodIn_of _ (by decide +kernel)) ggX6_put_X6_isFull
theorem dX6_put_0 : decode cX6_put 0 = .ok (.aload_n 0, 1) := by decide +kernel
theorem dX6_put_1 : decode cX6_put 1 = .ok (.invokevirtual 19, 3) := by decide +kernel
theorem dX6_put_4 : decode cX6_put 4 = .ok (.ifCond .ne 24, 3) := by decide +kernel
theorem dX6_put_7 : decode cX6_put 7 = .ok (.aload_n 0, 1) := by decide +kernel
theorem dX6_put_8 : decode cX6_put 8 = .ok (.getfield 11, 3) := by decide +kernel
theorem dX6_put_11 : decode cX6_put 11 = .ok (.aload_n 0, 1) := by decide +kernel
theorem dX6_put_12 : decode cX6_put 12 = .ok (.getfield 15, 3) := by decide +kernel
theorem dX6_put_15 : decode cX6_put 15 = .ok (.iload_n 1, 1) := by decide +kernel
theorem dX6_put_16 : decode cX6_put 16 = .ok (.i2c, 1) := by decide +kernel
theorem dX6_put_17 : decode cX6_put 17 = .ok (.castore, 1) := by decide +kernel
theorem dX6_put_18 : decode cX6_put 18 = .ok (.aload_n 0, 1) := by decide +kernel
theorem dX6_put_19 : decode cX6_put 19 = .ok (.dup, 1) := by decide +kernel
theorem dX6_put_20 : decode cX6_put 20 = .ok (.getfield 15, 3) := by decide +kernel
theorem dX6_put_23 : decode cX6_put 23 = .ok (.iconst 1, 1) := by decide +kernel
theorem dX6_put_24 : decode cX6_put 24 = .ok (.iadd, 1) := by decide +kernel
theorem dX6_put_25 : decode cX6_put 25 = .ok (.putfield 15, 3) := by decide +kernel
theorem dX6_put_28 : decode cX6_put 28 = .ok (.return_, 1) := by decide +kernel
theorem dX6_empty_0 : decode cX6_empty 0 = .ok (.aload_n 0, 1) := by decide +kernel
theorem dX6_empty_1 : decode cX6_empty 1 = .ok (.iconst 0, 1) := by decide +kernel
theorem dX6_empty_2 : decode cX6_empty 2 = .ok (.putfield 15, 3) := by decide +kernel
theorem dX6_empty_5 : decode cX6_empty 5 = .ok (.return_, 1) := by decide +kernel
theorem dX6_codeAt_0 : decode cX6_codeAt 0 = .ok (.iload_n 1, 1) := by decide +kernel
theorem dX6_codeAt_1 : decode cX6_codeAt 1 = .ok (.ifCond .lt 20, 3) := by decide +kernel
theorem dX6_codeAt_4 : decode cX6_codeAt 4 = .ok (.iload_n 1, 1) := by decide +kernel
theorem dX6_codeAt_5 : decode cX6_codeAt 5 = .ok (.aload_n 0, 1) := by decide +kernel
theorem dX6_codeAt_6 : decode cX6_codeAt 6 = .ok (.getfield 15, 3) := by decide +kernel
theorem dX6_codeAt_9 : decode cX6_codeAt 9 = .ok (.if_icmp .ge 12, 3) := by decide +kernel
theorem dX6_codeAt_12 : decode cX6_codeAt 12 = .ok (.aload_n 0, 1) := by decide +kernel
theorem dX6_codeAt_13 : decode cX6_codeAt 13 = .ok (.getfield 11, 3) := by decide +kernel
theorem dX6_codeAt_16 : decode cX6_codeAt 16 = .ok (.iload_n 1, 1) := by decide +kernel
theorem dX6_codeAt_17 : decode cX6_codeAt 17 = .ok (.caload, 1) := by decide +kernel
theorem dX6_codeAt_18 : decode cX6_codeAt 18 = .ok (.goto 4, 3) := by decide +kernel
theorem dX6_codeAt_21 : decode cX6_codeAt 21 = .ok (.iconst (-1), 1) := by decide +kernel
theorem dX6_codeAt_22 : decode cX6_codeAt 22 = .ok (.ireturn, 1) := by decide +kernel
set_option maxRecDepth 20000 in
theorem ggX6_firstError_X6_codeAt : GoodIn wsX6_firstError wsX6_codeAt := goodIn_r _ [6, 1, 7, 67, 68] (by decide +kernel) (by decide +kernel)
set_option maxRecDepth 20000 in
theorem gX6_firstError_X6_codeAt : GoodIn wsX6_firstError (wsV RX6 23 RX6 yX6_codeAt wsX6_codeAt) := goodIn_app (goodIn_of _ (by decide +kernel)) ggX6_firstError_X6_codeAt
set_option maxRecDepth 20000 in
theorem ggX6_firstError_X6_shapeAfter : GoodIn wsX6_firstError wsX6_shapeAfter := goodIn_r _ [10] (by decide +kernel) (by decide +kernel)
set_option maxRecDepth 20000 in
theorem gX6_firstError_X6_shapeAfter : GoodIn wsX6_firstError (va_wsS RX6 27 yX6_shapeAfter wsX6_shapeAfter) := goodIn_app (goodIn_of _ (by decide +kernel)) ggX6_firstError_X6_shapeAfter
set_option maxRecDepth 20000 in
theorem ggX6_firstError_J0_isEmpty_aae02 : GoodIn wsX6_firstError wsJ0_isEmpty_aae02 := goodIn_r _ [15, 16] (by decide +kernel) (by decide +kernel)
set_option maxRecDepth 20000 in
theorem gX6_firstError_J0_isEmpty_aae02 : GoodIn wsX6_firstError (wsV RX6 31 RJ0 yJ0_isEmpty_aae02 wsJ0_isEmpty_aae02) := goodIn_app (goodIn_of _ (by decide +kernel)) ggX6_firstError_J0_isEmpty_aae02
set_option maxRecDepth 20000 in
theorem ggX6_firstError_J0_length_8abf5 : GoodIn wsX6_firstError wsJ0_length_8abf5 := goodIn_r _ [20, 16, 21, 22, 23, 14, 24, 25, 26] (by decide +kernel) (by decide +kernel)
set_option maxRecDepth 20000 in
theorem gX6_firstError_J0_length_8abf5 : GoodIn wsX6_firstError (wsV RX6 36 RJ0 yJ0_length_8abf5 wsJ0_length_8abf5) := goodIn_app (goodIn_of _ (by decide +kernel)) ggX6_firstError_J0_length_8abf5
set_option maxRecDepth 20000 in
theorem ggX6_firstError_J0_charAt_5068e : GoodIn wsX6_firstError wsJ0_charAt_5068e := goodIn_r _ [30, 16, 31, 32, 33, 14, 34, 25, 26, 35, 36, 37, 38, 39, 40, 41, 42, 43, 44, 45, 46, 47, 48, 49, 50, 51, 52, 53, 54, 55, 56, 57, 58, 59, 60, 61, 62, 63] (by decide +kernel) (by decide +kernel)
set_option maxRecDepth 20000 in
theorem gX6_firstError_J0_charAt_5068e : GoodIn wsX6_firstError (wsV RX6 39 RJ0 yJ0_charAt_5068e wsJ0_charAt_5068e) := goodIn_app (goodIn_of _ (by decide +kernel)) ggX6_firstError_J0_charAt_5068e
set_option maxRecDepth 20000 in
theorem ggX6_firstError_X6_fits : GoodIn wsX6_firstError wsX6_fits := goodIn_r _ [66] (by decide +kernel) (by decide +kernel)
set_option maxRecDepth 20000 in
theorem gX6_firstError_X6_fits : GoodIn wsX6_firstError (va_wsS RX6 43 yX6_fits wsX6_fits) := goodIn_app (goodIn_of _ (by decide +kernel)) ggX6_firstError_X6_fits
theorem dX6_firstError_0 : decode cX6_firstError 0 = .ok (.aload_n 0, 1) := by decide +kernel
theorem dX6_firstError_1 : decode cX6_firstError 1 = .ok (.iconst 0, 1) := by decide +kernel
theorem dX6_firstError_2 : decode cX6_firstError 2 = .ok (.invokevirtual 23, 3) := by decide +kernel
theorem dX6_firstError_5 : decode cX6_firstError 5 = .ok (.bipush 67, 2) := by decide +kernel
theorem dX6_firstError_7 : decode cX6_firstError 7 = .ok (.if_icmp .eq 5, 3) := by decide +kernel
theorem dX6_firstError_10 : decode cX6_firstError 10 = .ok (.iconst 0, 1) := by decide +kernel
theorem dX6_firstError_11 : decode cX6_firstError 11 = .ok (.ireturn, 1) := by decide +kernel
theorem dX6_firstError_12 : decode cX6_firstError 12 = .ok (.iconst 1, 1) := by decide +kernel
theorem dX6_firstError_13 : decode cX6_firstError 13 = .ok (.istore_n 1, 1) := by decide +kernel
theorem dX6_firstError_14 : decode cX6_firstError 14 = .ok (.iload_n 1, 1) := by decide +kernel
theorem dX6_firstError_15 : decode cX6_firstError 15 = .ok (.aload_n 0, 1) := by decide +kernel
theorem dX6_firstError_16 : decode cX6_firstError 16 = .ok (.getfield 15, 3) := by decide +kernel
theorem dX6_firstError_19 : decode cX6_firstError 19 = .ok (.if_icmp .ge 64, 3) := by decide +kernel
theorem dX6_firstError_22 : decode cX6_firstError 22 = .ok (.aload_n 0, 1) := by decide +kernel
theorem dX6_firstError_23 : decode cX6_firstError 23 = .ok (.iload_n 1, 1) := by decide +kernel
theorem dX6_firstError_24 : decode cX6_firstError 24 = .ok (.invokevirtual 23, 3) := by decide +kernel
theorem dX6_firstError_27 : decode cX6_firstError 27 = .ok (.invokestatic 27, 3) := by decide +kernel
theorem dX6_firstError_30 : decode cX6_firstError 30 = .ok (.astore_n 2, 1) := by decide +kernel
theorem dX6_firstError_31 : decode cX6_firstError 31 = .ok (.aload_n 2, 1) := by decide +kernel
theorem dX6_firstError_32 : decode cX6_firstError 32 = .ok (.invokevirtual 31, 3) := by decide +kernel
theorem dX6_firstError_35 : decode cX6_firstError 35 = .ok (.ifCond .eq 5, 3) := by decide +kernel
theorem dX6_firstError_38 : decode cX6_firstError 38 = .ok (.iload_n 1, 1) := by decide +kernel
theorem dX6_firstError_39 : decode cX6_firstError 39 = .ok (.ireturn, 1) := by decide +kernel
theorem dX6_firstError_40 : decode cX6_firstError 40 = .ok (.iinc 1 1, 3) := by decide +kernel
theorem dX6_firstError_43 : decode cX6_firstError 43 = .ok (.iconst 0, 1) := by decide +kernel
theorem dX6_firstError_44 : decode cX6_firstError 44 = .ok (.istore_n 3, 1) := by decide +kernel
theorem dX6_firstError_45 : decode cX6_firstError 45 = .ok (.iload_n 3, 1) := by decide +kernel
theorem dX6_firstError_46 : decode cX6_firstError 46 = .ok (.aload_n 2, 1) := by decide +kernel
theorem dX6_firstError_47 : decode cX6_firstError 47 = .ok (.invokevirtual 36, 3) := by decide +kernel
theorem dX6_firstError_50 : decode cX6_firstError 50 = .ok (.if_icmp .ge 30, 3) := by decide +kernel
theorem dX6_firstError_53 : decode cX6_firstError 53 = .ok (.aload_n 0, 1) := by decide +kernel
theorem dX6_firstError_54 : decode cX6_firstError 54 = .ok (.iload_n 1, 1) := by decide +kernel
theorem dX6_firstError_55 : decode cX6_firstError 55 = .ok (.invokevirtual 23, 3) := by decide +kernel
theorem dX6_firstError_58 : decode cX6_firstError 58 = .ok (.aload_n 2, 1) := by decide +kernel
theorem dX6_firstError_59 : decode cX6_firstError 59 = .ok (.iload_n 3, 1) := by decide +kernel
theorem dX6_firstError_60 : decode cX6_firstError 60 = .ok (.invokevirtual 39, 3) := by decide +kernel
theorem dX6_firstError_63 : decode cX6_firstError 63 = .ok (.invokestatic 43, 3) := by decide +kernel
theorem dX6_firstError_66 : decode cX6_firstError 66 = .ok (.ifCond .ne 5, 3) := by decide +kernel
theorem dX6_firstError_69 : decode cX6_firstError 69 = .ok (.iload_n 1, 1) := by decide +kernel
theorem dX6_firstError_70 : decode cX6_firstError 70 = .ok (.ireturn, 1) := by decide +kernel
theorem dX6_firstError_71 : decode cX6_firstError 71 = .ok (.iinc 1 1, 3) := by decide +kernel
theorem dX6_firstError_74 : decode cX6_firstError 74 = .ok (.iinc 3 1, 3) := by decide +kernel
theorem dX6_firstError_77 : decode cX6_firstError 77 = .ok (.goto (-32), 3) := by decide +kernel
theorem dX6_firstError_80 : decode cX6_firstError 80 = .ok (.goto (-66), 3) := by decide +kernel
theorem dX6_firstError_83 : decode cX6_firstError 83 = .ok (.sipush (-10000), 3) := by decide +kernel
theorem dX6_firstError_86 : decode cX6_firstError 86 = .ok (.ireturn, 1) := by decide +kernel
theorem dX6_shapeAfter_0 : decode cX6_shapeAfter 0 = .ok (.iload_n 0, 1) := by decide +kernel
theorem dX6_shapeAfter_1 : decode cX6_shapeAfter 1 = .ok (.tableswitch 86 107 120 #[80, 86, 86, 71, 77, 86, 86, 86, 74, 86, 86, 86, 86, 83], 71) := by decide +kernel
theorem dX6_shapeAfter_72 : decode cX6_shapeAfter 72 = .ok (.ldc 47, 2) := by decide +kernel
theorem dX6_shapeAfter_74 : decode cX6_shapeAfter 74 = .ok (.areturn, 1) := by decide +kernel
theorem dX6_shapeAfter_75 : decode cX6_shapeAfter 75 = .ok (.ldc 49, 2) := by decide +kernel
theorem dX6_shapeAfter_77 : decode cX6_shapeAfter 77 = .ok (.areturn, 1) := by decide +kernel
theorem dX6_shapeAfter_78 : decode cX6_shapeAfter 78 = .ok (.ldc 51, 2) := by decide +kernel
theorem dX6_shapeAfter_80 : decode cX6_shapeAfter 80 = .ok (.areturn, 1) := by decide +kernel
theorem dX6_shapeAfter_81 : decode cX6_shapeAfter 81 = .ok (.ldc 53, 2) := by decide +kernel
theorem dX6_shapeAfter_83 : decode cX6_shapeAfter 83 = .ok (.areturn, 1) := by decide +kernel
theorem dX6_shapeAfter_84 : decode cX6_shapeAfter 84 = .ok (.ldc 55, 2) := by decide +kernel
theorem dX6_shapeAfter_86 : decode cX6_shapeAfter 86 = .ok (.areturn, 1) := by decide +kernel
theorem dX6_shapeAfter_87 : decode cX6_shapeAfter 87 = .ok (.ldc 57, 2) := by decide +kernel
theorem dX6_shapeAfter_89 : decode cX6_shapeAfter 89 = .ok (.areturn, 1) := by decide +kernel
theorem dX6_fits_0 : decode cX6_fits 0 = .ok (.iload_n 1, 1) := by decide +kernel
theorem dX6_fits_1 : decode cX6_fits 1 = .ok (.lookupswitch 57 #[(48, 45), (115, 27)], 27) := by decide +kernel
theorem dX6_fits_28 : decode cX6_fits 28 = .ok (.iload_n 0, 1) := by decide +kernel
theorem dX6_fits_29 : decode cX6_fits 29 = .ok (.bipush 43, 2) := by decide +kernel
theorem dX6_fits_31 : decode cX6_fits 31 = .ok (.if_icmp .eq 9, 3) := by decide +kernel
theorem dX6_fits_34 : decode cX6_fits 34 = .ok (.iload_n 0, 1) := by decide +kernel
theorem dX6_fits_35 : decode cX6_fits 35 = .ok (.bipush 45, 2) := by decide +kernel
theorem dX6_fits_37 : decode cX6_fits 37 = .ok (.if_icmp .ne 7, 3) := by decide +kernel
theorem dX6_fits_40 : decode cX6_fits 40 = .ok (.iconst 1, 1) := by decide +kernel
theorem dX6_fits_41 : decode cX6_fits 41 = .ok (.goto 4, 3) := by decide +kernel
theorem dX6_fits_44 : decode cX6_fits 44 = .ok (.iconst 0, 1) := by decide +kernel
theorem dX6_fits_45 : decode cX6_fits 45 = .ok (.ireturn, 1) := by decide +kernel
theorem dX6_fits_46 : decode cX6_fits 46 = .ok (.iload_n 0, 1) := by decide +kernel
theorem dX6_fits_47 : decode cX6_fits 47 = .ok (.bipush 48, 2) := by decide +kernel
theorem dX6_fits_49 : decode cX6_fits 49 = .ok (.if_icmp .ne 7, 3) := by decide +kernel
theorem dX6_fits_52 : decode cX6_fits 52 = .ok (.iconst 1, 1) := by decide +kernel
theorem dX6_fits_53 : decode cX6_fits 53 = .ok (.goto 4, 3) := by decide +kernel
theorem dX6_fits_56 : decode cX6_fits 56 = .ok (.iconst 0, 1) := by decide +kernel
theorem dX6_fits_57 : decode cX6_fits 57 = .ok (.ireturn, 1) := by decide +kernel
theorem dX6_fits_58 : decode cX6_fits 58 = .ok (.iload_n 0, 1) := by decide +kernel
theorem dX6_fits_59 : decode cX6_fits 59 = .ok (.bipush 48, 2) := by decide +kernel
theorem dX6_fits_61 : decode cX6_fits 61 = .ok (.if_icmp .lt 13, 3) := by decide +kernel
theorem dX6_fits_64 : decode cX6_fits 64 = .ok (.iload_n 0, 1) := by decide +kernel
theorem dX6_fits_65 : decode cX6_fits 65 = .ok (.bipush 57, 2) := by decide +kernel
theorem dX6_fits_67 : decode cX6_fits 67 = .ok (.if_icmp .gt 7, 3) := by decide +kernel
theorem dX6_fits_70 : decode cX6_fits 70 = .ok (.iconst 1, 1) := by decide +kernel
theorem dX6_fits_71 : decode cX6_fits 71 = .ok (.goto 4, 3) := by decide +kernel
theorem dX6_fits_74 : decode cX6_fits 74 = .ok (.iconst 0, 1) := by decide +kernel
theorem dX6_fits_75 : decode cX6_fits 75 = .ok (.ireturn, 1) := by decide +kernel
theorem dJ9_max_7cf53_0 : decode cJ9_max_7cf53 0 = .ok (.iload_n 0, 1) := by decide +kernel
theorem dJ9_max_7cf53_1 : decode cJ9_max_7cf53 1 = .ok (.iload_n 1, 1) := by decide +kernel
theorem dJ9_max_7cf53_2 : decode cJ9_max_7cf53 2 = .ok (.if_icmp .lt 7, 3) := by decide +kernel
theorem dJ9_max_7cf53_5 : decode cJ9_max_7cf53 5 = .ok (.iload_n 0, 1) := by decide +kernel
theorem dJ9_max_7cf53_6 : decode cJ9_max_7cf53 6 = .ok (.goto 4, 3) := by decide +kernel
theorem dJ9_max_7cf53_9 : decode cJ9_max_7cf53 9 = .ok (.iload_n 1, 1) := by decide +kernel
theorem dJ9_max_7cf53_10 : decode cJ9_max_7cf53 10 = .ok (.ireturn, 1) := by decide +kernel
theorem dJ9_min_7cf53_0 : decode cJ9_min_7cf53 0 = .ok (.iload_n 0, 1) := by decide +kernel
theorem dJ9_min_7cf53_1 : decode cJ9_min_7cf53 1 = .ok (.iload_n 1, 1) := by decide +kernel
theorem dJ9_min_7cf53_2 : decode cJ9_min_7cf53 2 = .ok (.if_icmp .gt 7, 3) := by decide +kernel
theorem dJ9_min_7cf53_5 : decode cJ9_min_7cf53 5 = .ok (.iload_n 0, 1) := by decide +kernel
theorem dJ9_min_7cf53_6 : decode cJ9_min_7cf53 6 = .ok (.goto 4, 3) := by decide +kernel
theorem dJ9_min_7cf53_9 : decode cJ9_min_7cf53 9 = .ok (.iload_n 1, 1) := by decide +kernel
theorem dJ9_min_7cf53_10 : decode cJ9_min_7cf53 10 = .ok (.ireturn, 1) := by decide +kernel
set_option maxRecDepth 20000 in
theorem ggJ0_length_8abf5_J0_coder_7d493 : GoodIn wsJ0_length_8abf5 wsJ0_coder_7d493 := goodIn_r _ [6, 7, 8] (by decide +kernel) (by decide +kernel)
set_option maxRecDepth 20000 in
theorem gJ0_length_8abf5_J0_coder_7d493 : GoodIn wsJ0_length_8abf5 (wsV RJ0 335 RJ0 yJ0_coder_7d493 wsJ0_coder_7d493) := goodIn_app (goodIn_of _ (by decide +kernel)) ggJ0_length_8abf5_J0_coder_7d493
theorem dJ0_length_8abf5_0 : decode cJ0_length_8abf5 0 = .ok (.aload_n 0, 1) := by decide +kernel
theorem dJ0_length_8abf5_1 : decode cJ0_length_8abf5 1 = .ok (.getfield 9, 3) := by decide +kernel
theorem dJ0_length_8abf5_4 : decode cJ0_length_8abf5 4 = .ok (.arraylength, 1) := by decide +kernel
theorem dJ0_length_8abf5_5 : decode cJ0_length_8abf5 5 = .ok (.aload_n 0, 1) := by decide +kernel
theorem dJ0_length_8abf5_6 : decode cJ0_length_8abf5 6 = .ok (.invokevirtual 335, 3) := by decide +kernel
theorem dJ0_length_8abf5_9 : decode cJ0_length_8abf5 9 = .ok (.ishr, 1) := by decide +kernel
theorem dJ0_length_8abf5_10 : decode cJ0_length_8abf5 10 = .ok (.ireturn, 1) := by decide +kernel
theorem dJ0_isEmpty_aae02_0 : decode cJ0_isEmpty_aae02 0 = .ok (.aload_n 0, 1) := by decide +kernel
theorem dJ0_isEmpty_aae02_1 : decode cJ0_isEmpty_aae02 1 = .ok (.getfield 9, 3) := by decide +kernel
theorem dJ0_isEmpty_aae02_4 : decode cJ0_isEmpty_aae02 4 = .ok (.arraylength, 1) := by decide +kernel
theorem dJ0_isEmpty_aae02_5 : decode cJ0_isEmpty_aae02 5 = .ok (.ifCond .ne 7, 3) := by decide +kernel
theorem dJ0_isEmpty_aae02_8 : decode cJ0_isEmpty_aae02 8 = .ok (.iconst 1, 1) := by decide +kernel
theorem dJ0_isEmpty_aae02_9 : decode cJ0_isEmpty_aae02 9 = .ok (.goto 4, 3) := by decide +kernel
theorem dJ0_isEmpty_aae02_12 : decode cJ0_isEmpty_aae02 12 = .ok (.iconst 0, 1) := by decide +kernel
theorem dJ0_isEmpty_aae02_13 : decode cJ0_isEmpty_aae02 13 = .ok (.ireturn, 1) := by decide +kernel
set_option maxRecDepth 20000 in
theorem ggJ0_charAt_5068e_J0_isLatin1_aae02 : GoodIn wsJ0_charAt_5068e wsJ0_isLatin1_aae02 := goodIn_r _ [6, 7, 8] (by decide +kernel) (by decide +kernel)
set_option maxRecDepth 20000 in
theorem gJ0_charAt_5068e_J0_isLatin1_aae02 : GoodIn wsJ0_charAt_5068e (wsV RJ0 492 RJ0 yJ0_isLatin1_aae02 wsJ0_isLatin1_aae02) := goodIn_app (goodIn_of _ (by decide +kernel)) ggJ0_charAt_5068e_J0_isLatin1_aae02
set_option maxRecDepth 20000 in
theorem ggJ0_charAt_5068e_J1_charAt_3b067 : GoodIn wsJ0_charAt_5068e wsJ1_charAt_3b067 := goodIn_r _ [12, 13, 14, 5, 15, 16, 17, 18, 19, 20] (by decide +kernel) (by decide +kernel)
set_option maxRecDepth 20000 in
theorem gJ0_charAt_5068e_J1_charAt_3b067 : GoodIn wsJ0_charAt_5068e (va_wsS RJ0 495 yJ1_charAt_3b067 wsJ1_charAt_3b067) := goodIn_app (goodIn_of _ (by decide +kernel)) ggJ0_charAt_5068e_J1_charAt_3b067
set_option maxRecDepth 20000 in
theorem ggJ0_charAt_5068e_J2_charAt_3b067 : GoodIn wsJ0_charAt_5068e wsJ2_charAt_3b067 := goodIn_r _ [24, 25, 26, 23, 27, 28, 29, 30, 31, 14, 5, 15, 16, 17, 18, 19, 20, 32, 33, 34, 35, 36, 37] (by decide +kernel) (by decide +kernel)
set_option maxRecDepth 20000 in
theorem gJ0_charAt_5068e_J2_charAt_3b067 : GoodIn wsJ0_charAt_5068e (va_wsS RJ0 498 yJ2_charAt_3b067 wsJ2_charAt_3b067) := goodIn_app (goodIn_of _ (by decide +kernel)) ggJ0_charAt_5068e_J2_charAt_3b067
theorem dJ0_charAt_5068e_0 : decode cJ0_charAt_5068e 0 = .ok (.aload_n 0, 1) := by decide +kernel
theorem dJ0_charAt_5068e_1 : decode cJ0_charAt_5068e 1 = .ok (.invokevirtual 492, 3) := by decide +kernel
theorem dJ0_charAt_5068e_4 : decode cJ0_charAt_5068e 4 = .ok (.ifCond .eq 12, 3) := by decide +kernel
theorem dJ0_charAt_5068e_7 : decode cJ0_charAt_5068e 7 = .ok (.aload_n 0, 1) := by decide +kernel
theorem dJ0_charAt_5068e_8 : decode cJ0_charAt_5068e 8 = .ok (.getfield 9, 3) := by decide +kernel
theorem dJ0_charAt_5068e_11 : decode cJ0_charAt_5068e 11 = .ok (.iload_n 1, 1) := by decide +kernel
theorem dJ0_charAt_5068e_12 : decode cJ0_charAt_5068e 12 = .ok (.invokestatic 495, 3) := by decide +kernel
theorem dJ0_charAt_5068e_15 : decode cJ0_charAt_5068e 15 = .ok (.ireturn, 1) := by decide +kernel
theorem dJ0_charAt_5068e_16 : decode cJ0_charAt_5068e 16 = .ok (.aload_n 0, 1) := by decide +kernel
theorem dJ0_charAt_5068e_17 : decode cJ0_charAt_5068e 17 = .ok (.getfield 9, 3) := by decide +kernel
theorem dJ0_charAt_5068e_20 : decode cJ0_charAt_5068e 20 = .ok (.iload_n 1, 1) := by decide +kernel
theorem dJ0_charAt_5068e_21 : decode cJ0_charAt_5068e 21 = .ok (.invokestatic 498, 3) := by decide +kernel
theorem dJ0_charAt_5068e_24 : decode cJ0_charAt_5068e 24 = .ok (.ireturn, 1) := by decide +kernel
theorem dJ0_coder_7d493_0 : decode cJ0_coder_7d493 0 = .ok (.getstatic 38, 3) := by decide +kernel
theorem dJ0_coder_7d493_3 : decode cJ0_coder_7d493 3 = .ok (.ifCond .eq 10, 3) := by decide +kernel
theorem dJ0_coder_7d493_6 : decode cJ0_coder_7d493 6 = .ok (.aload_n 0, 1) := by decide +kernel
theorem dJ0_coder_7d493_7 : decode cJ0_coder_7d493 7 = .ok (.getfield 15, 3) := by decide +kernel
theorem dJ0_coder_7d493_10 : decode cJ0_coder_7d493 10 = .ok (.goto 4, 3) := by decide +kernel
theorem dJ0_coder_7d493_13 : decode cJ0_coder_7d493 13 = .ok (.iconst 1, 1) := by decide +kernel
theorem dJ0_coder_7d493_14 : decode cJ0_coder_7d493 14 = .ok (.ireturn, 1) := by decide +kernel
theorem dJ0_isLatin1_aae02_0 : decode cJ0_isLatin1_aae02 0 = .ok (.getstatic 38, 3) := by decide +kernel
theorem dJ0_isLatin1_aae02_3 : decode cJ0_isLatin1_aae02 3 = .ok (.ifCond .eq 14, 3) := by decide +kernel
theorem dJ0_isLatin1_aae02_6 : decode cJ0_isLatin1_aae02 6 = .ok (.aload_n 0, 1) := by decide +kernel
theorem dJ0_isLatin1_aae02_7 : decode cJ0_isLatin1_aae02 7 = .ok (.getfield 15, 3) := by decide +kernel
theorem dJ0_isLatin1_aae02_10 : decode cJ0_isLatin1_aae02 10 = .ok (.ifCond .ne 7, 3) := by decide +kernel
theorem dJ0_isLatin1_aae02_13 : decode cJ0_isLatin1_aae02 13 = .ok (.iconst 1, 1) := by decide +kernel
theorem dJ0_isLatin1_aae02_14 : decode cJ0_isLatin1_aae02 14 = .ok (.goto 4, 3) := by decide +kernel
theorem dJ0_isLatin1_aae02_17 : decode cJ0_isLatin1_aae02 17 = .ok (.iconst 0, 1) := by decide +kernel
theorem dJ0_isLatin1_aae02_18 : decode cJ0_isLatin1_aae02 18 = .ok (.ireturn, 1) := by decide +kernel
set_option maxRecDepth 20000 in
theorem ggJ0_checkIndex_df160_J3_checkIndex_8e157 : GoodIn wsJ0_checkIndex_df160 wsJ3_checkIndex_8e157 := goodIn_r _ [5] (by decide +kernel) (by decide +kernel)
set_option maxRecDepth 20000 in
theorem gJ0_checkIndex_df160_J3_checkIndex_8e157 : GoodIn wsJ0_checkIndex_df160 (va_wsS RJ0 1059 yJ3_checkIndex_8e157 wsJ3_checkIndex_8e157) := goodIn_app (goodIn_of _ (by decide +kernel)) ggJ0_checkIndex_df160_J3_checkIndex_8e157
theorem dJ0_checkIndex_df160_0 : decode cJ0_checkIndex_df160 0 = .ok (.iload_n 0, 1) := by decide +kernel
theorem dJ0_checkIndex_df160_1 : decode cJ0_checkIndex_df160 1 = .ok (.iload_n 1, 1) := by decide +kernel
theorem dJ0_checkIndex_df160_2 : decode cJ0_checkIndex_df160 2 = .ok (.getstatic 1053, 3) := by decide +kernel
theorem dJ0_checkIndex_df160_5 : decode cJ0_checkIndex_df160 5 = .ok (.invokestatic 1059, 3) := by decide +kernel
theorem dJ0_checkIndex_df160_8 : decode cJ0_checkIndex_df160 8 = .ok (.pop, 1) := by decide +kernel
theorem dJ0_checkIndex_df160_9 : decode cJ0_checkIndex_df160 9 = .ok (.return_, 1) := by decide +kernel
set_option maxRecDepth 20000 in
theorem ggJ1_charAt_3b067_J0_checkIndex_df160 : GoodIn wsJ1_charAt_3b067 wsJ0_checkIndex_df160 := goodIn_r _ [4, 5, 6, 7, 8, 9] (by decide +kernel) (by decide +kernel)
set_option maxRecDepth 20000 in
theorem gJ1_charAt_3b067_J0_checkIndex_df160 : GoodIn wsJ1_charAt_3b067 (va_wsS RJ1 9 yJ0_checkIndex_df160 wsJ0_checkIndex_df160) := goodIn_app (goodIn_of _ (by decide +kernel)) ggJ1_charAt_3b067_J0_checkIndex_df160
theorem dJ1_charAt_3b067_0 : decode cJ1_charAt_3b067 0 = .ok (.iload_n 1, 1) := by decide +kernel
theorem dJ1_charAt_3b067_1 : decode cJ1_charAt_3b067 1 = .ok (.aload_n 0, 1) := by decide +kernel
theorem dJ1_charAt_3b067_2 : decode cJ1_charAt_3b067 2 = .ok (.arraylength, 1) := by decide +kernel
theorem dJ1_charAt_3b067_3 : decode cJ1_charAt_3b067 3 = .ok (.invokestatic 9, 3) := by decide +kernel
theorem dJ1_charAt_3b067_6 : decode cJ1_charAt_3b067 6 = .ok (.aload_n 0, 1) := by decide +kernel
theorem dJ1_charAt_3b067_7 : decode cJ1_charAt_3b067 7 = .ok (.iload_n 1, 1) := by decide +kernel
theorem dJ1_charAt_3b067_8 : decode cJ1_charAt_3b067 8 = .ok (.baload, 1) := by decide +kernel
theorem dJ1_charAt_3b067_9 : decode cJ1_charAt_3b067 9 = .ok (.sipush 255, 3) := by decide +kernel
theorem dJ1_charAt_3b067_12 : decode cJ1_charAt_3b067 12 = .ok (.iand, 1) := by decide +kernel
theorem dJ1_charAt_3b067_13 : decode cJ1_charAt_3b067 13 = .ok (.i2c, 1) := by decide +kernel
theorem dJ1_charAt_3b067_14 : decode cJ1_charAt_3b067 14 = .ok (.ireturn, 1) := by decide +kernel
set_option maxRecDepth 20000 in
theorem ggJ2_getChar_3b067_J2_length_9d52b : GoodIn wsJ2_getChar_3b067 wsJ2_length_9d52b := goodIn_r _ [7] (by decide +kernel) (by decide +kernel)
set_option maxRecDepth 20000 in
theorem gJ2_getChar_3b067_J2_length_9d52b : GoodIn wsJ2_getChar_3b067 (va_wsS RJ2 48 yJ2_length_9d52b wsJ2_length_9d52b) := goodIn_app (goodIn_of _ (by decide +kernel)) ggJ2_getChar_3b067_J2_length_9d52b
theorem dJ2_getChar_3b067_0 : decode cJ2_getChar_3b067 0 = .ok (.getstatic 44, 3) := by decide +kernel
theorem dJ2_getChar_3b067_3 : decode cJ2_getChar_3b067 3 = .ok (.ifCond .ne 25, 3) := by decide +kernel
theorem dJ2_getChar_3b067_6 : decode cJ2_getChar_3b067 6 = .ok (.iload_n 1, 1) := by decide +kernel
theorem dJ2_getChar_3b067_7 : decode cJ2_getChar_3b067 7 = .ok (.ifCond .lt 11, 3) := by decide +kernel
theorem dJ2_getChar_3b067_10 : decode cJ2_getChar_3b067 10 = .ok (.iload_n 1, 1) := by decide +kernel
theorem dJ2_getChar_3b067_11 : decode cJ2_getChar_3b067 11 = .ok (.aload_n 0, 1) := by decide +kernel
theorem dJ2_getChar_3b067_12 : decode cJ2_getChar_3b067 12 = .ok (.invokestatic 48, 3) := by decide +kernel
theorem dJ2_getChar_3b067_15 : decode cJ2_getChar_3b067 15 = .ok (.if_icmp .lt 13, 3) := by decide +kernel
theorem dJ2_getChar_3b067_18 : decode cJ2_getChar_3b067 18 = .ok (.new 52, 3) := by decide +kernel
theorem dJ2_getChar_3b067_21 : decode cJ2_getChar_3b067 21 = .ok (.dup, 1) := by decide +kernel
theorem dJ2_getChar_3b067_22 : decode cJ2_getChar_3b067 22 = .ok (.ldc 54, 2) := by decide +kernel
theorem dJ2_getChar_3b067_24 : decode cJ2_getChar_3b067 24 = .ok (.invokespecial 56, 3) := by decide +kernel
theorem dJ2_getChar_3b067_27 : decode cJ2_getChar_3b067 27 = .ok (.athrow, 1) := by decide +kernel
theorem dJ2_getChar_3b067_28 : decode cJ2_getChar_3b067 28 = .ok (.iload_n 1, 1) := by decide +kernel
theorem dJ2_getChar_3b067_29 : decode cJ2_getChar_3b067 29 = .ok (.iconst 1, 1) := by decide +kernel
theorem dJ2_getChar_3b067_30 : decode cJ2_getChar_3b067 30 = .ok (.ishl, 1) := by decide +kernel
theorem dJ2_getChar_3b067_31 : decode cJ2_getChar_3b067 31 = .ok (.istore_n 1, 1) := by decide +kernel
theorem dJ2_getChar_3b067_32 : decode cJ2_getChar_3b067 32 = .ok (.aload_n 0, 1) := by decide +kernel
theorem dJ2_getChar_3b067_33 : decode cJ2_getChar_3b067 33 = .ok (.iload_n 1, 1) := by decide +kernel
theorem dJ2_getChar_3b067_34 : decode cJ2_getChar_3b067 34 = .ok (.iinc 1 1, 3) := by decide +kernel
theorem dJ2_getChar_3b067_37 : decode cJ2_getChar_3b067 37 = .ok (.baload, 1) := by decide +kernel
theorem dJ2_getChar_3b067_38 : decode cJ2_getChar_3b067 38 = .ok (.sipush 255, 3) := by decide +kernel
theorem dJ2_getChar_3b067_41 : decode cJ2_getChar_3b067 41 = .ok (.iand, 1) := by decide +kernel
theorem dJ2_getChar_3b067_42 : decode cJ2_getChar_3b067 42 = .ok (.getstatic 59, 3) := by decide +kernel
theorem dJ2_getChar_3b067_45 : decode cJ2_getChar_3b067 45 = .ok (.ishl, 1) := by decide +kernel
theorem dJ2_getChar_3b067_46 : decode cJ2_getChar_3b067 46 = .ok (.aload_n 0, 1) := by decide +kernel
theorem dJ2_getChar_3b067_47 : decode cJ2_getChar_3b067 47 = .ok (.iload_n 1, 1) := by decide +kernel
theorem dJ2_getChar_3b067_48 : decode cJ2_getChar_3b067 48 = .ok (.baload, 1) := by decide +kernel
theorem dJ2_getChar_3b067_49 : decode cJ2_getChar_3b067 49 = .ok (.sipush 255, 3) := by decide +kernel
theorem dJ2_getChar_3b067_52 : decode cJ2_getChar_3b067 52 = .ok (.iand, 1) := by decide +kernel
theorem dJ2_getChar_3b067_53 : decode cJ2_getChar_3b067 53 = .ok (.getstatic 63, 3) := by decide +kernel
theorem dJ2_getChar_3b067_56 : decode cJ2_getChar_3b067 56 = .ok (.ishl, 1) := by decide +kernel
theorem dJ2_getChar_3b067_57 : decode cJ2_getChar_3b067 57 = .ok (.ior, 1) := by decide +kernel
theorem dJ2_getChar_3b067_58 : decode cJ2_getChar_3b067 58 = .ok (.i2c, 1) := by decide +kernel
theorem dJ2_getChar_3b067_59 : decode cJ2_getChar_3b067 59 = .ok (.ireturn, 1) := by decide +kernel
theorem dJ2_length_9d52b_0 : decode cJ2_length_9d52b 0 = .ok (.aload_n 0, 1) := by decide +kernel
theorem dJ2_length_9d52b_1 : decode cJ2_length_9d52b 1 = .ok (.arraylength, 1) := by decide +kernel
theorem dJ2_length_9d52b_2 : decode cJ2_length_9d52b 2 = .ok (.iconst 1, 1) := by decide +kernel
theorem dJ2_length_9d52b_3 : decode cJ2_length_9d52b 3 = .ok (.ishr, 1) := by decide +kernel
theorem dJ2_length_9d52b_4 : decode cJ2_length_9d52b 4 = .ok (.ireturn, 1) := by decide +kernel
set_option maxRecDepth 20000 in
theorem ggJ2_charAt_3b067_J2_checkIndex_2214a : GoodIn wsJ2_charAt_3b067 wsJ2_checkIndex_2214a := goodIn_r _ [4, 5, 6, 3, 7, 8, 9, 10, 11, 12, 13, 14, 15, 16] (by decide +kernel) (by decide +kernel)
set_option maxRecDepth 20000 in
theorem gJ2_charAt_3b067_J2_checkIndex_2214a : GoodIn wsJ2_charAt_3b067 (va_wsS RJ2 67 yJ2_checkIndex_2214a wsJ2_checkIndex_2214a) := goodIn_app (goodIn_of _ (by decide +kernel)) ggJ2_charAt_3b067_J2_checkIndex_2214a
set_option maxRecDepth 20000 in
theorem ggJ2_charAt_3b067_J2_getChar_3b067 : GoodIn wsJ2_charAt_3b067 wsJ2_getChar_3b067 := goodIn_r _ [19, 20, 21, 22, 5, 6, 3, 7] (by decide +kernel) (by decide +kernel)
set_option maxRecDepth 20000 in
theorem gJ2_charAt_3b067_J2_getChar_3b067 : GoodIn wsJ2_charAt_3b067 (va_wsS RJ2 71 yJ2_getChar_3b067 wsJ2_getChar_3b067) := goodIn_app (goodIn_of _ (by decide +kernel)) ggJ2_charAt_3b067_J2_getChar_3b067
theorem dJ2_charAt_3b067_0 : decode cJ2_charAt_3b067 0 = .ok (.iload_n 1, 1) := by decide +kernel
theorem dJ2_charAt_3b067_1 : decode cJ2_charAt_3b067 1 = .ok (.aload_n 0, 1) := by decide +kernel
theorem dJ2_charAt_3b067_2 : decode cJ2_charAt_3b067 2 = .ok (.invokestatic 67, 3) := by decide +kernel
theorem dJ2_charAt_3b067_5 : decode cJ2_charAt_3b067 5 = .ok (.aload_n 0, 1) := by decide +kernel
theorem dJ2_charAt_3b067_6 : decode cJ2_charAt_3b067 6 = .ok (.iload_n 1, 1) := by decide +kernel
theorem dJ2_charAt_3b067_7 : decode cJ2_charAt_3b067 7 = .ok (.invokestatic 71, 3) := by decide +kernel
theorem dJ2_charAt_3b067_10 : decode cJ2_charAt_3b067 10 = .ok (.ireturn, 1) := by decide +kernel
set_option maxRecDepth 20000 in
theorem ggJ2_checkIndex_2214a_J2_length_9d52b : GoodIn wsJ2_checkIndex_2214a wsJ2_length_9d52b := goodIn_r _ [4] (by decide +kernel) (by decide +kernel)
set_option maxRecDepth 20000 in
theorem gJ2_checkIndex_2214a_J2_length_9d52b : GoodIn wsJ2_checkIndex_2214a (va_wsS RJ2 48 yJ2_length_9d52b wsJ2_length_9d52b) := goodIn_app (goodIn_of _ (by decide +kernel)) ggJ2_checkIndex_2214a_J2_length_9d52b
set_option maxRecDepth 20000 in
theorem ggJ2_checkIndex_2214a_J0_checkIndex_df160 : GoodIn wsJ2_checkIndex_2214a wsJ0_checkIndex_df160 := goodIn_r _ [8, 9, 10, 11, 12, 13] (by decide +kernel) (by decide +kernel)
set_option maxRecDepth 20000 in
theorem gJ2_checkIndex_2214a_J0_checkIndex_df160 : GoodIn wsJ2_checkIndex_2214a (va_wsS RJ2 414 yJ0_checkIndex_df160 wsJ0_checkIndex_df160) := goodIn_app (goodIn_of _ (by decide +kernel)) ggJ2_checkIndex_2214a_J0_checkIndex_df160
theorem dJ2_checkIndex_2214a_0 : decode cJ2_checkIndex_2214a 0 = .ok (.iload_n 0, 1) := by decide +kernel
theorem dJ2_checkIndex_2214a_1 : decode cJ2_checkIndex_2214a 1 = .ok (.aload_n 1, 1) := by decide +kernel
theorem dJ2_checkIndex_2214a_2 : decode cJ2_checkIndex_2214a 2 = .ok (.invokestatic 48, 3) := by decide +kernel
theorem dJ2_checkIndex_2214a_5 : decode cJ2_checkIndex_2214a 5 = .ok (.invokestatic 414, 3) := by decide +kernel
theorem dJ2_checkIndex_2214a_8 : decode cJ2_checkIndex_2214a 8 = .ok (.return_, 1) := by decide +kernel
theorem dJ7_fill_53178_0 : decode cJ7_fill_53178 0 = .ok (.iconst 0, 1) := by decide +kernel
theorem dJ7_fill_53178_1 : decode cJ7_fill_53178 1 = .ok (.istore_n 2, 1) := by decide +kernel
theorem dJ7_fill_53178_2 : decode cJ7_fill_53178 2 = .ok (.aload_n 0, 1) := by decide +kernel
theorem dJ7_fill_53178_3 : decode cJ7_fill_53178 3 = .ok (.arraylength, 1) := by decide +kernel
theorem dJ7_fill_53178_4 : decode cJ7_fill_53178 4 = .ok (.istore_n 3, 1) := by decide +kernel
theorem dJ7_fill_53178_5 : decode cJ7_fill_53178 5 = .ok (.iload_n 2, 1) := by decide +kernel
theorem dJ7_fill_53178_6 : decode cJ7_fill_53178 6 = .ok (.iload_n 3, 1) := by decide +kernel
theorem dJ7_fill_53178_7 : decode cJ7_fill_53178 7 = .ok (.if_icmp .ge 13, 3) := by decide +kernel
theorem dJ7_fill_53178_10 : decode cJ7_fill_53178 10 = .ok (.aload_n 0, 1) := by decide +kernel
theorem dJ7_fill_53178_11 : decode cJ7_fill_53178 11 = .ok (.iload_n 2, 1) := by decide +kernel
theorem dJ7_fill_53178_12 : decode cJ7_fill_53178 12 = .ok (.iload_n 1, 1) := by decide +kernel
theorem dJ7_fill_53178_13 : decode cJ7_fill_53178 13 = .ok (.iastore, 1) := by decide +kernel
theorem dJ7_fill_53178_14 : decode cJ7_fill_53178 14 = .ok (.iinc 2 1, 3) := by decide +kernel
theorem dJ7_fill_53178_17 : decode cJ7_fill_53178 17 = .ok (.goto (-12), 3) := by decide +kernel
theorem dJ7_fill_53178_20 : decode cJ7_fill_53178 20 = .ok (.return_, 1) := by decide +kernel
theorem dJ3_checkIndex_8e157_0 : decode cJ3_checkIndex_8e157 0 = .ok (.iload_n 0, 1) := by decide +kernel
theorem dJ3_checkIndex_8e157_1 : decode cJ3_checkIndex_8e157 1 = .ok (.ifCond .lt 8, 3) := by decide +kernel
theorem dJ3_checkIndex_8e157_4 : decode cJ3_checkIndex_8e157 4 = .ok (.iload_n 0, 1) := by decide +kernel
theorem dJ3_checkIndex_8e157_5 : decode cJ3_checkIndex_8e157 5 = .ok (.iload_n 1, 1) := by decide +kernel
theorem dJ3_checkIndex_8e157_6 : decode cJ3_checkIndex_8e157 6 = .ok (.if_icmp .lt 10, 3) := by decide +kernel
theorem dJ3_checkIndex_8e157_9 : decode cJ3_checkIndex_8e157 9 = .ok (.aload_n 2, 1) := by decide +kernel
theorem dJ3_checkIndex_8e157_10 : decode cJ3_checkIndex_8e157 10 = .ok (.iload_n 0, 1) := by decide +kernel
theorem dJ3_checkIndex_8e157_11 : decode cJ3_checkIndex_8e157 11 = .ok (.iload_n 1, 1) := by decide +kernel
theorem dJ3_checkIndex_8e157_12 : decode cJ3_checkIndex_8e157 12 = .ok (.invokestatic 95, 3) := by decide +kernel
theorem dJ3_checkIndex_8e157_15 : decode cJ3_checkIndex_8e157 15 = .ok (.athrow, 1) := by decide +kernel
theorem dJ3_checkIndex_8e157_16 : decode cJ3_checkIndex_8e157 16 = .ok (.iload_n 0, 1) := by decide +kernel
theorem dJ3_checkIndex_8e157_17 : decode cJ3_checkIndex_8e157 17 = .ok (.ireturn, 1) := by decide +kernel
