set_option maxRecDepth 20000 in
theorem ggX7_init_X6_init : GoodIn wsX7_init wsX6_init := goodIn_r _ [22, 23, 2, 3, 24, 25, 58, 59] (by decide +kernel) (by decide +kernel)
set_option maxRecDepth 20000 in
theorem gX7_init_X6_init_n11 : GoodIn wsX7_init (wsX6_init) := ggX7_init_X6_init
set_option maxRecDepth 20000 in
theorem ggX7_init_X4_init : GoodIn wsX7_init wsX4_init := goodIn_r _ [27, 28, 2, 3, 29, 30, 31, 32, 33, 34, 35, 36, 37, 38, 39, 40, 41, 42, 43, 44, 45, 46, 47, 48, 49, 50, 51, 79, 67, 68, 69, 70, 71, 72, 73, 74, 75, 80, 81] (by decide +kernel) (by decide +kernel)
set_option maxRecDepth 20000 in
theorem gX7_init_X4_init_n18 : GoodIn wsX7_init (wsX4_init) := ggX7_init_X4_init
set_option maxRecDepth 20000 in
theorem ggX7_init_X3_init : GoodIn wsX7_init wsX3_init := goodIn_r _ [54, 55, 2, 3, 56, 57, 9, 10, 26, 27, 28, 29, 30, 31, 32, 33, 34, 35, 36, 37, 38, 39, 40, 41, 42, 43, 44, 45, 46, 47, 48, 49, 50, 51, 76, 77, 78, 67, 68, 69, 70, 71, 72, 73, 74, 75, 79, 80, 81] (by decide +kernel) (by decide +kernel)
set_option maxRecDepth 20000 in
theorem gX7_init_X3_init : GoodIn wsX7_init (wsX3_init) := ggX7_init_X3_init
theorem dX7_init_0 : decode cX7_init 0 = .ok (.aload_n 0, 1) := by decide +kernel
theorem dX7_init_1 : decode cX7_init 1 = .ok (.invokespecial 3, 3) := by decide +kernel
theorem dX7_init_4 : decode cX7_init 4 = .ok (.aload_n 0, 1) := by decide +kernel
theorem dX7_init_5 : decode cX7_init 5 = .ok (.new 9, 3) := by decide +kernel
theorem dX7_init_8 : decode cX7_init 8 = .ok (.dup, 1) := by decide +kernel
theorem dX7_init_9 : decode cX7_init 9 = .ok (.invokespecial 11, 3) := by decide +kernel
theorem dX7_init_12 : decode cX7_init 12 = .ok (.putfield 12, 3) := by decide +kernel
theorem dX7_init_15 : decode cX7_init 15 = .ok (.aload_n 0, 1) := by decide +kernel
theorem dX7_init_16 : decode cX7_init 16 = .ok (.new 16, 3) := by decide +kernel
theorem dX7_init_19 : decode cX7_init 19 = .ok (.dup, 1) := by decide +kernel
theorem dX7_init_20 : decode cX7_init 20 = .ok (.invokespecial 18, 3) := by decide +kernel
theorem dX7_init_23 : decode cX7_init 23 = .ok (.putfield 19, 3) := by decide +kernel
theorem dX7_init_26 : decode cX7_init 26 = .ok (.aload_n 0, 1) := by decide +kernel
theorem dX7_init_27 : decode cX7_init 27 = .ok (.new 16, 3) := by decide +kernel
theorem dX7_init_30 : decode cX7_init 30 = .ok (.dup, 1) := by decide +kernel
theorem dX7_init_31 : decode cX7_init 31 = .ok (.invokespecial 18, 3) := by decide +kernel
theorem dX7_init_34 : decode cX7_init 34 = .ok (.putfield 23, 3) := by decide +kernel
theorem dX7_init_37 : decode cX7_init 37 = .ok (.aload_n 0, 1) := by decide +kernel
theorem dX7_init_38 : decode cX7_init 38 = .ok (.new 16, 3) := by decide +kernel
theorem dX7_init_41 : decode cX7_init 41 = .ok (.dup, 1) := by decide +kernel
theorem dX7_init_42 : decode cX7_init 42 = .ok (.invokespecial 18, 3) := by decide +kernel
theorem dX7_init_45 : decode cX7_init 45 = .ok (.putfield 26, 3) := by decide +kernel
theorem dX7_init_48 : decode cX7_init 48 = .ok (.aload_n 0, 1) := by decide +kernel
theorem dX7_init_49 : decode cX7_init 49 = .ok (.new 29, 3) := by decide +kernel
theorem dX7_init_52 : decode cX7_init 52 = .ok (.dup, 1) := by decide +kernel
theorem dX7_init_53 : decode cX7_init 53 = .ok (.invokespecial 31, 3) := by decide +kernel
theorem dX7_init_56 : decode cX7_init 56 = .ok (.putfield 32, 3) := by decide +kernel
theorem dX7_init_59 : decode cX7_init 59 = .ok (.aload_n 0, 1) := by decide +kernel
theorem dX7_init_60 : decode cX7_init 60 = .ok (.iconst 2, 1) := by decide +kernel
theorem dX7_init_61 : decode cX7_init 61 = .ok (.anewarray 16, 3) := by decide +kernel
theorem dX7_init_64 : decode cX7_init 64 = .ok (.putfield 36, 3) := by decide +kernel
theorem dX7_init_67 : decode cX7_init 67 = .ok (.aload_n 0, 1) := by decide +kernel
theorem dX7_init_68 : decode cX7_init 68 = .ok (.iconst 2, 1) := by decide +kernel
theorem dX7_init_69 : decode cX7_init 69 = .ok (.newarray .boolean, 2) := by decide +kernel
theorem dX7_init_71 : decode cX7_init 71 = .ok (.putfield 40, 3) := by decide +kernel
theorem dX7_init_74 : decode cX7_init 74 = .ok (.iconst 0, 1) := by decide +kernel
theorem dX7_init_75 : decode cX7_init 75 = .ok (.istore_n 1, 1) := by decide +kernel
theorem dX7_init_76 : decode cX7_init 76 = .ok (.iload_n 1, 1) := by decide +kernel
theorem dX7_init_77 : decode cX7_init 77 = .ok (.iconst 2, 1) := by decide +kernel
theorem dX7_init_78 : decode cX7_init 78 = .ok (.if_icmp .ge 22, 3) := by decide +kernel
theorem dX7_init_81 : decode cX7_init 81 = .ok (.aload_n 0, 1) := by decide +kernel
theorem dX7_init_82 : decode cX7_init 82 = .ok (.getfield 36, 3) := by decide +kernel
theorem dX7_init_85 : decode cX7_init 85 = .ok (.iload_n 1, 1) := by decide +kernel
theorem dX7_init_86 : decode cX7_init 86 = .ok (.new 16, 3) := by decide +kernel
theorem dX7_init_89 : decode cX7_init 89 = .ok (.dup, 1) := by decide +kernel
theorem dX7_init_90 : decode cX7_init 90 = .ok (.invokespecial 18, 3) := by decide +kernel
theorem dX7_init_93 : decode cX7_init 93 = .ok (.aastore, 1) := by decide +kernel
theorem dX7_init_94 : decode cX7_init 94 = .ok (.iinc 1 1, 3) := by decide +kernel
theorem dX7_init_97 : decode cX7_init 97 = .ok (.goto (-21), 3) := by decide +kernel
theorem dX7_init_100 : decode cX7_init 100 = .ok (.return_, 1) := by decide +kernel
set_option maxRecDepth 20000 in
theorem ggX7_append_X7_isWithin : GoodIn wsX7_append wsX7_isWithin := goodIn_r _ [5] (by decide +kernel) (by decide +kernel)
set_option maxRecDepth 20000 in
theorem gX7_append_X7_isWithin : GoodIn wsX7_append (va_wsS RX7 44 yX7_isWithin wsX7_isWithin) := goodIn_app (goodIn_of _ (by decide +kernel)) ggX7_append_X7_isWithin
set_option maxRecDepth 20000 in
theorem ggX7_append_X7_needArgument : GoodIn wsX7_append wsX7_needArgument := goodIn_ca (goodIn_r _ [8, 9, 10] (by decide +kernel) (by decide +kernel)) (goodIn_sub (fun _ h => List.mem_cons_of_mem _ (List.mem_append_left _ (List.mem_append_right _ h))) (by decide +kernel))
set_option maxRecDepth 20000 in
theorem gX7_append_X7_needArgument : GoodIn wsX7_append (va_wsS RX7 48 yX7_needArgument wsX7_needArgument) := goodIn_app (goodIn_of _ (by decide +kernel)) ggX7_append_X7_needArgument
set_option maxRecDepth 20000 in
theorem ggX7_append_X6_isFull : GoodIn wsX7_append wsX6_isFull := goodIn_r _ [15, 16, 39, 40] (by decide +kernel) (by decide +kernel)
set_option maxRecDepth 20000 in
theorem gX7_append_X6_isFull : GoodIn wsX7_append (wsV RX7 52 RX6 yX6_isFull wsX6_isFull) := goodIn_app (goodIn_of _ (by decide +kernel)) ggX7_append_X6_isFull
set_option maxRecDepth 20000 in
theorem ggX7_append_X7_needState : GoodIn wsX7_append wsX7_needState := goodIn_ca (goodIn_r _ [19, 20, 21] (by decide +kernel) (by decide +kernel)) (goodIn_sub (fun _ h => List.mem_cons_of_mem _ (List.mem_append_right _ h)) (by decide +kernel))
set_option maxRecDepth 20000 in
theorem gX7_append_X7_needState : GoodIn wsX7_append (va_wsS RX7 56 yX7_needState wsX7_needState) := goodIn_app (goodIn_of _ (by decide +kernel)) ggX7_append_X7_needState
set_option maxRecDepth 20000 in
theorem ggX7_append_X6_put : GoodIn wsX7_append wsX6_put := goodIn_r _ [25, 26, 16, 27, 12, 13, 14, 15, 39, 40] (by decide +kernel) (by decide +kernel)
set_option maxRecDepth 20000 in
theorem gX7_append_X6_put : GoodIn wsX7_append (wsV RX7 59 RX6 yX6_put wsX6_put) := goodIn_app (goodIn_of _ (by decide +kernel)) ggX7_append_X6_put
set_option maxRecDepth 20000 in
theorem ggX7_append_X6_size : GoodIn wsX7_append wsX6_size := goodIn_r _ [31, 16, 39, 40] (by decide +kernel) (by decide +kernel)
set_option maxRecDepth 20000 in
theorem gX7_append_X6_size : GoodIn wsX7_append (wsV RX7 63 RX6 yX6_size wsX6_size) := goodIn_app (goodIn_of _ (by decide +kernel)) ggX7_append_X6_size
theorem dX7_append_0 : decode cX7_append 0 = .ok (.iload_n 1, 1) := by decide +kernel
theorem dX7_append_1 : decode cX7_append 1 = .ok (.iconst 0, 1) := by decide +kernel
theorem dX7_append_2 : decode cX7_append 2 = .ok (.sipush 255, 3) := by decide +kernel
theorem dX7_append_5 : decode cX7_append 5 = .ok (.invokestatic 44, 3) := by decide +kernel
theorem dX7_append_8 : decode cX7_append 8 = .ok (.invokestatic 48, 3) := by decide +kernel
theorem dX7_append_11 : decode cX7_append 11 = .ok (.aload_n 0, 1) := by decide +kernel
theorem dX7_append_12 : decode cX7_append 12 = .ok (.getfield 12, 3) := by decide +kernel
theorem dX7_append_15 : decode cX7_append 15 = .ok (.invokevirtual 52, 3) := by decide +kernel
theorem dX7_append_18 : decode cX7_append 18 = .ok (.ifCond .ne 7, 3) := by decide +kernel
theorem dX7_append_21 : decode cX7_append 21 = .ok (.iconst 1, 1) := by decide +kernel
theorem dX7_append_22 : decode cX7_append 22 = .ok (.goto 4, 3) := by decide +kernel
theorem dX7_append_25 : decode cX7_append 25 = .ok (.iconst 0, 1) := by decide +kernel
theorem dX7_append_26 : decode cX7_append 26 = .ok (.invokestatic 56, 3) := by decide +kernel
theorem dX7_append_29 : decode cX7_append 29 = .ok (.aload_n 0, 1) := by decide +kernel
theorem dX7_append_30 : decode cX7_append 30 = .ok (.getfield 12, 3) := by decide +kernel
theorem dX7_append_33 : decode cX7_append 33 = .ok (.iload_n 1, 1) := by decide +kernel
theorem dX7_append_34 : decode cX7_append 34 = .ok (.invokevirtual 59, 3) := by decide +kernel
theorem dX7_append_37 : decode cX7_append 37 = .ok (.aload_n 0, 1) := by decide +kernel
theorem dX7_append_38 : decode cX7_append 38 = .ok (.getfield 12, 3) := by decide +kernel
theorem dX7_append_41 : decode cX7_append 41 = .ok (.invokevirtual 63, 3) := by decide +kernel
theorem dX7_append_44 : decode cX7_append 44 = .ok (.ireturn, 1) := by decide +kernel
set_option maxRecDepth 20000 in
theorem ggX7_clearText_X6_size : GoodIn wsX7_clearText wsX6_size := goodIn_r _ [6, 7, 19, 20] (by decide +kernel) (by decide +kernel)
set_option maxRecDepth 20000 in
theorem gX7_clearText_X6_size : GoodIn wsX7_clearText (wsV RX7 63 RX6 yX6_size wsX6_size) := goodIn_app (goodIn_of _ (by decide +kernel)) ggX7_clearText_X6_size
set_option maxRecDepth 20000 in
theorem ggX7_clearText_X6_empty : GoodIn wsX7_clearText wsX6_empty := goodIn_r _ [11, 7, 19, 20] (by decide +kernel) (by decide +kernel)
set_option maxRecDepth 20000 in
theorem gX7_clearText_X6_empty : GoodIn wsX7_clearText (wsV RX7 67 RX6 yX6_empty wsX6_empty) := goodIn_app (goodIn_of _ (by decide +kernel)) ggX7_clearText_X6_empty
theorem dX7_clearText_0 : decode cX7_clearText 0 = .ok (.aload_n 0, 1) := by decide +kernel
theorem dX7_clearText_1 : decode cX7_clearText 1 = .ok (.getfield 12, 3) := by decide +kernel
theorem dX7_clearText_4 : decode cX7_clearText 4 = .ok (.invokevirtual 63, 3) := by decide +kernel
theorem dX7_clearText_7 : decode cX7_clearText 7 = .ok (.istore_n 1, 1) := by decide +kernel
theorem dX7_clearText_8 : decode cX7_clearText 8 = .ok (.aload_n 0, 1) := by decide +kernel
theorem dX7_clearText_9 : decode cX7_clearText 9 = .ok (.getfield 12, 3) := by decide +kernel
theorem dX7_clearText_12 : decode cX7_clearText 12 = .ok (.invokevirtual 67, 3) := by decide +kernel
theorem dX7_clearText_15 : decode cX7_clearText 15 = .ok (.iload_n 1, 1) := by decide +kernel
theorem dX7_clearText_16 : decode cX7_clearText 16 = .ok (.ireturn, 1) := by decide +kernel
set_option maxRecDepth 20000 in
theorem ggX7_errorPosition_X6_firstError : GoodIn wsX7_errorPosition wsX6_firstError := goodIn_r _ [6, 7, 8, 9, 10, 5, 11, 12, 13, 14, 15, 16, 17, 18, 19, 20, 21, 22, 23, 24, 25, 26, 27, 28, 29, 30, 31, 32, 33, 34, 35, 36, 37, 38, 39, 40, 41, 42, 43, 44, 45, 46, 47, 48, 49, 50, 51, 52, 53, 54, 55, 56, 57, 58, 59, 60, 61, 62, 63, 64, 65, 66, 67, 68, 69, 70, 71, 79, 80] (by decide +kernel) (by decide +kernel)
set_option maxRecDepth 20000 in
theorem gX7_errorPosition_X6_firstError : GoodIn wsX7_errorPosition (wsV RX7 70 RX6 yX6_firstError wsX6_firstError) := goodIn_app (goodIn_of _ (by decide +kernel)) ggX7_errorPosition_X6_firstError
theorem dX7_errorPosition_0 : decode cX7_errorPosition 0 = .ok (.aload_n 0, 1) := by decide +kernel
theorem dX7_errorPosition_1 : decode cX7_errorPosition 1 = .ok (.getfield 12, 3) := by decide +kernel
theorem dX7_errorPosition_4 : decode cX7_errorPosition 4 = .ok (.invokevirtual 70, 3) := by decide +kernel
theorem dX7_errorPosition_7 : decode cX7_errorPosition 7 = .ok (.ireturn, 1) := by decide +kernel
set_option maxRecDepth 20000 in
theorem ggX7_load_X6_firstError : GoodIn wsX7_load wsX6_firstError := goodIn_r _ [12, 13, 14, 15, 16, 11, 17, 18, 19, 20, 21, 22, 23, 24, 25, 26, 27, 28, 29, 30, 31, 32, 33, 34, 35, 36, 37, 38, 39, 40, 41, 42, 43, 44, 45, 46, 47, 48, 49, 50, 51, 52, 53, 54, 55, 56, 57, 58, 59, 60, 61, 62, 63, 64, 65, 66, 67, 68, 69, 70, 71, 72, 73, 74, 75, 76, 77, 286, 287] (by decide +kernel) (by decide +kernel)
set_option maxRecDepth 20000 in
theorem gX7_load_X6_firstError : GoodIn wsX7_load (wsV RX7 70 RX6 yX6_firstError wsX6_firstError) := goodIn_app (goodIn_of _ (by decide +kernel)) ggX7_load_X6_firstError
set_option maxRecDepth 20000 in
theorem ggX7_load_X7_needState : GoodIn wsX7_load wsX7_needState := goodIn_ca (goodIn_r _ [81, 82, 83] (by decide +kernel) (by decide +kernel)) (goodIn_sub (fun _ h => List.mem_cons_of_mem _ (List.mem_append_right _ h)) (by decide +kernel))
set_option maxRecDepth 20000 in
theorem gX7_load_X7_needState : GoodIn wsX7_load (va_wsS RX7 56 yX7_needState wsX7_needState) := goodIn_app (goodIn_of _ (by decide +kernel)) ggX7_load_X7_needState
set_option maxRecDepth 20000 in
theorem ggX7_load_X4_makeNew : GoodIn wsX7_load wsX4_makeNew := goodIn_r _ [88, 89, 90, 91, 92, 93, 94, 95, 96, 97, 98, 99, 100, 101, 102, 103, 104, 105, 106, 107, 108, 109, 110, 111, 112, 288, 289, 290, 291, 292, 293, 294, 295, 296, 297, 298, 299] (by decide +kernel) (by decide +kernel)
set_option maxRecDepth 20000 in
theorem gX7_load_X4_makeNew : GoodIn wsX7_load (wsV RX7 73 RX4 yX4_makeNew wsX4_makeNew) := goodIn_app (goodIn_of _ (by decide +kernel)) ggX7_load_X4_makeNew
set_option maxRecDepth 20000 in
theorem ggX7_load_X3_forgetAll : GoodIn wsX7_load wsX3_forgetAll := goodIn_r _ [117, 118, 300, 301, 302] (by decide +kernel) (by decide +kernel)
set_option maxRecDepth 20000 in
theorem gX7_load_X3_forgetAll : GoodIn wsX7_load (wsV RX7 76 RX3 yX3_forgetAll wsX3_forgetAll) := goodIn_app (goodIn_of _ (by decide +kernel)) ggX7_load_X3_forgetAll
set_option maxRecDepth 20000 in
theorem ggX7_load_X2_init : GoodIn wsX7_load wsX2_init := goodIn_r _ [121, 122, 123, 124, 125, 126, 283, 284, 285] (by decide +kernel) (by decide +kernel)
set_option maxRecDepth 20000 in
theorem gX7_load_X2_init : GoodIn wsX7_load (wsX2_init) := ggX7_load_X2_init
set_option maxRecDepth 20000 in
theorem ggX7_load_X2_doCommands : GoodIn wsX7_load wsX2_doCommands := goodIn_r _ [130, 131, 125, 126, 132, 133, 134, 11, 135, 13, 136, 15, 16, 17, 18, 137, 138, 139, 7, 140, 141, 142, 143, 144, 145, 146, 147, 148, 149, 150, 151, 87, 152, 91, 153, 154, 155, 156, 157, 158, 159, 160, 161, 162, 163, 164, 165, 166, 167, 168, 169, 170, 171, 172, 173, 174, 175, 176, 177, 178, 179, 180, 181, 182, 183, 184, 185, 186, 187, 80, 188, 189, 190, 191, 100, 192, 102, 193, 194, 195, 196, 197, 198, 199, 200, 201, 202, 203, 204, 205, 206, 93, 95, 207, 208, 209, 210, 92, 89, 211, 212, 213, 214, 215, 216, 217, 218, 219, 220, 221, 222, 223, 224, 225, 226, 94, 90, 227, 228, 229, 110, 230, 231, 232, 233, 234, 235, 112, 236, 237, 238, 239, 240, 241, 242, 243, 244, 245, 246, 247, 248, 249, 250, 251, 252, 253, 254, 255, 256, 257, 258, 259, 260, 261, 262, 96, 263, 264, 265, 266, 267, 268, 269, 270, 271, 272, 273, 274, 275, 283, 284, 285, 288, 289, 290, 291, 292, 293, 294, 295, 296, 286, 287, 297, 298, 299] (by decide +kernel) (by decide +kernel)
set_option maxRecDepth 20000 in
theorem gX7_load_X2_doCommands : GoodIn wsX7_load (wsV RX7 84 RX2 yX2_doCommands wsX2_doCommands) := goodIn_app (goodIn_of _ (by decide +kernel)) ggX7_load_X2_doCommands
theorem dX7_load_0 : decode cX7_load 0 = .ok (.aload_n 0, 1) := by decide +kernel
theorem dX7_load_1 : decode cX7_load 1 = .ok (.getfield 12, 3) := by decide +kernel
theorem dX7_load_4 : decode cX7_load 4 = .ok (.invokevirtual 70, 3) := by decide +kernel
theorem dX7_load_7 : decode cX7_load 7 = .ok (.sipush (-10000), 3) := by decide +kernel
theorem dX7_load_10 : decode cX7_load 10 = .ok (.if_icmp .ne 7, 3) := by decide +kernel
theorem dX7_load_13 : decode cX7_load 13 = .ok (.iconst 1, 1) := by decide +kernel
theorem dX7_load_14 : decode cX7_load 14 = .ok (.goto 4, 3) := by decide +kernel
theorem dX7_load_17 : decode cX7_load 17 = .ok (.iconst 0, 1) := by decide +kernel
theorem dX7_load_18 : decode cX7_load 18 = .ok (.invokestatic 56, 3) := by decide +kernel
theorem dX7_load_21 : decode cX7_load 21 = .ok (.aload_n 0, 1) := by decide +kernel
theorem dX7_load_22 : decode cX7_load 22 = .ok (.getfield 19, 3) := by decide +kernel
theorem dX7_load_25 : decode cX7_load 25 = .ok (.invokevirtual 73, 3) := by decide +kernel
theorem dX7_load_28 : decode cX7_load 28 = .ok (.aload_n 0, 1) := by decide +kernel
theorem dX7_load_29 : decode cX7_load 29 = .ok (.getfield 32, 3) := by decide +kernel
theorem dX7_load_32 : decode cX7_load 32 = .ok (.invokevirtual 76, 3) := by decide +kernel
theorem dX7_load_35 : decode cX7_load 35 = .ok (.iconst 0, 1) := by decide +kernel
theorem dX7_load_36 : decode cX7_load 36 = .ok (.istore_n 1, 1) := by decide +kernel
theorem dX7_load_37 : decode cX7_load 37 = .ok (.iload_n 1, 1) := by decide +kernel
theorem dX7_load_38 : decode cX7_load 38 = .ok (.iconst 2, 1) := by decide +kernel
theorem dX7_load_39 : decode cX7_load 39 = .ok (.if_icmp .ge 16, 3) := by decide +kernel
theorem dX7_load_42 : decode cX7_load 42 = .ok (.aload_n 0, 1) := by decide +kernel
theorem dX7_load_43 : decode cX7_load 43 = .ok (.getfield 40, 3) := by decide +kernel
theorem dX7_load_46 : decode cX7_load 46 = .ok (.iload_n 1, 1) := by decide +kernel
theorem dX7_load_47 : decode cX7_load 47 = .ok (.iconst 0, 1) := by decide +kernel
theorem dX7_load_48 : decode cX7_load 48 = .ok (.bastore, 1) := by decide +kernel
theorem dX7_load_49 : decode cX7_load 49 = .ok (.iinc 1 1, 3) := by decide +kernel
theorem dX7_load_52 : decode cX7_load 52 = .ok (.goto (-15), 3) := by decide +kernel
theorem dX7_load_55 : decode cX7_load 55 = .ok (.new 79, 3) := by decide +kernel
theorem dX7_load_58 : decode cX7_load 58 = .ok (.dup, 1) := by decide +kernel
theorem dX7_load_59 : decode cX7_load 59 = .ok (.aload_n 0, 1) := by decide +kernel
theorem dX7_load_60 : decode cX7_load 60 = .ok (.getfield 12, 3) := by decide +kernel
theorem dX7_load_63 : decode cX7_load 63 = .ok (.aload_n 0, 1) := by decide +kernel
theorem dX7_load_64 : decode cX7_load 64 = .ok (.getfield 19, 3) := by decide +kernel
theorem dX7_load_67 : decode cX7_load 67 = .ok (.invokespecial 81, 3) := by decide +kernel
theorem dX7_load_70 : decode cX7_load 70 = .ok (.invokevirtual 84, 3) := by decide +kernel
theorem dX7_load_73 : decode cX7_load 73 = .ok (.ireturn, 1) := by decide +kernel
set_option maxRecDepth 20000 in
theorem ggX7_about_X7_isWithin : GoodIn wsX7_about wsX7_isWithin := goodIn_r _ [5] (by decide +kernel) (by decide +kernel)
set_option maxRecDepth 20000 in
theorem gX7_about_X7_isWithin : GoodIn wsX7_about (va_wsS RX7 44 yX7_isWithin wsX7_isWithin) := goodIn_app (goodIn_of _ (by decide +kernel)) ggX7_about_X7_isWithin
set_option maxRecDepth 20000 in
theorem ggX7_about_X7_needArgument : GoodIn wsX7_about wsX7_needArgument := goodIn_ca (goodIn_r _ [8, 9, 10] (by decide +kernel) (by decide +kernel)) (goodIn_sub (fun _ h => List.mem_cons_of_mem _ (List.mem_append_right _ h)) (by decide +kernel))
set_option maxRecDepth 20000 in
theorem gX7_about_X7_needArgument : GoodIn wsX7_about (va_wsS RX7 48 yX7_needArgument wsX7_needArgument) := goodIn_app (goodIn_of _ (by decide +kernel)) ggX7_about_X7_needArgument
set_option maxRecDepth 20000 in
theorem ggX7_about_X1_countOwn : GoodIn wsX7_about wsX1_countOwn := goodIn_r _ [15, 16, 17, 18, 14, 19, 20, 21, 22, 23, 51] (by decide +kernel) (by decide +kernel)
set_option maxRecDepth 20000 in
theorem gX7_about_X1_countOwn : GoodIn wsX7_about (wsV RX7 95 RX1 yX1_countOwn wsX1_countOwn) := goodIn_app (goodIn_of _ (by decide +kernel)) ggX7_about_X1_countOwn
set_option maxRecDepth 20000 in
theorem ggX7_about_X1_countLinks : GoodIn wsX7_about wsX1_countLinks := goodIn_r _ [27, 16, 17, 18, 14, 19, 20, 21, 22, 23, 51] (by decide +kernel) (by decide +kernel)
set_option maxRecDepth 20000 in
theorem gX7_about_X1_countLinks : GoodIn wsX7_about (wsV RX7 100 RX1 yX1_countLinks wsX1_countLinks) := goodIn_app (goodIn_of _ (by decide +kernel)) ggX7_about_X1_countLinks
set_option maxRecDepth 20000 in
theorem ggX7_about_X0_lastKind : GoodIn wsX7_about wsX0_lastKind := goodIn_r _ [32, 33, 34, 52, 53] (by decide +kernel) (by decide +kernel)
set_option maxRecDepth 20000 in
theorem gX7_about_X0_lastKind : GoodIn wsX7_about (wsV RX7 122 RX0 yX0_lastKind wsX0_lastKind) := goodIn_app (goodIn_of _ (by decide +kernel)) ggX7_about_X0_lastKind
theorem dX7_about_0 : decode cX7_about 0 = .ok (.iload_n 1, 1) := by decide +kernel
theorem dX7_about_1 : decode cX7_about 1 = .ok (.iconst 0, 1) := by decide +kernel
theorem dX7_about_2 : decode cX7_about 2 = .ok (.bipush 8, 2) := by decide +kernel
theorem dX7_about_4 : decode cX7_about 4 = .ok (.invokestatic 44, 3) := by decide +kernel
theorem dX7_about_7 : decode cX7_about 7 = .ok (.invokestatic 48, 3) := by decide +kernel
theorem dX7_about_10 : decode cX7_about 10 = .ok (.iload_n 1, 1) := by decide +kernel
theorem dX7_about_11 : decode cX7_about 11 = .ok (.tableswitch 115 0 7 #[45, 53, 64, 75, 83, 91, 99, 107], 45) := by decide +kernel
theorem dX7_about_56 : decode cX7_about 56 = .ok (.aload_n 0, 1) := by decide +kernel
theorem dX7_about_57 : decode cX7_about 57 = .ok (.getfield 19, 3) := by decide +kernel
theorem dX7_about_60 : decode cX7_about 60 = .ok (.getfield 87, 3) := by decide +kernel
theorem dX7_about_63 : decode cX7_about 63 = .ok (.ireturn, 1) := by decide +kernel
theorem dX7_about_64 : decode cX7_about 64 = .ok (.aload_n 0, 1) := by decide +kernel
theorem dX7_about_65 : decode cX7_about 65 = .ok (.getfield 19, 3) := by decide +kernel
theorem dX7_about_68 : decode cX7_about 68 = .ok (.getfield 91, 3) := by decide +kernel
theorem dX7_about_71 : decode cX7_about 71 = .ok (.invokevirtual 95, 3) := by decide +kernel
theorem dX7_about_74 : decode cX7_about 74 = .ok (.ireturn, 1) := by decide +kernel
theorem dX7_about_75 : decode cX7_about 75 = .ok (.aload_n 0, 1) := by decide +kernel
theorem dX7_about_76 : decode cX7_about 76 = .ok (.getfield 19, 3) := by decide +kernel
theorem dX7_about_79 : decode cX7_about 79 = .ok (.getfield 91, 3) := by decide +kernel
theorem dX7_about_82 : decode cX7_about 82 = .ok (.invokevirtual 100, 3) := by decide +kernel
theorem dX7_about_85 : decode cX7_about 85 = .ok (.ireturn, 1) := by decide +kernel
theorem dX7_about_86 : decode cX7_about 86 = .ok (.aload_n 0, 1) := by decide +kernel
theorem dX7_about_87 : decode cX7_about 87 = .ok (.getfield 19, 3) := by decide +kernel
theorem dX7_about_90 : decode cX7_about 90 = .ok (.getfield 103, 3) := by decide +kernel
theorem dX7_about_93 : decode cX7_about 93 = .ok (.ireturn, 1) := by decide +kernel
theorem dX7_about_94 : decode cX7_about 94 = .ok (.aload_n 0, 1) := by decide +kernel
theorem dX7_about_95 : decode cX7_about 95 = .ok (.getfield 19, 3) := by decide +kernel
theorem dX7_about_98 : decode cX7_about 98 = .ok (.getfield 106, 3) := by decide +kernel
theorem dX7_about_101 : decode cX7_about 101 = .ok (.ireturn, 1) := by decide +kernel
theorem dX7_about_102 : decode cX7_about 102 = .ok (.aload_n 0, 1) := by decide +kernel
theorem dX7_about_103 : decode cX7_about 103 = .ok (.getfield 19, 3) := by decide +kernel
theorem dX7_about_106 : decode cX7_about 106 = .ok (.getfield 109, 3) := by decide +kernel
theorem dX7_about_109 : decode cX7_about 109 = .ok (.ireturn, 1) := by decide +kernel
theorem dX7_about_110 : decode cX7_about 110 = .ok (.aload_n 0, 1) := by decide +kernel
theorem dX7_about_111 : decode cX7_about 111 = .ok (.getfield 19, 3) := by decide +kernel
theorem dX7_about_114 : decode cX7_about 114 = .ok (.getfield 112, 3) := by decide +kernel
theorem dX7_about_117 : decode cX7_about 117 = .ok (.ireturn, 1) := by decide +kernel
theorem dX7_about_118 : decode cX7_about 118 = .ok (.aload_n 0, 1) := by decide +kernel
theorem dX7_about_119 : decode cX7_about 119 = .ok (.getfield 19, 3) := by decide +kernel
theorem dX7_about_122 : decode cX7_about 122 = .ok (.getfield 115, 3) := by decide +kernel
theorem dX7_about_125 : decode cX7_about 125 = .ok (.ireturn, 1) := by decide +kernel
theorem dX7_about_126 : decode cX7_about 126 = .ok (.aload_n 0, 1) := by decide +kernel
theorem dX7_about_127 : decode cX7_about 127 = .ok (.getfield 19, 3) := by decide +kernel
theorem dX7_about_130 : decode cX7_about 130 = .ok (.getfield 118, 3) := by decide +kernel
theorem dX7_about_133 : decode cX7_about 133 = .ok (.invokevirtual 122, 3) := by decide +kernel
theorem dX7_about_136 : decode cX7_about 136 = .ok (.ireturn, 1) := by decide +kernel
set_option maxRecDepth 20000 in
theorem ggX7_part_X7_needPart : GoodIn wsX7_part wsX7_needPart := goodIn_ca (goodIn_r _ [6, 7, 8, 1, 9, 10, 11, 12, 13, 14, 33, 34, 35, 36, 37, 38, 39, 40, 41, 42, 43, 44, 45, 46, 47, 48] (by decide +kernel) (by decide +kernel)) (goodIn_sub (fun _ h => List.mem_cons_of_mem _ (List.mem_append_left _ (List.mem_append_right _ h))) (by decide +kernel))
set_option maxRecDepth 20000 in
theorem gX7_part_X7_needPart : GoodIn wsX7_part (wsV RX7 127 RX7 yX7_needPart wsX7_needPart) := goodIn_app (goodIn_of _ (by decide +kernel)) ggX7_part_X7_needPart
set_option maxRecDepth 20000 in
theorem ggX7_part_X7_isWithin : GoodIn wsX7_part wsX7_isWithin := goodIn_r _ [17] (by decide +kernel) (by decide +kernel)
set_option maxRecDepth 20000 in
theorem gX7_part_X7_isWithin : GoodIn wsX7_part (va_wsS RX7 44 yX7_isWithin wsX7_isWithin) := goodIn_app (goodIn_of _ (by decide +kernel)) ggX7_part_X7_isWithin
set_option maxRecDepth 20000 in
theorem ggX7_part_X7_needArgument : GoodIn wsX7_part wsX7_needArgument := goodIn_ca (goodIn_r _ [20, 21, 22] (by decide +kernel) (by decide +kernel)) (goodIn_sub (fun _ h => List.mem_cons_of_mem _ (List.mem_append_right _ h)) (by decide +kernel))
set_option maxRecDepth 20000 in
theorem gX7_part_X7_needArgument : GoodIn wsX7_part (va_wsS RX7 48 yX7_needArgument wsX7_needArgument) := goodIn_app (goodIn_of _ (by decide +kernel)) ggX7_part_X7_needArgument
set_option maxRecDepth 20000 in
theorem ggX7_part_X4_ofPart : GoodIn wsX7_part wsX4_ofPart := goodIn_r _ [26, 27, 40, 41, 42, 43, 44, 45, 46, 47, 48] (by decide +kernel) (by decide +kernel)
set_option maxRecDepth 20000 in
theorem gX7_part_X4_ofPart : GoodIn wsX7_part (wsV RX7 130 RX4 yX4_ofPart wsX4_ofPart) := goodIn_app (goodIn_of _ (by decide +kernel)) ggX7_part_X4_ofPart
set_option maxRecDepth 20000 in
theorem ggX7_part_X4_chainLength : GoodIn wsX7_part wsX4_chainLength := goodIn_r _ [31, 32, 24, 25, 12, 26, 27, 40, 41, 42, 43, 44, 45, 46, 47, 48] (by decide +kernel) (by decide +kernel)
set_option maxRecDepth 20000 in
theorem gX7_part_X4_chainLength : GoodIn wsX7_part (wsV RX7 134 RX4 yX4_chainLength wsX4_chainLength) := goodIn_app (goodIn_of _ (by decide +kernel)) ggX7_part_X4_chainLength
theorem dX7_part_0 : decode cX7_part 0 = .ok (.aload_n 0, 1) := by decide +kernel
theorem dX7_part_1 : decode cX7_part 1 = .ok (.iload_n 1, 1) := by decide +kernel
theorem dX7_part_2 : decode cX7_part 2 = .ok (.invokevirtual 127, 3) := by decide +kernel
theorem dX7_part_5 : decode cX7_part 5 = .ok (.iload_n 2, 1) := by decide +kernel
theorem dX7_part_6 : decode cX7_part 6 = .ok (.iconst 0, 1) := by decide +kernel
theorem dX7_part_7 : decode cX7_part 7 = .ok (.bipush 8, 2) := by decide +kernel
theorem dX7_part_9 : decode cX7_part 9 = .ok (.invokestatic 44, 3) := by decide +kernel
theorem dX7_part_12 : decode cX7_part 12 = .ok (.invokestatic 48, 3) := by decide +kernel
theorem dX7_part_15 : decode cX7_part 15 = .ok (.iload_n 2, 1) := by decide +kernel
theorem dX7_part_16 : decode cX7_part 16 = .ok (.bipush 8, 2) := by decide +kernel
theorem dX7_part_18 : decode cX7_part 18 = .ok (.if_icmp .ge 15, 3) := by decide +kernel
theorem dX7_part_21 : decode cX7_part 21 = .ok (.aload_n 0, 1) := by decide +kernel
theorem dX7_part_22 : decode cX7_part 22 = .ok (.getfield 19, 3) := by decide +kernel
theorem dX7_part_25 : decode cX7_part 25 = .ok (.iload_n 1, 1) := by decide +kernel
theorem dX7_part_26 : decode cX7_part 26 = .ok (.iload_n 2, 1) := by decide +kernel
theorem dX7_part_27 : decode cX7_part 27 = .ok (.invokevirtual 130, 3) := by decide +kernel
theorem dX7_part_30 : decode cX7_part 30 = .ok (.goto 11, 3) := by decide +kernel
theorem dX7_part_33 : decode cX7_part 33 = .ok (.aload_n 0, 1) := by decide +kernel
theorem dX7_part_34 : decode cX7_part 34 = .ok (.getfield 19, 3) := by decide +kernel
theorem dX7_part_37 : decode cX7_part 37 = .ok (.iload_n 1, 1) := by decide +kernel
theorem dX7_part_38 : decode cX7_part 38 = .ok (.invokevirtual 134, 3) := by decide +kernel
theorem dX7_part_41 : decode cX7_part 41 = .ok (.ireturn, 1) := by decide +kernel
set_option maxRecDepth 20000 in
theorem ggX7_contract_X7_needContract : GoodIn wsX7_contract wsX7_needContract := goodIn_ca (goodIn_r _ [6, 7, 8, 1, 9, 10, 11, 12, 13, 14, 15, 16, 17, 18, 19, 20, 21, 22, 23, 24, 38, 39, 40, 41, 42, 43, 44, 45, 46, 47, 48, 49, 50, 51, 52, 53, 54] (by decide +kernel) (by decide +kernel)) (goodIn_sub (fun _ h => List.mem_cons_of_mem _ (List.mem_append_left _ (List.mem_append_right _ h))) (by decide +kernel))
set_option maxRecDepth 20000 in
theorem gX7_contract_X7_needContract : GoodIn wsX7_contract (wsV RX7 138 RX7 yX7_needContract wsX7_needContract) := goodIn_app (goodIn_of _ (by decide +kernel)) ggX7_contract_X7_needContract
set_option maxRecDepth 20000 in
theorem ggX7_contract_X7_isWithin : GoodIn wsX7_contract wsX7_isWithin := goodIn_r _ [27] (by decide +kernel) (by decide +kernel)
set_option maxRecDepth 20000 in
theorem gX7_contract_X7_isWithin : GoodIn wsX7_contract (va_wsS RX7 44 yX7_isWithin wsX7_isWithin) := goodIn_app (goodIn_of _ (by decide +kernel)) ggX7_contract_X7_isWithin
set_option maxRecDepth 20000 in
theorem ggX7_contract_X7_needArgument : GoodIn wsX7_contract wsX7_needArgument := goodIn_ca (goodIn_r _ [30, 31, 32] (by decide +kernel) (by decide +kernel)) (goodIn_sub (fun _ h => List.mem_cons_of_mem _ (List.mem_append_right _ h)) (by decide +kernel))
set_option maxRecDepth 20000 in
theorem gX7_contract_X7_needArgument : GoodIn wsX7_contract (va_wsS RX7 48 yX7_needArgument wsX7_needArgument) := goodIn_app (goodIn_of _ (by decide +kernel)) ggX7_contract_X7_needArgument
set_option maxRecDepth 20000 in
theorem ggX7_contract_X1_find : GoodIn wsX7_contract wsX1_find := goodIn_r _ [17, 18, 19, 20, 12, 21, 22, 23, 24, 54] (by decide +kernel) (by decide +kernel)
set_option maxRecDepth 20000 in
theorem gX7_contract_X1_find : GoodIn wsX7_contract (wsV RX7 142 RX1 yX1_find wsX1_find) := goodIn_app (goodIn_of _ (by decide +kernel)) ggX7_contract_X1_find
set_option maxRecDepth 20000 in
theorem ggX7_contract_X1_bound : GoodIn wsX7_contract wsX1_bound := goodIn_r _ [37, 18, 54] (by decide +kernel) (by decide +kernel)
set_option maxRecDepth 20000 in
theorem gX7_contract_X1_bound : GoodIn wsX7_contract (wsV RX7 145 RX1 yX1_bound wsX1_bound) := goodIn_app (goodIn_of _ (by decide +kernel)) ggX7_contract_X1_bound
theorem dX7_contract_0 : decode cX7_contract 0 = .ok (.aload_n 0, 1) := by decide +kernel
theorem dX7_contract_1 : decode cX7_contract 1 = .ok (.iload_n 1, 1) := by decide +kernel
theorem dX7_contract_2 : decode cX7_contract 2 = .ok (.iload_n 2, 1) := by decide +kernel
theorem dX7_contract_3 : decode cX7_contract 3 = .ok (.invokevirtual 138, 3) := by decide +kernel
theorem dX7_contract_6 : decode cX7_contract 6 = .ok (.iload_n 3, 1) := by decide +kernel
theorem dX7_contract_7 : decode cX7_contract 7 = .ok (.iconst 0, 1) := by decide +kernel
theorem dX7_contract_8 : decode cX7_contract 8 = .ok (.iconst 3, 1) := by decide +kernel
theorem dX7_contract_9 : decode cX7_contract 9 = .ok (.invokestatic 44, 3) := by decide +kernel
theorem dX7_contract_12 : decode cX7_contract 12 = .ok (.invokestatic 48, 3) := by decide +kernel
theorem dX7_contract_15 : decode cX7_contract 15 = .ok (.aload_n 0, 1) := by decide +kernel
theorem dX7_contract_16 : decode cX7_contract 16 = .ok (.getfield 19, 3) := by decide +kernel
theorem dX7_contract_19 : decode cX7_contract 19 = .ok (.getfield 91, 3) := by decide +kernel
theorem dX7_contract_22 : decode cX7_contract 22 = .ok (.aload_n 0, 1) := by decide +kernel
theorem dX7_contract_23 : decode cX7_contract 23 = .ok (.getfield 19, 3) := by decide +kernel
theorem dX7_contract_26 : decode cX7_contract 26 = .ok (.getfield 91, 3) := by decide +kernel
theorem dX7_contract_29 : decode cX7_contract 29 = .ok (.iload_n 1, 1) := by decide +kernel
theorem dX7_contract_30 : decode cX7_contract 30 = .ok (.iload_n 2, 1) := by decide +kernel
theorem dX7_contract_31 : decode cX7_contract 31 = .ok (.invokevirtual 142, 3) := by decide +kernel
theorem dX7_contract_34 : decode cX7_contract 34 = .ok (.iload_n 3, 1) := by decide +kernel
theorem dX7_contract_35 : decode cX7_contract 35 = .ok (.invokevirtual 145, 3) := by decide +kernel
theorem dX7_contract_38 : decode cX7_contract 38 = .ok (.ireturn, 1) := by decide +kernel
set_option maxRecDepth 20000 in
theorem ggX7_blame_X7_isWithin : GoodIn wsX7_blame wsX7_isWithin := goodIn_r _ [5] (by decide +kernel) (by decide +kernel)
set_option maxRecDepth 20000 in
theorem gX7_blame_X7_isWithin : GoodIn wsX7_blame (va_wsS RX7 44 yX7_isWithin wsX7_isWithin) := goodIn_app (goodIn_of _ (by decide +kernel)) ggX7_blame_X7_isWithin
set_option maxRecDepth 20000 in
theorem ggX7_blame_X7_needArgument : GoodIn wsX7_blame wsX7_needArgument := goodIn_ca (goodIn_r _ [8, 9, 10] (by decide +kernel) (by decide +kernel)) (goodIn_sub (fun _ h => List.mem_cons_of_mem _ (List.mem_append_right _ h)) (by decide +kernel))
set_option maxRecDepth 20000 in
theorem gX7_blame_X7_needArgument : GoodIn wsX7_blame (va_wsS RX7 48 yX7_needArgument wsX7_needArgument) := goodIn_app (goodIn_of _ (by decide +kernel)) ggX7_blame_X7_needArgument
set_option maxRecDepth 20000 in
theorem ggX7_blame_X0_tell : GoodIn wsX7_blame wsX0_tell := goodIn_r _ [15, 16, 17, 34, 35] (by decide +kernel) (by decide +kernel)
set_option maxRecDepth 20000 in
theorem gX7_blame_X0_tell : GoodIn wsX7_blame (wsV RX7 148 RX0 yX0_tell wsX0_tell) := goodIn_app (goodIn_of _ (by decide +kernel)) ggX7_blame_X0_tell
theorem dX7_blame_0 : decode cX7_blame 0 = .ok (.iload_n 1, 1) := by decide +kernel
theorem dX7_blame_1 : decode cX7_blame 1 = .ok (.iconst 0, 1) := by decide +kernel
theorem dX7_blame_2 : decode cX7_blame 2 = .ok (.bipush 9, 2) := by decide +kernel
theorem dX7_blame_4 : decode cX7_blame 4 = .ok (.invokestatic 44, 3) := by decide +kernel
theorem dX7_blame_7 : decode cX7_blame 7 = .ok (.ifCond .eq 16, 3) := by decide +kernel
theorem dX7_blame_10 : decode cX7_blame 10 = .ok (.iload_n 2, 1) := by decide +kernel
theorem dX7_blame_11 : decode cX7_blame 11 = .ok (.iconst 0, 1) := by decide +kernel
theorem dX7_blame_12 : decode cX7_blame 12 = .ok (.iconst 5, 1) := by decide +kernel
theorem dX7_blame_13 : decode cX7_blame 13 = .ok (.invokestatic 44, 3) := by decide +kernel
theorem dX7_blame_16 : decode cX7_blame 16 = .ok (.ifCond .eq 7, 3) := by decide +kernel
theorem dX7_blame_19 : decode cX7_blame 19 = .ok (.iconst 1, 1) := by decide +kernel
theorem dX7_blame_20 : decode cX7_blame 20 = .ok (.goto 4, 3) := by decide +kernel
theorem dX7_blame_23 : decode cX7_blame 23 = .ok (.iconst 0, 1) := by decide +kernel
theorem dX7_blame_24 : decode cX7_blame 24 = .ok (.invokestatic 48, 3) := by decide +kernel
theorem dX7_blame_27 : decode cX7_blame 27 = .ok (.aload_n 0, 1) := by decide +kernel
theorem dX7_blame_28 : decode cX7_blame 28 = .ok (.getfield 19, 3) := by decide +kernel
theorem dX7_blame_31 : decode cX7_blame 31 = .ok (.getfield 118, 3) := by decide +kernel
theorem dX7_blame_34 : decode cX7_blame 34 = .ok (.iload_n 1, 1) := by decide +kernel
theorem dX7_blame_35 : decode cX7_blame 35 = .ok (.iload_n 2, 1) := by decide +kernel
theorem dX7_blame_36 : decode cX7_blame 36 = .ok (.invokevirtual 148, 3) := by decide +kernel
theorem dX7_blame_39 : decode cX7_blame 39 = .ok (.ireturn, 1) := by decide +kernel
set_option maxRecDepth 20000 in
theorem ggX7_add_X7_isWithin : GoodIn wsX7_add wsX7_isWithin := goodIn_r _ [6] (by decide +kernel) (by decide +kernel)
set_option maxRecDepth 20000 in
theorem gX7_add_X7_isWithin : GoodIn wsX7_add (va_wsS RX7 44 yX7_isWithin wsX7_isWithin) := goodIn_app (goodIn_of _ (by decide +kernel)) ggX7_add_X7_isWithin
set_option maxRecDepth 20000 in
theorem ggX7_add_X7_isSmall : GoodIn wsX7_add wsX7_isSmall := goodIn_r _ [9, 3, 4, 5, 6] (by decide +kernel) (by decide +kernel)
set_option maxRecDepth 20000 in
theorem gX7_add_X7_isSmall : GoodIn wsX7_add (va_wsS RX7 151 yX7_isSmall wsX7_isSmall) := goodIn_app (goodIn_of _ (by decide +kernel)) ggX7_add_X7_isSmall
set_option maxRecDepth 20000 in
theorem ggX7_add_X7_needArgument : GoodIn wsX7_add wsX7_needArgument := goodIn_ca (goodIn_r _ [12, 13, 14] (by decide +kernel) (by decide +kernel)) (goodIn_sub (fun _ h => List.mem_cons_of_mem _ (List.mem_append_left _ (List.mem_append_right _ h))) (by decide +kernel))
set_option maxRecDepth 20000 in
theorem gX7_add_X7_needArgument : GoodIn wsX7_add (va_wsS RX7 48 yX7_needArgument wsX7_needArgument) := goodIn_app (goodIn_of _ (by decide +kernel)) ggX7_add_X7_needArgument
set_option maxRecDepth 20000 in
theorem ggX7_add_X4_hasRoom : GoodIn wsX7_add wsX4_hasRoom := goodIn_r _ [19, 20, 92, 93, 94, 95, 96, 97, 98, 99, 100] (by decide +kernel) (by decide +kernel)
set_option maxRecDepth 20000 in
theorem gX7_add_X4_hasRoom : GoodIn wsX7_add (wsV RX7 155 RX4 yX4_hasRoom wsX4_hasRoom) := goodIn_app (goodIn_of _ (by decide +kernel)) ggX7_add_X4_hasRoom
set_option maxRecDepth 20000 in
theorem ggX7_add_X7_needState : GoodIn wsX7_add wsX7_needState := goodIn_ca (goodIn_r _ [23, 24, 25] (by decide +kernel) (by decide +kernel)) (goodIn_sub (fun _ h => List.mem_cons_of_mem _ (List.mem_append_right _ h)) (by decide +kernel))
set_option maxRecDepth 20000 in
theorem gX7_add_X7_needState : GoodIn wsX7_add (va_wsS RX7 56 yX7_needState wsX7_needState) := goodIn_app (goodIn_of _ (by decide +kernel)) ggX7_add_X7_needState
set_option maxRecDepth 20000 in
theorem ggX7_add_X3_remember : GoodIn wsX7_add wsX3_remember := goodIn_r _ [30, 31, 32, 33, 34, 35, 36, 37, 38, 39, 40, 18, 41, 42, 43, 44, 45, 46, 47, 48, 20, 49, 50, 51, 52, 53, 54, 55, 56, 57, 58, 59, 60, 61, 62, 63, 64, 65, 66, 67, 68, 101, 102, 103, 92, 93, 94, 95, 96, 97, 98, 99, 100, 104, 105, 106] (by decide +kernel) (by decide +kernel)
set_option maxRecDepth 20000 in
theorem gX7_add_X3_remember : GoodIn wsX7_add (wsV RX7 158 RX3 yX3_remember wsX3_remember) := goodIn_app (goodIn_of _ (by decide +kernel)) ggX7_add_X3_remember
set_option maxRecDepth 20000 in
theorem ggX7_add_X4_addPart : GoodIn wsX7_add wsX4_addPart := goodIn_r _ [72, 20, 73, 74, 75, 18, 76, 44, 77, 78, 79, 80, 81, 82, 83, 84, 92, 93, 94, 95, 96, 97, 98, 99, 100] (by decide +kernel) (by decide +kernel)
set_option maxRecDepth 20000 in
theorem gX7_add_X4_addPart : GoodIn wsX7_add (wsV RX7 162 RX4 yX4_addPart wsX4_addPart) := goodIn_app (goodIn_of _ (by decide +kernel)) ggX7_add_X4_addPart
theorem dX7_add_0 : decode cX7_add 0 = .ok (.iload_n 1, 1) := by decide +kernel
theorem dX7_add_1 : decode cX7_add 1 = .ok (.bipush (-9), 2) := by decide +kernel
theorem dX7_add_3 : decode cX7_add 3 = .ok (.bipush 9, 2) := by decide +kernel
theorem dX7_add_5 : decode cX7_add 5 = .ok (.invokestatic 44, 3) := by decide +kernel
theorem dX7_add_8 : decode cX7_add 8 = .ok (.ifCond .eq 14, 3) := by decide +kernel
theorem dX7_add_11 : decode cX7_add 11 = .ok (.iload_n 2, 1) := by decide +kernel
theorem dX7_add_12 : decode cX7_add 12 = .ok (.invokestatic 151, 3) := by decide +kernel
theorem dX7_add_15 : decode cX7_add 15 = .ok (.ifCond .eq 7, 3) := by decide +kernel
theorem dX7_add_18 : decode cX7_add 18 = .ok (.iconst 1, 1) := by decide +kernel
theorem dX7_add_19 : decode cX7_add 19 = .ok (.goto 4, 3) := by decide +kernel
theorem dX7_add_22 : decode cX7_add 22 = .ok (.iconst 0, 1) := by decide +kernel
theorem dX7_add_23 : decode cX7_add 23 = .ok (.invokestatic 48, 3) := by decide +kernel
theorem dX7_add_26 : decode cX7_add 26 = .ok (.aload_n 0, 1) := by decide +kernel
theorem dX7_add_27 : decode cX7_add 27 = .ok (.getfield 19, 3) := by decide +kernel
theorem dX7_add_30 : decode cX7_add 30 = .ok (.invokevirtual 155, 3) := by decide +kernel
theorem dX7_add_33 : decode cX7_add 33 = .ok (.invokestatic 56, 3) := by decide +kernel
theorem dX7_add_36 : decode cX7_add 36 = .ok (.aload_n 0, 1) := by decide +kernel
theorem dX7_add_37 : decode cX7_add 37 = .ok (.getfield 32, 3) := by decide +kernel
theorem dX7_add_40 : decode cX7_add 40 = .ok (.aload_n 0, 1) := by decide +kernel
theorem dX7_add_41 : decode cX7_add 41 = .ok (.getfield 19, 3) := by decide +kernel
theorem dX7_add_44 : decode cX7_add 44 = .ok (.invokevirtual 158, 3) := by decide +kernel
theorem dX7_add_47 : decode cX7_add 47 = .ok (.aload_n 0, 1) := by decide +kernel
theorem dX7_add_48 : decode cX7_add 48 = .ok (.getfield 19, 3) := by decide +kernel
theorem dX7_add_51 : decode cX7_add 51 = .ok (.iload_n 1, 1) := by decide +kernel
theorem dX7_add_52 : decode cX7_add 52 = .ok (.iload_n 2, 1) := by decide +kernel
theorem dX7_add_53 : decode cX7_add 53 = .ok (.invokevirtual 162, 3) := by decide +kernel
theorem dX7_add_56 : decode cX7_add 56 = .ok (.aload_n 0, 1) := by decide +kernel
theorem dX7_add_57 : decode cX7_add 57 = .ok (.getfield 19, 3) := by decide +kernel
theorem dX7_add_60 : decode cX7_add 60 = .ok (.getfield 87, 3) := by decide +kernel
theorem dX7_add_63 : decode cX7_add 63 = .ok (.iconst 1, 1) := by decide +kernel
theorem dX7_add_64 : decode cX7_add 64 = .ok (.isub, 1) := by decide +kernel
theorem dX7_add_65 : decode cX7_add 65 = .ok (.ireturn, 1) := by decide +kernel
set_option maxRecDepth 20000 in
theorem ggX7_chain_X7_needPart : GoodIn wsX7_chain wsX7_needPart := goodIn_ca (goodIn_r _ [7, 8, 9, 1, 10, 11, 12, 13, 14, 15, 90, 91, 92, 93, 94, 95, 96, 97, 98, 99, 100, 101, 102, 103, 104, 105] (by decide +kernel) (by decide +kernel)) (goodIn_sub (fun _ h => List.mem_cons_of_mem _ (List.mem_append_left _ (List.mem_append_right _ h))) (by decide +kernel))
set_option maxRecDepth 20000 in
theorem gX7_chain_X7_needPart : GoodIn wsX7_chain (wsV RX7 127 RX7 yX7_needPart wsX7_needPart) := goodIn_app (goodIn_of _ (by decide +kernel)) ggX7_chain_X7_needPart
set_option maxRecDepth 20000 in
theorem ggX7_chain_X4_mayChainTo : GoodIn wsX7_chain wsX4_mayChainTo := goodIn_r _ [19] (by decide +kernel) (by decide +kernel)
set_option maxRecDepth 20000 in
theorem gX7_chain_X4_mayChainTo : GoodIn wsX7_chain (wsV RX7 165 RX4 yX4_mayChainTo wsX4_mayChainTo) := goodIn_app (goodIn_of _ (by decide +kernel)) ggX7_chain_X4_mayChainTo
set_option maxRecDepth 20000 in
theorem ggX7_chain_X7_isSmall : GoodIn wsX7_chain wsX7_isSmall := goodIn_r _ [22, 23, 24, 6, 25] (by decide +kernel) (by decide +kernel)
set_option maxRecDepth 20000 in
theorem gX7_chain_X7_isSmall : GoodIn wsX7_chain (va_wsS RX7 151 yX7_isSmall wsX7_isSmall) := goodIn_app (goodIn_of _ (by decide +kernel)) ggX7_chain_X7_isSmall
set_option maxRecDepth 20000 in
theorem ggX7_chain_X7_needArgument : GoodIn wsX7_chain wsX7_needArgument := goodIn_ca (goodIn_r _ [28, 29, 30] (by decide +kernel) (by decide +kernel)) (goodIn_sub (fun _ h => List.mem_cons_of_mem _ (List.mem_append_right _ h)) (by decide +kernel))
set_option maxRecDepth 20000 in
theorem gX7_chain_X7_needArgument : GoodIn wsX7_chain (va_wsS RX7 48 yX7_needArgument wsX7_needArgument) := goodIn_app (goodIn_of _ (by decide +kernel)) ggX7_chain_X7_needArgument
set_option maxRecDepth 20000 in
theorem ggX7_chain_X3_remember : GoodIn wsX7_chain wsX3_remember := goodIn_r _ [35, 36, 37, 38, 39, 40, 41, 42, 43, 44, 45, 13, 46, 47, 48, 49, 50, 51, 52, 53, 15, 54, 55, 56, 57, 58, 59, 60, 61, 62, 63, 64, 65, 66, 67, 68, 69, 70, 71, 72, 73, 106, 107, 108, 97, 98, 99, 100, 101, 102, 103, 104, 105, 109, 110, 111] (by decide +kernel) (by decide +kernel)
set_option maxRecDepth 20000 in
theorem gX7_chain_X3_remember : GoodIn wsX7_chain (wsV RX7 158 RX3 yX3_remember wsX3_remember) := goodIn_app (goodIn_of _ (by decide +kernel)) ggX7_chain_X3_remember
set_option maxRecDepth 20000 in
theorem ggX7_chain_X4_chainTo : GoodIn wsX7_chain wsX4_chainTo := goodIn_r _ [77, 78, 79, 80, 13, 81, 49, 97, 98, 99, 100, 101, 102, 103, 104, 105] (by decide +kernel) (by decide +kernel)
set_option maxRecDepth 20000 in
theorem gX7_chain_X4_chainTo : GoodIn wsX7_chain (wsV RX7 169 RX4 yX4_chainTo wsX4_chainTo) := goodIn_app (goodIn_of _ (by decide +kernel)) ggX7_chain_X4_chainTo
set_option maxRecDepth 20000 in
theorem ggX7_chain_X4_chainLength : GoodIn wsX7_chain wsX4_chainLength := goodIn_r _ [85, 86, 87, 88, 13, 89, 49, 97, 98, 99, 100, 101, 102, 103, 104, 105] (by decide +kernel) (by decide +kernel)
set_option maxRecDepth 20000 in
theorem gX7_chain_X4_chainLength : GoodIn wsX7_chain (wsV RX7 134 RX4 yX4_chainLength wsX4_chainLength) := goodIn_app (goodIn_of _ (by decide +kernel)) ggX7_chain_X4_chainLength
theorem dX7_chain_0 : decode cX7_chain 0 = .ok (.aload_n 0, 1) := by decide +kernel
theorem dX7_chain_1 : decode cX7_chain 1 = .ok (.iload_n 1, 1) := by decide +kernel
theorem dX7_chain_2 : decode cX7_chain 2 = .ok (.invokevirtual 127, 3) := by decide +kernel
theorem dX7_chain_5 : decode cX7_chain 5 = .ok (.iload_n 2, 1) := by decide +kernel
theorem dX7_chain_6 : decode cX7_chain 6 = .ok (.sipush (-10000), 3) := by decide +kernel
theorem dX7_chain_9 : decode cX7_chain 9 = .ok (.if_icmp .eq 15, 3) := by decide +kernel
theorem dX7_chain_12 : decode cX7_chain 12 = .ok (.aload_n 0, 1) := by decide +kernel
theorem dX7_chain_13 : decode cX7_chain 13 = .ok (.getfield 19, 3) := by decide +kernel
theorem dX7_chain_16 : decode cX7_chain 16 = .ok (.iload_n 1, 1) := by decide +kernel
theorem dX7_chain_17 : decode cX7_chain 17 = .ok (.iload_n 2, 1) := by decide +kernel
theorem dX7_chain_18 : decode cX7_chain 18 = .ok (.invokevirtual 165, 3) := by decide +kernel
theorem dX7_chain_21 : decode cX7_chain 21 = .ok (.ifCond .eq 14, 3) := by decide +kernel
theorem dX7_chain_24 : decode cX7_chain 24 = .ok (.iload_n 3, 1) := by decide +kernel
theorem dX7_chain_25 : decode cX7_chain 25 = .ok (.invokestatic 151, 3) := by decide +kernel
theorem dX7_chain_28 : decode cX7_chain 28 = .ok (.ifCond .eq 7, 3) := by decide +kernel
theorem dX7_chain_31 : decode cX7_chain 31 = .ok (.iconst 1, 1) := by decide +kernel
theorem dX7_chain_32 : decode cX7_chain 32 = .ok (.goto 4, 3) := by decide +kernel
theorem dX7_chain_35 : decode cX7_chain 35 = .ok (.iconst 0, 1) := by decide +kernel
theorem dX7_chain_36 : decode cX7_chain 36 = .ok (.invokestatic 48, 3) := by decide +kernel
theorem dX7_chain_39 : decode cX7_chain 39 = .ok (.aload_n 0, 1) := by decide +kernel
theorem dX7_chain_40 : decode cX7_chain 40 = .ok (.getfield 32, 3) := by decide +kernel
theorem dX7_chain_43 : decode cX7_chain 43 = .ok (.aload_n 0, 1) := by decide +kernel
theorem dX7_chain_44 : decode cX7_chain 44 = .ok (.getfield 19, 3) := by decide +kernel
theorem dX7_chain_47 : decode cX7_chain 47 = .ok (.invokevirtual 158, 3) := by decide +kernel
theorem dX7_chain_50 : decode cX7_chain 50 = .ok (.aload_n 0, 1) := by decide +kernel
theorem dX7_chain_51 : decode cX7_chain 51 = .ok (.getfield 19, 3) := by decide +kernel
theorem dX7_chain_54 : decode cX7_chain 54 = .ok (.iload_n 1, 1) := by decide +kernel
theorem dX7_chain_55 : decode cX7_chain 55 = .ok (.iload_n 2, 1) := by decide +kernel
theorem dX7_chain_56 : decode cX7_chain 56 = .ok (.iload_n 3, 1) := by decide +kernel
theorem dX7_chain_57 : decode cX7_chain 57 = .ok (.invokevirtual 169, 3) := by decide +kernel
theorem dX7_chain_60 : decode cX7_chain 60 = .ok (.aload_n 0, 1) := by decide +kernel
theorem dX7_chain_61 : decode cX7_chain 61 = .ok (.getfield 19, 3) := by decide +kernel
theorem dX7_chain_64 : decode cX7_chain 64 = .ok (.iload_n 1, 1) := by decide +kernel
theorem dX7_chain_65 : decode cX7_chain 65 = .ok (.invokevirtual 134, 3) := by decide +kernel
theorem dX7_chain_68 : decode cX7_chain 68 = .ok (.ireturn, 1) := by decide +kernel
set_option maxRecDepth 20000 in
theorem ggX7_net_X7_needPart : GoodIn wsX7_net wsX7_needPart := goodIn_ca (goodIn_r _ [7, 8, 9, 2, 10, 11, 12, 13, 14, 15, 82, 83, 84, 85, 86, 87, 88, 89, 90, 91, 92, 93, 94, 95, 96, 97] (by decide +kernel) (by decide +kernel)) (goodIn_sub (fun _ h => List.mem_cons_of_mem _ (List.mem_append_left _ (List.mem_append_right _ h))) (by decide +kernel))
set_option maxRecDepth 20000 in
theorem gX7_net_X7_needPart : GoodIn wsX7_net (wsV RX7 127 RX7 yX7_needPart wsX7_needPart) := goodIn_app (goodIn_of _ (by decide +kernel)) ggX7_net_X7_needPart
set_option maxRecDepth 20000 in
theorem ggX7_net_X7_isSmall : GoodIn wsX7_net wsX7_isSmall := goodIn_r _ [18, 19, 20, 6, 21] (by decide +kernel) (by decide +kernel)
set_option maxRecDepth 20000 in
theorem gX7_net_X7_isSmall : GoodIn wsX7_net (va_wsS RX7 151 yX7_isSmall wsX7_isSmall) := goodIn_app (goodIn_of _ (by decide +kernel)) ggX7_net_X7_isSmall
set_option maxRecDepth 20000 in
theorem ggX7_net_X7_needArgument : GoodIn wsX7_net wsX7_needArgument := goodIn_ca (goodIn_r _ [24, 25, 26] (by decide +kernel) (by decide +kernel)) (goodIn_sub (fun _ h => List.mem_cons_of_mem _ (List.mem_append_right _ h)) (by decide +kernel))
set_option maxRecDepth 20000 in
theorem gX7_net_X7_needArgument : GoodIn wsX7_net (va_wsS RX7 48 yX7_needArgument wsX7_needArgument) := goodIn_app (goodIn_of _ (by decide +kernel)) ggX7_net_X7_needArgument
set_option maxRecDepth 20000 in
theorem ggX7_net_X3_remember : GoodIn wsX7_net wsX3_remember := goodIn_r _ [31, 32, 33, 34, 35, 36, 37, 38, 39, 40, 41, 13, 42, 43, 44, 45, 46, 47, 48, 49, 15, 50, 51, 52, 53, 54, 55, 56, 57, 58, 59, 60, 61, 62, 63, 64, 65, 66, 67, 68, 69, 98, 99, 100, 89, 90, 91, 92, 93, 94, 95, 96, 97, 101, 102, 103] (by decide +kernel) (by decide +kernel)
set_option maxRecDepth 20000 in
theorem gX7_net_X3_remember : GoodIn wsX7_net (wsV RX7 158 RX3 yX3_remember wsX3_remember) := goodIn_app (goodIn_of _ (by decide +kernel)) ggX7_net_X3_remember
set_option maxRecDepth 20000 in
theorem ggX7_net_X4_ofPart : GoodIn wsX7_net wsX4_ofPart := goodIn_r _ [73, 45, 89, 90, 91, 92, 93, 94, 95, 96, 97] (by decide +kernel) (by decide +kernel)
set_option maxRecDepth 20000 in
theorem gX7_net_X4_ofPart : GoodIn wsX7_net (wsV RX7 130 RX4 yX4_ofPart wsX4_ofPart) := goodIn_app (goodIn_of _ (by decide +kernel)) ggX7_net_X4_ofPart
set_option maxRecDepth 20000 in
theorem ggX7_net_X4_setNet : GoodIn wsX7_net wsX4_setNet := goodIn_r _ [77, 78, 79, 80, 13, 81, 45, 89, 90, 91, 92, 93, 94, 95, 96, 97] (by decide +kernel) (by decide +kernel)
set_option maxRecDepth 20000 in
theorem gX7_net_X4_setNet : GoodIn wsX7_net (wsV RX7 173 RX4 yX4_setNet wsX4_setNet) := goodIn_app (goodIn_of _ (by decide +kernel)) ggX7_net_X4_setNet
theorem dX7_net_0 : decode cX7_net 0 = .ok (.aload_n 0, 1) := by decide +kernel
theorem dX7_net_1 : decode cX7_net 1 = .ok (.iload_n 1, 1) := by decide +kernel
theorem dX7_net_2 : decode cX7_net 2 = .ok (.invokevirtual 127, 3) := by decide +kernel
theorem dX7_net_5 : decode cX7_net 5 = .ok (.iload_n 2, 1) := by decide +kernel
theorem dX7_net_6 : decode cX7_net 6 = .ok (.sipush (-10000), 3) := by decide +kernel
theorem dX7_net_9 : decode cX7_net 9 = .ok (.if_icmp .eq 10, 3) := by decide +kernel
theorem dX7_net_12 : decode cX7_net 12 = .ok (.iload_n 2, 1) := by decide +kernel
theorem dX7_net_13 : decode cX7_net 13 = .ok (.invokestatic 151, 3) := by decide +kernel
theorem dX7_net_16 : decode cX7_net 16 = .ok (.ifCond .eq 7, 3) := by decide +kernel
theorem dX7_net_19 : decode cX7_net 19 = .ok (.iconst 1, 1) := by decide +kernel
theorem dX7_net_20 : decode cX7_net 20 = .ok (.goto 4, 3) := by decide +kernel
theorem dX7_net_23 : decode cX7_net 23 = .ok (.iconst 0, 1) := by decide +kernel
theorem dX7_net_24 : decode cX7_net 24 = .ok (.invokestatic 48, 3) := by decide +kernel
theorem dX7_net_27 : decode cX7_net 27 = .ok (.aload_n 0, 1) := by decide +kernel
theorem dX7_net_28 : decode cX7_net 28 = .ok (.getfield 32, 3) := by decide +kernel
theorem dX7_net_31 : decode cX7_net 31 = .ok (.aload_n 0, 1) := by decide +kernel
theorem dX7_net_32 : decode cX7_net 32 = .ok (.getfield 19, 3) := by decide +kernel
theorem dX7_net_35 : decode cX7_net 35 = .ok (.invokevirtual 158, 3) := by decide +kernel
theorem dX7_net_38 : decode cX7_net 38 = .ok (.aload_n 0, 1) := by decide +kernel
theorem dX7_net_39 : decode cX7_net 39 = .ok (.getfield 19, 3) := by decide +kernel
theorem dX7_net_42 : decode cX7_net 42 = .ok (.iload_n 1, 1) := by decide +kernel
theorem dX7_net_43 : decode cX7_net 43 = .ok (.iconst 4, 1) := by decide +kernel
theorem dX7_net_44 : decode cX7_net 44 = .ok (.invokevirtual 130, 3) := by decide +kernel
theorem dX7_net_47 : decode cX7_net 47 = .ok (.istore_n 3, 1) := by decide +kernel
theorem dX7_net_48 : decode cX7_net 48 = .ok (.aload_n 0, 1) := by decide +kernel
theorem dX7_net_49 : decode cX7_net 49 = .ok (.getfield 19, 3) := by decide +kernel
theorem dX7_net_52 : decode cX7_net 52 = .ok (.iload_n 1, 1) := by decide +kernel
theorem dX7_net_53 : decode cX7_net 53 = .ok (.iload_n 2, 1) := by decide +kernel
theorem dX7_net_54 : decode cX7_net 54 = .ok (.invokevirtual 173, 3) := by decide +kernel
theorem dX7_net_57 : decode cX7_net 57 = .ok (.iload_n 3, 1) := by decide +kernel
theorem dX7_net_58 : decode cX7_net 58 = .ok (.ireturn, 1) := by decide +kernel
set_option maxRecDepth 20000 in
theorem ggX7_own_X7_needPart : GoodIn wsX7_own wsX7_needPart := goodIn_ca (goodIn_r _ [7, 8, 9, 2, 10, 11, 12, 13, 14, 15, 85, 86, 87, 88, 89, 90, 91, 92, 93, 94, 95, 96, 97, 98, 99, 100] (by decide +kernel) (by decide +kernel)) (goodIn_sub (fun _ h => List.mem_cons_of_mem _ (List.mem_append_left _ (List.mem_append_right _ h))) (by decide +kernel))
set_option maxRecDepth 20000 in
theorem gX7_own_X7_needPart : GoodIn wsX7_own (wsV RX7 127 RX7 yX7_needPart wsX7_needPart) := goodIn_app (goodIn_of _ (by decide +kernel)) ggX7_own_X7_needPart
set_option maxRecDepth 20000 in
theorem ggX7_own_X7_isRange : GoodIn wsX7_own wsX7_isRange := goodIn_r _ [18] (by decide +kernel) (by decide +kernel)
set_option maxRecDepth 20000 in
theorem gX7_own_X7_isRange : GoodIn wsX7_own (va_wsS RX7 176 yX7_isRange wsX7_isRange) := goodIn_app (goodIn_of _ (by decide +kernel)) ggX7_own_X7_isRange
set_option maxRecDepth 20000 in
theorem ggX7_own_X7_needArgument : GoodIn wsX7_own wsX7_needArgument := goodIn_ca (goodIn_r _ [21, 22, 23] (by decide +kernel) (by decide +kernel)) (goodIn_sub (fun _ h => List.mem_cons_of_mem _ (List.mem_append_right _ h)) (by decide +kernel))
set_option maxRecDepth 20000 in
theorem gX7_own_X7_needArgument : GoodIn wsX7_own (va_wsS RX7 48 yX7_needArgument wsX7_needArgument) := goodIn_app (goodIn_of _ (by decide +kernel)) ggX7_own_X7_needArgument
set_option maxRecDepth 20000 in
theorem ggX7_own_X3_remember : GoodIn wsX7_own wsX3_remember := goodIn_r _ [28, 29, 30, 31, 32, 33, 34, 35, 36, 37, 38, 13, 39, 40, 41, 42, 43, 44, 45, 46, 15, 47, 48, 49, 50, 51, 52, 53, 54, 55, 56, 57, 58, 59, 60, 61, 62, 63, 64, 65, 66, 101, 102, 103, 92, 93, 94, 95, 96, 97, 98, 99, 100, 104, 105, 106] (by decide +kernel) (by decide +kernel)
set_option maxRecDepth 20000 in
theorem gX7_own_X3_remember : GoodIn wsX7_own (wsV RX7 158 RX3 yX3_remember wsX3_remember) := goodIn_app (goodIn_of _ (by decide +kernel)) ggX7_own_X3_remember
set_option maxRecDepth 20000 in
theorem ggX7_own_X1_put : GoodIn wsX7_own wsX1_put := goodIn_r _ [70, 57, 71, 72, 55, 73, 74, 75, 76, 104] (by decide +kernel) (by decide +kernel)
set_option maxRecDepth 20000 in
theorem gX7_own_X1_put : GoodIn wsX7_own (wsV RX7 179 RX1 yX1_put wsX1_put) := goodIn_app (goodIn_of _ (by decide +kernel)) ggX7_own_X1_put
set_option maxRecDepth 20000 in
theorem ggX7_own_X1_countOwn : GoodIn wsX7_own wsX1_countOwn := goodIn_r _ [80, 81, 82, 83, 55, 84, 57, 74, 75, 76, 104] (by decide +kernel) (by decide +kernel)
set_option maxRecDepth 20000 in
theorem gX7_own_X1_countOwn : GoodIn wsX7_own (wsV RX7 95 RX1 yX1_countOwn wsX1_countOwn) := goodIn_app (goodIn_of _ (by decide +kernel)) ggX7_own_X1_countOwn
theorem dX7_own_0 : decode cX7_own 0 = .ok (.aload_n 0, 1) := by decide +kernel
theorem dX7_own_1 : decode cX7_own 1 = .ok (.iload_n 1, 1) := by decide +kernel
theorem dX7_own_2 : decode cX7_own 2 = .ok (.invokevirtual 127, 3) := by decide +kernel
theorem dX7_own_5 : decode cX7_own 5 = .ok (.iload_n 2, 1) := by decide +kernel
theorem dX7_own_6 : decode cX7_own 6 = .ok (.iload_n 3, 1) := by decide +kernel
theorem dX7_own_7 : decode cX7_own 7 = .ok (.invokestatic 176, 3) := by decide +kernel
theorem dX7_own_10 : decode cX7_own 10 = .ok (.ifCond .eq 17, 3) := by decide +kernel
theorem dX7_own_13 : decode cX7_own 13 = .ok (.iload 4, 2) := by decide +kernel
theorem dX7_own_15 : decode cX7_own 15 = .ok (.iload 5, 2) := by decide +kernel
theorem dX7_own_17 : decode cX7_own 17 = .ok (.invokestatic 176, 3) := by decide +kernel
theorem dX7_own_20 : decode cX7_own 20 = .ok (.ifCond .eq 7, 3) := by decide +kernel
theorem dX7_own_23 : decode cX7_own 23 = .ok (.iconst 1, 1) := by decide +kernel
theorem dX7_own_24 : decode cX7_own 24 = .ok (.goto 4, 3) := by decide +kernel
theorem dX7_own_27 : decode cX7_own 27 = .ok (.iconst 0, 1) := by decide +kernel
theorem dX7_own_28 : decode cX7_own 28 = .ok (.invokestatic 48, 3) := by decide +kernel
theorem dX7_own_31 : decode cX7_own 31 = .ok (.aload_n 0, 1) := by decide +kernel
theorem dX7_own_32 : decode cX7_own 32 = .ok (.getfield 32, 3) := by decide +kernel
theorem dX7_own_35 : decode cX7_own 35 = .ok (.aload_n 0, 1) := by decide +kernel
theorem dX7_own_36 : decode cX7_own 36 = .ok (.getfield 19, 3) := by decide +kernel
theorem dX7_own_39 : decode cX7_own 39 = .ok (.invokevirtual 158, 3) := by decide +kernel
theorem dX7_own_42 : decode cX7_own 42 = .ok (.aload_n 0, 1) := by decide +kernel
theorem dX7_own_43 : decode cX7_own 43 = .ok (.getfield 19, 3) := by decide +kernel
theorem dX7_own_46 : decode cX7_own 46 = .ok (.getfield 91, 3) := by decide +kernel
theorem dX7_own_49 : decode cX7_own 49 = .ok (.sipush (-10001), 3) := by decide +kernel
theorem dX7_own_52 : decode cX7_own 52 = .ok (.iload_n 1, 1) := by decide +kernel
theorem dX7_own_53 : decode cX7_own 53 = .ok (.iload_n 2, 1) := by decide +kernel
theorem dX7_own_54 : decode cX7_own 54 = .ok (.iload_n 3, 1) := by decide +kernel
theorem dX7_own_55 : decode cX7_own 55 = .ok (.iload 4, 2) := by decide +kernel
theorem dX7_own_57 : decode cX7_own 57 = .ok (.iload 5, 2) := by decide +kernel
theorem dX7_own_59 : decode cX7_own 59 = .ok (.invokevirtual 179, 3) := by decide +kernel
theorem dX7_own_62 : decode cX7_own 62 = .ok (.aload_n 0, 1) := by decide +kernel
theorem dX7_own_63 : decode cX7_own 63 = .ok (.getfield 19, 3) := by decide +kernel
theorem dX7_own_66 : decode cX7_own 66 = .ok (.getfield 91, 3) := by decide +kernel
theorem dX7_own_69 : decode cX7_own 69 = .ok (.invokevirtual 95, 3) := by decide +kernel
theorem dX7_own_72 : decode cX7_own 72 = .ok (.ireturn, 1) := by decide +kernel
set_option maxRecDepth 20000 in
theorem ggX7_link_X7_needPart : GoodIn wsX7_link wsX7_needPart := goodIn_ca (goodIn_r _ [7, 8, 9, 1, 10, 11, 12, 13, 14, 15, 85, 86, 87, 88, 89, 90, 91, 92, 93, 94, 95, 96, 97, 98, 99, 100] (by decide +kernel) (by decide +kernel)) (goodIn_sub (fun _ h => List.mem_cons_of_mem _ (List.mem_append_left _ (List.mem_append_right _ h))) (by decide +kernel))
set_option maxRecDepth 20000 in
theorem gX7_link_X7_needPart : GoodIn wsX7_link (wsV RX7 127 RX7 yX7_needPart wsX7_needPart) := goodIn_app (goodIn_of _ (by decide +kernel)) ggX7_link_X7_needPart
set_option maxRecDepth 20000 in
theorem ggX7_link_X4_hasPart : GoodIn wsX7_link wsX4_hasPart := goodIn_r _ [14, 15, 92, 93, 94, 95, 96, 97, 98, 99, 100] (by decide +kernel) (by decide +kernel)
set_option maxRecDepth 20000 in
theorem gX7_link_X4_hasPart : GoodIn wsX7_link (wsV RX7 182 RX4 yX4_hasPart wsX4_hasPart) := goodIn_app (goodIn_of _ (by decide +kernel)) ggX7_link_X4_hasPart
set_option maxRecDepth 20000 in
theorem ggX7_link_X7_needArgument : GoodIn wsX7_link wsX7_needArgument := goodIn_ca (goodIn_r _ [18, 19, 20] (by decide +kernel) (by decide +kernel)) (goodIn_sub (fun _ h => List.mem_cons_of_mem _ (List.mem_append_right _ h)) (by decide +kernel))
set_option maxRecDepth 20000 in
theorem gX7_link_X7_needArgument : GoodIn wsX7_link (va_wsS RX7 48 yX7_needArgument wsX7_needArgument) := goodIn_app (goodIn_of _ (by decide +kernel)) ggX7_link_X7_needArgument
set_option maxRecDepth 20000 in
theorem ggX7_link_X7_isRange : GoodIn wsX7_link wsX7_isRange := goodIn_r _ [23] (by decide +kernel) (by decide +kernel)
set_option maxRecDepth 20000 in
theorem gX7_link_X7_isRange : GoodIn wsX7_link (va_wsS RX7 176 yX7_isRange wsX7_isRange) := goodIn_app (goodIn_of _ (by decide +kernel)) ggX7_link_X7_isRange
set_option maxRecDepth 20000 in
theorem ggX7_link_X3_remember : GoodIn wsX7_link wsX3_remember := goodIn_r _ [28, 29, 30, 31, 32, 33, 34, 35, 36, 37, 38, 13, 39, 40, 41, 42, 43, 44, 45, 46, 15, 47, 48, 49, 50, 51, 52, 53, 54, 55, 56, 57, 58, 59, 60, 61, 62, 63, 64, 65, 66, 101, 102, 103, 92, 93, 94, 95, 96, 97, 98, 99, 100, 104, 105, 106] (by decide +kernel) (by decide +kernel)
set_option maxRecDepth 20000 in
theorem gX7_link_X3_remember : GoodIn wsX7_link (wsV RX7 158 RX3 yX3_remember wsX3_remember) := goodIn_app (goodIn_of _ (by decide +kernel)) ggX7_link_X3_remember
set_option maxRecDepth 20000 in
theorem ggX7_link_X1_put : GoodIn wsX7_link wsX1_put := goodIn_r _ [70, 57, 71, 72, 55, 73, 74, 75, 76, 104] (by decide +kernel) (by decide +kernel)
set_option maxRecDepth 20000 in
theorem gX7_link_X1_put : GoodIn wsX7_link (wsV RX7 179 RX1 yX1_put wsX1_put) := goodIn_app (goodIn_of _ (by decide +kernel)) ggX7_link_X1_put
set_option maxRecDepth 20000 in
theorem ggX7_link_X1_countLinks : GoodIn wsX7_link wsX1_countLinks := goodIn_r _ [80, 81, 82, 83, 55, 84, 57, 74, 75, 76, 104] (by decide +kernel) (by decide +kernel)
set_option maxRecDepth 20000 in
theorem gX7_link_X1_countLinks : GoodIn wsX7_link (wsV RX7 100 RX1 yX1_countLinks wsX1_countLinks) := goodIn_app (goodIn_of _ (by decide +kernel)) ggX7_link_X1_countLinks
theorem dX7_link_0 : decode cX7_link 0 = .ok (.aload_n 0, 1) := by decide +kernel
theorem dX7_link_1 : decode cX7_link 1 = .ok (.iload_n 2, 1) := by decide +kernel
theorem dX7_link_2 : decode cX7_link 2 = .ok (.invokevirtual 127, 3) := by decide +kernel
theorem dX7_link_5 : decode cX7_link 5 = .ok (.iload_n 1, 1) := by decide +kernel
theorem dX7_link_6 : decode cX7_link 6 = .ok (.sipush (-10000), 3) := by decide +kernel
theorem dX7_link_9 : decode cX7_link 9 = .ok (.if_icmp .eq 19, 3) := by decide +kernel
theorem dX7_link_12 : decode cX7_link 12 = .ok (.aload_n 0, 1) := by decide +kernel
theorem dX7_link_13 : decode cX7_link 13 = .ok (.getfield 19, 3) := by decide +kernel
theorem dX7_link_16 : decode cX7_link 16 = .ok (.iload_n 1, 1) := by decide +kernel
theorem dX7_link_17 : decode cX7_link 17 = .ok (.invokevirtual 182, 3) := by decide +kernel
theorem dX7_link_20 : decode cX7_link 20 = .ok (.ifCond .eq 12, 3) := by decide +kernel
theorem dX7_link_23 : decode cX7_link 23 = .ok (.iload_n 1, 1) := by decide +kernel
theorem dX7_link_24 : decode cX7_link 24 = .ok (.iload_n 2, 1) := by decide +kernel
theorem dX7_link_25 : decode cX7_link 25 = .ok (.if_icmp .le 7, 3) := by decide +kernel
theorem dX7_link_28 : decode cX7_link 28 = .ok (.iconst 1, 1) := by decide +kernel
theorem dX7_link_29 : decode cX7_link 29 = .ok (.goto 4, 3) := by decide +kernel
theorem dX7_link_32 : decode cX7_link 32 = .ok (.iconst 0, 1) := by decide +kernel
theorem dX7_link_33 : decode cX7_link 33 = .ok (.invokestatic 48, 3) := by decide +kernel
theorem dX7_link_36 : decode cX7_link 36 = .ok (.iload_n 3, 1) := by decide +kernel
theorem dX7_link_37 : decode cX7_link 37 = .ok (.iload 4, 2) := by decide +kernel
theorem dX7_link_39 : decode cX7_link 39 = .ok (.invokestatic 176, 3) := by decide +kernel
theorem dX7_link_42 : decode cX7_link 42 = .ok (.ifCond .eq 17, 3) := by decide +kernel
theorem dX7_link_45 : decode cX7_link 45 = .ok (.iload 5, 2) := by decide +kernel
theorem dX7_link_47 : decode cX7_link 47 = .ok (.iload 6, 2) := by decide +kernel
theorem dX7_link_49 : decode cX7_link 49 = .ok (.invokestatic 176, 3) := by decide +kernel
theorem dX7_link_52 : decode cX7_link 52 = .ok (.ifCond .eq 7, 3) := by decide +kernel
theorem dX7_link_55 : decode cX7_link 55 = .ok (.iconst 1, 1) := by decide +kernel
theorem dX7_link_56 : decode cX7_link 56 = .ok (.goto 4, 3) := by decide +kernel
theorem dX7_link_59 : decode cX7_link 59 = .ok (.iconst 0, 1) := by decide +kernel
theorem dX7_link_60 : decode cX7_link 60 = .ok (.invokestatic 48, 3) := by decide +kernel
theorem dX7_link_63 : decode cX7_link 63 = .ok (.aload_n 0, 1) := by decide +kernel
theorem dX7_link_64 : decode cX7_link 64 = .ok (.getfield 32, 3) := by decide +kernel
theorem dX7_link_67 : decode cX7_link 67 = .ok (.aload_n 0, 1) := by decide +kernel
theorem dX7_link_68 : decode cX7_link 68 = .ok (.getfield 19, 3) := by decide +kernel
theorem dX7_link_71 : decode cX7_link 71 = .ok (.invokevirtual 158, 3) := by decide +kernel
theorem dX7_link_74 : decode cX7_link 74 = .ok (.aload_n 0, 1) := by decide +kernel
theorem dX7_link_75 : decode cX7_link 75 = .ok (.getfield 19, 3) := by decide +kernel
theorem dX7_link_78 : decode cX7_link 78 = .ok (.getfield 91, 3) := by decide +kernel
theorem dX7_link_81 : decode cX7_link 81 = .ok (.iload_n 1, 1) := by decide +kernel
theorem dX7_link_82 : decode cX7_link 82 = .ok (.iload_n 2, 1) := by decide +kernel
theorem dX7_link_83 : decode cX7_link 83 = .ok (.iload_n 3, 1) := by decide +kernel
theorem dX7_link_84 : decode cX7_link 84 = .ok (.iload 4, 2) := by decide +kernel
theorem dX7_link_86 : decode cX7_link 86 = .ok (.iload 5, 2) := by decide +kernel
theorem dX7_link_88 : decode cX7_link 88 = .ok (.iload 6, 2) := by decide +kernel
theorem dX7_link_90 : decode cX7_link 90 = .ok (.invokevirtual 179, 3) := by decide +kernel
theorem dX7_link_93 : decode cX7_link 93 = .ok (.aload_n 0, 1) := by decide +kernel
theorem dX7_link_94 : decode cX7_link 94 = .ok (.getfield 19, 3) := by decide +kernel
theorem dX7_link_97 : decode cX7_link 97 = .ok (.getfield 91, 3) := by decide +kernel
theorem dX7_link_100 : decode cX7_link 100 = .ok (.invokevirtual 100, 3) := by decide +kernel
theorem dX7_link_103 : decode cX7_link 103 = .ok (.ireturn, 1) := by decide +kernel
set_option maxRecDepth 20000 in
theorem ggX7_drop_X7_needContract : GoodIn wsX7_drop wsX7_needContract := goodIn_ca (goodIn_r _ [7, 8, 9, 2, 10, 11, 12, 13, 14, 15, 16, 17, 18, 19, 20, 21, 22, 23, 24, 25, 85, 86, 87, 88, 89, 90, 91, 92, 93, 94, 95, 96, 97, 98, 99, 100, 101] (by decide +kernel) (by decide +kernel)) (goodIn_sub (fun _ h => List.mem_cons_of_mem _ (List.mem_append_right _ h)) (by decide +kernel))
set_option maxRecDepth 20000 in
theorem gX7_drop_X7_needContract : GoodIn wsX7_drop (wsV RX7 138 RX7 yX7_needContract wsX7_needContract) := goodIn_app (goodIn_of _ (by decide +kernel)) ggX7_drop_X7_needContract
set_option maxRecDepth 20000 in
theorem ggX7_drop_X3_remember : GoodIn wsX7_drop wsX3_remember := goodIn_r _ [30, 31, 32, 33, 34, 35, 36, 37, 38, 39, 40, 41, 42, 43, 44, 45, 46, 47, 48, 49, 50, 51, 52, 53, 54, 55, 56, 57, 58, 13, 59, 19, 60, 61, 62, 63, 64, 65, 66, 67, 68, 102, 103, 104, 92, 93, 94, 95, 96, 97, 98, 99, 100, 101, 105, 106] (by decide +kernel) (by decide +kernel)
set_option maxRecDepth 20000 in
theorem gX7_drop_X3_remember : GoodIn wsX7_drop (wsV RX7 158 RX3 yX3_remember wsX3_remember) := goodIn_app (goodIn_of _ (by decide +kernel)) ggX7_drop_X3_remember
set_option maxRecDepth 20000 in
theorem ggX7_drop_X1_remove : GoodIn wsX7_drop wsX1_remove := goodIn_r _ [72, 19, 15, 16, 17, 13, 18, 20, 21, 22, 23, 24, 25, 101] (by decide +kernel) (by decide +kernel)
set_option maxRecDepth 20000 in
theorem gX7_drop_X1_remove : GoodIn wsX7_drop (wsV RX7 185 RX1 yX1_remove wsX1_remove) := goodIn_app (goodIn_of _ (by decide +kernel)) ggX7_drop_X1_remove
set_option maxRecDepth 20000 in
theorem ggX7_drop_X1_countOwn : GoodIn wsX7_drop wsX1_countOwn := goodIn_r _ [76, 77, 78, 79, 13, 80, 19, 23, 24, 25, 101] (by decide +kernel) (by decide +kernel)
set_option maxRecDepth 20000 in
theorem gX7_drop_X1_countOwn : GoodIn wsX7_drop (wsV RX7 95 RX1 yX1_countOwn wsX1_countOwn) := goodIn_app (goodIn_of _ (by decide +kernel)) ggX7_drop_X1_countOwn
set_option maxRecDepth 20000 in
theorem ggX7_drop_X1_countLinks : GoodIn wsX7_drop wsX1_countLinks := goodIn_r _ [84, 77, 78, 79, 13, 80, 19, 23, 24, 25, 101] (by decide +kernel) (by decide +kernel)
set_option maxRecDepth 20000 in
theorem gX7_drop_X1_countLinks : GoodIn wsX7_drop (wsV RX7 100 RX1 yX1_countLinks wsX1_countLinks) := goodIn_app (goodIn_of _ (by decide +kernel)) ggX7_drop_X1_countLinks
theorem dX7_drop_0 : decode cX7_drop 0 = .ok (.aload_n 0, 1) := by decide +kernel
theorem dX7_drop_1 : decode cX7_drop 1 = .ok (.iload_n 1, 1) := by decide +kernel
theorem dX7_drop_2 : decode cX7_drop 2 = .ok (.iload_n 2, 1) := by decide +kernel
theorem dX7_drop_3 : decode cX7_drop 3 = .ok (.invokevirtual 138, 3) := by decide +kernel
theorem dX7_drop_6 : decode cX7_drop 6 = .ok (.aload_n 0, 1) := by decide +kernel
theorem dX7_drop_7 : decode cX7_drop 7 = .ok (.getfield 32, 3) := by decide +kernel
theorem dX7_drop_10 : decode cX7_drop 10 = .ok (.aload_n 0, 1) := by decide +kernel
theorem dX7_drop_11 : decode cX7_drop 11 = .ok (.getfield 19, 3) := by decide +kernel
theorem dX7_drop_14 : decode cX7_drop 14 = .ok (.invokevirtual 158, 3) := by decide +kernel
theorem dX7_drop_17 : decode cX7_drop 17 = .ok (.aload_n 0, 1) := by decide +kernel
theorem dX7_drop_18 : decode cX7_drop 18 = .ok (.getfield 19, 3) := by decide +kernel
theorem dX7_drop_21 : decode cX7_drop 21 = .ok (.getfield 91, 3) := by decide +kernel
theorem dX7_drop_24 : decode cX7_drop 24 = .ok (.iload_n 1, 1) := by decide +kernel
theorem dX7_drop_25 : decode cX7_drop 25 = .ok (.iload_n 2, 1) := by decide +kernel
theorem dX7_drop_26 : decode cX7_drop 26 = .ok (.invokevirtual 185, 3) := by decide +kernel
theorem dX7_drop_29 : decode cX7_drop 29 = .ok (.pop, 1) := by decide +kernel
theorem dX7_drop_30 : decode cX7_drop 30 = .ok (.aload_n 0, 1) := by decide +kernel
theorem dX7_drop_31 : decode cX7_drop 31 = .ok (.getfield 19, 3) := by decide +kernel
theorem dX7_drop_34 : decode cX7_drop 34 = .ok (.getfield 91, 3) := by decide +kernel
theorem dX7_drop_37 : decode cX7_drop 37 = .ok (.invokevirtual 95, 3) := by decide +kernel
theorem dX7_drop_40 : decode cX7_drop 40 = .ok (.aload_n 0, 1) := by decide +kernel
theorem dX7_drop_41 : decode cX7_drop 41 = .ok (.getfield 19, 3) := by decide +kernel
theorem dX7_drop_44 : decode cX7_drop 44 = .ok (.getfield 91, 3) := by decide +kernel
theorem dX7_drop_47 : decode cX7_drop 47 = .ok (.invokevirtual 100, 3) := by decide +kernel
theorem dX7_drop_50 : decode cX7_drop 50 = .ok (.iadd, 1) := by decide +kernel
theorem dX7_drop_51 : decode cX7_drop 51 = .ok (.ireturn, 1) := by decide +kernel
set_option maxRecDepth 20000 in
theorem ggX7_call_X7_needPart : GoodIn wsX7_call wsX7_needPart := goodIn_ca (goodIn_r _ [7, 8, 9, 2, 10, 11, 12, 13, 14, 15, 136, 137, 138, 139, 140, 141, 142, 143, 144, 145, 146, 147, 148, 149, 150, 151] (by decide +kernel) (by decide +kernel)) (goodIn_sub (fun _ h => List.mem_cons_of_mem _ (List.mem_append_left _ (List.mem_append_right _ h))) (by decide +kernel))
set_option maxRecDepth 20000 in
theorem gX7_call_X7_needPart : GoodIn wsX7_call (wsV RX7 127 RX7 yX7_needPart wsX7_needPart) := goodIn_app (goodIn_of _ (by decide +kernel)) ggX7_call_X7_needPart
set_option maxRecDepth 20000 in
theorem ggX7_call_X7_isInput : GoodIn wsX7_call wsX7_isInput := goodIn_r _ [18, 19, 20, 6, 21] (by decide +kernel) (by decide +kernel)
set_option maxRecDepth 20000 in
theorem gX7_call_X7_isInput : GoodIn wsX7_call (va_wsS RX7 188 yX7_isInput wsX7_isInput) := goodIn_app (goodIn_of _ (by decide +kernel)) ggX7_call_X7_isInput
set_option maxRecDepth 20000 in
theorem ggX7_call_X7_needArgument : GoodIn wsX7_call wsX7_needArgument := goodIn_ca (goodIn_r _ [24, 25, 26] (by decide +kernel) (by decide +kernel)) (goodIn_sub (fun _ h => List.mem_cons_of_mem _ (List.mem_append_right _ h)) (by decide +kernel))
set_option maxRecDepth 20000 in
theorem gX7_call_X7_needArgument : GoodIn wsX7_call (va_wsS RX7 48 yX7_needArgument wsX7_needArgument) := goodIn_app (goodIn_of _ (by decide +kernel)) ggX7_call_X7_needArgument
set_option maxRecDepth 20000 in
theorem ggX7_call_X3_remember : GoodIn wsX7_call wsX3_remember := goodIn_r _ [31, 32, 33, 34, 35, 36, 37, 38, 39, 40, 41, 13, 42, 43, 44, 45, 46, 47, 48, 49, 15, 50, 51, 52, 53, 54, 55, 56, 57, 58, 59, 60, 61, 62, 63, 64, 65, 66, 67, 68, 69, 152, 153, 154, 143, 144, 145, 146, 147, 148, 149, 150, 151, 155, 156, 157] (by decide +kernel) (by decide +kernel)
set_option maxRecDepth 20000 in
theorem gX7_call_X3_remember : GoodIn wsX7_call (wsV RX7 158 RX3 yX3_remember wsX3_remember) := goodIn_app (goodIn_of _ (by decide +kernel)) ggX7_call_X3_remember
set_option maxRecDepth 20000 in
theorem ggX7_call_X4_callFromOutside : GoodIn wsX7_call wsX4_callFromOutside := goodIn_r _ [73, 51, 53, 74, 75, 76, 13, 77, 50, 43, 78, 79, 80, 81, 45, 82, 83, 84, 58, 85, 60, 86, 87, 88, 89, 90, 91, 92, 93, 94, 95, 96, 97, 98, 99, 52, 44, 100, 101, 102, 65, 103, 67, 68, 47, 48, 49, 69, 104, 36, 37, 38, 105, 106, 107, 108, 109, 110, 111, 112, 113, 114, 115, 116, 117, 118, 119, 120, 121, 122, 123, 124, 125, 126, 127, 54, 128, 129, 130, 131, 132, 133, 134, 135, 143, 144, 145, 146, 147, 148, 149, 150, 151, 155, 156, 157] (by decide +kernel) (by decide +kernel)
set_option maxRecDepth 20000 in
theorem gX7_call_X4_callFromOutside : GoodIn wsX7_call (wsV RX7 191 RX4 yX4_callFromOutside wsX4_callFromOutside) := goodIn_app (goodIn_of _ (by decide +kernel)) ggX7_call_X4_callFromOutside
theorem dX7_call_0 : decode cX7_call 0 = .ok (.aload_n 0, 1) := by decide +kernel
theorem dX7_call_1 : decode cX7_call 1 = .ok (.iload_n 1, 1) := by decide +kernel
theorem dX7_call_2 : decode cX7_call 2 = .ok (.invokevirtual 127, 3) := by decide +kernel
theorem dX7_call_5 : decode cX7_call 5 = .ok (.iload_n 2, 1) := by decide +kernel
theorem dX7_call_6 : decode cX7_call 6 = .ok (.invokestatic 188, 3) := by decide +kernel
theorem dX7_call_9 : decode cX7_call 9 = .ok (.invokestatic 48, 3) := by decide +kernel
theorem dX7_call_12 : decode cX7_call 12 = .ok (.aload_n 0, 1) := by decide +kernel
theorem dX7_call_13 : decode cX7_call 13 = .ok (.getfield 32, 3) := by decide +kernel
theorem dX7_call_16 : decode cX7_call 16 = .ok (.aload_n 0, 1) := by decide +kernel
theorem dX7_call_17 : decode cX7_call 17 = .ok (.getfield 19, 3) := by decide +kernel
theorem dX7_call_20 : decode cX7_call 20 = .ok (.invokevirtual 158, 3) := by decide +kernel
theorem dX7_call_23 : decode cX7_call 23 = .ok (.aload_n 0, 1) := by decide +kernel
theorem dX7_call_24 : decode cX7_call 24 = .ok (.getfield 19, 3) := by decide +kernel
theorem dX7_call_27 : decode cX7_call 27 = .ok (.iload_n 1, 1) := by decide +kernel
theorem dX7_call_28 : decode cX7_call 28 = .ok (.iload_n 2, 1) := by decide +kernel
theorem dX7_call_29 : decode cX7_call 29 = .ok (.invokevirtual 191, 3) := by decide +kernel
theorem dX7_call_32 : decode cX7_call 32 = .ok (.ireturn, 1) := by decide +kernel
set_option maxRecDepth 20000 in
theorem ggX7_undo_X3_size : GoodIn wsX7_undo wsX3_size := goodIn_r _ [7, 8, 61, 62, 63] (by decide +kernel) (by decide +kernel)
set_option maxRecDepth 20000 in
theorem gX7_undo_X3_size : GoodIn wsX7_undo (wsV RX7 194 RX3 yX3_size wsX3_size) := goodIn_app (goodIn_of _ (by decide +kernel)) ggX7_undo_X3_size
set_option maxRecDepth 20000 in
theorem ggX7_undo_X7_needState : GoodIn wsX7_undo wsX7_needState := goodIn_ca (goodIn_r _ [12, 13, 14] (by decide +kernel) (by decide +kernel)) (goodIn_sub (fun _ h => List.mem_cons_of_mem _ (List.mem_append_right _ h)) (by decide +kernel))
set_option maxRecDepth 20000 in
theorem gX7_undo_X7_needState : GoodIn wsX7_undo (va_wsS RX7 56 yX7_needState wsX7_needState) := goodIn_app (goodIn_of _ (by decide +kernel)) ggX7_undo_X7_needState
set_option maxRecDepth 20000 in
theorem ggX7_undo_X3_takeBackInto : GoodIn wsX7_undo wsX3_takeBackInto := goodIn_r _ [18, 19, 8, 20, 21, 22, 23, 24, 25, 26, 27, 28, 29, 30, 31, 32, 33, 34, 35, 36, 37, 38, 39, 40, 41, 42, 43, 44, 45, 46, 47, 48, 49, 50, 51, 52, 53, 61, 62, 63, 64, 65, 66, 67, 68, 69, 70, 71, 72, 73, 74, 75] (by decide +kernel) (by decide +kernel)
set_option maxRecDepth 20000 in
theorem gX7_undo_X3_takeBackInto : GoodIn wsX7_undo (wsV RX7 195 RX3 yX3_takeBackInto wsX3_takeBackInto) := goodIn_app (goodIn_of _ (by decide +kernel)) ggX7_undo_X3_takeBackInto
theorem dX7_undo_0 : decode cX7_undo 0 = .ok (.aload_n 0, 1) := by decide +kernel
theorem dX7_undo_1 : decode cX7_undo 1 = .ok (.getfield 32, 3) := by decide +kernel
theorem dX7_undo_4 : decode cX7_undo 4 = .ok (.invokevirtual 194, 3) := by decide +kernel
theorem dX7_undo_7 : decode cX7_undo 7 = .ok (.ifCond .le 7, 3) := by decide +kernel
theorem dX7_undo_10 : decode cX7_undo 10 = .ok (.iconst 1, 1) := by decide +kernel
theorem dX7_undo_11 : decode cX7_undo 11 = .ok (.goto 4, 3) := by decide +kernel
theorem dX7_undo_14 : decode cX7_undo 14 = .ok (.iconst 0, 1) := by decide +kernel
theorem dX7_undo_15 : decode cX7_undo 15 = .ok (.invokestatic 56, 3) := by decide +kernel
theorem dX7_undo_18 : decode cX7_undo 18 = .ok (.aload_n 0, 1) := by decide +kernel
theorem dX7_undo_19 : decode cX7_undo 19 = .ok (.getfield 32, 3) := by decide +kernel
theorem dX7_undo_22 : decode cX7_undo 22 = .ok (.aload_n 0, 1) := by decide +kernel
theorem dX7_undo_23 : decode cX7_undo 23 = .ok (.getfield 19, 3) := by decide +kernel
theorem dX7_undo_26 : decode cX7_undo 26 = .ok (.invokevirtual 195, 3) := by decide +kernel
theorem dX7_undo_29 : decode cX7_undo 29 = .ok (.aload_n 0, 1) := by decide +kernel
theorem dX7_undo_30 : decode cX7_undo 30 = .ok (.getfield 32, 3) := by decide +kernel
theorem dX7_undo_33 : decode cX7_undo 33 = .ok (.invokevirtual 194, 3) := by decide +kernel
theorem dX7_undo_36 : decode cX7_undo 36 = .ok (.ireturn, 1) := by decide +kernel
set_option maxRecDepth 20000 in
theorem ggX7_would_X7_needPart : GoodIn wsX7_would wsX7_needPart := goodIn_ca (goodIn_r _ [7, 8, 9, 2, 10, 11, 12, 13, 14, 15, 141, 142, 143, 144, 145, 146, 147, 148, 149, 150, 151, 152, 153, 154, 155, 156] (by decide +kernel) (by decide +kernel)) (goodIn_sub (fun _ h => List.mem_cons_of_mem _ (List.mem_append_left _ (List.mem_append_right _ h))) (by decide +kernel))
set_option maxRecDepth 20000 in
theorem gX7_would_X7_needPart : GoodIn wsX7_would (wsV RX7 127 RX7 yX7_needPart wsX7_needPart) := goodIn_app (goodIn_of _ (by decide +kernel)) ggX7_would_X7_needPart
set_option maxRecDepth 20000 in
theorem ggX7_would_X7_isInput : GoodIn wsX7_would wsX7_isInput := goodIn_r _ [18, 19, 20, 6, 21] (by decide +kernel) (by decide +kernel)
set_option maxRecDepth 20000 in
theorem gX7_would_X7_isInput : GoodIn wsX7_would (va_wsS RX7 188 yX7_isInput wsX7_isInput) := goodIn_app (goodIn_of _ (by decide +kernel)) ggX7_would_X7_isInput
set_option maxRecDepth 20000 in
theorem ggX7_would_X7_isWithin : GoodIn wsX7_would wsX7_isWithin := goodIn_r _ [21] (by decide +kernel) (by decide +kernel)
set_option maxRecDepth 20000 in
theorem gX7_would_X7_isWithin : GoodIn wsX7_would (va_wsS RX7 44 yX7_isWithin wsX7_isWithin) := goodIn_app (goodIn_of _ (by decide +kernel)) ggX7_would_X7_isWithin
set_option maxRecDepth 20000 in
theorem ggX7_would_X7_needArgument : GoodIn wsX7_would wsX7_needArgument := goodIn_ca (goodIn_r _ [24, 25, 26] (by decide +kernel) (by decide +kernel)) (goodIn_sub (fun _ h => List.mem_cons_of_mem _ (List.mem_append_right _ h)) (by decide +kernel))
set_option maxRecDepth 20000 in
theorem gX7_would_X7_needArgument : GoodIn wsX7_would (va_wsS RX7 48 yX7_needArgument wsX7_needArgument) := goodIn_app (goodIn_of _ (by decide +kernel)) ggX7_would_X7_needArgument
set_option maxRecDepth 20000 in
theorem ggX7_would_X4_copyFrom : GoodIn wsX7_would wsX4_copyFrom := goodIn_r _ [30, 31, 32, 33, 34, 35, 36, 37, 15, 38, 39, 40, 41, 42, 43, 44, 45, 46, 47, 48, 49, 50, 51, 52, 53, 54, 55, 56, 57, 148, 149, 150, 151, 152, 153, 154, 155, 156, 157, 158, 159] (by decide +kernel) (by decide +kernel)
set_option maxRecDepth 20000 in
theorem gX7_would_X4_copyFrom : GoodIn wsX7_would (wsV RX7 198 RX4 yX4_copyFrom wsX4_copyFrom) := goodIn_app (goodIn_of _ (by decide +kernel)) ggX7_would_X4_copyFrom
set_option maxRecDepth 20000 in
theorem ggX7_would_X4_callFromOutside : GoodIn wsX7_would wsX4_callFromOutside := goodIn_r _ [61, 39, 41, 62, 63, 64, 13, 65, 38, 31, 66, 67, 68, 69, 33, 70, 71, 72, 46, 73, 48, 74, 75, 76, 77, 78, 79, 80, 81, 82, 83, 84, 85, 86, 87, 40, 32, 88, 89, 90, 53, 91, 55, 56, 35, 36, 37, 57, 92, 93, 94, 95, 96, 97, 98, 99, 100, 101, 102, 103, 104, 105, 106, 107, 108, 109, 110, 111, 112, 113, 114, 115, 116, 117, 118, 42, 119, 120, 121, 122, 123, 124, 125, 126, 148, 149, 150, 151, 152, 153, 154, 155, 156, 157, 158, 159] (by decide +kernel) (by decide +kernel)
set_option maxRecDepth 20000 in
theorem gX7_would_X4_callFromOutside : GoodIn wsX7_would (wsV RX7 191 RX4 yX4_callFromOutside wsX4_callFromOutside) := goodIn_app (goodIn_of _ (by decide +kernel)) ggX7_would_X4_callFromOutside
set_option maxRecDepth 20000 in
theorem ggX7_would_X0_lastKind : GoodIn wsX7_would wsX0_lastKind := goodIn_r _ [130, 57, 55, 158, 159] (by decide +kernel) (by decide +kernel)
set_option maxRecDepth 20000 in
theorem gX7_would_X0_lastKind : GoodIn wsX7_would (wsV RX7 122 RX0 yX0_lastKind wsX0_lastKind) := goodIn_app (goodIn_of _ (by decide +kernel)) ggX7_would_X0_lastKind
set_option maxRecDepth 20000 in
theorem ggX7_would_X0_lastBlamedPart : GoodIn wsX7_would wsX0_lastBlamedPart := goodIn_r _ [134, 55, 135, 128, 129, 53, 130, 57, 136, 97, 98, 158, 159] (by decide +kernel) (by decide +kernel)
set_option maxRecDepth 20000 in
theorem gX7_would_X0_lastBlamedPart : GoodIn wsX7_would (wsV RX7 201 RX0 yX0_lastBlamedPart wsX0_lastBlamedPart) := goodIn_app (goodIn_of _ (by decide +kernel)) ggX7_would_X0_lastBlamedPart
set_option maxRecDepth 20000 in
theorem ggX7_would_X0_tell : GoodIn wsX7_would wsX0_tell := goodIn_r _ [140, 57, 55, 158, 159] (by decide +kernel) (by decide +kernel)
set_option maxRecDepth 20000 in
theorem gX7_would_X0_tell : GoodIn wsX7_would (wsV RX7 148 RX0 yX0_tell wsX0_tell) := goodIn_app (goodIn_of _ (by decide +kernel)) ggX7_would_X0_tell
theorem dX7_would_0 : decode cX7_would 0 = .ok (.aload_n 0, 1) := by decide +kernel
theorem dX7_would_1 : decode cX7_would 1 = .ok (.iload_n 1, 1) := by decide +kernel
theorem dX7_would_2 : decode cX7_would 2 = .ok (.invokevirtual 127, 3) := by decide +kernel
theorem dX7_would_5 : decode cX7_would 5 = .ok (.iload_n 2, 1) := by decide +kernel
theorem dX7_would_6 : decode cX7_would 6 = .ok (.invokestatic 188, 3) := by decide +kernel
theorem dX7_would_9 : decode cX7_would 9 = .ok (.ifCond .eq 16, 3) := by decide +kernel
theorem dX7_would_12 : decode cX7_would 12 = .ok (.iload_n 3, 1) := by decide +kernel
theorem dX7_would_13 : decode cX7_would 13 = .ok (.iconst 0, 1) := by decide +kernel
theorem dX7_would_14 : decode cX7_would 14 = .ok (.iconst 4, 1) := by decide +kernel
theorem dX7_would_15 : decode cX7_would 15 = .ok (.invokestatic 44, 3) := by decide +kernel
theorem dX7_would_18 : decode cX7_would 18 = .ok (.ifCond .eq 7, 3) := by decide +kernel
theorem dX7_would_21 : decode cX7_would 21 = .ok (.iconst 1, 1) := by decide +kernel
theorem dX7_would_22 : decode cX7_would 22 = .ok (.goto 4, 3) := by decide +kernel
theorem dX7_would_25 : decode cX7_would 25 = .ok (.iconst 0, 1) := by decide +kernel
theorem dX7_would_26 : decode cX7_would 26 = .ok (.invokestatic 48, 3) := by decide +kernel
theorem dX7_would_29 : decode cX7_would 29 = .ok (.aload_n 0, 1) := by decide +kernel
theorem dX7_would_30 : decode cX7_would 30 = .ok (.getfield 26, 3) := by decide +kernel
theorem dX7_would_33 : decode cX7_would 33 = .ok (.aload_n 0, 1) := by decide +kernel
theorem dX7_would_34 : decode cX7_would 34 = .ok (.getfield 19, 3) := by decide +kernel
theorem dX7_would_37 : decode cX7_would 37 = .ok (.invokevirtual 198, 3) := by decide +kernel
theorem dX7_would_40 : decode cX7_would 40 = .ok (.aload_n 0, 1) := by decide +kernel
theorem dX7_would_41 : decode cX7_would 41 = .ok (.getfield 26, 3) := by decide +kernel
theorem dX7_would_44 : decode cX7_would 44 = .ok (.iload_n 1, 1) := by decide +kernel
theorem dX7_would_45 : decode cX7_would 45 = .ok (.iload_n 2, 1) := by decide +kernel
theorem dX7_would_46 : decode cX7_would 46 = .ok (.invokevirtual 191, 3) := by decide +kernel
theorem dX7_would_49 : decode cX7_would 49 = .ok (.istore 4, 2) := by decide +kernel
theorem dX7_would_51 : decode cX7_would 51 = .ok (.iload 4, 2) := by decide +kernel
theorem dX7_would_53 : decode cX7_would 53 = .ok (.sipush (-10000), 3) := by decide +kernel
theorem dX7_would_56 : decode cX7_would 56 = .ok (.if_icmp .ne 7, 3) := by decide +kernel
theorem dX7_would_59 : decode cX7_would 59 = .ok (.iconst 1, 1) := by decide +kernel
theorem dX7_would_60 : decode cX7_would 60 = .ok (.goto 4, 3) := by decide +kernel
theorem dX7_would_63 : decode cX7_would 63 = .ok (.iconst 0, 1) := by decide +kernel
theorem dX7_would_64 : decode cX7_would 64 = .ok (.istore 5, 2) := by decide +kernel
theorem dX7_would_66 : decode cX7_would 66 = .ok (.iload_n 3, 1) := by decide +kernel
theorem dX7_would_67 : decode cX7_would 67 = .ok (.tableswitch 96 0 3 #[29, 32, 52, 74], 29) := by decide +kernel
theorem dX7_would_96 : decode cX7_would 96 = .ok (.iload 4, 2) := by decide +kernel
theorem dX7_would_98 : decode cX7_would 98 = .ok (.ireturn, 1) := by decide +kernel
theorem dX7_would_99 : decode cX7_would 99 = .ok (.iload 5, 2) := by decide +kernel
theorem dX7_would_101 : decode cX7_would 101 = .ok (.ifCond .eq 16, 3) := by decide +kernel
theorem dX7_would_104 : decode cX7_would 104 = .ok (.aload_n 0, 1) := by decide +kernel
theorem dX7_would_105 : decode cX7_would 105 = .ok (.getfield 26, 3) := by decide +kernel
theorem dX7_would_108 : decode cX7_would 108 = .ok (.getfield 118, 3) := by decide +kernel
theorem dX7_would_111 : decode cX7_would 111 = .ok (.invokevirtual 122, 3) := by decide +kernel
theorem dX7_would_114 : decode cX7_would 114 = .ok (.goto 4, 3) := by decide +kernel
theorem dX7_would_117 : decode cX7_would 117 = .ok (.iconst 0, 1) := by decide +kernel
theorem dX7_would_118 : decode cX7_would 118 = .ok (.ireturn, 1) := by decide +kernel
theorem dX7_would_119 : decode cX7_would 119 = .ok (.iload 5, 2) := by decide +kernel
theorem dX7_would_121 : decode cX7_would 121 = .ok (.ifCond .eq 16, 3) := by decide +kernel
theorem dX7_would_124 : decode cX7_would 124 = .ok (.aload_n 0, 1) := by decide +kernel
theorem dX7_would_125 : decode cX7_would 125 = .ok (.getfield 26, 3) := by decide +kernel
theorem dX7_would_128 : decode cX7_would 128 = .ok (.getfield 118, 3) := by decide +kernel
theorem dX7_would_131 : decode cX7_would 131 = .ok (.invokevirtual 201, 3) := by decide +kernel
theorem dX7_would_134 : decode cX7_would 134 = .ok (.goto 6, 3) := by decide +kernel
theorem dX7_would_137 : decode cX7_would 137 = .ok (.sipush (-10000), 3) := by decide +kernel
theorem dX7_would_140 : decode cX7_would 140 = .ok (.ireturn, 1) := by decide +kernel
theorem dX7_would_141 : decode cX7_would 141 = .ok (.iload 5, 2) := by decide +kernel
theorem dX7_would_143 : decode cX7_would 143 = .ok (.ifCond .eq 18, 3) := by decide +kernel
theorem dX7_would_146 : decode cX7_would 146 = .ok (.aload_n 0, 1) := by decide +kernel
theorem dX7_would_147 : decode cX7_would 147 = .ok (.getfield 26, 3) := by decide +kernel
theorem dX7_would_150 : decode cX7_would 150 = .ok (.getfield 118, 3) := by decide +kernel
theorem dX7_would_153 : decode cX7_would 153 = .ok (.iconst 0, 1) := by decide +kernel
theorem dX7_would_154 : decode cX7_would 154 = .ok (.iconst 4, 1) := by decide +kernel
theorem dX7_would_155 : decode cX7_would 155 = .ok (.invokevirtual 148, 3) := by decide +kernel
theorem dX7_would_158 : decode cX7_would 158 = .ok (.goto 4, 3) := by decide +kernel
theorem dX7_would_161 : decode cX7_would 161 = .ok (.iconst 0, 1) := by decide +kernel
theorem dX7_would_162 : decode cX7_would 162 = .ok (.ireturn, 1) := by decide +kernel
theorem dX7_would_163 : decode cX7_would 163 = .ok (.aload_n 0, 1) := by decide +kernel
theorem dX7_would_164 : decode cX7_would 164 = .ok (.getfield 26, 3) := by decide +kernel
theorem dX7_would_167 : decode cX7_would 167 = .ok (.getfield 115, 3) := by decide +kernel
theorem dX7_would_170 : decode cX7_would 170 = .ok (.aload_n 0, 1) := by decide +kernel
theorem dX7_would_171 : decode cX7_would 171 = .ok (.getfield 19, 3) := by decide +kernel
theorem dX7_would_174 : decode cX7_would 174 = .ok (.getfield 115, 3) := by decide +kernel
theorem dX7_would_177 : decode cX7_would 177 = .ok (.isub, 1) := by decide +kernel
theorem dX7_would_178 : decode cX7_would 178 = .ok (.ireturn, 1) := by decide +kernel
set_option maxRecDepth 20000 in
theorem ggX7_stands_X7_needContract : GoodIn wsX7_stands wsX7_needContract := goodIn_ca (goodIn_r _ [6, 7, 8, 1, 9, 10, 11, 12, 13, 14, 15, 16, 17, 18, 19, 20, 21, 22, 23, 24, 30, 31, 32, 33, 34, 35, 36, 37, 38, 39, 40, 41, 42, 43, 44, 45, 46] (by decide +kernel) (by decide +kernel)) (goodIn_sub (fun _ h => List.mem_cons_of_mem _ (List.mem_append_right _ h)) (by decide +kernel))
set_option maxRecDepth 20000 in
theorem gX7_stands_X7_needContract : GoodIn wsX7_stands (wsV RX7 138 RX7 yX7_needContract wsX7_needContract) := goodIn_app (goodIn_of _ (by decide +kernel)) ggX7_stands_X7_needContract
set_option maxRecDepth 20000 in
theorem ggX7_stands_X1_find : GoodIn wsX7_stands wsX1_find := goodIn_r _ [17, 18, 19, 20, 12, 21, 22, 23, 24, 46] (by decide +kernel) (by decide +kernel)
set_option maxRecDepth 20000 in
theorem gX7_stands_X1_find : GoodIn wsX7_stands (wsV RX7 142 RX1 yX1_find wsX1_find) := goodIn_app (goodIn_of _ (by decide +kernel)) ggX7_stands_X1_find
set_option maxRecDepth 20000 in
theorem ggX7_stands_X1_mayStandFor : GoodIn wsX7_stands wsX1_mayStandFor := goodIn_r _ [29, 18, 46] (by decide +kernel) (by decide +kernel)
set_option maxRecDepth 20000 in
theorem gX7_stands_X1_mayStandFor : GoodIn wsX7_stands (wsV RX7 204 RX1 yX1_mayStandFor wsX1_mayStandFor) := goodIn_app (goodIn_of _ (by decide +kernel)) ggX7_stands_X1_mayStandFor
theorem dX7_stands_0 : decode cX7_stands 0 = .ok (.aload_n 0, 1) := by decide +kernel
theorem dX7_stands_1 : decode cX7_stands 1 = .ok (.iload_n 1, 1) := by decide +kernel
theorem dX7_stands_2 : decode cX7_stands 2 = .ok (.iload_n 2, 1) := by decide +kernel
theorem dX7_stands_3 : decode cX7_stands 3 = .ok (.invokevirtual 138, 3) := by decide +kernel
theorem dX7_stands_6 : decode cX7_stands 6 = .ok (.aload_n 0, 1) := by decide +kernel
theorem dX7_stands_7 : decode cX7_stands 7 = .ok (.iload_n 3, 1) := by decide +kernel
theorem dX7_stands_8 : decode cX7_stands 8 = .ok (.iload 4, 2) := by decide +kernel
theorem dX7_stands_10 : decode cX7_stands 10 = .ok (.invokevirtual 138, 3) := by decide +kernel
theorem dX7_stands_13 : decode cX7_stands 13 = .ok (.aload_n 0, 1) := by decide +kernel
theorem dX7_stands_14 : decode cX7_stands 14 = .ok (.getfield 19, 3) := by decide +kernel
theorem dX7_stands_17 : decode cX7_stands 17 = .ok (.getfield 91, 3) := by decide +kernel
theorem dX7_stands_20 : decode cX7_stands 20 = .ok (.astore 5, 2) := by decide +kernel
theorem dX7_stands_22 : decode cX7_stands 22 = .ok (.aload 5, 2) := by decide +kernel
theorem dX7_stands_24 : decode cX7_stands 24 = .ok (.aload 5, 2) := by decide +kernel
theorem dX7_stands_26 : decode cX7_stands 26 = .ok (.iload_n 1, 1) := by decide +kernel
theorem dX7_stands_27 : decode cX7_stands 27 = .ok (.iload_n 2, 1) := by decide +kernel
theorem dX7_stands_28 : decode cX7_stands 28 = .ok (.invokevirtual 142, 3) := by decide +kernel
theorem dX7_stands_31 : decode cX7_stands 31 = .ok (.aload 5, 2) := by decide +kernel
theorem dX7_stands_33 : decode cX7_stands 33 = .ok (.iload_n 3, 1) := by decide +kernel
theorem dX7_stands_34 : decode cX7_stands 34 = .ok (.iload 4, 2) := by decide +kernel
theorem dX7_stands_36 : decode cX7_stands 36 = .ok (.invokevirtual 142, 3) := by decide +kernel
theorem dX7_stands_39 : decode cX7_stands 39 = .ok (.invokevirtual 204, 3) := by decide +kernel
theorem dX7_stands_42 : decode cX7_stands 42 = .ok (.ifCond .eq 7, 3) := by decide +kernel
theorem dX7_stands_45 : decode cX7_stands 45 = .ok (.iconst 1, 1) := by decide +kernel
theorem dX7_stands_46 : decode cX7_stands 46 = .ok (.goto 4, 3) := by decide +kernel
theorem dX7_stands_49 : decode cX7_stands 49 = .ok (.iconst 0, 1) := by decide +kernel
theorem dX7_stands_50 : decode cX7_stands 50 = .ok (.ireturn, 1) := by decide +kernel
set_option maxRecDepth 20000 in
theorem ggX7_holes_X1_countHoles : GoodIn wsX7_holes wsX1_countHoles := goodIn_r _ [6, 7, 8, 9, 5, 10, 11, 12, 13, 14, 31] (by decide +kernel) (by decide +kernel)
set_option maxRecDepth 20000 in
theorem gX7_holes_X1_countHoles : GoodIn wsX7_holes (wsV RX7 207 RX1 yX1_countHoles wsX1_countHoles) := goodIn_app (goodIn_of _ (by decide +kernel)) ggX7_holes_X1_countHoles
theorem dX7_holes_0 : decode cX7_holes 0 = .ok (.aload_n 0, 1) := by decide +kernel
theorem dX7_holes_1 : decode cX7_holes 1 = .ok (.getfield 19, 3) := by decide +kernel
theorem dX7_holes_4 : decode cX7_holes 4 = .ok (.getfield 91, 3) := by decide +kernel
theorem dX7_holes_7 : decode cX7_holes 7 = .ok (.invokevirtual 207, 3) := by decide +kernel
theorem dX7_holes_10 : decode cX7_holes 10 = .ok (.ireturn, 1) := by decide +kernel
set_option maxRecDepth 20000 in
theorem ggX7_firstBad_X7_needPart : GoodIn wsX7_firstBad wsX7_needPart := goodIn_ca (goodIn_r _ [7, 8, 9, 2, 10, 11, 12, 13, 14, 15, 127, 128, 129, 130, 131, 132, 133, 134, 135, 136, 137, 138, 139, 140, 141, 142] (by decide +kernel) (by decide +kernel)) (goodIn_sub (fun _ h => List.mem_cons_of_mem _ (List.mem_append_left _ (List.mem_append_right _ h))) (by decide +kernel))
set_option maxRecDepth 20000 in
theorem gX7_firstBad_X7_needPart : GoodIn wsX7_firstBad (wsV RX7 127 RX7 yX7_needPart wsX7_needPart) := goodIn_app (goodIn_of _ (by decide +kernel)) ggX7_firstBad_X7_needPart
set_option maxRecDepth 20000 in
theorem ggX7_firstBad_X7_isInput : GoodIn wsX7_firstBad wsX7_isInput := goodIn_r _ [18, 19, 20, 6, 21] (by decide +kernel) (by decide +kernel)
set_option maxRecDepth 20000 in
theorem gX7_firstBad_X7_isInput : GoodIn wsX7_firstBad (va_wsS RX7 188 yX7_isInput wsX7_isInput) := goodIn_app (goodIn_of _ (by decide +kernel)) ggX7_firstBad_X7_isInput
set_option maxRecDepth 20000 in
theorem ggX7_firstBad_X7_isWithin : GoodIn wsX7_firstBad wsX7_isWithin := goodIn_r _ [21] (by decide +kernel) (by decide +kernel)
set_option maxRecDepth 20000 in
theorem gX7_firstBad_X7_isWithin : GoodIn wsX7_firstBad (va_wsS RX7 44 yX7_isWithin wsX7_isWithin) := goodIn_app (goodIn_of _ (by decide +kernel)) ggX7_firstBad_X7_isWithin
set_option maxRecDepth 20000 in
theorem ggX7_firstBad_X7_needArgument : GoodIn wsX7_firstBad wsX7_needArgument := goodIn_ca (goodIn_r _ [24, 25, 26] (by decide +kernel) (by decide +kernel)) (goodIn_sub (fun _ h => List.mem_cons_of_mem _ (List.mem_append_right _ h)) (by decide +kernel))
set_option maxRecDepth 20000 in
theorem gX7_firstBad_X7_needArgument : GoodIn wsX7_firstBad (va_wsS RX7 48 yX7_needArgument wsX7_needArgument) := goodIn_app (goodIn_of _ (by decide +kernel)) ggX7_firstBad_X7_needArgument
set_option maxRecDepth 20000 in
theorem ggX7_firstBad_X4_copyFrom : GoodIn wsX7_firstBad wsX4_copyFrom := goodIn_r _ [30, 31, 32, 33, 34, 35, 36, 37, 15, 38, 39, 40, 41, 42, 43, 44, 45, 46, 47, 48, 49, 50, 51, 52, 53, 54, 55, 56, 57, 134, 135, 136, 137, 138, 139, 140, 141, 142, 143, 144, 145] (by decide +kernel) (by decide +kernel)
set_option maxRecDepth 20000 in
theorem gX7_firstBad_X4_copyFrom : GoodIn wsX7_firstBad (wsV RX7 198 RX4 yX4_copyFrom wsX4_copyFrom) := goodIn_app (goodIn_of _ (by decide +kernel)) ggX7_firstBad_X4_copyFrom
set_option maxRecDepth 20000 in
theorem ggX7_firstBad_X4_callFromOutside : GoodIn wsX7_firstBad wsX4_callFromOutside := goodIn_r _ [61, 39, 41, 62, 63, 64, 13, 65, 38, 31, 66, 67, 68, 69, 33, 70, 71, 72, 46, 73, 48, 74, 75, 76, 77, 78, 79, 80, 81, 82, 83, 84, 85, 86, 87, 40, 32, 88, 89, 90, 53, 91, 55, 56, 35, 36, 37, 57, 92, 93, 94, 95, 96, 97, 98, 99, 100, 101, 102, 103, 104, 105, 106, 107, 108, 109, 110, 111, 112, 113, 114, 115, 116, 117, 118, 42, 119, 120, 121, 122, 123, 124, 125, 126, 134, 135, 136, 137, 138, 139, 140, 141, 142, 143, 144, 145] (by decide +kernel) (by decide +kernel)
set_option maxRecDepth 20000 in
theorem gX7_firstBad_X4_callFromOutside : GoodIn wsX7_firstBad (wsV RX7 191 RX4 yX4_callFromOutside wsX4_callFromOutside) := goodIn_app (goodIn_of _ (by decide +kernel)) ggX7_firstBad_X4_callFromOutside
theorem dX7_firstBad_0 : decode cX7_firstBad 0 = .ok (.aload_n 0, 1) := by decide +kernel
theorem dX7_firstBad_1 : decode cX7_firstBad 1 = .ok (.iload_n 1, 1) := by decide +kernel
theorem dX7_firstBad_2 : decode cX7_firstBad 2 = .ok (.invokevirtual 127, 3) := by decide +kernel
theorem dX7_firstBad_5 : decode cX7_firstBad 5 = .ok (.iload_n 2, 1) := by decide +kernel
theorem dX7_firstBad_6 : decode cX7_firstBad 6 = .ok (.invokestatic 188, 3) := by decide +kernel
theorem dX7_firstBad_9 : decode cX7_firstBad 9 = .ok (.ifCond .eq 18, 3) := by decide +kernel
theorem dX7_firstBad_12 : decode cX7_firstBad 12 = .ok (.iload_n 3, 1) := by decide +kernel
theorem dX7_firstBad_13 : decode cX7_firstBad 13 = .ok (.iconst 1, 1) := by decide +kernel
theorem dX7_firstBad_14 : decode cX7_firstBad 14 = .ok (.sipush 200, 3) := by decide +kernel
theorem dX7_firstBad_17 : decode cX7_firstBad 17 = .ok (.invokestatic 44, 3) := by decide +kernel
theorem dX7_firstBad_20 : decode cX7_firstBad 20 = .ok (.ifCond .eq 7, 3) := by decide +kernel
theorem dX7_firstBad_23 : decode cX7_firstBad 23 = .ok (.iconst 1, 1) := by decide +kernel
theorem dX7_firstBad_24 : decode cX7_firstBad 24 = .ok (.goto 4, 3) := by decide +kernel
theorem dX7_firstBad_27 : decode cX7_firstBad 27 = .ok (.iconst 0, 1) := by decide +kernel
theorem dX7_firstBad_28 : decode cX7_firstBad 28 = .ok (.invokestatic 48, 3) := by decide +kernel
theorem dX7_firstBad_31 : decode cX7_firstBad 31 = .ok (.aload_n 0, 1) := by decide +kernel
theorem dX7_firstBad_32 : decode cX7_firstBad 32 = .ok (.getfield 26, 3) := by decide +kernel
theorem dX7_firstBad_35 : decode cX7_firstBad 35 = .ok (.aload_n 0, 1) := by decide +kernel
theorem dX7_firstBad_36 : decode cX7_firstBad 36 = .ok (.getfield 19, 3) := by decide +kernel
theorem dX7_firstBad_39 : decode cX7_firstBad 39 = .ok (.invokevirtual 198, 3) := by decide +kernel
theorem dX7_firstBad_42 : decode cX7_firstBad 42 = .ok (.iconst 0, 1) := by decide +kernel
theorem dX7_firstBad_43 : decode cX7_firstBad 43 = .ok (.istore 4, 2) := by decide +kernel
theorem dX7_firstBad_45 : decode cX7_firstBad 45 = .ok (.iload 4, 2) := by decide +kernel
theorem dX7_firstBad_47 : decode cX7_firstBad 47 = .ok (.iload_n 3, 1) := by decide +kernel
theorem dX7_firstBad_48 : decode cX7_firstBad 48 = .ok (.if_icmp .ge 32, 3) := by decide +kernel
theorem dX7_firstBad_51 : decode cX7_firstBad 51 = .ok (.aload_n 0, 1) := by decide +kernel
theorem dX7_firstBad_52 : decode cX7_firstBad 52 = .ok (.getfield 26, 3) := by decide +kernel
theorem dX7_firstBad_55 : decode cX7_firstBad 55 = .ok (.iload_n 1, 1) := by decide +kernel
theorem dX7_firstBad_56 : decode cX7_firstBad 56 = .ok (.iload_n 2, 1) := by decide +kernel
theorem dX7_firstBad_57 : decode cX7_firstBad 57 = .ok (.iload 4, 2) := by decide +kernel
theorem dX7_firstBad_59 : decode cX7_firstBad 59 = .ok (.iadd, 1) := by decide +kernel
theorem dX7_firstBad_60 : decode cX7_firstBad 60 = .ok (.invokevirtual 191, 3) := by decide +kernel
theorem dX7_firstBad_63 : decode cX7_firstBad 63 = .ok (.sipush (-10000), 3) := by decide +kernel
theorem dX7_firstBad_66 : decode cX7_firstBad 66 = .ok (.if_icmp .ne 8, 3) := by decide +kernel
theorem dX7_firstBad_69 : decode cX7_firstBad 69 = .ok (.iload_n 2, 1) := by decide +kernel
theorem dX7_firstBad_70 : decode cX7_firstBad 70 = .ok (.iload 4, 2) := by decide +kernel
theorem dX7_firstBad_72 : decode cX7_firstBad 72 = .ok (.iadd, 1) := by decide +kernel
theorem dX7_firstBad_73 : decode cX7_firstBad 73 = .ok (.ireturn, 1) := by decide +kernel
theorem dX7_firstBad_74 : decode cX7_firstBad 74 = .ok (.iinc 4 1, 3) := by decide +kernel
theorem dX7_firstBad_77 : decode cX7_firstBad 77 = .ok (.goto (-32), 3) := by decide +kernel
theorem dX7_firstBad_80 : decode cX7_firstBad 80 = .ok (.sipush (-10000), 3) := by decide +kernel
theorem dX7_firstBad_83 : decode cX7_firstBad 83 = .ok (.ireturn, 1) := by decide +kernel
set_option maxRecDepth 20000 in
theorem ggX7_mostBlamed_X7_needPart : GoodIn wsX7_mostBlamed wsX7_needPart := goodIn_ca (goodIn_r _ [7, 8, 9, 2, 10, 11, 12, 13, 14, 15, 132, 133, 134, 135, 136, 137, 138, 139, 140, 141, 142, 143, 144, 145, 146, 147] (by decide +kernel) (by decide +kernel)) (goodIn_sub (fun _ h => List.mem_cons_of_mem _ (List.mem_append_left _ (List.mem_append_right _ h))) (by decide +kernel))
set_option maxRecDepth 20000 in
theorem gX7_mostBlamed_X7_needPart : GoodIn wsX7_mostBlamed (wsV RX7 127 RX7 yX7_needPart wsX7_needPart) := goodIn_app (goodIn_of _ (by decide +kernel)) ggX7_mostBlamed_X7_needPart
set_option maxRecDepth 20000 in
theorem ggX7_mostBlamed_X7_isInput : GoodIn wsX7_mostBlamed wsX7_isInput := goodIn_r _ [18, 19, 20, 6, 21] (by decide +kernel) (by decide +kernel)
set_option maxRecDepth 20000 in
theorem gX7_mostBlamed_X7_isInput : GoodIn wsX7_mostBlamed (va_wsS RX7 188 yX7_isInput wsX7_isInput) := goodIn_app (goodIn_of _ (by decide +kernel)) ggX7_mostBlamed_X7_isInput
set_option maxRecDepth 20000 in
theorem ggX7_mostBlamed_X7_isWithin : GoodIn wsX7_mostBlamed wsX7_isWithin := goodIn_r _ [21] (by decide +kernel) (by decide +kernel)
set_option maxRecDepth 20000 in
theorem gX7_mostBlamed_X7_isWithin : GoodIn wsX7_mostBlamed (va_wsS RX7 44 yX7_isWithin wsX7_isWithin) := goodIn_app (goodIn_of _ (by decide +kernel)) ggX7_mostBlamed_X7_isWithin
set_option maxRecDepth 20000 in
theorem ggX7_mostBlamed_X7_needArgument : GoodIn wsX7_mostBlamed wsX7_needArgument := goodIn_ca (goodIn_r _ [24, 25, 26] (by decide +kernel) (by decide +kernel)) (goodIn_sub (fun _ h => List.mem_cons_of_mem _ (List.mem_append_right _ h)) (by decide +kernel))
set_option maxRecDepth 20000 in
theorem gX7_mostBlamed_X7_needArgument : GoodIn wsX7_mostBlamed (va_wsS RX7 48 yX7_needArgument wsX7_needArgument) := goodIn_app (goodIn_of _ (by decide +kernel)) ggX7_mostBlamed_X7_needArgument
set_option maxRecDepth 20000 in
theorem ggX7_mostBlamed_X4_copyFrom : GoodIn wsX7_mostBlamed wsX4_copyFrom := goodIn_r _ [30, 31, 32, 33, 34, 35, 36, 37, 15, 38, 39, 40, 41, 42, 43, 44, 45, 46, 47, 48, 49, 50, 51, 52, 53, 54, 55, 56, 57, 139, 140, 141, 142, 143, 144, 145, 146, 147, 148, 149, 150] (by decide +kernel) (by decide +kernel)
set_option maxRecDepth 20000 in
theorem gX7_mostBlamed_X4_copyFrom : GoodIn wsX7_mostBlamed (wsV RX7 198 RX4 yX4_copyFrom wsX4_copyFrom) := goodIn_app (goodIn_of _ (by decide +kernel)) ggX7_mostBlamed_X4_copyFrom
set_option maxRecDepth 20000 in
theorem ggX7_mostBlamed_X4_callFromOutside : GoodIn wsX7_mostBlamed wsX4_callFromOutside := goodIn_r _ [61, 39, 41, 62, 63, 64, 13, 65, 38, 31, 66, 67, 68, 69, 33, 70, 71, 72, 46, 73, 48, 74, 75, 76, 77, 78, 79, 80, 81, 82, 83, 84, 85, 86, 87, 40, 32, 88, 89, 90, 53, 91, 55, 56, 35, 36, 37, 57, 92, 93, 94, 95, 96, 97, 98, 99, 100, 101, 102, 103, 104, 105, 106, 107, 108, 109, 110, 111, 112, 113, 114, 115, 116, 117, 118, 42, 119, 120, 121, 122, 123, 124, 125, 126, 139, 140, 141, 142, 143, 144, 145, 146, 147, 148, 149, 150] (by decide +kernel) (by decide +kernel)
set_option maxRecDepth 20000 in
theorem gX7_mostBlamed_X4_callFromOutside : GoodIn wsX7_mostBlamed (wsV RX7 191 RX4 yX4_callFromOutside wsX4_callFromOutside) := goodIn_app (goodIn_of _ (by decide +kernel)) ggX7_mostBlamed_X4_callFromOutside
set_option maxRecDepth 20000 in
theorem ggX7_mostBlamed_X7_blamedSince : GoodIn wsX7_mostBlamed wsX7_blamedSince := goodIn_r _ [130, 2, 131, 112, 113, 13, 114, 33, 132, 133, 134, 135, 136, 137, 138, 139, 140, 141, 142, 143, 144, 145, 146, 147] (by decide +kernel) (by decide +kernel)
set_option maxRecDepth 20000 in
theorem gX7_mostBlamed_X7_blamedSince : GoodIn wsX7_mostBlamed (wsV RX7 210 RX7 yX7_blamedSince wsX7_blamedSince) := goodIn_app (goodIn_of _ (by decide +kernel)) ggX7_mostBlamed_X7_blamedSince
theorem dX7_mostBlamed_0 : decode cX7_mostBlamed 0 = .ok (.aload_n 0, 1) := by decide +kernel
theorem dX7_mostBlamed_1 : decode cX7_mostBlamed 1 = .ok (.iload_n 1, 1) := by decide +kernel
theorem dX7_mostBlamed_2 : decode cX7_mostBlamed 2 = .ok (.invokevirtual 127, 3) := by decide +kernel
theorem dX7_mostBlamed_5 : decode cX7_mostBlamed 5 = .ok (.iload_n 2, 1) := by decide +kernel
theorem dX7_mostBlamed_6 : decode cX7_mostBlamed 6 = .ok (.invokestatic 188, 3) := by decide +kernel
theorem dX7_mostBlamed_9 : decode cX7_mostBlamed 9 = .ok (.ifCond .eq 18, 3) := by decide +kernel
theorem dX7_mostBlamed_12 : decode cX7_mostBlamed 12 = .ok (.iload_n 3, 1) := by decide +kernel
theorem dX7_mostBlamed_13 : decode cX7_mostBlamed 13 = .ok (.iconst 1, 1) := by decide +kernel
theorem dX7_mostBlamed_14 : decode cX7_mostBlamed 14 = .ok (.sipush 200, 3) := by decide +kernel
theorem dX7_mostBlamed_17 : decode cX7_mostBlamed 17 = .ok (.invokestatic 44, 3) := by decide +kernel
theorem dX7_mostBlamed_20 : decode cX7_mostBlamed 20 = .ok (.ifCond .eq 7, 3) := by decide +kernel
theorem dX7_mostBlamed_23 : decode cX7_mostBlamed 23 = .ok (.iconst 1, 1) := by decide +kernel
theorem dX7_mostBlamed_24 : decode cX7_mostBlamed 24 = .ok (.goto 4, 3) := by decide +kernel
theorem dX7_mostBlamed_27 : decode cX7_mostBlamed 27 = .ok (.iconst 0, 1) := by decide +kernel
theorem dX7_mostBlamed_28 : decode cX7_mostBlamed 28 = .ok (.invokestatic 48, 3) := by decide +kernel
theorem dX7_mostBlamed_31 : decode cX7_mostBlamed 31 = .ok (.aload_n 0, 1) := by decide +kernel
theorem dX7_mostBlamed_32 : decode cX7_mostBlamed 32 = .ok (.getfield 26, 3) := by decide +kernel
theorem dX7_mostBlamed_35 : decode cX7_mostBlamed 35 = .ok (.aload_n 0, 1) := by decide +kernel
theorem dX7_mostBlamed_36 : decode cX7_mostBlamed 36 = .ok (.getfield 19, 3) := by decide +kernel
theorem dX7_mostBlamed_39 : decode cX7_mostBlamed 39 = .ok (.invokevirtual 198, 3) := by decide +kernel
theorem dX7_mostBlamed_42 : decode cX7_mostBlamed 42 = .ok (.iconst 0, 1) := by decide +kernel
theorem dX7_mostBlamed_43 : decode cX7_mostBlamed 43 = .ok (.istore 4, 2) := by decide +kernel
theorem dX7_mostBlamed_45 : decode cX7_mostBlamed 45 = .ok (.iload 4, 2) := by decide +kernel
theorem dX7_mostBlamed_47 : decode cX7_mostBlamed 47 = .ok (.iload_n 3, 1) := by decide +kernel
theorem dX7_mostBlamed_48 : decode cX7_mostBlamed 48 = .ok (.if_icmp .ge 22, 3) := by decide +kernel
theorem dX7_mostBlamed_51 : decode cX7_mostBlamed 51 = .ok (.aload_n 0, 1) := by decide +kernel
theorem dX7_mostBlamed_52 : decode cX7_mostBlamed 52 = .ok (.getfield 26, 3) := by decide +kernel
theorem dX7_mostBlamed_55 : decode cX7_mostBlamed 55 = .ok (.iload_n 1, 1) := by decide +kernel
theorem dX7_mostBlamed_56 : decode cX7_mostBlamed 56 = .ok (.iload_n 2, 1) := by decide +kernel
theorem dX7_mostBlamed_57 : decode cX7_mostBlamed 57 = .ok (.iload 4, 2) := by decide +kernel
theorem dX7_mostBlamed_59 : decode cX7_mostBlamed 59 = .ok (.iadd, 1) := by decide +kernel
theorem dX7_mostBlamed_60 : decode cX7_mostBlamed 60 = .ok (.invokevirtual 191, 3) := by decide +kernel
theorem dX7_mostBlamed_63 : decode cX7_mostBlamed 63 = .ok (.pop, 1) := by decide +kernel
theorem dX7_mostBlamed_64 : decode cX7_mostBlamed 64 = .ok (.iinc 4 1, 3) := by decide +kernel
theorem dX7_mostBlamed_67 : decode cX7_mostBlamed 67 = .ok (.goto (-22), 3) := by decide +kernel
theorem dX7_mostBlamed_70 : decode cX7_mostBlamed 70 = .ok (.iconst 0, 1) := by decide +kernel
theorem dX7_mostBlamed_71 : decode cX7_mostBlamed 71 = .ok (.istore 4, 2) := by decide +kernel
theorem dX7_mostBlamed_73 : decode cX7_mostBlamed 73 = .ok (.sipush (-10000), 3) := by decide +kernel
theorem dX7_mostBlamed_76 : decode cX7_mostBlamed 76 = .ok (.istore 5, 2) := by decide +kernel
theorem dX7_mostBlamed_78 : decode cX7_mostBlamed 78 = .ok (.iconst 0, 1) := by decide +kernel
theorem dX7_mostBlamed_79 : decode cX7_mostBlamed 79 = .ok (.istore 6, 2) := by decide +kernel
theorem dX7_mostBlamed_81 : decode cX7_mostBlamed 81 = .ok (.iload 6, 2) := by decide +kernel
theorem dX7_mostBlamed_83 : decode cX7_mostBlamed 83 = .ok (.aload_n 0, 1) := by decide +kernel
theorem dX7_mostBlamed_84 : decode cX7_mostBlamed 84 = .ok (.getfield 19, 3) := by decide +kernel
theorem dX7_mostBlamed_87 : decode cX7_mostBlamed 87 = .ok (.getfield 87, 3) := by decide +kernel
theorem dX7_mostBlamed_90 : decode cX7_mostBlamed 90 = .ok (.if_icmp .ge 36, 3) := by decide +kernel
theorem dX7_mostBlamed_93 : decode cX7_mostBlamed 93 = .ok (.aload_n 0, 1) := by decide +kernel
theorem dX7_mostBlamed_94 : decode cX7_mostBlamed 94 = .ok (.aload_n 0, 1) := by decide +kernel
theorem dX7_mostBlamed_95 : decode cX7_mostBlamed 95 = .ok (.getfield 26, 3) := by decide +kernel
theorem dX7_mostBlamed_98 : decode cX7_mostBlamed 98 = .ok (.iload 6, 2) := by decide +kernel
theorem dX7_mostBlamed_100 : decode cX7_mostBlamed 100 = .ok (.invokevirtual 210, 3) := by decide +kernel
theorem dX7_mostBlamed_103 : decode cX7_mostBlamed 103 = .ok (.istore 7, 2) := by decide +kernel
theorem dX7_mostBlamed_105 : decode cX7_mostBlamed 105 = .ok (.iload 7, 2) := by decide +kernel
theorem dX7_mostBlamed_107 : decode cX7_mostBlamed 107 = .ok (.iload 4, 2) := by decide +kernel
theorem dX7_mostBlamed_109 : decode cX7_mostBlamed 109 = .ok (.if_icmp .le 11, 3) := by decide +kernel
theorem dX7_mostBlamed_112 : decode cX7_mostBlamed 112 = .ok (.iload 7, 2) := by decide +kernel
theorem dX7_mostBlamed_114 : decode cX7_mostBlamed 114 = .ok (.istore 4, 2) := by decide +kernel
theorem dX7_mostBlamed_116 : decode cX7_mostBlamed 116 = .ok (.iload 6, 2) := by decide +kernel
theorem dX7_mostBlamed_118 : decode cX7_mostBlamed 118 = .ok (.istore 5, 2) := by decide +kernel
theorem dX7_mostBlamed_120 : decode cX7_mostBlamed 120 = .ok (.iinc 6 1, 3) := by decide +kernel
theorem dX7_mostBlamed_123 : decode cX7_mostBlamed 123 = .ok (.goto (-42), 3) := by decide +kernel
theorem dX7_mostBlamed_126 : decode cX7_mostBlamed 126 = .ok (.iload 5, 2) := by decide +kernel
theorem dX7_mostBlamed_128 : decode cX7_mostBlamed 128 = .ok (.ireturn, 1) := by decide +kernel
set_option maxRecDepth 20000 in
theorem ggX7_reach_X7_needPart : GoodIn wsX7_reach wsX7_needPart := goodIn_ca (goodIn_r _ [7, 8, 9, 2, 10, 11, 12, 13, 14, 15, 127, 128, 129, 130, 131, 132, 133, 134, 135, 136, 137, 138, 139, 140, 141, 142] (by decide +kernel) (by decide +kernel)) (goodIn_sub (fun _ h => List.mem_cons_of_mem _ (List.mem_append_left _ (List.mem_append_right _ h))) (by decide +kernel))
set_option maxRecDepth 20000 in
theorem gX7_reach_X7_needPart : GoodIn wsX7_reach (wsV RX7 127 RX7 yX7_needPart wsX7_needPart) := goodIn_app (goodIn_of _ (by decide +kernel)) ggX7_reach_X7_needPart
set_option maxRecDepth 20000 in
theorem ggX7_reach_X7_isInput : GoodIn wsX7_reach wsX7_isInput := goodIn_r _ [18, 19, 20, 6, 21] (by decide +kernel) (by decide +kernel)
set_option maxRecDepth 20000 in
theorem gX7_reach_X7_isInput : GoodIn wsX7_reach (va_wsS RX7 188 yX7_isInput wsX7_isInput) := goodIn_app (goodIn_of _ (by decide +kernel)) ggX7_reach_X7_isInput
set_option maxRecDepth 20000 in
theorem ggX7_reach_X7_needArgument : GoodIn wsX7_reach wsX7_needArgument := goodIn_ca (goodIn_r _ [24, 25, 26] (by decide +kernel) (by decide +kernel)) (goodIn_sub (fun _ h => List.mem_cons_of_mem _ (List.mem_append_right _ h)) (by decide +kernel))
set_option maxRecDepth 20000 in
theorem gX7_reach_X7_needArgument : GoodIn wsX7_reach (va_wsS RX7 48 yX7_needArgument wsX7_needArgument) := goodIn_app (goodIn_of _ (by decide +kernel)) ggX7_reach_X7_needArgument
set_option maxRecDepth 20000 in
theorem ggX7_reach_X4_copyFrom : GoodIn wsX7_reach wsX4_copyFrom := goodIn_r _ [30, 31, 32, 33, 34, 35, 36, 37, 15, 38, 39, 40, 41, 42, 43, 44, 45, 46, 47, 48, 49, 50, 51, 52, 53, 54, 55, 56, 57, 134, 135, 136, 137, 138, 139, 140, 141, 142, 143, 144, 145] (by decide +kernel) (by decide +kernel)
set_option maxRecDepth 20000 in
theorem gX7_reach_X4_copyFrom : GoodIn wsX7_reach (wsV RX7 198 RX4 yX4_copyFrom wsX4_copyFrom) := goodIn_app (goodIn_of _ (by decide +kernel)) ggX7_reach_X4_copyFrom
set_option maxRecDepth 20000 in
theorem ggX7_reach_X4_callFromOutside : GoodIn wsX7_reach wsX4_callFromOutside := goodIn_r _ [61, 39, 41, 62, 63, 64, 13, 65, 38, 31, 66, 67, 68, 69, 33, 70, 71, 72, 46, 73, 48, 74, 75, 76, 77, 78, 79, 80, 81, 82, 83, 84, 85, 86, 87, 40, 32, 88, 89, 90, 53, 91, 55, 56, 35, 36, 37, 57, 92, 93, 94, 95, 96, 97, 98, 99, 100, 101, 102, 103, 104, 105, 106, 107, 108, 109, 110, 111, 112, 113, 114, 115, 116, 117, 118, 42, 119, 120, 121, 122, 123, 124, 125, 126, 134, 135, 136, 137, 138, 139, 140, 141, 142, 143, 144, 145] (by decide +kernel) (by decide +kernel)
set_option maxRecDepth 20000 in
theorem gX7_reach_X4_callFromOutside : GoodIn wsX7_reach (wsV RX7 191 RX4 yX4_callFromOutside wsX4_callFromOutside) := goodIn_app (goodIn_of _ (by decide +kernel)) ggX7_reach_X4_callFromOutside
theorem dX7_reach_0 : decode cX7_reach 0 = .ok (.aload_n 0, 1) := by decide +kernel
theorem dX7_reach_1 : decode cX7_reach 1 = .ok (.iload_n 1, 1) := by decide +kernel
theorem dX7_reach_2 : decode cX7_reach 2 = .ok (.invokevirtual 127, 3) := by decide +kernel
theorem dX7_reach_5 : decode cX7_reach 5 = .ok (.iload_n 2, 1) := by decide +kernel
theorem dX7_reach_6 : decode cX7_reach 6 = .ok (.invokestatic 188, 3) := by decide +kernel
theorem dX7_reach_9 : decode cX7_reach 9 = .ok (.invokestatic 48, 3) := by decide +kernel
theorem dX7_reach_12 : decode cX7_reach 12 = .ok (.iload_n 3, 1) := by decide +kernel
theorem dX7_reach_13 : decode cX7_reach 13 = .ok (.ifCond .eq 7, 3) := by decide +kernel
theorem dX7_reach_16 : decode cX7_reach 16 = .ok (.iconst 1, 1) := by decide +kernel
theorem dX7_reach_17 : decode cX7_reach 17 = .ok (.goto 4, 3) := by decide +kernel
theorem dX7_reach_20 : decode cX7_reach 20 = .ok (.iconst (-1), 1) := by decide +kernel
theorem dX7_reach_21 : decode cX7_reach 21 = .ok (.istore 4, 2) := by decide +kernel
theorem dX7_reach_23 : decode cX7_reach 23 = .ok (.sipush (-10000), 3) := by decide +kernel
theorem dX7_reach_26 : decode cX7_reach 26 = .ok (.istore 5, 2) := by decide +kernel
theorem dX7_reach_28 : decode cX7_reach 28 = .ok (.aload_n 0, 1) := by decide +kernel
theorem dX7_reach_29 : decode cX7_reach 29 = .ok (.getfield 26, 3) := by decide +kernel
theorem dX7_reach_32 : decode cX7_reach 32 = .ok (.aload_n 0, 1) := by decide +kernel
theorem dX7_reach_33 : decode cX7_reach 33 = .ok (.getfield 19, 3) := by decide +kernel
theorem dX7_reach_36 : decode cX7_reach 36 = .ok (.invokevirtual 198, 3) := by decide +kernel
theorem dX7_reach_39 : decode cX7_reach 39 = .ok (.iconst 0, 1) := by decide +kernel
theorem dX7_reach_40 : decode cX7_reach 40 = .ok (.istore 6, 2) := by decide +kernel
theorem dX7_reach_42 : decode cX7_reach 42 = .ok (.iload 6, 2) := by decide +kernel
theorem dX7_reach_44 : decode cX7_reach 44 = .ok (.sipush 200, 3) := by decide +kernel
theorem dX7_reach_47 : decode cX7_reach 47 = .ok (.if_icmp .gt 41, 3) := by decide +kernel
theorem dX7_reach_50 : decode cX7_reach 50 = .ok (.iload_n 2, 1) := by decide +kernel
theorem dX7_reach_51 : decode cX7_reach 51 = .ok (.iload 4, 2) := by decide +kernel
theorem dX7_reach_53 : decode cX7_reach 53 = .ok (.iload 6, 2) := by decide +kernel
theorem dX7_reach_55 : decode cX7_reach 55 = .ok (.imul, 1) := by decide +kernel
theorem dX7_reach_56 : decode cX7_reach 56 = .ok (.iadd, 1) := by decide +kernel
theorem dX7_reach_57 : decode cX7_reach 57 = .ok (.istore 7, 2) := by decide +kernel
theorem dX7_reach_59 : decode cX7_reach 59 = .ok (.aload_n 0, 1) := by decide +kernel
theorem dX7_reach_60 : decode cX7_reach 60 = .ok (.getfield 26, 3) := by decide +kernel
theorem dX7_reach_63 : decode cX7_reach 63 = .ok (.iload_n 1, 1) := by decide +kernel
theorem dX7_reach_64 : decode cX7_reach 64 = .ok (.iload 7, 2) := by decide +kernel
theorem dX7_reach_66 : decode cX7_reach 66 = .ok (.invokevirtual 191, 3) := by decide +kernel
theorem dX7_reach_69 : decode cX7_reach 69 = .ok (.sipush (-10000), 3) := by decide +kernel
theorem dX7_reach_72 : decode cX7_reach 72 = .ok (.if_icmp .ne 6, 3) := by decide +kernel
theorem dX7_reach_75 : decode cX7_reach 75 = .ok (.iload 5, 2) := by decide +kernel
theorem dX7_reach_77 : decode cX7_reach 77 = .ok (.ireturn, 1) := by decide +kernel
theorem dX7_reach_78 : decode cX7_reach 78 = .ok (.iload 7, 2) := by decide +kernel
theorem dX7_reach_80 : decode cX7_reach 80 = .ok (.istore 5, 2) := by decide +kernel
theorem dX7_reach_82 : decode cX7_reach 82 = .ok (.iinc 6 1, 3) := by decide +kernel
theorem dX7_reach_85 : decode cX7_reach 85 = .ok (.goto (-43), 3) := by decide +kernel
theorem dX7_reach_88 : decode cX7_reach 88 = .ok (.iload 5, 2) := by decide +kernel
theorem dX7_reach_90 : decode cX7_reach 90 = .ok (.ireturn, 1) := by decide +kernel
set_option maxRecDepth 20000 in
theorem ggX7_runScript_X7_isWithin : GoodIn wsX7_runScript wsX7_isWithin := goodIn_r _ [11] (by decide +kernel) (by decide +kernel)
set_option maxRecDepth 20000 in
theorem gX7_runScript_X7_isWithin : GoodIn wsX7_runScript (va_wsS RX7 44 yX7_isWithin wsX7_isWithin) := goodIn_app (goodIn_of _ (by decide +kernel)) ggX7_runScript_X7_isWithin
set_option maxRecDepth 20000 in
theorem ggX7_runScript_X7_needArgument : GoodIn wsX7_runScript wsX7_needArgument := goodIn_ca (goodIn_r _ [14, 15, 16] (by decide +kernel) (by decide +kernel)) (goodIn_sub (fun _ h => List.mem_cons_of_mem _ (List.mem_append_right _ h)) (by decide +kernel))
set_option maxRecDepth 20000 in
theorem gX7_runScript_X7_needArgument : GoodIn wsX7_runScript (va_wsS RX7 48 yX7_needArgument wsX7_needArgument) := goodIn_app (goodIn_of _ (by decide +kernel)) ggX7_runScript_X7_needArgument
set_option maxRecDepth 20000 in
theorem ggX7_runScript_X5_groupFromRight : GoodIn wsX7_runScript wsX5_groupFromRight := goodIn_r _ [19, 20] (by decide +kernel) (by decide +kernel)
set_option maxRecDepth 20000 in
theorem gX7_runScript_X5_groupFromRight : GoodIn wsX7_runScript (va_wsS RX7 216 yX5_groupFromRight wsX5_groupFromRight) := goodIn_app (goodIn_of _ (by decide +kernel)) ggX7_runScript_X5_groupFromRight
set_option maxRecDepth 20000 in
theorem ggX7_runScript_X4_copyFrom : GoodIn wsX7_runScript wsX4_copyFrom := goodIn_r _ [25, 26, 27, 28, 29, 30, 31, 32, 33, 34, 35, 36, 37, 38, 39, 40, 41, 42, 43, 44, 45, 46, 47, 48, 49, 50, 51, 52, 53, 183, 184, 185, 186, 187, 188, 189, 190, 191, 192, 193, 194] (by decide +kernel) (by decide +kernel)
set_option maxRecDepth 20000 in
theorem gX7_runScript_X4_copyFrom : GoodIn wsX7_runScript (wsV RX7 198 RX4 yX4_copyFrom wsX4_copyFrom) := goodIn_app (goodIn_of _ (by decide +kernel)) ggX7_runScript_X4_copyFrom
set_option maxRecDepth 20000 in
theorem ggX7_runScript_X5_init : GoodIn wsX7_runScript wsX5_init := goodIn_r _ [56, 57, 58, 59, 60, 61, 181, 182] (by decide +kernel) (by decide +kernel)
set_option maxRecDepth 20000 in
theorem gX7_runScript_X5_init : GoodIn wsX7_runScript (wsX5_init) := ggX7_runScript_X5_init
set_option maxRecDepth 20000 in
theorem ggX7_runScript_X5_succeeds : GoodIn wsX7_runScript wsX5_succeeds := goodIn_r _ [65, 60, 66, 67, 68, 24, 69, 33, 70, 71, 72, 73, 35, 37, 74, 75, 76, 77, 34, 26, 78, 79, 80, 81, 28, 82, 83, 84, 42, 85, 44, 86, 87, 88, 89, 90, 91, 92, 93, 94, 95, 96, 97, 98, 99, 36, 27, 100, 101, 102, 49, 103, 51, 52, 30, 31, 32, 53, 104, 105, 106, 107, 108, 109, 110, 111, 112, 113, 114, 115, 116, 117, 118, 119, 120, 121, 122, 123, 124, 125, 126, 127, 128, 129, 130, 38, 131, 132, 133, 134, 135, 136, 137, 138, 139, 140, 141, 5, 142, 143, 144, 145, 146, 147, 148, 149, 150, 151, 152, 153, 154, 155, 156, 157, 158, 159, 160, 161, 162, 163, 164, 165, 166, 167, 168, 169, 170, 171, 172, 61, 173, 22, 23, 25, 29, 39, 40, 41, 43, 45, 46, 47, 48, 50, 181, 182, 183, 184, 185, 186, 187, 188, 189, 190, 191, 192, 193, 194] (by decide +kernel) (by decide +kernel)
set_option maxRecDepth 20000 in
theorem gX7_runScript_X5_succeeds : GoodIn wsX7_runScript (wsV RX7 225 RX5 yX5_succeeds wsX5_succeeds) := goodIn_app (goodIn_of _ (by decide +kernel)) ggX7_runScript_X5_succeeds
theorem dX7_runScript_0 : decode cX7_runScript 0 = .ok (.iload_n 1, 1) := by decide +kernel
theorem dX7_runScript_1 : decode cX7_runScript 1 = .ok (.iconst 1, 1) := by decide +kernel
theorem dX7_runScript_2 : decode cX7_runScript 2 = .ok (.iconst 3, 1) := by decide +kernel
theorem dX7_runScript_3 : decode cX7_runScript 3 = .ok (.invokestatic 44, 3) := by decide +kernel
theorem dX7_runScript_6 : decode cX7_runScript 6 = .ok (.invokestatic 48, 3) := by decide +kernel
theorem dX7_runScript_9 : decode cX7_runScript 9 = .ok (.lload_n 2, 1) := by decide +kernel
theorem dX7_runScript_10 : decode cX7_runScript 10 = .ok (.lconst 0, 1) := by decide +kernel
theorem dX7_runScript_11 : decode cX7_runScript 11 = .ok (.lcmp, 1) := by decide +kernel
theorem dX7_runScript_12 : decode cX7_runScript 12 = .ok (.ifCond .lt 17, 3) := by decide +kernel
theorem dX7_runScript_15 : decode cX7_runScript 15 = .ok (.lload_n 2, 1) := by decide +kernel
theorem dX7_runScript_16 : decode cX7_runScript 16 = .ok (.iload_n 1, 1) := by decide +kernel
theorem dX7_runScript_17 : decode cX7_runScript 17 = .ok (.invokestatic 216, 3) := by decide +kernel
theorem dX7_runScript_20 : decode cX7_runScript 20 = .ok (.lconst 0, 1) := by decide +kernel
theorem dX7_runScript_21 : decode cX7_runScript 21 = .ok (.lcmp, 1) := by decide +kernel
theorem dX7_runScript_22 : decode cX7_runScript 22 = .ok (.ifCond .ne 7, 3) := by decide +kernel
theorem dX7_runScript_25 : decode cX7_runScript 25 = .ok (.iconst 1, 1) := by decide +kernel
theorem dX7_runScript_26 : decode cX7_runScript 26 = .ok (.goto 4, 3) := by decide +kernel
theorem dX7_runScript_29 : decode cX7_runScript 29 = .ok (.iconst 0, 1) := by decide +kernel
theorem dX7_runScript_30 : decode cX7_runScript 30 = .ok (.invokestatic 48, 3) := by decide +kernel
theorem dX7_runScript_33 : decode cX7_runScript 33 = .ok (.aload_n 0, 1) := by decide +kernel
theorem dX7_runScript_34 : decode cX7_runScript 34 = .ok (.getfield 23, 3) := by decide +kernel
theorem dX7_runScript_37 : decode cX7_runScript 37 = .ok (.aload_n 0, 1) := by decide +kernel
theorem dX7_runScript_38 : decode cX7_runScript 38 = .ok (.getfield 19, 3) := by decide +kernel
theorem dX7_runScript_41 : decode cX7_runScript 41 = .ok (.invokevirtual 198, 3) := by decide +kernel
theorem dX7_runScript_44 : decode cX7_runScript 44 = .ok (.new 214, 3) := by decide +kernel
theorem dX7_runScript_47 : decode cX7_runScript 47 = .ok (.dup, 1) := by decide +kernel
theorem dX7_runScript_48 : decode cX7_runScript 48 = .ok (.aload_n 0, 1) := by decide +kernel
theorem dX7_runScript_49 : decode cX7_runScript 49 = .ok (.getfield 23, 3) := by decide +kernel
theorem dX7_runScript_52 : decode cX7_runScript 52 = .ok (.aload_n 0, 1) := by decide +kernel
theorem dX7_runScript_53 : decode cX7_runScript 53 = .ok (.getfield 26, 3) := by decide +kernel
theorem dX7_runScript_56 : decode cX7_runScript 56 = .ok (.invokespecial 220, 3) := by decide +kernel
theorem dX7_runScript_59 : decode cX7_runScript 59 = .ok (.astore 4, 2) := by decide +kernel
theorem dX7_runScript_61 : decode cX7_runScript 61 = .ok (.iconst 0, 1) := by decide +kernel
theorem dX7_runScript_62 : decode cX7_runScript 62 = .ok (.istore 5, 2) := by decide +kernel
theorem dX7_runScript_64 : decode cX7_runScript 64 = .ok (.iload 5, 2) := by decide +kernel
theorem dX7_runScript_66 : decode cX7_runScript 66 = .ok (.iload_n 1, 1) := by decide +kernel
theorem dX7_runScript_67 : decode cX7_runScript 67 = .ok (.if_icmp .ge 39, 3) := by decide +kernel
theorem dX7_runScript_70 : decode cX7_runScript 70 = .ok (.lload_n 2, 1) := by decide +kernel
theorem dX7_runScript_71 : decode cX7_runScript 71 = .ok (.iload_n 1, 1) := by decide +kernel
theorem dX7_runScript_72 : decode cX7_runScript 72 = .ok (.iconst 1, 1) := by decide +kernel
theorem dX7_runScript_73 : decode cX7_runScript 73 = .ok (.isub, 1) := by decide +kernel
theorem dX7_runScript_74 : decode cX7_runScript 74 = .ok (.iload 5, 2) := by decide +kernel
theorem dX7_runScript_76 : decode cX7_runScript 76 = .ok (.isub, 1) := by decide +kernel
theorem dX7_runScript_77 : decode cX7_runScript 77 = .ok (.invokestatic 216, 3) := by decide +kernel
theorem dX7_runScript_80 : decode cX7_runScript 80 = .ok (.ldc2_w 223, 3) := by decide +kernel
theorem dX7_runScript_83 : decode cX7_runScript 83 = .ok (.lrem, 1) := by decide +kernel
theorem dX7_runScript_84 : decode cX7_runScript 84 = .ok (.l2i, 1) := by decide +kernel
theorem dX7_runScript_85 : decode cX7_runScript 85 = .ok (.istore 6, 2) := by decide +kernel
theorem dX7_runScript_87 : decode cX7_runScript 87 = .ok (.aload 4, 2) := by decide +kernel
theorem dX7_runScript_89 : decode cX7_runScript 89 = .ok (.iload 6, 2) := by decide +kernel
theorem dX7_runScript_91 : decode cX7_runScript 91 = .ok (.invokevirtual 225, 3) := by decide +kernel
theorem dX7_runScript_94 : decode cX7_runScript 94 = .ok (.ifCond .ne 6, 3) := by decide +kernel
theorem dX7_runScript_97 : decode cX7_runScript 97 = .ok (.iload 5, 2) := by decide +kernel
theorem dX7_runScript_99 : decode cX7_runScript 99 = .ok (.ireturn, 1) := by decide +kernel
theorem dX7_runScript_100 : decode cX7_runScript 100 = .ok (.iinc 5 1, 3) := by decide +kernel
theorem dX7_runScript_103 : decode cX7_runScript 103 = .ok (.goto (-39), 3) := by decide +kernel
theorem dX7_runScript_106 : decode cX7_runScript 106 = .ok (.sipush (-10000), 3) := by decide +kernel
theorem dX7_runScript_109 : decode cX7_runScript 109 = .ok (.ireturn, 1) := by decide +kernel
set_option maxRecDepth 20000 in
theorem ggX7_simulate_X7_isWithin : GoodIn wsX7_simulate wsX7_isWithin := goodIn_r _ [8] (by decide +kernel) (by decide +kernel)
set_option maxRecDepth 20000 in
theorem gX7_simulate_X7_isWithin : GoodIn wsX7_simulate (va_wsS RX7 44 yX7_isWithin wsX7_isWithin) := goodIn_app (goodIn_of _ (by decide +kernel)) ggX7_simulate_X7_isWithin
set_option maxRecDepth 20000 in
theorem ggX7_simulate_X7_needArgument : GoodIn wsX7_simulate wsX7_needArgument := goodIn_ca (goodIn_r _ [11, 12, 13] (by decide +kernel) (by decide +kernel)) (goodIn_sub (fun _ h => List.mem_cons_of_mem _ (List.mem_append_right _ h)) (by decide +kernel))
set_option maxRecDepth 20000 in
theorem gX7_simulate_X7_needArgument : GoodIn wsX7_simulate (va_wsS RX7 48 yX7_needArgument wsX7_needArgument) := goodIn_app (goodIn_of _ (by decide +kernel)) ggX7_simulate_X7_needArgument
set_option maxRecDepth 20000 in
theorem ggX7_simulate_X4_copyFrom : GoodIn wsX7_simulate wsX4_copyFrom := goodIn_r _ [18, 19, 20, 21, 22, 23, 24, 25, 26, 27, 28, 29, 30, 31, 32, 33, 34, 35, 36, 37, 38, 39, 40, 41, 42, 43, 44, 45, 46, 128, 129, 130, 131, 132, 133, 134, 135, 136, 137, 138, 139] (by decide +kernel) (by decide +kernel)
set_option maxRecDepth 20000 in
theorem gX7_simulate_X4_copyFrom : GoodIn wsX7_simulate (wsV RX7 198 RX4 yX4_copyFrom wsX4_copyFrom) := goodIn_app (goodIn_of _ (by decide +kernel)) ggX7_simulate_X4_copyFrom
set_option maxRecDepth 20000 in
theorem ggX7_simulate_X4_callFromOutside : GoodIn wsX7_simulate wsX4_callFromOutside := goodIn_r _ [50, 28, 30, 51, 52, 53, 17, 54, 27, 19, 55, 56, 57, 58, 21, 59, 60, 61, 35, 62, 37, 63, 64, 65, 66, 67, 68, 69, 70, 71, 72, 73, 74, 75, 76, 29, 20, 77, 78, 79, 42, 80, 44, 45, 23, 24, 25, 46, 81, 82, 83, 84, 85, 86, 87, 88, 89, 90, 91, 92, 93, 94, 95, 96, 97, 98, 99, 100, 101, 102, 103, 104, 105, 106, 107, 31, 108, 109, 110, 111, 112, 113, 114, 115, 128, 129, 130, 131, 132, 133, 134, 135, 136, 137, 138, 139] (by decide +kernel) (by decide +kernel)
set_option maxRecDepth 20000 in
theorem gX7_simulate_X4_callFromOutside : GoodIn wsX7_simulate (wsV RX7 191 RX4 yX4_callFromOutside wsX4_callFromOutside) := goodIn_app (goodIn_of _ (by decide +kernel)) ggX7_simulate_X4_callFromOutside
set_option maxRecDepth 20000 in
theorem ggX7_simulate_X7_blamedSince : GoodIn wsX7_simulate wsX7_blamedSince := goodIn_r _ [119, 1, 120, 101, 102, 17, 103, 21, 121, 122, 123, 124, 125, 126, 127, 128, 129, 130, 131, 132, 133, 134, 135, 136] (by decide +kernel) (by decide +kernel)
set_option maxRecDepth 20000 in
theorem gX7_simulate_X7_blamedSince : GoodIn wsX7_simulate (wsV RX7 210 RX7 yX7_blamedSince wsX7_blamedSince) := goodIn_app (goodIn_of _ (by decide +kernel)) ggX7_simulate_X7_blamedSince
theorem dX7_simulate_0 : decode cX7_simulate 0 = .ok (.iload_n 3, 1) := by decide +kernel
theorem dX7_simulate_1 : decode cX7_simulate 1 = .ok (.iconst 1, 1) := by decide +kernel
theorem dX7_simulate_2 : decode cX7_simulate 2 = .ok (.bipush 99, 2) := by decide +kernel
theorem dX7_simulate_4 : decode cX7_simulate 4 = .ok (.invokestatic 44, 3) := by decide +kernel
theorem dX7_simulate_7 : decode cX7_simulate 7 = .ok (.invokestatic 48, 3) := by decide +kernel
theorem dX7_simulate_10 : decode cX7_simulate 10 = .ok (.aload_n 0, 1) := by decide +kernel
theorem dX7_simulate_11 : decode cX7_simulate 11 = .ok (.getfield 19, 3) := by decide +kernel
theorem dX7_simulate_14 : decode cX7_simulate 14 = .ok (.getfield 87, 3) := by decide +kernel
theorem dX7_simulate_17 : decode cX7_simulate 17 = .ok (.istore 4, 2) := by decide +kernel
theorem dX7_simulate_19 : decode cX7_simulate 19 = .ok (.iload 4, 2) := by decide +kernel
theorem dX7_simulate_21 : decode cX7_simulate 21 = .ok (.ifCond .gt 5, 3) := by decide +kernel
theorem dX7_simulate_24 : decode cX7_simulate 24 = .ok (.iconst 0, 1) := by decide +kernel
theorem dX7_simulate_25 : decode cX7_simulate 25 = .ok (.ireturn, 1) := by decide +kernel
theorem dX7_simulate_26 : decode cX7_simulate 26 = .ok (.aload_n 0, 1) := by decide +kernel
theorem dX7_simulate_27 : decode cX7_simulate 27 = .ok (.getfield 23, 3) := by decide +kernel
theorem dX7_simulate_30 : decode cX7_simulate 30 = .ok (.aload_n 0, 1) := by decide +kernel
theorem dX7_simulate_31 : decode cX7_simulate 31 = .ok (.getfield 19, 3) := by decide +kernel
theorem dX7_simulate_34 : decode cX7_simulate 34 = .ok (.invokevirtual 198, 3) := by decide +kernel
theorem dX7_simulate_37 : decode cX7_simulate 37 = .ok (.lload_n 1, 1) := by decide +kernel
theorem dX7_simulate_38 : decode cX7_simulate 38 = .ok (.lstore 5, 2) := by decide +kernel
theorem dX7_simulate_40 : decode cX7_simulate 40 = .ok (.iconst 0, 1) := by decide +kernel
theorem dX7_simulate_41 : decode cX7_simulate 41 = .ok (.istore 7, 2) := by decide +kernel
theorem dX7_simulate_43 : decode cX7_simulate 43 = .ok (.iload 7, 2) := by decide +kernel
theorem dX7_simulate_45 : decode cX7_simulate 45 = .ok (.iload_n 3, 1) := by decide +kernel
theorem dX7_simulate_46 : decode cX7_simulate 46 = .ok (.if_icmp .ge 54, 3) := by decide +kernel
theorem dX7_simulate_49 : decode cX7_simulate 49 = .ok (.lload 5, 2) := by decide +kernel
theorem dX7_simulate_51 : decode cX7_simulate 51 = .ok (.ldc2_w 228, 3) := by decide +kernel
theorem dX7_simulate_54 : decode cX7_simulate 54 = .ok (.lmul, 1) := by decide +kernel
theorem dX7_simulate_55 : decode cX7_simulate 55 = .ok (.ldc2_w 230, 3) := by decide +kernel
theorem dX7_simulate_58 : decode cX7_simulate 58 = .ok (.ladd, 1) := by decide +kernel
theorem dX7_simulate_59 : decode cX7_simulate 59 = .ok (.lstore 5, 2) := by decide +kernel
theorem dX7_simulate_61 : decode cX7_simulate 61 = .ok (.lload 5, 2) := by decide +kernel
theorem dX7_simulate_63 : decode cX7_simulate 63 = .ok (.bipush 33, 2) := by decide +kernel
theorem dX7_simulate_65 : decode cX7_simulate 65 = .ok (.lushr, 1) := by decide +kernel
theorem dX7_simulate_66 : decode cX7_simulate 66 = .ok (.l2i, 1) := by decide +kernel
theorem dX7_simulate_67 : decode cX7_simulate 67 = .ok (.istore 8, 2) := by decide +kernel
theorem dX7_simulate_69 : decode cX7_simulate 69 = .ok (.aload_n 0, 1) := by decide +kernel
theorem dX7_simulate_70 : decode cX7_simulate 70 = .ok (.getfield 23, 3) := by decide +kernel
theorem dX7_simulate_73 : decode cX7_simulate 73 = .ok (.iload 8, 2) := by decide +kernel
theorem dX7_simulate_75 : decode cX7_simulate 75 = .ok (.iload 4, 2) := by decide +kernel
theorem dX7_simulate_77 : decode cX7_simulate 77 = .ok (.irem, 1) := by decide +kernel
theorem dX7_simulate_78 : decode cX7_simulate 78 = .ok (.iload 8, 2) := by decide +kernel
theorem dX7_simulate_80 : decode cX7_simulate 80 = .ok (.bipush 16, 2) := by decide +kernel
theorem dX7_simulate_82 : decode cX7_simulate 82 = .ok (.idiv, 1) := by decide +kernel
theorem dX7_simulate_83 : decode cX7_simulate 83 = .ok (.sipush 201, 3) := by decide +kernel
theorem dX7_simulate_86 : decode cX7_simulate 86 = .ok (.irem, 1) := by decide +kernel
theorem dX7_simulate_87 : decode cX7_simulate 87 = .ok (.bipush 100, 2) := by decide +kernel
theorem dX7_simulate_89 : decode cX7_simulate 89 = .ok (.isub, 1) := by decide +kernel
theorem dX7_simulate_90 : decode cX7_simulate 90 = .ok (.invokevirtual 191, 3) := by decide +kernel
theorem dX7_simulate_93 : decode cX7_simulate 93 = .ok (.pop, 1) := by decide +kernel
theorem dX7_simulate_94 : decode cX7_simulate 94 = .ok (.iinc 7 1, 3) := by decide +kernel
theorem dX7_simulate_97 : decode cX7_simulate 97 = .ok (.goto (-54), 3) := by decide +kernel
theorem dX7_simulate_100 : decode cX7_simulate 100 = .ok (.iconst 0, 1) := by decide +kernel
theorem dX7_simulate_101 : decode cX7_simulate 101 = .ok (.istore 7, 2) := by decide +kernel
theorem dX7_simulate_103 : decode cX7_simulate 103 = .ok (.iconst 0, 1) := by decide +kernel
theorem dX7_simulate_104 : decode cX7_simulate 104 = .ok (.istore 8, 2) := by decide +kernel
theorem dX7_simulate_106 : decode cX7_simulate 106 = .ok (.iload 8, 2) := by decide +kernel
theorem dX7_simulate_108 : decode cX7_simulate 108 = .ok (.iload 4, 2) := by decide +kernel
theorem dX7_simulate_110 : decode cX7_simulate 110 = .ok (.if_icmp .ge 25, 3) := by decide +kernel
theorem dX7_simulate_113 : decode cX7_simulate 113 = .ok (.aload_n 0, 1) := by decide +kernel
theorem dX7_simulate_114 : decode cX7_simulate 114 = .ok (.aload_n 0, 1) := by decide +kernel
theorem dX7_simulate_115 : decode cX7_simulate 115 = .ok (.getfield 23, 3) := by decide +kernel
theorem dX7_simulate_118 : decode cX7_simulate 118 = .ok (.iload 8, 2) := by decide +kernel
theorem dX7_simulate_120 : decode cX7_simulate 120 = .ok (.invokevirtual 210, 3) := by decide +kernel
theorem dX7_simulate_123 : decode cX7_simulate 123 = .ok (.ifCond .le 6, 3) := by decide +kernel
theorem dX7_simulate_126 : decode cX7_simulate 126 = .ok (.iinc 7 1, 3) := by decide +kernel
theorem dX7_simulate_129 : decode cX7_simulate 129 = .ok (.iinc 8 1, 3) := by decide +kernel
theorem dX7_simulate_132 : decode cX7_simulate 132 = .ok (.goto (-26), 3) := by decide +kernel
theorem dX7_simulate_135 : decode cX7_simulate 135 = .ok (.sipush 10000, 3) := by decide +kernel
theorem dX7_simulate_138 : decode cX7_simulate 138 = .ok (.aload_n 0, 1) := by decide +kernel
theorem dX7_simulate_139 : decode cX7_simulate 139 = .ok (.getfield 23, 3) := by decide +kernel
theorem dX7_simulate_142 : decode cX7_simulate 142 = .ok (.getfield 112, 3) := by decide +kernel
theorem dX7_simulate_145 : decode cX7_simulate 145 = .ok (.aload_n 0, 1) := by decide +kernel
theorem dX7_simulate_146 : decode cX7_simulate 146 = .ok (.getfield 19, 3) := by decide +kernel
theorem dX7_simulate_149 : decode cX7_simulate 149 = .ok (.getfield 112, 3) := by decide +kernel
theorem dX7_simulate_152 : decode cX7_simulate 152 = .ok (.isub, 1) := by decide +kernel
theorem dX7_simulate_153 : decode cX7_simulate 153 = .ok (.imul, 1) := by decide +kernel
theorem dX7_simulate_154 : decode cX7_simulate 154 = .ok (.bipush 100, 2) := by decide +kernel
theorem dX7_simulate_156 : decode cX7_simulate 156 = .ok (.aload_n 0, 1) := by decide +kernel
theorem dX7_simulate_157 : decode cX7_simulate 157 = .ok (.getfield 23, 3) := by decide +kernel
theorem dX7_simulate_160 : decode cX7_simulate 160 = .ok (.getfield 115, 3) := by decide +kernel
theorem dX7_simulate_163 : decode cX7_simulate 163 = .ok (.aload_n 0, 1) := by decide +kernel
theorem dX7_simulate_164 : decode cX7_simulate 164 = .ok (.getfield 19, 3) := by decide +kernel
theorem dX7_simulate_167 : decode cX7_simulate 167 = .ok (.getfield 115, 3) := by decide +kernel
theorem dX7_simulate_170 : decode cX7_simulate 170 = .ok (.isub, 1) := by decide +kernel
theorem dX7_simulate_171 : decode cX7_simulate 171 = .ok (.imul, 1) := by decide +kernel
theorem dX7_simulate_172 : decode cX7_simulate 172 = .ok (.iadd, 1) := by decide +kernel
theorem dX7_simulate_173 : decode cX7_simulate 173 = .ok (.iload 7, 2) := by decide +kernel
theorem dX7_simulate_175 : decode cX7_simulate 175 = .ok (.iadd, 1) := by decide +kernel
theorem dX7_simulate_176 : decode cX7_simulate 176 = .ok (.ireturn, 1) := by decide +kernel
set_option maxRecDepth 20000 in
theorem ggX7_save_X7_needSlot : GoodIn wsX7_save wsX7_needSlot := goodIn_ca (goodIn_r _ [7, 8, 9, 10, 11, 6, 12] (by decide +kernel) (by decide +kernel)) (goodIn_sub (fun _ h => List.mem_cons_of_mem _ (List.mem_append_right _ h)) (by decide +kernel))
set_option maxRecDepth 20000 in
theorem gX7_save_X7_needSlot : GoodIn wsX7_save (va_wsS RX7 232 yX7_needSlot wsX7_needSlot) := goodIn_app (goodIn_of _ (by decide +kernel)) ggX7_save_X7_needSlot
set_option maxRecDepth 20000 in
theorem ggX7_save_X4_copyFrom : GoodIn wsX7_save wsX4_copyFrom := goodIn_r _ [17, 18, 19, 20, 21, 22, 23, 24, 25, 26, 27, 28, 29, 30, 31, 32, 33, 34, 35, 36, 37, 38, 39, 40, 41, 42, 43, 44, 45, 53, 54, 55, 56, 57, 58, 59, 60, 61, 62, 63, 64] (by decide +kernel) (by decide +kernel)
set_option maxRecDepth 20000 in
theorem gX7_save_X4_copyFrom : GoodIn wsX7_save (wsV RX7 198 RX4 yX4_copyFrom wsX4_copyFrom) := goodIn_app (goodIn_of _ (by decide +kernel)) ggX7_save_X4_copyFrom
theorem dX7_save_0 : decode cX7_save 0 = .ok (.iload_n 1, 1) := by decide +kernel
theorem dX7_save_1 : decode cX7_save 1 = .ok (.invokestatic 232, 3) := by decide +kernel
theorem dX7_save_4 : decode cX7_save 4 = .ok (.aload_n 0, 1) := by decide +kernel
theorem dX7_save_5 : decode cX7_save 5 = .ok (.getfield 36, 3) := by decide +kernel
theorem dX7_save_8 : decode cX7_save 8 = .ok (.iload_n 1, 1) := by decide +kernel
theorem dX7_save_9 : decode cX7_save 9 = .ok (.aaload, 1) := by decide +kernel
theorem dX7_save_10 : decode cX7_save 10 = .ok (.aload_n 0, 1) := by decide +kernel
theorem dX7_save_11 : decode cX7_save 11 = .ok (.getfield 19, 3) := by decide +kernel
theorem dX7_save_14 : decode cX7_save 14 = .ok (.invokevirtual 198, 3) := by decide +kernel
theorem dX7_save_17 : decode cX7_save 17 = .ok (.aload_n 0, 1) := by decide +kernel
theorem dX7_save_18 : decode cX7_save 18 = .ok (.getfield 40, 3) := by decide +kernel
theorem dX7_save_21 : decode cX7_save 21 = .ok (.iload_n 1, 1) := by decide +kernel
theorem dX7_save_22 : decode cX7_save 22 = .ok (.iconst 1, 1) := by decide +kernel
theorem dX7_save_23 : decode cX7_save 23 = .ok (.bastore, 1) := by decide +kernel
theorem dX7_save_24 : decode cX7_save 24 = .ok (.aload_n 0, 1) := by decide +kernel
theorem dX7_save_25 : decode cX7_save 25 = .ok (.getfield 19, 3) := by decide +kernel
theorem dX7_save_28 : decode cX7_save 28 = .ok (.getfield 87, 3) := by decide +kernel
theorem dX7_save_31 : decode cX7_save 31 = .ok (.ireturn, 1) := by decide +kernel
set_option maxRecDepth 20000 in
theorem ggX7_restore_X7_needSlot : GoodIn wsX7_restore wsX7_needSlot := goodIn_ca (goodIn_r _ [8, 9, 10, 11, 12, 7, 13] (by decide +kernel) (by decide +kernel)) (goodIn_sub (fun _ h => List.mem_cons_of_mem _ (List.mem_append_left _ (List.mem_append_right _ h))) (by decide +kernel))
set_option maxRecDepth 20000 in
theorem gX7_restore_X7_needSlot : GoodIn wsX7_restore (va_wsS RX7 232 yX7_needSlot wsX7_needSlot) := goodIn_app (goodIn_of _ (by decide +kernel)) ggX7_restore_X7_needSlot
set_option maxRecDepth 20000 in
theorem ggX7_restore_X7_needState : GoodIn wsX7_restore wsX7_needState := goodIn_ca (goodIn_r _ [16, 17, 18] (by decide +kernel) (by decide +kernel)) (goodIn_sub (fun _ h => List.mem_cons_of_mem _ (List.mem_append_right _ h)) (by decide +kernel))
set_option maxRecDepth 20000 in
theorem gX7_restore_X7_needState : GoodIn wsX7_restore (va_wsS RX7 56 yX7_needState wsX7_needState) := goodIn_app (goodIn_of _ (by decide +kernel)) ggX7_restore_X7_needState
set_option maxRecDepth 20000 in
theorem ggX7_restore_X4_copyFrom : GoodIn wsX7_restore wsX4_copyFrom := goodIn_r _ [23, 24, 25, 26, 27, 28, 29, 30, 31, 32, 33, 34, 35, 36, 37, 38, 39, 40, 41, 42, 43, 44, 45, 46, 47, 48, 49, 50, 51, 65, 66, 67, 68, 69, 70, 71, 72, 73, 74, 75, 76] (by decide +kernel) (by decide +kernel)
set_option maxRecDepth 20000 in
theorem gX7_restore_X4_copyFrom : GoodIn wsX7_restore (wsV RX7 198 RX4 yX4_copyFrom wsX4_copyFrom) := goodIn_app (goodIn_of _ (by decide +kernel)) ggX7_restore_X4_copyFrom
set_option maxRecDepth 20000 in
theorem ggX7_restore_X3_forgetAll : GoodIn wsX7_restore wsX3_forgetAll := goodIn_r _ [56, 57, 77, 78, 79] (by decide +kernel) (by decide +kernel)
set_option maxRecDepth 20000 in
theorem gX7_restore_X3_forgetAll : GoodIn wsX7_restore (wsV RX7 76 RX3 yX3_forgetAll wsX3_forgetAll) := goodIn_app (goodIn_of _ (by decide +kernel)) ggX7_restore_X3_forgetAll
theorem dX7_restore_0 : decode cX7_restore 0 = .ok (.iload_n 1, 1) := by decide +kernel
theorem dX7_restore_1 : decode cX7_restore 1 = .ok (.invokestatic 232, 3) := by decide +kernel
theorem dX7_restore_4 : decode cX7_restore 4 = .ok (.aload_n 0, 1) := by decide +kernel
theorem dX7_restore_5 : decode cX7_restore 5 = .ok (.getfield 40, 3) := by decide +kernel
theorem dX7_restore_8 : decode cX7_restore 8 = .ok (.iload_n 1, 1) := by decide +kernel
theorem dX7_restore_9 : decode cX7_restore 9 = .ok (.baload, 1) := by decide +kernel
theorem dX7_restore_10 : decode cX7_restore 10 = .ok (.invokestatic 56, 3) := by decide +kernel
theorem dX7_restore_13 : decode cX7_restore 13 = .ok (.aload_n 0, 1) := by decide +kernel
theorem dX7_restore_14 : decode cX7_restore 14 = .ok (.getfield 19, 3) := by decide +kernel
theorem dX7_restore_17 : decode cX7_restore 17 = .ok (.aload_n 0, 1) := by decide +kernel
theorem dX7_restore_18 : decode cX7_restore 18 = .ok (.getfield 36, 3) := by decide +kernel
theorem dX7_restore_21 : decode cX7_restore 21 = .ok (.iload_n 1, 1) := by decide +kernel
theorem dX7_restore_22 : decode cX7_restore 22 = .ok (.aaload, 1) := by decide +kernel
theorem dX7_restore_23 : decode cX7_restore 23 = .ok (.invokevirtual 198, 3) := by decide +kernel
theorem dX7_restore_26 : decode cX7_restore 26 = .ok (.aload_n 0, 1) := by decide +kernel
theorem dX7_restore_27 : decode cX7_restore 27 = .ok (.getfield 32, 3) := by decide +kernel
theorem dX7_restore_30 : decode cX7_restore 30 = .ok (.invokevirtual 76, 3) := by decide +kernel
theorem dX7_restore_33 : decode cX7_restore 33 = .ok (.aload_n 0, 1) := by decide +kernel
theorem dX7_restore_34 : decode cX7_restore 34 = .ok (.getfield 19, 3) := by decide +kernel
theorem dX7_restore_37 : decode cX7_restore 37 = .ok (.getfield 87, 3) := by decide +kernel
theorem dX7_restore_40 : decode cX7_restore 40 = .ok (.ireturn, 1) := by decide +kernel
theorem dX7_needArgument_0 : decode cX7_needArgument 0 = .ok (.iload_n 0, 1) := by decide +kernel
theorem dX7_needArgument_1 : decode cX7_needArgument 1 = .ok (.ifCond .ne 13, 3) := by decide +kernel
theorem dX7_needArgument_4 : decode cX7_needArgument 4 = .ok (.new 235, 3) := by decide +kernel
theorem dX7_needArgument_7 : decode cX7_needArgument 7 = .ok (.dup, 1) := by decide +kernel
theorem dX7_needArgument_8 : decode cX7_needArgument 8 = .ok (.ldc 237, 2) := by decide +kernel
theorem dX7_needArgument_10 : decode cX7_needArgument 10 = .ok (.invokespecial 239, 3) := by decide +kernel
theorem dX7_needArgument_13 : decode cX7_needArgument 13 = .ok (.athrow, 1) := by decide +kernel
theorem dX7_needArgument_14 : decode cX7_needArgument 14 = .ok (.return_, 1) := by decide +kernel
theorem dX7_needState_0 : decode cX7_needState 0 = .ok (.iload_n 0, 1) := by decide +kernel
theorem dX7_needState_1 : decode cX7_needState 1 = .ok (.ifCond .ne 13, 3) := by decide +kernel
theorem dX7_needState_4 : decode cX7_needState 4 = .ok (.new 242, 3) := by decide +kernel
theorem dX7_needState_7 : decode cX7_needState 7 = .ok (.dup, 1) := by decide +kernel
theorem dX7_needState_8 : decode cX7_needState 8 = .ok (.ldc 244, 2) := by decide +kernel
theorem dX7_needState_10 : decode cX7_needState 10 = .ok (.invokespecial 246, 3) := by decide +kernel
theorem dX7_needState_13 : decode cX7_needState 13 = .ok (.athrow, 1) := by decide +kernel
theorem dX7_needState_14 : decode cX7_needState 14 = .ok (.return_, 1) := by decide +kernel
set_option maxRecDepth 20000 in
theorem ggX7_needSlot_X7_isWithin : GoodIn wsX7_needSlot wsX7_isWithin := goodIn_r _ [6] (by decide +kernel) (by decide +kernel)
set_option maxRecDepth 20000 in
theorem gX7_needSlot_X7_isWithin : GoodIn wsX7_needSlot (va_wsS RX7 44 yX7_isWithin wsX7_isWithin) := goodIn_app (goodIn_of _ (by decide +kernel)) ggX7_needSlot_X7_isWithin
theorem dX7_needSlot_0 : decode cX7_needSlot 0 = .ok (.iload_n 0, 1) := by decide +kernel
theorem dX7_needSlot_1 : decode cX7_needSlot 1 = .ok (.iconst 0, 1) := by decide +kernel
theorem dX7_needSlot_2 : decode cX7_needSlot 2 = .ok (.iconst 1, 1) := by decide +kernel
theorem dX7_needSlot_3 : decode cX7_needSlot 3 = .ok (.invokestatic 44, 3) := by decide +kernel
theorem dX7_needSlot_6 : decode cX7_needSlot 6 = .ok (.ifCond .ne 13, 3) := by decide +kernel
theorem dX7_needSlot_9 : decode cX7_needSlot 9 = .ok (.new 247, 3) := by decide +kernel
theorem dX7_needSlot_12 : decode cX7_needSlot 12 = .ok (.dup, 1) := by decide +kernel
theorem dX7_needSlot_13 : decode cX7_needSlot 13 = .ok (.ldc 249, 2) := by decide +kernel
theorem dX7_needSlot_15 : decode cX7_needSlot 15 = .ok (.invokespecial 251, 3) := by decide +kernel
theorem dX7_needSlot_18 : decode cX7_needSlot 18 = .ok (.athrow, 1) := by decide +kernel
theorem dX7_needSlot_19 : decode cX7_needSlot 19 = .ok (.return_, 1) := by decide +kernel
set_option maxRecDepth 20000 in
theorem ggX7_needPart_X4_hasPart : GoodIn wsX7_needPart wsX4_hasPart := goodIn_r _ [8, 9, 17, 18, 19, 20, 21, 22, 23, 24, 25] (by decide +kernel) (by decide +kernel)
set_option maxRecDepth 20000 in
theorem gX7_needPart_X4_hasPart : GoodIn wsX7_needPart (wsV RX7 182 RX4 yX4_hasPart wsX4_hasPart) := goodIn_app (goodIn_of _ (by decide +kernel)) ggX7_needPart_X4_hasPart
theorem dX7_needPart_0 : decode cX7_needPart 0 = .ok (.aload_n 0, 1) := by decide +kernel
theorem dX7_needPart_1 : decode cX7_needPart 1 = .ok (.getfield 19, 3) := by decide +kernel
theorem dX7_needPart_4 : decode cX7_needPart 4 = .ok (.iload_n 1, 1) := by decide +kernel
theorem dX7_needPart_5 : decode cX7_needPart 5 = .ok (.invokevirtual 182, 3) := by decide +kernel
theorem dX7_needPart_8 : decode cX7_needPart 8 = .ok (.ifCond .ne 13, 3) := by decide +kernel
theorem dX7_needPart_11 : decode cX7_needPart 11 = .ok (.new 247, 3) := by decide +kernel
theorem dX7_needPart_14 : decode cX7_needPart 14 = .ok (.dup, 1) := by decide +kernel
theorem dX7_needPart_15 : decode cX7_needPart 15 = .ok (.ldc 252, 2) := by decide +kernel
theorem dX7_needPart_17 : decode cX7_needPart 17 = .ok (.invokespecial 251, 3) := by decide +kernel
theorem dX7_needPart_20 : decode cX7_needPart 20 = .ok (.athrow, 1) := by decide +kernel
theorem dX7_needPart_21 : decode cX7_needPart 21 = .ok (.return_, 1) := by decide +kernel
set_option maxRecDepth 20000 in
theorem ggX7_needContract_X1_isThere : GoodIn wsX7_needContract wsX1_isThere := goodIn_r _ [8, 9, 10, 11, 7, 12, 13, 14, 15, 16, 17, 18, 19, 36] (by decide +kernel) (by decide +kernel)
set_option maxRecDepth 20000 in
theorem gX7_needContract_X1_isThere : GoodIn wsX7_needContract (wsV RX7 254 RX1 yX1_isThere wsX1_isThere) := goodIn_app (goodIn_of _ (by decide +kernel)) ggX7_needContract_X1_isThere
theorem dX7_needContract_0 : decode cX7_needContract 0 = .ok (.aload_n 0, 1) := by decide +kernel
theorem dX7_needContract_1 : decode cX7_needContract 1 = .ok (.getfield 19, 3) := by decide +kernel
theorem dX7_needContract_4 : decode cX7_needContract 4 = .ok (.getfield 91, 3) := by decide +kernel
theorem dX7_needContract_7 : decode cX7_needContract 7 = .ok (.iload_n 1, 1) := by decide +kernel
theorem dX7_needContract_8 : decode cX7_needContract 8 = .ok (.iload_n 2, 1) := by decide +kernel
theorem dX7_needContract_9 : decode cX7_needContract 9 = .ok (.invokevirtual 254, 3) := by decide +kernel
theorem dX7_needContract_12 : decode cX7_needContract 12 = .ok (.ifCond .ne 14, 3) := by decide +kernel
theorem dX7_needContract_15 : decode cX7_needContract 15 = .ok (.new 247, 3) := by decide +kernel
theorem dX7_needContract_18 : decode cX7_needContract 18 = .ok (.dup, 1) := by decide +kernel
theorem dX7_needContract_19 : decode cX7_needContract 19 = .ok (.ldc_w 257, 3) := by decide +kernel
theorem dX7_needContract_22 : decode cX7_needContract 22 = .ok (.invokespecial 251, 3) := by decide +kernel
theorem dX7_needContract_25 : decode cX7_needContract 25 = .ok (.athrow, 1) := by decide +kernel
theorem dX7_needContract_26 : decode cX7_needContract 26 = .ok (.return_, 1) := by decide +kernel
set_option maxRecDepth 20000 in
theorem ggX7_blamedSince_X4_ofPart : GoodIn wsX7_blamedSince wsX4_ofPart := goodIn_r _ [6, 7, 15, 16, 17, 18, 19, 20, 21, 22, 23] (by decide +kernel) (by decide +kernel)
set_option maxRecDepth 20000 in
theorem gX7_blamedSince_X4_ofPart : GoodIn wsX7_blamedSince (wsV RX7 130 RX4 yX4_ofPart wsX4_ofPart) := goodIn_app (goodIn_of _ (by decide +kernel)) ggX7_blamedSince_X4_ofPart
theorem dX7_blamedSince_0 : decode cX7_blamedSince 0 = .ok (.aload_n 1, 1) := by decide +kernel
theorem dX7_blamedSince_1 : decode cX7_blamedSince 1 = .ok (.iload_n 2, 1) := by decide +kernel
theorem dX7_blamedSince_2 : decode cX7_blamedSince 2 = .ok (.bipush 6, 2) := by decide +kernel
theorem dX7_blamedSince_4 : decode cX7_blamedSince 4 = .ok (.invokevirtual 130, 3) := by decide +kernel
theorem dX7_blamedSince_7 : decode cX7_blamedSince 7 = .ok (.aload_n 0, 1) := by decide +kernel
theorem dX7_blamedSince_8 : decode cX7_blamedSince 8 = .ok (.getfield 19, 3) := by decide +kernel
theorem dX7_blamedSince_11 : decode cX7_blamedSince 11 = .ok (.iload_n 2, 1) := by decide +kernel
theorem dX7_blamedSince_12 : decode cX7_blamedSince 12 = .ok (.bipush 6, 2) := by decide +kernel
theorem dX7_blamedSince_14 : decode cX7_blamedSince 14 = .ok (.invokevirtual 130, 3) := by decide +kernel
theorem dX7_blamedSince_17 : decode cX7_blamedSince 17 = .ok (.isub, 1) := by decide +kernel
theorem dX7_blamedSince_18 : decode cX7_blamedSince 18 = .ok (.ireturn, 1) := by decide +kernel

