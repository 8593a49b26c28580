set_option maxRecDepth 20000 in
theorem gL_law_L_runScript : GoodIn wsL_law (va_wsS RL 182 yL_runScript wsL_runScript) := goodIn_app (goodIn_of _ (by decide +kernel)) ggL_law_L_runScript
set_option maxRecDepth 20000 in
theorem ggL_law_X8_runScript : GoodIn wsL_law wsX8_runScript := goodIn_r _ [930, 608, 931, 125, 126, 5, 127, 932, 933, 934, 935, 128, 129, 130, 131, 132, 802, 803, 804, 805, 74, 75, 519, 520, 521, 936, 937, 938, 939, 940, 941, 942, 943, 291, 292, 293, 294, 79, 80, 295, 296, 297, 298, 299, 300, 263, 264, 265, 301, 302, 303, 304, 305, 306, 284, 285, 286, 307, 308, 309, 310, 311, 312, 313, 314, 315, 316, 317, 318, 319, 320, 321, 322, 323, 324, 325, 944, 945, 946, 947, 274, 275, 276, 948, 949, 950, 951, 952, 953, 954, 955, 956, 957, 958, 959, 81, 1007, 1008, 1009, 1010, 1011, 1012, 1013, 1014, 1015, 1016, 1017, 1018, 1019, 1020, 1021, 1022] (by decide +kernel) (by decide +kernel)
set_option maxRecDepth 20000 in
theorem gL_law_X8_runScript : GoodIn wsL_law (wsV RL 185 RX8 yX8_runScript wsX8_runScript) := goodIn_app (goodIn_of _ (by decide +kernel)) ggL_law_X8_runScript
set_option maxRecDepth 20000 in
theorem ggL_law_L_simulate : GoodIn wsL_law wsL_simulate := goodIn_ca (goodIn_r _ [962, 86, 963, 964, 965, 2, 966, 21, 22, 967, 968, 92, 93, 94, 95, 96, 97, 98, 99, 790, 649, 650, 20, 651, 42, 46, 48, 652, 471, 472, 473, 344, 345, 346, 347, 348, 349, 653, 654, 655, 41, 656, 53, 657, 658, 659, 660, 45, 661, 61, 470, 358, 754, 443, 444, 445, 446, 447, 448, 449, 450, 451, 452, 453, 454, 455, 456, 457, 432, 433, 434, 435, 436, 437, 458, 459, 460, 461, 462, 463, 464, 465, 466, 467, 468, 469, 474, 475, 476, 477, 478, 479, 480, 481, 482, 483, 484, 485, 486, 487, 488, 489, 490, 491, 492, 493, 494, 495, 496, 497, 498, 499, 500, 501, 502, 503, 504, 505, 506, 507, 508, 863, 864, 865, 866, 568, 1000, 1001, 1002, 1003, 1004, 1005, 1006, 1025, 1026, 1027, 1028, 1029, 1030, 1031, 1032, 1033, 1037, 1038, 1039] (by decide +kernel) (by decide +kernel)) (goodIn_sub (fun _ h => List.mem_append_left _ (List.mem_append_left _ (List.mem_append_right _ h))) (by decide +kernel))
set_option maxRecDepth 20000 in
theorem gL_law_L_simulate : GoodIn wsL_law (va_wsS RL 186 yL_simulate wsL_simulate) := goodIn_app (goodIn_of _ (by decide +kernel)) ggL_law_L_simulate
set_option maxRecDepth 20000 in
theorem ggL_law_X8_simulate : GoodIn wsL_law wsX8_simulate := goodIn_r _ [972, 672, 74, 973, 974, 75, 125, 126, 5, 127, 128, 129, 130, 131, 132, 802, 803, 804, 805, 519, 520, 521, 291, 292, 293, 294, 79, 80, 295, 296, 297, 298, 299, 300, 263, 264, 265, 301, 302, 303, 304, 305, 306, 284, 285, 286, 307, 308, 309, 310, 311, 312, 313, 314, 315, 316, 317, 318, 319, 320, 321, 322, 323, 324, 325, 1007, 1008, 1009, 1010, 1011, 1012, 1013, 1014, 1015, 1016, 1017, 1018, 1019, 1020, 1021, 1022] (by decide +kernel) (by decide +kernel)
set_option maxRecDepth 20000 in
theorem gL_law_X8_simulate : GoodIn wsL_law (wsV RL 189 RX8 yX8_simulate wsX8_simulate) := goodIn_app (goodIn_of _ (by decide +kernel)) ggL_law_X8_simulate
set_option maxRecDepth 20000 in
theorem ggL_law_L_save : GoodIn wsL_law wsL_save := goodIn_ca (goodIn_r _ [977, 556, 978, 979, 980, 2, 981, 28, 21, 30, 982, 983, 984, 565, 566, 92, 93, 94, 790, 649, 650, 20, 651, 42, 46, 48, 652, 471, 472, 473, 344, 345, 346, 347, 348, 349, 653, 654, 655, 41, 656, 53, 657, 658, 659, 660, 45, 661, 61, 470, 358, 1000, 1001, 1002, 1003, 1004, 1005, 1006, 1025, 1026, 1027, 1028, 1029, 1030, 1031, 1032, 1033, 1037, 1038, 1039] (by decide +kernel) (by decide +kernel)) (goodIn_sub (fun _ h => List.mem_append_right _ h) (by decide +kernel))
set_option maxRecDepth 20000 in
theorem gL_law_L_save : GoodIn wsL_law (va_wsS RL 190 yL_save wsL_save) := goodIn_app (goodIn_of _ (by decide +kernel)) ggL_law_L_save
set_option maxRecDepth 20000 in
theorem ggL_law_X8_save : GoodIn wsL_law wsX8_save := goodIn_r _ [988, 74, 77, 78, 125, 126, 5, 127, 128, 129, 130, 131, 132, 519, 520, 521, 1007, 1008, 1009, 1010, 1011, 1012, 1013, 1014, 1015, 1016, 1017, 1018, 1019, 1020, 1021, 1022] (by decide +kernel) (by decide +kernel)
set_option maxRecDepth 20000 in
theorem gL_law_X8_save : GoodIn wsL_law (wsV RL 192 RX8 yX8_save wsX8_save) := goodIn_app (goodIn_of _ (by decide +kernel)) ggL_law_X8_save
set_option maxRecDepth 20000 in
theorem ggL_law_L_restore : GoodIn wsL_law wsL_restore := goodIn_ca (goodIn_ca (goodIn_r _ [991, 556, 87, 992, 993, 994, 2, 995, 30, 21, 28, 27, 982, 983, 984, 565, 566, 92, 93, 94, 105, 106, 107, 108, 109, 790, 649, 650, 20, 651, 42, 46, 48, 652, 471, 472, 473, 344, 345, 346, 347, 348, 349, 653, 654, 655, 41, 656, 53, 657, 658, 659, 660, 45, 661, 61, 470, 358, 359, 360, 361, 26, 362, 363, 1000, 1001, 1002, 1003, 1004, 1005, 1006, 1025, 1026, 1027, 1028, 1029, 1030, 1031, 1032, 1033, 1037, 1038, 1039, 1034, 1035, 1036] (by decide +kernel) (by decide +kernel)) (goodIn_sub (fun _ h => List.mem_append_right _ h) (by decide +kernel))) (goodIn_sub (fun _ h => List.mem_append_left _ (List.mem_append_right _ h)) (by decide +kernel))
set_option maxRecDepth 20000 in
theorem gL_law_L_restore : GoodIn wsL_law (va_wsS RL 193 yL_restore wsL_restore) := goodIn_app (goodIn_of _ (by decide +kernel)) ggL_law_L_restore
set_option maxRecDepth 20000 in
theorem ggL_law_X8_restore : GoodIn wsL_law wsX8_restore := goodIn_r _ [999, 78, 77, 74, 518, 125, 126, 5, 127, 128, 129, 130, 131, 132, 519, 520, 521, 1007, 1008, 1009, 1010, 1011, 1012, 1013, 1014, 1015, 1016, 1017, 1018, 1019, 1020, 1021, 1022] (by decide +kernel) (by decide +kernel)
set_option maxRecDepth 20000 in
theorem gL_law_X8_restore : GoodIn wsL_law (wsV RL 195 RX8 yX8_restore wsX8_restore) := goodIn_app (goodIn_of _ (by decide +kernel)) ggL_law_X8_restore
