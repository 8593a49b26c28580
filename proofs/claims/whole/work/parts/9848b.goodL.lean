set_option maxRecDepth 20000 in
theorem gL_law_L_load : GoodIn wsL_law (va_wsS RL 115 yL_load wsL_load) := goodIn_app (goodIn_of _ (by decide +kernel)) ggL_law_L_load
set_option maxRecDepth 20000 in
theorem ggL_law_X8_load : GoodIn wsL_law wsX8_load := goodIn_r _ [517, 73, 74, 518, 78, 230, 224, 225, 226, 5, 227, 228, 229, 124, 231, 232, 233, 234, 72, 235, 236, 237, 238, 239, 240, 241, 242, 243, 244, 245, 246, 247, 248, 249, 250, 251, 252, 253, 254, 255, 125, 126, 127, 256, 257, 258, 259, 260, 261, 262, 263, 264, 265, 266, 267, 268, 269, 270, 271, 272, 273, 274, 275, 276, 277, 278, 279, 280, 281, 282, 283, 284, 285, 286, 287, 288, 289, 290, 291, 292, 293, 294, 79, 80, 295, 296, 297, 298, 299, 300, 301, 302, 303, 304, 305, 306, 307, 308, 309, 310, 311, 312, 313, 314, 315, 316, 317, 318, 319, 320, 321, 322, 323, 324, 325, 326, 327, 328, 329, 128, 129, 130, 131, 132, 519, 520, 521, 1007, 1008, 1009, 1010, 1011, 1012, 1013, 1014, 1015, 1016, 1017, 1018, 1019, 1020, 1021, 1022] (by decide +kernel) (by decide +kernel)
set_option maxRecDepth 20000 in
theorem gL_law_X8_load : GoodIn wsL_law (wsV RL 118 RX8 yX8_load wsX8_load) := goodIn_app (goodIn_of _ (by decide +kernel)) ggL_law_X8_load
set_option maxRecDepth 20000 in
theorem ggL_law_L_about : GoodIn wsL_law wsL_about := goodIn_ca (goodIn_r _ [524, 86, 525, 526, 527, 2, 528, 21, 92, 93, 94, 95, 96, 97, 98, 99, 529, 530, 531, 41, 532, 533, 534, 535, 536, 53, 435, 436, 437, 537, 538, 539, 540, 541, 542, 543, 45, 544, 358, 61, 1000, 1001, 1002, 1003, 1004, 1005, 1006, 1025, 1026, 1027, 1028, 1029, 1030, 1031, 1032, 1033, 1037, 1038, 1039] (by decide +kernel) (by decide +kernel)) (goodIn_sub (fun _ h => List.mem_append_left _ (List.mem_append_left _ (List.mem_append_right _ h))) (by decide +kernel))
set_option maxRecDepth 20000 in
theorem gL_law_L_about : GoodIn wsL_law (va_wsS RL 119 yL_about wsL_about) := goodIn_app (goodIn_of _ (by decide +kernel)) ggL_law_L_about
set_option maxRecDepth 20000 in
theorem ggL_law_X8_about : GoodIn wsL_law wsX8_about := goodIn_r _ [548, 549, 74, 125, 126, 5, 127, 128, 129, 130, 131, 132, 550, 551, 552, 284, 285, 286, 1007, 1008, 1009, 1010, 1011, 1012, 1013, 1014, 1015, 1016, 1017, 1018, 1019, 1020, 1021, 1022] (by decide +kernel) (by decide +kernel)
set_option maxRecDepth 20000 in
theorem gL_law_X8_about : GoodIn wsL_law (wsV RL 121 RX8 yX8_about wsX8_about) := goodIn_app (goodIn_of _ (by decide +kernel)) ggL_law_X8_about
set_option maxRecDepth 20000 in
theorem ggL_law_L_part : GoodIn wsL_law wsL_part := goodIn_ca (goodIn_ca (goodIn_r _ [555, 556, 86, 557, 558, 559, 2, 560, 21, 561, 562, 563, 564, 565, 566, 567, 414, 415, 20, 416, 344, 92, 93, 94, 95, 96, 97, 98, 99, 568, 494, 495, 496, 48, 569, 570, 571, 572, 493, 1000, 1001, 1002, 1003, 1004, 1005, 1006, 1025, 1026, 1027, 1028, 1029, 1030, 1031, 1032, 1033] (by decide +kernel) (by decide +kernel)) (goodIn_sub (fun _ h => List.mem_append_right _ h) (by decide +kernel))) (goodIn_sub (fun _ h => List.mem_append_left _ (List.mem_append_left _ (List.mem_append_right _ h))) (by decide +kernel))
set_option maxRecDepth 20000 in
theorem gL_law_L_part : GoodIn wsL_law (va_wsS RL 122 yL_part wsL_part) := goodIn_app (goodIn_of _ (by decide +kernel)) ggL_law_L_part
set_option maxRecDepth 20000 in
theorem ggL_law_X8_part : GoodIn wsL_law wsX8_part := goodIn_r _ [576, 549, 74, 577, 578, 579, 5, 580, 125, 126, 127, 128, 129, 130, 131, 132, 310, 311, 312, 263, 264, 265, 581, 582, 583, 1007, 1008, 1009, 1010, 1011, 1012, 1013, 1014, 1015, 1016, 1017, 1018, 1019, 1020, 1021, 1022] (by decide +kernel) (by decide +kernel)
set_option maxRecDepth 20000 in
theorem gL_law_X8_part : GoodIn wsL_law (wsV RL 125 RX8 yX8_part wsX8_part) := goodIn_app (goodIn_of _ (by decide +kernel)) ggL_law_X8_part
set_option maxRecDepth 20000 in
theorem ggL_law_L_contract : GoodIn wsL_law wsL_contract := goodIn_ca (goodIn_ca (goodIn_r _ [586, 556, 86, 587, 588, 589, 2, 590, 21, 591, 592, 593, 594, 565, 566, 595, 596, 597, 41, 598, 513, 455, 456, 457, 53, 432, 433, 434, 435, 436, 437, 92, 93, 94, 95, 96, 97, 98, 99, 599, 600, 601, 602, 603, 1000, 1001, 1002, 1003, 1004, 1005, 1006, 1025, 1026, 1027, 1028, 1029, 1030, 1031, 1032, 1033, 1037] (by decide +kernel) (by decide +kernel)) (goodIn_sub (fun _ h => List.mem_append_right _ h) (by decide +kernel))) (goodIn_sub (fun _ h => List.mem_append_left _ (List.mem_append_left _ (List.mem_append_right _ h))) (by decide +kernel))
set_option maxRecDepth 20000 in
theorem gL_law_L_contract : GoodIn wsL_law (va_wsS RL 126 yL_contract wsL_contract) := goodIn_app (goodIn_of _ (by decide +kernel)) ggL_law_L_contract
set_option maxRecDepth 20000 in
theorem ggL_law_X8_contract : GoodIn wsL_law wsX8_contract := goodIn_r _ [607, 608, 74, 609, 610, 611, 5, 612, 613, 614, 577, 578, 579, 580, 125, 126, 127, 298, 299, 300, 304, 305, 306, 284, 285, 286, 128, 129, 130, 131, 132, 1007, 1008, 1009, 1010, 1011, 1012, 1013, 1014, 1015, 1016, 1017, 1018, 1019, 1020, 1021, 1022] (by decide +kernel) (by decide +kernel)
set_option maxRecDepth 20000 in
theorem gL_law_X8_contract : GoodIn wsL_law (wsV RL 129 RX8 yX8_contract wsX8_contract) := goodIn_app (goodIn_of _ (by decide +kernel)) ggL_law_X8_contract
set_option maxRecDepth 20000 in
theorem ggL_law_L_blame : GoodIn wsL_law wsL_blame := goodIn_ca (goodIn_r _ [617, 86, 618, 619, 620, 2, 621, 21, 92, 93, 94, 95, 96, 97, 98, 99, 622, 623, 624, 45, 625, 358, 61, 1000, 1001, 1002, 1003, 1004, 1005, 1006, 1025, 1026, 1027, 1028, 1029, 1030, 1031, 1032, 1033, 1038, 1039] (by decide +kernel) (by decide +kernel)) (goodIn_sub (fun _ h => List.mem_append_left _ (List.mem_append_left _ (List.mem_append_right _ h))) (by decide +kernel))
set_option maxRecDepth 20000 in
theorem gL_law_L_blame : GoodIn wsL_law (va_wsS RL 130 yL_blame wsL_blame) := goodIn_app (goodIn_of _ (by decide +kernel)) ggL_law_L_blame
set_option maxRecDepth 20000 in
theorem ggL_law_X8_blame : GoodIn wsL_law wsX8_blame := goodIn_r _ [629, 255, 630, 74, 125, 126, 5, 127, 128, 129, 130, 131, 132, 1007, 1008, 1009, 1010, 1011, 1012, 1013, 1014, 1015, 1016, 1017, 1018, 1019, 1020, 1021, 1022] (by decide +kernel) (by decide +kernel)
set_option maxRecDepth 20000 in
theorem gL_law_X8_blame : GoodIn wsL_law (wsV RL 132 RX8 yX8_blame wsX8_blame) := goodIn_app (goodIn_of _ (by decide +kernel)) ggL_law_X8_blame
