set_option maxRecDepth 20000 in
theorem ggL_law_X7_give : GoodIn wsL_law wsX7_give := goodIn_r _ [543, 129, 75, 435, 544, 545, 71, 131, 546, 373, 178, 374, 547, 441, 442, 443, 5, 444, 349, 350, 351, 74, 352, 353, 132, 133, 134, 135, 136, 137, 138, 445, 446, 447, 448, 449, 450, 451, 452, 453, 454, 455, 456, 457, 458, 459, 460, 92, 1004, 1005, 1006, 1007, 1008, 1009, 1010, 1039, 1040, 1041, 1042, 1043, 1044, 1045, 1046, 1047, 1048, 1049, 1050, 1051, 1052, 1053, 1054, 1055, 1056, 1057, 1058, 1059, 1060, 1061] (by decide +kernel) (by decide +kernel)
set_option maxRecDepth 20000 in
theorem gL_law_X7_give : GoodIn wsL_law (wsV RL 150 RX7 yX7_give wsX7_give) := goodIn_app (goodIn_of _ (by decide +kernel)) ggL_law_X7_give
set_option maxRecDepth 20000 in
theorem ggL_law_L_pass : GoodIn wsL_law wsL_pass := goodIn_ca (goodIn_ca (goodIn_r _ [550, 107, 219, 551, 552, 553, 2, 554, 112, 113, 224, 225, 17, 114, 116, 333, 117, 118, 119, 555, 556, 557, 16, 558, 559, 560, 561, 562, 29, 25, 563, 37, 564, 33, 565, 566, 567, 158, 159, 24, 160, 161, 162, 163, 164, 165, 166, 167, 168, 169, 170, 171, 172, 173, 174, 175, 176, 177, 178, 179, 180, 181, 182, 183, 121, 122, 123, 124, 184, 185, 186, 187, 568, 569, 570, 28, 571, 572, 573, 574, 575, 576, 577, 578, 579, 580, 581, 582, 583, 584, 585, 586, 587, 588, 589, 590, 591, 592, 593, 594, 595, 596, 597, 598, 599, 600, 601, 268, 269, 270, 38, 39, 271, 272, 273, 274, 275, 602, 603, 604, 36, 605, 319, 62, 606, 607, 608, 609, 60, 610, 611, 612, 613, 61, 63, 614, 615, 420, 421, 32, 422, 343, 616, 617, 618, 619, 620, 621, 622, 623, 624, 625, 626, 55, 51, 54, 627, 628, 629, 630, 631, 632, 633, 634, 635, 636, 637, 638, 639, 640, 641, 642, 427, 428, 429, 430, 998, 999, 1000, 1001, 1002, 1003, 1011, 1012, 1013, 1014, 1015, 1016, 1017, 1018, 1019, 1020, 1021, 1022, 1023, 1024, 1025, 1026, 1034, 1035, 1036, 1037, 1038, 1027, 1028, 1029, 1030, 1031, 1032, 1033] (by decide +kernel) (by decide +kernel)) (goodIn_sub (fun _ h => List.mem_append_left _ (List.mem_append_left _ (List.mem_append_right _ h))) (by decide +kernel))) (goodIn_sub (fun _ h => List.mem_append_left _ (List.mem_append_right _ h)) (by decide +kernel))
set_option maxRecDepth 20000 in
theorem gL_law_L_pass : GoodIn wsL_law (va_wsS RL 151 yL_pass wsL_pass) := goodIn_app (goodIn_of _ (by decide +kernel)) ggL_law_L_pass
set_option maxRecDepth 20000 in
theorem ggL_law_X7_pass : GoodIn wsL_law wsX7_pass := goodIn_r _ [646, 129, 71, 131, 132, 133, 5, 134, 135, 136, 137, 138, 647, 648, 649, 70, 650, 286, 651, 652, 202, 653, 654, 655, 656, 657, 658, 208, 659, 660, 661, 662, 663, 195, 196, 197, 198, 199, 200, 201, 203, 204, 205, 206, 207, 209, 210, 211, 212, 213, 181, 178, 182, 214, 177, 179, 215, 140, 141, 142, 143, 664, 665, 666, 667, 668, 669, 670, 497, 671, 672, 673, 674, 675, 676, 677, 678, 679, 520, 509, 510, 511, 680, 681, 682, 683, 684, 685, 686, 687, 83, 81, 82, 84, 688, 283, 284, 285, 287, 80, 689, 690, 691, 692, 78, 693, 85, 694, 695, 87, 696, 446, 447, 74, 448, 353, 449, 450, 451, 452, 453, 454, 455, 456, 457, 458, 459, 460, 92, 697, 698, 699, 700, 701, 702, 703, 75, 704, 435, 349, 350, 351, 352, 445, 461, 462, 463, 464, 1004, 1005, 1006, 1007, 1008, 1009, 1010, 1039, 1040, 1041, 1042, 1043, 1044, 1045, 1046, 1047, 1048, 1049, 1050, 1051, 1052, 1053, 1054, 1055, 1056, 1057, 1058, 1059, 1060, 1061] (by decide +kernel) (by decide +kernel)
set_option maxRecDepth 20000 in
theorem gL_law_X7_pass : GoodIn wsL_law (wsV RL 153 RX7 yX7_pass wsX7_pass) := goodIn_app (goodIn_of _ (by decide +kernel)) ggL_law_X7_pass
set_option maxRecDepth 20000 in
theorem ggL_law_L_sea : GoodIn wsL_law wsL_sea := goodIn_ca (goodIn_r _ [707, 107, 708, 709, 710, 2, 711, 112, 113, 17, 114, 116, 117, 118, 119, 157, 158, 159, 24, 160, 161, 162, 163, 164, 165, 166, 167, 168, 169, 170, 171, 172, 173, 174, 175, 176, 177, 178, 179, 180, 181, 182, 183, 121, 122, 123, 124, 184, 185, 186, 187, 998, 999, 1000, 1001, 1002, 1003, 1011, 1012, 1013, 1014, 1015, 1016, 1017, 1018, 1019, 1020] (by decide +kernel) (by decide +kernel)) (goodIn_sub (fun _ h => List.mem_append_left _ (List.mem_append_left _ (List.mem_append_right _ h))) (by decide +kernel))
set_option maxRecDepth 20000 in
theorem gL_law_L_sea : GoodIn wsL_law (va_wsS RL 154 yL_sea wsL_sea) := goodIn_app (goodIn_of _ (by decide +kernel)) ggL_law_L_sea
set_option maxRecDepth 20000 in
theorem ggL_law_X7_sea : GoodIn wsL_law wsX7_sea := goodIn_r _ [715, 129, 71, 131, 132, 133, 5, 134, 135, 136, 137, 138, 194, 195, 196, 70, 197, 198, 199, 200, 201, 202, 203, 204, 205, 206, 207, 208, 209, 210, 211, 212, 213, 181, 178, 182, 214, 177, 179, 215, 140, 141, 142, 143, 1004, 1005, 1006, 1007, 1008, 1009, 1010, 1039, 1040, 1041, 1042, 1043, 1044, 1045, 1046, 1047, 1048, 1049, 1050, 1051, 1052, 1053, 1054, 1055, 1056, 1057, 1058] (by decide +kernel) (by decide +kernel)
set_option maxRecDepth 20000 in
theorem gL_law_X7_sea : GoodIn wsL_law (wsV RL 156 RX7 yX7_sea wsX7_sea) := goodIn_app (goodIn_of _ (by decide +kernel)) ggL_law_X7_sea
set_option maxRecDepth 20000 in
theorem ggL_law_L_pond : GoodIn wsL_law wsL_pond := goodIn_ca (goodIn_r _ [718, 107, 719, 720, 721, 2, 722, 112, 113, 117, 118, 119, 723, 724, 725, 726, 17, 227, 727, 728, 729, 534, 114, 116, 730, 583, 584, 28, 585, 586, 579, 731, 167, 168, 24, 169, 170, 171, 172, 173, 174, 175, 176, 177, 178, 179, 180, 181, 182, 183, 121, 122, 123, 124, 998, 999, 1000, 1001, 1002, 1003, 1011, 1012, 1013, 1014, 1015, 1016, 1017, 1021, 1022, 1023, 1024, 1025, 1026, 1018, 1019, 1020] (by decide +kernel) (by decide +kernel)) (goodIn_sub (fun _ h => List.mem_append_left _ (List.mem_append_left _ (List.mem_append_right _ h))) (by decide +kernel))
set_option maxRecDepth 20000 in
theorem gL_law_L_pond : GoodIn wsL_law (va_wsS RL 157 yL_pond wsL_pond) := goodIn_app (goodIn_of _ (by decide +kernel)) ggL_law_L_pond
set_option maxRecDepth 20000 in
theorem ggL_law_X7_pond : GoodIn wsL_law wsX7_pond := goodIn_r _ [735, 129, 132, 133, 5, 134, 135, 136, 137, 138, 736, 737, 738, 739, 71, 740, 741, 742, 544, 131, 743, 665, 666, 70, 667, 668, 654, 744, 204, 205, 206, 207, 208, 209, 210, 211, 212, 213, 181, 178, 182, 214, 177, 179, 215, 140, 141, 142, 143, 1004, 1005, 1006, 1007, 1008, 1009, 1010, 1039, 1040, 1041, 1042, 1043, 1044, 1045, 1046, 1047, 1048, 1049, 1050, 1051, 1052, 1053, 1054, 1055, 1056, 1057, 1058] (by decide +kernel) (by decide +kernel)
set_option maxRecDepth 20000 in
theorem gL_law_X7_pond : GoodIn wsL_law (wsV RL 159 RX7 yX7_pond wsX7_pond) := goodIn_app (goodIn_of _ (by decide +kernel)) ggL_law_X7_pond
set_option maxRecDepth 20000 in
theorem ggL_law_L_ofPair : GoodIn wsL_law wsL_ofPair := goodIn_ca (goodIn_ca (goodIn_r _ [747, 406, 107, 748, 749, 750, 2, 751, 411, 412, 112, 113, 17, 313, 415, 416, 417, 36, 418, 319, 117, 118, 119, 752, 753, 754, 755, 414, 483, 756, 998, 999, 1000, 1001, 1002, 1003, 1011, 1012, 1013, 1014, 1015, 1016, 1017, 1034, 1035, 1036, 1037, 1038] (by decide +kernel) (by decide +kernel)) (goodIn_sub (fun _ h => List.mem_append_right _ h) (by decide +kernel))) (goodIn_sub (fun _ h => List.mem_append_left _ (List.mem_append_left _ (List.mem_append_right _ h))) (by decide +kernel))
set_option maxRecDepth 20000 in
theorem gL_law_L_ofPair : GoodIn wsL_law (va_wsS RL 160 yL_ofPair wsL_ofPair) := goodIn_app (goodIn_of _ (by decide +kernel)) ggL_law_L_ofPair
set_option maxRecDepth 20000 in
theorem ggL_law_X7_ofPair : GoodIn wsL_law wsX7_ofPair := goodIn_r _ [760, 129, 437, 438, 439, 5, 440, 71, 324, 132, 133, 134, 135, 136, 137, 138, 761, 762, 763, 764, 325, 436, 765, 1004, 1005, 1006, 1007, 1008, 1009, 1010, 1039, 1040, 1041, 1042, 1043, 1044, 1045, 1046, 1047, 1048, 1049, 1050, 1051, 1052, 1053, 1054, 1055, 1056, 1057, 1058] (by decide +kernel) (by decide +kernel)
set_option maxRecDepth 20000 in
theorem gL_law_X7_ofPair : GoodIn wsL_law (wsV RL 162 RX7 yX7_ofPair wsX7_ofPair) := goodIn_app (goodIn_of _ (by decide +kernel)) ggL_law_X7_ofPair
set_option maxRecDepth 20000 in
theorem ggL_law_L_dull : GoodIn wsL_law wsL_dull := goodIn_ca (goodIn_r _ [768, 406, 769, 770, 771, 2, 772, 411, 412, 17, 313, 485, 415, 416, 417, 36, 418, 319, 998, 999, 1000, 1001, 1002, 1003, 1011, 1012, 1013, 1014, 1015, 1016, 1017, 1034, 1035, 1036, 1037, 1038] (by decide +kernel) (by decide +kernel)) (goodIn_sub (fun _ h => List.mem_append_right _ h) (by decide +kernel))
set_option maxRecDepth 20000 in
theorem gL_law_L_dull : GoodIn wsL_law (va_wsS RL 163 yL_dull wsL_dull) := goodIn_app (goodIn_of _ (by decide +kernel)) ggL_law_L_dull
set_option maxRecDepth 20000 in
theorem ggL_law_X7_dull : GoodIn wsL_law wsX7_dull := goodIn_r _ [776, 129, 71, 494, 437, 438, 439, 5, 440, 324, 132, 133, 134, 135, 136, 137, 138, 1004, 1005, 1006, 1007, 1008, 1009, 1010, 1039, 1040, 1041, 1042, 1043, 1044, 1045, 1046, 1047, 1048, 1049, 1050, 1051, 1052, 1053, 1054, 1055, 1056, 1057, 1058] (by decide +kernel) (by decide +kernel)
set_option maxRecDepth 20000 in
theorem gL_law_X7_dull : GoodIn wsL_law (wsV RL 165 RX7 yX7_dull wsX7_dull) := goodIn_app (goodIn_of _ (by decide +kernel)) ggL_law_X7_dull
set_option maxRecDepth 20000 in
theorem ggL_law_L_ofLot : GoodIn wsL_law wsL_ofLot := goodIn_ca (goodIn_ca (goodIn_r _ [779, 406, 107, 780, 781, 782, 2, 783, 411, 412, 112, 113, 17, 333, 419, 420, 421, 32, 422, 343, 117, 118, 119, 784, 785, 786, 787, 788, 533, 530, 531, 413, 313, 789, 790, 791, 36, 792, 319, 61, 998, 999, 1000, 1001, 1002, 1003, 1011, 1012, 1013, 1014, 1015, 1016, 1017, 1027, 1028, 1029, 1030, 1031, 1032, 1033, 1034, 1035, 1036, 1037, 1038] (by decide +kernel) (by decide +kernel)) (goodIn_sub (fun _ h => List.mem_append_right _ h) (by decide +kernel))) (goodIn_sub (fun _ h => List.mem_append_left _ (List.mem_append_left _ (List.mem_append_right _ h))) (by decide +kernel))
set_option maxRecDepth 20000 in
theorem gL_law_L_ofLot : GoodIn wsL_law (va_wsS RL 166 yL_ofLot wsL_ofLot) := goodIn_app (goodIn_of _ (by decide +kernel)) ggL_law_L_ofLot
set_option maxRecDepth 20000 in
theorem ggL_law_X7_ofLot : GoodIn wsL_law wsX7_ofLot := goodIn_r _ [796, 129, 441, 442, 443, 5, 444, 75, 349, 350, 351, 74, 352, 353, 132, 133, 134, 135, 136, 137, 138, 797, 798, 799, 800, 71, 435, 801, 802, 803, 70, 804, 661, 82, 445, 446, 447, 448, 449, 450, 451, 452, 453, 454, 455, 456, 457, 458, 459, 460, 92, 1004, 1005, 1006, 1007, 1008, 1009, 1010, 1059, 1060, 1061, 1039, 1040, 1041, 1042, 1043, 1044, 1045, 1046, 1047, 1048, 1049, 1050, 1051, 1052, 1053, 1054, 1055, 1056, 1057, 1058] (by decide +kernel) (by decide +kernel)
set_option maxRecDepth 20000 in
theorem gL_law_X7_ofLot : GoodIn wsL_law (wsV RL 168 RX7 yX7_ofLot wsX7_ofLot) := goodIn_app (goodIn_of _ (by decide +kernel)) ggL_law_X7_ofLot
set_option maxRecDepth 20000 in
theorem ggL_law_L_left : GoodIn wsL_law wsL_left := goodIn_ca (goodIn_r _ [807, 406, 808, 809, 810, 2, 811, 411, 412, 17, 333, 812, 419, 420, 421, 32, 422, 343, 998, 999, 1000, 1001, 1002, 1003, 1011, 1012, 1013, 1014, 1015, 1016, 1017, 1027, 1028, 1029, 1030, 1031, 1032, 1033] (by decide +kernel) (by decide +kernel)) (goodIn_sub (fun _ h => List.mem_append_right _ h) (by decide +kernel))
set_option maxRecDepth 20000 in
theorem gL_law_L_left : GoodIn wsL_law (va_wsS RL 169 yL_left wsL_left) := goodIn_app (goodIn_of _ (by decide +kernel)) ggL_law_L_left
set_option maxRecDepth 20000 in
theorem ggL_law_X7_left : GoodIn wsL_law wsX7_left := goodIn_r _ [816, 129, 71, 348, 441, 442, 443, 5, 444, 75, 349, 350, 351, 74, 352, 353, 132, 133, 134, 135, 136, 137, 138, 1004, 1005, 1006, 1007, 1008, 1009, 1010, 1039, 1040, 1041, 1042, 1043, 1044, 1045, 1046, 1047, 1048, 1049, 1050, 1051, 1052, 1053, 1054, 1055, 1056, 1057, 1058, 1059, 1060, 1061] (by decide +kernel) (by decide +kernel)
set_option maxRecDepth 20000 in
theorem gL_law_X7_left : GoodIn wsL_law (wsV RL 171 RX7 yX7_left wsX7_left) := goodIn_app (goodIn_of _ (by decide +kernel)) ggL_law_X7_left
