/-! the law's calls: words among the law's, the row of a static callee with a table -/
set_option maxRecDepth 20000 in
theorem ggL_law_X11_init : GoodIn wsL_law wsX11_init := goodIn_r _ [9, 10, 11, 12, 13, 14, 15, 16, 17, 18, 19, 20, 21, 22, 23, 24, 25, 26, 27, 28, 29, 30, 31, 32, 33, 34, 35, 36, 37, 38, 39, 40, 41, 42, 43, 44, 45, 46, 47, 48, 49, 50, 51, 52, 53, 54, 55, 56, 57, 58, 59, 60, 61, 62, 63, 64, 65, 66, 67, 68, 69, 70, 71, 72, 73, 74, 75, 76, 77, 78, 79, 80, 81, 82, 83, 84, 85, 86, 87, 88, 89, 90, 91, 92, 93, 94, 95, 96, 97, 98, 99, 100, 101, 102, 103, 104, 1025, 1026, 1027, 1028, 1029, 1030, 1031, 1032, 1033, 1034, 1035, 1036, 1037, 1038, 984, 1039, 1040, 1041, 1042, 1043, 1044, 1045, 1046, 1047, 1048, 1049, 1050, 1051, 1052, 1053, 1054, 1055, 1056, 1057, 1058, 1059, 1060, 1061, 1062, 1063, 1064, 1065, 1066, 1067, 1068, 1069, 1070, 1071, 1072] rfl (by decide +kernel)
set_option maxRecDepth 20000 in
theorem gL_law_X11_init : GoodIn wsL_law (wsX11_init) := ggL_law_X11_init
set_option maxRecDepth 20000 in
theorem ggL_law_X12_init : GoodIn wsL_law wsX12_init := goodIn_r _ [107, 108, 11, 12, 6, 109, 110, 111, 112, 113, 114, 115, 116, 117, 118, 119, 120, 121, 122, 123, 124, 125, 126, 127, 128, 129, 130, 131, 132, 133, 134, 135, 136, 137, 138, 139, 140, 141, 142, 143, 144, 145, 146, 147, 148, 149, 150, 151, 152, 153, 154, 155, 156, 157, 158, 159, 160, 161, 162, 163, 164, 165, 166, 167, 168, 169, 170, 171, 172, 173, 174, 175, 176, 177, 178, 179, 180, 181, 182, 183, 59, 184, 185, 186, 187, 188, 189, 190, 191, 192, 193, 194, 74, 195, 196, 197, 198, 199, 200, 985, 986, 987, 988, 989, 990, 991, 992, 993, 994, 995, 996, 997, 998, 999, 1000, 1001, 1002, 1003, 1004, 1005, 1006, 1007, 1008, 1009, 1010, 1011, 1012, 1013, 1014, 1015, 1016, 1017, 1018, 1019, 1020, 1021, 1022, 1023, 1024] rfl (by decide +kernel)
set_option maxRecDepth 20000 in
theorem gL_law_X12_init : GoodIn wsL_law (wsX12_init) := ggL_law_X12_init
set_option maxRecDepth 20000 in
theorem ggL_law_X11_type : GoodIn wsL_law wsX11_type := goodIn_r _ [204, 16, 205, 206, 207, 22, 208, 209, 54, 984, 1025, 1026, 1027, 1028, 1029, 1030, 1031, 1032, 1033, 1034, 1035, 1036, 1037, 1038, 1039, 1040, 1041, 1042, 1043] rfl (by decide +kernel)
set_option maxRecDepth 20000 in
theorem gL_law_X11_type : GoodIn wsL_law (wsV RL 35 RX11 yX11_type wsX11_type) := goodIn_app (goodIn_of _ (by decide +kernel)) ggL_law_X11_type
set_option maxRecDepth 20000 in
theorem ggL_law_X12_type : GoodIn wsL_law wsX12_type := goodIn_r _ [213, 214, 215, 184, 985, 986, 987, 988, 989, 990, 991, 992, 993, 994, 995, 996, 997, 998, 999, 1000, 1001, 1002, 1003, 1004, 1005, 1006, 1007, 1008, 1009, 1010, 1011, 1012, 1013, 1014, 1015, 1016, 1017, 1018, 1019, 1020, 1021, 1022, 1023, 1024] rfl (by decide +kernel)
set_option maxRecDepth 20000 in
theorem gL_law_X12_type : GoodIn wsL_law (wsV RL 39 RX12 yX12_type wsX12_type) := goodIn_app (goodIn_of _ (by decide +kernel)) ggL_law_X12_type
set_option maxRecDepth 20000 in
theorem ggL_law_L_run : GoodIn wsL_law wsL_run := goodIn_ca (goodIn_r _ [219, 220, 221, 222, 223, 2, 224, 225, 226, 16, 227, 228, 229, 15, 230, 231, 232, 233, 44, 234, 235, 236, 49, 23, 237, 238, 239, 240, 27, 28, 40, 48, 241, 242, 243, 47, 244, 245, 95, 99, 98, 246, 247, 248, 35, 249, 250, 76, 251, 252, 253, 254, 255, 256, 257, 39, 258, 259, 81, 260, 261, 262, 263, 32, 36, 264, 265, 266, 267, 80, 268, 269, 270, 31, 271, 272, 273, 274, 275, 65, 276, 277, 278, 279, 280, 281, 282, 283, 284, 285, 286, 287, 288, 289, 290, 291, 292, 293, 294, 295, 26, 296, 297, 61, 60, 298, 299, 300, 22, 301, 302, 209, 303, 304, 305, 306, 307, 308, 54, 309, 310, 311, 312, 313, 314, 315, 316, 317, 318, 319, 320, 321, 70, 69, 322, 323, 324, 325, 326, 327, 328, 329, 330, 331, 332, 333, 334, 335, 336, 337, 338, 339, 340, 341, 342, 343, 344, 345, 346, 347, 348, 349, 350, 351, 352, 353, 354, 355, 356, 357, 358, 359, 360, 361, 362, 363, 364, 365, 366, 367, 368, 369, 370, 371, 372, 373, 374, 375, 376, 377, 378, 379, 380, 381, 382, 75, 383, 384, 385, 386, 387, 388, 389, 390, 391, 392, 393, 394, 395, 396, 397, 398, 399, 400, 401, 402, 403, 404, 405, 406, 407, 408, 409, 410, 411, 412, 413, 414, 415, 416, 417, 418, 419, 420, 421, 422, 423, 424, 425, 426, 427, 428, 429, 430, 431, 432, 433, 434, 435, 436, 437, 438, 439, 440, 441, 442, 443, 444, 445, 446, 447, 448, 449, 450, 451, 452, 453, 454, 455, 456, 457, 458, 459, 460, 461, 462, 463, 464, 465, 466, 72, 73, 467, 468, 469, 470, 471, 472, 473, 474, 475, 476, 477, 478, 479, 480, 481, 482, 483, 484, 485, 486, 487, 488, 489, 490, 491, 492, 493, 494, 495, 496, 497, 498, 499, 500, 501, 502, 503, 504, 505, 506, 507, 508, 509, 510, 511, 512, 513, 514, 515, 516, 517, 518, 519, 520, 521, 522, 523, 524, 525, 526, 527, 528, 529, 530, 531, 532, 533, 534, 535, 536, 537, 538, 539, 540, 541, 542, 543, 544, 545, 546, 547, 548, 549, 550, 551, 552, 553, 554, 555, 556, 557, 43, 558, 559, 560, 561, 562, 563, 564, 565, 87, 566, 567, 568, 569, 570, 571, 572, 573, 574, 575, 576, 82, 83, 577, 578, 579, 580, 96, 581, 582, 583, 584, 585, 586, 587, 588, 589, 590, 591, 592, 593, 594, 595, 596, 97, 597, 598, 599, 600, 601, 71, 602, 603, 604, 605, 606, 607, 608, 609, 610, 611, 612, 613, 614, 615, 616, 617, 618, 619, 620, 621, 622, 623, 624, 625, 626, 627, 628, 629, 630, 631, 632, 633, 634, 635, 636, 637, 638, 639, 640, 641, 642, 643, 644, 645, 646, 647, 648, 649, 650, 651, 652, 653, 654, 655, 656, 657, 658, 659, 660, 661, 662, 663, 664, 665, 666, 667, 668, 669, 670, 671, 672, 94, 673, 674, 103, 675, 676, 677, 678, 679, 680, 681, 682, 683, 684, 685, 686, 687, 688, 689, 690, 691, 692, 693, 694, 695, 696, 697, 698, 104, 699, 700, 701, 702, 703, 704, 705, 706, 707, 708, 709, 710, 711, 712, 713, 714, 715, 716, 717, 718, 719, 984, 1025, 1026, 1027, 1028, 1029, 1030, 1031, 1032, 1033, 1034, 1035, 1036, 1037, 1038, 1062, 1063, 1044, 1045, 1046, 1057, 1058, 1059, 1060, 1061, 1064, 1065, 1066, 1067, 1068, 1069, 1070, 1071, 1072, 1049, 1050, 1051, 1052, 1053, 1054, 1055, 1056, 1047, 1048, 1039, 1040, 1041, 1042, 1043] rfl (by decide +kernel)) (goodIn_sub (fun _ h => List.mem_append_left _ (List.mem_append_right _ h)) (by decide +kernel))
set_option maxRecDepth 20000 in
theorem gL_law_L_run : GoodIn wsL_law (va_wsS RL 40 yL_run wsL_run) := goodIn_app (goodIn_of _ (by decide +kernel)) ggL_law_L_run
set_option maxRecDepth 20000 in
theorem ggL_law_X12_run : GoodIn wsL_law wsX12_run := goodIn_r _ [723, 214, 724, 725, 726, 727, 728, 729, 730, 189, 215, 731, 732, 733, 734, 5, 735, 736, 737, 738, 739, 740, 741, 742, 743, 744, 745, 746, 747, 748, 184, 749, 750, 751, 752, 753, 754, 755, 756, 142, 183, 757, 758, 759, 760, 196, 198, 197, 761, 762, 763, 764, 195, 765, 766, 767, 768, 191, 769, 770, 771, 772, 186, 773, 190, 187, 774, 775, 776, 777, 778, 779, 780, 781, 782, 783, 784, 785, 786, 787, 788, 789, 790, 791, 792, 793, 794, 795, 796, 797, 193, 192, 194, 798, 799, 800, 801, 188, 802, 803, 804, 805, 806, 807, 808, 809, 810, 811, 812, 813, 814, 815, 816, 817, 818, 819, 820, 821, 822, 823, 824, 825, 826, 827, 828, 829, 830, 831, 832, 833, 834, 835, 836, 837, 838, 839, 840, 841, 842, 843, 844, 845, 846, 847, 848, 849, 850, 851, 852, 853, 854, 855, 856, 857, 858, 859, 860, 185, 861, 862, 863, 864, 865, 866, 867, 868, 869, 870, 871, 872, 873, 874, 875, 876, 877, 878, 879, 880, 881, 882, 883, 884, 200, 885, 886, 887, 888, 889, 890, 891, 199, 892, 893, 894, 895, 896, 897, 898, 899, 900, 901, 902, 903, 904, 905, 906, 907, 908, 909, 910, 911, 912, 913, 914, 915, 916, 917, 918, 985, 986, 987, 988, 989, 990, 991, 992, 993, 994, 995, 996, 997, 998, 999, 1000, 1001, 1002, 1003, 1004, 1005, 1006, 1007, 1008, 1009, 1010, 1011, 1012, 1013, 1014, 1015, 1016, 1017, 1018, 1019, 1020, 1021, 1022, 1023, 1024] rfl (by decide +kernel)
set_option maxRecDepth 20000 in
theorem gL_law_X12_run : GoodIn wsL_law (wsV RL 45 RX12 yX12_run wsX12_run) := goodIn_app (goodIn_of _ (by decide +kernel)) ggL_law_X12_run
set_option maxRecDepth 20000 in
theorem ggL_law_X12_thrown : GoodIn wsL_law wsX12_thrown := goodIn_r _ [922, 214, 985, 986, 987, 988, 989, 990, 991, 992, 993, 994, 995, 996, 997, 998, 999, 1000, 1001, 1002, 1003, 1004, 1005, 1006, 1007, 1008, 1009, 1010, 1011, 1012, 1013, 1014, 1015, 1016, 1017, 1018, 1019, 1020, 1021, 1022, 1023, 1024] rfl (by decide +kernel)
set_option maxRecDepth 20000 in
theorem gL_law_X12_thrown : GoodIn wsL_law (wsV RL 46 RX12 yX12_thrown wsX12_thrown) := goodIn_app (goodIn_of _ (by decide +kernel)) ggL_law_X12_thrown
set_option maxRecDepth 20000 in
theorem ggL_law_L_output : GoodIn wsL_law wsL_output := goodIn_ca (goodIn_r _ [925, 926, 927, 928, 929, 2, 930, 931, 932, 16, 984, 1025, 1026, 1027, 1028, 1029, 1030, 1031, 1032, 1033, 1034, 1035, 1036, 1037, 1038, 1062, 1063] rfl (by decide +kernel)) (goodIn_sub (fun _ h => List.mem_append_right _ h) (by decide +kernel))
set_option maxRecDepth 20000 in
theorem gL_law_L_output : GoodIn wsL_law (va_wsS RL 50 yL_output wsL_output) := goodIn_app (goodIn_of _ (by decide +kernel)) ggL_law_L_output
set_option maxRecDepth 20000 in
theorem ggL_law_X12_output : GoodIn wsL_law wsX12_output := goodIn_r _ [936, 727, 185, 937, 938, 939, 5, 940, 214, 985, 986, 987, 988, 989, 990, 991, 992, 993, 994, 995, 996, 997, 998, 999, 1000, 1001, 1002, 1003, 1004, 1005, 1006, 1007, 1008, 1009, 1010, 1011, 1012, 1013, 1014, 1015, 1016, 1017, 1018, 1019, 1020, 1021, 1022, 1023, 1024] rfl (by decide +kernel)
set_option maxRecDepth 20000 in
theorem gL_law_X12_output : GoodIn wsL_law (wsV RL 52 RX12 yX12_output wsX12_output) := goodIn_app (goodIn_of _ (by decide +kernel)) ggL_law_X12_output
set_option maxRecDepth 20000 in
theorem ggL_law_L_stack : GoodIn wsL_law wsL_stack := goodIn_ca (goodIn_r _ [943, 926, 944, 945, 946, 2, 947, 931, 932, 16, 984, 1025, 1026, 1027, 1028, 1029, 1030, 1031, 1032, 1033, 1034, 1035, 1036, 1037, 1038, 1044, 1045, 1046] rfl (by decide +kernel)) (goodIn_sub (fun _ h => List.mem_append_right _ h) (by decide +kernel))
set_option maxRecDepth 20000 in
theorem gL_law_L_stack : GoodIn wsL_law (va_wsS RL 53 yL_stack wsL_stack) := goodIn_app (goodIn_of _ (by decide +kernel)) ggL_law_L_stack
set_option maxRecDepth 20000 in
theorem ggL_law_X12_stack : GoodIn wsL_law wsX12_stack := goodIn_r _ [951, 739, 186, 937, 938, 939, 5, 940, 214, 985, 986, 987, 988, 989, 990, 991, 992, 993, 994, 995, 996, 997, 998, 999, 1000, 1001, 1002, 1003, 1004, 1005, 1006, 1007, 1008, 1009, 1010, 1011, 1012, 1013, 1014, 1015, 1016, 1017, 1018, 1019, 1020, 1021, 1022, 1023, 1024] rfl (by decide +kernel)
set_option maxRecDepth 20000 in
theorem gL_law_X12_stack : GoodIn wsL_law (wsV RL 55 RX12 yX12_stack wsX12_stack) := goodIn_app (goodIn_of _ (by decide +kernel)) ggL_law_X12_stack
set_option maxRecDepth 20000 in
theorem ggL_law_L_cell : GoodIn wsL_law wsL_cell := goodIn_ca (goodIn_r _ [954, 926, 955, 956, 957, 2, 958, 931, 932, 16, 959, 269, 270, 31, 271, 960, 273, 274, 275, 65, 276, 984, 1025, 1026, 1027, 1028, 1029, 1030, 1031, 1032, 1033, 1034, 1035, 1036, 1037, 1038, 1047, 1048] rfl (by decide +kernel)) (goodIn_sub (fun _ h => List.mem_append_right _ h) (by decide +kernel))
set_option maxRecDepth 20000 in
theorem gL_law_L_cell : GoodIn wsL_law (va_wsS RL 56 yL_cell wsL_cell) := goodIn_app (goodIn_of _ (by decide +kernel)) ggL_law_L_cell
set_option maxRecDepth 20000 in
theorem ggL_law_X12_cell : GoodIn wsL_law wsX12_cell := goodIn_r _ [964, 191, 937, 938, 939, 5, 940, 214, 985, 986, 987, 988, 989, 990, 991, 992, 993, 994, 995, 996, 997, 998, 999, 1000, 1001, 1002, 1003, 1004, 1005, 1006, 1007, 1008, 1009, 1010, 1011, 1012, 1013, 1014, 1015, 1016, 1017, 1018, 1019, 1020, 1021, 1022, 1023, 1024] rfl (by decide +kernel)
set_option maxRecDepth 20000 in
theorem gL_law_X12_cell : GoodIn wsL_law (wsV RL 58 RX12 yX12_cell wsX12_cell) := goodIn_app (goodIn_of _ (by decide +kernel)) ggL_law_X12_cell
set_option maxRecDepth 20000 in
theorem ggL_law_L_word : GoodIn wsL_law wsL_word := goodIn_ca (goodIn_ca (goodIn_r _ [967, 926, 968, 969, 970, 2, 971, 931, 932, 225, 226, 16, 984, 1025, 1026, 1027, 1028, 1029, 1030, 1031, 1032, 1033, 1034, 1035, 1036, 1037, 1038, 1049, 1050, 1051, 1052, 1053, 1054, 1055, 1056] rfl (by decide +kernel)) (goodIn_sub (fun _ h => List.mem_append_right _ h) (by decide +kernel))) (goodIn_sub (fun _ h => List.mem_append_left _ (List.mem_append_right _ h)) (by decide +kernel))
set_option maxRecDepth 20000 in
theorem gL_law_L_word : GoodIn wsL_law (va_wsS RL 59 yL_word wsL_word) := goodIn_app (goodIn_of _ (by decide +kernel)) ggL_law_L_word
set_option maxRecDepth 20000 in
theorem ggL_law_X12_word : GoodIn wsL_law wsX12_word := goodIn_r _ [975, 753, 214, 192, 193, 195, 194, 196, 985, 986, 987, 988, 989, 990, 991, 992, 993, 994, 995, 996, 997, 998, 999, 1000, 1001, 1002, 1003, 1004, 1005, 1006, 1007, 1008, 1009, 1010, 1011, 1012, 1013, 1014, 1015, 1016, 1017, 1018, 1019, 1020, 1021, 1022, 1023, 1024] rfl (by decide +kernel)
set_option maxRecDepth 20000 in
theorem gL_law_X12_word : GoodIn wsL_law (wsV RL 62 RX12 yX12_word wsX12_word) := goodIn_app (goodIn_of _ (by decide +kernel)) ggL_law_X12_word
set_option maxRecDepth 20000 in
theorem ggL_law_X11_count : GoodIn wsL_law wsX11_count := goodIn_r _ [979, 16, 984, 1025, 1026, 1027, 1028, 1029, 1030, 1031, 1032, 1033, 1034, 1035, 1036, 1037, 1038, 1062, 1063, 1044, 1045, 1046, 1047, 1048, 1049, 1050, 1051, 1052, 1053, 1054, 1055, 1056, 1064, 1065, 1066, 1067, 1068, 1069, 1070, 1071, 1072] rfl (by decide +kernel)
set_option maxRecDepth 20000 in
theorem gL_law_X11_count : GoodIn wsL_law (wsV RL 63 RX11 yX11_count wsX11_count) := goodIn_app (goodIn_of _ (by decide +kernel)) ggL_law_X11_count
set_option maxRecDepth 20000 in
theorem ggL_law_X12_count : GoodIn wsL_law wsX12_count := goodIn_r _ [983, 214, 727, 739, 773, 737, 753, 736, 725, 726, 778, 985, 986, 987, 988, 989, 990, 991, 992, 993, 994, 995, 996, 997, 998, 999, 1000, 1001, 1002, 1003, 1004, 1005, 1006, 1007, 1008, 1009, 1010, 1011, 1012, 1013, 1014, 1015, 1016, 1017, 1018, 1019, 1020, 1021, 1022, 1023, 1024] rfl (by decide +kernel)
set_option maxRecDepth 20000 in
theorem gL_law_X12_count : GoodIn wsL_law (wsV RL 66 RX12 yX12_count wsX12_count) := goodIn_app (goodIn_of _ (by decide +kernel)) ggL_law_X12_count
theorem g2L_law_L_word : GoodIn wsL_law (va_wsS RL 59 yL_word wsL_word2) := by
  have h1 := gL_law_L_word
  have h13 : GoodIn wsL_law wsL_run := fun w h => gL_law_L_run w (by unfold va_wsS; exact List.mem_append_right _ h)
  intro w hw
  unfold va_wsS at hw
  rcases List.mem_append.mp hw with hw | hw
  · exact h1 w (by unfold va_wsS; exact List.mem_append_left _ hw)
  · rcases List.mem_cons.mp hw with e | hw
    · exact h1 w (by unfold va_wsS; exact List.mem_append_right _ (by rw [e]; exact List.mem_cons_self))
    · rcases List.mem_cons.mp hw with e | hw
      · exact h13 w (by rw [e]; exact List.mem_of_getElem? (i := 1) rfl)
      · exact h1 w (by unfold va_wsS; exact List.mem_append_right _ (List.mem_cons_of_mem _ hw))
section LAWROW
variable {p : Program} {l : Launch} {e : Env} {R : Room} {s : State} {m : MethodId} {args : Array Value} {below : List Frame} {meth : Method} {c : Code} {H : Heap} {locs : List Loc} {cells slots : Nat} {Q : State → Prop}
variable {pc nL n index maxL : Nat} {ls : Array Slot} {rest st0 As : List Value} {cc bytes : ByteArray} {Ts wy : List Cond} {own : String} {y : MethodName} {ret : Option FieldType} {hh : List (Nat × Nat × Nat × Nat)} {rm : Room} {A0 : Nat → Prop} {D : va_G} {cA : Nat → ClassId} {w0 wc w1 : va_W} {X : State → Prop} {mc ms : Nat}
theorem ch_i {r : Int32} (S : CallFix p m c cc nL s args Ts own) (hM : Met l y wy rm (va_Pc As (PRE D cA wc H.size X)) (cQi D w1 (va_A wc H.size) r) mc ms (va_A wc H.size)) (cw : vx_CSW R s args own index y bytes maxL ret hh wy rm mc ms n) (hn : As.length = n) (hl : ls.size = nL) (hst : st0 = As.reverse ++ rest) (hrm : (rest.map fun v => v.category).sum ≤ 8) (hdg : decode cc pc = .ok (.invokestatic index, 3)) (hcs : cells + mc ≤ R.cells ∧ slots + ms ≤ R.slots)
    (hK : va_K D vwCl (bTY cA) s) (hP : va_P D vwCl w0 H) (hD : va_D A0 w0) (hS : va_S A0 s.heap H locs) (hA : ∀ q, s.heap.size ≤ q → A0 q)
    (isC isR : List Nat) (wn : va_W) (hC : isC.map (fun i => w0[i]?) = wc.map some) (hnd : va_nd isC = true) (hN : isC.map (fun i => wn[i]?) = w1.map some) {wr : va_W} (hR : isR.map (fun i => wn[i]?) = wr.map some) (hR0 : isR.map (fun i => w0[i]?) = wr.map some) (hdis : isR.all (fun k => !isC.contains k) = true) {N : Nat} (hlN : wn.length = N) (hcov : (List.range N).all (fun k => isC.contains k || isR.contains k) = true) (as : List Nat) (ha0 : w0.map (fun q => q.1) = as) (hax : wn.map (fun q => q.1) = as) (hXb : ∀ (a : Array Value) (U : State) (g : JFrame) (mk : MethodId), X U → X (U.calling g mk a)) (hX : ∀ U : State, U.heap = H → s.WarmedH U.vm → X U)
    (kk : ∀ (H1 : Heap) (locs1 : List Loc), va_P D vwCl wn H1 → va_D A0 wn → va_S A0 s.heap H1 locs1 → W p l e R s m args below meth c H1 locs1 (cells + mc) (slots + ms) Q (F0 m (pc + 3) ls (.int r :: rest))) : W p l e R s m args below meth c H locs cells slots Q (F0 m pc ls st0) := by
  have hF := va_free hD hS hA isC hC
  refine va_calli (vx_runSW (As := As) (rest := rest) S hM cw ⟨pre_blind _ hXb, fun U hU hW => pre_at As hK hP hD isC hC hnd hX U hU hW⟩ rfl hn hl hst (lv_room hrm) hdg hcs) hS (fun q _ h => hF q h) hF (fun r0 u t H1 locs1 ht hvm hw hB hz1 hk1 hS1 => ?_)
  cases hw
  rw [ht] at hB
  exact kk H1 locs1 (j_N hP hD isC isR hC hk1 hB hN hR hR0 hdis hlN hcov) (D_fst (hax.trans ha0.symm) hD) hS1
end LAWROW
theorem and7 (x : Int32) : ∃ m, m < 8 ∧ x &&& 7 = nI m := ⟨x.toBitVec.toNat % 2 ^ 3, Nat.mod_lt _ (by decide), Int32.toBitVec_inj.mp (BitVec.eq_of_toNat_eq (by
  show (x.toBitVec &&& 7#32).toNat = (BitVec.ofNat 32 (x.toBitVec.toNat % 2 ^ 3)).toNat
  rw [BitVec.toNat_and, show (7#32).toNat = 2 ^ 3 - 1 from by decide, Nat.and_two_pow_sub_one_eq_mod, BitVec.toNat_ofNat]
  omega))⟩
theorem law_i {L j : Nat} (hL : L ≤ 1536) (hj : 3 * j ≤ L) (h : ¬ (Int32.ofNat L - 3 < nI (3 * j))) : 3 * j + 3 ≤ L := by
  have h' : ¬ (nI L - 3 < nI (3 * j)) := h
  by_cases q : 3 ≤ L
  · rw [show nI L - 3 = nI (L - 3) from nI_subN (b := 3) q] at h'
    exact Nat.not_lt.mp fun z => h' (nI_lt (by omega) (by omega))
  · exfalso
    rcases (show (L = 0 ∧ j = 0) ∨ (L = 1 ∧ j = 0) ∨ (L = 2 ∧ j = 0) by omega) with ⟨rfl, rfl⟩ | ⟨rfl, rfl⟩ | ⟨rfl, rfl⟩ <;> exact h' (by decide)
abbrev wZ (g gm : Nat → Nat) (bo : Nat) (cA : Nat → ClassId) (t : tT) (s : tR) (y : tY) (d : tD) (q : tP) (k : tK) (r : tR) (c : tC) (o : tO) (m : tM) (f : Nat → Int64) (T : mT) (S : mS) (R : mR) (C : mC) (Y : mY) (D : mD) (K : mK) (Q : mP) (O : mO) (M : mM) : va_W := wL g bo cA t s y d q k r c o m f ++ wX gm cA T S R C Y D K Q O M
