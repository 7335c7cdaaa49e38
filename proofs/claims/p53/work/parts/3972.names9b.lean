theorem goodIn_cons {big a : List Cond} {c : Cond} (h : GoodIn big [c]) (ha : GoodIn big a) : GoodIn big (c :: a) := fun w q => (List.mem_cons.mp q).elim (fun e => h w (by rw [e]; exact List.mem_cons_self)) (ha w)
set_option maxHeartbeats 0 in
set_option maxRecDepth 20000 in
theorem ggT_1 : GoodIn wsL_law wsL_thrown_r1 := goodIn_r _ [584, 585, 119, 586, 587, 560, 561, 562, 2, 563, 13, 588, 589, 590, 591, 592, 593, 594, 595, 596, 597, 598, 599, 600] (by decide +kernel) (by decide +kernel)
set_option maxHeartbeats 0 in
set_option maxRecDepth 20000 in
theorem ggT_2 : GoodIn wsL_law wsL_thrown_r2 := goodIn_r _ [601, 12, 602, 54, 603, 604, 189, 605, 606, 411, 412, 413, 414, 415, 416, 417, 345, 346, 347, 348, 47, 367, 342, 343] (by decide +kernel) (by decide +kernel)
set_option maxHeartbeats 0 in
set_option maxRecDepth 20000 in
theorem ggT_3 : GoodIn wsL_law wsL_thrown_r3 := goodIn_r _ [344, 607, 608, 609, 610, 611, 612, 613, 614, 615, 616, 617, 618, 619, 620, 621, 622, 623, 624, 625, 626, 556, 557, 558] (by decide +kernel) (by decide +kernel)
set_option maxHeartbeats 0 in
set_option maxRecDepth 20000 in
theorem ggT_4 : GoodIn wsL_law wsL_thrown_r4 := goodIn_r _ [559, 627, 628, 629, 630, 631, 632, 633, 634, 635, 636, 637, 638, 564, 565, 566, 567, 639, 640, 641, 642, 643, 644, 645] (by decide +kernel) (by decide +kernel)
set_option maxHeartbeats 0 in
set_option maxRecDepth 20000 in
theorem ggT_5 : GoodIn wsL_law wsL_thrown_r5 := goodIn_r _ [646, 511, 512, 513, 514, 27, 515, 516, 517, 26, 518, 492, 493, 494, 495, 73, 500, 501, 502, 503, 647, 648, 649, 473] (by decide +kernel) (by decide +kernel)
set_option maxHeartbeats 0 in
set_option maxRecDepth 20000 in
theorem ggT_6 : GoodIn wsL_law wsL_thrown_r6 := goodIn_r _ [650, 651, 652, 653, 485, 486, 166, 487, 169, 333, 334, 335, 336, 337, 170, 171, 172, 173, 174, 175, 176, 126, 127, 177] (by decide +kernel) (by decide +kernel)
set_option maxHeartbeats 0 in
set_option maxRecDepth 20000 in
theorem ggT_7 : GoodIn wsL_law wsL_thrown_r7 := goodIn_r _ [178, 179, 180, 181, 182, 654, 655, 656, 657, 658, 659, 660, 661, 373, 374, 375, 49, 55, 662, 663, 664, 665, 666, 667] (by decide +kernel) (by decide +kernel)
set_option maxHeartbeats 0 in
set_option maxRecDepth 20000 in
theorem ggT_8 : GoodIn wsL_law wsL_thrown_r8 := goodIn_r _ [668, 669, 670, 671, 672, 673, 674, 675, 478, 479, 480, 481, 482, 483, 484, 488, 489, 490, 491, 496, 497, 498, 499, 76] (by decide +kernel) (by decide +kernel)
set_option maxHeartbeats 0 in
set_option maxRecDepth 20000 in
theorem ggT_9 : GoodIn wsL_law wsL_thrown_r9 := goodIn_r _ [504, 505, 506, 507, 508, 509, 510, 676, 677, 678, 456, 679, 680, 681, 682, 461, 462, 683, 684, 685, 686, 687, 688, 689] (by decide +kernel) (by decide +kernel)
set_option maxHeartbeats 0 in
set_option maxRecDepth 20000 in
theorem ggT_10 : GoodIn wsL_law wsL_thrown_r10 := goodIn_r _ [690, 691, 692, 693, 694, 48, 695, 696, 697, 698, 699, 700, 701, 702, 703, 704, 360, 361, 362, 322, 363, 364, 365, 366] (by decide +kernel) (by decide +kernel)
set_option maxHeartbeats 0 in
set_option maxRecDepth 20000 in
theorem ggT_11 : GoodIn wsL_law wsL_thrown_r11 := goodIn_r _ [368, 369, 370, 371, 372, 705, 706, 707, 708, 709, 710, 711, 712, 39, 713, 714, 715, 38, 716, 717, 718, 719, 720, 102] (by decide +kernel) (by decide +kernel)
set_option maxHeartbeats 0 in
set_option maxRecDepth 20000 in
theorem ggT_12 : GoodIn wsL_law wsL_thrown_r12 := goodIn_r _ [721, 722, 723, 724, 725, 107, 726, 727, 728, 729, 730, 731, 108, 732, 733, 734, 735, 736, 737, 738, 739, 740, 741, 742] (by decide +kernel) (by decide +kernel)
set_option maxHeartbeats 0 in
set_option maxRecDepth 20000 in
theorem ggT_13 : GoodIn wsL_law wsL_thrown_r13 := goodIn_r _ [227, 228, 743, 744, 745, 746, 747, 748, 443, 749, 750, 751, 752, 753, 754, 755, 106, 756, 188, 190, 757, 137, 138, 139] (by decide +kernel) (by decide +kernel)
set_option maxHeartbeats 0 in
set_option maxRecDepth 20000 in
theorem ggT_14 : GoodIn wsL_law wsL_thrown_r14 := goodIn_r _ [758, 759, 760, 761, 762, 105, 763, 764, 255, 765, 766, 767, 768, 769, 770, 771, 772, 37, 773, 774, 775, 776, 777, 111] (by decide +kernel) (by decide +kernel)
set_option maxHeartbeats 0 in
set_option maxRecDepth 20000 in
theorem ggT_15 : GoodIn wsL_law wsL_thrown_r15 := goodIn_r _ [778, 779, 780, 781, 782, 783, 784, 785, 786, 787, 788, 789, 790, 791, 792, 793, 794, 795, 796, 797, 798, 278, 799, 800] (by decide +kernel) (by decide +kernel)
set_option maxHeartbeats 0 in
set_option maxRecDepth 20000 in
theorem ggT_16 : GoodIn wsL_law wsL_thrown_r16 := goodIn_r _ [801, 271, 272, 273, 802, 803, 236, 804, 260, 805, 806, 263, 807, 808, 809, 810, 811, 812, 813, 814, 815, 279, 280, 816] (by decide +kernel) (by decide +kernel)
set_option maxHeartbeats 0 in
set_option maxRecDepth 20000 in
theorem ggT_17 : GoodIn wsL_law wsL_thrown_r17 := goodIn_r _ [817, 818, 819, 820, 821, 822, 823, 824, 825, 826, 827, 828, 829, 830, 831, 109, 110, 112, 113, 114, 115, 116, 832, 833] (by decide +kernel) (by decide +kernel)
set_option maxHeartbeats 0 in
set_option maxRecDepth 20000 in
theorem ggT_18 : GoodIn wsL_law wsL_thrown_r18 := goodIn_r _ [834, 835, 836, 837, 838, 839, 840, 841, 842, 843, 844, 845, 846, 847, 848, 849, 268, 269, 270, 274, 258, 259, 261, 262] (by decide +kernel) (by decide +kernel)
set_option maxHeartbeats 0 in
set_option maxRecDepth 20000 in
theorem ggT_19 : GoodIn wsL_law wsL_thrown_r19 := goodIn_r _ [264, 544, 850, 851, 852, 853, 854, 855, 856, 857, 858, 859, 860, 861, 862, 863, 864, 865, 866, 867, 868, 869, 870, 871] (by decide +kernel) (by decide +kernel)
set_option maxHeartbeats 0 in
set_option maxRecDepth 20000 in
theorem ggT_20 : GoodIn wsL_law wsL_thrown_r20 := goodIn_r _ [872, 873, 874, 875, 276, 277, 876, 877, 878, 879, 880, 881, 882, 883, 884, 885, 886, 887, 888, 889, 890, 891, 892, 893] (by decide +kernel) (by decide +kernel)
set_option maxHeartbeats 0 in
set_option maxRecDepth 20000 in
theorem ggT_21 : GoodIn wsL_law wsL_thrown_r21 := goodIn_r _ [897, 898, 899, 900, 31, 463, 464, 465, 121, 466, 467, 468, 469, 319, 320, 321, 183, 184, 185, 30, 186, 83, 84, 85] (by decide +kernel) (by decide +kernel)
set_option maxHeartbeats 0 in
set_option maxRecDepth 20000 in
theorem ggT_22 : GoodIn wsL_law wsL_thrown_r22 := goodIn_r _ [187, 132, 133, 134, 135, 136, 50, 51, 53, 56, 57, 380, 381, 382, 383, 470, 471, 472, 474, 475, 476, 477, 323, 324] (by decide +kernel) (by decide +kernel)
set_option maxHeartbeats 0 in
set_option maxRecDepth 20000 in
theorem ggT_23 : GoodIn wsL_law wsL_thrown_r23 := goodIn_r _ [325, 326, 327, 328, 329, 168, 330, 331, 332, 338, 339, 340, 341, 384, 385, 386, 387, 901, 902, 903, 904, 905, 906, 907] (by decide +kernel) (by decide +kernel)
set_option maxHeartbeats 0 in
set_option maxRecDepth 20000 in
theorem ggT_24 : GoodIn wsL_law wsL_thrown_r24 := goodIn_r _ [349, 350, 351, 352, 388, 389, 390, 391, 392, 908, 909, 910, 911, 912, 913, 914, 353, 393, 394, 395, 396, 397, 915, 916] (by decide +kernel) (by decide +kernel)
set_option maxHeartbeats 0 in
set_option maxRecDepth 20000 in
theorem ggT_25 : GoodIn wsL_law wsL_thrown_r25 := goodIn_r _ [917, 918, 919, 920, 921, 354, 355, 356, 398, 399, 400, 401, 577, 578, 579, 580, 581, 582, 583, 357, 358, 359, 428, 429] (by decide +kernel) (by decide +kernel)
set_option maxHeartbeats 0 in
set_option maxRecDepth 20000 in
theorem ggT_26 : GoodIn wsL_law wsL_thrown_r26 := goodIn_r _ [430, 431, 922, 923, 924, 925, 926, 927, 928, 929, 930, 931, 932, 933, 934, 935, 156, 157, 158, 159, 160, 161, 162, 163] (by decide +kernel) (by decide +kernel)
set_option maxHeartbeats 0 in
set_option maxRecDepth 20000 in
theorem ggT_27 : GoodIn wsL_law wsL_thrown_r27 := goodIn_r _ [164, 165, 167, 191, 192, 193, 194, 519, 520, 521, 522, 523, 524, 525, 23, 432, 433, 434, 22, 435, 68, 436, 437, 438] (by decide +kernel) (by decide +kernel)
set_option maxHeartbeats 0 in
set_option maxRecDepth 20000 in
theorem ggT_28 : GoodIn wsL_law wsL_thrown_r28 := goodIn_r _ [439, 440, 69, 441, 442, 444, 445, 446, 447, 448, 449, 450, 451, 452, 419, 420, 421, 936, 937, 938, 939, 940, 941, 942] (by decide +kernel) (by decide +kernel)
set_option maxHeartbeats 0 in
set_option maxRecDepth 20000 in
theorem ggT_29 : GoodIn wsL_law wsL_thrown_r29 := goodIn_r _ [943, 545, 546, 547, 548, 549, 550, 551, 537, 538, 539, 540, 541, 542, 543, 526, 527, 528, 529, 530, 531, 532, 944, 945] (by decide +kernel) (by decide +kernel)
set_option maxHeartbeats 0 in
set_option maxRecDepth 20000 in
theorem ggT_30 : GoodIn wsL_law wsL_thrown_r30 := goodIn_r _ [946, 947, 948, 949, 950, 951, 952, 953, 954, 955, 956, 957, 958, 959, 960, 961, 962, 963, 964, 965, 966, 967, 968, 969] (by decide +kernel) (by decide +kernel)
set_option maxHeartbeats 0 in
set_option maxRecDepth 20000 in
theorem ggT_31 : GoodIn wsL_law wsL_thrown_r31 := goodIn_r _ [970, 77, 971, 972, 973, 974, 975, 976, 977, 978, 979, 980, 981, 982, 983, 984, 985, 986, 987, 988, 989, 990, 991, 992] (by decide +kernel) (by decide +kernel)
set_option maxHeartbeats 0 in
set_option maxRecDepth 20000 in
theorem ggT_32 : GoodIn wsL_law wsL_thrown_r32 := goodIn_r _ [993, 994, 995, 996, 997, 998, 999, 1000, 552, 553, 554, 555, 1001, 1002, 1003, 1004, 234, 235, 237, 238, 239, 240, 241, 242] (by decide +kernel) (by decide +kernel)
set_option maxHeartbeats 0 in
set_option maxRecDepth 20000 in
theorem ggT_33 : GoodIn wsL_law wsL_thrown_r33 := goodIn_r _ [243, 244, 1005, 246, 247, 248, 249, 250, 251, 252, 253, 254, 256, 257, 265, 266, 267, 275, 195, 196, 197, 198, 199, 200] (by decide +kernel) (by decide +kernel)
set_option maxHeartbeats 0 in
set_option maxRecDepth 20000 in
theorem ggT_34 : GoodIn wsL_law wsL_thrown_r34 := goodIn_r _ [201, 35, 202, 203, 204, 34, 205, 92, 206, 207, 208, 209, 90, 210, 211, 212, 213, 214, 215, 216, 41, 14, 42, 217] (by decide +kernel) (by decide +kernel)
set_option maxHeartbeats 0 in
set_option maxRecDepth 20000 in
theorem ggT_35 : GoodIn wsL_law wsL_thrown_r35 := goodIn_r _ [218, 219, 220, 94, 96, 221, 222, 223, 224, 225, 95, 226, 229, 230, 231, 232, 93, 233, 245, 281, 282, 283, 284, 285] (by decide +kernel) (by decide +kernel)
set_option maxHeartbeats 0 in
set_option maxRecDepth 20000 in
theorem ggT_36 : GoodIn wsL_law wsL_thrown_r36 := goodIn_r _ [286, 287, 288, 289, 290, 291, 292, 91, 293, 294, 295, 296, 147, 297, 298, 299, 300, 301, 302, 303, 304, 305, 306, 307] (by decide +kernel) (by decide +kernel)
set_option maxHeartbeats 0 in
set_option maxRecDepth 20000 in
theorem ggT_37 : GoodIn wsL_law wsL_thrown_r37 := goodIn_r _ [308, 309, 310, 311, 312, 313, 314, 315, 316, 317, 318, 376, 377, 378, 379, 19, 402, 403, 404, 18, 405, 62, 63, 64] (by decide +kernel) (by decide +kernel)
set_option maxHeartbeats 0 in
set_option maxRecDepth 20000 in
theorem ggT_38 : GoodIn wsL_law wsL_thrown_r38 := goodIn_r _ [406, 407, 408, 409, 61, 410, 418, 422, 423, 424, 425, 426, 427, 453, 454, 455, 457, 458, 459, 460, 1006, 1007, 1008, 1009] (by decide +kernel) (by decide +kernel)
set_option maxHeartbeats 0 in
set_option maxRecDepth 20000 in
theorem ggT_39 : GoodIn wsL_law wsL_thrown_r39 := goodIn_r _ [1010, 1011, 1012] (by decide +kernel) (by decide +kernel)
set_option maxHeartbeats 0 in
set_option maxRecDepth 20000 in
theorem ggT_wsX100 : GoodIn wsL_law wsX100 := goodIn_r _ [1095, 1096, 1097, 1098, 1099, 1100, 1101, 1102, 1103, 1104, 1105, 1106] (by decide +kernel) (by decide +kernel)
set_option maxHeartbeats 0 in
set_option maxRecDepth 20000 in
theorem ggT_wsX50 : GoodIn wsL_law wsX50 := goodIn_r _ [1107, 1108, 1109, 1110, 1111, 1112, 1113, 1114, 1115, 1116] (by decide +kernel) (by decide +kernel)
set_option maxHeartbeats 0 in
set_option maxRecDepth 20000 in
theorem ggT_wsX60 : GoodIn wsL_law wsX60 := goodIn_r _ [1123, 1124, 1125, 1126, 1127] (by decide +kernel) (by decide +kernel)
set_option maxHeartbeats 0 in
set_option maxRecDepth 20000 in
theorem ggT_wsJx7c7330 : GoodIn wsL_law wsJx7c7330 := goodIn_r _ [1146, 1147, 1148, 1149, 1150, 1151] (by decide +kernel) (by decide +kernel)
set_option maxHeartbeats 0 in
set_option maxRecDepth 20000 in
theorem ggT_wsJ40 : GoodIn wsL_law wsJ40 := goodIn_r _ [1138, 1139, 1140, 1141] (by decide +kernel) (by decide +kernel)
set_option maxHeartbeats 0 in
set_option maxRecDepth 20000 in
theorem ggT_wsJx000600 : GoodIn wsL_law wsJx000600 := goodIn_r _ [1152, 1153, 1154, 1155, 1156, 1157] (by decide +kernel) (by decide +kernel)
set_option maxHeartbeats 0 in
set_option maxRecDepth 20000 in
theorem ggT_wsX40 : GoodIn wsL_law wsX40 := goodIn_r _ [1128, 1129, 1130] (by decide +kernel) (by decide +kernel)
set_option maxHeartbeats 0 in
set_option maxRecDepth 20000 in
theorem ggT_wsX70 : GoodIn wsL_law wsX70 := goodIn_r _ [1121, 1122] (by decide +kernel) (by decide +kernel)
set_option maxHeartbeats 0 in
set_option maxRecDepth 20000 in
theorem ggT_wsJ00 : GoodIn wsL_law wsJ00 := goodIn_r _ [1142, 1143, 1144, 1145] (by decide +kernel) (by decide +kernel)
set_option maxHeartbeats 0 in
set_option maxRecDepth 20000 in
theorem ggT_wsX30 : GoodIn wsL_law wsX30 := goodIn_r _ [1131, 1132, 1133, 1134, 1135, 1136, 1137] (by decide +kernel) (by decide +kernel)
set_option maxHeartbeats 0 in
set_option maxRecDepth 20000 in
theorem ggT_wsX10 : GoodIn wsL_law wsX10 := goodIn_r _ [1117, 1118, 1119, 1120] (by decide +kernel) (by decide +kernel)
set_option maxRecDepth 20000 in
theorem ggT_c : Cond.code yL_thrown cL_thrown 10 (some .boolean) ∈ wsL_law := by
  unfold wsL_law wsL_law0
  iterate 20 refine List.mem_append_left _ ?_
  iterate 37 refine List.mem_append_right _ ?_
  refine List.mem_append_left _ ?_
  exact List.mem_of_getElem? (i := 8) rfl
set_option maxRecDepth 20000 in
theorem ggT_0 : GoodIn wsL_law [Cond.code yL_thrown cL_thrown 10 (some .boolean)] := goodIn_sub (fun w h => (List.mem_singleton.mp h) ▸ ggT_c) (by decide +kernel)
set_option maxHeartbeats 0 in
set_option maxRecDepth 20000 in
theorem ggL_law_L_thrown : GoodIn wsL_law wsL_thrown := goodIn_ca (goodIn_ca (goodIn_ca (goodIn_ca (goodIn_ca (goodIn_ca (goodIn_ca (goodIn_ca (goodIn_cons ggT_0 (goodIn_app (goodIn_app (goodIn_app (goodIn_app (goodIn_app (goodIn_app (goodIn_app (goodIn_app (goodIn_app (goodIn_app (goodIn_app (goodIn_app ggT_1 (goodIn_app ggT_2 (goodIn_app ggT_3 (goodIn_app ggT_4 (goodIn_app ggT_5 (goodIn_app ggT_6 (goodIn_app ggT_7 (goodIn_app ggT_8 (goodIn_app ggT_9 (goodIn_app ggT_10 (goodIn_app ggT_11 (goodIn_app ggT_12 (goodIn_app ggT_13 (goodIn_app ggT_14 (goodIn_app ggT_15 (goodIn_app ggT_16 (goodIn_app ggT_17 (goodIn_app ggT_18 (goodIn_app ggT_19 (goodIn_app ggT_20 (goodIn_app ggT_21 (goodIn_app ggT_22 (goodIn_app ggT_23 (goodIn_app ggT_24 (goodIn_app ggT_25 (goodIn_app ggT_26 (goodIn_app ggT_27 (goodIn_app ggT_28 (goodIn_app ggT_29 (goodIn_app ggT_30 (goodIn_app ggT_31 (goodIn_app ggT_32 (goodIn_app ggT_33 (goodIn_app ggT_34 (goodIn_app ggT_35 (goodIn_app ggT_36 (goodIn_app ggT_37 (goodIn_app ggT_38 ggT_39)))))))))))))))))))))))))))))))))))))) ggT_wsX100) ggT_wsX50) ggT_wsX60) ggT_wsJx7c7330) ggT_wsJ40) ggT_wsJx000600) ggT_wsX40) ggT_wsX70) ggT_wsJ00) ggT_wsX30) ggT_wsX10)) (goodIn_sub (fun _ h => List.mem_append_left _ (List.mem_append_left _ (List.mem_append_right _ h))) (by decide +kernel))) (goodIn_sub (fun _ h => List.mem_append_right _ h) (by decide +kernel))) (goodIn_sub (fun _ h => List.mem_append_left _ (List.mem_append_left _ (List.mem_append_left _ (List.mem_append_left _ (List.mem_append_left _ (List.mem_append_left _ (List.mem_append_right _ h))))))) (by decide +kernel))) (goodIn_sub (fun _ h => List.mem_append_left _ (List.mem_append_left _ (List.mem_append_left _ (List.mem_append_left _ (List.mem_append_left _ (List.mem_append_right _ h)))))) (by decide +kernel))) (goodIn_sub (fun _ h => List.mem_append_left _ (List.mem_append_left _ (List.mem_append_left _ (List.mem_append_left _ (List.mem_append_right _ h))))) (by decide +kernel))) (goodIn_sub (fun _ h => List.mem_append_left _ (List.mem_append_left _ (List.mem_append_left _ (List.mem_append_left _ (List.mem_append_left _ (List.mem_append_left _ (List.mem_append_left _ (List.mem_append_right _ h)))))))) (by decide +kernel))) (goodIn_sub (fun _ h => List.mem_append_left _ (List.mem_append_left _ (List.mem_append_left _ (List.mem_append_right _ h)))) (by decide +kernel))) (goodIn_sub (fun _ h => List.mem_append_left _ (List.mem_append_right _ h)) (by decide +kernel))
set_option maxRecDepth 20000 in
theorem gL_law_L_thrown : GoodIn wsL_law (va_wsS RL 331 yL_thrown wsL_thrown) := goodIn_app (goodIn_of _ (by decide +kernel)) ggL_law_L_thrown
