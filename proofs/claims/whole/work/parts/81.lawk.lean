-- the words of the law's start, by their places in the tables
theorem lw_mem {ws big : List Cond} (ps : List Nat) (hp : ws = ps.filterMap (fun i => big[i]?)) : ∀ w ∈ ws, w ∈ big := by
  intro w hw
  rw [hp] at hw
  obtain ⟨i, -, hi⟩ := List.mem_filterMap.mp hw
  first | exact List.mem_of_getElem? hi | exact List.getElem?_mem hi
set_option maxRecDepth 100000 in
theorem lw_s_wsL_law_r1 : ∀ w ∈ wsL_law_r1, w ∈ lw_tbl := lw_mem [60, 61, 47, 800, 801, 57, 62, 63, 64, 65, 66, 67, 68, 69, 48, 289, 133, 134, 51, 290, 150, 151, 52, 291] (by decide +kernel)
set_option maxRecDepth 100000 in
theorem lw_s_wsL_law_r2 : ∀ w ∈ wsL_law_r2, w ∈ lw_tbl := lw_mem [183, 184, 53, 292, 198, 199, 54, 293, 217, 218, 55, 294, 245, 246, 56, 295, 71, 72, 73, 74, 75, 49, 115, 119] (by decide +kernel)
set_option maxRecDepth 100000 in
theorem lw_s_wsL_law_r3 : ∀ w ∈ wsL_law_r3, w ∈ lw_tbl := lw_mem [96, 97, 50, 123, 77, 78, 79, 95, 80, 81, 82, 99, 100, 101, 102, 103, 135, 136, 137, 138, 139, 142, 153, 154] (by decide +kernel)
set_option maxRecDepth 100000 in
theorem lw_s_wsL_law_r4 : ∀ w ∈ wsL_law_r4, w ∈ lw_tbl := lw_mem [155, 182, 156, 186, 187, 188, 201, 202, 203, 204, 206, 220, 221, 222, 248, 249, 250, 251, 252, 253, 255, 257, 258, 259] (by decide +kernel)
set_option maxRecDepth 100000 in
theorem lw_s_wsL_law_r5 : ∀ w ∈ wsL_law_r5, w ∈ lw_tbl := lw_mem [260, 802, 803, 804, 805, 806, 807, 810, 817, 818, 821, 822, 823, 825, 826, 827, 828, 311, 312, 313, 314, 315, 316, 317] (by decide +kernel)
set_option maxRecDepth 100000 in
theorem lw_s_wsL_law_r6 : ∀ w ∈ wsL_law_r6, w ∈ lw_tbl := lw_mem [318, 319, 320, 321, 322, 323, 324, 325, 326, 327, 328, 84, 329, 330, 331, 332, 333, 334, 335, 336, 338, 339, 340, 341] (by decide +kernel)
set_option maxRecDepth 100000 in
theorem lw_s_wsL_law_r7 : ∀ w ∈ wsL_law_r7, w ∈ lw_tbl := lw_mem [342, 343, 143, 344, 346, 0, 347, 348, 349, 350, 351, 352, 353, 354, 355, 357, 358, 359, 360, 58, 361, 362, 364, 363] (by decide +kernel)
set_option maxRecDepth 100000 in
theorem lw_s_wsL_law_r8 : ∀ w ∈ wsL_law_r8, w ∈ lw_tbl := lw_mem [59, 365, 366, 367, 368, 104, 370, 371, 372, 373, 375, 376, 377, 378, 379, 380, 381, 382, 383, 384, 385, 386, 387, 388] (by decide +kernel)
set_option maxRecDepth 100000 in
theorem lw_s_wsL_law_r9 : ∀ w ∈ wsL_law_r9, w ∈ lw_tbl := lw_mem [389, 390, 391, 392, 880, 881, 882, 883, 884, 885, 886, 887, 888, 889, 890, 892, 15, 893, 894, 896, 16, 897, 808, 898] (by decide +kernel)
set_option maxRecDepth 100000 in
theorem lw_s_wsL_law_r10 : ∀ w ∈ wsL_law_r10, w ∈ lw_tbl := lw_mem [900, 17, 901, 902, 904, 18, 905, 393, 394, 395, 396, 397, 399, 1, 400, 401, 402, 403, 404, 405, 406, 906, 907, 908] (by decide +kernel)
set_option maxRecDepth 100000 in
theorem lw_s_wsL_law_r11 : ∀ w ∈ wsL_law_r11, w ∈ lw_tbl := lw_mem [909, 910, 912, 19, 913, 407, 408, 409, 410, 411, 412, 413, 414, 415, 416, 417, 418, 419, 421, 422, 423, 424, 425, 426] (by decide +kernel)
set_option maxRecDepth 100000 in
theorem lw_s_wsL_law_r12 : ∀ w ∈ wsL_law_r12, w ∈ lw_tbl := lw_mem [427, 428, 430, 431, 432, 433, 434, 435, 436, 437, 438, 439, 445, 440, 441, 442, 443, 444, 914, 915, 916, 917, 918, 920] (by decide +kernel)
set_option maxRecDepth 100000 in
theorem lw_s_wsL_law_r13 : ∀ w ∈ wsL_law_r13, w ∈ lw_tbl := lw_mem [20, 921, 922, 924, 21, 925, 926, 928, 22, 929, 930, 932, 23, 933, 934, 936, 24, 937, 447, 448, 449, 450, 451, 452] (by decide +kernel)
set_option maxRecDepth 100000 in
theorem lw_s_wsL_law_r14 : ∀ w ∈ wsL_law_r14, w ∈ lw_tbl := lw_mem [453, 454, 455, 938, 939, 940, 941, 456, 457, 458, 459, 460, 942, 943, 944, 945, 946, 948, 25, 949, 461, 462, 463, 464] (by decide +kernel)
set_option maxRecDepth 100000 in
theorem lw_s_wsL_law_r15 : ∀ w ∈ wsL_law_r15, w ∈ lw_tbl := lw_mem [465, 466, 467, 468, 469, 950, 951, 952, 953, 471, 472, 473, 474, 475, 476, 477, 478, 208, 209, 479, 480, 481, 482, 161] (by decide +kernel)
set_option maxRecDepth 100000 in
theorem lw_s_wsL_law_r16 : ∀ w ∈ wsL_law_r16, w ∈ lw_tbl := lw_mem [164, 167, 168, 483, 484, 485, 486, 487, 489, 2, 490, 491, 492, 493, 494, 495, 497, 3, 498, 499, 501, 4, 502, 157] (by decide +kernel)
set_option maxRecDepth 100000 in
theorem lw_s_wsL_law_r17 : ∀ w ∈ wsL_law_r17, w ∈ lw_tbl := lw_mem [504, 505, 506, 507, 508, 509, 510, 511, 512, 513, 514, 515, 516, 517, 518, 519, 520, 522, 5, 523, 524, 525, 526, 527] (by decide +kernel)
set_option maxRecDepth 100000 in
theorem lw_s_wsL_law_r18 : ∀ w ∈ wsL_law_r18, w ∈ lw_tbl := lw_mem [528, 530, 6, 531, 532, 534, 7, 535, 536, 537, 538, 539, 540, 541, 542, 543, 544, 545, 546, 547, 548, 974, 975, 976] (by decide +kernel)
set_option maxRecDepth 100000 in
theorem lw_s_wsL_law_r19 : ∀ w ∈ wsL_law_r19, w ∈ lw_tbl := lw_mem [977, 811, 812, 816, 814, 815, 809, 978, 980, 27, 981, 982, 984, 28, 985, 813, 986, 988, 29, 989, 990, 992, 30, 993] (by decide +kernel)
set_option maxRecDepth 100000 in
theorem lw_s_wsL_law_r20 : ∀ w ∈ wsL_law_r20, w ∈ lw_tbl := lw_mem [994, 996, 31, 997, 549, 550, 551, 552, 554, 555, 556, 553, 954, 955, 956, 957, 557, 558, 559, 560, 561, 562, 563, 564] (by decide +kernel)
set_option maxRecDepth 100000 in
theorem lw_s_wsL_law_r21 : ∀ w ∈ wsL_law_r21, w ∈ lw_tbl := lw_mem [565, 566, 567, 568, 569, 570, 571, 572, 958, 959, 960, 961, 962, 964, 26, 965, 573, 574, 575, 576, 577, 578, 579, 580] (by decide +kernel)
set_option maxRecDepth 100000 in
theorem lw_s_wsL_law_r22 : ∀ w ∈ wsL_law_r22, w ∈ lw_tbl := lw_mem [876, 877, 878, 879, 581, 582, 583, 584, 585, 586, 587, 588, 966, 967, 968, 969, 589, 590, 591, 592, 593, 594, 595, 596] (by decide +kernel)
set_option maxRecDepth 100000 in
theorem lw_s_wsL_law_r23 : ∀ w ∈ wsL_law_r23, w ∈ lw_tbl := lw_mem [970, 971, 972, 973, 597, 598, 599, 600, 601, 602, 603, 604, 189, 191, 605, 606, 607, 609, 8, 610, 611, 613, 614, 615] (by decide +kernel)
set_option maxRecDepth 100000 in
theorem lw_s_wsL_law_r24 : ∀ w ∈ wsL_law_r24, w ∈ lw_tbl := lw_mem [617, 9, 618, 619, 620, 621, 622, 623, 624, 625, 626, 628, 629, 630, 631, 632, 633, 635, 10, 636, 637, 638, 639, 640] (by decide +kernel)
set_option maxRecDepth 100000 in
theorem lw_s_wsL_law_r25 : ∀ w ∈ wsL_law_r25, w ∈ lw_tbl := lw_mem [641, 642, 223, 224, 225, 226, 227, 228, 229, 643, 645, 646, 647, 649, 11, 650, 651, 652, 653, 654, 998, 999, 1000, 1001] (by decide +kernel)
set_option maxRecDepth 100000 in
theorem lw_s_wsL_law_r26 : ∀ w ∈ wsL_law_r26, w ∈ lw_tbl := lw_mem [819, 820, 1002, 1004, 32, 1005, 1006, 1008, 33, 1009, 1010, 1012, 34, 1013, 1014, 1016, 35, 1017, 1018, 1020, 36, 1021, 655, 656] (by decide +kernel)
set_option maxRecDepth 100000 in
theorem lw_s_wsL_law_r27 : ∀ w ∈ wsL_law_r27, w ∈ lw_tbl := lw_mem [657, 658, 659, 660, 1022, 1023, 1024, 1025, 661, 662, 663, 664, 665, 666, 667, 668, 669, 670, 671, 672, 1026, 1027, 1028, 1029] (by decide +kernel)
set_option maxRecDepth 100000 in
theorem lw_s_wsL_law_r28 : ∀ w ∈ wsL_law_r28, w ∈ lw_tbl := lw_mem [1030, 1032, 37, 1033, 673, 674, 675, 676, 1034, 1035, 1036, 1037, 677, 678, 679, 680, 681, 682, 683, 684, 685, 261, 686, 688] (by decide +kernel)
set_option maxRecDepth 100000 in
theorem lw_s_wsL_law_r29 : ∀ w ∈ wsL_law_r29, w ∈ lw_tbl := lw_mem [12, 689, 264, 702, 703, 704, 705, 690, 691, 692, 693, 694, 696, 697, 698, 699, 700, 701, 706, 707, 708, 709, 710, 712] (by decide +kernel)
set_option maxRecDepth 100000 in
theorem lw_s_wsL_law_r30 : ∀ w ∈ wsL_law_r30, w ∈ lw_tbl := lw_mem [13, 713, 262, 714, 715, 716, 717, 718, 719, 720, 721, 722, 723, 724, 726, 727, 728, 729, 730, 731, 732, 733, 734, 735] (by decide +kernel)
set_option maxRecDepth 100000 in
theorem lw_s_wsL_law_r31 : ∀ w ∈ wsL_law_r31, w ∈ lw_tbl := lw_mem [736, 737, 738, 739, 740, 741, 742, 743, 744, 745, 746, 747, 748, 749, 750, 751, 1038, 1039, 1040, 1041, 824, 1042, 1044, 38] (by decide +kernel)
set_option maxRecDepth 100000 in
theorem lw_s_wsL_law_r32 : ∀ w ∈ wsL_law_r32, w ∈ lw_tbl := lw_mem [1045, 1046, 1048, 39, 1049, 1050, 1052, 40, 1053, 1054, 1056, 41, 1057, 1058, 1060, 42, 1061, 1062, 1063, 1064, 752, 753, 754, 755] (by decide +kernel)
set_option maxRecDepth 100000 in
theorem lw_s_wsL_law_r33 : ∀ w ∈ wsL_law_r33, w ∈ lw_tbl := lw_mem [756, 757, 758, 759, 760, 761, 1065, 1066, 1067, 1068, 762, 763, 764, 765, 766, 767, 768, 769, 770, 771, 1069, 1070, 1071, 1072] (by decide +kernel)
set_option maxRecDepth 100000 in
theorem lw_s_wsL_law_r34 : ∀ w ∈ wsL_law_r34, w ∈ lw_tbl := lw_mem [772, 773, 774, 775, 776, 777, 778, 779, 780, 782, 14, 783, 784, 785, 786, 787, 788, 789, 790, 1073, 1074, 1075, 1076, 1077] (by decide +kernel)
set_option maxRecDepth 100000 in
theorem lw_s_wsL_law_r35 : ∀ w ∈ wsL_law_r35, w ∈ lw_tbl := lw_mem [1079, 43, 1080, 791, 792, 793, 794, 795, 796, 797, 798, 799, 1081, 1082, 1083, 1084, 1085, 1087, 44, 1088, 1089, 1091, 45, 1092] (by decide +kernel)
set_option maxRecDepth 100000 in
theorem lw_s_wsX90 : ∀ w ∈ wsX90, w ∈ lw_tbl := lw_mem [296, 298, 300, 302, 304, 306, 308] (by decide +kernel)
set_option maxRecDepth 100000 in
theorem lw_s_wsX100 : ∀ w ∈ wsX100, w ∈ lw_tbl := lw_mem [829, 831, 833, 835, 837, 839, 841, 843, 845, 847, 849, 851, 853, 855, 857, 859, 861, 863, 865, 867, 869, 871, 873] (by decide +kernel)
set_option maxRecDepth 100000 in
theorem lw_s_wsX70 : ∀ w ∈ wsX70, w ∈ lw_tbl := lw_mem [126, 128, 130] (by decide +kernel)
set_option maxRecDepth 100000 in
theorem lw_s_wsX20 : ∀ w ∈ wsX20, w ∈ lw_tbl := lw_mem [145, 147] (by decide +kernel)
set_option maxRecDepth 100000 in
theorem lw_s_wsX80 : ∀ w ∈ wsX80, w ∈ lw_tbl := lw_mem [169, 171, 173, 175, 177, 179] (by decide +kernel)
set_option maxRecDepth 100000 in
theorem lw_s_wsX60 : ∀ w ∈ wsX60, w ∈ lw_tbl := lw_mem [193, 195] (by decide +kernel)
set_option maxRecDepth 100000 in
theorem lw_s_wsX40 : ∀ w ∈ wsX40, w ∈ lw_tbl := lw_mem [210, 212, 214] (by decide +kernel)
set_option maxRecDepth 100000 in
theorem lw_s_wsX50 : ∀ w ∈ wsX50, w ∈ lw_tbl := lw_mem [230, 232, 234, 236, 238, 240, 242] (by decide +kernel)
set_option maxRecDepth 100000 in
theorem lw_s_wsX30 : ∀ w ∈ wsX30, w ∈ lw_tbl := lw_mem [266, 268, 270, 272, 274, 276, 278, 280, 282, 284, 286] (by decide +kernel)
set_option maxRecDepth 100000 in
theorem lw_s_wsX00 : ∀ w ∈ wsX00, w ∈ lw_tbl := lw_mem [86, 88, 90, 92] (by decide +kernel)
set_option maxRecDepth 100000 in
theorem lw_s_wsX10 : ∀ w ∈ wsX10, w ∈ lw_tbl := lw_mem [108, 110, 112] (by decide +kernel)
theorem lw_sub : ∀ w ∈ wsL_law, w ∈ lw_tbl := List.forall_mem_append.mpr ⟨List.forall_mem_append.mpr ⟨List.forall_mem_append.mpr ⟨List.forall_mem_append.mpr ⟨List.forall_mem_append.mpr ⟨List.forall_mem_append.mpr ⟨List.forall_mem_append.mpr ⟨List.forall_mem_append.mpr ⟨List.forall_mem_append.mpr ⟨List.forall_mem_append.mpr ⟨List.forall_mem_append.mpr ⟨List.forall_mem_append.mpr ⟨List.forall_mem_append.mpr ⟨lw_s_wsL_law_r1, List.forall_mem_append.mpr ⟨lw_s_wsL_law_r2, List.forall_mem_append.mpr ⟨lw_s_wsL_law_r3, List.forall_mem_append.mpr ⟨lw_s_wsL_law_r4, List.forall_mem_append.mpr ⟨lw_s_wsL_law_r5, List.forall_mem_append.mpr ⟨lw_s_wsL_law_r6, List.forall_mem_append.mpr ⟨lw_s_wsL_law_r7, List.forall_mem_append.mpr ⟨lw_s_wsL_law_r8, List.forall_mem_append.mpr ⟨lw_s_wsL_law_r9, List.forall_mem_append.mpr ⟨lw_s_wsL_law_r10, List.forall_mem_append.mpr ⟨lw_s_wsL_law_r11, List.forall_mem_append.mpr ⟨lw_s_wsL_law_r12, List.forall_mem_append.mpr ⟨lw_s_wsL_law_r13, List.forall_mem_append.mpr ⟨lw_s_wsL_law_r14, List.forall_mem_append.mpr ⟨lw_s_wsL_law_r15, List.forall_mem_append.mpr ⟨lw_s_wsL_law_r16, List.forall_mem_append.mpr ⟨lw_s_wsL_law_r17, List.forall_mem_append.mpr ⟨lw_s_wsL_law_r18, List.forall_mem_append.mpr ⟨lw_s_wsL_law_r19, List.forall_mem_append.mpr ⟨lw_s_wsL_law_r20, List.forall_mem_append.mpr ⟨lw_s_wsL_law_r21, List.forall_mem_append.mpr ⟨lw_s_wsL_law_r22, List.forall_mem_append.mpr ⟨lw_s_wsL_law_r23, List.forall_mem_append.mpr ⟨lw_s_wsL_law_r24, List.forall_mem_append.mpr ⟨lw_s_wsL_law_r25, List.forall_mem_append.mpr ⟨lw_s_wsL_law_r26, List.forall_mem_append.mpr ⟨lw_s_wsL_law_r27, List.forall_mem_append.mpr ⟨lw_s_wsL_law_r28, List.forall_mem_append.mpr ⟨lw_s_wsL_law_r29, List.forall_mem_append.mpr ⟨lw_s_wsL_law_r30, List.forall_mem_append.mpr ⟨lw_s_wsL_law_r31, List.forall_mem_append.mpr ⟨lw_s_wsL_law_r32, List.forall_mem_append.mpr ⟨lw_s_wsL_law_r33, List.forall_mem_append.mpr ⟨lw_s_wsL_law_r34, lw_s_wsL_law_r35⟩⟩⟩⟩⟩⟩⟩⟩⟩⟩⟩⟩⟩⟩⟩⟩⟩⟩⟩⟩⟩⟩⟩⟩⟩⟩⟩⟩⟩⟩⟩⟩⟩⟩, lw_s_wsX90⟩, lw_s_wsX100⟩, lw_s_wsX70⟩, lw_s_wsX20⟩, lw_s_wsX80⟩, lw_s_wsX60⟩, lw_s_wsX40⟩, lw_s_wsX50⟩, lw_s_wsX30⟩, lw_s_wsX00⟩, lw_s_wsX10⟩, fun w h => absurd h List.not_mem_nil⟩
set_option maxRecDepth 100000 in
theorem lw_nf0 : ∀ w ∈ kn_F.map (fun q => Cond.fieldLinkNest q.1 q.2.1 q.2.2.1 q.2.2.2.1 q.2.2.2.2.1 q.2.2.2.2.2), w ∈ lw_tbl := lw_mem [83, 85, 105, 106, 107, 116, 117, 118, 120, 121, 122, 124, 125, 144, 158, 159, 160, 162, 163, 165, 166, 190, 192, 207, 254, 256, 263, 265] (by decide +kernel)
set_option maxRecDepth 100000 in
theorem lw_nm0 : ∀ w ∈ kn_M.map (fun q => Cond.methodLinkNest q.1 q.2.1 q.2.2.1 q.2.2.2), w ∈ lw_tbl := lw_mem [70, 76, 98, 141, 152, 185, 200, 205, 219, 247, 337, 356, 369, 374, 420, 429, 446, 470, 503, 612, 627, 644, 695, 725] (by decide +kernel)
theorem lw_nf : ∀ q ∈ kn_F, Cond.fieldLinkNest q.1 q.2.1 q.2.2.1 q.2.2.2.1 q.2.2.2.2.1 q.2.2.2.2.2 ∈ lw_tbl := fun q hq => lw_nf0 _ (List.mem_map.mpr ⟨q, hq, rfl⟩)
theorem lw_nm : ∀ q ∈ kn_M, Cond.methodLinkNest q.1 q.2.1 q.2.2.1 q.2.2.2 ∈ lw_tbl := fun q hq => lw_nm0 _ (List.mem_map.mpr ⟨q, hq, rfl⟩)
