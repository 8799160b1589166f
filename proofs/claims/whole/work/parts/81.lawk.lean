-- the words of the law's start, by their places in the tables
theorem lw_mem {ws big : List Cond} (ps : List Nat) (hp : ws = ps.filterMap (fun i => big[i]?)) : ∀ w ∈ ws, w ∈ big := by
  intro w hw
  rw [hp] at hw
  obtain ⟨i, -, hi⟩ := List.mem_filterMap.mp hw
  first | exact List.mem_of_getElem? hi | exact List.getElem?_mem hi
set_option maxRecDepth 100000 in
theorem lw_s_wsL_law_r1 : ∀ w ∈ wsL_law_r1, w ∈ lw_tbl := lw_mem [60, 61, 47, 801, 802, 57, 62, 63, 64, 65, 66, 67, 68, 69, 48, 289, 133, 134, 51, 290, 150, 151, 52, 291] (by decide +kernel)
set_option maxRecDepth 100000 in
theorem lw_s_wsL_law_r2 : ∀ w ∈ wsL_law_r2, w ∈ lw_tbl := lw_mem [183, 184, 53, 292, 198, 199, 54, 293, 217, 218, 55, 294, 245, 246, 56, 295, 71, 72, 73, 74, 75, 49, 115, 119] (by decide +kernel)
set_option maxRecDepth 100000 in
theorem lw_s_wsL_law_r3 : ∀ w ∈ wsL_law_r3, w ∈ lw_tbl := lw_mem [96, 97, 50, 123, 77, 78, 79, 95, 80, 81, 82, 99, 100, 101, 102, 103, 135, 136, 137, 138, 139, 142, 153, 154] (by decide +kernel)
set_option maxRecDepth 100000 in
theorem lw_s_wsL_law_r4 : ∀ w ∈ wsL_law_r4, w ∈ lw_tbl := lw_mem [155, 182, 156, 186, 187, 188, 201, 202, 203, 204, 206, 220, 221, 222, 248, 249, 250, 251, 252, 253, 255, 257, 258, 259] (by decide +kernel)
set_option maxRecDepth 100000 in
theorem lw_s_wsL_law_r5 : ∀ w ∈ wsL_law_r5, w ∈ lw_tbl := lw_mem [260, 803, 804, 805, 806, 807, 808, 811, 818, 819, 822, 823, 824, 826, 827, 828, 829, 311, 312, 313, 314, 315, 316, 317] (by decide +kernel)
set_option maxRecDepth 100000 in
theorem lw_s_wsL_law_r6 : ∀ w ∈ wsL_law_r6, w ∈ lw_tbl := lw_mem [318, 319, 320, 321, 322, 323, 324, 325, 326, 327, 328, 84, 329, 330, 331, 332, 333, 334, 335, 336, 338, 339, 340, 341] (by decide +kernel)
set_option maxRecDepth 100000 in
theorem lw_s_wsL_law_r7 : ∀ w ∈ wsL_law_r7, w ∈ lw_tbl := lw_mem [342, 343, 143, 344, 346, 0, 347, 349, 350, 351, 352, 353, 354, 355, 356, 358, 359, 360, 361, 58, 362, 363, 365, 364] (by decide +kernel)
set_option maxRecDepth 100000 in
theorem lw_s_wsL_law_r8 : ∀ w ∈ wsL_law_r8, w ∈ lw_tbl := lw_mem [59, 366, 367, 368, 369, 104, 371, 372, 373, 374, 376, 377, 378, 379, 380, 381, 382, 383, 384, 385, 386, 387, 388, 389] (by decide +kernel)
set_option maxRecDepth 100000 in
theorem lw_s_wsL_law_r9 : ∀ w ∈ wsL_law_r9, w ∈ lw_tbl := lw_mem [390, 391, 392, 393, 881, 882, 883, 884, 885, 886, 887, 888, 889, 890, 891, 893, 15, 894, 895, 897, 16, 898, 809, 899] (by decide +kernel)
set_option maxRecDepth 100000 in
theorem lw_s_wsL_law_r10 : ∀ w ∈ wsL_law_r10, w ∈ lw_tbl := lw_mem [901, 17, 902, 903, 905, 18, 906, 394, 395, 396, 397, 398, 400, 1, 401, 402, 403, 404, 405, 406, 407, 907, 908, 909] (by decide +kernel)
set_option maxRecDepth 100000 in
theorem lw_s_wsL_law_r11 : ∀ w ∈ wsL_law_r11, w ∈ lw_tbl := lw_mem [910, 911, 913, 19, 914, 408, 409, 410, 411, 412, 413, 414, 415, 416, 417, 418, 419, 420, 422, 423, 424, 425, 426, 427] (by decide +kernel)
set_option maxRecDepth 100000 in
theorem lw_s_wsL_law_r12 : ∀ w ∈ wsL_law_r12, w ∈ lw_tbl := lw_mem [428, 429, 431, 432, 433, 434, 435, 436, 437, 438, 439, 440, 446, 441, 442, 443, 444, 445, 915, 916, 917, 918, 919, 921] (by decide +kernel)
set_option maxRecDepth 100000 in
theorem lw_s_wsL_law_r13 : ∀ w ∈ wsL_law_r13, w ∈ lw_tbl := lw_mem [20, 922, 923, 925, 21, 926, 927, 929, 22, 930, 931, 933, 23, 934, 935, 937, 24, 938, 448, 449, 450, 451, 452, 453] (by decide +kernel)
set_option maxRecDepth 100000 in
theorem lw_s_wsL_law_r14 : ∀ w ∈ wsL_law_r14, w ∈ lw_tbl := lw_mem [454, 455, 456, 939, 940, 941, 942, 457, 458, 459, 460, 461, 943, 944, 945, 946, 947, 949, 25, 950, 462, 463, 464, 465] (by decide +kernel)
set_option maxRecDepth 100000 in
theorem lw_s_wsL_law_r15 : ∀ w ∈ wsL_law_r15, w ∈ lw_tbl := lw_mem [466, 467, 468, 469, 470, 951, 952, 953, 954, 472, 473, 474, 475, 476, 477, 478, 479, 208, 209, 480, 481, 482, 483, 161] (by decide +kernel)
set_option maxRecDepth 100000 in
theorem lw_s_wsL_law_r16 : ∀ w ∈ wsL_law_r16, w ∈ lw_tbl := lw_mem [164, 167, 168, 484, 485, 486, 487, 488, 490, 2, 491, 492, 493, 494, 495, 496, 498, 3, 499, 500, 502, 4, 503, 157] (by decide +kernel)
set_option maxRecDepth 100000 in
theorem lw_s_wsL_law_r17 : ∀ w ∈ wsL_law_r17, w ∈ lw_tbl := lw_mem [505, 506, 507, 508, 509, 510, 511, 512, 513, 514, 515, 516, 517, 518, 519, 520, 521, 523, 5, 524, 525, 526, 527, 528] (by decide +kernel)
set_option maxRecDepth 100000 in
theorem lw_s_wsL_law_r18 : ∀ w ∈ wsL_law_r18, w ∈ lw_tbl := lw_mem [529, 531, 6, 532, 533, 535, 7, 536, 537, 538, 539, 540, 541, 542, 543, 544, 545, 546, 547, 548, 549, 975, 976, 977] (by decide +kernel)
set_option maxRecDepth 100000 in
theorem lw_s_wsL_law_r19 : ∀ w ∈ wsL_law_r19, w ∈ lw_tbl := lw_mem [978, 812, 813, 817, 815, 816, 810, 979, 981, 27, 982, 983, 985, 28, 986, 814, 987, 989, 29, 990, 991, 993, 30, 994] (by decide +kernel)
set_option maxRecDepth 100000 in
theorem lw_s_wsL_law_r20 : ∀ w ∈ wsL_law_r20, w ∈ lw_tbl := lw_mem [995, 997, 31, 998, 550, 551, 552, 553, 555, 556, 557, 554, 955, 956, 957, 958, 558, 559, 560, 561, 562, 563, 564, 565] (by decide +kernel)
set_option maxRecDepth 100000 in
theorem lw_s_wsL_law_r21 : ∀ w ∈ wsL_law_r21, w ∈ lw_tbl := lw_mem [566, 567, 568, 569, 570, 571, 572, 573, 959, 960, 961, 962, 963, 965, 26, 966, 574, 575, 576, 577, 578, 579, 580, 581] (by decide +kernel)
set_option maxRecDepth 100000 in
theorem lw_s_wsL_law_r22 : ∀ w ∈ wsL_law_r22, w ∈ lw_tbl := lw_mem [877, 878, 879, 880, 582, 583, 584, 585, 586, 587, 588, 589, 967, 968, 969, 970, 590, 591, 592, 593, 594, 595, 596, 597] (by decide +kernel)
set_option maxRecDepth 100000 in
theorem lw_s_wsL_law_r23 : ∀ w ∈ wsL_law_r23, w ∈ lw_tbl := lw_mem [971, 972, 973, 974, 598, 599, 600, 601, 602, 603, 604, 605, 189, 191, 606, 607, 608, 610, 8, 611, 612, 614, 615, 616] (by decide +kernel)
set_option maxRecDepth 100000 in
theorem lw_s_wsL_law_r24 : ∀ w ∈ wsL_law_r24, w ∈ lw_tbl := lw_mem [618, 9, 619, 620, 621, 622, 623, 624, 625, 626, 627, 629, 630, 631, 632, 633, 634, 636, 10, 637, 638, 639, 640, 641] (by decide +kernel)
set_option maxRecDepth 100000 in
theorem lw_s_wsL_law_r25 : ∀ w ∈ wsL_law_r25, w ∈ lw_tbl := lw_mem [642, 643, 223, 224, 225, 226, 227, 228, 229, 644, 646, 647, 648, 650, 11, 651, 652, 653, 654, 655, 999, 1000, 1001, 1002] (by decide +kernel)
set_option maxRecDepth 100000 in
theorem lw_s_wsL_law_r26 : ∀ w ∈ wsL_law_r26, w ∈ lw_tbl := lw_mem [820, 821, 1003, 1005, 32, 1006, 1007, 1009, 33, 1010, 1011, 1013, 34, 1014, 1015, 1017, 35, 1018, 1019, 1021, 36, 1022, 656, 657] (by decide +kernel)
set_option maxRecDepth 100000 in
theorem lw_s_wsL_law_r27 : ∀ w ∈ wsL_law_r27, w ∈ lw_tbl := lw_mem [658, 659, 660, 661, 1023, 1024, 1025, 1026, 662, 663, 664, 665, 666, 667, 668, 669, 670, 671, 672, 673, 1027, 1028, 1029, 1030] (by decide +kernel)
set_option maxRecDepth 100000 in
theorem lw_s_wsL_law_r28 : ∀ w ∈ wsL_law_r28, w ∈ lw_tbl := lw_mem [1031, 1033, 37, 1034, 674, 675, 676, 677, 1035, 1036, 1037, 1038, 678, 679, 680, 681, 682, 683, 684, 685, 686, 261, 687, 689] (by decide +kernel)
set_option maxRecDepth 100000 in
theorem lw_s_wsL_law_r29 : ∀ w ∈ wsL_law_r29, w ∈ lw_tbl := lw_mem [12, 690, 264, 703, 704, 705, 706, 691, 692, 693, 694, 695, 697, 698, 699, 700, 701, 702, 707, 708, 709, 710, 711, 713] (by decide +kernel)
set_option maxRecDepth 100000 in
theorem lw_s_wsL_law_r30 : ∀ w ∈ wsL_law_r30, w ∈ lw_tbl := lw_mem [13, 714, 262, 715, 716, 717, 718, 719, 720, 721, 722, 723, 724, 725, 727, 728, 729, 730, 731, 732, 733, 734, 735, 736] (by decide +kernel)
set_option maxRecDepth 100000 in
theorem lw_s_wsL_law_r31 : ∀ w ∈ wsL_law_r31, w ∈ lw_tbl := lw_mem [737, 738, 739, 740, 741, 742, 743, 744, 745, 746, 747, 748, 749, 750, 751, 752, 1039, 1040, 1041, 1042, 825, 1043, 1045, 38] (by decide +kernel)
set_option maxRecDepth 100000 in
theorem lw_s_wsL_law_r32 : ∀ w ∈ wsL_law_r32, w ∈ lw_tbl := lw_mem [1046, 1047, 1049, 39, 1050, 1051, 1053, 40, 1054, 1055, 1057, 41, 1058, 1059, 1061, 42, 1062, 1063, 1064, 1065, 753, 754, 755, 756] (by decide +kernel)
set_option maxRecDepth 100000 in
theorem lw_s_wsL_law_r33 : ∀ w ∈ wsL_law_r33, w ∈ lw_tbl := lw_mem [757, 758, 759, 760, 761, 762, 1066, 1067, 1068, 1069, 763, 764, 765, 766, 767, 768, 769, 770, 771, 772, 1070, 1071, 1072, 1073] (by decide +kernel)
set_option maxRecDepth 100000 in
theorem lw_s_wsL_law_r34 : ∀ w ∈ wsL_law_r34, w ∈ lw_tbl := lw_mem [773, 774, 775, 776, 777, 778, 779, 780, 781, 783, 14, 784, 785, 786, 787, 788, 789, 790, 791, 1074, 1075, 1076, 1077, 1078] (by decide +kernel)
set_option maxRecDepth 100000 in
theorem lw_s_wsL_law_r35 : ∀ w ∈ wsL_law_r35, w ∈ lw_tbl := lw_mem [1080, 43, 1081, 792, 793, 794, 795, 796, 797, 798, 799, 800, 1082, 1083, 1084, 1085, 1086, 1088, 44, 1089, 1090, 1092, 45, 1093] (by decide +kernel)
set_option maxRecDepth 100000 in
theorem lw_s_wsX90 : ∀ w ∈ wsX90, w ∈ lw_tbl := lw_mem [296, 298, 300, 302, 304, 306, 308] (by decide +kernel)
set_option maxRecDepth 100000 in
theorem lw_s_wsX100 : ∀ w ∈ wsX100, w ∈ lw_tbl := lw_mem [830, 832, 834, 836, 838, 840, 842, 844, 846, 848, 850, 852, 854, 856, 858, 860, 862, 864, 866, 868, 870, 872, 874] (by decide +kernel)
set_option maxRecDepth 100000 in
theorem lw_s_wsX70 : ∀ w ∈ wsX70, w ∈ lw_tbl := lw_mem [126, 128, 130] (by decide +kernel)
set_option maxRecDepth 100000 in
theorem lw_s_wsX20 : ∀ w ∈ wsX20, w ∈ lw_tbl := lw_mem [145, 147] (by decide +kernel)
set_option maxRecDepth 100000 in
theorem lw_s_wsX80 : ∀ w ∈ wsX80, w ∈ lw_tbl := lw_mem [169, 171, 173, 175, 177, 179] (by decide +kernel)
set_option maxRecDepth 100000 in
theorem lw_s_wsX60 : ∀ w ∈ wsX60, w ∈ lw_tbl := lw_mem [193, 195] (by decide +kernel)
set_option maxRecDepth 100000 in
theorem lw_s_wsX40 : ∀ w ∈ wsX40, w ∈ lw_tbl := lw_mem [210, 212, 214] (by decide +kernel)
set_option maxRecDepth 100000 in
theorem lw_s_wsX50 : ∀ w ∈ wsX50, w ∈ lw_tbl := lw_mem [230, 232, 234, 236, 238, 240, 242] (by decide +kernel)
set_option maxRecDepth 100000 in
theorem lw_s_wsX30 : ∀ w ∈ wsX30, w ∈ lw_tbl := lw_mem [266, 268, 270, 272, 274, 276, 278, 280, 282, 284, 286] (by decide +kernel)
set_option maxRecDepth 100000 in
theorem lw_s_wsX00 : ∀ w ∈ wsX00, w ∈ lw_tbl := lw_mem [86, 88, 90, 92] (by decide +kernel)
set_option maxRecDepth 100000 in
theorem lw_s_wsX10 : ∀ w ∈ wsX10, w ∈ lw_tbl := lw_mem [108, 110, 112] (by decide +kernel)
theorem lw_sub : ∀ w ∈ wsL_law, w ∈ lw_tbl := List.forall_mem_append.mpr ⟨List.forall_mem_append.mpr ⟨List.forall_mem_append.mpr ⟨List.forall_mem_append.mpr ⟨List.forall_mem_append.mpr ⟨List.forall_mem_append.mpr ⟨List.forall_mem_append.mpr ⟨List.forall_mem_append.mpr ⟨List.forall_mem_append.mpr ⟨List.forall_mem_append.mpr ⟨List.forall_mem_append.mpr ⟨List.forall_mem_append.mpr ⟨List.forall_mem_append.mpr ⟨lw_s_wsL_law_r1, List.forall_mem_append.mpr ⟨lw_s_wsL_law_r2, List.forall_mem_append.mpr ⟨lw_s_wsL_law_r3, List.forall_mem_append.mpr ⟨lw_s_wsL_law_r4, List.forall_mem_append.mpr ⟨lw_s_wsL_law_r5, List.forall_mem_append.mpr ⟨lw_s_wsL_law_r6, List.forall_mem_append.mpr ⟨lw_s_wsL_law_r7, List.forall_mem_append.mpr ⟨lw_s_wsL_law_r8, List.forall_mem_append.mpr ⟨lw_s_wsL_law_r9, List.forall_mem_append.mpr ⟨lw_s_wsL_law_r10, List.forall_mem_append.mpr ⟨lw_s_wsL_law_r11, List.forall_mem_append.mpr ⟨lw_s_wsL_law_r12, List.forall_mem_append.mpr ⟨lw_s_wsL_law_r13, List.forall_mem_append.mpr ⟨lw_s_wsL_law_r14, List.forall_mem_append.mpr ⟨lw_s_wsL_law_r15, List.forall_mem_append.mpr ⟨lw_s_wsL_law_r16, List.forall_mem_append.mpr ⟨lw_s_wsL_law_r17, List.forall_mem_append.mpr ⟨lw_s_wsL_law_r18, List.forall_mem_append.mpr ⟨lw_s_wsL_law_r19, List.forall_mem_append.mpr ⟨lw_s_wsL_law_r20, List.forall_mem_append.mpr ⟨lw_s_wsL_law_r21, List.forall_mem_append.mpr ⟨lw_s_wsL_law_r22, List.forall_mem_append.mpr ⟨lw_s_wsL_law_r23, List.forall_mem_append.mpr ⟨lw_s_wsL_law_r24, List.forall_mem_append.mpr ⟨lw_s_wsL_law_r25, List.forall_mem_append.mpr ⟨lw_s_wsL_law_r26, List.forall_mem_append.mpr ⟨lw_s_wsL_law_r27, List.forall_mem_append.mpr ⟨lw_s_wsL_law_r28, List.forall_mem_append.mpr ⟨lw_s_wsL_law_r29, List.forall_mem_append.mpr ⟨lw_s_wsL_law_r30, List.forall_mem_append.mpr ⟨lw_s_wsL_law_r31, List.forall_mem_append.mpr ⟨lw_s_wsL_law_r32, List.forall_mem_append.mpr ⟨lw_s_wsL_law_r33, List.forall_mem_append.mpr ⟨lw_s_wsL_law_r34, lw_s_wsL_law_r35⟩⟩⟩⟩⟩⟩⟩⟩⟩⟩⟩⟩⟩⟩⟩⟩⟩⟩⟩⟩⟩⟩⟩⟩⟩⟩⟩⟩⟩⟩⟩⟩⟩⟩, lw_s_wsX90⟩, lw_s_wsX100⟩, lw_s_wsX70⟩, lw_s_wsX20⟩, lw_s_wsX80⟩, lw_s_wsX60⟩, lw_s_wsX40⟩, lw_s_wsX50⟩, lw_s_wsX30⟩, lw_s_wsX00⟩, lw_s_wsX10⟩, fun w h => absurd h List.not_mem_nil⟩
set_option maxRecDepth 100000 in
theorem lw_nf0 : ∀ w ∈ kn_F.map (fun q => Cond.fieldLinkNest q.1 q.2.1 q.2.2.1 q.2.2.2.1 q.2.2.2.2.1 q.2.2.2.2.2), w ∈ lw_tbl := lw_mem [83, 85, 105, 106, 107, 116, 117, 118, 120, 121, 122, 124, 125, 144, 158, 159, 160, 162, 163, 165, 166, 190, 192, 207, 254, 256, 263, 265] (by decide +kernel)
set_option maxRecDepth 100000 in
theorem lw_nm0 : ∀ w ∈ kn_M.map (fun q => Cond.methodLinkNest q.1 q.2.1 q.2.2.1 q.2.2.2), w ∈ lw_tbl := lw_mem [70, 76, 98, 141, 152, 185, 200, 205, 219, 247, 337, 348, 357, 370, 375, 421, 430, 447, 471, 504, 613, 628, 645, 696, 726] (by decide +kernel)
theorem lw_nf : ∀ q ∈ kn_F, Cond.fieldLinkNest q.1 q.2.1 q.2.2.1 q.2.2.2.1 q.2.2.2.2.1 q.2.2.2.2.2 ∈ lw_tbl := fun q hq => lw_nf0 _ (List.mem_map.mpr ⟨q, hq, rfl⟩)
theorem lw_nm : ∀ q ∈ kn_M, Cond.methodLinkNest q.1 q.2.1 q.2.2.1 q.2.2.2 ∈ lw_tbl := fun q hq => lw_nm0 _ (List.mem_map.mpr ⟨q, hq, rfl⟩)
