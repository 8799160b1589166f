-- the words of the law's start, by their places in the tables
theorem lw_mem {ws big : List Cond} (ps : List Nat) (hp : ws = ps.filterMap (fun i => big[i]?)) : ∀ w ∈ ws, w ∈ big := by
  intro w hw
  rw [hp] at hw
  obtain ⟨i, -, hi⟩ := List.mem_filterMap.mp hw
  first | exact List.mem_of_getElem? hi | exact List.getElem?_mem hi
set_option maxRecDepth 100000 in
theorem lw_s_wsL_law_r1 : ∀ w ∈ wsL_law_r1, w ∈ lw_tbl := lw_mem [28, 29, 16, 63, 30, 31, 32, 33, 34, 35, 36, 37, 17, 257, 101, 102, 20, 258, 118, 119, 21, 259, 151, 152] rfl
set_option maxRecDepth 100000 in
theorem lw_s_wsL_law_r2 : ∀ w ∈ wsL_law_r2, w ∈ lw_tbl := lw_mem [22, 260, 166, 167, 23, 261, 185, 186, 24, 262, 213, 214, 25, 263, 39, 40, 41, 42, 43, 18, 83, 87, 64, 65] rfl
set_option maxRecDepth 100000 in
theorem lw_s_wsL_law_r3 : ∀ w ∈ wsL_law_r3, w ∈ lw_tbl := lw_mem [19, 91, 45, 46, 47, 48, 49, 50, 67, 68, 69, 70, 71, 103, 104, 105, 106, 107, 110, 121, 122, 123, 150, 124] rfl
set_option maxRecDepth 100000 in
theorem lw_s_wsL_law_r4 : ∀ w ∈ wsL_law_r4, w ∈ lw_tbl := lw_mem [154, 155, 156, 169, 170, 171, 172, 174, 188, 189, 190, 216, 217, 218, 219, 220, 221, 223, 225, 226, 227, 228, 408, 409] rfl
set_option maxRecDepth 100000 in
theorem lw_s_wsL_law_r5 : ∀ w ∈ wsL_law_r5, w ∈ lw_tbl := lw_mem [410, 411, 412, 413, 414, 415, 111, 317, 318, 319, 320, 321, 322, 323, 324, 52, 326, 327, 328, 329, 26, 330, 331, 333] rfl
set_option maxRecDepth 100000 in
theorem lw_s_wsL_law_r6 : ∀ w ∈ wsL_law_r6, w ∈ lw_tbl := lw_mem [332, 27, 334, 335, 336, 337, 72, 528, 529, 15, 530, 531, 532, 533, 534, 535, 519, 520, 521, 522, 286, 287, 288, 293] rfl
set_option maxRecDepth 100000 in
theorem lw_s_wsL_law_r7 : ∀ w ∈ wsL_law_r7, w ∈ lw_tbl := lw_mem [294, 295, 296, 297, 298, 299, 300, 301, 302, 303, 304, 306, 307, 456, 457, 458, 459, 460, 229, 461, 463, 2, 464, 232] rfl
set_option maxRecDepth 100000 in
theorem lw_s_wsL_law_r8 : ∀ w ∈ wsL_law_r8, w ∈ lw_tbl := lw_mem [476, 406, 407, 477, 478, 479, 465, 390, 391, 392, 358, 359, 360, 361, 466, 467, 468, 469, 470, 372, 373, 374, 450, 451] rfl
set_option maxRecDepth 100000 in
theorem lw_s_wsL_law_r9 : ∀ w ∈ wsL_law_r9, w ∈ lw_tbl := lw_mem [472, 473, 474, 475, 480, 481, 482, 483, 484, 446, 447, 448, 485, 487, 3, 488, 230, 489, 490, 491, 523, 524, 525, 526] rfl
set_option maxRecDepth 100000 in
theorem lw_s_wsL_law_r10 : ∀ w ∈ wsL_law_r10, w ∈ lw_tbl := lw_mem [527, 493, 494, 495, 389, 279, 280, 281, 282, 283, 284, 285, 289, 290, 291, 292, 308, 309, 310, 311, 312, 314, 0, 315] rfl
set_option maxRecDepth 100000 in
theorem lw_s_wsL_law_r11 : ∀ w ∈ wsL_law_r11, w ∈ lw_tbl := lw_mem [339, 340, 341, 342, 344, 345, 346, 347, 348, 349, 350, 351, 352, 353, 354, 355, 356, 357, 432, 433, 434, 435, 366, 368] rfl
set_option maxRecDepth 100000 in
theorem lw_s_wsL_law_r12 : ∀ w ∈ wsL_law_r12, w ∈ lw_tbl := lw_mem [1, 369, 370, 436, 437, 438, 439, 440, 441, 442, 443, 444, 371, 445, 420, 421, 422, 423, 449, 362, 363, 364, 365, 375] rfl
set_option maxRecDepth 100000 in
theorem lw_s_wsL_law_r13 : ∀ w ∈ wsL_law_r13, w ∈ lw_tbl := lw_mem [750, 751, 752, 558, 559, 560, 561, 562, 563, 564, 565, 566, 567, 568, 500, 501, 386, 387, 388, 753, 754, 755, 756, 381] rfl
set_option maxRecDepth 100000 in
theorem lw_s_wsL_law_r14 : ∀ w ∈ wsL_law_r14, w ∈ lw_tbl := lw_mem [382, 383, 384, 385, 395, 396, 757, 758, 759, 760, 761, 762, 763, 764, 765, 767, 768, 769, 770, 771, 772, 773, 774, 775] rfl
set_option maxRecDepth 100000 in
theorem lw_s_wsL_law_r15 : ∀ w ∈ wsL_law_r15, w ∈ lw_tbl := lw_mem [776, 777, 778, 452, 453, 454, 455, 380, 492, 496, 498, 4, 499, 502, 503, 504, 505, 507, 508, 509, 510, 511, 512, 513] rfl
set_option maxRecDepth 100000 in
theorem lw_s_wsL_law_r16 : ∀ w ∈ wsL_law_r16, w ∈ lw_tbl := lw_mem [514, 515, 516, 517, 518, 376, 377, 378, 379, 779, 780, 781, 782, 783, 784, 785, 786, 787, 788, 789, 416, 417, 418, 419] rfl
set_option maxRecDepth 100000 in
theorem lw_s_wsL_law_r17 : ∀ w ∈ wsL_law_r17, w ∈ lw_tbl := lw_mem [424, 425, 426, 427, 428, 429, 430, 431, 791, 792, 793, 794, 795, 796, 797, 798, 799, 800, 801, 802, 803, 804, 805, 806] rfl
set_option maxRecDepth 100000 in
theorem lw_s_wsL_law_r18 : ∀ w ∈ wsL_law_r18, w ∈ lw_tbl := lw_mem [807, 808, 809, 397, 398, 399, 400, 405, 401, 402, 403, 404, 601, 602, 603, 604, 605, 606, 607, 608, 609, 610, 611, 125] rfl
set_option maxRecDepth 100000 in
theorem lw_s_wsL_law_r19 : ∀ w ∈ wsL_law_r19, w ∈ lw_tbl := lw_mem [612, 613, 614, 615, 616, 617, 618, 619, 157, 159, 620, 621, 622, 623, 129, 132, 135, 136, 624, 625, 626, 627, 628, 630] rfl
set_option maxRecDepth 100000 in
theorem lw_s_wsL_law_r20 : ∀ w ∈ wsL_law_r20, w ∈ lw_tbl := lw_mem [5, 631, 632, 634, 6, 635, 637, 638, 639, 640, 641, 642, 643, 644, 645, 646, 647, 648, 649, 650, 651, 652, 653, 655] rfl
set_option maxRecDepth 100000 in
theorem lw_s_wsL_law_r21 : ∀ w ∈ wsL_law_r21, w ∈ lw_tbl := lw_mem [7, 656, 657, 659, 8, 660, 661, 663, 664, 665, 666, 667, 668, 669, 670, 671, 673, 9, 674, 675, 676, 677, 678, 679] rfl
set_option maxRecDepth 100000 in
theorem lw_s_wsL_law_r22 : ∀ w ∈ wsL_law_r22, w ∈ lw_tbl := lw_mem [545, 546, 547, 681, 682, 684, 10, 685, 686, 687, 688, 689, 690, 691, 191, 192, 193, 194, 195, 196, 197, 692, 694, 696] rfl
set_option maxRecDepth 100000 in
theorem lw_s_wsL_law_r23 : ∀ w ∈ wsL_law_r23, w ∈ lw_tbl := lw_mem [11, 697, 698, 699, 700, 701, 702, 703, 704, 705, 706, 707, 708, 709, 710, 711, 712, 713, 714, 715, 716, 717, 718, 719] rfl
set_option maxRecDepth 100000 in
theorem lw_s_wsL_law_r24 : ∀ w ∈ wsL_law_r24, w ∈ lw_tbl := lw_mem [720, 721, 722, 723, 176, 177, 724, 725, 726, 728, 12, 729, 730, 731, 732, 733, 734, 735, 737, 13, 738, 739, 741, 14] rfl
set_option maxRecDepth 100000 in
theorem lw_s_wsL_law_r25 : ∀ w ∈ wsL_law_r25, w ∈ lw_tbl := lw_mem [742, 743, 744, 745, 746, 747, 748, 749, 536, 537, 538, 539, 540, 541, 542, 543, 544, 548, 549, 550, 551, 552, 553, 554] rfl
set_option maxRecDepth 100000 in
theorem lw_s_wsL_law_r26 : ∀ w ∈ wsL_law_r26, w ∈ lw_tbl := lw_mem [555, 556, 557, 569, 570, 571, 572, 573, 574, 575, 576, 577, 578, 579, 580, 581, 582, 583, 584, 585, 586, 587, 588, 589] rfl
set_option maxRecDepth 100000 in
theorem lw_s_wsL_law_r27 : ∀ w ∈ wsL_law_r27, w ∈ lw_tbl := lw_mem [590, 591, 592, 593, 594, 595, 596, 597, 598, 599, 600, 810, 811, 812] rfl
set_option maxRecDepth 100000 in
theorem lw_s_wsX90 : ∀ w ∈ wsX90, w ∈ lw_tbl := lw_mem [264, 266, 268, 270, 272, 274, 276] rfl
set_option maxRecDepth 100000 in
theorem lw_s_wsX70 : ∀ w ∈ wsX70, w ∈ lw_tbl := lw_mem [94, 96, 98] rfl
set_option maxRecDepth 100000 in
theorem lw_s_wsX20 : ∀ w ∈ wsX20, w ∈ lw_tbl := lw_mem [113, 115] rfl
set_option maxRecDepth 100000 in
theorem lw_s_wsX80 : ∀ w ∈ wsX80, w ∈ lw_tbl := lw_mem [137, 139, 141, 143, 145, 147] rfl
set_option maxRecDepth 100000 in
theorem lw_s_wsX60 : ∀ w ∈ wsX60, w ∈ lw_tbl := lw_mem [161, 163] rfl
set_option maxRecDepth 100000 in
theorem lw_s_wsX40 : ∀ w ∈ wsX40, w ∈ lw_tbl := lw_mem [178, 180, 182] rfl
set_option maxRecDepth 100000 in
theorem lw_s_wsX50 : ∀ w ∈ wsX50, w ∈ lw_tbl := lw_mem [198, 200, 202, 204, 206, 208, 210] rfl
set_option maxRecDepth 100000 in
theorem lw_s_wsX30 : ∀ w ∈ wsX30, w ∈ lw_tbl := lw_mem [234, 236, 238, 240, 242, 244, 246, 248, 250, 252, 254] rfl
set_option maxRecDepth 100000 in
theorem lw_s_wsX00 : ∀ w ∈ wsX00, w ∈ lw_tbl := lw_mem [54, 56, 58, 60] rfl
set_option maxRecDepth 100000 in
theorem lw_s_wsX10 : ∀ w ∈ wsX10, w ∈ lw_tbl := lw_mem [76, 78, 80] rfl
theorem lw_sub : ∀ w ∈ wsL_law, w ∈ lw_tbl := List.forall_mem_append.mpr ⟨List.forall_mem_append.mpr ⟨List.forall_mem_append.mpr ⟨List.forall_mem_append.mpr ⟨List.forall_mem_append.mpr ⟨List.forall_mem_append.mpr ⟨List.forall_mem_append.mpr ⟨List.forall_mem_append.mpr ⟨List.forall_mem_append.mpr ⟨List.forall_mem_append.mpr ⟨List.forall_mem_append.mpr ⟨List.forall_mem_append.mpr ⟨lw_s_wsL_law_r1, List.forall_mem_append.mpr ⟨lw_s_wsL_law_r2, List.forall_mem_append.mpr ⟨lw_s_wsL_law_r3, List.forall_mem_append.mpr ⟨lw_s_wsL_law_r4, List.forall_mem_append.mpr ⟨lw_s_wsL_law_r5, List.forall_mem_append.mpr ⟨lw_s_wsL_law_r6, List.forall_mem_append.mpr ⟨lw_s_wsL_law_r7, List.forall_mem_append.mpr ⟨lw_s_wsL_law_r8, List.forall_mem_append.mpr ⟨lw_s_wsL_law_r9, List.forall_mem_append.mpr ⟨lw_s_wsL_law_r10, List.forall_mem_append.mpr ⟨lw_s_wsL_law_r11, List.forall_mem_append.mpr ⟨lw_s_wsL_law_r12, List.forall_mem_append.mpr ⟨lw_s_wsL_law_r13, List.forall_mem_append.mpr ⟨lw_s_wsL_law_r14, List.forall_mem_append.mpr ⟨lw_s_wsL_law_r15, List.forall_mem_append.mpr ⟨lw_s_wsL_law_r16, List.forall_mem_append.mpr ⟨lw_s_wsL_law_r17, List.forall_mem_append.mpr ⟨lw_s_wsL_law_r18, List.forall_mem_append.mpr ⟨lw_s_wsL_law_r19, List.forall_mem_append.mpr ⟨lw_s_wsL_law_r20, List.forall_mem_append.mpr ⟨lw_s_wsL_law_r21, List.forall_mem_append.mpr ⟨lw_s_wsL_law_r22, List.forall_mem_append.mpr ⟨lw_s_wsL_law_r23, List.forall_mem_append.mpr ⟨lw_s_wsL_law_r24, List.forall_mem_append.mpr ⟨lw_s_wsL_law_r25, List.forall_mem_append.mpr ⟨lw_s_wsL_law_r26, lw_s_wsL_law_r27⟩⟩⟩⟩⟩⟩⟩⟩⟩⟩⟩⟩⟩⟩⟩⟩⟩⟩⟩⟩⟩⟩⟩⟩⟩⟩, lw_s_wsX90⟩, lw_s_wsX70⟩, lw_s_wsX20⟩, lw_s_wsX80⟩, lw_s_wsX60⟩, lw_s_wsX40⟩, lw_s_wsX50⟩, lw_s_wsX30⟩, lw_s_wsX00⟩, lw_s_wsX10⟩, fun w h => absurd h List.not_mem_nil⟩
set_option maxRecDepth 100000 in
theorem lw_nf0 : ∀ w ∈ kn_F.map (fun q => Cond.fieldLinkNest q.1 q.2.1 q.2.2.1 q.2.2.2.1 q.2.2.2.2.1 q.2.2.2.2.2), w ∈ lw_tbl := lw_mem [51, 53, 73, 74, 75, 84, 85, 86, 88, 89, 90, 92, 93, 112, 126, 127, 128, 130, 131, 133, 134, 158, 160, 175, 222, 224, 231, 233] rfl
set_option maxRecDepth 100000 in
theorem lw_nm0 : ∀ w ∈ kn_M.map (fun q => Cond.methodLinkNest q.1 q.2.1 q.2.2.1 q.2.2.2), w ∈ lw_tbl := lw_mem [38, 44, 66, 109, 120, 153, 168, 173, 187, 215, 305, 316, 325, 338, 343, 393, 394, 471, 506, 636, 662, 680, 693, 766, 790] rfl
theorem lw_nf : ∀ q ∈ kn_F, Cond.fieldLinkNest q.1 q.2.1 q.2.2.1 q.2.2.2.1 q.2.2.2.2.1 q.2.2.2.2.2 ∈ lw_tbl := fun q hq => lw_nf0 _ (List.mem_map.mpr ⟨q, hq, rfl⟩)
theorem lw_nm : ∀ q ∈ kn_M, Cond.methodLinkNest q.1 q.2.1 q.2.2.1 q.2.2.2 ∈ lw_tbl := fun q hq => lw_nm0 _ (List.mem_map.mpr ⟨q, hq, rfl⟩)
