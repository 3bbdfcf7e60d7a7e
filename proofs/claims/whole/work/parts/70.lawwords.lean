theorem lw_byp {big ws : List Cond} {ps : List Nat} (hp : ws = ps.filterMap (fun i => big[i]?)) : ∀ w ∈ ws, w ∈ big := by
  intro w hw
  rw [hp] at hw
  obtain ⟨i, -, hi⟩ := List.mem_filterMap.mp hw
  exact List.mem_of_getElem? hi
theorem lw_two {big a b : List Cond} (ha : ∀ w ∈ a, w ∈ big) (hb : ∀ w ∈ b, w ∈ big) : ∀ w ∈ a ++ b, w ∈ big := fun w h => (List.mem_append.mp h).elim (ha w) (hb w)
set_option maxRecDepth 20000 in
theorem wsL_law_r1_e : wsL_law_r1 = ([59, 60, 42, 673, 674, 51, 61, 62, 63, 64, 65, 66, 67, 68, 43, 204, 81, 82, 44, 205, 112, 113, 45, 206] : List Nat).filterMap (fun i => lw_tbl[i]?) := by decide +kernel
theorem wsL_law_r1_in : ∀ w ∈ wsL_law_r1, w ∈ lw_tbl := fun w h => lw_byp wsL_law_r1_e w h
set_option maxRecDepth 20000 in
theorem wsL_law_r2_e : wsL_law_r2 = ([131, 132, 46, 207, 165, 166, 47, 208, 209, 178, 179, 50, 210, 211, 212, 213, 70, 71, 72, 80, 73, 83, 84, 85] : List Nat).filterMap (fun i => lw_tbl[i]?) := by decide +kernel
theorem wsL_law_r2_in : ∀ w ∈ wsL_law_r2, w ∈ lw_tbl := fun w h => lw_byp wsL_law_r2_e w h
set_option maxRecDepth 20000 in
theorem wsL_law_r3_e : wsL_law_r3 = ([86, 87, 89, 90, 91, 92, 93, 95, 97, 98, 96, 114, 115, 116, 117, 119, 120, 118, 133, 134, 135, 136, 138, 139] : List Nat).filterMap (fun i => lw_tbl[i]?) := by decide +kernel
theorem wsL_law_r3_in : ∀ w ∈ wsL_law_r3, w ∈ lw_tbl := fun w h => lw_byp wsL_law_r3_e w h
set_option maxRecDepth 20000 in
theorem wsL_law_r4_e : wsL_law_r4 = ([140, 141, 137, 168, 169, 170, 171, 180, 181, 182, 190, 192, 183, 184, 49, 185, 194, 186, 187, 48, 188, 189, 675, 676] : List Nat).filterMap (fun i => lw_tbl[i]?) := by decide +kernel
theorem wsL_law_r4_in : ∀ w ∈ wsL_law_r4, w ∈ lw_tbl := fun w h => lw_byp wsL_law_r4_e w h
set_option maxRecDepth 20000 in
theorem wsL_law_r5_e : wsL_law_r5 = ([677, 678, 793, 684, 686, 693, 694, 695, 635, 696, 697, 698, 699, 700, 701, 702, 703, 704, 705, 707, 679, 713, 714, 715] : List Nat).filterMap (fun i => lw_tbl[i]?) := by decide +kernel
theorem wsL_law_r5_in : ∀ w ∈ wsL_law_r5, w ∈ lw_tbl := fun w h => lw_byp wsL_law_r5_e w h
set_option maxRecDepth 20000 in
theorem wsL_law_r6_e : wsL_law_r6 = ([716, 717, 680, 718, 719, 681, 682, 683, 250, 251, 252, 253, 254, 255, 256, 257, 74, 258, 259, 260, 261, 262, 263, 264] : List Nat).filterMap (fun i => lw_tbl[i]?) := by decide +kernel
theorem wsL_law_r6_in : ∀ w ∈ wsL_law_r6, w ∈ lw_tbl := fun w h => lw_byp wsL_law_r6_e w h
set_option maxRecDepth 20000 in
theorem wsL_law_r7_e : wsL_law_r7 = ([265, 794, 795, 796, 797, 685, 798, 800, 22, 801, 266, 267, 268, 269, 270, 271, 272, 273, 274, 275, 276, 99, 100, 277] : List Nat).filterMap (fun i => lw_tbl[i]?) := by decide +kernel
theorem wsL_law_r7_in : ∀ w ∈ wsL_law_r7, w ∈ lw_tbl := fun w h => lw_byp wsL_law_r7_e w h
set_option maxRecDepth 20000 in
theorem wsL_law_r8_e : wsL_law_r8 = ([279, 278, 52, 280, 282, 0, 283, 284, 286, 1, 287, 307, 309, 288, 290, 2, 291, 292, 293, 294, 295, 296, 297, 298] : List Nat).filterMap (fun i => lw_tbl[i]?) := by decide +kernel
theorem wsL_law_r8_in : ∀ w ∈ wsL_law_r8, w ∈ lw_tbl := fun w h => lw_byp wsL_law_r8_e w h
set_option maxRecDepth 20000 in
theorem wsL_law_r9_e : wsL_law_r9 = ([299, 301, 302, 303, 304, 305, 306, 311, 312, 313, 314, 802, 803, 804, 805, 806, 808, 23, 809, 810, 812, 24, 813, 814] : List Nat).filterMap (fun i => lw_tbl[i]?) := by decide +kernel
theorem wsL_law_r9_in : ∀ w ∈ wsL_law_r9, w ∈ lw_tbl := fun w h => lw_byp wsL_law_r9_e w h
set_option maxRecDepth 20000 in
theorem wsL_law_r10_e : wsL_law_r10 = ([815, 816, 817, 818, 819, 820, 821, 822, 315, 316, 317, 318, 823, 824, 825, 826, 319, 320, 321, 322, 323, 324, 325, 326] : List Nat).filterMap (fun i => lw_tbl[i]?) := by decide +kernel
theorem wsL_law_r10_in : ∀ w ∈ wsL_law_r10, w ∈ lw_tbl := fun w h => lw_byp wsL_law_r10_e w h
set_option maxRecDepth 20000 in
theorem wsL_law_r11_e : wsL_law_r11 = ([328, 3, 329, 330, 331, 332, 333, 827, 828, 829, 830, 831, 832, 833, 334, 335, 336, 337, 338, 339, 340, 341, 342, 343] : List Nat).filterMap (fun i => lw_tbl[i]?) := by decide +kernel
theorem wsL_law_r11_in : ∀ w ∈ wsL_law_r11, w ∈ lw_tbl := fun w h => lw_byp wsL_law_r11_e w h
set_option maxRecDepth 20000 in
theorem wsL_law_r12_e : wsL_law_r12 = ([172, 834, 835, 836, 837, 838, 839, 344, 345, 346, 347, 348, 349, 350, 351, 352, 353, 354, 121, 840, 841, 842, 843, 692] : List Nat).filterMap (fun i => lw_tbl[i]?) := by decide +kernel
theorem wsL_law_r12_in : ∀ w ∈ wsL_law_r12, w ∈ lw_tbl := fun w h => lw_byp wsL_law_r12_e w h
set_option maxRecDepth 20000 in
theorem wsL_law_r13_e : wsL_law_r13 = ([355, 356, 357, 358, 369, 370, 53, 376, 360, 364, 366, 368, 193, 371, 372, 373, 374, 392, 375, 377, 380, 383, 386, 388] : List Nat).filterMap (fun i => lw_tbl[i]?) := by decide +kernel
theorem wsL_law_r13_in : ∀ w ∈ wsL_law_r13, w ∈ lw_tbl := fun w h => lw_byp wsL_law_r13_e w h
set_option maxRecDepth 20000 in
theorem wsL_law_r14_e : wsL_law_r14 = ([390, 412, 415, 417, 419, 195, 196, 420, 422, 4, 423, 424, 426, 5, 427, 428, 430, 6, 431, 468, 436, 55, 437, 469] : List Nat).filterMap (fun i => lw_tbl[i]?) := by decide +kernel
theorem wsL_law_r14_in : ∀ w ∈ wsL_law_r14, w ∈ lw_tbl := fun w h => lw_byp wsL_law_r14_e w h
set_option maxRecDepth 20000 in
theorem wsL_law_r15_e : wsL_law_r15 = ([432, 433, 54, 434, 435, 438, 439, 440, 441, 442, 443, 56, 444, 445, 971, 446, 457, 458, 459, 460, 461, 463, 464, 465] : List Nat).filterMap (fun i => lw_tbl[i]?) := by decide +kernel
theorem wsL_law_r15_in : ∀ w ∈ wsL_law_r15, w ∈ lw_tbl := fun w h => lw_byp wsL_law_r15_e w h
set_option maxRecDepth 20000 in
theorem wsL_law_r16_e : wsL_law_r16 = ([466, 467, 470, 472, 7, 473, 369, 475, 478, 480, 482, 483, 484, 57, 485, 486, 487, 58, 488, 489, 490, 491, 492, 493] : List Nat).filterMap (fun i => lw_tbl[i]?) := by decide +kernel
theorem wsL_law_r16_in : ∀ w ∈ wsL_law_r16, w ∈ lw_tbl := fun w h => lw_byp wsL_law_r16_e w h
set_option maxRecDepth 20000 in
theorem wsL_law_r17_e : wsL_law_r17 = ([494, 495, 496, 498, 501, 503, 505, 510, 506, 508, 8, 509, 844, 845, 846, 847, 691, 511, 512, 513, 514, 515, 517, 9] : List Nat).filterMap (fun i => lw_tbl[i]?) := by decide +kernel
theorem wsL_law_r17_in : ∀ w ∈ wsL_law_r17, w ∈ lw_tbl := fun w h => lw_byp wsL_law_r17_e w h
set_option maxRecDepth 20000 in
theorem wsL_law_r18_e : wsL_law_r18 = ([518, 379, 382, 519, 521, 10, 522, 393, 523, 525, 11, 526, 387, 385, 527, 528, 529, 530, 531, 532, 533, 534, 535, 536] : List Nat).filterMap (fun i => lw_tbl[i]?) := by decide +kernel
theorem wsL_law_r18_in : ∀ w ∈ wsL_law_r18, w ∈ lw_tbl := fun w h => lw_byp wsL_law_r18_e w h
set_option maxRecDepth 20000 in
theorem wsL_law_r19_e : wsL_law_r19 = ([537, 538, 539, 540, 55, 541, 542, 543, 544, 848, 849, 850, 851, 706, 852, 854, 25, 855, 856, 858, 26, 859, 860, 862] : List Nat).filterMap (fun i => lw_tbl[i]?) := by decide +kernel
theorem wsL_law_r19_in : ∀ w ∈ wsL_law_r19, w ∈ lw_tbl := fun w h => lw_byp wsL_law_r19_e w h
set_option maxRecDepth 20000 in
theorem wsL_law_r20_e : wsL_law_r20 = ([27, 863, 864, 866, 28, 867, 875, 868, 870, 29, 871, 872, 873, 874, 876, 878, 30, 879, 545, 546, 547, 548, 549, 551] : List Nat).filterMap (fun i => lw_tbl[i]?) := by decide +kernel
theorem wsL_law_r20_in : ∀ w ∈ wsL_law_r20, w ∈ lw_tbl := fun w h => lw_byp wsL_law_r20_e w h
set_option maxRecDepth 20000 in
theorem wsL_law_r21_e : wsL_law_r21 = ([12, 552, 880, 881, 882, 883, 687, 884, 886, 31, 887, 553, 554, 555, 556, 214, 215, 216, 557, 558, 559, 560, 561, 562] : List Nat).filterMap (fun i => lw_tbl[i]?) := by decide +kernel
theorem wsL_law_r21_in : ∀ w ∈ wsL_law_r21, w ∈ lw_tbl := fun w h => lw_byp wsL_law_r21_e w h
set_option maxRecDepth 20000 in
theorem wsL_law_r22_e : wsL_law_r22 = ([564, 13, 565, 566, 568, 14, 569, 389, 218, 217, 570, 571, 572, 573, 574, 576, 15, 577, 578, 579, 580, 888, 889, 890] : List Nat).filterMap (fun i => lw_tbl[i]?) := by decide +kernel
theorem wsL_law_r22_in : ∀ w ∈ wsL_law_r22, w ∈ lw_tbl := fun w h => lw_byp wsL_law_r22_e w h
set_option maxRecDepth 20000 in
theorem wsL_law_r23_e : wsL_law_r23 = ([891, 688, 689, 690, 892, 894, 32, 895, 896, 898, 33, 899, 581, 582, 583, 584, 900, 901, 902, 903, 585, 586, 587, 588] : List Nat).filterMap (fun i => lw_tbl[i]?) := by decide +kernel
theorem wsL_law_r23_in : ∀ w ∈ wsL_law_r23, w ∈ lw_tbl := fun w h => lw_byp wsL_law_r23_e w h
set_option maxRecDepth 20000 in
theorem wsL_law_r24_e : wsL_law_r24 = ([589, 591, 16, 592, 593, 594, 595, 596, 142, 597, 598, 599, 600, 378, 381, 384, 601, 603, 17, 604, 605, 606, 607, 608] : List Nat).filterMap (fun i => lw_tbl[i]?) := by decide +kernel
theorem wsL_law_r24_in : ∀ w ∈ wsL_law_r24, w ∈ lw_tbl := fun w h => lw_byp wsL_law_r24_e w h
set_option maxRecDepth 20000 in
theorem wsL_law_r25_e : wsL_law_r25 = ([144, 145, 143, 609, 611, 18, 612, 613, 614, 616, 19, 617, 618, 619, 625, 626, 627, 620, 622, 20, 628, 630, 21, 631] : List Nat).filterMap (fun i => lw_tbl[i]?) := by decide +kernel
theorem wsL_law_r25_in : ∀ w ∈ wsL_law_r25, w ∈ lw_tbl := fun w h => lw_byp wsL_law_r25_e w h
set_option maxRecDepth 20000 in
theorem wsL_law_r26_e : wsL_law_r26 = ([623, 632, 633, 634, 904, 905, 906, 907, 711, 908, 910, 34, 911, 710, 912, 914, 35, 915, 708, 709, 712, 916, 918, 36] : List Nat).filterMap (fun i => lw_tbl[i]?) := by decide +kernel
theorem wsL_law_r26_in : ∀ w ∈ wsL_law_r26, w ∈ lw_tbl := fun w h => lw_byp wsL_law_r26_e w h
set_option maxRecDepth 20000 in
theorem wsL_law_r27_e : wsL_law_r27 = ([919, 920, 921, 923, 37, 924, 925, 927, 38, 928, 929, 931, 39, 932, 933, 935, 40, 936, 636, 637, 638, 639, 640, 641] : List Nat).filterMap (fun i => lw_tbl[i]?) := by decide +kernel
theorem wsL_law_r27_in : ∀ w ∈ wsL_law_r27, w ∈ lw_tbl := fun w h => lw_byp wsL_law_r27_e w h
set_option maxRecDepth 20000 in
theorem wsL_law_r28_e : wsL_law_r28 = ([642, 643, 937, 938, 939, 940, 644, 645, 646, 647, 648, 649, 650, 651, 941, 942, 943, 944, 652, 653, 654, 655, 656, 945] : List Nat).filterMap (fun i => lw_tbl[i]?) := by decide +kernel
theorem wsL_law_r28_in : ∀ w ∈ wsL_law_r28, w ∈ lw_tbl := fun w h => lw_byp wsL_law_r28_e w h
set_option maxRecDepth 20000 in
theorem wsL_law_r29_e : wsL_law_r29 = ([946, 947, 948, 657, 658, 659, 660, 949, 950, 951, 952, 661, 662, 663, 664, 391, 953, 954, 955, 956, 665, 666, 667, 668] : List Nat).filterMap (fun i => lw_tbl[i]?) := by decide +kernel
theorem wsL_law_r29_in : ∀ w ∈ wsL_law_r29, w ∈ lw_tbl := fun w h => lw_byp wsL_law_r29_e w h
set_option maxRecDepth 20000 in
theorem wsL_law_r30_e : wsL_law_r30 = ([669, 670, 671, 672, 957, 958, 959, 960] : List Nat).filterMap (fun i => lw_tbl[i]?) := by decide +kernel
theorem wsL_law_r30_in : ∀ w ∈ wsL_law_r30, w ∈ lw_tbl := fun w h => lw_byp wsL_law_r30_e w h
set_option maxRecDepth 20000 in
theorem wsX60_e : wsX60 = ([219, 221, 223, 225, 227, 229, 231, 233, 235, 237, 239, 241, 243, 245, 247] : List Nat).filterMap (fun i => lw_tbl[i]?) := by decide +kernel
theorem wsX60_in : ∀ w ∈ wsX60, w ∈ lw_tbl := fun w h => lw_byp wsX60_e w h
set_option maxRecDepth 20000 in
theorem wsX70_e : wsX70 = ([720, 722, 724, 726, 728, 730, 732, 734, 736, 738, 740, 742, 744, 746, 748, 750, 752, 754, 756, 758, 760, 762, 764, 766, 768, 770, 772, 774, 776, 778, 780, 782, 784, 786, 788, 790] : List Nat).filterMap (fun i => lw_tbl[i]?) := by decide +kernel
theorem wsX70_in : ∀ w ∈ wsX70, w ∈ lw_tbl := fun w h => lw_byp wsX70_e w h
set_option maxRecDepth 20000 in
theorem wsX30_e : wsX30 = ([75, 77] : List Nat).filterMap (fun i => lw_tbl[i]?) := by decide +kernel
theorem wsX30_in : ∀ w ∈ wsX30, w ∈ lw_tbl := fun w h => lw_byp wsX30_e w h
set_option maxRecDepth 20000 in
theorem wsX10_e : wsX10 = ([101, 103, 105, 107, 109] : List Nat).filterMap (fun i => lw_tbl[i]?) := by decide +kernel
theorem wsX10_in : ∀ w ∈ wsX10, w ∈ lw_tbl := fun w h => lw_byp wsX10_e w h
set_option maxRecDepth 20000 in
theorem wsX40_e : wsX40 = ([122, 124, 126, 128] : List Nat).filterMap (fun i => lw_tbl[i]?) := by decide +kernel
theorem wsX40_in : ∀ w ∈ wsX40, w ∈ lw_tbl := fun w h => lw_byp wsX40_e w h
set_option maxRecDepth 20000 in
theorem wsX20_e : wsX20 = ([146, 148, 150, 152, 154, 156, 158, 160, 162] : List Nat).filterMap (fun i => lw_tbl[i]?) := by decide +kernel
theorem wsX20_in : ∀ w ∈ wsX20, w ∈ lw_tbl := fun w h => lw_byp wsX20_e w h
set_option maxRecDepth 20000 in
theorem wsX50_e : wsX50 = ([173, 175] : List Nat).filterMap (fun i => lw_tbl[i]?) := by decide +kernel
theorem wsX50_in : ∀ w ∈ wsX50, w ∈ lw_tbl := fun w h => lw_byp wsX50_e w h
set_option maxRecDepth 20000 in
theorem wsJx4a65c0_e : wsJx4a65c0 = ([201, 197, 199] : List Nat).filterMap (fun i => lw_tbl[i]?) := by decide +kernel
theorem wsJx4a65c0_in : ∀ w ∈ wsJx4a65c0, w ∈ lw_tbl := fun w h => lw_byp wsJx4a65c0_e w h
set_option maxRecDepth 20000 in
theorem wsX00_e : wsX00 = ([394, 396, 398, 400, 402, 404, 406, 408] : List Nat).filterMap (fun i => lw_tbl[i]?) := by decide +kernel
theorem wsX00_in : ∀ w ∈ wsX00, w ∈ lw_tbl := fun w h => lw_byp wsX00_e w h
theorem wsL_law_in : ∀ w ∈ wsL_law, w ∈ lw_tbl := (lw_two (lw_two (lw_two (lw_two (lw_two (lw_two (lw_two (lw_two (lw_two (lw_two (lw_two wsL_law_r1_in (lw_two wsL_law_r2_in (lw_two wsL_law_r3_in (lw_two wsL_law_r4_in (lw_two wsL_law_r5_in (lw_two wsL_law_r6_in (lw_two wsL_law_r7_in (lw_two wsL_law_r8_in (lw_two wsL_law_r9_in (lw_two wsL_law_r10_in (lw_two wsL_law_r11_in (lw_two wsL_law_r12_in (lw_two wsL_law_r13_in (lw_two wsL_law_r14_in (lw_two wsL_law_r15_in (lw_two wsL_law_r16_in (lw_two wsL_law_r17_in (lw_two wsL_law_r18_in (lw_two wsL_law_r19_in (lw_two wsL_law_r20_in (lw_two wsL_law_r21_in (lw_two wsL_law_r22_in (lw_two wsL_law_r23_in (lw_two wsL_law_r24_in (lw_two wsL_law_r25_in (lw_two wsL_law_r26_in (lw_two wsL_law_r27_in (lw_two wsL_law_r28_in (lw_two wsL_law_r29_in wsL_law_r30_in))))))))))))))))))))))))))))) wsX60_in) wsX70_in) wsX30_in) wsX10_in) wsX40_in) wsX20_in) wsX50_in) wsJx4a65c0_in) wsX00_in) (fun _ h => absurd h List.not_mem_nil))
