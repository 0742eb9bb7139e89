/-! the words of the law stand in the tables, by their places -/
theorem wl_1 : ∀ w ∈ wsL_law_r1, w ∈ lw_tbl := fun w h => by
  have e : wsL_law_r1 = ([70, 71, 55, 742, 743, 63, 72, 73, 74, 75, 76, 77, 78, 79, 56, 260, 194, 195, 60, 261, 211, 212, 61, 262] : List Nat).filterMap (fun i => lw_tbl[i]?) := by decide +kernel
  rw [e] at h
  obtain ⟨i, -, hi⟩ := List.mem_filterMap.mp h
  exact List.mem_of_getElem? hi
theorem wl_2 : ∀ w ∈ wsL_law_r2, w ∈ lw_tbl := fun w h => by
  have e : wsL_law_r2 = ([239, 240, 62, 263, 80, 81, 82, 83, 84, 85, 57, 159, 98, 161, 100, 101, 58, 162, 164, 165, 167, 169, 128, 59] : List Nat).filterMap (fun i => lw_tbl[i]?) := by decide +kernel
  rw [e] at h
  obtain ⟨i, -, hi⟩ := List.mem_filterMap.mp h
  exact List.mem_of_getElem? hi
theorem wl_3 : ∀ w ∈ wsL_law_r3, w ∈ lw_tbl := fun w h => by
  have e : wsL_law_r3 = ([86, 87, 88, 89, 97, 90, 103, 104, 105, 106, 108, 111, 115, 117, 107, 130, 131, 132, 133, 135, 134, 151, 152, 153] : List Nat).filterMap (fun i => lw_tbl[i]?) := by decide +kernel
  rw [e] at h
  obtain ⟨i, -, hi⟩ := List.mem_filterMap.mp h
  exact List.mem_of_getElem? hi
theorem wl_4 : ∀ w ∈ wsL_law_r4, w ∈ lw_tbl := fun w h => by
  have e : wsL_law_r4 = ([154, 91, 155, 156, 157, 158, 196, 197, 198, 199, 200, 203, 202, 214, 215, 216, 217, 219, 221, 218, 242, 243, 244, 245] : List Nat).filterMap (fun i => lw_tbl[i]?) := by decide +kernel
  rw [e] at h
  obtain ⟨i, -, hi⟩ := List.mem_filterMap.mp h
  exact List.mem_of_getElem? hi
theorem wl_5 : ∀ w ∈ wsL_law_r5, w ∈ lw_tbl := fun w h => by
  have e : wsL_law_r5 = ([247, 248, 249, 250, 246, 744, 745, 746, 747, 748, 749, 751, 753, 757, 273, 274, 275, 276, 277, 278, 279, 280, 281, 282] : List Nat).filterMap (fun i => lw_tbl[i]?) := by decide +kernel
  rw [e] at h
  obtain ⟨i, -, hi⟩ := List.mem_filterMap.mp h
  exact List.mem_of_getElem? hi
theorem wl_6 : ∀ w ∈ wsL_law_r6, w ∈ lw_tbl := fun w h => by
  have e : wsL_law_r6 = ([283, 284, 285, 286, 287, 288, 289, 290, 204, 291, 293, 0, 294, 295, 296, 297, 298, 172, 173, 299, 300, 301, 302, 303] : List Nat).filterMap (fun i => lw_tbl[i]?) := by decide +kernel
  rw [e] at h
  obtain ⟨i, -, hi⟩ := List.mem_filterMap.mp h
  exact List.mem_of_getElem? hi
theorem wl_7 : ∀ w ∈ wsL_law_r7, w ∈ lw_tbl := fun w h => by
  have e : wsL_law_r7 = ([304, 305, 306, 307, 308, 309, 310, 311, 312, 313, 314, 315, 316, 317, 318, 138, 141, 319, 320, 786, 787, 788, 789, 790] : List Nat).filterMap (fun i => lw_tbl[i]?) := by decide +kernel
  rw [e] at h
  obtain ⟨i, -, hi⟩ := List.mem_filterMap.mp h
  exact List.mem_of_getElem? hi
theorem wl_8 : ∀ w ∈ wsL_law_r8, w ∈ lw_tbl := fun w h => by
  have e : wsL_law_r8 = ([791, 792, 793, 795, 15, 796, 750, 321, 322, 323, 324, 797, 798, 799, 800, 325, 326, 327, 328, 329, 330, 331, 332, 333] : List Nat).filterMap (fun i => lw_tbl[i]?) := by decide +kernel
  rw [e] at h
  obtain ⟨i, -, hi⟩ := List.mem_filterMap.mp h
  exact List.mem_of_getElem? hi
theorem wl_9 : ∀ w ∈ wsL_law_r9, w ∈ lw_tbl := fun w h => by
  have e : wsL_law_r9 = ([334, 335, 336, 337, 338, 339, 340, 341, 342, 343, 344, 345, 346, 347, 348, 349, 350, 351, 352, 353, 354, 355, 356, 358] : List Nat).filterMap (fun i => lw_tbl[i]?) := by decide +kernel
  rw [e] at h
  obtain ⟨i, -, hi⟩ := List.mem_filterMap.mp h
  exact List.mem_of_getElem? hi
theorem wl_10 : ∀ w ∈ wsL_law_r10, w ∈ lw_tbl := fun w h => by
  have e : wsL_law_r10 = ([1, 359, 360, 361, 362, 363, 801, 802, 803, 804, 805, 806, 807, 808, 810, 16, 811, 812, 814, 17, 815, 816, 817, 818] : List Nat).filterMap (fun i => lw_tbl[i]?) := by decide +kernel
  rw [e] at h
  obtain ⟨i, -, hi⟩ := List.mem_filterMap.mp h
  exact List.mem_of_getElem? hi
theorem wl_11 : ∀ w ∈ wsL_law_r11, w ∈ lw_tbl := fun w h => by
  have e : wsL_law_r11 = ([364, 365, 366, 367, 368, 369, 371, 2, 372, 819, 820, 821, 822, 823, 825, 18, 826, 827, 829, 19, 830, 373, 374, 375] : List Nat).filterMap (fun i => lw_tbl[i]?) := by decide +kernel
  rw [e] at h
  obtain ⟨i, -, hi⟩ := List.mem_filterMap.mp h
  exact List.mem_of_getElem? hi
theorem wl_12 : ∀ w ∈ wsL_law_r12, w ∈ lw_tbl := fun w h => by
  have e : wsL_law_r12 = ([376, 831, 832, 833, 834, 377, 378, 379, 380, 835, 836, 837, 838, 381, 382, 383, 384, 385, 386, 387, 388, 389, 390, 391] : List Nat).filterMap (fun i => lw_tbl[i]?) := by decide +kernel
  rw [e] at h
  obtain ⟨i, -, hi⟩ := List.mem_filterMap.mp h
  exact List.mem_of_getElem? hi
theorem wl_13 : ∀ w ∈ wsL_law_r13, w ∈ lw_tbl := fun w h => by
  have e : wsL_law_r13 = ([392, 393, 394, 401, 402, 64, 403, 395, 396, 397, 398, 399, 400, 404, 405, 839, 840, 841, 842, 843, 844, 845, 846, 848] : List Nat).filterMap (fun i => lw_tbl[i]?) := by decide +kernel
  rw [e] at h
  obtain ⟨i, -, hi⟩ := List.mem_filterMap.mp h
  exact List.mem_of_getElem? hi
theorem wl_14 : ∀ w ∈ wsL_law_r14, w ∈ lw_tbl := fun w h => by
  have e : wsL_law_r14 = ([20, 849, 850, 852, 21, 853, 854, 855, 856, 857, 859, 22, 860, 406, 407, 408, 409, 410, 411, 412, 413, 414, 415, 416] : List Nat).filterMap (fun i => lw_tbl[i]?) := by decide +kernel
  rw [e] at h
  obtain ⟨i, -, hi⟩ := List.mem_filterMap.mp h
  exact List.mem_of_getElem? hi
theorem wl_15 : ∀ w ∈ wsL_law_r15, w ∈ lw_tbl := fun w h => by
  have e : wsL_law_r15 = ([417, 418, 419, 420, 421, 422, 423, 424, 65, 425, 426, 427, 428, 429, 430, 431, 432, 433, 434, 435, 436, 437, 861, 862] : List Nat).filterMap (fun i => lw_tbl[i]?) := by decide +kernel
  rw [e] at h
  obtain ⟨i, -, hi⟩ := List.mem_filterMap.mp h
  exact List.mem_of_getElem? hi
theorem wl_16 : ∀ w ∈ wsL_law_r16, w ∈ lw_tbl := fun w h => by
  have e : wsL_law_r16 = ([863, 864, 865, 867, 23, 868, 869, 871, 24, 872, 873, 875, 25, 876, 877, 879, 26, 880, 881, 883, 27, 884, 438, 439] : List Nat).filterMap (fun i => lw_tbl[i]?) := by decide +kernel
  rw [e] at h
  obtain ⟨i, -, hi⟩ := List.mem_filterMap.mp h
  exact List.mem_of_getElem? hi
theorem wl_17 : ∀ w ∈ wsL_law_r17, w ∈ lw_tbl := fun w h => by
  have e : wsL_law_r17 = ([440, 441, 442, 443, 444, 445, 446, 447, 448, 449, 450, 451, 452, 885, 886, 887, 888, 889, 891, 28, 892, 453, 454, 455] : List Nat).filterMap (fun i => lw_tbl[i]?) := by decide +kernel
  rw [e] at h
  obtain ⟨i, -, hi⟩ := List.mem_filterMap.mp h
  exact List.mem_of_getElem? hi
theorem wl_18 : ∀ w ∈ wsL_law_r18, w ∈ lw_tbl := fun w h => by
  have e : wsL_law_r18 = ([456, 457, 458, 459, 460, 782, 783, 784, 785, 461, 462, 463, 464, 465, 466, 467, 468, 469, 470, 471, 472, 473, 474, 475] : List Nat).filterMap (fun i => lw_tbl[i]?) := by decide +kernel
  rw [e] at h
  obtain ⟨i, -, hi⟩ := List.mem_filterMap.mp h
  exact List.mem_of_getElem? hi
theorem wl_19 : ∀ w ∈ wsL_law_r19, w ∈ lw_tbl := fun w h => by
  have e : wsL_law_r19 = ([476, 477, 478, 479, 480, 481, 482, 483, 484, 485, 486, 487, 488, 489, 893, 894, 895, 896, 752, 897, 899, 29, 900, 901] : List Nat).filterMap (fun i => lw_tbl[i]?) := by decide +kernel
  rw [e] at h
  obtain ⟨i, -, hi⟩ := List.mem_filterMap.mp h
  exact List.mem_of_getElem? hi
theorem wl_20 : ∀ w ∈ wsL_law_r20, w ∈ lw_tbl := fun w h => by
  have e : wsL_law_r20 = ([903, 30, 904, 905, 907, 31, 908, 909, 911, 32, 912, 913, 915, 33, 916, 490, 491, 492, 493, 494, 495, 496, 917, 918] : List Nat).filterMap (fun i => lw_tbl[i]?) := by decide +kernel
  rw [e] at h
  obtain ⟨i, -, hi⟩ := List.mem_filterMap.mp h
  exact List.mem_of_getElem? hi
theorem wl_21 : ∀ w ∈ wsL_law_r21, w ∈ lw_tbl := fun w h => by
  have e : wsL_law_r21 = ([919, 920, 497, 498, 499, 500, 501, 502, 503, 504, 506, 507, 508, 509, 510, 921, 922, 923, 924, 925, 927, 34, 928, 929] : List Nat).filterMap (fun i => lw_tbl[i]?) := by decide +kernel
  rw [e] at h
  obtain ⟨i, -, hi⟩ := List.mem_filterMap.mp h
  exact List.mem_of_getElem? hi
theorem wl_22 : ∀ w ∈ wsL_law_r22, w ∈ lw_tbl := fun w h => by
  have e : wsL_law_r22 = ([931, 35, 932, 933, 935, 36, 936, 511, 512, 513, 514, 515, 516, 517, 518, 519, 937, 938, 939, 940, 520, 521, 522, 523] : List Nat).filterMap (fun i => lw_tbl[i]?) := by decide +kernel
  rw [e] at h
  obtain ⟨i, -, hi⟩ := List.mem_filterMap.mp h
  exact List.mem_of_getElem? hi
theorem wl_23 : ∀ w ∈ wsL_law_r23, w ∈ lw_tbl := fun w h => by
  have e : wsL_law_r23 = ([524, 941, 942, 943, 944, 525, 526, 527, 528, 529, 530, 531, 532, 533, 535, 3, 536, 537, 945, 946, 947, 948, 538, 539] : List Nat).filterMap (fun i => lw_tbl[i]?) := by decide +kernel
  rw [e] at h
  obtain ⟨i, -, hi⟩ := List.mem_filterMap.mp h
  exact List.mem_of_getElem? hi
theorem wl_24 : ∀ w ∈ wsL_law_r24, w ∈ lw_tbl := fun w h => by
  have e : wsL_law_r24 = ([540, 541, 542, 543, 544, 545, 546, 547, 548, 549, 550, 551, 552, 553, 554, 555, 557, 4, 558, 559, 560, 561, 562, 563] : List Nat).filterMap (fun i => lw_tbl[i]?) := by decide +kernel
  rw [e] at h
  obtain ⟨i, -, hi⟩ := List.mem_filterMap.mp h
  exact List.mem_of_getElem? hi
theorem wl_25 : ∀ w ∈ wsL_law_r25, w ∈ lw_tbl := fun w h => by
  have e : wsL_law_r25 = ([564, 565, 566, 568, 569, 571, 5, 572, 573, 574, 575, 576, 577, 578, 579, 580, 581, 582, 992, 993, 994, 995, 754, 953] : List Nat).filterMap (fun i => lw_tbl[i]?) := by decide +kernel
  rw [e] at h
  obtain ⟨i, -, hi⟩ := List.mem_filterMap.mp h
  exact List.mem_of_getElem? hi
theorem wl_26 : ∀ w ∈ wsL_law_r26, w ∈ lw_tbl := fun w h => by
  have e : wsL_law_r26 = ([955, 37, 956, 957, 959, 38, 960, 961, 963, 39, 964, 965, 967, 40, 968, 969, 970, 971, 583, 584, 585, 586, 949, 950] : List Nat).filterMap (fun i => lw_tbl[i]?) := by decide +kernel
  rw [e] at h
  obtain ⟨i, -, hi⟩ := List.mem_filterMap.mp h
  exact List.mem_of_getElem? hi
theorem wl_27 : ∀ w ∈ wsL_law_r27, w ∈ lw_tbl := fun w h => by
  have e : wsL_law_r27 = ([951, 952, 972, 974, 41, 975, 587, 588, 589, 590, 591, 592, 593, 594, 595, 597, 6, 598, 599, 600, 601, 602, 603, 604] : List Nat).filterMap (fun i => lw_tbl[i]?) := by decide +kernel
  rw [e] at h
  obtain ⟨i, -, hi⟩ := List.mem_filterMap.mp h
  exact List.mem_of_getElem? hi
theorem wl_28 : ∀ w ∈ wsL_law_r28, w ∈ lw_tbl := fun w h => by
  have e : wsL_law_r28 = ([605, 606, 608, 7, 609, 610, 611, 612, 613, 976, 977, 978, 979, 980, 982, 42, 983, 984, 986, 43, 987, 988, 990, 44] : List Nat).filterMap (fun i => lw_tbl[i]?) := by decide +kernel
  rw [e] at h
  obtain ⟨i, -, hi⟩ := List.mem_filterMap.mp h
  exact List.mem_of_getElem? hi
theorem wl_29 : ∀ w ∈ wsL_law_r29, w ∈ lw_tbl := fun w h => by
  have e : wsL_law_r29 = ([991, 614, 615, 616, 617, 996, 997, 998, 999, 618, 619, 620, 621, 1000, 1001, 1002, 1003, 622, 623, 624, 625, 626, 1004, 1005] : List Nat).filterMap (fun i => lw_tbl[i]?) := by decide +kernel
  rw [e] at h
  obtain ⟨i, -, hi⟩ := List.mem_filterMap.mp h
  exact List.mem_of_getElem? hi
theorem wl_30 : ∀ w ∈ wsL_law_r30, w ∈ lw_tbl := fun w h => by
  have e : wsL_law_r30 = ([1006, 1007, 627, 628, 629, 630, 631, 632, 633, 634, 225, 226, 223, 635, 636, 637, 639, 8, 640, 641, 643, 9, 644, 645] : List Nat).filterMap (fun i => lw_tbl[i]?) := by decide +kernel
  rw [e] at h
  obtain ⟨i, -, hi⟩ := List.mem_filterMap.mp h
  exact List.mem_of_getElem? hi
theorem wl_31 : ∀ w ∈ wsL_law_r31, w ∈ lw_tbl := fun w h => by
  have e : wsL_law_r31 = ([646, 647, 648, 655, 657, 10, 658, 659, 660, 661, 66, 662, 1055, 663, 664, 665, 666, 667, 1056, 669, 670, 671, 672, 673] : List Nat).filterMap (fun i => lw_tbl[i]?) := by decide +kernel
  rw [e] at h
  obtain ⟨i, -, hi⟩ := List.mem_filterMap.mp h
  exact List.mem_of_getElem? hi
theorem wl_32 : ∀ w ∈ wsL_law_r32, w ∈ lw_tbl := fun w h => by
  have e : wsL_law_r32 = ([674, 675, 676, 677, 678, 67, 679, 680, 681, 682, 683, 685, 686, 68, 687, 688, 689, 69, 690, 691, 692, 693, 694, 695] : List Nat).filterMap (fun i => lw_tbl[i]?) := by decide +kernel
  rw [e] at h
  obtain ⟨i, -, hi⟩ := List.mem_filterMap.mp h
  exact List.mem_of_getElem? hi
theorem wl_33 : ∀ w ∈ wsL_law_r33, w ∈ lw_tbl := fun w h => by
  have e : wsL_law_r33 = ([696, 697, 698, 699, 700, 701, 703, 705, 707, 709, 11, 710, 711, 713, 12, 714, 715, 716, 718, 13, 719, 720, 721, 722] : List Nat).filterMap (fun i => lw_tbl[i]?) := by decide +kernel
  rw [e] at h
  obtain ⟨i, -, hi⟩ := List.mem_filterMap.mp h
  exact List.mem_of_getElem? hi
theorem wl_34 : ∀ w ∈ wsL_law_r34, w ∈ lw_tbl := fun w h => by
  have e : wsL_law_r34 = ([723, 724, 725, 726, 728, 14, 729, 730, 731, 1008, 1009, 1010, 1011, 755, 1012, 1014, 45, 1015, 756, 758, 1016, 1018, 46, 1019] : List Nat).filterMap (fun i => lw_tbl[i]?) := by decide +kernel
  rw [e] at h
  obtain ⟨i, -, hi⟩ := List.mem_filterMap.mp h
  exact List.mem_of_getElem? hi
theorem wl_35 : ∀ w ∈ wsL_law_r35, w ∈ lw_tbl := fun w h => by
  have e : wsL_law_r35 = ([1020, 1022, 47, 1023, 1024, 1026, 48, 1027, 1028, 1029, 1030, 1031, 1033, 49, 1034, 1035, 1037, 50, 1038, 1039, 1041, 51, 1042, 1043] : List Nat).filterMap (fun i => lw_tbl[i]?) := by decide +kernel
  rw [e] at h
  obtain ⟨i, -, hi⟩ := List.mem_filterMap.mp h
  exact List.mem_of_getElem? hi
theorem wl_36 : ∀ w ∈ wsL_law_r36, w ∈ lw_tbl := fun w h => by
  have e : wsL_law_r36 = ([1045, 52, 1046, 1047, 1049, 53, 1050, 733, 734, 735, 736, 737, 738, 739, 740, 741, 1051, 1052, 1053, 1054] : List Nat).filterMap (fun i => lw_tbl[i]?) := by decide +kernel
  rw [e] at h
  obtain ⟨i, -, hi⟩ := List.mem_filterMap.mp h
  exact List.mem_of_getElem? hi
theorem wl_X8 : ∀ w ∈ wsX80, w ∈ lw_tbl := by decide +kernel
theorem wl_X9 : ∀ w ∈ wsX90, w ∈ lw_tbl := by decide +kernel
theorem wl_X7 : ∀ w ∈ wsX70, w ∈ lw_tbl := by decide +kernel
theorem wl_X0 : ∀ w ∈ wsX00, w ∈ lw_tbl := by decide +kernel
theorem wl_X3 : ∀ w ∈ wsX30, w ∈ lw_tbl := by decide +kernel
theorem wl_X4 : ∀ w ∈ wsX40, w ∈ lw_tbl := by decide +kernel
theorem wl_X5 : ∀ w ∈ wsX50, w ∈ lw_tbl := by decide +kernel
theorem wl_X2 : ∀ w ∈ wsX20, w ∈ lw_tbl := by decide +kernel
theorem wl_X6 : ∀ w ∈ wsX60, w ∈ lw_tbl := by decide +kernel
theorem wsL_law_in : ∀ w ∈ wsL_law, w ∈ lw_tbl := (List.forall_mem_append.mpr ⟨(List.forall_mem_append.mpr ⟨(List.forall_mem_append.mpr ⟨(List.forall_mem_append.mpr ⟨(List.forall_mem_append.mpr ⟨(List.forall_mem_append.mpr ⟨(List.forall_mem_append.mpr ⟨(List.forall_mem_append.mpr ⟨(List.forall_mem_append.mpr ⟨(List.forall_mem_append.mpr ⟨(List.forall_mem_append.mpr ⟨wl_1, (List.forall_mem_append.mpr ⟨wl_2, (List.forall_mem_append.mpr ⟨wl_3, (List.forall_mem_append.mpr ⟨wl_4, (List.forall_mem_append.mpr ⟨wl_5, (List.forall_mem_append.mpr ⟨wl_6, (List.forall_mem_append.mpr ⟨wl_7, (List.forall_mem_append.mpr ⟨wl_8, (List.forall_mem_append.mpr ⟨wl_9, (List.forall_mem_append.mpr ⟨wl_10, (List.forall_mem_append.mpr ⟨wl_11, (List.forall_mem_append.mpr ⟨wl_12, (List.forall_mem_append.mpr ⟨wl_13, (List.forall_mem_append.mpr ⟨wl_14, (List.forall_mem_append.mpr ⟨wl_15, (List.forall_mem_append.mpr ⟨wl_16, (List.forall_mem_append.mpr ⟨wl_17, (List.forall_mem_append.mpr ⟨wl_18, (List.forall_mem_append.mpr ⟨wl_19, (List.forall_mem_append.mpr ⟨wl_20, (List.forall_mem_append.mpr ⟨wl_21, (List.forall_mem_append.mpr ⟨wl_22, (List.forall_mem_append.mpr ⟨wl_23, (List.forall_mem_append.mpr ⟨wl_24, (List.forall_mem_append.mpr ⟨wl_25, (List.forall_mem_append.mpr ⟨wl_26, (List.forall_mem_append.mpr ⟨wl_27, (List.forall_mem_append.mpr ⟨wl_28, (List.forall_mem_append.mpr ⟨wl_29, (List.forall_mem_append.mpr ⟨wl_30, (List.forall_mem_append.mpr ⟨wl_31, (List.forall_mem_append.mpr ⟨wl_32, (List.forall_mem_append.mpr ⟨wl_33, (List.forall_mem_append.mpr ⟨wl_34, (List.forall_mem_append.mpr ⟨wl_35, wl_36⟩)⟩)⟩)⟩)⟩)⟩)⟩)⟩)⟩)⟩)⟩)⟩)⟩)⟩)⟩)⟩)⟩)⟩)⟩)⟩)⟩)⟩)⟩)⟩)⟩)⟩)⟩)⟩)⟩)⟩)⟩)⟩)⟩)⟩)⟩), wl_X8⟩), wl_X9⟩), wl_X7⟩), wl_X0⟩), wl_X3⟩), wl_X4⟩), wl_X5⟩), wl_X2⟩), wl_X6⟩), fun _ h => absurd h List.not_mem_nil⟩)
