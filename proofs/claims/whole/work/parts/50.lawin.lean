theorem mem_pl {ws big : List Cond} (ps : List Nat) (h : ws = ps.filterMap (fun i => big[i]?)) : ∀ w ∈ ws, w ∈ big := by
  intro w hw
  rw [h] at hw
  obtain ⟨i, -, hi⟩ := List.mem_filterMap.mp hw
  exact List.mem_of_getElem? hi
theorem in_wsL_law_r1 : ∀ w ∈ wsL_law_r1, w ∈ lw_tbl := mem_pl [95, 96, 85, 635, 636, 91, 97, 98, 99, 100, 101, 102, 103, 104, 86, 271, 147, 148, 87, 272, 168, 169, 88, 273] (by decide +kernel)
theorem in_wsL_law_r2 : ∀ w ∈ wsL_law_r2, w ∈ lw_tbl := mem_pl [231, 232, 89, 274, 251, 252, 90, 275, 276, 277, 106, 107, 108, 146, 109, 113, 117, 121, 123, 126, 129, 150, 151, 152] (by decide +kernel)
theorem in_wsL_law_r3 : ∀ w ∈ wsL_law_r3, w ∈ lw_tbl := mem_pl [153, 154, 156, 158, 171, 172, 173, 174, 175, 176, 177, 234, 235, 236, 237, 238, 239, 240, 254, 255, 256, 257, 260, 261] (by decide +kernel)
theorem in_wsL_law_r4 : ∀ w ∈ wsL_law_r4, w ∈ lw_tbl := mem_pl [262, 637, 638, 639, 640, 641, 642, 720, 645, 646, 649, 650, 651, 655, 661, 293, 294, 295, 296, 456, 297, 298, 92, 299] (by decide +kernel)
theorem in_wsL_law_r5 : ∀ w ∈ wsL_law_r5, w ∈ lw_tbl := mem_pl [300, 301, 302, 305, 0, 306, 307, 310, 1, 311, 312, 313, 93, 314, 316, 317, 318, 320, 2, 321, 322, 324, 3, 325] (by decide +kernel)
theorem in_wsL_law_r6 : ∀ w ∈ wsL_law_r6, w ∈ lw_tbl := mem_pl [326, 328, 4, 329, 332, 5, 333, 336, 6, 337, 338, 340, 7, 341, 344, 8, 345, 348, 9, 349, 352, 10, 353, 354] (by decide +kernel)
theorem in_wsL_law_r7 : ∀ w ∈ wsL_law_r7, w ∈ lw_tbl := mem_pl [356, 11, 357, 359, 361, 12, 362, 363, 365, 13, 366, 369, 14, 370, 371, 373, 15, 374, 375, 377, 16, 378, 379, 380] (by decide +kernel)
theorem in_wsL_law_r8 : ∀ w ∈ wsL_law_r8, w ∈ lw_tbl := mem_pl [381, 382, 383, 94, 384, 385, 386, 387, 388, 390, 17, 391, 394, 18, 395, 398, 19, 399, 401, 403, 20, 404, 178, 179] (by decide +kernel)
theorem in_wsL_law_r9 : ∀ w ∈ wsL_law_r9, w ∈ lw_tbl := mem_pl [195, 184, 194, 405, 407, 21, 408, 186, 188, 190, 192, 409, 411, 22, 412, 181, 180, 413, 415, 23, 416, 183, 182, 418] (by decide +kernel)
theorem in_wsL_law_r10 : ∀ w ∈ wsL_law_r10, w ∈ lw_tbl := mem_pl [420, 24, 421, 422, 424, 426, 25, 427, 429, 431, 26, 432, 434, 436, 27, 437, 440, 28, 441, 442, 444, 29, 445, 448] (by decide +kernel)
theorem in_wsL_law_r11 : ∀ w ∈ wsL_law_r11, w ∈ lw_tbl := mem_pl [30, 449, 454, 31, 455, 721, 722, 723, 724, 652, 653, 648, 643, 647, 834, 725, 727, 50, 728, 729, 731, 51, 732, 733] (by decide +kernel)
theorem in_wsL_law_r12 : ∀ w ∈ wsL_law_r12, w ∈ lw_tbl := mem_pl [734, 735, 736, 738, 52, 739, 740, 742, 53, 743, 744, 746, 54, 747, 748, 750, 55, 751, 752, 754, 56, 755, 756, 758] (by decide +kernel)
theorem in_wsL_law_r13 : ∀ w ∈ wsL_law_r13, w ∈ lw_tbl := mem_pl [57, 759, 760, 762, 58, 763, 764, 766, 59, 767, 768, 770, 60, 771, 772, 774, 61, 775, 776, 778, 62, 779, 780, 782] (by decide +kernel)
theorem in_wsL_law_r14 : ∀ w ∈ wsL_law_r14, w ∈ lw_tbl := mem_pl [63, 783, 784, 786, 64, 787, 788, 790, 65, 791, 792, 794, 66, 795, 796, 797, 798, 799, 801, 67, 802, 656, 657, 803] (by decide +kernel)
theorem in_wsL_law_r15 : ∀ w ∈ wsL_law_r15, w ∈ lw_tbl := mem_pl [805, 68, 806, 654, 658, 659, 660, 662, 663, 664, 665, 666, 807, 809, 69, 810, 811, 813, 70, 814, 815, 817, 71, 818] (by decide +kernel)
theorem in_wsL_law_r16 : ∀ w ∈ wsL_law_r16, w ∈ lw_tbl := mem_pl [819, 821, 72, 822, 823, 824, 825, 826, 828, 73, 829, 830, 832, 74, 833, 457, 458, 459, 460, 462, 466, 32, 467, 468] (by decide +kernel)
theorem in_wsL_law_r17 : ∀ w ∈ wsL_law_r17, w ∈ lw_tbl := mem_pl [835, 836, 837, 838, 839, 840, 842, 75, 843, 469, 470, 471, 472, 844, 845, 846, 847, 474, 475, 476, 477, 478, 480, 33] (by decide +kernel)
theorem in_wsL_law_r18 : ∀ w ∈ wsL_law_r18, w ∈ lw_tbl := mem_pl [481, 848, 849, 850, 851, 852, 854, 76, 855, 483, 484, 485, 486, 487, 856, 857, 858, 859, 860, 862, 77, 863, 489, 490] (by decide +kernel)
theorem in_wsL_law_r19 : ∀ w ∈ wsL_law_r19, w ∈ lw_tbl := mem_pl [491, 492, 493, 864, 865, 866, 867, 868, 869, 871, 78, 872, 496, 497, 498, 499, 502, 34, 503, 873, 874, 875, 876, 504] (by decide +kernel)
theorem in_wsL_law_r20 : ∀ w ∈ wsL_law_r20, w ∈ lw_tbl := mem_pl [505, 506, 507, 510, 35, 511, 877, 878, 879, 880, 512, 513, 514, 515, 519, 516, 517, 518, 522, 36, 523, 526, 37, 527] (by decide +kernel)
theorem in_wsL_law_r21 : ∀ w ∈ wsL_law_r21, w ∈ lw_tbl := mem_pl [530, 38, 531, 534, 39, 535, 538, 40, 539, 540, 542, 41, 543, 544, 545, 546, 547, 549, 42, 550, 551, 553, 43, 554] (by decide +kernel)
theorem in_wsL_law_r22 : ∀ w ∈ wsL_law_r22, w ∈ lw_tbl := mem_pl [881, 882, 883, 884, 888, 885, 886, 887, 889, 891, 79, 892, 893, 895, 80, 896, 897, 899, 81, 900, 644, 555, 556, 557] (by decide +kernel)
theorem in_wsL_law_r23 : ∀ w ∈ wsL_law_r23, w ∈ lw_tbl := mem_pl [558, 561, 44, 562, 901, 902, 903, 904, 563, 564, 565, 566, 569, 45, 570, 905, 906, 907, 908, 571, 572, 573, 574, 577] (by decide +kernel)
theorem in_wsL_law_r24 : ∀ w ∈ wsL_law_r24, w ∈ lw_tbl := mem_pl [46, 578, 909, 910, 911, 912, 579, 580, 581, 582, 913, 914, 915, 916, 917, 919, 82, 920, 583, 584, 585, 586, 921, 922] (by decide +kernel)
theorem in_wsL_law_r25 : ∀ w ∈ wsL_law_r25, w ∈ lw_tbl := mem_pl [923, 924, 587, 588, 589, 590, 593, 47, 594, 595, 596, 597, 598, 925, 926, 927, 928, 929, 931, 83, 932, 933, 934, 935] (by decide +kernel)
theorem in_wsL_law_r26 : ∀ w ∈ wsL_law_r26, w ∈ lw_tbl := mem_pl [936, 599, 600, 601, 602, 605, 48, 606, 607, 608, 94, 609, 937, 938, 939, 940, 610, 611, 612, 613, 616, 49, 617, 941] (by decide +kernel)
theorem in_wsL_law_r27 : ∀ w ∈ wsL_law_r27, w ∈ lw_tbl := mem_pl [942, 943, 944, 618, 619, 620, 621, 945, 946, 947, 948, 622, 623, 624, 625, 949, 950, 951, 952, 626, 627, 628, 629, 953] (by decide +kernel)
theorem in_wsL_law_r28 : ∀ w ∈ wsL_law_r28, w ∈ lw_tbl := mem_pl [954, 955, 956, 631, 632, 633, 634, 957, 958, 959, 960] (by decide +kernel)
theorem in_X0 : ∀ w ∈ wsX00, w ∈ lw_tbl := mem_pl [242, 244, 246, 248] (by decide +kernel)
theorem in_X1 : ∀ w ∈ wsX10, w ∈ lw_tbl := mem_pl [131, 133, 135, 137, 139, 141, 143] (by decide +kernel)
theorem in_X2 : ∀ w ∈ wsX20, w ∈ lw_tbl := mem_pl [196, 198, 200, 202, 204, 206, 208, 210, 212, 214, 216, 218, 220, 222, 224, 226, 228] (by decide +kernel)
theorem in_X3 : ∀ w ∈ wsX30, w ∈ lw_tbl := mem_pl [159, 161, 163, 165] (by decide +kernel)
theorem in_X4 : ∀ w ∈ wsX40, w ∈ lw_tbl := mem_pl [264, 266, 268] (by decide +kernel)
theorem in_X5 : ∀ w ∈ wsX50, w ∈ lw_tbl := mem_pl [278, 280, 282, 284, 286, 288, 290] (by decide +kernel)
theorem in_X6 : ∀ w ∈ wsX60, w ∈ lw_tbl := mem_pl [667, 669, 671, 673, 675, 677, 679, 681, 683, 685, 687, 689, 691, 693, 695, 697, 699, 701, 703, 705, 707, 709, 711, 713, 715, 717] (by decide +kernel)
theorem law_in : ∀ w ∈ wsL_law, w ∈ lw_tbl := by
  unfold wsL_law
  exact List.forall_mem_append.mpr ⟨List.forall_mem_append.mpr ⟨List.forall_mem_append.mpr ⟨List.forall_mem_append.mpr ⟨List.forall_mem_append.mpr ⟨List.forall_mem_append.mpr ⟨List.forall_mem_append.mpr ⟨List.forall_mem_append.mpr ⟨List.forall_mem_append.mpr ⟨in_wsL_law_r1, List.forall_mem_append.mpr ⟨in_wsL_law_r2, List.forall_mem_append.mpr ⟨in_wsL_law_r3, List.forall_mem_append.mpr ⟨in_wsL_law_r4, List.forall_mem_append.mpr ⟨in_wsL_law_r5, List.forall_mem_append.mpr ⟨in_wsL_law_r6, List.forall_mem_append.mpr ⟨in_wsL_law_r7, List.forall_mem_append.mpr ⟨in_wsL_law_r8, List.forall_mem_append.mpr ⟨in_wsL_law_r9, List.forall_mem_append.mpr ⟨in_wsL_law_r10, List.forall_mem_append.mpr ⟨in_wsL_law_r11, List.forall_mem_append.mpr ⟨in_wsL_law_r12, List.forall_mem_append.mpr ⟨in_wsL_law_r13, List.forall_mem_append.mpr ⟨in_wsL_law_r14, List.forall_mem_append.mpr ⟨in_wsL_law_r15, List.forall_mem_append.mpr ⟨in_wsL_law_r16, List.forall_mem_append.mpr ⟨in_wsL_law_r17, List.forall_mem_append.mpr ⟨in_wsL_law_r18, List.forall_mem_append.mpr ⟨in_wsL_law_r19, List.forall_mem_append.mpr ⟨in_wsL_law_r20, List.forall_mem_append.mpr ⟨in_wsL_law_r21, List.forall_mem_append.mpr ⟨in_wsL_law_r22, List.forall_mem_append.mpr ⟨in_wsL_law_r23, List.forall_mem_append.mpr ⟨in_wsL_law_r24, List.forall_mem_append.mpr ⟨in_wsL_law_r25, List.forall_mem_append.mpr ⟨in_wsL_law_r26, List.forall_mem_append.mpr ⟨in_wsL_law_r27, in_wsL_law_r28⟩⟩⟩⟩⟩⟩⟩⟩⟩⟩⟩⟩⟩⟩⟩⟩⟩⟩⟩⟩⟩⟩⟩⟩⟩⟩⟩, in_X5⟩, in_X6⟩, in_X1⟩, in_X3⟩, in_X2⟩, in_X0⟩, in_X4⟩, fun _ h => absurd h List.not_mem_nil⟩
