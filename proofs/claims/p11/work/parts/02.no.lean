set_option maxRecDepth 100000 in
theorem in_wsX00 : ∀ w ∈ wsX00, w ∈ lw_tbl := z_inL [118, 120] (by first | rfl | decide +kernel)
set_option maxRecDepth 100000 in
theorem in_wsX20 : ∀ w ∈ wsX20, w ∈ lw_tbl := z_inL [94, 96, 98, 100] (by first | rfl | decide +kernel)
set_option maxRecDepth 100000 in
theorem in_wsX30 : ∀ w ∈ wsX30, w ∈ lw_tbl := z_inL [385, 387, 389, 391, 393, 395] (by first | rfl | decide +kernel)
set_option maxRecDepth 100000 in
theorem in_wsX40 : ∀ w ∈ wsX40, w ∈ lw_tbl := z_inL [149, 151, 153] (by first | rfl | decide +kernel)
set_option maxRecDepth 100000 in
theorem in_wsX50 : ∀ w ∈ wsX50, w ∈ lw_tbl := z_inL [131, 133, 135] (by first | rfl | decide +kernel)
set_option maxRecDepth 100000 in
theorem in_wsX60 : ∀ w ∈ wsX60, w ∈ lw_tbl := z_inL [204, 206, 208, 210, 212] (by first | rfl | decide +kernel)
set_option maxRecDepth 100000 in
theorem in_wsX70 : ∀ w ∈ wsX70, w ∈ lw_tbl := z_inL [342, 344, 346, 348] (by first | rfl | decide +kernel)
set_option maxRecDepth 100000 in
theorem in_wsX80 : ∀ w ∈ wsX80, w ∈ lw_tbl := z_inL [178, 180, 182, 184, 186, 188, 190] (by first | rfl | decide +kernel)
set_option maxRecDepth 100000 in
theorem in_wsX90 : ∀ w ∈ wsX90, w ∈ lw_tbl := z_inL [229, 231, 233, 235, 237, 239, 241] (by first | rfl | decide +kernel)
set_option maxRecDepth 100000 in
theorem in_wsX100 : ∀ w ∈ wsX100, w ∈ lw_tbl := z_inL [249, 251, 253, 255, 257] (by first | rfl | decide +kernel)
set_option maxRecDepth 100000 in
theorem in_wsX110 : ∀ w ∈ wsX110, w ∈ lw_tbl := z_inL [793, 795, 797, 799, 801, 803, 805, 807, 809, 811, 813, 815, 817, 819, 821, 823, 825, 827, 829, 831, 833, 835, 837, 839, 841, 843, 845, 847, 849, 851, 853, 855] (by first | rfl | decide +kernel)
set_option maxRecDepth 100000 in
theorem in_wsJx000600 : ∀ w ∈ wsJx000600, w ∈ lw_tbl := z_inL [686, 688, 690, 692, 694, 739] (by first | rfl | decide +kernel)
set_option maxRecDepth 100000 in
theorem in_wsL_law_r1 : ∀ w ∈ wsL_law_r1, w ∈ lw_tbl := z_inL [70, 71, 49, 752, 753, 57, 859, 72, 73, 74, 75, 76, 77, 78, 79, 50, 104, 105, 51, 244, 138, 139, 53, 245] (by first | rfl | decide +kernel)
set_option maxRecDepth 100000 in
theorem in_wsL_law_r2 : ∀ w ∈ wsL_law_r2, w ∈ lw_tbl := z_inL [156, 246, 158, 54, 193, 194, 55, 247, 215, 216, 56, 248, 81, 82, 83, 103, 84, 85, 88, 107, 108, 109, 110, 111] (by first | rfl | decide +kernel)
set_option maxRecDepth 100000 in
theorem in_wsL_law_r3 : ∀ w ∈ wsL_law_r3, w ∈ lw_tbl := z_inL [52, 123, 126, 113, 114, 115, 116, 117, 140, 141, 142, 143, 144, 146, 147, 160, 161, 162, 163, 195, 196, 197, 198, 202] (by first | rfl | decide +kernel)
set_option maxRecDepth 100000 in
theorem in_wsL_law_r4 : ∀ w ∈ wsL_law_r4, w ∈ lw_tbl := z_inL [199, 200, 201, 217, 218, 219, 220, 223, 224, 226, 221, 222, 227, 228, 754, 755, 756, 757, 761, 763, 764, 765, 766, 768] (by first | rfl | decide +kernel)
set_option maxRecDepth 100000 in
theorem in_wsL_law_r5 : ∀ w ∈ wsL_law_r5, w ∈ lw_tbl := z_inL [769, 770, 771, 772, 775, 776, 758, 778, 759, 858, 779, 780, 781, 784, 785, 786, 787, 760, 788, 789, 790, 791, 792, 777] (by first | rfl | decide +kernel)
set_option maxRecDepth 100000 in
theorem in_wsL_law_r6 : ∀ w ∈ wsL_law_r6, w ∈ lw_tbl := z_inL [260, 261, 262, 263, 264, 265, 266, 267, 268, 269, 270, 271, 272, 273, 129, 274, 275, 276, 277, 278, 279, 280, 281, 282] (by first | rfl | decide +kernel)
set_option maxRecDepth 100000 in
theorem in_wsL_law_r7 : ∀ w ∈ wsL_law_r7, w ∈ lw_tbl := z_inL [283, 284, 285, 286, 287, 288, 289, 290, 291, 292, 293, 294, 295, 296, 297, 298, 299, 300, 301, 302, 303, 304, 305, 306] (by first | rfl | decide +kernel)
set_option maxRecDepth 100000 in
theorem in_wsL_law_r8 : ∀ w ∈ wsL_law_r8, w ∈ lw_tbl := z_inL [860, 861, 862, 863, 783, 762, 773, 864, 865, 866, 867, 868, 869, 870, 872, 23, 873, 874, 876, 24, 877, 307, 308, 309] (by first | rfl | decide +kernel)
set_option maxRecDepth 100000 in
theorem in_wsL_law_r9 : ∀ w ∈ wsL_law_r9, w ∈ lw_tbl := z_inL [310, 311, 313, 0, 314, 315, 316, 317, 318, 319, 320, 321, 148, 322, 323, 324, 325, 326, 328, 58, 329, 330, 331, 332] (by first | rfl | decide +kernel)
set_option maxRecDepth 100000 in
theorem in_wsL_law_r10 : ∀ w ∈ wsL_law_r10, w ∈ lw_tbl := z_inL [333, 335, 338, 340, 351, 352, 59, 353, 359, 354, 355, 356, 357, 360, 362, 1, 363, 365, 60, 364, 366, 367, 368, 369] (by first | rfl | decide +kernel)
set_option maxRecDepth 100000 in
theorem in_wsL_law_r11 : ∀ w ∈ wsL_law_r11, w ∈ lw_tbl := z_inL [370, 373, 376, 336, 339, 341, 379, 381, 383, 398, 400, 2, 401, 402, 403, 404, 405, 406, 407, 408, 409, 371, 375, 378] (by first | rfl | decide +kernel)
set_option maxRecDepth 100000 in
theorem in_wsL_law_r12 : ∀ w ∈ wsL_law_r12, w ∈ lw_tbl := z_inL [410, 412, 3, 413, 414, 415, 416, 420, 417, 418, 419, 421, 422, 423, 334, 424, 425, 427, 4, 428, 87, 93, 429, 430] (by first | rfl | decide +kernel)
set_option maxRecDepth 100000 in
theorem in_wsL_law_r13 : ∀ w ∈ wsL_law_r13, w ∈ lw_tbl := z_inL [431, 432, 91, 433, 434, 435, 436, 437, 438, 439, 440, 441, 442, 443, 61, 444, 445, 446, 447, 448, 449, 451, 452, 453] (by first | rfl | decide +kernel)
set_option maxRecDepth 100000 in
theorem in_wsL_law_r14 : ∀ w ∈ wsL_law_r14, w ∈ lw_tbl := z_inL [62, 454, 455, 457, 456, 63, 458, 460, 5, 461, 462, 464, 6, 465, 466, 467, 468, 469, 470, 472, 7, 473, 491, 474] (by first | rfl | decide +kernel)
set_option maxRecDepth 100000 in
theorem in_wsL_law_r15 : ∀ w ∈ wsL_law_r15, w ∈ lw_tbl := z_inL [476, 8, 477, 90, 478, 479, 480, 481, 482, 483, 484, 485, 486, 487, 488, 489, 490, 492, 494, 9, 495, 496, 497, 498] (by first | rfl | decide +kernel)
set_option maxRecDepth 100000 in
theorem in_wsL_law_r16 : ∀ w ∈ wsL_law_r16, w ∈ lw_tbl := z_inL [499, 886, 887, 888, 889, 767, 890, 891, 892, 893, 895, 25, 896, 500, 501, 502, 503, 504, 506, 10, 507, 529, 508, 509] (by first | rfl | decide +kernel)
set_option maxRecDepth 100000 in
theorem in_wsL_law_r17 : ∀ w ∈ wsL_law_r17, w ∈ lw_tbl := z_inL [510, 511, 166, 168, 170, 172, 174, 176, 512, 514, 11, 515, 372, 516, 517, 518, 519, 384, 520, 521, 522, 523, 524, 525] (by first | rfl | decide +kernel)
set_option maxRecDepth 100000 in
theorem in_wsL_law_r18 : ∀ w ∈ wsL_law_r18, w ∈ lw_tbl := z_inL [526, 527, 528, 530, 531, 532, 533, 534, 535, 536, 537, 897, 898, 899, 900, 782, 901, 903, 26, 904, 538, 539, 540, 541] (by first | rfl | decide +kernel)
set_option maxRecDepth 100000 in
theorem in_wsL_law_r19 : ∀ w ∈ wsL_law_r19, w ∈ lw_tbl := z_inL [225, 542, 543, 544, 545, 546, 547, 548, 549, 550, 552, 12, 553, 177, 554, 556, 13, 557, 558, 560, 14, 561, 164, 562] (by first | rfl | decide +kernel)
set_option maxRecDepth 100000 in
theorem in_wsL_law_r20 : ∀ w ∈ wsL_law_r20, w ∈ lw_tbl := z_inL [563, 64, 564, 565, 566, 567, 568, 570, 15, 571, 572, 573, 574, 575, 576, 577, 578, 579, 580, 581, 582, 583, 584, 171] (by first | rfl | decide +kernel)
set_option maxRecDepth 100000 in
theorem in_wsL_law_r21 : ∀ w ∈ wsL_law_r21, w ∈ lw_tbl := z_inL [203, 92, 374, 377, 585, 587, 16, 588, 124, 175, 380, 173, 127, 382, 589, 590, 591, 592, 593, 594, 595, 596, 597, 598] (by first | rfl | decide +kernel)
set_option maxRecDepth 100000 in
theorem in_wsL_law_r22 : ∀ w ∈ wsL_law_r22, w ∈ lw_tbl := z_inL [599, 600, 601, 602, 603, 604, 605, 606, 607, 609, 17, 610, 611, 612, 613, 614, 615, 616, 618, 18, 619, 86, 89, 337] (by first | rfl | decide +kernel)
set_option maxRecDepth 100000 in
theorem in_wsL_law_r23 : ∀ w ∈ wsL_law_r23, w ∈ lw_tbl := z_inL [620, 621, 622, 623, 625, 626, 624, 627, 629, 19, 630, 167, 169, 631, 633, 20, 634, 905, 906, 907, 908, 774, 909, 911] (by first | rfl | decide +kernel)
set_option maxRecDepth 100000 in
theorem in_wsL_law_r24 : ∀ w ∈ wsL_law_r24, w ∈ lw_tbl := z_inL [27, 912, 925, 913, 915, 28, 916, 917, 919, 29, 920, 921, 923, 30, 924, 926, 928, 31, 929, 930, 932, 32, 933, 934] (by first | rfl | decide +kernel)
set_option maxRecDepth 100000 in
theorem in_wsL_law_r25 : ∀ w ∈ wsL_law_r25, w ∈ lw_tbl := z_inL [936, 33, 937, 938, 940, 34, 941, 942, 944, 35, 945, 946, 948, 36, 949, 950, 952, 37, 953, 954, 956, 38, 957, 958] (by first | rfl | decide +kernel)
set_option maxRecDepth 100000 in
theorem in_wsL_law_r26 : ∀ w ∈ wsL_law_r26, w ∈ lw_tbl := z_inL [960, 39, 961, 962, 963, 964, 965, 967, 40, 968, 969, 971, 41, 972, 973, 975, 42, 976, 977, 979, 43, 980, 981, 983] (by first | rfl | decide +kernel)
set_option maxRecDepth 100000 in
theorem in_wsL_law_r27 : ∀ w ∈ wsL_law_r27, w ∈ lw_tbl := z_inL [44, 984, 985, 987, 45, 988, 635, 636, 637, 638, 989, 990, 991, 992, 639, 640, 641, 642, 643, 993, 994, 995, 996, 644] (by first | rfl | decide +kernel)
set_option maxRecDepth 100000 in
theorem in_wsL_law_r28 : ∀ w ∈ wsL_law_r28, w ∈ lw_tbl := z_inL [645, 646, 647, 648, 650, 21, 651, 165, 652, 653, 654, 655, 997, 998, 999, 1000, 1001, 1003, 46, 1004, 1005, 1007, 47, 1008] (by first | rfl | decide +kernel)
set_option maxRecDepth 100000 in
theorem in_wsL_law_r29 : ∀ w ∈ wsL_law_r29, w ∈ lw_tbl := z_inL [656, 657, 658, 659, 660, 1009, 1010, 1011, 1012, 1013, 1014, 661, 662, 663, 664, 130, 878, 879, 880, 881, 665, 666, 48, 667] (by first | rfl | decide +kernel)
set_option maxRecDepth 100000 in
theorem in_wsL_law_r30 : ∀ w ∈ wsL_law_r30, w ∈ lw_tbl := z_inL [669, 670, 671, 672, 673, 674, 69, 125, 128, 744, 746, 747, 882, 883, 884, 885, 748, 749, 750, 751] (by first | rfl | decide +kernel)
theorem wsL_law_in : ∀ w ∈ wsL_law, w ∈ lw_tbl := List.forall_mem_append.mpr ⟨List.forall_mem_append.mpr ⟨List.forall_mem_append.mpr ⟨List.forall_mem_append.mpr ⟨List.forall_mem_append.mpr ⟨List.forall_mem_append.mpr ⟨List.forall_mem_append.mpr ⟨List.forall_mem_append.mpr ⟨List.forall_mem_append.mpr ⟨List.forall_mem_append.mpr ⟨List.forall_mem_append.mpr ⟨List.forall_mem_append.mpr ⟨List.forall_mem_append.mpr ⟨List.forall_mem_append.mpr ⟨in_wsL_law_r1, List.forall_mem_append.mpr ⟨in_wsL_law_r2, List.forall_mem_append.mpr ⟨in_wsL_law_r3, List.forall_mem_append.mpr ⟨in_wsL_law_r4, List.forall_mem_append.mpr ⟨in_wsL_law_r5, List.forall_mem_append.mpr ⟨in_wsL_law_r6, List.forall_mem_append.mpr ⟨in_wsL_law_r7, List.forall_mem_append.mpr ⟨in_wsL_law_r8, List.forall_mem_append.mpr ⟨in_wsL_law_r9, List.forall_mem_append.mpr ⟨in_wsL_law_r10, List.forall_mem_append.mpr ⟨in_wsL_law_r11, List.forall_mem_append.mpr ⟨in_wsL_law_r12, List.forall_mem_append.mpr ⟨in_wsL_law_r13, List.forall_mem_append.mpr ⟨in_wsL_law_r14, List.forall_mem_append.mpr ⟨in_wsL_law_r15, List.forall_mem_append.mpr ⟨in_wsL_law_r16, List.forall_mem_append.mpr ⟨in_wsL_law_r17, List.forall_mem_append.mpr ⟨in_wsL_law_r18, List.forall_mem_append.mpr ⟨in_wsL_law_r19, List.forall_mem_append.mpr ⟨in_wsL_law_r20, List.forall_mem_append.mpr ⟨in_wsL_law_r21, List.forall_mem_append.mpr ⟨in_wsL_law_r22, List.forall_mem_append.mpr ⟨in_wsL_law_r23, List.forall_mem_append.mpr ⟨in_wsL_law_r24, List.forall_mem_append.mpr ⟨in_wsL_law_r25, List.forall_mem_append.mpr ⟨in_wsL_law_r26, List.forall_mem_append.mpr ⟨in_wsL_law_r27, List.forall_mem_append.mpr ⟨in_wsL_law_r28, List.forall_mem_append.mpr ⟨in_wsL_law_r29, in_wsL_law_r30⟩⟩⟩⟩⟩⟩⟩⟩⟩⟩⟩⟩⟩⟩⟩⟩⟩⟩⟩⟩⟩⟩⟩⟩⟩⟩⟩⟩⟩, in_wsX100⟩, in_wsX110⟩, in_wsX20⟩, in_wsX50⟩, in_wsX40⟩, in_wsX80⟩, in_wsX60⟩, in_wsX90⟩, in_wsX00⟩, in_wsX70⟩, in_wsX30⟩, in_wsJx000600⟩, (fun _ h => absurd h List.not_mem_nil)⟩
theorem inlX0 : ∀ w ∈ wsX00, w ∈ wsL_law := fun _ h => List.mem_append_left _ (List.mem_append_left _ (List.mem_append_left _ (List.mem_append_left _ (List.mem_append_right _ h))))
theorem inX0 : ∀ w ∈ wsX00, w ∈ lw_tbl := fun w h => wsL_law_in w (inlX0 w h)
theorem inX1 : ∀ w ∈ wsX10, w ∈ lw_tbl := by decide +kernel
theorem inlX2 : ∀ w ∈ wsX20, w ∈ wsL_law := fun _ h => List.mem_append_left _ (List.mem_append_left _ (List.mem_append_left _ (List.mem_append_left _ (List.mem_append_left _ (List.mem_append_left _ (List.mem_append_left _ (List.mem_append_left _ (List.mem_append_left _ (List.mem_append_left _ (List.mem_append_right _ h))))))))))
theorem inX2 : ∀ w ∈ wsX20, w ∈ lw_tbl := fun w h => wsL_law_in w (inlX2 w h)
theorem inlX3 : ∀ w ∈ wsX30, w ∈ wsL_law := fun _ h => List.mem_append_left _ (List.mem_append_left _ (List.mem_append_right _ h))
theorem inX3 : ∀ w ∈ wsX30, w ∈ lw_tbl := fun w h => wsL_law_in w (inlX3 w h)
theorem inlX4 : ∀ w ∈ wsX40, w ∈ wsL_law := fun _ h => List.mem_append_left _ (List.mem_append_left _ (List.mem_append_left _ (List.mem_append_left _ (List.mem_append_left _ (List.mem_append_left _ (List.mem_append_left _ (List.mem_append_left _ (List.mem_append_right _ h))))))))
theorem inX4 : ∀ w ∈ wsX40, w ∈ lw_tbl := fun w h => wsL_law_in w (inlX4 w h)
theorem inlX5 : ∀ w ∈ wsX50, w ∈ wsL_law := fun _ h => List.mem_append_left _ (List.mem_append_left _ (List.mem_append_left _ (List.mem_append_left _ (List.mem_append_left _ (List.mem_append_left _ (List.mem_append_left _ (List.mem_append_left _ (List.mem_append_left _ (List.mem_append_right _ h)))))))))
theorem inX5 : ∀ w ∈ wsX50, w ∈ lw_tbl := fun w h => wsL_law_in w (inlX5 w h)
theorem inlX6 : ∀ w ∈ wsX60, w ∈ wsL_law := fun _ h => List.mem_append_left _ (List.mem_append_left _ (List.mem_append_left _ (List.mem_append_left _ (List.mem_append_left _ (List.mem_append_left _ (List.mem_append_right _ h))))))
theorem inX6 : ∀ w ∈ wsX60, w ∈ lw_tbl := fun w h => wsL_law_in w (inlX6 w h)
theorem inlX7 : ∀ w ∈ wsX70, w ∈ wsL_law := fun _ h => List.mem_append_left _ (List.mem_append_left _ (List.mem_append_left _ (List.mem_append_right _ h)))
theorem inX7 : ∀ w ∈ wsX70, w ∈ lw_tbl := fun w h => wsL_law_in w (inlX7 w h)
theorem inlX8 : ∀ w ∈ wsX80, w ∈ wsL_law := fun _ h => List.mem_append_left _ (List.mem_append_left _ (List.mem_append_left _ (List.mem_append_left _ (List.mem_append_left _ (List.mem_append_left _ (List.mem_append_left _ (List.mem_append_right _ h)))))))
theorem inX8 : ∀ w ∈ wsX80, w ∈ lw_tbl := fun w h => wsL_law_in w (inlX8 w h)
theorem inlX9 : ∀ w ∈ wsX90, w ∈ wsL_law := fun _ h => List.mem_append_left _ (List.mem_append_left _ (List.mem_append_left _ (List.mem_append_left _ (List.mem_append_left _ (List.mem_append_right _ h)))))
theorem inX9 : ∀ w ∈ wsX90, w ∈ lw_tbl := fun w h => wsL_law_in w (inlX9 w h)
theorem inlX10 : ∀ w ∈ wsX100, w ∈ wsL_law := fun _ h => List.mem_append_left _ (List.mem_append_left _ (List.mem_append_left _ (List.mem_append_left _ (List.mem_append_left _ (List.mem_append_left _ (List.mem_append_left _ (List.mem_append_left _ (List.mem_append_left _ (List.mem_append_left _ (List.mem_append_left _ (List.mem_append_left _ (List.mem_append_right _ h))))))))))))
theorem inX10 : ∀ w ∈ wsX100, w ∈ lw_tbl := fun w h => wsL_law_in w (inlX10 w h)
theorem inlX11 : ∀ w ∈ wsX110, w ∈ wsL_law := fun _ h => List.mem_append_left _ (List.mem_append_left _ (List.mem_append_left _ (List.mem_append_left _ (List.mem_append_left _ (List.mem_append_left _ (List.mem_append_left _ (List.mem_append_left _ (List.mem_append_left _ (List.mem_append_left _ (List.mem_append_left _ (List.mem_append_right _ h)))))))))))
theorem inX11 : ∀ w ∈ wsX110, w ∈ lw_tbl := fun w h => wsL_law_in w (inlX11 w h)
theorem inlJx00060 : ∀ w ∈ wsJx000600, w ∈ wsL_law := fun _ h => List.mem_append_left _ (List.mem_append_right _ h)
theorem inJx00060 : ∀ w ∈ wsJx000600, w ∈ lw_tbl := fun w h => wsL_law_in w (inlJx00060 w h)
theorem inJx8e188 : ∀ w ∈ wsJx8e1880, w ∈ lw_tbl := by decide +kernel
theorem inJ6 : ∀ w ∈ wsJ60, w ∈ lw_tbl := by decide +kernel
theorem inJ9 : ∀ w ∈ wsJ90, w ∈ lw_tbl := by decide +kernel
theorem inJ0 : ∀ w ∈ wsJ00, w ∈ lw_tbl := by decide +kernel
theorem inJ10 : ∀ w ∈ wsJ100, w ∈ lw_tbl := by decide +kernel
theorem inJ7 : ∀ w ∈ wsJ70, w ∈ lw_tbl := by decide +kernel
