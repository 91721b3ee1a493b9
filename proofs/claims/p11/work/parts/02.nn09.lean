set_option maxRecDepth 100000 in
theorem ggL_law_X10_ways_0 : ∀ w ∈ wsX10_ways_r1, w ∈ wsL_law := z_inL [35, 31, 25, 432, 124, 125, 2, 126, 651, 652, 653, 654, 655, 197, 198, 199, 433, 434, 435, 34, 436, 85, 79, 437] rfl
set_option maxRecDepth 100000 in
theorem ggL_law_X10_ways_1 : ∀ w ∈ wsX10_ways_r2, w ∈ wsL_law := z_inL [438, 439, 440, 84, 81, 441, 442, 443, 444, 82, 445, 446, 447, 448, 449, 450, 451, 452, 453, 454, 455, 456, 457, 458] rfl
set_option maxRecDepth 100000 in
theorem ggL_law_X10_ways_2 : ∀ w ∈ wsX10_ways_r3, w ∈ wsL_law := z_inL [459, 460, 461, 462, 463, 464, 465, 80, 466, 83, 467, 468, 469, 470, 471, 472, 473, 30, 474, 475, 476, 477, 478, 479] rfl
set_option maxRecDepth 100000 in
theorem ggL_law_X10_ways_3 : ∀ w ∈ wsX10_ways_r4, w ∈ wsL_law := z_inL [73, 74, 480, 481, 71, 482, 483, 484, 485, 486, 487, 72, 488, 489, 490, 491, 492, 493, 494, 495, 496, 48, 497, 55] rfl
set_option maxRecDepth 100000 in
theorem ggL_law_X10_ways_4 : ∀ w ∈ wsX10_ways_r5, w ∈ wsL_law := z_inL [498, 143, 144, 145, 54, 499, 500, 18, 501, 502, 503, 504, 505, 506, 507, 508, 509, 510, 211, 511, 217, 218, 219, 512] rfl
set_option maxRecDepth 100000 in
theorem ggL_law_X10_ways_5 : ∀ w ∈ wsX10_ways_r6, w ∈ wsL_law := z_inL [513, 514, 515, 516, 287, 288, 15, 289, 290, 40, 41, 517, 518, 519, 520, 42, 344, 297, 298, 299, 521, 522, 523, 524] rfl
set_option maxRecDepth 100000 in
theorem ggL_law_X10_ways_6 : ∀ w ∈ wsX10_ways_r7, w ∈ wsL_law := z_inL [525, 526, 527, 528, 221, 222, 223, 224, 225, 226, 227, 228, 529, 530, 531, 532, 533, 311, 312, 313, 534, 347, 348, 349] rfl
set_option maxRecDepth 100000 in
theorem ggL_law_X10_ways_7 : ∀ w ∈ wsX10_ways_r8, w ∈ wsL_law := z_inL [535, 536, 537, 538, 539, 540, 541, 542, 543, 544, 676] rfl
set_option maxRecDepth 100000 in
theorem ggL_law_X10_ways : GoodIn wsL_law wsX10_ways := goodIn_sub (List.forall_mem_cons.mpr ⟨List.mem_of_getElem? (i := 675) rfl, List.forall_mem_append.mpr ⟨List.forall_mem_append.mpr ⟨List.forall_mem_append.mpr ⟨List.forall_mem_append.mpr ⟨List.forall_mem_append.mpr ⟨List.forall_mem_append.mpr ⟨List.forall_mem_append.mpr ⟨List.forall_mem_append.mpr ⟨List.forall_mem_append.mpr ⟨List.forall_mem_append.mpr ⟨ggL_law_X10_ways_0, List.forall_mem_append.mpr ⟨ggL_law_X10_ways_1, List.forall_mem_append.mpr ⟨ggL_law_X10_ways_2, List.forall_mem_append.mpr ⟨ggL_law_X10_ways_3, List.forall_mem_append.mpr ⟨ggL_law_X10_ways_4, List.forall_mem_append.mpr ⟨ggL_law_X10_ways_5, List.forall_mem_append.mpr ⟨ggL_law_X10_ways_6, ggL_law_X10_ways_7⟩⟩⟩⟩⟩⟩⟩, (fun _ h => List.mem_append_left _ (List.mem_append_left _ (List.mem_append_left _ (List.mem_append_left _ (List.mem_append_left _ (List.mem_append_left _ (List.mem_append_left _ (List.mem_append_left _ (List.mem_append_left _ (List.mem_append_left _ (List.mem_append_left _ (List.mem_append_left _ (List.mem_append_right _ h)))))))))))))⟩, (fun _ h => List.mem_append_left _ (List.mem_append_left _ (List.mem_append_left _ (List.mem_append_left _ (List.mem_append_left _ (List.mem_append_right _ h))))))⟩, (fun _ h => List.mem_append_left _ (List.mem_append_left _ (List.mem_append_left _ (List.mem_append_left _ (List.mem_append_left _ (List.mem_append_left _ (List.mem_append_left _ (List.mem_append_right _ h))))))))⟩, (fun _ h => List.mem_append_left _ (List.mem_append_left _ (List.mem_append_left _ (List.mem_append_left _ (List.mem_append_left _ (List.mem_append_left _ (List.mem_append_right _ h)))))))⟩, (fun _ h => List.mem_append_left _ (List.mem_append_left _ (List.mem_append_left _ (List.mem_append_left _ (List.mem_append_left _ (List.mem_append_left _ (List.mem_append_left _ (List.mem_append_left _ (List.mem_append_left _ (List.mem_append_left _ (List.mem_append_right _ h)))))))))))⟩, (fun _ h => List.mem_append_left _ (List.mem_append_left _ (List.mem_append_right _ h)))⟩, (fun _ h => List.mem_append_left _ (List.mem_append_left _ (List.mem_append_left _ (List.mem_append_left _ (List.mem_append_left _ (List.mem_append_left _ (List.mem_append_left _ (List.mem_append_left _ (List.mem_append_left _ (List.mem_append_right _ h))))))))))⟩, (fun _ h => List.mem_append_left _ (List.mem_append_left _ (List.mem_append_left _ (List.mem_append_left _ (List.mem_append_right _ h)))))⟩, (fun _ h => List.mem_append_left _ (List.mem_append_left _ (List.mem_append_left _ (List.mem_append_right _ h))))⟩⟩) (by decide +kernel)
set_option maxRecDepth 20000 in
theorem gL_law_X10_ways : GoodIn wsL_law (wsV RL 53 RX10 yX10_ways wsX10_ways) := goodIn_app (goodIn_of _ (by decide +kernel)) ggL_law_X10_ways
set_option maxRecDepth 100000 in
theorem ggL_law_X11_ways_0 : ∀ w ∈ wsX11_ways_r1, w ∈ wsL_law := z_inL [172, 549, 681, 682, 175, 176, 5, 177, 664, 665, 666, 667, 95, 366, 367, 368, 550, 551, 552, 553, 174, 554, 99, 555] rfl
set_option maxRecDepth 100000 in
theorem ggL_law_X11_ways_1 : ∀ w ∈ wsX11_ways_r2, w ∈ wsL_law := z_inL [556, 557, 558, 118, 559, 560, 561, 562, 96, 97, 423, 93, 108, 424, 425, 426, 427, 107, 91, 92, 563, 564, 565, 566] rfl
set_option maxRecDepth 100000 in
theorem ggL_law_X11_ways_2 : ∀ w ∈ wsX11_ways_r3, w ∈ wsL_law := z_inL [567, 568, 569, 570, 571, 572, 573, 574, 575, 576, 577, 578, 579, 580, 581, 582, 115, 119, 116, 173, 90, 114, 583, 584] rfl
set_option maxRecDepth 100000 in
theorem ggL_law_X11_ways_3 : ∀ w ∈ wsX11_ways_r4, w ∈ wsL_law := z_inL [585, 586, 106, 587, 588, 589, 590, 110, 103, 94, 591, 592, 593, 594, 595, 596, 597, 598, 599, 600, 601, 602, 101, 100] rfl
set_option maxRecDepth 100000 in
theorem ggL_law_X11_ways_4 : ∀ w ∈ wsX11_ways_r5, w ∈ wsL_law := z_inL [603, 604, 605, 606, 607, 608, 609, 111, 112, 610, 611, 612, 613, 98, 614, 615, 616, 617, 618, 619, 620, 621, 117, 622] rfl
set_option maxRecDepth 100000 in
theorem ggL_law_X11_ways_5 : ∀ w ∈ wsX11_ways_r6, w ∈ wsL_law := z_inL [623, 624, 625, 626, 627, 628, 629] rfl
set_option maxRecDepth 100000 in
theorem ggL_law_X11_ways : GoodIn wsL_law wsX11_ways := goodIn_sub (List.forall_mem_cons.mpr ⟨List.mem_of_getElem? (i := 680) rfl, List.forall_mem_append.mpr ⟨List.forall_mem_append.mpr ⟨ggL_law_X11_ways_0, List.forall_mem_append.mpr ⟨ggL_law_X11_ways_1, List.forall_mem_append.mpr ⟨ggL_law_X11_ways_2, List.forall_mem_append.mpr ⟨ggL_law_X11_ways_3, List.forall_mem_append.mpr ⟨ggL_law_X11_ways_4, ggL_law_X11_ways_5⟩⟩⟩⟩⟩, (fun _ h => List.mem_append_left _ (List.mem_append_left _ (List.mem_append_left _ (List.mem_append_left _ (List.mem_append_left _ (List.mem_append_left _ (List.mem_append_left _ (List.mem_append_left _ (List.mem_append_left _ (List.mem_append_left _ (List.mem_append_left _ (List.mem_append_right _ h))))))))))))⟩⟩) (by decide +kernel)
set_option maxRecDepth 20000 in
theorem gL_law_X11_ways : GoodIn wsL_law (wsV RL 56 RX11 yX11_ways wsX11_ways) := goodIn_app (goodIn_of _ (by decide +kernel)) ggL_law_X11_ways
set_option maxRecDepth 100000 in
theorem ggL_law_X10_arcs_0 : ∀ w ∈ ([.fieldLink RX10 13 "ShexMatch" "graph" "LShexMatch$Graph;", .fieldLink RX10 118 "ShexMatch$Graph" "size" "I"] : List Cond), w ∈ wsL_law := z_inL [19, 687] rfl
set_option maxRecDepth 100000 in
theorem ggL_law_X10_arcs : GoodIn wsL_law wsX10_arcs := goodIn_sub (List.forall_mem_cons.mpr ⟨List.mem_of_getElem? (i := 686) rfl, List.forall_mem_append.mpr ⟨List.forall_mem_append.mpr ⟨ggL_law_X10_arcs_0, (fun _ h => List.mem_append_left _ (List.mem_append_left _ (List.mem_append_left _ (List.mem_append_left _ (List.mem_append_left _ (List.mem_append_left _ (List.mem_append_left _ (List.mem_append_left _ (List.mem_append_left _ (List.mem_append_left _ (List.mem_append_left _ (List.mem_append_left _ (List.mem_append_right _ h)))))))))))))⟩, (fun _ h => List.mem_append_left _ (List.mem_append_left _ (List.mem_append_left _ (List.mem_append_left _ (List.mem_append_left _ (List.mem_append_left _ (List.mem_append_left _ (List.mem_append_left _ (List.mem_append_left _ (List.mem_append_right _ h))))))))))⟩⟩) (by decide +kernel)
set_option maxRecDepth 20000 in
theorem gL_law_X10_arcs : GoodIn wsL_law (wsV RL 57 RX10 yX10_arcs wsX10_arcs) := goodIn_app (goodIn_of _ (by decide +kernel)) ggL_law_X10_arcs
set_option maxRecDepth 100000 in
theorem ggL_law_X11_arcs_0 : ∀ w ∈ ([.fieldLink RX11 1 "ShexMatchModel" "thrown" "I", .fieldLink RX11 100 "ShexMatchModel" "count" "I"] : List Cond), w ∈ wsL_law := z_inL [172, 173] rfl
set_option maxRecDepth 100000 in
theorem ggL_law_X11_arcs : GoodIn wsL_law wsX11_arcs := goodIn_sub (List.forall_mem_cons.mpr ⟨List.mem_of_getElem? (i := 691) rfl, List.forall_mem_append.mpr ⟨ggL_law_X11_arcs_0, (fun _ h => List.mem_append_left _ (List.mem_append_left _ (List.mem_append_left _ (List.mem_append_left _ (List.mem_append_left _ (List.mem_append_left _ (List.mem_append_left _ (List.mem_append_left _ (List.mem_append_left _ (List.mem_append_left _ (List.mem_append_left _ (List.mem_append_right _ h))))))))))))⟩⟩) (by decide +kernel)
set_option maxRecDepth 20000 in
theorem gL_law_X11_arcs : GoodIn wsL_law (wsV RL 60 RX11 yX11_arcs wsX11_arcs) := goodIn_app (goodIn_of _ (by decide +kernel)) ggL_law_X11_arcs
set_option maxRecDepth 100000 in
theorem ggL_law_L_other_0 : ∀ w ∈ wsL_other_r1, w ∈ wsL_law := z_inL [696, 697, 698, 2, 699, 700, 701, 702, 19, 703, 704, 124, 125, 126, 705, 495, 496, 48, 497, 55, 706, 143, 144, 145] rfl
set_option maxRecDepth 100000 in
theorem ggL_law_L_other_1 : ∀ w ∈ wsL_other_r2, w ∈ wsL_law := z_inL [54, 707, 506, 18, 507] rfl
set_option maxRecDepth 100000 in
theorem ggL_law_L_other : GoodIn wsL_law wsL_other := goodIn_sub (List.forall_mem_cons.mpr ⟨List.mem_of_getElem? (i := 695) rfl, List.forall_mem_append.mpr ⟨List.forall_mem_append.mpr ⟨List.forall_mem_append.mpr ⟨List.forall_mem_append.mpr ⟨List.forall_mem_append.mpr ⟨ggL_law_L_other_0, ggL_law_L_other_1⟩, (fun _ h => List.mem_append_left _ (List.mem_append_right _ h))⟩, (fun _ h => List.mem_append_left _ (List.mem_append_left _ (List.mem_append_left _ (List.mem_append_left _ (List.mem_append_left _ (List.mem_append_left _ (List.mem_append_left _ (List.mem_append_left _ (List.mem_append_left _ (List.mem_append_left _ (List.mem_append_left _ (List.mem_append_left _ (List.mem_append_right _ h)))))))))))))⟩, (fun _ h => List.mem_append_left _ (List.mem_append_left _ (List.mem_append_left _ (List.mem_append_left _ (List.mem_append_left _ (List.mem_append_left _ (List.mem_append_left _ (List.mem_append_left _ (List.mem_append_left _ (List.mem_append_right _ h))))))))))⟩, (fun _ h => List.mem_append_left _ (List.mem_append_left _ (List.mem_append_left _ (List.mem_append_left _ (List.mem_append_right _ h)))))⟩⟩) (by decide +kernel)
set_option maxRecDepth 20000 in
theorem gL_law_L_other : GoodIn wsL_law (va_wsS RL 61 yL_other wsL_other) := goodIn_app (goodIn_of _ (by decide +kernel)) ggL_law_L_other
set_option maxRecDepth 100000 in
theorem ggL_law_X11_other_0 : ∀ w ∈ ([.fieldLink RX11 65 "ShexMatchModel" "ends" "[I", .fieldLink RX11 1 "ShexMatchModel" "thrown" "I", .methodLink RX11 110 yX11_find, .instanceMethod yX11_find, .selects RX11 yX11_find yX11_find, .initialized RX11, .code yX11_find cX11_find 5 (some .int), .fieldLink RX11 100 "ShexMatchModel" "count" "I", .fieldLink RX11 13 "ShexMatchModel" "arcs" "[I"] : List Cond), w ∈ wsL_law := z_inL [109, 172, 181, 182, 183, 5, 184, 173, 90] rfl
set_option maxRecDepth 100000 in
theorem ggL_law_X11_other : GoodIn wsL_law wsX11_other := goodIn_sub (List.forall_mem_cons.mpr ⟨List.mem_of_getElem? (i := 711) rfl, List.forall_mem_append.mpr ⟨ggL_law_X11_other_0, (fun _ h => List.mem_append_left _ (List.mem_append_left _ (List.mem_append_left _ (List.mem_append_left _ (List.mem_append_left _ (List.mem_append_left _ (List.mem_append_left _ (List.mem_append_left _ (List.mem_append_left _ (List.mem_append_left _ (List.mem_append_left _ (List.mem_append_right _ h))))))))))))⟩⟩) (by decide +kernel)
set_option maxRecDepth 20000 in
theorem gL_law_X11_other : GoodIn wsL_law (wsV RL 66 RX11 yX11_other wsX11_other) := goodIn_app (goodIn_of _ (by decide +kernel)) ggL_law_X11_other
set_option maxRecDepth 100000 in
theorem ggL_law_X11_thrown_0 : ∀ w ∈ ([.fieldLink RX11 1 "ShexMatchModel" "thrown" "I"] : List Cond), w ∈ wsL_law := z_inL [172] rfl
set_option maxRecDepth 100000 in
theorem ggL_law_X11_thrown : GoodIn wsL_law wsX11_thrown := goodIn_sub (List.forall_mem_cons.mpr ⟨List.mem_of_getElem? (i := 715) rfl, List.forall_mem_append.mpr ⟨ggL_law_X11_thrown_0, (fun _ h => List.mem_append_left _ (List.mem_append_left _ (List.mem_append_left _ (List.mem_append_left _ (List.mem_append_left _ (List.mem_append_left _ (List.mem_append_left _ (List.mem_append_left _ (List.mem_append_left _ (List.mem_append_left _ (List.mem_append_left _ (List.mem_append_right _ h))))))))))))⟩⟩) (by decide +kernel)
set_option maxRecDepth 20000 in
theorem gL_law_X11_thrown : GoodIn wsL_law (wsV RL 67 RX11 yX11_thrown wsX11_thrown) := goodIn_app (goodIn_of _ (by decide +kernel)) ggL_law_X11_thrown
