set_option maxRecDepth 100000 in
theorem ggL_law_X10_has_0 : ∀ w ∈ wsX10_has_r1, w ∈ wsL_law := z_inL [35, 432, 124, 125, 2, 126, 197, 198, 199, 433, 434, 435, 34, 436, 85, 79, 437, 438, 439, 440, 84, 81, 441, 442] rfl
set_option maxRecDepth 100000 in
theorem ggL_law_X10_has_1 : ∀ w ∈ wsX10_has_r2, w ∈ wsL_law := z_inL [443, 444, 82, 445, 446, 447, 448, 449, 450, 451, 452, 453, 454, 455, 456, 457, 458, 459, 460, 461, 462, 463, 464, 465] rfl
set_option maxRecDepth 100000 in
theorem ggL_law_X10_has_2 : ∀ w ∈ wsX10_has_r3, w ∈ wsL_law := z_inL [80, 466, 83, 467, 468, 469, 470, 471, 472, 473, 30, 474, 475, 476, 477, 478, 479, 73, 74, 480, 481, 71, 482, 483] rfl
set_option maxRecDepth 100000 in
theorem ggL_law_X10_has_3 : ∀ w ∈ wsX10_has_r4, w ∈ wsL_law := z_inL [484, 485, 486, 487, 72, 488, 489, 490, 491, 492, 493, 494, 495, 496, 48, 497, 55, 498, 143, 144, 145, 54, 499, 500] rfl
set_option maxRecDepth 100000 in
theorem ggL_law_X10_has_4 : ∀ w ∈ wsX10_has_r5, w ∈ wsL_law := z_inL [18, 501, 502, 503, 504, 505, 506, 507, 508, 509, 510, 211, 511, 217, 218, 219, 512, 513, 514, 515, 516, 287, 288, 15] rfl
set_option maxRecDepth 100000 in
theorem ggL_law_X10_has_5 : ∀ w ∈ wsX10_has_r6, w ∈ wsL_law := z_inL [289, 290, 40, 41, 517, 518, 519, 520, 42, 344, 297, 298, 299, 521, 522, 523, 524, 525, 526, 527, 528, 221, 222, 223] rfl
set_option maxRecDepth 100000 in
theorem ggL_law_X10_has_6 : ∀ w ∈ wsX10_has_r7, w ∈ wsL_law := z_inL [224, 225, 226, 227, 228, 529, 530, 531, 532, 533, 311, 312, 313, 534, 347, 348, 349, 535, 536, 537, 538, 539, 540, 541] rfl
set_option maxRecDepth 100000 in
theorem ggL_law_X10_has_7 : ∀ w ∈ wsX10_has_r8, w ∈ wsL_law := z_inL [542, 543, 544] rfl
set_option maxRecDepth 100000 in
theorem ggL_law_X10_has : GoodIn wsL_law wsX10_has := goodIn_sub (List.forall_mem_cons.mpr ⟨List.mem_of_getElem? (i := 431) rfl, List.forall_mem_append.mpr ⟨List.forall_mem_append.mpr ⟨List.forall_mem_append.mpr ⟨List.forall_mem_append.mpr ⟨List.forall_mem_append.mpr ⟨List.forall_mem_append.mpr ⟨List.forall_mem_append.mpr ⟨List.forall_mem_append.mpr ⟨List.forall_mem_append.mpr ⟨List.forall_mem_append.mpr ⟨ggL_law_X10_has_0, List.forall_mem_append.mpr ⟨ggL_law_X10_has_1, List.forall_mem_append.mpr ⟨ggL_law_X10_has_2, List.forall_mem_append.mpr ⟨ggL_law_X10_has_3, List.forall_mem_append.mpr ⟨ggL_law_X10_has_4, List.forall_mem_append.mpr ⟨ggL_law_X10_has_5, List.forall_mem_append.mpr ⟨ggL_law_X10_has_6, ggL_law_X10_has_7⟩⟩⟩⟩⟩⟩⟩, (fun _ h => List.mem_append_left _ (List.mem_append_left _ (List.mem_append_left _ (List.mem_append_left _ (List.mem_append_left _ (List.mem_append_left _ (List.mem_append_left _ (List.mem_append_left _ (List.mem_append_left _ (List.mem_append_left _ (List.mem_append_left _ (List.mem_append_left _ (List.mem_append_right _ h)))))))))))))⟩, (fun _ h => List.mem_append_left _ (List.mem_append_left _ (List.mem_append_left _ (List.mem_append_left _ (List.mem_append_left _ (List.mem_append_right _ h))))))⟩, (fun _ h => List.mem_append_left _ (List.mem_append_left _ (List.mem_append_left _ (List.mem_append_left _ (List.mem_append_left _ (List.mem_append_left _ (List.mem_append_left _ (List.mem_append_right _ h))))))))⟩, (fun _ h => List.mem_append_left _ (List.mem_append_left _ (List.mem_append_left _ (List.mem_append_left _ (List.mem_append_left _ (List.mem_append_left _ (List.mem_append_right _ h)))))))⟩, (fun _ h => List.mem_append_left _ (List.mem_append_left _ (List.mem_append_left _ (List.mem_append_left _ (List.mem_append_left _ (List.mem_append_left _ (List.mem_append_left _ (List.mem_append_left _ (List.mem_append_left _ (List.mem_append_left _ (List.mem_append_right _ h)))))))))))⟩, (fun _ h => List.mem_append_left _ (List.mem_append_left _ (List.mem_append_right _ h)))⟩, (fun _ h => List.mem_append_left _ (List.mem_append_left _ (List.mem_append_left _ (List.mem_append_left _ (List.mem_append_left _ (List.mem_append_left _ (List.mem_append_left _ (List.mem_append_left _ (List.mem_append_left _ (List.mem_append_right _ h))))))))))⟩, (fun _ h => List.mem_append_left _ (List.mem_append_left _ (List.mem_append_left _ (List.mem_append_left _ (List.mem_append_right _ h)))))⟩, (fun _ h => List.mem_append_left _ (List.mem_append_left _ (List.mem_append_left _ (List.mem_append_right _ h))))⟩⟩) (by decide +kernel)
set_option maxRecDepth 20000 in
theorem gL_law_X10_has : GoodIn wsL_law (wsV RL 34 RX10 yX10_has wsX10_has) := goodIn_app (goodIn_of _ (by decide +kernel)) ggL_law_X10_has
set_option maxRecDepth 100000 in
theorem ggL_law_X11_has_0 : ∀ w ∈ wsX11_has_r1, w ∈ wsL_law := z_inL [172, 549, 99, 175, 176, 5, 177, 366, 367, 368, 550, 551, 552, 553, 174, 554, 555, 556, 557, 558, 118, 95, 559, 560] rfl
set_option maxRecDepth 100000 in
theorem ggL_law_X11_has_1 : ∀ w ∈ wsX11_has_r2, w ∈ wsL_law := z_inL [561, 562, 96, 97, 423, 93, 108, 424, 425, 426, 427, 107, 91, 92, 563, 564, 565, 566, 567, 568, 569, 570, 571, 572] rfl
set_option maxRecDepth 100000 in
theorem ggL_law_X11_has_2 : ∀ w ∈ wsX11_has_r3, w ∈ wsL_law := z_inL [573, 574, 575, 576, 577, 578, 579, 580, 581, 582, 115, 119, 116, 173, 90, 114, 583, 584, 585, 586, 106, 587, 588, 589] rfl
set_option maxRecDepth 100000 in
theorem ggL_law_X11_has_3 : ∀ w ∈ wsX11_has_r4, w ∈ wsL_law := z_inL [590, 110, 103, 94, 591, 592, 593, 594, 595, 596, 597, 598, 599, 600, 601, 602, 101, 100, 603, 604, 605, 606, 607, 608] rfl
set_option maxRecDepth 100000 in
theorem ggL_law_X11_has_4 : ∀ w ∈ wsX11_has_r5, w ∈ wsL_law := z_inL [609, 111, 112, 610, 611, 612, 613, 98, 614, 615, 616, 617, 618, 619, 620, 621, 117, 622, 623, 624, 625, 626, 627, 628] rfl
set_option maxRecDepth 100000 in
theorem ggL_law_X11_has_5 : ∀ w ∈ wsX11_has_r6, w ∈ wsL_law := z_inL [629] rfl
set_option maxRecDepth 100000 in
theorem ggL_law_X11_has : GoodIn wsL_law wsX11_has := goodIn_sub (List.forall_mem_cons.mpr ⟨List.mem_of_getElem? (i := 548) rfl, List.forall_mem_append.mpr ⟨List.forall_mem_append.mpr ⟨ggL_law_X11_has_0, List.forall_mem_append.mpr ⟨ggL_law_X11_has_1, List.forall_mem_append.mpr ⟨ggL_law_X11_has_2, List.forall_mem_append.mpr ⟨ggL_law_X11_has_3, List.forall_mem_append.mpr ⟨ggL_law_X11_has_4, ggL_law_X11_has_5⟩⟩⟩⟩⟩, (fun _ h => List.mem_append_left _ (List.mem_append_left _ (List.mem_append_left _ (List.mem_append_left _ (List.mem_append_left _ (List.mem_append_left _ (List.mem_append_left _ (List.mem_append_left _ (List.mem_append_left _ (List.mem_append_left _ (List.mem_append_left _ (List.mem_append_right _ h))))))))))))⟩⟩) (by decide +kernel)
set_option maxRecDepth 20000 in
theorem gL_law_X11_has : GoodIn wsL_law (wsV RL 38 RX11 yX11_has wsX11_has) := goodIn_app (goodIn_of _ (by decide +kernel)) ggL_law_X11_has
set_option maxRecDepth 100000 in
theorem ggL_law_X10_nodes_0 : ∀ w ∈ wsX10_nodes_r1, w ∈ wsL_law := z_inL [35, 432, 197, 198, 2, 199, 433, 434, 435, 34, 436, 85, 79, 437, 438, 439, 440, 84, 81, 441, 442, 443, 444, 82] rfl
set_option maxRecDepth 100000 in
theorem ggL_law_X10_nodes_1 : ∀ w ∈ wsX10_nodes_r2, w ∈ wsL_law := z_inL [445, 446, 447, 448, 449, 450, 451, 452, 453, 454, 455, 456, 457, 458, 459, 460, 461, 462, 463, 464, 465, 80, 466, 83] rfl
set_option maxRecDepth 100000 in
theorem ggL_law_X10_nodes_2 : ∀ w ∈ wsX10_nodes_r3, w ∈ wsL_law := z_inL [467, 468, 469, 470, 471, 472, 473, 30, 474, 475, 476, 477, 478, 479, 73, 74, 480, 481, 71, 482, 483, 484, 485, 486] rfl
set_option maxRecDepth 100000 in
theorem ggL_law_X10_nodes_3 : ∀ w ∈ wsX10_nodes_r4, w ∈ wsL_law := z_inL [487, 72, 488, 489, 490, 491, 492, 493, 494, 495, 496, 48, 497, 55, 498, 143, 144, 145, 54, 499, 500, 18, 501, 502] rfl
set_option maxRecDepth 100000 in
theorem ggL_law_X10_nodes_4 : ∀ w ∈ wsX10_nodes_r5, w ∈ wsL_law := z_inL [503, 504, 505, 506, 507, 508, 509, 510, 211, 511, 217, 218, 219, 512, 513, 514, 515, 516, 287, 288, 15, 289, 290, 40] rfl
set_option maxRecDepth 100000 in
theorem ggL_law_X10_nodes_5 : ∀ w ∈ wsX10_nodes_r6, w ∈ wsL_law := z_inL [41, 517, 518, 519, 520, 42, 344, 297, 298, 299, 521, 522, 523, 524, 525, 526, 527, 528, 221, 222, 223, 224, 225, 226] rfl
set_option maxRecDepth 100000 in
theorem ggL_law_X10_nodes_6 : ∀ w ∈ wsX10_nodes_r7, w ∈ wsL_law := z_inL [227, 228, 529, 530, 531, 532, 533, 311, 312, 313, 534, 347, 348, 349, 535, 536, 537, 538, 539, 540, 541, 542, 543, 544] rfl
set_option maxRecDepth 100000 in
theorem ggL_law_X10_nodes : GoodIn wsL_law wsX10_nodes := goodIn_sub (List.forall_mem_cons.mpr ⟨List.mem_of_getElem? (i := 633) rfl, List.forall_mem_append.mpr ⟨List.forall_mem_append.mpr ⟨List.forall_mem_append.mpr ⟨List.forall_mem_append.mpr ⟨List.forall_mem_append.mpr ⟨List.forall_mem_append.mpr ⟨List.forall_mem_append.mpr ⟨List.forall_mem_append.mpr ⟨List.forall_mem_append.mpr ⟨List.forall_mem_append.mpr ⟨ggL_law_X10_nodes_0, List.forall_mem_append.mpr ⟨ggL_law_X10_nodes_1, List.forall_mem_append.mpr ⟨ggL_law_X10_nodes_2, List.forall_mem_append.mpr ⟨ggL_law_X10_nodes_3, List.forall_mem_append.mpr ⟨ggL_law_X10_nodes_4, List.forall_mem_append.mpr ⟨ggL_law_X10_nodes_5, ggL_law_X10_nodes_6⟩⟩⟩⟩⟩⟩, (fun _ h => List.mem_append_left _ (List.mem_append_left _ (List.mem_append_left _ (List.mem_append_left _ (List.mem_append_left _ (List.mem_append_left _ (List.mem_append_left _ (List.mem_append_left _ (List.mem_append_left _ (List.mem_append_left _ (List.mem_append_left _ (List.mem_append_left _ (List.mem_append_right _ h)))))))))))))⟩, (fun _ h => List.mem_append_left _ (List.mem_append_left _ (List.mem_append_left _ (List.mem_append_left _ (List.mem_append_left _ (List.mem_append_right _ h))))))⟩, (fun _ h => List.mem_append_left _ (List.mem_append_left _ (List.mem_append_left _ (List.mem_append_left _ (List.mem_append_left _ (List.mem_append_left _ (List.mem_append_left _ (List.mem_append_right _ h))))))))⟩, (fun _ h => List.mem_append_left _ (List.mem_append_left _ (List.mem_append_left _ (List.mem_append_left _ (List.mem_append_left _ (List.mem_append_left _ (List.mem_append_right _ h)))))))⟩, (fun _ h => List.mem_append_left _ (List.mem_append_left _ (List.mem_append_left _ (List.mem_append_left _ (List.mem_append_left _ (List.mem_append_left _ (List.mem_append_left _ (List.mem_append_left _ (List.mem_append_left _ (List.mem_append_left _ (List.mem_append_right _ h)))))))))))⟩, (fun _ h => List.mem_append_left _ (List.mem_append_left _ (List.mem_append_right _ h)))⟩, (fun _ h => List.mem_append_left _ (List.mem_append_left _ (List.mem_append_left _ (List.mem_append_left _ (List.mem_append_left _ (List.mem_append_left _ (List.mem_append_left _ (List.mem_append_left _ (List.mem_append_left _ (List.mem_append_right _ h))))))))))⟩, (fun _ h => List.mem_append_left _ (List.mem_append_left _ (List.mem_append_left _ (List.mem_append_left _ (List.mem_append_right _ h)))))⟩, (fun _ h => List.mem_append_left _ (List.mem_append_left _ (List.mem_append_left _ (List.mem_append_right _ h))))⟩⟩) (by decide +kernel)
set_option maxRecDepth 20000 in
theorem gL_law_X10_nodes : GoodIn wsL_law (wsV RL 39 RX10 yX10_nodes wsX10_nodes) := goodIn_app (goodIn_of _ (by decide +kernel)) ggL_law_X10_nodes
set_option maxRecDepth 100000 in
theorem ggL_law_X11_nodes_0 : ∀ w ∈ wsX11_nodes_r1, w ∈ wsL_law := z_inL [172, 549, 99, 366, 367, 5, 368, 550, 551, 552, 553, 174, 554, 555, 556, 557, 558, 118, 95, 559, 560, 561, 562, 96] rfl
set_option maxRecDepth 100000 in
theorem ggL_law_X11_nodes_1 : ∀ w ∈ wsX11_nodes_r2, w ∈ wsL_law := z_inL [97, 423, 93, 108, 424, 425, 426, 427, 107, 91, 92, 563, 564, 565, 566, 567, 568, 569, 570, 571, 572, 573, 574, 575] rfl
set_option maxRecDepth 100000 in
theorem ggL_law_X11_nodes_2 : ∀ w ∈ wsX11_nodes_r3, w ∈ wsL_law := z_inL [576, 577, 578, 579, 580, 581, 582, 115, 119, 116, 173, 90, 114, 583, 584, 585, 586, 106, 587, 588, 589, 590, 110, 103] rfl
set_option maxRecDepth 100000 in
theorem ggL_law_X11_nodes_3 : ∀ w ∈ wsX11_nodes_r4, w ∈ wsL_law := z_inL [94, 591, 592, 593, 594, 595, 596, 597, 598, 599, 600, 601, 602, 101, 100, 603, 604, 605, 606, 607, 608, 609, 111, 112] rfl
set_option maxRecDepth 100000 in
theorem ggL_law_X11_nodes_4 : ∀ w ∈ wsX11_nodes_r5, w ∈ wsL_law := z_inL [610, 611, 612, 613, 98, 614, 615, 616, 617, 618, 619, 620, 621, 117, 622, 623, 624, 625, 626, 627, 628, 629] rfl
set_option maxRecDepth 100000 in
theorem ggL_law_X11_nodes : GoodIn wsL_law wsX11_nodes := goodIn_sub (List.forall_mem_cons.mpr ⟨List.mem_of_getElem? (i := 637) rfl, List.forall_mem_append.mpr ⟨List.forall_mem_append.mpr ⟨ggL_law_X11_nodes_0, List.forall_mem_append.mpr ⟨ggL_law_X11_nodes_1, List.forall_mem_append.mpr ⟨ggL_law_X11_nodes_2, List.forall_mem_append.mpr ⟨ggL_law_X11_nodes_3, ggL_law_X11_nodes_4⟩⟩⟩⟩, (fun _ h => List.mem_append_left _ (List.mem_append_left _ (List.mem_append_left _ (List.mem_append_left _ (List.mem_append_left _ (List.mem_append_left _ (List.mem_append_left _ (List.mem_append_left _ (List.mem_append_left _ (List.mem_append_left _ (List.mem_append_left _ (List.mem_append_right _ h))))))))))))⟩⟩) (by decide +kernel)
set_option maxRecDepth 20000 in
theorem gL_law_X11_nodes : GoodIn wsL_law (wsV RL 43 RX11 yX11_nodes wsX11_nodes) := goodIn_app (goodIn_of _ (by decide +kernel)) ggL_law_X11_nodes
set_option maxRecDepth 100000 in
theorem ggL_law_X10_wrong_0 : ∀ w ∈ ([.fieldLink RX10 49 "ShexMatch" "solver" "LShexMatch$Solver;", .methodLink RX10 105 yX9_leastWrong, .instanceMethod yX9_leastWrong, .selects RX9 yX9_leastWrong yX9_leastWrong, .initialized RX9, .code yX9_leastWrong cX9_leastWrong 1 (some .int), .fieldLink RX9 30 "ShexMatch$Solver" "ringsStale" "Z", .fieldLink RX9 18 "ShexMatch$Solver" "leastInWrongRing" "I", .methodLink RX9 37 yX9_findReach, .instanceMethod yX9_findReach, .selects RX9 yX9_findReach yX9_findReach, .code yX9_findReach cX9_findReach 3 none, .fieldLink RX9 9 "ShexMatch$Solver" "reach" "[I", .fieldLink RX9 22 "ShexMatch$Solver" "shapes" "[LShexMatch$Shape;", .fieldLink RX9 44 "ShexMatch$Shape" "refersTo" "I", .methodLink RX9 49 yX9_leads, .instanceMethod yX9_leads, .selects RX9 yX9_leads yX9_leads, .code yX9_leads cX9_leads 3 (some .boolean), .methodLink RX9 40 yX9_findLeastWrong, .instanceMethod yX9_findLeastWrong, .selects RX9 yX9_findLeastWrong yX9_findLeastWrong, .code yX9_findLeastWrong cX9_findLeastWrong 3 (some .int), .fieldLink RX9 53 "ShexMatch$Shape" "kind" "I"] : List Cond), w ∈ wsL_law := z_inL [35, 642, 438, 439, 34, 440, 84, 81, 441, 442, 443, 444, 79, 82, 445, 446, 447, 448, 449, 450, 451, 452, 453, 454] rfl
set_option maxRecDepth 100000 in
theorem ggL_law_X10_wrong : GoodIn wsL_law wsX10_wrong := goodIn_sub (List.forall_mem_cons.mpr ⟨List.mem_of_getElem? (i := 641) rfl, List.forall_mem_append.mpr ⟨List.forall_mem_append.mpr ⟨List.forall_mem_append.mpr ⟨ggL_law_X10_wrong_0, (fun _ h => List.mem_append_left _ (List.mem_append_left _ (List.mem_append_left _ (List.mem_append_left _ (List.mem_append_left _ (List.mem_append_left _ (List.mem_append_left _ (List.mem_append_left _ (List.mem_append_left _ (List.mem_append_left _ (List.mem_append_left _ (List.mem_append_left _ (List.mem_append_right _ h)))))))))))))⟩, (fun _ h => List.mem_append_left _ (List.mem_append_left _ (List.mem_append_left _ (List.mem_append_left _ (List.mem_append_left _ (List.mem_append_right _ h))))))⟩, (fun _ h => List.mem_append_left _ (List.mem_append_left _ (List.mem_append_left _ (List.mem_append_left _ (List.mem_append_left _ (List.mem_append_left _ (List.mem_append_left _ (List.mem_append_right _ h))))))))⟩⟩) (by decide +kernel)
set_option maxRecDepth 20000 in
theorem gL_law_X10_wrong : GoodIn wsL_law (wsV RL 44 RX10 yX10_wrong wsX10_wrong) := goodIn_app (goodIn_of _ (by decide +kernel)) ggL_law_X10_wrong
set_option maxRecDepth 100000 in
theorem ggL_law_X11_wrong_0 : ∀ w ∈ wsX11_wrong_r1, w ∈ wsL_law := z_inL [172, 549, 550, 551, 552, 5, 553, 174, 554, 99, 555, 556, 557, 558, 118, 95, 559, 560, 561, 562, 96, 97, 423, 93] rfl
set_option maxRecDepth 100000 in
theorem ggL_law_X11_wrong_1 : ∀ w ∈ wsX11_wrong_r2, w ∈ wsL_law := z_inL [108, 424, 425, 426, 427, 107, 91, 92, 563, 564, 565, 566, 567, 568, 569, 570, 571, 572, 573, 574, 575, 576, 577, 578] rfl
set_option maxRecDepth 100000 in
theorem ggL_law_X11_wrong_2 : ∀ w ∈ wsX11_wrong_r3, w ∈ wsL_law := z_inL [579, 580, 581, 582, 115, 119, 116, 173, 90, 114, 583, 584, 585, 586, 106, 587, 588, 589, 590, 110, 103, 94, 591, 592] rfl
set_option maxRecDepth 100000 in
theorem ggL_law_X11_wrong_3 : ∀ w ∈ wsX11_wrong_r4, w ∈ wsL_law := z_inL [593, 594, 595, 596, 597, 598, 599, 600, 601, 602, 101, 100, 603, 604, 605, 606, 607, 608, 609, 111, 112, 610, 611, 612] rfl
set_option maxRecDepth 100000 in
theorem ggL_law_X11_wrong_4 : ∀ w ∈ wsX11_wrong_r5, w ∈ wsL_law := z_inL [613, 98, 614, 615, 616, 617, 618, 619, 620, 621, 117, 622, 623, 624, 625, 626, 627, 628, 629] rfl
set_option maxRecDepth 100000 in
theorem ggL_law_X11_wrong : GoodIn wsL_law wsX11_wrong := goodIn_sub (List.forall_mem_cons.mpr ⟨List.mem_of_getElem? (i := 646) rfl, List.forall_mem_append.mpr ⟨List.forall_mem_append.mpr ⟨ggL_law_X11_wrong_0, List.forall_mem_append.mpr ⟨ggL_law_X11_wrong_1, List.forall_mem_append.mpr ⟨ggL_law_X11_wrong_2, List.forall_mem_append.mpr ⟨ggL_law_X11_wrong_3, ggL_law_X11_wrong_4⟩⟩⟩⟩, (fun _ h => List.mem_append_left _ (List.mem_append_left _ (List.mem_append_left _ (List.mem_append_left _ (List.mem_append_left _ (List.mem_append_left _ (List.mem_append_left _ (List.mem_append_left _ (List.mem_append_left _ (List.mem_append_left _ (List.mem_append_left _ (List.mem_append_right _ h))))))))))))⟩⟩) (by decide +kernel)
set_option maxRecDepth 20000 in
theorem gL_law_X11_wrong : GoodIn wsL_law (wsV RL 48 RX11 yX11_wrong wsX11_wrong) := goodIn_app (goodIn_of _ (by decide +kernel)) ggL_law_X11_wrong
set_option maxRecDepth 100000 in
theorem ggL_law_X10_loose_0 : ∀ w ∈ wsX10_loose_r1, w ∈ wsL_law := z_inL [35, 31, 25, 432, 124, 125, 2, 126, 651, 652, 653, 654, 655, 197, 198, 199, 433, 434, 435, 34, 436, 85, 79, 437] rfl
set_option maxRecDepth 100000 in
theorem ggL_law_X10_loose_1 : ∀ w ∈ wsX10_loose_r2, w ∈ wsL_law := z_inL [438, 439, 440, 84, 81, 441, 442, 443, 444, 82, 445, 446, 447, 448, 449, 450, 451, 452, 453, 454, 455, 456, 457, 458] rfl
set_option maxRecDepth 100000 in
theorem ggL_law_X10_loose_2 : ∀ w ∈ wsX10_loose_r3, w ∈ wsL_law := z_inL [459, 460, 461, 462, 463, 464, 465, 80, 466, 83, 467, 468, 469, 470, 471, 472, 473, 30, 474, 475, 476, 477, 478, 479] rfl
set_option maxRecDepth 100000 in
theorem ggL_law_X10_loose_3 : ∀ w ∈ wsX10_loose_r4, w ∈ wsL_law := z_inL [73, 74, 480, 481, 71, 482, 483, 484, 485, 486, 487, 72, 488, 489, 490, 491, 492, 493, 494, 495, 496, 48, 497, 55] rfl
set_option maxRecDepth 100000 in
theorem ggL_law_X10_loose_4 : ∀ w ∈ wsX10_loose_r5, w ∈ wsL_law := z_inL [498, 143, 144, 145, 54, 499, 500, 18, 501, 502, 503, 504, 505, 506, 507, 508, 509, 510, 211, 511, 217, 218, 219, 512] rfl
set_option maxRecDepth 100000 in
theorem ggL_law_X10_loose_5 : ∀ w ∈ wsX10_loose_r6, w ∈ wsL_law := z_inL [513, 514, 515, 516, 287, 288, 15, 289, 290, 40, 41, 517, 518, 519, 520, 42, 344, 297, 298, 299, 521, 522, 523, 524] rfl
set_option maxRecDepth 100000 in
theorem ggL_law_X10_loose_6 : ∀ w ∈ wsX10_loose_r7, w ∈ wsL_law := z_inL [525, 526, 527, 528, 221, 222, 223, 224, 225, 226, 227, 228, 529, 530, 531, 532, 533, 311, 312, 313, 534, 347, 348, 349] rfl
set_option maxRecDepth 100000 in
theorem ggL_law_X10_loose_7 : ∀ w ∈ wsX10_loose_r8, w ∈ wsL_law := z_inL [535, 536, 537, 538, 539, 540, 541, 542, 543, 544, 656, 657, 658, 659] rfl
set_option maxRecDepth 100000 in
theorem ggL_law_X10_loose : GoodIn wsL_law wsX10_loose := goodIn_sub (List.forall_mem_cons.mpr ⟨List.mem_of_getElem? (i := 650) rfl, List.forall_mem_append.mpr ⟨List.forall_mem_append.mpr ⟨List.forall_mem_append.mpr ⟨List.forall_mem_append.mpr ⟨List.forall_mem_append.mpr ⟨List.forall_mem_append.mpr ⟨List.forall_mem_append.mpr ⟨List.forall_mem_append.mpr ⟨List.forall_mem_append.mpr ⟨List.forall_mem_append.mpr ⟨ggL_law_X10_loose_0, List.forall_mem_append.mpr ⟨ggL_law_X10_loose_1, List.forall_mem_append.mpr ⟨ggL_law_X10_loose_2, List.forall_mem_append.mpr ⟨ggL_law_X10_loose_3, List.forall_mem_append.mpr ⟨ggL_law_X10_loose_4, List.forall_mem_append.mpr ⟨ggL_law_X10_loose_5, List.forall_mem_append.mpr ⟨ggL_law_X10_loose_6, ggL_law_X10_loose_7⟩⟩⟩⟩⟩⟩⟩, (fun _ h => List.mem_append_left _ (List.mem_append_left _ (List.mem_append_left _ (List.mem_append_left _ (List.mem_append_left _ (List.mem_append_left _ (List.mem_append_left _ (List.mem_append_left _ (List.mem_append_left _ (List.mem_append_left _ (List.mem_append_left _ (List.mem_append_left _ (List.mem_append_right _ h)))))))))))))⟩, (fun _ h => List.mem_append_left _ (List.mem_append_left _ (List.mem_append_left _ (List.mem_append_left _ (List.mem_append_left _ (List.mem_append_right _ h))))))⟩, (fun _ h => List.mem_append_left _ (List.mem_append_left _ (List.mem_append_left _ (List.mem_append_left _ (List.mem_append_left _ (List.mem_append_left _ (List.mem_append_left _ (List.mem_append_right _ h))))))))⟩, (fun _ h => List.mem_append_left _ (List.mem_append_left _ (List.mem_append_left _ (List.mem_append_left _ (List.mem_append_left _ (List.mem_append_left _ (List.mem_append_right _ h)))))))⟩, (fun _ h => List.mem_append_left _ (List.mem_append_left _ (List.mem_append_left _ (List.mem_append_left _ (List.mem_append_left _ (List.mem_append_left _ (List.mem_append_left _ (List.mem_append_left _ (List.mem_append_left _ (List.mem_append_left _ (List.mem_append_right _ h)))))))))))⟩, (fun _ h => List.mem_append_left _ (List.mem_append_left _ (List.mem_append_right _ h)))⟩, (fun _ h => List.mem_append_left _ (List.mem_append_left _ (List.mem_append_left _ (List.mem_append_left _ (List.mem_append_left _ (List.mem_append_left _ (List.mem_append_left _ (List.mem_append_left _ (List.mem_append_left _ (List.mem_append_right _ h))))))))))⟩, (fun _ h => List.mem_append_left _ (List.mem_append_left _ (List.mem_append_left _ (List.mem_append_left _ (List.mem_append_right _ h)))))⟩, (fun _ h => List.mem_append_left _ (List.mem_append_left _ (List.mem_append_left _ (List.mem_append_right _ h))))⟩⟩) (by decide +kernel)
set_option maxRecDepth 20000 in
theorem gL_law_X10_loose : GoodIn wsL_law (wsV RL 49 RX10 yX10_loose wsX10_loose) := goodIn_app (goodIn_of _ (by decide +kernel)) ggL_law_X10_loose
set_option maxRecDepth 100000 in
theorem ggL_law_X11_loose_0 : ∀ w ∈ wsX11_loose_r1, w ∈ wsL_law := z_inL [172, 549, 96, 173, 90, 175, 176, 5, 177, 664, 665, 666, 667, 95, 366, 367, 368, 550, 551, 552, 553, 174, 554, 99] rfl
set_option maxRecDepth 100000 in
theorem ggL_law_X11_loose_1 : ∀ w ∈ wsX11_loose_r2, w ∈ wsL_law := z_inL [555, 556, 557, 558, 118, 559, 560, 561, 562, 97, 423, 93, 108, 424, 425, 426, 427, 107, 91, 92, 563, 564, 565, 566] rfl
set_option maxRecDepth 100000 in
theorem ggL_law_X11_loose_2 : ∀ w ∈ wsX11_loose_r3, w ∈ wsL_law := z_inL [567, 568, 569, 570, 571, 572, 573, 574, 575, 576, 577, 578, 579, 580, 581, 582, 115, 119, 116, 114, 583, 584, 585, 586] rfl
set_option maxRecDepth 100000 in
theorem ggL_law_X11_loose_3 : ∀ w ∈ wsX11_loose_r4, w ∈ wsL_law := z_inL [106, 587, 588, 589, 590, 110, 103, 94, 591, 592, 593, 594, 595, 596, 597, 598, 599, 600, 601, 602, 101, 100, 603, 604] rfl
set_option maxRecDepth 100000 in
theorem ggL_law_X11_loose_4 : ∀ w ∈ wsX11_loose_r5, w ∈ wsL_law := z_inL [605, 606, 607, 608, 609, 111, 112, 610, 611, 612, 613, 98, 614, 615, 616, 617, 618, 619, 620, 621, 117, 622, 623, 624] rfl
set_option maxRecDepth 100000 in
theorem ggL_law_X11_loose_5 : ∀ w ∈ wsX11_loose_r6, w ∈ wsL_law := z_inL [625, 626, 627, 628, 629, 668, 669, 670, 671] rfl
set_option maxRecDepth 100000 in
theorem ggL_law_X11_loose : GoodIn wsL_law wsX11_loose := goodIn_sub (List.forall_mem_cons.mpr ⟨List.mem_of_getElem? (i := 663) rfl, List.forall_mem_append.mpr ⟨List.forall_mem_append.mpr ⟨ggL_law_X11_loose_0, List.forall_mem_append.mpr ⟨ggL_law_X11_loose_1, List.forall_mem_append.mpr ⟨ggL_law_X11_loose_2, List.forall_mem_append.mpr ⟨ggL_law_X11_loose_3, List.forall_mem_append.mpr ⟨ggL_law_X11_loose_4, ggL_law_X11_loose_5⟩⟩⟩⟩⟩, (fun _ h => List.mem_append_left _ (List.mem_append_left _ (List.mem_append_left _ (List.mem_append_left _ (List.mem_append_left _ (List.mem_append_left _ (List.mem_append_left _ (List.mem_append_left _ (List.mem_append_left _ (List.mem_append_left _ (List.mem_append_left _ (List.mem_append_right _ h))))))))))))⟩⟩) (by decide +kernel)
set_option maxRecDepth 20000 in
theorem gL_law_X11_loose : GoodIn wsL_law (wsV RL 52 RX11 yX11_loose wsX11_loose) := goodIn_app (goodIn_of _ (by decide +kernel)) ggL_law_X11_loose
