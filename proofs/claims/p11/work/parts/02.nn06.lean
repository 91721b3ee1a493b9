set_option maxRecDepth 100000 in
theorem ggX11_loose_X11_isLoose_0 : ∀ w ∈ ([.fieldLink RX11 128 "ShexMatchModel" "placeCount" "I", .fieldLink RX11 62 "ShexMatchModel" "places" "[I", .methodLink RX11 170 yX11_mayBeLeft, .instanceMethod yX11_mayBeLeft, .selects RX11 yX11_mayBeLeft yX11_mayBeLeft, .initialized RX11, .code yX11_mayBeLeft cX11_mayBeLeft 4 (some .boolean), .fieldLink RX11 35 "ShexMatchModel" "ys" "[I", .fieldLink RX11 13 "ShexMatchModel" "arcs" "[I", .methodLink RX11 173 yX11_takes, .instanceMethod yX11_takes, .selects RX11 yX11_takes yX11_takes, .code yX11_takes cX11_takes 5 (some .boolean), .fieldLink RX11 20 "ShexMatchModel" "as" "[I", .fieldLink RX11 23 "ShexMatchModel" "bs" "[I", .fieldLink RX11 41 "ShexMatchModel" "have" "[I", .methodLink RX11 153 yX11_isOut, .instanceMethod yX11_isOut, .selects RX11 yX11_isOut yX11_isOut, .code yX11_isOut cX11_isOut 2 (some .boolean), .fieldLink RX11 17 "ShexMatchModel" "kinds" "[I"] : List Cond), w ∈ wsX11_loose := z_inL [35, 37, 118, 119, 120, 8, 121, 34, 5, 122, 123, 124, 125, 44, 36, 24, 109, 110, 111, 112, 43] rfl
set_option maxRecDepth 100000 in
theorem ggX11_loose_X11_isLoose : GoodIn wsX11_loose wsX11_isLoose := goodIn_sub (List.forall_mem_cons.mpr ⟨List.mem_of_getElem? (i := 129) rfl, List.forall_mem_append.mpr ⟨ggX11_loose_X11_isLoose_0, (fun _ h => List.mem_cons_of_mem _ (List.mem_append_right _ h))⟩⟩) (by decide +kernel)
set_option maxRecDepth 20000 in
theorem gX11_loose_X11_isLoose : GoodIn wsX11_loose (wsV RX11 209 RX11 yX11_isLoose wsX11_isLoose) := goodIn_app (goodIn_of _ (by decide +kernel)) ggX11_loose_X11_isLoose
set_option maxRecDepth 100000 in
theorem ggX11_isLoose_X11_mayBeLeft_0 : ∀ w ∈ ([.fieldLink RX11 35 "ShexMatchModel" "ys" "[I", .fieldLink RX11 13 "ShexMatchModel" "arcs" "[I"] : List Cond), w ∈ wsX11_isLoose := z_inL [8, 9] rfl
set_option maxRecDepth 100000 in
theorem ggX11_isLoose_X11_mayBeLeft : GoodIn wsX11_isLoose wsX11_mayBeLeft := goodIn_sub (List.forall_mem_cons.mpr ⟨List.mem_of_getElem? (i := 7) rfl, List.forall_mem_append.mpr ⟨ggX11_isLoose_X11_mayBeLeft_0, (fun _ h => List.mem_cons_of_mem _ (List.mem_append_right _ h))⟩⟩) (by decide +kernel)
set_option maxRecDepth 20000 in
theorem gX11_isLoose_X11_mayBeLeft : GoodIn wsX11_isLoose (wsV RX11 170 RX11 yX11_mayBeLeft wsX11_mayBeLeft) := goodIn_app (goodIn_of _ (by decide +kernel)) ggX11_isLoose_X11_mayBeLeft
set_option maxRecDepth 100000 in
theorem ggX11_isLoose_X11_takes_0 : ∀ w ∈ ([.fieldLink RX11 13 "ShexMatchModel" "arcs" "[I", .fieldLink RX11 20 "ShexMatchModel" "as" "[I", .fieldLink RX11 23 "ShexMatchModel" "bs" "[I", .fieldLink RX11 41 "ShexMatchModel" "have" "[I", .methodLink RX11 153 yX11_isOut, .instanceMethod yX11_isOut, .selects RX11 yX11_isOut yX11_isOut, .initialized RX11, .code yX11_isOut cX11_isOut 2 (some .boolean), .fieldLink RX11 17 "ShexMatchModel" "kinds" "[I"] : List Cond), w ∈ wsX11_isLoose := z_inL [9, 14, 15, 16, 17, 18, 19, 6, 20, 21] rfl
set_option maxRecDepth 100000 in
theorem ggX11_isLoose_X11_takes : GoodIn wsX11_isLoose wsX11_takes := goodIn_sub (List.forall_mem_cons.mpr ⟨List.mem_of_getElem? (i := 13) rfl, List.forall_mem_append.mpr ⟨ggX11_isLoose_X11_takes_0, (fun _ h => List.mem_cons_of_mem _ (List.mem_append_right _ h))⟩⟩) (by decide +kernel)
set_option maxRecDepth 20000 in
theorem gX11_isLoose_X11_takes : GoodIn wsX11_isLoose (wsV RX11 173 RX11 yX11_takes wsX11_takes) := goodIn_app (goodIn_of _ (by decide +kernel)) ggX11_isLoose_X11_takes
set_option maxRecDepth 100000 in
theorem ggX11_ways_X11_isNode : GoodIn wsX11_ways wsX11_isNode := goodIn_sub (List.forall_mem_cons.mpr ⟨List.mem_of_getElem? (i := 8) rfl, (fun _ h => absurd h List.not_mem_nil)⟩) (by decide +kernel)
set_option maxRecDepth 20000 in
theorem gX11_ways_X11_isNode : GoodIn wsX11_ways (va_wsS RX11 103 yX11_isNode wsX11_isNode) := goodIn_app (goodIn_of _ (by decide +kernel)) ggX11_ways_X11_isNode
set_option maxRecDepth 100000 in
theorem ggX11_ways_X11_isBare_0 : ∀ w ∈ ([.fieldLink RX11 29 "ShexMatchModel" "sorts" "[I", .methodLink RX11 122 yX11_isShape, .static yX11_isShape, .initialized RX11, .code yX11_isShape cX11_isShape 1 (some .boolean)] : List Cond), w ∈ wsX11_ways := z_inL [13, 14, 15, 7, 16] rfl
set_option maxRecDepth 100000 in
theorem ggX11_ways_X11_isBare : GoodIn wsX11_ways wsX11_isBare := goodIn_sub (List.forall_mem_cons.mpr ⟨List.mem_of_getElem? (i := 12) rfl, List.forall_mem_append.mpr ⟨ggX11_ways_X11_isBare_0, (fun _ h => List.mem_cons_of_mem _ (List.mem_append_right _ h))⟩⟩) (by decide +kernel)
set_option maxRecDepth 20000 in
theorem gX11_ways_X11_isBare : GoodIn wsX11_ways (wsV RX11 206 RX11 yX11_isBare wsX11_isBare) := goodIn_app (goodIn_of _ (by decide +kernel)) ggX11_ways_X11_isBare
set_option maxRecDepth 100000 in
theorem ggX11_ways_X11_reckon_0 : ∀ w ∈ wsX11_reckon_r1, w ∈ wsX11_ways := z_inL [21, 2, 22, 23, 24, 25, 26, 7, 27, 28, 13, 29, 30, 31, 32, 33, 34, 35, 36, 37, 38, 39, 40, 41] rfl
set_option maxRecDepth 100000 in
theorem ggX11_ways_X11_reckon_1 : ∀ w ∈ wsX11_reckon_r2, w ∈ wsX11_ways := z_inL [42, 43, 44, 45, 46, 47, 48, 49, 50, 51, 52, 53, 54, 55, 56, 57, 58, 59, 60, 61, 62, 63, 64, 65] rfl
set_option maxRecDepth 100000 in
theorem ggX11_ways_X11_reckon_2 : ∀ w ∈ wsX11_reckon_r3, w ∈ wsX11_ways := z_inL [66, 67, 68, 69, 70, 71, 72, 73, 74, 75, 76, 77, 78, 79, 80, 81, 82, 83, 84, 85, 86, 87, 88, 89] rfl
set_option maxRecDepth 100000 in
theorem ggX11_ways_X11_reckon_3 : ∀ w ∈ wsX11_reckon_r4, w ∈ wsX11_ways := z_inL [90, 91, 92, 93, 94, 95, 96, 97, 98, 99, 100, 101, 102, 103, 104, 105, 106, 107, 108, 109, 110, 111, 112, 113] rfl
set_option maxRecDepth 100000 in
theorem ggX11_ways_X11_reckon_4 : ∀ w ∈ wsX11_reckon_r5, w ∈ wsX11_ways := z_inL [114, 115, 116, 117, 118, 119, 120, 121, 122, 123, 124, 125, 126, 127] rfl
set_option maxRecDepth 100000 in
theorem ggX11_ways_X11_reckon : GoodIn wsX11_ways wsX11_reckon := goodIn_sub (List.forall_mem_cons.mpr ⟨List.mem_of_getElem? (i := 20) rfl, List.forall_mem_append.mpr ⟨List.forall_mem_append.mpr ⟨ggX11_ways_X11_reckon_0, List.forall_mem_append.mpr ⟨ggX11_ways_X11_reckon_1, List.forall_mem_append.mpr ⟨ggX11_ways_X11_reckon_2, List.forall_mem_append.mpr ⟨ggX11_ways_X11_reckon_3, ggX11_ways_X11_reckon_4⟩⟩⟩⟩, (fun _ h => List.mem_cons_of_mem _ (List.mem_append_right _ h))⟩⟩) (by decide +kernel)
set_option maxRecDepth 20000 in
theorem gX11_ways_X11_reckon : GoodIn wsX11_ways (wsV RX11 203 RX11 yX11_reckon wsX11_reckon) := goodIn_app (goodIn_of _ (by decide +kernel)) ggX11_ways_X11_reckon
set_option maxRecDepth 100000 in
theorem ggX11_ways_X11_weigh_0 : ∀ w ∈ wsX11_weigh_r1, w ∈ wsX11_ways := z_inL [33, 65, 66, 67, 68, 69, 70, 38, 39, 40, 7, 41, 42, 43, 44, 36, 35, 37, 71, 72, 73, 74, 75, 76] rfl
set_option maxRecDepth 100000 in
theorem ggX11_ways_X11_weigh_1 : ∀ w ∈ wsX11_weigh_r2, w ∈ wsX11_ways := z_inL [77, 78, 79, 80, 81, 82, 83, 84, 85, 86, 87, 88, 89, 90, 91, 92, 93, 94, 95, 96, 97, 98, 99, 100] rfl
set_option maxRecDepth 100000 in
theorem ggX11_ways_X11_weigh_2 : ∀ w ∈ wsX11_weigh_r3, w ∈ wsX11_ways := z_inL [101, 102, 103, 104, 105, 106, 107, 108, 109, 110, 111, 112, 113, 114, 115, 116, 117, 118, 119, 120, 121, 122, 123, 34] rfl
set_option maxRecDepth 100000 in
theorem ggX11_ways_X11_weigh_3 : ∀ w ∈ wsX11_weigh_r4, w ∈ wsX11_ways := z_inL [124, 125, 126, 127, 23] rfl
set_option maxRecDepth 100000 in
theorem ggX11_ways_X11_weigh : GoodIn wsX11_ways wsX11_weigh := goodIn_sub (List.forall_mem_cons.mpr ⟨List.mem_of_getElem? (i := 64) rfl, List.forall_mem_append.mpr ⟨List.forall_mem_append.mpr ⟨ggX11_ways_X11_weigh_0, List.forall_mem_append.mpr ⟨ggX11_ways_X11_weigh_1, List.forall_mem_append.mpr ⟨ggX11_ways_X11_weigh_2, ggX11_ways_X11_weigh_3⟩⟩⟩, (fun _ h => List.mem_cons_of_mem _ (List.mem_append_right _ h))⟩⟩) (by decide +kernel)
set_option maxRecDepth 20000 in
theorem gX11_ways_X11_weigh : GoodIn wsX11_ways (wsV RX11 176 RX11 yX11_weigh wsX11_weigh) := goodIn_app (goodIn_of _ (by decide +kernel)) ggX11_ways_X11_weigh
set_option maxRecDepth 100000 in
theorem ggL_other_X10_other_0 : ∀ w ∈ wsX10_other_r1, w ∈ wsL_other := z_inL [6, 7, 8, 9, 10, 11, 12, 13, 4, 14, 15, 16, 17, 18, 19, 20, 21, 22, 23, 24, 25, 26, 27, 28] rfl
set_option maxRecDepth 100000 in
theorem ggL_other_X10_other_1 : ∀ w ∈ wsX10_other_r2, w ∈ wsL_other := z_inL [29] rfl
set_option maxRecDepth 100000 in
theorem ggL_other_X10_other : GoodIn wsL_other wsX10_other := goodIn_sub (List.forall_mem_cons.mpr ⟨List.mem_of_getElem? (i := 5) rfl, List.forall_mem_append.mpr ⟨List.forall_mem_append.mpr ⟨List.forall_mem_append.mpr ⟨List.forall_mem_append.mpr ⟨List.forall_mem_append.mpr ⟨ggL_other_X10_other_0, ggL_other_X10_other_1⟩, (fun _ h => List.mem_cons_of_mem _ (List.mem_append_left _ (List.mem_append_left _ (List.mem_append_left _ (List.mem_append_right _ h)))))⟩, (fun _ h => List.mem_cons_of_mem _ (List.mem_append_left _ (List.mem_append_left _ (List.mem_append_right _ h))))⟩, (fun _ h => List.mem_cons_of_mem _ (List.mem_append_left _ (List.mem_append_right _ h)))⟩, (fun _ h => List.mem_cons_of_mem _ (List.mem_append_right _ h))⟩⟩) (by decide +kernel)
set_option maxRecDepth 20000 in
theorem gL_other_X10_other : GoodIn wsL_other (wsV RL 7 RX10 yX10_other wsX10_other) := goodIn_app (goodIn_of _ (by decide +kernel)) ggL_other_X10_other
