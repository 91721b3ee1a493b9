set_option maxRecDepth 100000 in
theorem ggX11_nodes_X11_reckon_0 : ∀ w ∈ wsX11_reckon_r1, w ∈ wsX11_nodes := z_inL [12, 2, 13, 3, 14, 15, 16, 6, 17, 18, 19, 20, 21, 22, 23, 24, 25, 26, 27, 28, 29, 30, 31, 32] rfl
set_option maxRecDepth 100000 in
theorem ggX11_nodes_X11_reckon_1 : ∀ w ∈ wsX11_reckon_r2, w ∈ wsX11_nodes := z_inL [33, 34, 35, 36, 37, 38, 39, 40, 41, 42, 43, 44, 45, 46, 47, 48, 49, 50, 51, 52, 53, 54, 55, 56] rfl
set_option maxRecDepth 100000 in
theorem ggX11_nodes_X11_reckon_2 : ∀ w ∈ wsX11_reckon_r3, w ∈ wsX11_nodes := z_inL [57, 58, 59, 60, 61, 62, 63, 64, 65, 66, 67, 68, 69, 70, 71, 72, 73, 74, 75, 76, 77, 78, 79, 80] rfl
set_option maxRecDepth 100000 in
theorem ggX11_nodes_X11_reckon_3 : ∀ w ∈ wsX11_reckon_r4, w ∈ wsX11_nodes := z_inL [81, 82, 83, 84, 85, 86, 87, 88, 89, 90, 91, 92, 93, 94, 95, 96, 97, 98, 99, 100, 101, 102, 103, 104] rfl
set_option maxRecDepth 100000 in
theorem ggX11_nodes_X11_reckon_4 : ∀ w ∈ wsX11_reckon_r5, w ∈ wsX11_nodes := z_inL [105, 106, 107, 108, 109, 110, 111, 112, 113, 114, 115, 116, 117, 118] rfl
set_option maxRecDepth 100000 in
theorem ggX11_nodes_X11_reckon : GoodIn wsX11_nodes wsX11_reckon := goodIn_sub (List.forall_mem_cons.mpr ⟨List.mem_of_getElem? (i := 11) rfl, List.forall_mem_append.mpr ⟨List.forall_mem_append.mpr ⟨ggX11_nodes_X11_reckon_0, List.forall_mem_append.mpr ⟨ggX11_nodes_X11_reckon_1, List.forall_mem_append.mpr ⟨ggX11_nodes_X11_reckon_2, List.forall_mem_append.mpr ⟨ggX11_nodes_X11_reckon_3, ggX11_nodes_X11_reckon_4⟩⟩⟩⟩, (fun _ h => List.mem_cons_of_mem _ (List.mem_append_right _ h))⟩⟩) (by decide +kernel)
set_option maxRecDepth 20000 in
theorem gX11_nodes_X11_reckon : GoodIn wsX11_nodes (wsV RX11 203 RX11 yX11_reckon wsX11_reckon) := goodIn_app (goodIn_of _ (by decide +kernel)) ggX11_nodes_X11_reckon
set_option maxRecDepth 100000 in
theorem ggX11_wrong_X11_reckon_0 : ∀ w ∈ wsX11_reckon_r1, w ∈ wsX11_wrong := z_inL [8, 2, 9, 10, 11, 12, 13, 6, 14, 15, 16, 17, 18, 19, 20, 21, 22, 23, 24, 25, 26, 27, 28, 29] rfl
set_option maxRecDepth 100000 in
theorem ggX11_wrong_X11_reckon_1 : ∀ w ∈ wsX11_reckon_r2, w ∈ wsX11_wrong := z_inL [30, 31, 32, 33, 34, 35, 36, 37, 38, 39, 40, 41, 42, 43, 44, 45, 46, 47, 48, 49, 50, 51, 52, 53] rfl
set_option maxRecDepth 100000 in
theorem ggX11_wrong_X11_reckon_2 : ∀ w ∈ wsX11_reckon_r3, w ∈ wsX11_wrong := z_inL [54, 55, 56, 57, 58, 59, 60, 61, 62, 63, 64, 65, 66, 67, 68, 69, 70, 71, 72, 73, 74, 75, 76, 77] rfl
set_option maxRecDepth 100000 in
theorem ggX11_wrong_X11_reckon_3 : ∀ w ∈ wsX11_reckon_r4, w ∈ wsX11_wrong := z_inL [78, 79, 80, 81, 82, 83, 84, 85, 86, 87, 88, 89, 90, 91, 92, 93, 94, 95, 96, 97, 98, 99, 100, 101] rfl
set_option maxRecDepth 100000 in
theorem ggX11_wrong_X11_reckon_4 : ∀ w ∈ wsX11_reckon_r5, w ∈ wsX11_wrong := z_inL [102, 103, 104, 105, 106, 107, 108, 109, 110, 111, 112, 113, 114, 115] rfl
set_option maxRecDepth 100000 in
theorem ggX11_wrong_X11_reckon : GoodIn wsX11_wrong wsX11_reckon := goodIn_sub (List.forall_mem_cons.mpr ⟨List.mem_of_getElem? (i := 7) rfl, List.forall_mem_append.mpr ⟨List.forall_mem_append.mpr ⟨ggX11_wrong_X11_reckon_0, List.forall_mem_append.mpr ⟨ggX11_wrong_X11_reckon_1, List.forall_mem_append.mpr ⟨ggX11_wrong_X11_reckon_2, List.forall_mem_append.mpr ⟨ggX11_wrong_X11_reckon_3, ggX11_wrong_X11_reckon_4⟩⟩⟩⟩, (fun _ h => List.mem_cons_of_mem _ (List.mem_append_right _ h))⟩⟩) (by decide +kernel)
set_option maxRecDepth 20000 in
theorem gX11_wrong_X11_reckon : GoodIn wsX11_wrong (wsV RX11 203 RX11 yX11_reckon wsX11_reckon) := goodIn_app (goodIn_of _ (by decide +kernel)) ggX11_wrong_X11_reckon
set_option maxRecDepth 100000 in
theorem ggX11_isBare_X11_isShape : GoodIn wsX11_isBare wsX11_isShape := goodIn_sub (List.forall_mem_cons.mpr ⟨List.mem_of_getElem? (i := 5) rfl, (fun _ h => absurd h List.not_mem_nil)⟩) (by decide +kernel)
set_option maxRecDepth 20000 in
theorem gX11_isBare_X11_isShape : GoodIn wsX11_isBare (va_wsS RX11 122 yX11_isShape wsX11_isShape) := goodIn_app (goodIn_of _ (by decide +kernel)) ggX11_isBare_X11_isShape
set_option maxRecDepth 100000 in
theorem ggX11_loose_X11_isNode : GoodIn wsX11_loose wsX11_isNode := goodIn_sub (List.forall_mem_cons.mpr ⟨List.mem_of_getElem? (i := 9) rfl, (fun _ h => absurd h List.not_mem_nil)⟩) (by decide +kernel)
set_option maxRecDepth 20000 in
theorem gX11_loose_X11_isNode : GoodIn wsX11_loose (va_wsS RX11 103 yX11_isNode wsX11_isNode) := goodIn_app (goodIn_of _ (by decide +kernel)) ggX11_loose_X11_isNode
set_option maxRecDepth 100000 in
theorem ggX11_loose_X11_isBare_0 : ∀ w ∈ ([.fieldLink RX11 29 "ShexMatchModel" "sorts" "[I", .methodLink RX11 122 yX11_isShape, .static yX11_isShape, .initialized RX11, .code yX11_isShape cX11_isShape 1 (some .boolean)] : List Cond), w ∈ wsX11_loose := z_inL [14, 15, 16, 8, 17] rfl
set_option maxRecDepth 100000 in
theorem ggX11_loose_X11_isBare : GoodIn wsX11_loose wsX11_isBare := goodIn_sub (List.forall_mem_cons.mpr ⟨List.mem_of_getElem? (i := 13) rfl, List.forall_mem_append.mpr ⟨ggX11_loose_X11_isBare_0, (fun _ h => List.mem_cons_of_mem _ (List.mem_append_right _ h))⟩⟩) (by decide +kernel)
set_option maxRecDepth 20000 in
theorem gX11_loose_X11_isBare : GoodIn wsX11_loose (wsV RX11 206 RX11 yX11_isBare wsX11_isBare) := goodIn_app (goodIn_of _ (by decide +kernel)) ggX11_loose_X11_isBare
set_option maxRecDepth 100000 in
theorem ggX11_loose_X11_reckon_0 : ∀ w ∈ wsX11_reckon_r1, w ∈ wsX11_loose := z_inL [22, 2, 23, 24, 25, 26, 27, 8, 28, 29, 14, 30, 31, 32, 33, 3, 34, 35, 36, 37, 38, 39, 40, 41] rfl
set_option maxRecDepth 100000 in
theorem ggX11_loose_X11_reckon_1 : ∀ w ∈ wsX11_reckon_r2, w ∈ wsX11_loose := z_inL [42, 43, 44, 45, 46, 47, 48, 49, 50, 51, 52, 53, 54, 55, 56, 57, 58, 59, 60, 61, 62, 63, 64, 65] rfl
set_option maxRecDepth 100000 in
theorem ggX11_loose_X11_reckon_2 : ∀ w ∈ wsX11_reckon_r3, w ∈ wsX11_loose := z_inL [66, 67, 4, 5, 68, 69, 70, 71, 72, 73, 74, 75, 76, 77, 78, 79, 80, 81, 82, 83, 84, 85, 86, 87] rfl
set_option maxRecDepth 100000 in
theorem ggX11_loose_X11_reckon_3 : ∀ w ∈ wsX11_reckon_r4, w ∈ wsX11_loose := z_inL [88, 89, 90, 91, 92, 93, 94, 95, 96, 97, 98, 99, 100, 101, 102, 103, 104, 105, 106, 107, 108, 109, 110, 111] rfl
set_option maxRecDepth 100000 in
theorem ggX11_loose_X11_reckon_4 : ∀ w ∈ wsX11_reckon_r5, w ∈ wsX11_loose := z_inL [112, 113, 114, 115, 116, 117, 118, 119, 120, 121, 122, 123, 124, 125] rfl
set_option maxRecDepth 100000 in
theorem ggX11_loose_X11_reckon : GoodIn wsX11_loose wsX11_reckon := goodIn_sub (List.forall_mem_cons.mpr ⟨List.mem_of_getElem? (i := 21) rfl, List.forall_mem_append.mpr ⟨List.forall_mem_append.mpr ⟨ggX11_loose_X11_reckon_0, List.forall_mem_append.mpr ⟨ggX11_loose_X11_reckon_1, List.forall_mem_append.mpr ⟨ggX11_loose_X11_reckon_2, List.forall_mem_append.mpr ⟨ggX11_loose_X11_reckon_3, ggX11_loose_X11_reckon_4⟩⟩⟩⟩, (fun _ h => List.mem_cons_of_mem _ (List.mem_append_right _ h))⟩⟩) (by decide +kernel)
set_option maxRecDepth 20000 in
theorem gX11_loose_X11_reckon : GoodIn wsX11_loose (wsV RX11 203 RX11 yX11_reckon wsX11_reckon) := goodIn_app (goodIn_of _ (by decide +kernel)) ggX11_loose_X11_reckon
set_option maxRecDepth 100000 in
theorem ggX11_loose_X11_findPlaces_0 : ∀ w ∈ ([.fieldLink RX11 59 "ShexMatchModel" "made" "[Z", .fieldLink RX11 17 "ShexMatchModel" "kinds" "[I", .fieldLink RX11 20 "ShexMatchModel" "as" "[I", .fieldLink RX11 23 "ShexMatchModel" "bs" "[I", .fieldLink RX11 128 "ShexMatchModel" "placeCount" "I", .fieldLink RX11 62 "ShexMatchModel" "places" "[I"] : List Cond), w ∈ wsX11_loose := z_inL [42, 43, 44, 36, 35, 37] rfl
set_option maxRecDepth 100000 in
theorem ggX11_loose_X11_findPlaces : GoodIn wsX11_loose wsX11_findPlaces := goodIn_sub (List.forall_mem_cons.mpr ⟨List.mem_of_getElem? (i := 41) rfl, List.forall_mem_append.mpr ⟨ggX11_loose_X11_findPlaces_0, (fun _ h => List.mem_cons_of_mem _ (List.mem_append_right _ h))⟩⟩) (by decide +kernel)
set_option maxRecDepth 20000 in
theorem gX11_loose_X11_findPlaces : GoodIn wsX11_loose (wsV RX11 131 RX11 yX11_findPlaces wsX11_findPlaces) := goodIn_app (goodIn_of _ (by decide +kernel)) ggX11_loose_X11_findPlaces
set_option maxRecDepth 100000 in
theorem ggX11_loose_X11_concerns_0 : ∀ w ∈ ([.fieldLink RX11 38 "ShexMatchModel" "zs" "[I", .fieldLink RX11 128 "ShexMatchModel" "placeCount" "I", .fieldLink RX11 62 "ShexMatchModel" "places" "[I", .fieldLink RX11 20 "ShexMatchModel" "as" "[I", .fieldLink RX11 13 "ShexMatchModel" "arcs" "[I", .methodLink RX11 153 yX11_isOut, .instanceMethod yX11_isOut, .selects RX11 yX11_isOut yX11_isOut, .initialized RX11, .code yX11_isOut cX11_isOut 2 (some .boolean), .fieldLink RX11 17 "ShexMatchModel" "kinds" "[I"] : List Cond), w ∈ wsX11_loose := z_inL [108, 35, 37, 44, 5, 109, 110, 111, 8, 112, 43] rfl
set_option maxRecDepth 100000 in
theorem ggX11_loose_X11_concerns : GoodIn wsX11_loose wsX11_concerns := goodIn_sub (List.forall_mem_cons.mpr ⟨List.mem_of_getElem? (i := 107) rfl, List.forall_mem_append.mpr ⟨ggX11_loose_X11_concerns_0, (fun _ h => List.mem_cons_of_mem _ (List.mem_append_right _ h))⟩⟩) (by decide +kernel)
set_option maxRecDepth 20000 in
theorem gX11_loose_X11_concerns : GoodIn wsX11_loose (wsV RX11 162 RX11 yX11_concerns wsX11_concerns) := goodIn_app (goodIn_of _ (by decide +kernel)) ggX11_loose_X11_concerns
