set_option maxRecDepth 100000 in
theorem ggX11_concerns_X11_isOut_0 : ∀ w ∈ ([.fieldLink RX11 17 "ShexMatchModel" "kinds" "[I"] : List Cond), w ∈ wsX11_concerns := z_inL [11] rfl
set_option maxRecDepth 100000 in
theorem ggX11_concerns_X11_isOut : GoodIn wsX11_concerns wsX11_isOut := goodIn_sub (List.forall_mem_cons.mpr ⟨List.mem_of_getElem? (i := 10) rfl, List.forall_mem_append.mpr ⟨ggX11_concerns_X11_isOut_0, (fun _ h => List.mem_cons_of_mem _ (List.mem_append_right _ h))⟩⟩) (by decide +kernel)
set_option maxRecDepth 20000 in
theorem gX11_concerns_X11_isOut : GoodIn wsX11_concerns (wsV RX11 153 RX11 yX11_isOut wsX11_isOut) := goodIn_app (goodIn_of _ (by decide +kernel)) ggX11_concerns_X11_isOut
set_option maxRecDepth 100000 in
theorem ggX11_takes_X11_isOut_0 : ∀ w ∈ ([.fieldLink RX11 17 "ShexMatchModel" "kinds" "[I"] : List Cond), w ∈ wsX11_takes := z_inL [10] rfl
set_option maxRecDepth 100000 in
theorem ggX11_takes_X11_isOut : GoodIn wsX11_takes wsX11_isOut := goodIn_sub (List.forall_mem_cons.mpr ⟨List.mem_of_getElem? (i := 9) rfl, List.forall_mem_append.mpr ⟨ggX11_takes_X11_isOut_0, (fun _ h => List.mem_cons_of_mem _ (List.mem_append_right _ h))⟩⟩) (by decide +kernel)
set_option maxRecDepth 20000 in
theorem gX11_takes_X11_isOut : GoodIn wsX11_takes (wsV RX11 153 RX11 yX11_isOut wsX11_isOut) := goodIn_app (goodIn_of _ (by decide +kernel)) ggX11_takes_X11_isOut
set_option maxRecDepth 100000 in
theorem ggX11_root_X11_make_0 : ∀ w ∈ wsX11_make_r1, w ∈ wsX11_root := z_inL [10, 11, 1, 3, 12, 13, 14, 15, 16, 17, 18, 19, 8, 20, 21, 22, 23, 24, 25, 26, 27, 28, 29, 30] rfl
set_option maxRecDepth 100000 in
theorem ggX11_root_X11_make_1 : ∀ w ∈ wsX11_make_r2, w ∈ wsX11_root := z_inL [31, 32, 33, 34, 35, 36, 37, 38, 39, 40] rfl
set_option maxRecDepth 100000 in
theorem ggX11_root_X11_make : GoodIn wsX11_root wsX11_make := goodIn_sub (List.forall_mem_cons.mpr ⟨List.mem_of_getElem? (i := 9) rfl, List.forall_mem_append.mpr ⟨List.forall_mem_append.mpr ⟨ggX11_root_X11_make_0, ggX11_root_X11_make_1⟩, (fun _ h => List.mem_cons_of_mem _ (List.mem_append_right _ h))⟩⟩) (by decide +kernel)
set_option maxRecDepth 20000 in
theorem gX11_root_X11_make : GoodIn wsX11_root (wsV RX11 156 RX11 yX11_make wsX11_make) := goodIn_app (goodIn_of _ (by decide +kernel)) ggX11_root_X11_make
set_option maxRecDepth 100000 in
theorem ggX11_root_X11_row_0 : ∀ w ∈ ([.fieldLink RX11 68 "ShexMatchModel" "rowOf" "[I"] : List Cond), w ∈ wsX11_root := z_inL [11] rfl
set_option maxRecDepth 100000 in
theorem ggX11_root_X11_row : GoodIn wsX11_root wsX11_row := goodIn_sub (List.forall_mem_cons.mpr ⟨List.mem_of_getElem? (i := 20) rfl, List.forall_mem_append.mpr ⟨ggX11_root_X11_row_0, (fun _ h => List.mem_cons_of_mem _ (List.mem_append_right _ h))⟩⟩) (by decide +kernel)
set_option maxRecDepth 20000 in
theorem gX11_root_X11_row : GoodIn wsX11_root (wsV RX11 135 RX11 yX11_row wsX11_row) := goodIn_app (goodIn_of _ (by decide +kernel)) ggX11_root_X11_row
set_option maxRecDepth 100000 in
theorem ggX11_weigh_X11_findPlaces_0 : ∀ w ∈ ([.fieldLink RX11 59 "ShexMatchModel" "made" "[Z", .fieldLink RX11 17 "ShexMatchModel" "kinds" "[I", .fieldLink RX11 20 "ShexMatchModel" "as" "[I", .fieldLink RX11 23 "ShexMatchModel" "bs" "[I", .fieldLink RX11 128 "ShexMatchModel" "placeCount" "I", .fieldLink RX11 62 "ShexMatchModel" "places" "[I"] : List Cond), w ∈ wsX11_weigh := z_inL [13, 14, 15, 16, 17, 18] rfl
set_option maxRecDepth 100000 in
theorem ggX11_weigh_X11_findPlaces : GoodIn wsX11_weigh wsX11_findPlaces := goodIn_sub (List.forall_mem_cons.mpr ⟨List.mem_of_getElem? (i := 12) rfl, List.forall_mem_append.mpr ⟨ggX11_weigh_X11_findPlaces_0, (fun _ h => List.mem_cons_of_mem _ (List.mem_append_right _ h))⟩⟩) (by decide +kernel)
set_option maxRecDepth 20000 in
theorem gX11_weigh_X11_findPlaces : GoodIn wsX11_weigh (wsV RX11 131 RX11 yX11_findPlaces wsX11_findPlaces) := goodIn_app (goodIn_of _ (by decide +kernel)) ggX11_weigh_X11_findPlaces
set_option maxRecDepth 100000 in
theorem ggX11_weigh_X11_root_0 : ∀ w ∈ wsX11_root_r1, w ∈ wsX11_weigh := z_inL [3, 7, 23, 2, 24, 25, 26, 11, 27, 13, 28, 14, 29, 15, 16, 30, 31, 32, 33, 34, 35, 36, 37, 38] rfl
set_option maxRecDepth 100000 in
theorem ggX11_weigh_X11_root_1 : ∀ w ∈ wsX11_root_r2, w ∈ wsX11_weigh := z_inL [18, 39, 40, 41, 42, 43, 44, 45, 46, 47, 48, 49, 50, 51, 52, 53] rfl
set_option maxRecDepth 100000 in
theorem ggX11_weigh_X11_root : GoodIn wsX11_weigh wsX11_root := goodIn_sub (List.forall_mem_cons.mpr ⟨List.mem_of_getElem? (i := 22) rfl, List.forall_mem_append.mpr ⟨List.forall_mem_append.mpr ⟨ggX11_weigh_X11_root_0, ggX11_weigh_X11_root_1⟩, (fun _ h => List.mem_cons_of_mem _ (List.mem_append_right _ h))⟩⟩) (by decide +kernel)
set_option maxRecDepth 20000 in
theorem gX11_weigh_X11_root : GoodIn wsX11_weigh (wsV RX11 159 RX11 yX11_root wsX11_root) := goodIn_app (goodIn_of _ (by decide +kernel)) ggX11_weigh_X11_root
set_option maxRecDepth 100000 in
theorem ggX11_weigh_X11_concerns_0 : ∀ w ∈ ([.fieldLink RX11 38 "ShexMatchModel" "zs" "[I", .fieldLink RX11 128 "ShexMatchModel" "placeCount" "I", .fieldLink RX11 62 "ShexMatchModel" "places" "[I", .fieldLink RX11 20 "ShexMatchModel" "as" "[I", .fieldLink RX11 13 "ShexMatchModel" "arcs" "[I", .methodLink RX11 153 yX11_isOut, .instanceMethod yX11_isOut, .selects RX11 yX11_isOut yX11_isOut, .initialized RX11, .code yX11_isOut cX11_isOut 2 (some .boolean), .fieldLink RX11 17 "ShexMatchModel" "kinds" "[I"] : List Cond), w ∈ wsX11_weigh := z_inL [58, 17, 18, 15, 6, 59, 60, 61, 11, 62, 14] rfl
set_option maxRecDepth 100000 in
theorem ggX11_weigh_X11_concerns : GoodIn wsX11_weigh wsX11_concerns := goodIn_sub (List.forall_mem_cons.mpr ⟨List.mem_of_getElem? (i := 57) rfl, List.forall_mem_append.mpr ⟨ggX11_weigh_X11_concerns_0, (fun _ h => List.mem_cons_of_mem _ (List.mem_append_right _ h))⟩⟩) (by decide +kernel)
set_option maxRecDepth 20000 in
theorem gX11_weigh_X11_concerns : GoodIn wsX11_weigh (wsV RX11 162 RX11 yX11_concerns wsX11_concerns) := goodIn_app (goodIn_of _ (by decide +kernel)) ggX11_weigh_X11_concerns
set_option maxRecDepth 100000 in
theorem ggX11_weigh_X11_giveOut_0 : ∀ w ∈ wsX11_giveOut_r1, w ∈ wsX11_weigh := z_inL [3, 67, 4, 17, 18, 43, 29, 44, 68, 69, 70, 11, 71, 72, 6, 73, 74, 75, 76, 15, 16, 77, 59, 60] rfl
set_option maxRecDepth 100000 in
theorem ggX11_weigh_X11_giveOut_1 : ∀ w ∈ wsX11_giveOut_r2, w ∈ wsX11_weigh := z_inL [61, 62, 14] rfl
set_option maxRecDepth 100000 in
theorem ggX11_weigh_X11_giveOut : GoodIn wsX11_weigh wsX11_giveOut := goodIn_sub (List.forall_mem_cons.mpr ⟨List.mem_of_getElem? (i := 66) rfl, List.forall_mem_append.mpr ⟨List.forall_mem_append.mpr ⟨ggX11_weigh_X11_giveOut_0, ggX11_weigh_X11_giveOut_1⟩, (fun _ h => List.mem_cons_of_mem _ (List.mem_append_right _ h))⟩⟩) (by decide +kernel)
set_option maxRecDepth 20000 in
theorem gX11_weigh_X11_giveOut : GoodIn wsX11_weigh (wsV RX11 166 RX11 yX11_giveOut wsX11_giveOut) := goodIn_app (goodIn_of _ (by decide +kernel)) ggX11_weigh_X11_giveOut
