set_option maxRecDepth 100000 in
theorem ggX11_giveOut_X11_mayBeLeft_0 : ∀ w ∈ ([.fieldLink RX11 35 "ShexMatchModel" "ys" "[I", .fieldLink RX11 13 "ShexMatchModel" "arcs" "[I"] : List Cond), w ∈ wsX11_giveOut := z_inL [14, 15] rfl
set_option maxRecDepth 100000 in
theorem ggX11_giveOut_X11_mayBeLeft : GoodIn wsX11_giveOut wsX11_mayBeLeft := goodIn_sub (List.forall_mem_cons.mpr ⟨List.mem_of_getElem? (i := 13) rfl, List.forall_mem_append.mpr ⟨ggX11_giveOut_X11_mayBeLeft_0, (fun _ h => List.mem_cons_of_mem _ (List.mem_append_right _ h))⟩⟩) (by decide +kernel)
set_option maxRecDepth 20000 in
theorem gX11_giveOut_X11_mayBeLeft : GoodIn wsX11_giveOut (wsV RX11 170 RX11 yX11_mayBeLeft wsX11_mayBeLeft) := goodIn_app (goodIn_of _ (by decide +kernel)) ggX11_giveOut_X11_mayBeLeft
set_option maxRecDepth 100000 in
theorem ggX11_giveOut_X11_takes_0 : ∀ w ∈ ([.fieldLink RX11 13 "ShexMatchModel" "arcs" "[I", .fieldLink RX11 20 "ShexMatchModel" "as" "[I", .fieldLink RX11 23 "ShexMatchModel" "bs" "[I", .fieldLink RX11 41 "ShexMatchModel" "have" "[I", .methodLink RX11 153 yX11_isOut, .instanceMethod yX11_isOut, .selects RX11 yX11_isOut yX11_isOut, .initialized RX11, .code yX11_isOut cX11_isOut 2 (some .boolean), .fieldLink RX11 17 "ShexMatchModel" "kinds" "[I"] : List Cond), w ∈ wsX11_giveOut := z_inL [15, 20, 21, 22, 23, 24, 25, 12, 26, 27] rfl
set_option maxRecDepth 100000 in
theorem ggX11_giveOut_X11_takes : GoodIn wsX11_giveOut wsX11_takes := goodIn_sub (List.forall_mem_cons.mpr ⟨List.mem_of_getElem? (i := 19) rfl, List.forall_mem_append.mpr ⟨ggX11_giveOut_X11_takes_0, (fun _ h => List.mem_cons_of_mem _ (List.mem_append_right _ h))⟩⟩) (by decide +kernel)
set_option maxRecDepth 20000 in
theorem gX11_giveOut_X11_takes : GoodIn wsX11_giveOut (wsV RX11 173 RX11 yX11_takes wsX11_takes) := goodIn_app (goodIn_of _ (by decide +kernel)) ggX11_giveOut_X11_takes
set_option maxRecDepth 100000 in
theorem ggX11_holds_X11_weigh_0 : ∀ w ∈ wsX11_weigh_r1, w ∈ wsX11_holds := z_inL [1, 10, 11, 12, 13, 14, 15, 16, 17, 18, 8, 19, 20, 21, 22, 23, 24, 25, 26, 27, 28, 29, 30, 31] rfl
set_option maxRecDepth 100000 in
theorem ggX11_holds_X11_weigh_1 : ∀ w ∈ wsX11_weigh_r2, w ∈ wsX11_holds := z_inL [32, 33, 34, 35, 36, 37, 38, 39, 40, 41, 42, 43, 44, 45, 46, 47, 48, 49, 50, 51, 52, 53, 54, 55] rfl
set_option maxRecDepth 100000 in
theorem ggX11_holds_X11_weigh_2 : ∀ w ∈ wsX11_weigh_r3, w ∈ wsX11_holds := z_inL [56, 57, 58, 59, 60, 61, 62, 63, 64, 65, 66, 67, 68, 69, 70, 71, 72, 73, 74, 75, 76, 77, 78, 4] rfl
set_option maxRecDepth 100000 in
theorem ggX11_holds_X11_weigh_3 : ∀ w ∈ wsX11_weigh_r4, w ∈ wsX11_holds := z_inL [79, 80, 81, 82, 3] rfl
set_option maxRecDepth 100000 in
theorem ggX11_holds_X11_weigh : GoodIn wsX11_holds wsX11_weigh := goodIn_sub (List.forall_mem_cons.mpr ⟨List.mem_of_getElem? (i := 9) rfl, List.forall_mem_append.mpr ⟨List.forall_mem_append.mpr ⟨ggX11_holds_X11_weigh_0, List.forall_mem_append.mpr ⟨ggX11_holds_X11_weigh_1, List.forall_mem_append.mpr ⟨ggX11_holds_X11_weigh_2, ggX11_holds_X11_weigh_3⟩⟩⟩, (fun _ h => List.mem_cons_of_mem _ (List.mem_append_right _ h))⟩⟩) (by decide +kernel)
set_option maxRecDepth 20000 in
theorem gX11_holds_X11_weigh : GoodIn wsX11_holds (wsV RX11 176 RX11 yX11_weigh wsX11_weigh) := goodIn_app (goodIn_of _ (by decide +kernel)) ggX11_holds_X11_weigh
set_option maxRecDepth 100000 in
theorem ggX11_refers_X11_findPlaces_0 : ∀ w ∈ ([.fieldLink RX11 59 "ShexMatchModel" "made" "[Z", .fieldLink RX11 17 "ShexMatchModel" "kinds" "[I", .fieldLink RX11 20 "ShexMatchModel" "as" "[I", .fieldLink RX11 23 "ShexMatchModel" "bs" "[I", .fieldLink RX11 128 "ShexMatchModel" "placeCount" "I", .fieldLink RX11 62 "ShexMatchModel" "places" "[I"] : List Cond), w ∈ wsX11_refers := z_inL [12, 13, 14, 5, 4, 6] rfl
set_option maxRecDepth 100000 in
theorem ggX11_refers_X11_findPlaces : GoodIn wsX11_refers wsX11_findPlaces := goodIn_sub (List.forall_mem_cons.mpr ⟨List.mem_of_getElem? (i := 11) rfl, List.forall_mem_append.mpr ⟨ggX11_refers_X11_findPlaces_0, (fun _ h => List.mem_cons_of_mem _ (List.mem_append_right _ h))⟩⟩) (by decide +kernel)
set_option maxRecDepth 20000 in
theorem gX11_refers_X11_findPlaces : GoodIn wsX11_refers (wsV RX11 131 RX11 yX11_findPlaces wsX11_findPlaces) := goodIn_app (goodIn_of _ (by decide +kernel)) ggX11_refers_X11_findPlaces
set_option maxRecDepth 100000 in
theorem ggX11_findRings_X11_refers_0 : ∀ w ∈ ([.fieldLink RX11 29 "ShexMatchModel" "sorts" "[I", .fieldLink RX11 32 "ShexMatchModel" "xs" "[I", .fieldLink RX11 35 "ShexMatchModel" "ys" "[I", .fieldLink RX11 128 "ShexMatchModel" "placeCount" "I", .fieldLink RX11 23 "ShexMatchModel" "bs" "[I", .fieldLink RX11 62 "ShexMatchModel" "places" "[I", .methodLink RX11 131 yX11_findPlaces, .instanceMethod yX11_findPlaces, .selects RX11 yX11_findPlaces yX11_findPlaces, .initialized RX11, .code yX11_findPlaces cX11_findPlaces 3 none, .fieldLink RX11 59 "ShexMatchModel" "made" "[Z", .fieldLink RX11 17 "ShexMatchModel" "kinds" "[I", .fieldLink RX11 20 "ShexMatchModel" "as" "[I"] : List Cond), w ∈ wsX11_findRings := z_inL [3, 9, 10, 11, 12, 13, 14, 15, 16, 7, 17, 18, 19, 20] rfl
set_option maxRecDepth 100000 in
theorem ggX11_findRings_X11_refers : GoodIn wsX11_findRings wsX11_refers := goodIn_sub (List.forall_mem_cons.mpr ⟨List.mem_of_getElem? (i := 8) rfl, List.forall_mem_append.mpr ⟨ggX11_findRings_X11_refers_0, (fun _ h => List.mem_cons_of_mem _ (List.mem_append_right _ h))⟩⟩) (by decide +kernel)
set_option maxRecDepth 20000 in
theorem gX11_findRings_X11_refers : GoodIn wsX11_findRings (wsV RX11 180 RX11 yX11_refers wsX11_refers) := goodIn_app (goodIn_of _ (by decide +kernel)) ggX11_findRings_X11_refers
set_option maxRecDepth 100000 in
theorem ggX11_findRings_X11_comesTo_0 : ∀ w ∈ ([.fieldLink RX11 91 "ShexMatchModel" "reach" "[I"] : List Cond), w ∈ wsX11_findRings := z_inL [1] rfl
set_option maxRecDepth 100000 in
theorem ggX11_findRings_X11_comesTo : GoodIn wsX11_findRings wsX11_comesTo := goodIn_sub (List.forall_mem_cons.mpr ⟨List.mem_of_getElem? (i := 24) rfl, List.forall_mem_append.mpr ⟨ggX11_findRings_X11_comesTo_0, (fun _ h => List.mem_cons_of_mem _ (List.mem_append_right _ h))⟩⟩) (by decide +kernel)
set_option maxRecDepth 20000 in
theorem gX11_findRings_X11_comesTo : GoodIn wsX11_findRings (wsV RX11 183 RX11 yX11_comesTo wsX11_comesTo) := goodIn_app (goodIn_of _ (by decide +kernel)) ggX11_findRings_X11_comesTo
set_option maxRecDepth 100000 in
theorem ggX11_isReady_X11_comesTo_0 : ∀ w ∈ ([.fieldLink RX11 91 "ShexMatchModel" "reach" "[I"] : List Cond), w ∈ wsX11_isReady := z_inL [6] rfl
set_option maxRecDepth 100000 in
theorem ggX11_isReady_X11_comesTo : GoodIn wsX11_isReady wsX11_comesTo := goodIn_sub (List.forall_mem_cons.mpr ⟨List.mem_of_getElem? (i := 5) rfl, List.forall_mem_append.mpr ⟨ggX11_isReady_X11_comesTo_0, (fun _ h => List.mem_cons_of_mem _ (List.mem_append_right _ h))⟩⟩) (by decide +kernel)
set_option maxRecDepth 20000 in
theorem gX11_isReady_X11_comesTo : GoodIn wsX11_isReady (wsV RX11 183 RX11 yX11_comesTo wsX11_comesTo) := goodIn_app (goodIn_of _ (by decide +kernel)) ggX11_isReady_X11_comesTo
set_option maxRecDepth 100000 in
theorem ggX11_reckon_X11_findRings_0 : ∀ w ∈ ([.fieldLink RX11 91 "ShexMatchModel" "reach" "[I", .fieldLink RX11 187 "ShexMatchModel" "wrong" "I", .fieldLink RX11 29 "ShexMatchModel" "sorts" "[I", .methodLink RX11 180 yX11_refers, .instanceMethod yX11_refers, .selects RX11 yX11_refers yX11_refers, .initialized RX11, .code yX11_refers cX11_refers 4 (some .int), .fieldLink RX11 32 "ShexMatchModel" "xs" "[I", .fieldLink RX11 35 "ShexMatchModel" "ys" "[I", .fieldLink RX11 128 "ShexMatchModel" "placeCount" "I", .fieldLink RX11 23 "ShexMatchModel" "bs" "[I", .fieldLink RX11 62 "ShexMatchModel" "places" "[I", .methodLink RX11 131 yX11_findPlaces, .instanceMethod yX11_findPlaces, .selects RX11 yX11_findPlaces yX11_findPlaces, .code yX11_findPlaces cX11_findPlaces 3 none, .fieldLink RX11 59 "ShexMatchModel" "made" "[Z", .fieldLink RX11 17 "ShexMatchModel" "kinds" "[I", .fieldLink RX11 20 "ShexMatchModel" "as" "[I", .methodLink RX11 183 yX11_comesTo, .instanceMethod yX11_comesTo, .selects RX11 yX11_comesTo yX11_comesTo, .code yX11_comesTo cX11_comesTo 3 (some .boolean)] : List Cond), w ∈ wsX11_reckon := z_inL [10, 2, 11, 12, 13, 14, 8, 15, 16, 17, 18, 19, 20, 21, 22, 23, 24, 25, 26, 27, 28, 29, 30, 31] rfl
set_option maxRecDepth 100000 in
theorem ggX11_reckon_X11_findRings : GoodIn wsX11_reckon wsX11_findRings := goodIn_sub (List.forall_mem_cons.mpr ⟨List.mem_of_getElem? (i := 9) rfl, List.forall_mem_append.mpr ⟨ggX11_reckon_X11_findRings_0, (fun _ h => List.mem_cons_of_mem _ (List.mem_append_right _ h))⟩⟩) (by decide +kernel)
set_option maxRecDepth 20000 in
theorem gX11_reckon_X11_findRings : GoodIn wsX11_reckon (wsV RX11 190 RX11 yX11_findRings wsX11_findRings) := goodIn_app (goodIn_of _ (by decide +kernel)) ggX11_reckon_X11_findRings
