set_option maxRecDepth 100000 in
theorem ggX11_reckon_X11_isReady_0 : ∀ w ∈ ([.methodLink RX11 183 yX11_comesTo, .instanceMethod yX11_comesTo, .selects RX11 yX11_comesTo yX11_comesTo, .initialized RX11, .code yX11_comesTo cX11_comesTo 3 (some .boolean), .fieldLink RX11 91 "ShexMatchModel" "reach" "[I"] : List Cond), w ∈ wsX11_reckon := z_inL [28, 29, 30, 8, 31, 10] rfl
set_option maxRecDepth 100000 in
theorem ggX11_reckon_X11_isReady : GoodIn wsX11_reckon wsX11_isReady := goodIn_sub (List.forall_mem_cons.mpr ⟨List.mem_of_getElem? (i := 35) rfl, List.forall_mem_append.mpr ⟨ggX11_reckon_X11_isReady_0, (fun _ h => List.mem_cons_of_mem _ (List.mem_append_right _ h))⟩⟩) (by decide +kernel)
set_option maxRecDepth 20000 in
theorem gX11_reckon_X11_isReady : GoodIn wsX11_reckon (wsV RX11 194 RX11 yX11_isReady wsX11_isReady) := goodIn_app (goodIn_of _ (by decide +kernel)) ggX11_reckon_X11_isReady
set_option maxRecDepth 100000 in
theorem ggX11_reckon_X11_comesTo_0 : ∀ w ∈ ([.fieldLink RX11 91 "ShexMatchModel" "reach" "[I"] : List Cond), w ∈ wsX11_reckon := z_inL [10] rfl
set_option maxRecDepth 100000 in
theorem ggX11_reckon_X11_comesTo : GoodIn wsX11_reckon wsX11_comesTo := goodIn_sub (List.forall_mem_cons.mpr ⟨List.mem_of_getElem? (i := 31) rfl, List.forall_mem_append.mpr ⟨ggX11_reckon_X11_comesTo_0, (fun _ h => List.mem_cons_of_mem _ (List.mem_append_right _ h))⟩⟩) (by decide +kernel)
set_option maxRecDepth 20000 in
theorem gX11_reckon_X11_comesTo : GoodIn wsX11_reckon (wsV RX11 183 RX11 yX11_comesTo wsX11_comesTo) := goodIn_app (goodIn_of _ (by decide +kernel)) ggX11_reckon_X11_comesTo
set_option maxRecDepth 100000 in
theorem ggX11_reckon_X11_lose_0 : ∀ w ∈ wsX11_lose_r1, w ∈ wsX11_reckon := z_inL [4, 40, 41, 42, 8, 43, 16, 11, 17, 44, 45, 46, 47, 48, 49, 50, 51, 52, 53, 21, 22, 23, 24, 25] rfl
set_option maxRecDepth 100000 in
theorem ggX11_reckon_X11_lose_1 : ∀ w ∈ wsX11_lose_r2, w ∈ wsX11_reckon := z_inL [26, 27, 19, 18, 20, 54, 55, 56, 57, 58, 59, 60, 61, 62, 63, 64, 65, 66, 67, 68, 69, 70, 71, 72] rfl
set_option maxRecDepth 100000 in
theorem ggX11_reckon_X11_lose_2 : ∀ w ∈ wsX11_lose_r3, w ∈ wsX11_reckon := z_inL [73, 74, 75, 76, 77, 78, 79, 80, 81, 82, 83, 84, 85, 86, 87, 88, 89, 90, 91, 92, 93, 94, 95, 96] rfl
set_option maxRecDepth 100000 in
theorem ggX11_reckon_X11_lose_3 : ∀ w ∈ wsX11_lose_r4, w ∈ wsX11_reckon := z_inL [97, 98, 99, 100, 101, 102, 103, 104, 105, 106, 107, 108, 109, 110] rfl
set_option maxRecDepth 100000 in
theorem ggX11_reckon_X11_lose : GoodIn wsX11_reckon wsX11_lose := goodIn_sub (List.forall_mem_cons.mpr ⟨List.mem_of_getElem? (i := 39) rfl, List.forall_mem_append.mpr ⟨List.forall_mem_append.mpr ⟨ggX11_reckon_X11_lose_0, List.forall_mem_append.mpr ⟨ggX11_reckon_X11_lose_1, List.forall_mem_append.mpr ⟨ggX11_reckon_X11_lose_2, ggX11_reckon_X11_lose_3⟩⟩⟩, (fun _ h => List.mem_cons_of_mem _ (List.mem_append_right _ h))⟩⟩) (by decide +kernel)
set_option maxRecDepth 20000 in
theorem gX11_reckon_X11_lose : GoodIn wsX11_reckon (wsV RX11 197 RX11 yX11_lose wsX11_lose) := goodIn_app (goodIn_of _ (by decide +kernel)) ggX11_reckon_X11_lose
set_option maxRecDepth 100000 in
theorem ggX11_lose_X11_holds_0 : ∀ w ∈ wsX11_holds_r1, w ∈ wsX11_lose := z_inL [7, 8, 1, 9, 10, 11, 12, 5, 13, 14, 15, 16, 17, 18, 19, 20, 21, 22, 23, 24, 25, 26, 27, 28] rfl
set_option maxRecDepth 100000 in
theorem ggX11_lose_X11_holds_1 : ∀ w ∈ wsX11_holds_r2, w ∈ wsX11_lose := z_inL [29, 30, 31, 32, 33, 34, 35, 36, 37, 38, 39, 40, 41, 42, 43, 44, 45, 46, 47, 48, 49, 50, 51, 52] rfl
set_option maxRecDepth 100000 in
theorem ggX11_lose_X11_holds_2 : ∀ w ∈ wsX11_holds_r3, w ∈ wsX11_lose := z_inL [53, 54, 55, 56, 57, 58, 59, 60, 61, 62, 63, 64, 65, 66, 67, 68, 69, 70, 71, 72, 73, 74, 75, 76] rfl
set_option maxRecDepth 100000 in
theorem ggX11_lose_X11_holds_3 : ∀ w ∈ wsX11_holds_r4, w ∈ wsX11_lose := z_inL [77, 78, 79, 80, 81, 82, 83, 84, 85, 86] rfl
set_option maxRecDepth 100000 in
theorem ggX11_lose_X11_holds : GoodIn wsX11_lose wsX11_holds := goodIn_sub (List.forall_mem_cons.mpr ⟨List.mem_of_getElem? (i := 6) rfl, List.forall_mem_append.mpr ⟨List.forall_mem_append.mpr ⟨ggX11_lose_X11_holds_0, List.forall_mem_append.mpr ⟨ggX11_lose_X11_holds_1, List.forall_mem_append.mpr ⟨ggX11_lose_X11_holds_2, ggX11_lose_X11_holds_3⟩⟩⟩, (fun _ h => List.mem_cons_of_mem _ (List.mem_append_right _ h))⟩⟩) (by decide +kernel)
set_option maxRecDepth 20000 in
theorem gX11_lose_X11_holds : GoodIn wsX11_lose (wsV RX11 200 RX11 yX11_holds wsX11_holds) := goodIn_app (goodIn_of _ (by decide +kernel)) ggX11_lose_X11_holds
set_option maxRecDepth 100000 in
theorem ggX11_has_X11_isNode : GoodIn wsX11_has wsX11_isNode := goodIn_sub (List.forall_mem_cons.mpr ⟨List.mem_of_getElem? (i := 7) rfl, (fun _ h => absurd h List.not_mem_nil)⟩) (by decide +kernel)
set_option maxRecDepth 20000 in
theorem gX11_has_X11_isNode : GoodIn wsX11_has (va_wsS RX11 103 yX11_isNode wsX11_isNode) := goodIn_app (goodIn_of _ (by decide +kernel)) ggX11_has_X11_isNode
set_option maxRecDepth 100000 in
theorem ggX11_has_X11_isShape : GoodIn wsX11_has wsX11_isShape := goodIn_sub (List.forall_mem_cons.mpr ⟨List.mem_of_getElem? (i := 10) rfl, (fun _ h => absurd h List.not_mem_nil)⟩) (by decide +kernel)
set_option maxRecDepth 20000 in
theorem gX11_has_X11_isShape : GoodIn wsX11_has (va_wsS RX11 122 yX11_isShape wsX11_isShape) := goodIn_app (goodIn_of _ (by decide +kernel)) ggX11_has_X11_isShape
set_option maxRecDepth 100000 in
theorem ggX11_has_X11_reckon_0 : ∀ w ∈ wsX11_reckon_r1, w ∈ wsX11_has := z_inL [15, 2, 16, 3, 17, 18, 19, 6, 20, 21, 22, 23, 24, 25, 26, 27, 28, 29, 30, 31, 32, 33, 34, 35] rfl
set_option maxRecDepth 100000 in
theorem ggX11_has_X11_reckon_1 : ∀ w ∈ wsX11_reckon_r2, w ∈ wsX11_has := z_inL [36, 37, 38, 39, 40, 41, 42, 43, 44, 45, 46, 47, 48, 49, 50, 51, 52, 53, 54, 55, 56, 57, 58, 59] rfl
set_option maxRecDepth 100000 in
theorem ggX11_has_X11_reckon_2 : ∀ w ∈ wsX11_reckon_r3, w ∈ wsX11_has := z_inL [60, 61, 62, 63, 64, 65, 66, 67, 68, 69, 70, 71, 72, 73, 74, 75, 76, 77, 78, 79, 80, 81, 82, 83] rfl
set_option maxRecDepth 100000 in
theorem ggX11_has_X11_reckon_3 : ∀ w ∈ wsX11_reckon_r4, w ∈ wsX11_has := z_inL [84, 85, 86, 87, 88, 89, 90, 91, 92, 93, 94, 95, 96, 97, 98, 99, 100, 101, 102, 103, 104, 105, 106, 107] rfl
set_option maxRecDepth 100000 in
theorem ggX11_has_X11_reckon_4 : ∀ w ∈ wsX11_reckon_r5, w ∈ wsX11_has := z_inL [108, 109, 110, 111, 112, 113, 114, 115, 116, 117, 118, 119, 120, 121] rfl
set_option maxRecDepth 100000 in
theorem ggX11_has_X11_reckon : GoodIn wsX11_has wsX11_reckon := goodIn_sub (List.forall_mem_cons.mpr ⟨List.mem_of_getElem? (i := 14) rfl, List.forall_mem_append.mpr ⟨List.forall_mem_append.mpr ⟨ggX11_has_X11_reckon_0, List.forall_mem_append.mpr ⟨ggX11_has_X11_reckon_1, List.forall_mem_append.mpr ⟨ggX11_has_X11_reckon_2, List.forall_mem_append.mpr ⟨ggX11_has_X11_reckon_3, ggX11_has_X11_reckon_4⟩⟩⟩⟩, (fun _ h => List.mem_cons_of_mem _ (List.mem_append_right _ h))⟩⟩) (by decide +kernel)
set_option maxRecDepth 20000 in
theorem gX11_has_X11_reckon : GoodIn wsX11_has (wsV RX11 203 RX11 yX11_reckon wsX11_reckon) := goodIn_app (goodIn_of _ (by decide +kernel)) ggX11_has_X11_reckon
set_option maxRecDepth 100000 in
theorem ggX11_nodes_X11_isShape : GoodIn wsX11_nodes wsX11_isShape := goodIn_sub (List.forall_mem_cons.mpr ⟨List.mem_of_getElem? (i := 7) rfl, (fun _ h => absurd h List.not_mem_nil)⟩) (by decide +kernel)
set_option maxRecDepth 20000 in
theorem gX11_nodes_X11_isShape : GoodIn wsX11_nodes (va_wsS RX11 122 yX11_isShape wsX11_isShape) := goodIn_app (goodIn_of _ (by decide +kernel)) ggX11_nodes_X11_isShape
