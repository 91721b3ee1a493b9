set_option maxRecDepth 100000 in
theorem ggX11_shape_X11_isShape : GoodIn wsX11_shape wsX11_isShape := goodIn_sub (List.forall_mem_cons.mpr ⟨List.mem_of_getElem? (i := 11) rfl, (fun _ h => absurd h List.not_mem_nil)⟩) (by decide +kernel)
set_option maxRecDepth 20000 in
theorem gX11_shape_X11_isShape : GoodIn wsX11_shape (va_wsS RX11 122 yX11_isShape wsX11_isShape) := goodIn_app (goodIn_of _ (by decide +kernel)) ggX11_shape_X11_isShape
set_option maxRecDepth 100000 in
theorem ggX11_shape_X11_isExpression_0 : ∀ w ∈ ([.fieldLink RX11 97 "ShexMatchModel" "expressions" "I"] : List Cond), w ∈ wsX11_shape := z_inL [16] rfl
set_option maxRecDepth 100000 in
theorem ggX11_shape_X11_isExpression : GoodIn wsX11_shape wsX11_isExpression := goodIn_sub (List.forall_mem_cons.mpr ⟨List.mem_of_getElem? (i := 15) rfl, List.forall_mem_append.mpr ⟨ggX11_shape_X11_isExpression_0, (fun _ h => List.mem_cons_of_mem _ (List.mem_append_right _ h))⟩⟩) (by decide +kernel)
set_option maxRecDepth 20000 in
theorem gX11_shape_X11_isExpression : GoodIn wsX11_shape (wsV RX11 125 RX11 yX11_isExpression wsX11_isExpression) := goodIn_app (goodIn_of _ (by decide +kernel)) ggX11_shape_X11_isExpression
set_option maxRecDepth 100000 in
theorem ggX11_shape_X11_findPlaces_0 : ∀ w ∈ ([.fieldLink RX11 59 "ShexMatchModel" "made" "[Z", .fieldLink RX11 17 "ShexMatchModel" "kinds" "[I", .fieldLink RX11 20 "ShexMatchModel" "as" "[I", .fieldLink RX11 23 "ShexMatchModel" "bs" "[I", .fieldLink RX11 128 "ShexMatchModel" "placeCount" "I", .fieldLink RX11 62 "ShexMatchModel" "places" "[I"] : List Cond), w ∈ wsX11_shape := z_inL [21, 22, 23, 24, 2, 25] rfl
set_option maxRecDepth 100000 in
theorem ggX11_shape_X11_findPlaces : GoodIn wsX11_shape wsX11_findPlaces := goodIn_sub (List.forall_mem_cons.mpr ⟨List.mem_of_getElem? (i := 20) rfl, List.forall_mem_append.mpr ⟨ggX11_shape_X11_findPlaces_0, (fun _ h => List.mem_cons_of_mem _ (List.mem_append_right _ h))⟩⟩) (by decide +kernel)
set_option maxRecDepth 20000 in
theorem gX11_shape_X11_findPlaces : GoodIn wsX11_shape (wsV RX11 131 RX11 yX11_findPlaces wsX11_findPlaces) := goodIn_app (goodIn_of _ (by decide +kernel)) ggX11_shape_X11_findPlaces
set_option maxRecDepth 100000 in
theorem ggX11_make_X11_row_0 : ∀ w ∈ ([.fieldLink RX11 68 "ShexMatchModel" "rowOf" "[I"] : List Cond), w ∈ wsX11_make := z_inL [2] rfl
set_option maxRecDepth 100000 in
theorem ggX11_make_X11_row : GoodIn wsX11_make wsX11_row := goodIn_sub (List.forall_mem_cons.mpr ⟨List.mem_of_getElem? (i := 14) rfl, List.forall_mem_append.mpr ⟨ggX11_make_X11_row_0, (fun _ h => List.mem_cons_of_mem _ (List.mem_append_right _ h))⟩⟩) (by decide +kernel)
set_option maxRecDepth 20000 in
theorem gX11_make_X11_row : GoodIn wsX11_make (wsV RX11 135 RX11 yX11_row wsX11_row) := goodIn_app (goodIn_of _ (by decide +kernel)) ggX11_make_X11_row
set_option maxRecDepth 100000 in
theorem ggX11_make_X11_unit_0 : ∀ w ∈ ([.fieldLink RX11 62 "ShexMatchModel" "places" "[I"] : List Cond), w ∈ wsX11_make := z_inL [19] rfl
set_option maxRecDepth 100000 in
theorem ggX11_make_X11_unit : GoodIn wsX11_make wsX11_unit := goodIn_sub (List.forall_mem_cons.mpr ⟨List.mem_of_getElem? (i := 18) rfl, List.forall_mem_append.mpr ⟨ggX11_make_X11_unit_0, (fun _ h => List.mem_cons_of_mem _ (List.mem_append_right _ h))⟩⟩) (by decide +kernel)
set_option maxRecDepth 20000 in
theorem gX11_make_X11_unit : GoodIn wsX11_make (wsV RX11 139 RX11 yX11_unit wsX11_unit) := goodIn_app (goodIn_of _ (by decide +kernel)) ggX11_make_X11_unit
set_option maxRecDepth 100000 in
theorem ggX11_make_X11_together_0 : ∀ w ∈ ([.fieldLink RX11 94 "ShexMatchModel" "bagCount" "I", .fieldLink RX11 55 "ShexMatchModel" "allowed" "[Z", .fieldLink RX11 47 "ShexMatchModel" "sums" "[I", .fieldLink RX11 51 "ShexMatchModel" "placeOfBag" "[I", .fieldLink RX11 44 "ShexMatchModel" "bags" "[I"] : List Cond), w ∈ wsX11_make := z_inL [3, 4, 24, 6, 25] rfl
set_option maxRecDepth 100000 in
theorem ggX11_make_X11_together : GoodIn wsX11_make wsX11_together := goodIn_sub (List.forall_mem_cons.mpr ⟨List.mem_of_getElem? (i := 23) rfl, List.forall_mem_append.mpr ⟨ggX11_make_X11_together_0, (fun _ h => List.mem_cons_of_mem _ (List.mem_append_right _ h))⟩⟩) (by decide +kernel)
set_option maxRecDepth 20000 in
theorem gX11_make_X11_together : GoodIn wsX11_make (wsV RX11 142 RX11 yX11_together wsX11_together) := goodIn_app (goodIn_of _ (by decide +kernel)) ggX11_make_X11_together
set_option maxRecDepth 100000 in
theorem ggX11_make_X11_least : GoodIn wsX11_make wsX11_least := goodIn_sub (List.forall_mem_cons.mpr ⟨List.mem_of_getElem? (i := 28) rfl, (fun _ h => absurd h List.not_mem_nil)⟩) (by decide +kernel)
set_option maxRecDepth 20000 in
theorem gX11_make_X11_least : GoodIn wsX11_make (va_wsS RX11 146 yX11_least wsX11_least) := goodIn_app (goodIn_of _ (by decide +kernel)) ggX11_make_X11_least
set_option maxRecDepth 100000 in
theorem ggX11_make_X11_repeat_0 : ∀ w ∈ ([.fieldLink RX11 94 "ShexMatchModel" "bagCount" "I", .fieldLink RX11 71 "ShexMatchModel" "now" "[Z", .fieldLink RX11 55 "ShexMatchModel" "allowed" "[Z", .fieldLink RX11 74 "ShexMatchModel" "next" "[Z", .fieldLink RX11 47 "ShexMatchModel" "sums" "[I", .fieldLink RX11 51 "ShexMatchModel" "placeOfBag" "[I", .fieldLink RX11 44 "ShexMatchModel" "bags" "[I"] : List Cond), w ∈ wsX11_make := z_inL [3, 33, 4, 34, 24, 6, 25] rfl
set_option maxRecDepth 100000 in
theorem ggX11_make_X11_repeat : GoodIn wsX11_make wsX11_repeat := goodIn_sub (List.forall_mem_cons.mpr ⟨List.mem_of_getElem? (i := 32) rfl, List.forall_mem_append.mpr ⟨ggX11_make_X11_repeat_0, (fun _ h => List.mem_cons_of_mem _ (List.mem_append_right _ h))⟩⟩) (by decide +kernel)
set_option maxRecDepth 20000 in
theorem gX11_make_X11_repeat : GoodIn wsX11_make (wsV RX11 149 RX11 yX11_repeat wsX11_repeat) := goodIn_app (goodIn_of _ (by decide +kernel)) ggX11_make_X11_repeat
