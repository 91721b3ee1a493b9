theorem z_inL {ws big : List Cond} (ps : List Nat) (h : ws = ps.filterMap (fun i => big[i]?)) : ∀ w ∈ ws, w ∈ big := by
  intro w hw
  rw [h] at hw
  obtain ⟨i, -, hi⟩ := List.mem_filterMap.mp hw
  exact List.mem_of_getElem? hi
set_option maxRecDepth 100000 in
theorem ggX11_arc_X11_isNode : GoodIn wsX11_arc wsX11_isNode := goodIn_sub (List.forall_mem_cons.mpr ⟨List.mem_of_getElem? (i := 8) rfl, (fun _ h => absurd h List.not_mem_nil)⟩) (by decide +kernel)
set_option maxRecDepth 20000 in
theorem gX11_arc_X11_isNode : GoodIn wsX11_arc (va_wsS RX11 103 yX11_isNode wsX11_isNode) := goodIn_app (goodIn_of _ (by decide +kernel)) ggX11_arc_X11_isNode
set_option maxRecDepth 100000 in
theorem ggX11_arc_X11_isLabel : GoodIn wsX11_arc wsX11_isLabel := goodIn_sub (List.forall_mem_cons.mpr ⟨List.mem_of_getElem? (i := 11) rfl, (fun _ h => absurd h List.not_mem_nil)⟩) (by decide +kernel)
set_option maxRecDepth 20000 in
theorem gX11_arc_X11_isLabel : GoodIn wsX11_arc (va_wsS RX11 107 yX11_isLabel wsX11_isLabel) := goodIn_app (goodIn_of _ (by decide +kernel)) ggX11_arc_X11_isLabel
set_option maxRecDepth 100000 in
theorem ggX11_arc_X11_find_0 : ∀ w ∈ ([.fieldLink RX11 100 "ShexMatchModel" "count" "I", .fieldLink RX11 13 "ShexMatchModel" "arcs" "[I"] : List Cond), w ∈ wsX11_arc := z_inL [2, 3] rfl
set_option maxRecDepth 100000 in
theorem ggX11_arc_X11_find : GoodIn wsX11_arc wsX11_find := goodIn_sub (List.forall_mem_cons.mpr ⟨List.mem_of_getElem? (i := 15) rfl, List.forall_mem_append.mpr ⟨ggX11_arc_X11_find_0, (fun _ h => List.mem_cons_of_mem _ (List.mem_append_right _ h))⟩⟩) (by decide +kernel)
set_option maxRecDepth 20000 in
theorem gX11_arc_X11_find : GoodIn wsX11_arc (wsV RX11 110 RX11 yX11_find wsX11_find) := goodIn_app (goodIn_of _ (by decide +kernel)) ggX11_arc_X11_find
set_option maxRecDepth 100000 in
theorem ggX11_arc_X11_many_0 : ∀ w ∈ ([.fieldLink RX11 100 "ShexMatchModel" "count" "I", .fieldLink RX11 13 "ShexMatchModel" "arcs" "[I"] : List Cond), w ∈ wsX11_arc := z_inL [2, 3] rfl
set_option maxRecDepth 100000 in
theorem ggX11_arc_X11_many : GoodIn wsX11_arc wsX11_many := goodIn_sub (List.forall_mem_cons.mpr ⟨List.mem_of_getElem? (i := 19) rfl, List.forall_mem_append.mpr ⟨ggX11_arc_X11_many_0, (fun _ h => List.mem_cons_of_mem _ (List.mem_append_right _ h))⟩⟩) (by decide +kernel)
set_option maxRecDepth 20000 in
theorem gX11_arc_X11_many : GoodIn wsX11_arc (wsV RX11 114 RX11 yX11_many wsX11_many) := goodIn_app (goodIn_of _ (by decide +kernel)) ggX11_arc_X11_many
set_option maxRecDepth 100000 in
theorem ggX11_other_X11_find_0 : ∀ w ∈ ([.fieldLink RX11 100 "ShexMatchModel" "count" "I", .fieldLink RX11 13 "ShexMatchModel" "arcs" "[I"] : List Cond), w ∈ wsX11_other := z_inL [8, 9] rfl
set_option maxRecDepth 100000 in
theorem ggX11_other_X11_find : GoodIn wsX11_other wsX11_find := goodIn_sub (List.forall_mem_cons.mpr ⟨List.mem_of_getElem? (i := 7) rfl, List.forall_mem_append.mpr ⟨ggX11_other_X11_find_0, (fun _ h => List.mem_cons_of_mem _ (List.mem_append_right _ h))⟩⟩) (by decide +kernel)
set_option maxRecDepth 20000 in
theorem gX11_other_X11_find : GoodIn wsX11_other (wsV RX11 110 RX11 yX11_find wsX11_find) := goodIn_app (goodIn_of _ (by decide +kernel)) ggX11_other_X11_find
set_option maxRecDepth 100000 in
theorem ggX11_expression_X11_isLabel : GoodIn wsX11_expression wsX11_isLabel := goodIn_sub (List.forall_mem_cons.mpr ⟨List.mem_of_getElem? (i := 10) rfl, (fun _ h => absurd h List.not_mem_nil)⟩) (by decide +kernel)
set_option maxRecDepth 20000 in
theorem gX11_expression_X11_isLabel : GoodIn wsX11_expression (va_wsS RX11 107 yX11_isLabel wsX11_isLabel) := goodIn_app (goodIn_of _ (by decide +kernel)) ggX11_expression_X11_isLabel
set_option maxRecDepth 100000 in
theorem ggX11_expression_X11_isShape : GoodIn wsX11_expression wsX11_isShape := goodIn_sub (List.forall_mem_cons.mpr ⟨List.mem_of_getElem? (i := 13) rfl, (fun _ h => absurd h List.not_mem_nil)⟩) (by decide +kernel)
set_option maxRecDepth 20000 in
theorem gX11_expression_X11_isShape : GoodIn wsX11_expression (va_wsS RX11 122 yX11_isShape wsX11_isShape) := goodIn_app (goodIn_of _ (by decide +kernel)) ggX11_expression_X11_isShape
set_option maxRecDepth 100000 in
theorem ggX11_expression_X11_isExpression_0 : ∀ w ∈ ([.fieldLink RX11 97 "ShexMatchModel" "expressions" "I"] : List Cond), w ∈ wsX11_expression := z_inL [2] rfl
set_option maxRecDepth 100000 in
theorem ggX11_expression_X11_isExpression : GoodIn wsX11_expression wsX11_isExpression := goodIn_sub (List.forall_mem_cons.mpr ⟨List.mem_of_getElem? (i := 17) rfl, List.forall_mem_append.mpr ⟨ggX11_expression_X11_isExpression_0, (fun _ h => List.mem_cons_of_mem _ (List.mem_append_right _ h))⟩⟩) (by decide +kernel)
set_option maxRecDepth 20000 in
theorem gX11_expression_X11_isExpression : GoodIn wsX11_expression (wsV RX11 125 RX11 yX11_isExpression wsX11_isExpression) := goodIn_app (goodIn_of _ (by decide +kernel)) ggX11_expression_X11_isExpression
