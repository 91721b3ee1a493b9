/-! evaluations on the fresh pictures -/
def fr_s1 (r h : Int32) : List Value := [.ref 16, .ref 33, .ref 40, .ref 41, .int (-1), .int r, .int h]
set_option maxRecDepth 100000 in
theorem x_se : (F_X9_settled 39).1 fr_1 = some (1, fr_1.set 39 (.inr (9, fr_s1 0 0))) := by decide +kernel
set_option maxRecDepth 100000 in
theorem x_lw : ((F_X9_leastWrong 39).1 fr_1).map (fun r => r.1) = some (-1) := by decide +kernel
/-- the reference behind a reckoning -/
def fr_o1 : List Value := (((fr_o 1287).set 22 (.int 0)).set 12 (.int 1)).set 13 (.int (-1))
set_option maxRecDepth 100000 in
theorem y_re : (F_X11_reckon 42).1 ((fr_2 0).set 42 (.inr (11, (fr_o 1287).set 22 (.int 0)))) = some ((), (fr_2 0).set 42 (.inr (11, fr_o1))) := by decide +kernel
