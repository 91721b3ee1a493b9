/-- kinds of arrays that there are: int[], the script, the table of powers, long[], boolean[], rows of Expression, Place, Shape -/
def z_ks : List Nat := [0, 1, 2, 3, 4, 11, 15, 16]
/-- tables that nobody writes, and which of the given cells each is -/
def z_zs : List (String × String × String × Nat) := [("ShexMatch$Bag", "POWERS", "[I", 1)]
/-- classes of which there are arrays -/
def z_aos : List String := ["ShexMatch$Place", "ShexMatch$Expression", "ShexMatch$Shape"]
/-- what is castable, for clone -/
def z_cst : List (String × String) := [("[I", "java/lang/Cloneable")]
/-- the exception, and the classes between it and Throwable -/
def z_exc : String := "java/lang/ArrayIndexOutOfBoundsException"
def z_excN : List String := ["java/lang/IndexOutOfBoundsException", "java/lang/RuntimeException", "java/lang/Exception"]
def z_tw : List Cond := (Bundle.ownAtoms RX10 126 z_exc z_excN).filter (fun w => match w with
  | .isRef _ => false
  | .laysStatic _ _ _ => false
  | _ => true)
def z_str : List (String × Nat × String) := [(RX10, 124, "no such node"), (RX10, 142, "no such arc")]
def z_sq : List (String × String × String) := [("java/lang/Throwable", "UNASSIGNED_STACK", "[Ljava/lang/StackTraceElement;"), ("java/lang/Throwable", "SUPPRESSED_SENTINEL", "Ljava/util/List;")]
/-- constructors of nest mates -/
def z_nws : List (String × Nat × MethodName × String) := [(RX10, 9, yX2_init, "ShexMatch"), (RX10, 12, yX5_init, "ShexMatch"), (RX10, 34, yX8_init, "ShexMatch"), (RX5, 11, yX0_init, "ShexMatch")]
