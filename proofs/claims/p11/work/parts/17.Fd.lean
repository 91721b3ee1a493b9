def F_X10_other_54 (a0 : Nat)  : zMn Int32 :=
  z_no
def F_X10_other_38 (a0 : Nat) (x_1 : Int32) (x_3 : Int32) (t_0 : Option Nat) : zMn Int32 :=
  if x_3 < 0 then (F_X10_other_54 a0) else
  (z_bd (z_rc t_0 1) fun b10 => z_bd (F_X0_count b10 x_1) fun x9 =>
  if x_3 < x9 then (z_bd (z_rc t_0 1) fun b13 => z_bd (F_X0_key b13 x_1 x_3) fun x12 =>
  z_bd (F_X5_otherOf x12) fun x14 =>
  z_ret x14) else
  (F_X10_other_54 a0))
def F_X10_other (a0 : Nat) (p0 : Int32) (p1 : Int32) (p2 : Int32) : zMn Int32 :=
  z_bd (F_X10_isNode p0) fun x1 =>
  if x1 = 0 then (z_no) else
  (if p1 = 0 then (z_bd (z_ga ((some a0)) 10 0) fun r4 =>
  z_bd (z_ga r4 5 1) fun r5 =>
  F_X10_other_38 a0 p0 p2 r5) else
  (z_bd (z_ga ((some a0)) 10 0) fun r6 =>
  z_bd (z_ga r6 5 0) fun r7 =>
  F_X10_other_38 a0 p0 p2 r7))
def F_X10_otherT_54 (a0 : Nat)  : zMn Unit :=
  z_thr
def F_X10_otherT_38 (a0 : Nat) (x_1 : Int32) (x_3 : Int32) (t_0 : Option Nat) : zMn Unit :=
  if x_3 < 0 then (F_X10_otherT_54 a0) else
  (z_bd (z_rc t_0 1) fun b10 => z_bd (F_X0_count b10 x_1) fun x9 =>
  if x_3 < x9 then (z_bd (z_rc t_0 1) fun b13 => z_bd (F_X0_key b13 x_1 x_3) fun x12 =>
  z_bd (F_X5_otherOf x12) fun x14 =>
  z_no) else
  (F_X10_otherT_54 a0))
def F_X10_otherT (a0 : Nat) (p0 : Int32) (p1 : Int32) (p2 : Int32) : zMn Unit :=
  z_bd (F_X10_isNode p0) fun x1 =>
  if x1 = 0 then (z_thr) else
  (if p1 = 0 then (z_bd (z_ga ((some a0)) 10 0) fun r4 =>
  z_bd (z_ga r4 5 1) fun r5 =>
  F_X10_otherT_38 a0 p0 p2 r5) else
  (z_bd (z_ga ((some a0)) 10 0) fun r6 =>
  z_bd (z_ga r6 5 0) fun r7 =>
  F_X10_otherT_38 a0 p0 p2 r7))
