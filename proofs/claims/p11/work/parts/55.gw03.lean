theorem w_B_X11_root_7 (a0 : Nat) (ih7 : Int32 → Int32 → zMn Unit) (h_ih7 : ∀ (y0 : Int32) (y1 : Int32), z_Gw 0 0 (ih7 y0 y1)) (x_1 : Int32) (x_2 : Int32) : z_Gw 0 0 (B_X11_root_7 a0 ih7 x_1 x_2) :=
  gz_bd gw_rd (fun x2 => gw_if (gz_bd gw_rd (fun r4 => gz_bd gw_wr (fun _ => gw_ret))) (gz_bd gw_rd (fun r5 => gz_bd gw_rd (fun r6 => gz_bd gw_rd (fun b8 => gz_bd (w_F_X11_row b8 x_1) (fun x7 => gz_bd gw_rd (fun x9 => gz_bd gw_wr (fun _ => h_ih7 x_1 (x_2 + 1)))))))))
theorem w_F_X11_root_7 (a0 : Nat) : ∀ (n : Nat) (s : Int32 × Int32), z_Gw 0 0 (F_X11_root_7 a0 n s) :=
  gw_fix (fun ih hih s => w_B_X11_root_7 a0 (fun y0 y1 => ih (y0, y1)) (fun y0 y1 => hih (y0, y1)) s.1 s.2)
theorem w_F_X11_root (a0 : Nat) (p0 : Int32) : z_Gw 0 0 (F_X11_root a0 p0) :=
  gz_bd gw_rd (fun b1 => gz_bd (w_F_X11_make b1 p0) (fun _ => w_F_X11_root_7 a0 z_N (p0, 0)))
theorem w_F_X11_weigh_191 (a0 : Nat) (ih149 : Int32 → Int64 → Int32 → zMn Int64) (h_ih149 : ∀ (y0 : Int32) (y1 : Int64) (y2 : Int32), z_Gw 0 0 (ih149 y0 y1 y2)) (x_2 : Int32) (x_5 : Int32) (u_0 : Int64) (u_1 : Int64) : z_Gw 0 0 (F_X11_weigh_191 a0 ih149 x_2 x_5 u_0 u_1) :=
  gz_bd gw_ret (fun w36 => h_ih149 x_2 w36 (x_5 + 1))
theorem w_B_X11_weigh_149 (a0 : Nat) (ih149 : Int32 → Int64 → Int32 → zMn Int64) (h_ih149 : ∀ (y0 : Int32) (y1 : Int64) (y2 : Int32), z_Gw 0 0 (ih149 y0 y1 y2)) (x_2 : Int32) (w_3 : Int64) (x_5 : Int32) : z_Gw 0 0 (B_X11_weigh_149 a0 ih149 x_2 w_3 x_5) :=
  gz_bd gw_rd (fun x27 => gw_if (gw_ret) (gz_bd gw_rd (fun r29 => gz_bd gw_rd (fun r30 => gz_bd gw_rd (fun x31 => gz_bd gw_rd (fun x32 => gw_if (w_F_X11_weigh_191 a0 ih149 h_ih149 x_2 x_5 w_3 0) (gz_bd gw_rd (fun r34 => gz_bd gw_rd (fun w35 => w_F_X11_weigh_191 a0 ih149 h_ih149 x_2 x_5 w_3 w35)))))))))
theorem w_F_X11_weigh_149 (a0 : Nat) : ∀ (n : Nat) (s : Int32 × Int64 × Int32), z_Gw 0 0 (F_X11_weigh_149 a0 n s) :=
  gw_fix (fun ih hih s => w_B_X11_weigh_149 a0 (fun y0 y1 y2 => ih (y0, y1, y2)) (fun y0 y1 y2 => hih (y0, y1, y2)) s.1 s.2.1 s.2.2)
theorem w_F_X11_weigh_138 (a0 : Nat) (ih67 : Int32 → Int32 → Int32 → zMn Int64) (h_ih67 : ∀ (y0 : Int32) (y1 : Int32) (y2 : Int32), z_Gw 0 0 (ih67 y0 y1 y2)) (x_1 : Int32) (x_2 : Int32) (x_3 : Int32) : z_Gw 0 0 (F_X11_weigh_138 a0 ih67 x_1 x_2 x_3) :=
  h_ih67 x_1 x_2 (x_3 + 1)
theorem w_F_X11_weigh_109 (a0 : Nat) (ih67 : Int32 → Int32 → Int32 → zMn Int64) (h_ih67 : ∀ (y0 : Int32) (y1 : Int32) (y2 : Int32), z_Gw 0 0 (ih67 y0 y1 y2)) (x_1 : Int32) (x_2 : Int32) (x_3 : Int32) (x_4 : Int32) (t_0 : Option Nat) (s_1 : Int32) (s_2 : Int32) : z_Gw 0 0 (F_X11_weigh_109 a0 ih67 x_1 x_2 x_3 x_4 t_0 s_1 s_2) :=
  gz_bd gw_rd (fun x21 => gw_if (gz_bd gw_rd (fun b24 => gz_bd (w_F_X11_concerns b24 x_2 (x_3 / 2) x_4) (fun x23 => gw_if (w_F_X11_weigh_138 a0 ih67 h_ih67 x_1 x_2 x_3) (gz_bd gw_rd (fun b26 => gz_bd (w_F_X11_giveOut b26 x_2 (x_3 / 2) x_4) (fun _ => w_F_X11_weigh_138 a0 ih67 h_ih67 x_1 x_2 x_3)))))) (w_F_X11_weigh_138 a0 ih67 h_ih67 x_1 x_2 x_3))
theorem w_F_X11_weigh_88 (a0 : Nat) (ih67 : Int32 → Int32 → Int32 → zMn Int64) (h_ih67 : ∀ (y0 : Int32) (y1 : Int32) (y2 : Int32), z_Gw 0 0 (ih67 y0 y1 y2)) (x_1 : Int32) (x_2 : Int32) (x_3 : Int32) (s_0 : Int32) : z_Gw 0 0 (F_X11_weigh_88 a0 ih67 x_1 x_2 x_3 s_0) :=
  gz_bd gw_rd (fun r19 => gw_if (w_F_X11_weigh_109 a0 ih67 h_ih67 x_1 x_2 x_3 s_0 r19 (3 * (x_3 / 2)) 2) (w_F_X11_weigh_109 a0 ih67 h_ih67 x_1 x_2 x_3 s_0 r19 (3 * (x_3 / 2)) 0))
theorem w_B_X11_weigh_67 (a0 : Nat) (ih67 : Int32 → Int32 → Int32 → zMn Int64) (h_ih67 : ∀ (y0 : Int32) (y1 : Int32) (y2 : Int32), z_Gw 0 0 (ih67 y0 y1 y2)) (x_1 : Int32) (x_2 : Int32) (x_3 : Int32) : z_Gw 0 0 (B_X11_weigh_67 a0 ih67 x_1 x_2 x_3) :=
  gz_bd gw_rd (fun x16 => gw_if (w_F_X11_weigh_149 a0 z_N (x_2, 0, 0)) (gw_if (w_F_X11_weigh_88 a0 ih67 h_ih67 x_1 x_2 x_3 1) (w_F_X11_weigh_88 a0 ih67 h_ih67 x_1 x_2 x_3 0)))
theorem w_F_X11_weigh_67 (a0 : Nat) : ∀ (n : Nat) (s : Int32 × Int32 × Int32), z_Gw 0 0 (F_X11_weigh_67 a0 n s) :=
  gw_fix (fun ih hih s => w_B_X11_weigh_67 a0 (fun y0 y1 y2 => ih (y0, y1, y2)) (fun y0 y1 y2 => hih (y0, y1, y2)) s.1 s.2.1 s.2.2)
theorem w_F_X11_weigh_58 (a0 : Nat) (ih36 : Int32 → Int32 → Int32 → zMn Int64) (h_ih36 : ∀ (y0 : Int32) (y1 : Int32) (y2 : Int32), z_Gw 0 0 (ih36 y0 y1 y2)) (x_1 : Int32) (x_2 : Int32) (x_3 : Int32) (t_0 : Option Nat) (s_1 : Int32) (u_2 : Int64) : z_Gw 0 0 (F_X11_weigh_58 a0 ih36 x_1 x_2 x_3 t_0 s_1 u_2) :=
  gz_bd gw_wr (fun _ => h_ih36 x_1 x_2 (x_3 + 1))
theorem w_B_X11_weigh_36 (a0 : Nat) (ih36 : Int32 → Int32 → Int32 → zMn Int64) (h_ih36 : ∀ (y0 : Int32) (y1 : Int32) (y2 : Int32), z_Gw 0 0 (ih36 y0 y1 y2)) (x_1 : Int32) (x_2 : Int32) (x_3 : Int32) : z_Gw 0 0 (B_X11_weigh_36 a0 ih36 x_1 x_2 x_3) :=
  gz_bd gw_rd (fun x12 => gw_if (w_F_X11_weigh_67 a0 z_N (x_1, x_2, 0)) (gz_bd gw_rd (fun r14 => gw_if (w_F_X11_weigh_58 a0 ih36 h_ih36 x_1 x_2 x_3 r14 x_3 1) (w_F_X11_weigh_58 a0 ih36 h_ih36 x_1 x_2 x_3 r14 x_3 0))))
theorem w_F_X11_weigh_36 (a0 : Nat) : ∀ (n : Nat) (s : Int32 × Int32 × Int32), z_Gw 0 0 (F_X11_weigh_36 a0 n s) :=
  gw_fix (fun ih hih s => w_B_X11_weigh_36 a0 (fun y0 y1 y2 => ih (y0, y1, y2)) (fun y0 y1 y2 => hih (y0, y1, y2)) s.1 s.2.1 s.2.2)
theorem w_F_X11_weigh_34 (a0 : Nat) (x_1 : Int32) (x_2 : Int32) : z_Gw 0 0 (F_X11_weigh_34 a0 x_1 x_2) :=
  w_F_X11_weigh_36 a0 z_N (x_1, x_2, 0)
theorem w_F_X11_weigh (a0 : Nat) (p0 : Int32) (p1 : Int32) : z_Gw 0 0 (F_X11_weigh a0 p0 p1) :=
  gz_bd gw_rd (fun r1 => gz_bd gw_rd (fun x2 => gz_bd gw_rd (fun b3 => gz_bd (w_F_X11_findPlaces b3 x2) (fun _ => gz_bd gw_rd (fun r4 => gz_bd gw_rd (fun r5 => gz_bd gw_rd (fun x6 => gz_bd gw_rd (fun x7 => gw_if (gz_bd gw_rd (fun r9 => gz_bd gw_rd (fun x10 => gz_bd gw_rd (fun b11 => gz_bd (w_F_X11_root b11 x10) (fun _ => w_F_X11_weigh_34 a0 p0 p1))))) (w_F_X11_weigh_34 a0 p0 p1)))))))))
theorem w_F_X11_holds_176 (a0 : Nat) (s_0 : Int32) : z_Gw 0 0 (F_X11_holds_176 a0 s_0) :=
  gw_rb
theorem w_F_X11_holds_161 (a0 : Nat) (s_0 : Int32) : z_Gw 0 0 (F_X11_holds_161 a0 s_0) :=
  gw_rb
theorem w_F_X11_holds_142 (a0 : Nat) (s_0 : Int32) : z_Gw 0 0 (F_X11_holds_142 a0 s_0) :=
  gw_rb
theorem w_F_X11_holds_137 (a0 : Nat) : z_Gw 0 0 (F_X11_holds_137 a0) :=
  w_F_X11_holds_142 a0 1
theorem w_F_X11_holds_103 (a0 : Nat) (s_0 : Int32) : z_Gw 0 0 (F_X11_holds_103 a0 s_0) :=
  gw_rb
theorem w_F_X11_holds_102 (a0 : Nat) : z_Gw 0 0 (F_X11_holds_102 a0) :=
  w_F_X11_holds_103 a0 0
theorem w_F_X11_holds_64 (a0 : Nat) (s_0 : Int32) : z_Gw 0 0 (F_X11_holds_64 a0 s_0) :=
  gw_rb
theorem w_F_X11_holds (a0 : Nat) (p0 : Int32) (p1 : Int32) : z_Gw 0 0 (F_X11_holds a0 p0 p1) :=
  gz_bd gw_rd (fun r1 => gz_bd gw_rd (fun x2 => gz_bd gw_rd (fun r3 => gz_bd gw_rd (fun x4 => gw_if (gz_bd gw_rd (fun b7 => gz_bd (w_F_X11_weigh b7 p0 p1) (fun w6 => gw_if (w_F_X11_holds_64 a0 0) (w_F_X11_holds_64 a0 1)))) (gw_if (gz_bd gw_rd (fun r10 => gz_bd gw_rd (fun x11 => gw_if (gz_bd gw_rd (fun r13 => gz_bd gw_rd (fun r14 => gz_bd gw_rd (fun x15 => gz_bd gw_rd (fun x16 => gw_if (w_F_X11_holds_103 a0 1) (w_F_X11_holds_102 a0)))))) (w_F_X11_holds_102 a0)))) (gw_if (gz_bd gw_rd (fun r19 => gz_bd gw_rd (fun x20 => gw_if (w_F_X11_holds_137 a0) (gz_bd gw_rd (fun r22 => gz_bd gw_rd (fun r23 => gz_bd gw_rd (fun x24 => gz_bd gw_rd (fun x25 => gw_if (w_F_X11_holds_137 a0) (w_F_X11_holds_142 a0 0))))))))) (gw_if (gz_bd gw_rd (fun r28 => gz_bd gw_rd (fun x29 => gw_if (w_F_X11_holds_161 a0 1) (w_F_X11_holds_161 a0 0)))) (gw_if (gw_if (w_F_X11_holds_176 a0 1) (w_F_X11_holds_176 a0 0)) (gw_rb)))))))))
theorem w_F_X11_lose_81 (a0 : Nat) (ih4 : Int32 → Int32 → Int32 → zMn Int32) (h_ih4 : ∀ (y0 : Int32) (y1 : Int32) (y2 : Int32), z_Gw 0 0 (ih4 y0 y1 y2)) (x_1 : Int32) (x_2 : Int32) (x_3 : Int32) : z_Gw 0 0 (F_X11_lose_81 a0 ih4 x_1 x_2 x_3) :=
  h_ih4 x_1 x_2 (x_3 + 1)
theorem w_F_X11_lose_75 (a0 : Nat) (ih4 : Int32 → Int32 → Int32 → zMn Int32) (h_ih4 : ∀ (y0 : Int32) (y1 : Int32) (y2 : Int32), z_Gw 0 0 (ih4 y0 y1 y2)) (ih24 : Int32 → Int32 → Int32 → Int32 → zMn Int32) (h_ih24 : ∀ (y0 : Int32) (y1 : Int32) (y2 : Int32) (y3 : Int32), z_Gw 0 0 (ih24 y0 y1 y2 y3)) (x_1 : Int32) (x_2 : Int32) (x_3 : Int32) (x_4 : Int32) : z_Gw 0 0 (F_X11_lose_75 a0 ih4 ih24 x_1 x_2 x_3 x_4) :=
  h_ih24 x_1 x_2 x_3 (x_4 + 1)
theorem w_B_X11_lose_24 (a0 : Nat) (ih4 : Int32 → Int32 → Int32 → zMn Int32) (h_ih4 : ∀ (y0 : Int32) (y1 : Int32) (y2 : Int32), z_Gw 0 0 (ih4 y0 y1 y2)) (ih24 : Int32 → Int32 → Int32 → Int32 → zMn Int32) (h_ih24 : ∀ (y0 : Int32) (y1 : Int32) (y2 : Int32) (y3 : Int32), z_Gw 0 0 (ih24 y0 y1 y2 y3)) (x_1 : Int32) (x_2 : Int32) (x_3 : Int32) (x_4 : Int32) : z_Gw 0 0 (B_X11_lose_24 a0 ih4 ih24 x_1 x_2 x_3 x_4) :=
  gw_if (w_F_X11_lose_81 a0 ih4 h_ih4 x_1 x_2 x_3) (gz_bd gw_rd (fun r4 => gz_bd gw_rd (fun x5 => gw_if (w_F_X11_lose_75 a0 ih4 h_ih4 ih24 h_ih24 x_1 x_2 x_3 x_4) (gz_bd gw_rd (fun b8 => gz_bd (w_F_X11_holds b8 x_4 x_3) (fun x7 => gw_if (gz_bd gw_rd (fun r10 => gz_bd gw_rd (fun x11 => gz_bd gw_wr (fun _ => w_F_X11_lose_75 a0 ih4 h_ih4 ih24 h_ih24 x_1 1 x_3 x_4)))) (w_F_X11_lose_75 a0 ih4 h_ih4 ih24 h_ih24 x_1 x_2 x_3 x_4)))))))
theorem w_F_X11_lose_24 (a0 : Nat) (ih4 : Int32 → Int32 → Int32 → zMn Int32) (h_ih4 : ∀ (y0 : Int32) (y1 : Int32) (y2 : Int32), z_Gw 0 0 (ih4 y0 y1 y2)) : ∀ (n : Nat) (s : Int32 × Int32 × Int32 × Int32), z_Gw 0 0 (F_X11_lose_24 a0 ih4 n s) :=
  gw_fix (fun ih hih s => w_B_X11_lose_24 a0 ih4 h_ih4 (fun y0 y1 y2 y3 => ih (y0, y1, y2, y3)) (fun y0 y1 y2 y3 => hih (y0, y1, y2, y3)) s.1 s.2.1 s.2.2.1 s.2.2.2)
theorem w_B_X11_lose_4 (a0 : Nat) (ih4 : Int32 → Int32 → Int32 → zMn Int32) (h_ih4 : ∀ (y0 : Int32) (y1 : Int32) (y2 : Int32), z_Gw 0 0 (ih4 y0 y1 y2)) (x_1 : Int32) (x_2 : Int32) (x_3 : Int32) : z_Gw 0 0 (B_X11_lose_4 a0 ih4 x_1 x_2 x_3) :=
  gw_if (gw_rb) (gw_if (w_F_X11_lose_81 a0 ih4 h_ih4 x_1 x_2 x_3) (w_F_X11_lose_24 a0 ih4 h_ih4 z_N (x_1, x_2, x_3, 0)))
theorem w_F_X11_lose_4 (a0 : Nat) : ∀ (n : Nat) (s : Int32 × Int32 × Int32), z_Gw 0 0 (F_X11_lose_4 a0 n s) :=
  gw_fix (fun ih hih s => w_B_X11_lose_4 a0 (fun y0 y1 y2 => ih (y0, y1, y2)) (fun y0 y1 y2 => hih (y0, y1, y2)) s.1 s.2.1 s.2.2)
theorem w_F_X11_lose (a0 : Nat) (p0 : Int32) : z_Gw 0 0 (F_X11_lose a0 p0) :=
  w_F_X11_lose_4 a0 z_N (p0, 0, 0)
theorem w_B_X11_reckon_149 (a0 : Nat) (ih27 : Int32 → zMn Unit) (h_ih27 : ∀ (y0 : Int32), z_Gw 0 0 (ih27 y0)) (ih149 : Int32 → Int32 → Int32 → zMn Unit) (h_ih149 : ∀ (y0 : Int32) (y1 : Int32) (y2 : Int32), z_Gw 0 0 (ih149 y0 y1 y2)) (x_1 : Int32) (x_3 : Int32) (x_4 : Int32) : z_Gw 0 0 (B_X11_reckon_149 a0 ih27 ih149 x_1 x_3 x_4) :=
  gw_if (gz_bd gw_ret (fun x25 => h_ih27 x25)) (gz_bd gw_rd (fun b27 => gz_bd (w_F_X11_lose b27 x_3) (fun x26 => h_ih149 x_1 x_3 x26)))
theorem w_F_X11_reckon_149 (a0 : Nat) (ih27 : Int32 → zMn Unit) (h_ih27 : ∀ (y0 : Int32), z_Gw 0 0 (ih27 y0)) : ∀ (n : Nat) (s : Int32 × Int32 × Int32), z_Gw 0 0 (F_X11_reckon_149 a0 ih27 n s) :=
  gw_fix (fun ih hih s => w_B_X11_reckon_149 a0 ih27 h_ih27 (fun y0 y1 y2 => ih (y0, y1, y2)) (fun y0 y1 y2 => hih (y0, y1, y2)) s.1 s.2.1 s.2.2)
theorem w_F_X11_reckon_139 (a0 : Nat) (ih27 : Int32 → zMn Unit) (h_ih27 : ∀ (y0 : Int32), z_Gw 0 0 (ih27 y0)) (ih104 : Int32 → Int32 → Int32 → zMn Unit) (h_ih104 : ∀ (y0 : Int32) (y1 : Int32) (y2 : Int32), z_Gw 0 0 (ih104 y0 y1 y2)) (x_1 : Int32) (x_3 : Int32) (x_4 : Int32) (t_0 : Option Nat) (s_1 : Int32) (s_2 : Int32) : z_Gw 0 0 (F_X11_reckon_139 a0 ih27 ih104 x_1 x_3 x_4 t_0 s_1 s_2) :=
  gz_bd gw_wr (fun _ => h_ih104 x_1 x_3 (x_4 + 1))
theorem w_B_X11_reckon_104 (a0 : Nat) (ih27 : Int32 → zMn Unit) (h_ih27 : ∀ (y0 : Int32), z_Gw 0 0 (ih27 y0)) (ih104 : Int32 → Int32 → Int32 → zMn Unit) (h_ih104 : ∀ (y0 : Int32) (y1 : Int32) (y2 : Int32), z_Gw 0 0 (ih104 y0 y1 y2)) (x_1 : Int32) (x_3 : Int32) (x_4 : Int32) : z_Gw 0 0 (B_X11_reckon_104 a0 ih27 ih104 x_1 x_3 x_4) :=
  gw_if (w_F_X11_reckon_149 a0 ih27 h_ih27 z_N (x_1, x_3, 1)) (gz_bd gw_rd (fun r20 => gw_if (w_F_X11_reckon_139 a0 ih27 h_ih27 ih104 h_ih104 x_1 x_3 x_4 r20 x_4 65535) (gz_bd gw_rd (fun r22 => gz_bd gw_rd (fun x23 => w_F_X11_reckon_139 a0 ih27 h_ih27 ih104 h_ih104 x_1 x_3 x_4 r20 x_4 x23)))))
theorem w_F_X11_reckon_104 (a0 : Nat) (ih27 : Int32 → zMn Unit) (h_ih27 : ∀ (y0 : Int32), z_Gw 0 0 (ih27 y0)) : ∀ (n : Nat) (s : Int32 × Int32 × Int32), z_Gw 0 0 (F_X11_reckon_104 a0 ih27 n s) :=
  gw_fix (fun ih hih s => w_B_X11_reckon_104 a0 ih27 h_ih27 (fun y0 y1 y2 => ih (y0, y1, y2)) (fun y0 y1 y2 => hih (y0, y1, y2)) s.1 s.2.1 s.2.2)
theorem w_F_X11_reckon_93 (a0 : Nat) (ih27 : Int32 → zMn Unit) (h_ih27 : ∀ (y0 : Int32), z_Gw 0 0 (ih27 y0)) (ih57 : Int32 → Int32 → Int32 → Int32 → zMn Unit) (h_ih57 : ∀ (y0 : Int32) (y1 : Int32) (y2 : Int32) (y3 : Int32), z_Gw 0 0 (ih57 y0 y1 y2 y3)) (x_1 : Int32) (x_2 : Int32) (x_4 : Int32) (s_0 : Int32) (s_1 : Int32) : z_Gw 0 0 (F_X11_reckon_93 a0 ih27 ih57 x_1 x_2 x_4 s_0 s_1) :=
  gz_bd gw_ret (fun x18 => h_ih57 x_1 x_2 x18 (x_4 + 1))
theorem w_F_X11_reckon_92 (a0 : Nat) (ih27 : Int32 → zMn Unit) (h_ih27 : ∀ (y0 : Int32), z_Gw 0 0 (ih27 y0)) (ih57 : Int32 → Int32 → Int32 → Int32 → zMn Unit) (h_ih57 : ∀ (y0 : Int32) (y1 : Int32) (y2 : Int32) (y3 : Int32), z_Gw 0 0 (ih57 y0 y1 y2 y3)) (x_1 : Int32) (x_2 : Int32) (x_4 : Int32) (s_0 : Int32) : z_Gw 0 0 (F_X11_reckon_92 a0 ih27 ih57 x_1 x_2 x_4 s_0) :=
  w_F_X11_reckon_93 a0 ih27 h_ih27 ih57 h_ih57 x_1 x_2 x_4 s_0 0
theorem w_B_X11_reckon_57 (a0 : Nat) (ih27 : Int32 → zMn Unit) (h_ih27 : ∀ (y0 : Int32), z_Gw 0 0 (ih27 y0)) (ih57 : Int32 → Int32 → Int32 → Int32 → zMn Unit) (h_ih57 : ∀ (y0 : Int32) (y1 : Int32) (y2 : Int32) (y3 : Int32), z_Gw 0 0 (ih57 y0 y1 y2 y3)) (x_1 : Int32) (x_2 : Int32) (x_3 : Int32) (x_4 : Int32) : z_Gw 0 0 (B_X11_reckon_57 a0 ih27 ih57 x_1 x_2 x_3 x_4) :=
  gw_if (w_F_X11_reckon_104 a0 ih27 h_ih27 z_N (x_1, x_3, 0)) (gz_bd gw_rd (fun b13 => gz_bd (w_F_X11_comesTo b13 x_2 x_4) (fun x12 => gw_if (w_F_X11_reckon_92 a0 ih27 h_ih27 ih57 h_ih57 x_1 x_2 x_4 x_3) (gz_bd gw_rd (fun b16 => gz_bd (w_F_X11_comesTo b16 x_4 x_2) (fun x15 => gw_if (w_F_X11_reckon_92 a0 ih27 h_ih27 ih57 h_ih57 x_1 x_2 x_4 x_3) (w_F_X11_reckon_93 a0 ih27 h_ih27 ih57 h_ih57 x_1 x_2 x_4 x_3 ((1 : Int32) <<< (x_4 &&& 31)))))))))
theorem w_F_X11_reckon_57 (a0 : Nat) (ih27 : Int32 → zMn Unit) (h_ih27 : ∀ (y0 : Int32), z_Gw 0 0 (ih27 y0)) : ∀ (n : Nat) (s : Int32 × Int32 × Int32 × Int32), z_Gw 0 0 (F_X11_reckon_57 a0 ih27 n s) :=
  gw_fix (fun ih hih s => w_B_X11_reckon_57 a0 ih27 h_ih27 (fun y0 y1 y2 y3 => ih (y0, y1, y2, y3)) (fun y0 y1 y2 y3 => hih (y0, y1, y2, y3)) s.1 s.2.1 s.2.2.1 s.2.2.2)
theorem w_B_X11_reckon_35 (a0 : Nat) (ih27 : Int32 → zMn Unit) (h_ih27 : ∀ (y0 : Int32), z_Gw 0 0 (ih27 y0)) (ih35 : Int32 → Int32 → zMn Unit) (h_ih35 : ∀ (y0 : Int32) (y1 : Int32), z_Gw 0 0 (ih35 y0 y1)) (x_1 : Int32) (x_2 : Int32) : z_Gw 0 0 (B_X11_reckon_35 a0 ih27 ih35 x_1 x_2) :=
  gz_bd gw_rd (fun b8 => gz_bd (w_F_X11_isReady b8 x_2 x_1) (fun x7 => gw_if (h_ih35 x_1 (x_2 + 1)) (gz_bd gw_ret (fun x10 => w_F_X11_reckon_57 a0 ih27 h_ih27 z_N (x_1, x_2, x10, 0)))))
theorem w_F_X11_reckon_35 (a0 : Nat) (ih27 : Int32 → zMn Unit) (h_ih27 : ∀ (y0 : Int32), z_Gw 0 0 (ih27 y0)) : ∀ (n : Nat) (s : Int32 × Int32), z_Gw 0 0 (F_X11_reckon_35 a0 ih27 n s) :=
  gw_fix (fun ih hih s => w_B_X11_reckon_35 a0 ih27 h_ih27 (fun y0 y1 => ih (y0, y1)) (fun y0 y1 => hih (y0, y1)) s.1 s.2)
theorem w_B_X11_reckon_27 (a0 : Nat) (ih27 : Int32 → zMn Unit) (h_ih27 : ∀ (y0 : Int32), z_Gw 0 0 (ih27 y0)) (x_1 : Int32) : z_Gw 0 0 (B_X11_reckon_27 a0 ih27 x_1) :=
  gw_if (gw_ret) (w_F_X11_reckon_35 a0 ih27 h_ih27 z_N (x_1, 0))
theorem w_F_X11_reckon_27 (a0 : Nat) : ∀ (n : Nat) (s : Int32), z_Gw 0 0 (F_X11_reckon_27 a0 n s) :=
  gw_fix (fun ih hih s => w_B_X11_reckon_27 a0 (fun y0 => ih (y0)) (fun y0 => hih (y0)) s)
theorem w_F_X11_reckon (a0 : Nat) : z_Gw 0 0 (F_X11_reckon a0) :=
  gz_bd gw_rd (fun x1 => gw_if (gz_bd gw_wr (fun _ => gz_bd gw_rd (fun b3 => gz_bd (w_F_X11_findRings b3) (fun _ => gz_bd gw_rd (fun x4 => gw_if (w_F_X11_reckon_27 a0 z_N (0)) (gw_ret)))))) (gw_ret))
theorem w_F_X11_has_47 (a0 : Nat) (s_0 : Int32) : z_Gw 0 0 (F_X11_has_47 a0 s_0) :=
  gw_ret
theorem w_F_X11_has_19 (a0 : Nat) : z_Gw 0 0 (F_X11_has_19 a0) :=
  gw_ret
theorem w_F_X11_has (a0 : Nat) (p0 : Int32) (p1 : Int32) : z_Gw 0 0 (F_X11_has a0 p0 p1) :=
  gz_bd gw_wr (fun _ => gz_bd (w_F_X11_isNode p0) (fun x1 => gw_if (w_F_X11_has_19 a0) (gz_bd (w_F_X11_isShape p1) (fun x3 => gw_if (w_F_X11_has_19 a0) (gz_bd gw_rd (fun b5 => gz_bd (w_F_X11_reckon b5) (fun _ => gz_bd gw_rd (fun x6 => gw_if (gz_bd gw_rd (fun r8 => gz_bd gw_rd (fun x9 => w_F_X11_has_47 a0 ((x9 >>> (p0 &&& 31)) &&& 1)))) (w_F_X11_has_47 a0 ((-3)))))))))))
theorem w_F_X11_init_318 (a0 : Nat) (ih233 : Int32 → zMn Unit) (h_ih233 : ∀ (y0 : Int32), z_Gw 0 0 (ih233 y0)) (x_1 : Int32) : z_Gw 0 0 (F_X11_init_318 a0 ih233 x_1) :=
  h_ih233 (x_1 + 1)
theorem w_B_X11_init_243 (a0 : Nat) (ih233 : Int32 → zMn Unit) (h_ih233 : ∀ (y0 : Int32), z_Gw 0 0 (ih233 y0)) (ih243 : Int32 → Int32 → Int32 → zMn Unit) (h_ih243 : ∀ (y0 : Int32) (y1 : Int32) (y2 : Int32), z_Gw 0 0 (ih243 y0 y1 y2)) (x_1 : Int32) (x_2 : Int32) (x_3 : Int32) : z_Gw 0 0 (B_X11_init_243 a0 ih233 ih243 x_1 x_2 x_3) :=
  gw_if (gz_bd gw_rd (fun r30 => gz_bd gw_wr (fun _ => gw_if (gz_bd gw_rd (fun r32 => gz_bd gw_rd (fun x33 => gz_bd gw_wr (fun _ => gz_bd gw_rd (fun r34 => gz_bd gw_rd (fun x35 => gz_bd gw_wr (fun _ => gz_bd gw_rd (fun r36 => gz_bd gw_rd (fun x37 => gz_bd gw_wr (fun _ => gz_bd gw_rd (fun x38 => gz_bd gw_wr (fun _ => w_F_X11_init_318 a0 ih233 h_ih233 x_1)))))))))))) (w_F_X11_init_318 a0 ih233 h_ih233 x_1)))) (gz_bd gw_ret (fun x39 => gz_bd gw_ret (fun x40 => h_ih243 x_1 x39 x40)))
theorem w_F_X11_init_243 (a0 : Nat) (ih233 : Int32 → zMn Unit) (h_ih233 : ∀ (y0 : Int32), z_Gw 0 0 (ih233 y0)) : ∀ (n : Nat) (s : Int32 × Int32 × Int32), z_Gw 0 0 (F_X11_init_243 a0 ih233 n s) :=
  gw_fix (fun ih hih s => w_B_X11_init_243 a0 ih233 h_ih233 (fun y0 y1 y2 => ih (y0, y1, y2)) (fun y0 y1 y2 => hih (y0, y1, y2)) s.1 s.2.1 s.2.2)
theorem w_B_X11_init_233 (a0 : Nat) (ih233 : Int32 → zMn Unit) (h_ih233 : ∀ (y0 : Int32), z_Gw 0 0 (ih233 y0)) (x_1 : Int32) : z_Gw 0 0 (B_X11_init_233 a0 ih233 x_1) :=
  gw_if (gw_ret) (w_F_X11_init_243 a0 ih233 h_ih233 z_N (x_1, 0, x_1))
theorem w_F_X11_init_233 (a0 : Nat) : ∀ (n : Nat) (s : Int32), z_Gw 0 0 (F_X11_init_233 a0 n s) :=
  gw_fix (fun ih hih s => w_B_X11_init_233 a0 (fun y0 => ih (y0)) (fun y0 => hih (y0)) s)
theorem w_B_X11_init_212 (a0 : Nat) (ih212 : Int32 → zMn Unit) (h_ih212 : ∀ (y0 : Int32), z_Gw 0 0 (ih212 y0)) (x_1 : Int32) : z_Gw 0 0 (B_X11_init_212 a0 ih212 x_1) :=
  gw_if (w_F_X11_init_233 a0 z_N (0)) (gz_bd gw_rd (fun r27 => gz_bd gw_wr (fun _ => h_ih212 (x_1 + 1))))
theorem w_F_X11_init_212 (a0 : Nat) : ∀ (n : Nat) (s : Int32), z_Gw 0 0 (F_X11_init_212 a0 n s) :=
  gw_fix (fun ih hih s => w_B_X11_init_212 a0 (fun y0 => ih (y0)) (fun y0 => hih (y0)) s)
theorem w_F_X11_init (a0 : Nat) : z_Gw 25 225609 (F_X11_init a0) :=
  gw_b2 (k := 1) (n := 180) (k' := 24) (n' := 225429) (gw_nwa (m := 180) (by decide)) (fun a1 => gw_b2 (k := 0) (n := 0) (k' := 24) (n' := 225429) gw_wr (fun _ => gw_b2 (k := 1) (n := 60) (k' := 23) (n' := 225369) (gw_nwa (m := 60) (by decide)) (fun a2 => gw_b2 (k := 0) (n := 0) (k' := 23) (n' := 225369) gw_wr (fun _ => gw_b2 (k := 1) (n := 60) (k' := 22) (n' := 225309) (gw_nwa (m := 60) (by decide)) (fun a3 => gw_b2 (k := 0) (n := 0) (k' := 22) (n' := 225309) gw_wr (fun _ => gw_b2 (k := 1) (n := 60) (k' := 21) (n' := 225249) (gw_nwa (m := 60) (by decide)) (fun a4 => gw_b2 (k := 0) (n := 0) (k' := 21) (n' := 225249) gw_wr (fun _ => gw_b2 (k := 1) (n := 60) (k' := 20) (n' := 225189) (gw_nwa (m := 60) (by decide)) (fun a5 => gw_b2 (k := 0) (n := 0) (k' := 20) (n' := 225189) gw_wr (fun _ => gw_b2 (k := 1) (n := 16) (k' := 19) (n' := 225173) (gw_nwa (m := 16) (by decide)) (fun a6 => gw_b2 (k := 0) (n := 0) (k' := 19) (n' := 225173) gw_wr (fun _ => gw_b2 (k := 1) (n := 16) (k' := 18) (n' := 225157) (gw_nwa (m := 16) (by decide)) (fun a7 => gw_b2 (k := 0) (n := 0) (k' := 18) (n' := 225157) gw_wr (fun _ => gw_b2 (k := 1) (n := 16) (k' := 17) (n' := 225141) (gw_nwa (m := 16) (by decide)) (fun a8 => gw_b2 (k := 0) (n := 0) (k' := 17) (n' := 225141) gw_wr (fun _ => gw_b2 (k := 1) (n := 16) (k' := 16) (n' := 225125) (gw_nwa (m := 16) (by decide)) (fun a9 => gw_b2 (k := 0) (n := 0) (k' := 16) (n' := 225125) gw_wr (fun _ => gw_b2 (k := 1) (n := 16) (k' := 15) (n' := 225109) (gw_nwa (m := 16) (by decide)) (fun a10 => gw_b2 (k := 0) (n := 0) (k' := 15) (n' := 225109) gw_wr (fun _ => gw_b2 (k := 1) (n := 1300) (k' := 14) (n' := 223809) (gw_nwa (m := 1300) (by decide)) (fun a11 => gw_b2 (k := 0) (n := 0) (k' := 14) (n' := 223809) gw_wr (fun _ => gw_b2 (k := 1) (n := 1300) (k' := 13) (n' := 222509) (gw_nwa (m := 1300) (by decide)) (fun a12 => gw_b2 (k := 0) (n := 0) (k' := 13) (n' := 222509) gw_wr (fun _ => gw_b2 (k := 1) (n := 59049) (k' := 12) (n' := 163460) (gw_nwa (m := 59049) (by decide)) (fun a13 => gw_b2 (k := 0) (n := 0) (k' := 12) (n' := 163460) gw_wr (fun _ => gw_b2 (k := 1) (n := 80000) (k' := 11) (n' := 83460) (gw_nwa (m := 80000) (by decide)) (fun a14 => gw_b2 (k := 0) (n := 0) (k' := 11) (n' := 83460) gw_wr (fun _ => gw_b2 (k := 1) (n := 60) (k' := 10) (n' := 83400) (gw_nwa (m := 60) (by decide)) (fun a15 => gw_b2 (k := 0) (n := 0) (k' := 10) (n' := 83400) gw_wr (fun _ => gw_b2 (k := 1) (n := 60) (k' := 9) (n' := 83340) (gw_nwa (m := 60) (by decide)) (fun a16 => gw_b2 (k := 0) (n := 0) (k' := 9) (n' := 83340) gw_wr (fun _ => gw_b2 (k := 1) (n := 4) (k' := 8) (n' := 83336) (gw_nwa (m := 4) (by decide)) (fun a17 => gw_b2 (k := 0) (n := 0) (k' := 8) (n' := 83336) gw_wr (fun _ => gw_b2 (k := 1) (n := 60) (k' := 7) (n' := 83276) (gw_nwa (m := 60) (by decide)) (fun a18 => gw_b2 (k := 0) (n := 0) (k' := 7) (n' := 83276) gw_wr (fun _ => gw_b2 (k := 1) (n := 1300) (k' := 6) (n' := 81976) (gw_nwa (m := 1300) (by decide)) (fun a19 => gw_b2 (k := 0) (n := 0) (k' := 6) (n' := 81976) gw_wr (fun _ => gw_b2 (k := 1) (n := 1300) (k' := 5) (n' := 80676) (gw_nwa (m := 1300) (by decide)) (fun a20 => gw_b2 (k := 0) (n := 0) (k' := 5) (n' := 80676) gw_wr (fun _ => gw_b2 (k := 1) (n := 78000) (k' := 4) (n' := 2676) (gw_nwa (m := 78000) (by decide)) (fun a21 => gw_b2 (k := 0) (n := 0) (k' := 4) (n' := 2676) gw_wr (fun _ => gw_b2 (k := 1) (n := 60) (k' := 3) (n' := 2616) (gw_nwa (m := 60) (by decide)) (fun a22 => gw_b2 (k := 0) (n := 0) (k' := 3) (n' := 2616) gw_wr (fun _ => gw_b2 (k := 1) (n := 1300) (k' := 2) (n' := 1316) (gw_nwa (m := 1300) (by decide)) (fun a23 => gw_b2 (k := 0) (n := 0) (k' := 2) (n' := 1316) gw_wr (fun _ => gw_b2 (k := 1) (n := 1300) (k' := 1) (n' := 16) (gw_nwa (m := 1300) (by decide)) (fun a24 => gw_b2 (k := 0) (n := 0) (k' := 1) (n' := 16) gw_wr (fun _ => gw_b2 (k := 1) (n := 16) (k' := 0) (n' := 0) (gw_nwa (m := 16) (by decide)) (fun a25 => gz_bd gw_wr (fun _ => w_F_X11_init_212 a0 z_N (0))) (by decide) (by decide)) (by decide) (by decide)) (by decide) (by decide)) (by decide) (by decide)) (by decide) (by decide)) (by decide) (by decide)) (by decide) (by decide)) (by decide) (by decide)) (by decide) (by decide)) (by decide) (by decide)) (by decide) (by decide)) (by decide) (by decide)) (by decide) (by decide)) (by decide) (by decide)) (by decide) (by decide)) (by decide) (by decide)) (by decide) (by decide)) (by decide) (by decide)) (by decide) (by decide)) (by decide) (by decide)) (by decide) (by decide)) (by decide) (by decide)) (by decide) (by decide)) (by decide) (by decide)) (by decide) (by decide)) (by decide) (by decide)) (by decide) (by decide)) (by decide) (by decide)) (by decide) (by decide)) (by decide) (by decide)) (by decide) (by decide)) (by decide) (by decide)) (by decide) (by decide)) (by decide) (by decide)) (by decide) (by decide)) (by decide) (by decide)) (by decide) (by decide)) (by decide) (by decide)) (by decide) (by decide)) (by decide) (by decide)) (by decide) (by decide)) (by decide) (by decide)) (by decide) (by decide)) (by decide) (by decide)) (by decide) (by decide)) (by decide) (by decide)) (by decide) (by decide)) (by decide) (by decide)) (by decide) (by decide)
theorem w_F_X11_isBare_21 (a0 : Nat) (s_0 : Int32) : z_Gw 0 0 (F_X11_isBare_21 a0 s_0) :=
  gw_rb
theorem w_F_X11_isBare_20 (a0 : Nat) : z_Gw 0 0 (F_X11_isBare_20 a0) :=
  w_F_X11_isBare_21 a0 0
theorem w_F_X11_isBare (a0 : Nat) (p0 : Int32) : z_Gw 0 0 (F_X11_isBare a0 p0) :=
  gz_bd (w_F_X11_isShape p0) (fun x1 => gw_if (w_F_X11_isBare_20 a0) (gz_bd gw_rd (fun r3 => gz_bd gw_rd (fun x4 => gw_if (w_F_X11_isBare_21 a0 1) (w_F_X11_isBare_20 a0)))))
theorem w_B_X11_isLoose_15 (a0 : Nat) (ih15 : Int32 → Int32 → Int32 → zMn Int32) (h_ih15 : ∀ (y0 : Int32) (y1 : Int32) (y2 : Int32), z_Gw 0 0 (ih15 y0 y1 y2)) (x_2 : Int32) (x_3 : Int32) (x_4 : Int32) : z_Gw 0 0 (B_X11_isLoose_15 a0 ih15 x_2 x_3 x_4) :=
  gz_bd gw_rd (fun x4 => gw_if (gw_rb) (gz_bd gw_rd (fun r6 => gz_bd gw_rd (fun x7 => gz_bd gw_rd (fun b9 => gz_bd (w_F_X11_takes b9 x7 x_2 x_3) (fun x8 => gw_if (h_ih15 x_2 x_3 (x_4 + 1)) (gw_rb)))))))
theorem w_F_X11_isLoose_15 (a0 : Nat) : ∀ (n : Nat) (s : Int32 × Int32 × Int32), z_Gw 0 0 (F_X11_isLoose_15 a0 n s) :=
  gw_fix (fun ih hih s => w_B_X11_isLoose_15 a0 (fun y0 y1 y2 => ih (y0, y1, y2)) (fun y0 y1 y2 => hih (y0, y1, y2)) s.1 s.2.1 s.2.2)
theorem w_F_X11_isLoose (a0 : Nat) (p0 : Int32) (p1 : Int32) (p2 : Int32) : z_Gw 0 0 (F_X11_isLoose a0 p0 p1 p2) :=
  gz_bd gw_rd (fun b2 => gz_bd (w_F_X11_mayBeLeft b2 p0 p1 p2) (fun x1 => gw_if (w_F_X11_isLoose_15 a0 z_N (p1, p2, 0)) (gw_rb)))
theorem w_F_X11_loose_138 (a0 : Nat) (ih51 : Int32 → Int32 → Int32 → Int32 → zMn Int32) (h_ih51 : ∀ (y0 : Int32) (y1 : Int32) (y2 : Int32) (y3 : Int32), z_Gw 0 0 (ih51 y0 y1 y2 y3)) (x_1 : Int32) (x_2 : Int32) (x_3 : Int32) (x_4 : Int32) : z_Gw 0 0 (F_X11_loose_138 a0 ih51 x_1 x_2 x_3 x_4) :=
  h_ih51 x_1 x_2 x_3 (x_4 + 1)
theorem w_F_X11_loose_136 (a0 : Nat) (ih51 : Int32 → Int32 → Int32 → Int32 → zMn Int32) (h_ih51 : ∀ (y0 : Int32) (y1 : Int32) (y2 : Int32) (y3 : Int32), z_Gw 0 0 (ih51 y0 y1 y2 y3)) (x_1 : Int32) (x_2 : Int32) (x_4 : Int32) (s_0 : Int32) (s_1 : Int32) : z_Gw 0 0 (F_X11_loose_136 a0 ih51 x_1 x_2 x_4 s_0 s_1) :=
  gz_bd gw_ret (fun x25 => w_F_X11_loose_138 a0 ih51 h_ih51 x_1 x_2 x25 x_4)
theorem w_F_X11_loose_96 (a0 : Nat) (ih51 : Int32 → Int32 → Int32 → Int32 → zMn Int32) (h_ih51 : ∀ (y0 : Int32) (y1 : Int32) (y2 : Int32) (y3 : Int32), z_Gw 0 0 (ih51 y0 y1 y2 y3)) (x_1 : Int32) (x_2 : Int32) (x_3 : Int32) (x_4 : Int32) (x_5 : Int32) (t_0 : Option Nat) (s_1 : Int32) (s_2 : Int32) : z_Gw 0 0 (F_X11_loose_96 a0 ih51 x_1 x_2 x_3 x_4 x_5 t_0 s_1 s_2) :=
  gz_bd gw_rd (fun x17 => gw_if (gz_bd gw_rd (fun b20 => gz_bd (w_F_X11_concerns b20 x_2 (x_4 / 2) x_5) (fun x19 => gw_if (w_F_X11_loose_138 a0 ih51 h_ih51 x_1 x_2 x_3 x_4) (gz_bd gw_rd (fun b23 => gz_bd (w_F_X11_isLoose b23 x_2 (x_4 / 2) x_5) (fun x22 => gw_if (w_F_X11_loose_136 a0 ih51 h_ih51 x_1 x_2 x_4 x_3 0) (w_F_X11_loose_136 a0 ih51 h_ih51 x_1 x_2 x_4 x_3 1))))))) (w_F_X11_loose_138 a0 ih51 h_ih51 x_1 x_2 x_3 x_4))
theorem w_F_X11_loose_74 (a0 : Nat) (ih51 : Int32 → Int32 → Int32 → Int32 → zMn Int32) (h_ih51 : ∀ (y0 : Int32) (y1 : Int32) (y2 : Int32) (y3 : Int32), z_Gw 0 0 (ih51 y0 y1 y2 y3)) (x_1 : Int32) (x_2 : Int32) (x_3 : Int32) (x_4 : Int32) (s_0 : Int32) : z_Gw 0 0 (F_X11_loose_74 a0 ih51 x_1 x_2 x_3 x_4 s_0) :=
  gz_bd gw_rd (fun r15 => gw_if (w_F_X11_loose_96 a0 ih51 h_ih51 x_1 x_2 x_3 x_4 s_0 r15 (3 * (x_4 / 2)) 2) (w_F_X11_loose_96 a0 ih51 h_ih51 x_1 x_2 x_3 x_4 s_0 r15 (3 * (x_4 / 2)) 0))
theorem w_B_X11_loose_51 (a0 : Nat) (ih51 : Int32 → Int32 → Int32 → Int32 → zMn Int32) (h_ih51 : ∀ (y0 : Int32) (y1 : Int32) (y2 : Int32) (y3 : Int32), z_Gw 0 0 (ih51 y0 y1 y2 y3)) (x_1 : Int32) (x_2 : Int32) (x_3 : Int32) (x_4 : Int32) : z_Gw 0 0 (B_X11_loose_51 a0 ih51 x_1 x_2 x_3 x_4) :=
  gz_bd gw_rd (fun x12 => gw_if (gw_ret) (gw_if (w_F_X11_loose_74 a0 ih51 h_ih51 x_1 x_2 x_3 x_4 1) (w_F_X11_loose_74 a0 ih51 h_ih51 x_1 x_2 x_3 x_4 0)))
theorem w_F_X11_loose_51 (a0 : Nat) : ∀ (n : Nat) (s : Int32 × Int32 × Int32 × Int32), z_Gw 0 0 (F_X11_loose_51 a0 n s) :=
  gw_fix (fun ih hih s => w_B_X11_loose_51 a0 (fun y0 y1 y2 y3 => ih (y0, y1, y2, y3)) (fun y0 y1 y2 y3 => hih (y0, y1, y2, y3)) s.1 s.2.1 s.2.2.1 s.2.2.2)
theorem w_F_X11_loose_20 (a0 : Nat) : z_Gw 0 0 (F_X11_loose_20 a0) :=
  gw_ret
theorem w_F_X11_loose (a0 : Nat) (p0 : Int32) (p1 : Int32) : z_Gw 0 0 (F_X11_loose a0 p0 p1) :=
  gz_bd gw_wr (fun _ => gz_bd (w_F_X11_isNode p0) (fun x1 => gw_if (w_F_X11_loose_20 a0) (gz_bd gw_rd (fun b4 => gz_bd (w_F_X11_isBare b4 p1) (fun x3 => gw_if (w_F_X11_loose_20 a0) (gz_bd gw_rd (fun b6 => gz_bd (w_F_X11_reckon b6) (fun _ => gz_bd gw_rd (fun x7 => gw_if (gz_bd gw_rd (fun r9 => gz_bd gw_rd (fun x10 => gz_bd gw_rd (fun b11 => gz_bd (w_F_X11_findPlaces b11 x10) (fun _ => w_F_X11_loose_51 a0 z_N (p0, p1, 0, 0)))))) (gw_ret))))))))))
theorem w_F_X11_nodes_36 (a0 : Nat) (s_0 : Int32) : z_Gw 0 0 (F_X11_nodes_36 a0 s_0) :=
  gw_ret
theorem w_F_X11_nodes (a0 : Nat) (p0 : Int32) : z_Gw 0 0 (F_X11_nodes a0 p0) :=
  gz_bd gw_wr (fun _ => gz_bd (w_F_X11_isShape p0) (fun x1 => gw_if (gw_ret) (gz_bd gw_rd (fun b3 => gz_bd (w_F_X11_reckon b3) (fun _ => gz_bd gw_rd (fun x4 => gw_if (gz_bd gw_rd (fun r6 => gz_bd gw_rd (fun x7 => w_F_X11_nodes_36 a0 x7))) (w_F_X11_nodes_36 a0 ((-3)))))))))
theorem w_F_X11_other_118 (a0 : Nat) (s_0 : Int32) : z_Gw 0 0 (F_X11_other_118 a0 s_0) :=
  gw_ret
theorem w_F_X11_other_98 (a0 : Nat) (x_3 : Int32) (t_0 : Option Nat) (s_1 : Int32) : z_Gw 0 0 (F_X11_other_98 a0 x_3 t_0 s_1) :=
  gz_bd gw_wr (fun _ => gz_bd gw_rd (fun x11 => gw_if (gz_bd gw_rd (fun r13 => gz_bd gw_rd (fun x14 => w_F_X11_other_118 a0 x14))) (w_F_X11_other_118 a0 0)))
theorem w_F_X11_other_97 (a0 : Nat) (x_3 : Int32) (t_0 : Option Nat) : z_Gw 0 0 (F_X11_other_97 a0 x_3 t_0) :=
  w_F_X11_other_98 a0 x_3 t_0 1
theorem w_F_X11_other_76 (a0 : Nat) (ih6 : Int32 → Int32 → Int32 → Int32 → Int32 → zMn Int32) (h_ih6 : ∀ (y0 : Int32) (y1 : Int32) (y2 : Int32) (y3 : Int32) (y4 : Int32), z_Gw 0 0 (ih6 y0 y1 y2 y3 y4)) (x_1 : Int32) (x_2 : Int32) (x_3 : Int32) (x_4 : Int32) (x_5 : Int32) : z_Gw 0 0 (F_X11_other_76 a0 ih6 x_1 x_2 x_3 x_4 x_5) :=
  h_ih6 x_1 x_2 x_3 x_4 (x_5 + 1)
theorem w_F_X11_other_51 (a0 : Nat) (ih6 : Int32 → Int32 → Int32 → Int32 → Int32 → zMn Int32) (h_ih6 : ∀ (y0 : Int32) (y1 : Int32) (y2 : Int32) (y3 : Int32) (y4 : Int32), z_Gw 0 0 (ih6 y0 y1 y2 y3 y4)) (x_1 : Int32) (x_2 : Int32) (x_3 : Int32) (x_4 : Int32) (x_5 : Int32) (s_0 : Int32) : z_Gw 0 0 (F_X11_other_51 a0 ih6 x_1 x_2 x_3 x_4 x_5 s_0) :=
  gw_if (gz_bd gw_rd (fun r10 => gz_bd gw_wr (fun _ => w_F_X11_other_76 a0 ih6 h_ih6 x_1 x_2 x_3 (x_4 + 1) x_5))) (w_F_X11_other_76 a0 ih6 h_ih6 x_1 x_2 x_3 x_4 x_5)
theorem w_B_X11_other_6 (a0 : Nat) (ih6 : Int32 → Int32 → Int32 → Int32 → Int32 → zMn Int32) (h_ih6 : ∀ (y0 : Int32) (y1 : Int32) (y2 : Int32) (y3 : Int32) (y4 : Int32), z_Gw 0 0 (ih6 y0 y1 y2 y3 y4)) (x_1 : Int32) (x_2 : Int32) (x_3 : Int32) (x_4 : Int32) (x_5 : Int32) : z_Gw 0 0 (B_X11_other_6 a0 ih6 x_1 x_2 x_3 x_4 x_5) :=
  gw_if (gw_if (w_F_X11_other_97 a0 x_3 ((some a0))) (gw_if (w_F_X11_other_97 a0 x_3 ((some a0))) (w_F_X11_other_98 a0 x_3 ((some a0)) 0))) (gw_if (gz_bd gw_rd (fun b6 => gz_bd (w_F_X11_find b6 (x_5 - x_5 / 16 * 16) (x_5 / 16) x_1) (fun x5 => w_F_X11_other_51 a0 ih6 h_ih6 x_1 x_2 x_3 x_4 x_5 x5))) (gz_bd gw_rd (fun b8 => gz_bd (w_F_X11_find b8 x_1 (x_5 / 16) (x_5 - x_5 / 16 * 16)) (fun x7 => w_F_X11_other_51 a0 ih6 h_ih6 x_1 x_2 x_3 x_4 x_5 x7))))
theorem w_F_X11_other_6 (a0 : Nat) : ∀ (n : Nat) (s : Int32 × Int32 × Int32 × Int32 × Int32), z_Gw 0 0 (F_X11_other_6 a0 n s) :=
  gw_fix (fun ih hih s => w_B_X11_other_6 a0 (fun y0 y1 y2 y3 y4 => ih (y0, y1, y2, y3, y4)) (fun y0 y1 y2 y3 y4 => hih (y0, y1, y2, y3, y4)) s.1 s.2.1 s.2.2.1 s.2.2.2.1 s.2.2.2.2)
theorem w_F_X11_other (a0 : Nat) (p0 : Int32) (p1 : Int32) (p2 : Int32) : z_Gw 0 0 (F_X11_other a0 p0 p1 p2) :=
  w_F_X11_other_6 a0 z_N (p0, p1, p2, 0, 0)
theorem w_F_X11_shape_95 (a0 : Nat) (x_1 : Int32) (x_2 : Int32) (x_3 : Int32) (x_4 : Int32) (x_5 : Int32) : z_Gw 0 0 (F_X11_shape_95 a0 x_1 x_2 x_3 x_4 x_5) :=
  gz_bd gw_rd (fun r17 => gz_bd gw_wr (fun _ => gz_bd gw_rd (fun r18 => gz_bd gw_wr (fun _ => gz_bd gw_rd (fun r19 => gz_bd gw_wr (fun _ => gz_bd gw_rd (fun r20 => gz_bd gw_wr (fun _ => gz_bd gw_wr (fun _ => gw_ret)))))))))
theorem w_F_X11_shape_93 (a0 : Nat) : z_Gw 0 0 (F_X11_shape_93 a0) :=
  gw_ret
theorem w_F_X11_shape_85 (a0 : Nat) (x_1 : Int32) (x_2 : Int32) (x_3 : Int32) (x_4 : Int32) (x_5 : Int32) : z_Gw 0 0 (F_X11_shape_85 a0 x_1 x_2 x_3 x_4 x_5) :=
  gz_bd (w_F_X11_isShape x_4) (fun x21 => gw_if (w_F_X11_shape_93 a0) (w_F_X11_shape_95 a0 x_1 x_2 x_3 x_4 x_5))
theorem w_F_X11_shape_75 (a0 : Nat) (x_1 : Int32) (x_2 : Int32) (x_3 : Int32) (x_4 : Int32) (x_5 : Int32) : z_Gw 0 0 (F_X11_shape_75 a0 x_1 x_2 x_3 x_4 x_5) :=
  gw_if (w_F_X11_shape_85 a0 x_1 x_2 x_3 x_4 x_5) (gw_if (w_F_X11_shape_85 a0 x_1 x_2 x_3 x_4 x_5) (w_F_X11_shape_95 a0 x_1 x_2 x_3 x_4 x_5))
theorem w_F_X11_shape_68 (a0 : Nat) (x_1 : Int32) (x_2 : Int32) (x_3 : Int32) (x_4 : Int32) (x_5 : Int32) : z_Gw 0 0 (F_X11_shape_68 a0 x_1 x_2 x_3 x_4 x_5) :=
  gz_bd (w_F_X11_isShape x_3) (fun x23 => gw_if (w_F_X11_shape_93 a0) (w_F_X11_shape_75 a0 x_1 x_2 x_3 x_4 x_5))
theorem w_F_X11_shape_53 (a0 : Nat) (x_1 : Int32) (x_2 : Int32) (x_3 : Int32) (x_4 : Int32) (x_5 : Int32) : z_Gw 0 0 (F_X11_shape_53 a0 x_1 x_2 x_3 x_4 x_5) :=
  gw_if (w_F_X11_shape_68 a0 x_1 x_2 x_3 x_4 x_5) (gw_if (w_F_X11_shape_68 a0 x_1 x_2 x_3 x_4 x_5) (gw_if (w_F_X11_shape_68 a0 x_1 x_2 x_3 x_4 x_5) (w_F_X11_shape_75 a0 x_1 x_2 x_3 x_4 x_5)))
theorem w_F_X11_shape_22 (a0 : Nat) : z_Gw 0 0 (F_X11_shape_22 a0) :=
  gw_ret
theorem w_F_X11_shape (a0 : Nat) (p0 : Int32) (p1 : Int32) (p2 : Int32) (p3 : Int32) (p4 : Int32) : z_Gw 0 0 (F_X11_shape a0 p0 p1 p2 p3 p4) :=
  gz_bd gw_wr (fun _ => gz_bd (w_F_X11_isShape p0) (fun x1 => gw_if (w_F_X11_shape_22 a0) (gw_if (w_F_X11_shape_22 a0) (gw_if (gw_if (gz_bd gw_rd (fun b7 => gz_bd (w_F_X11_isExpression b7 p2) (fun x6 => gw_if (gw_ret) (gz_bd gw_rd (fun b9 => gz_bd (w_F_X11_findPlaces b9 p2) (fun _ => gz_bd gw_rd (fun x10 => gw_if (w_F_X11_shape_53 a0 p0 p1 p2 p3 p4) (gw_ret)))))))) (w_F_X11_shape_53 a0 p0 p1 p2 p3 p4)) (w_F_X11_shape_22 a0)))))
theorem w_F_X11_thrown (a0 : Nat) : z_Gw 0 0 (F_X11_thrown a0) :=
  gz_bd gw_rd (fun x1 => gw_ret)
theorem w_F_X11_ways_58 (a0 : Nat) (s_0 : Int32) : z_Gw 0 0 (F_X11_ways_58 a0 s_0) :=
  gw_ret
theorem w_F_X11_ways_20 (a0 : Nat) : z_Gw 0 0 (F_X11_ways_20 a0) :=
  gw_ret
theorem w_F_X11_ways (a0 : Nat) (p0 : Int32) (p1 : Int32) : z_Gw 0 0 (F_X11_ways a0 p0 p1) :=
  gz_bd gw_wr (fun _ => gz_bd (w_F_X11_isNode p0) (fun x1 => gw_if (w_F_X11_ways_20 a0) (gz_bd gw_rd (fun b4 => gz_bd (w_F_X11_isBare b4 p1) (fun x3 => gw_if (w_F_X11_ways_20 a0) (gz_bd gw_rd (fun b6 => gz_bd (w_F_X11_reckon b6) (fun _ => gz_bd gw_rd (fun x7 => gw_if (gz_bd gw_rd (fun b10 => gz_bd (w_F_X11_weigh b10 p0 p1) (fun w9 => gw_if (w_F_X11_ways_58 a0 1000000) (w_F_X11_ways_58 a0 ((w9 : Int64).toInt32))))) (gw_ret))))))))))
theorem w_F_X11_wrong (a0 : Nat) : z_Gw 0 0 (F_X11_wrong a0) :=
  gz_bd gw_wr (fun _ => gz_bd gw_rd (fun b1 => gz_bd (w_F_X11_reckon b1) (fun _ => gz_bd gw_rd (fun x2 => gw_ret))))
