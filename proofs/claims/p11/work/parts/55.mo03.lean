theorem m_B_X11_repeat_48 (a0 : Nat) (ih38 : Int32 → Int32 → Int32 → Int32 → Int32 → zMn Unit) (h_ih38 : ∀ (y0 : Int32) (y1 : Int32) (y2 : Int32) (y3 : Int32) (y4 : Int32), z_Mo (ih38 y0 y1 y2 y3 y4)) (ih48 : Int32 → Int32 → Int32 → Int32 → Int32 → Int32 → zMn Unit) (h_ih48 : ∀ (y0 : Int32) (y1 : Int32) (y2 : Int32) (y3 : Int32) (y4 : Int32) (y5 : Int32), z_Mo (ih48 y0 y1 y2 y3 y4 y5)) (x_1 : Int32) (x_2 : Int32) (x_3 : Int32) (x_4 : Int32) (x_5 : Int32) (x_6 : Int32) : z_Mo (B_X11_repeat_48 a0 ih38 ih48 x_1 x_2 x_3 x_4 x_5 x_6) :=
  mo_bd (mo_gi (by decide)) (fun x6 => mo_if (m_F_X11_repeat_105 a0 ih38 h_ih38 x_1 x_2 x_3 x_4 x_5) (mo_if (m_F_X11_repeat_105 a0 ih38 h_ih38 x_1 x_2 x_3 x_4 x_5) (mo_bd (mo_ga (by decide)) (fun r9 => mo_bd (mo_ga (by decide)) (fun r10 => mo_bd mo_lb (fun x11 => mo_if (mo_bd (mo_ga (by decide)) (fun r13 => mo_bd mo_lb (fun x14 => mo_if (m_F_X11_repeat_98 a0 ih38 h_ih38 ih48 h_ih48 x_1 x_2 x_3 x_4 x_5 x_6 r9 (x_2 + x_6) 0) (m_F_X11_repeat_93 a0 ih38 h_ih38 ih48 h_ih48 x_1 x_2 x_3 x_4 x_5 x_6 r9 (x_2 + x_6))))) (m_F_X11_repeat_93 a0 ih38 h_ih38 ih48 h_ih48 x_1 x_2 x_3 x_4 x_5 x_6 r9 (x_2 + x_6))))))))
theorem m_F_X11_repeat_48 (a0 : Nat) (ih38 : Int32 → Int32 → Int32 → Int32 → Int32 → zMn Unit) (h_ih38 : ∀ (y0 : Int32) (y1 : Int32) (y2 : Int32) (y3 : Int32) (y4 : Int32), z_Mo (ih38 y0 y1 y2 y3 y4)) : ∀ (n : Nat) (s : Int32 × Int32 × Int32 × Int32 × Int32 × Int32), z_Mo (F_X11_repeat_48 a0 ih38 n s) :=
  mo_fix (fun ih hih s => m_B_X11_repeat_48 a0 ih38 h_ih38 (fun y0 y1 y2 y3 y4 y5 => ih (y0, y1, y2, y3, y4, y5)) (fun y0 y1 y2 y3 y4 y5 => hih (y0, y1, y2, y3, y4, y5)) s.1 s.2.1 s.2.2.1 s.2.2.2.1 s.2.2.2.2.1 s.2.2.2.2.2)
theorem m_B_X11_repeat_38 (a0 : Nat) (ih38 : Int32 → Int32 → Int32 → Int32 → Int32 → zMn Unit) (h_ih38 : ∀ (y0 : Int32) (y1 : Int32) (y2 : Int32) (y3 : Int32) (y4 : Int32), z_Mo (ih38 y0 y1 y2 y3 y4)) (x_1 : Int32) (x_2 : Int32) (x_3 : Int32) (x_4 : Int32) (x_5 : Int32) : z_Mo (B_X11_repeat_38 a0 ih38 x_1 x_2 x_3 x_4 x_5) :=
  mo_if (mo_ret) (m_F_X11_repeat_48 a0 ih38 h_ih38 z_N (x_1, x_2, x_3, x_4, x_5, 0))
theorem m_F_X11_repeat_38 (a0 : Nat) : ∀ (n : Nat) (s : Int32 × Int32 × Int32 × Int32 × Int32), z_Mo (F_X11_repeat_38 a0 n s) :=
  mo_fix (fun ih hih s => m_B_X11_repeat_38 a0 (fun y0 y1 y2 y3 y4 => ih (y0, y1, y2, y3, y4)) (fun y0 y1 y2 y3 y4 => hih (y0, y1, y2, y3, y4)) s.1 s.2.1 s.2.2.1 s.2.2.2.1 s.2.2.2.2)
theorem m_F_X11_repeat_28 (a0 : Nat) (ih3 : Int32 → Int32 → Int32 → Int32 → Int32 → zMn Unit) (h_ih3 : ∀ (y0 : Int32) (y1 : Int32) (y2 : Int32) (y3 : Int32) (y4 : Int32), z_Mo (ih3 y0 y1 y2 y3 y4)) (x_1 : Int32) (x_2 : Int32) (x_3 : Int32) (x_4 : Int32) (x_5 : Int32) (t_0 : Option Nat) (s_1 : Int32) (s_2 : Int32) : z_Mo (F_X11_repeat_28 a0 ih3 x_1 x_2 x_3 x_4 x_5 t_0 s_1 s_2) :=
  mo_bd mo_sb (fun _ => h_ih3 x_1 x_2 x_3 x_4 (x_5 + 1))
theorem m_B_X11_repeat_3 (a0 : Nat) (ih3 : Int32 → Int32 → Int32 → Int32 → Int32 → zMn Unit) (h_ih3 : ∀ (y0 : Int32) (y1 : Int32) (y2 : Int32) (y3 : Int32) (y4 : Int32), z_Mo (ih3 y0 y1 y2 y3 y4)) (x_1 : Int32) (x_2 : Int32) (x_3 : Int32) (x_4 : Int32) (x_5 : Int32) : z_Mo (B_X11_repeat_3 a0 ih3 x_1 x_2 x_3 x_4 x_5) :=
  mo_bd (mo_gi (by decide)) (fun x1 => mo_if (m_F_X11_repeat_38 a0 z_N (x_1, x_2, x_3, x_4, 0)) (mo_bd (mo_ga (by decide)) (fun r3 => mo_if (m_F_X11_repeat_28 a0 ih3 h_ih3 x_1 x_2 x_3 x_4 x_5 r3 x_5 1) (m_F_X11_repeat_28 a0 ih3 h_ih3 x_1 x_2 x_3 x_4 x_5 r3 x_5 0))))
theorem m_F_X11_repeat_3 (a0 : Nat) : ∀ (n : Nat) (s : Int32 × Int32 × Int32 × Int32 × Int32), z_Mo (F_X11_repeat_3 a0 n s) :=
  mo_fix (fun ih hih s => m_B_X11_repeat_3 a0 (fun y0 y1 y2 y3 y4 => ih (y0, y1, y2, y3, y4)) (fun y0 y1 y2 y3 y4 => hih (y0, y1, y2, y3, y4)) s.1 s.2.1 s.2.2.1 s.2.2.2.1 s.2.2.2.2)
theorem m_F_X11_repeat (a0 : Nat) (p0 : Int32) (p1 : Int32) (p2 : Int32) (p3 : Int32) : z_Mo (F_X11_repeat a0 p0 p1 p2 p3) :=
  m_F_X11_repeat_3 a0 z_N (p0, p1, p2, p3, 0)
theorem m_F_X11_row (a0 : Nat) (p0 : Int32) : z_Mo (F_X11_row a0 p0) :=
  mo_bd (mo_ga (by decide)) (fun r1 => mo_bd mo_li (fun x2 => mo_ret))
theorem m_F_X11_together_102 (a0 : Nat) (ih3 : Int32 → Int32 → Int32 → Int32 → zMn Unit) (h_ih3 : ∀ (y0 : Int32) (y1 : Int32) (y2 : Int32) (y3 : Int32), z_Mo (ih3 y0 y1 y2 y3)) (x_1 : Int32) (x_2 : Int32) (x_3 : Int32) (x_4 : Int32) : z_Mo (F_X11_together_102 a0 ih3 x_1 x_2 x_3 x_4) :=
  h_ih3 x_1 x_2 x_3 (x_4 + 1)
theorem m_F_X11_together_96 (a0 : Nat) (ih3 : Int32 → Int32 → Int32 → Int32 → zMn Unit) (h_ih3 : ∀ (y0 : Int32) (y1 : Int32) (y2 : Int32) (y3 : Int32), z_Mo (ih3 y0 y1 y2 y3)) (ih15 : Int32 → Int32 → Int32 → Int32 → Int32 → zMn Unit) (h_ih15 : ∀ (y0 : Int32) (y1 : Int32) (y2 : Int32) (y3 : Int32) (y4 : Int32), z_Mo (ih15 y0 y1 y2 y3 y4)) (x_1 : Int32) (x_2 : Int32) (x_3 : Int32) (x_4 : Int32) (x_5 : Int32) : z_Mo (F_X11_together_96 a0 ih3 ih15 x_1 x_2 x_3 x_4 x_5) :=
  h_ih15 x_1 x_2 x_3 x_4 (x_5 + 1)
theorem m_B_X11_together_15 (a0 : Nat) (ih3 : Int32 → Int32 → Int32 → Int32 → zMn Unit) (h_ih3 : ∀ (y0 : Int32) (y1 : Int32) (y2 : Int32) (y3 : Int32), z_Mo (ih3 y0 y1 y2 y3)) (ih15 : Int32 → Int32 → Int32 → Int32 → Int32 → zMn Unit) (h_ih15 : ∀ (y0 : Int32) (y1 : Int32) (y2 : Int32) (y3 : Int32) (y4 : Int32), z_Mo (ih15 y0 y1 y2 y3 y4)) (x_1 : Int32) (x_2 : Int32) (x_3 : Int32) (x_4 : Int32) (x_5 : Int32) : z_Mo (B_X11_together_15 a0 ih3 ih15 x_1 x_2 x_3 x_4 x_5) :=
  mo_bd (mo_gi (by decide)) (fun x3 => mo_if (m_F_X11_together_102 a0 ih3 h_ih3 x_1 x_2 x_3 x_4) (mo_bd (mo_ga (by decide)) (fun r5 => mo_bd mo_lb (fun x6 => mo_if (m_F_X11_together_102 a0 ih3 h_ih3 x_1 x_2 x_3 x_4) (mo_bd (mo_ga (by decide)) (fun r8 => mo_bd mo_lb (fun x9 => mo_if (m_F_X11_together_96 a0 ih3 h_ih3 ih15 h_ih15 x_1 x_2 x_3 x_4 x_5) (mo_bd (mo_ga (by decide)) (fun r11 => mo_bd mo_li (fun x12 => mo_bd (mo_ga (by decide)) (fun r13 => mo_bd mo_li (fun x14 => mo_if (m_F_X11_together_96 a0 ih3 h_ih3 ih15 h_ih15 x_1 x_2 x_3 x_4 x_5) (mo_bd (mo_ga (by decide)) (fun r16 => mo_bd (mo_ga (by decide)) (fun r17 => mo_bd (mo_ga (by decide)) (fun r18 => mo_bd mo_li (fun x19 => mo_bd (mo_ga (by decide)) (fun r20 => mo_bd mo_li (fun x21 => mo_bd mo_li (fun x22 => mo_bd mo_sb (fun _ => m_F_X11_together_96 a0 ih3 h_ih3 ih15 h_ih15 x_1 x_2 x_3 x_4 x_5)))))))))))))))))))))
theorem m_F_X11_together_15 (a0 : Nat) (ih3 : Int32 → Int32 → Int32 → Int32 → zMn Unit) (h_ih3 : ∀ (y0 : Int32) (y1 : Int32) (y2 : Int32) (y3 : Int32), z_Mo (ih3 y0 y1 y2 y3)) : ∀ (n : Nat) (s : Int32 × Int32 × Int32 × Int32 × Int32), z_Mo (F_X11_together_15 a0 ih3 n s) :=
  mo_fix (fun ih hih s => m_B_X11_together_15 a0 ih3 h_ih3 (fun y0 y1 y2 y3 y4 => ih (y0, y1, y2, y3, y4)) (fun y0 y1 y2 y3 y4 => hih (y0, y1, y2, y3, y4)) s.1 s.2.1 s.2.2.1 s.2.2.2.1 s.2.2.2.2)
theorem m_B_X11_together_3 (a0 : Nat) (ih3 : Int32 → Int32 → Int32 → Int32 → zMn Unit) (h_ih3 : ∀ (y0 : Int32) (y1 : Int32) (y2 : Int32) (y3 : Int32), z_Mo (ih3 y0 y1 y2 y3)) (x_1 : Int32) (x_2 : Int32) (x_3 : Int32) (x_4 : Int32) : z_Mo (B_X11_together_3 a0 ih3 x_1 x_2 x_3 x_4) :=
  mo_bd (mo_gi (by decide)) (fun x1 => mo_if (mo_ret) (m_F_X11_together_15 a0 ih3 h_ih3 z_N (x_1, x_2, x_3, x_4, 0)))
theorem m_F_X11_together_3 (a0 : Nat) : ∀ (n : Nat) (s : Int32 × Int32 × Int32 × Int32), z_Mo (F_X11_together_3 a0 n s) :=
  mo_fix (fun ih hih s => m_B_X11_together_3 a0 (fun y0 y1 y2 y3 => ih (y0, y1, y2, y3)) (fun y0 y1 y2 y3 => hih (y0, y1, y2, y3)) s.1 s.2.1 s.2.2.1 s.2.2.2)
theorem m_F_X11_together (a0 : Nat) (p0 : Int32) (p1 : Int32) (p2 : Int32) : z_Mo (F_X11_together a0 p0 p1 p2) :=
  m_F_X11_together_3 a0 z_N (p0, p1, p2, 0)
theorem m_B_X11_unit_4 (a0 : Nat) (ih4 : Int32 → Int32 → Int32 → zMn Int32) (h_ih4 : ∀ (y0 : Int32) (y1 : Int32) (y2 : Int32), z_Mo (ih4 y0 y1 y2)) (x_1 : Int32) (x_2 : Int32) (x_3 : Int32) : z_Mo (B_X11_unit_4 a0 ih4 x_1 x_2 x_3) :=
  mo_bd (mo_ga (by decide)) (fun r1 => mo_bd mo_li (fun x2 => mo_if (mo_ret) (mo_bd mo_ret (fun x4 => h_ih4 x_1 x4 (x_3 + 1)))))
theorem m_F_X11_unit_4 (a0 : Nat) : ∀ (n : Nat) (s : Int32 × Int32 × Int32), z_Mo (F_X11_unit_4 a0 n s) :=
  mo_fix (fun ih hih s => m_B_X11_unit_4 a0 (fun y0 y1 y2 => ih (y0, y1, y2)) (fun y0 y1 y2 => hih (y0, y1, y2)) s.1 s.2.1 s.2.2)
theorem m_F_X11_unit (a0 : Nat) (p0 : Int32) : z_Mo (F_X11_unit a0 p0) :=
  m_F_X11_unit_4 a0 z_N (p0, 1, 0)
theorem m_F_X11_make_320 (a0 : Nat) (ih4 : Int32 → Int32 → Int32 → zMn Unit) (h_ih4 : ∀ (y0 : Int32) (y1 : Int32) (y2 : Int32), z_Mo (ih4 y0 y1 y2)) (x_1 : Int32) (x_2 : Int32) (x_3 : Int32) : z_Mo (F_X11_make_320 a0 ih4 x_1 x_2 x_3) :=
  h_ih4 x_1 x_2 (x_3 + 1)
theorem m_F_X11_make_306 (a0 : Nat) (ih4 : Int32 → Int32 → Int32 → zMn Unit) (h_ih4 : ∀ (y0 : Int32) (y1 : Int32) (y2 : Int32), z_Mo (ih4 y0 y1 y2)) (x_1 : Int32) (x_2 : Int32) (x_3 : Int32) (t_0 : Option Nat) (s_1 : Int32) (s_2 : Int32) (s_3 : Int32) (s_4 : Int32) : z_Mo (F_X11_make_306 a0 ih4 x_1 x_2 x_3 t_0 s_1 s_2 s_3 s_4) :=
  mo_bd (mo_rc (by decide)) (fun b59 => mo_bd (m_F_X11_repeat b59 s_1 s_2 s_3 s_4) (fun _ => m_F_X11_make_320 a0 ih4 h_ih4 x_1 x_2 x_3))
theorem m_F_X11_make_261 (a0 : Nat) (ih4 : Int32 → Int32 → Int32 → zMn Unit) (h_ih4 : ∀ (y0 : Int32) (y1 : Int32) (y2 : Int32), z_Mo (ih4 y0 y1 y2)) (x_1 : Int32) (x_2 : Int32) (x_3 : Int32) (x_4 : Int32) : z_Mo (F_X11_make_261 a0 ih4 x_1 x_2 x_3 x_4) :=
  mo_bd (mo_ga (by decide)) (fun r46 => mo_bd mo_li (fun x47 => mo_bd (mo_rc (by decide)) (fun b49 => mo_bd (m_F_X11_row b49 x47) (fun x48 => mo_bd (mo_ga (by decide)) (fun r50 => mo_bd mo_li (fun x51 => mo_bd (m_F_X11_least x51) (fun x52 => mo_bd (mo_ga (by decide)) (fun r53 => mo_bd mo_li (fun x54 => mo_if (mo_bd (mo_ga (by decide)) (fun r56 => mo_bd mo_li (fun x57 => mo_bd (m_F_X11_least x57) (fun x58 => m_F_X11_make_306 a0 ih4 h_ih4 x_1 x_2 x_3 ((some a0)) x48 x_4 x52 x58)))) (m_F_X11_make_306 a0 ih4 h_ih4 x_1 x_2 x_3 ((some a0)) x48 x_4 x52 9))))))))))
theorem m_F_X11_make_227 (a0 : Nat) (ih4 : Int32 → Int32 → Int32 → zMn Unit) (h_ih4 : ∀ (y0 : Int32) (y1 : Int32) (y2 : Int32), z_Mo (ih4 y0 y1 y2)) (ih162 : Int32 → Int32 → Int32 → Int32 → Int32 → zMn Unit) (h_ih162 : ∀ (y0 : Int32) (y1 : Int32) (y2 : Int32) (y3 : Int32) (y4 : Int32), z_Mo (ih162 y0 y1 y2 y3 y4)) (x_1 : Int32) (x_2 : Int32) (x_3 : Int32) (x_4 : Int32) (x_5 : Int32) (t_0 : Option Nat) (s_1 : Int32) (s_2 : Int32) : z_Mo (F_X11_make_227 a0 ih4 ih162 x_1 x_2 x_3 x_4 x_5 t_0 s_1 s_2) :=
  mo_bd mo_sb (fun _ => h_ih162 x_1 x_2 x_3 x_4 (x_5 + 1))
theorem m_F_X11_make_222 (a0 : Nat) (ih4 : Int32 → Int32 → Int32 → zMn Unit) (h_ih4 : ∀ (y0 : Int32) (y1 : Int32) (y2 : Int32), z_Mo (ih4 y0 y1 y2)) (ih162 : Int32 → Int32 → Int32 → Int32 → Int32 → zMn Unit) (h_ih162 : ∀ (y0 : Int32) (y1 : Int32) (y2 : Int32) (y3 : Int32) (y4 : Int32), z_Mo (ih162 y0 y1 y2 y3 y4)) (x_1 : Int32) (x_2 : Int32) (x_3 : Int32) (x_4 : Int32) (x_5 : Int32) (t_0 : Option Nat) (s_1 : Int32) : z_Mo (F_X11_make_222 a0 ih4 ih162 x_1 x_2 x_3 x_4 x_5 t_0 s_1) :=
  m_F_X11_make_227 a0 ih4 h_ih4 ih162 h_ih162 x_1 x_2 x_3 x_4 x_5 t_0 s_1 1
theorem m_B_X11_make_162 (a0 : Nat) (ih4 : Int32 → Int32 → Int32 → zMn Unit) (h_ih4 : ∀ (y0 : Int32) (y1 : Int32) (y2 : Int32), z_Mo (ih4 y0 y1 y2)) (ih162 : Int32 → Int32 → Int32 → Int32 → Int32 → zMn Unit) (h_ih162 : ∀ (y0 : Int32) (y1 : Int32) (y2 : Int32) (y3 : Int32) (y4 : Int32), z_Mo (ih162 y0 y1 y2 y3 y4)) (x_1 : Int32) (x_2 : Int32) (x_3 : Int32) (x_4 : Int32) (x_5 : Int32) : z_Mo (B_X11_make_162 a0 ih4 ih162 x_1 x_2 x_3 x_4 x_5) :=
  mo_bd (mo_gi (by decide)) (fun x60 => mo_if (m_F_X11_make_320 a0 ih4 h_ih4 x_1 x_2 x_3) (mo_bd (mo_ga (by decide)) (fun r62 => mo_bd (mo_ga (by decide)) (fun r63 => mo_bd (mo_ga (by decide)) (fun r64 => mo_bd mo_li (fun x65 => mo_bd (mo_rc (by decide)) (fun b67 => mo_bd (m_F_X11_row b67 x65) (fun x66 => mo_bd mo_lb (fun x68 => mo_if (mo_bd (mo_ga (by decide)) (fun r70 => mo_bd (mo_ga (by decide)) (fun r71 => mo_bd mo_li (fun x72 => mo_bd (mo_rc (by decide)) (fun b74 => mo_bd (m_F_X11_row b74 x72) (fun x73 => mo_bd mo_lb (fun x75 => mo_if (m_F_X11_make_227 a0 ih4 h_ih4 ih162 h_ih162 x_1 x_2 x_3 x_4 x_5 r62 (x_4 + x_5) 0) (m_F_X11_make_222 a0 ih4 h_ih4 ih162 h_ih162 x_1 x_2 x_3 x_4 x_5 r62 (x_4 + x_5))))))))) (m_F_X11_make_222 a0 ih4 h_ih4 ih162 h_ih162 x_1 x_2 x_3 x_4 x_5 r62 (x_4 + x_5)))))))))))
theorem m_F_X11_make_162 (a0 : Nat) (ih4 : Int32 → Int32 → Int32 → zMn Unit) (h_ih4 : ∀ (y0 : Int32) (y1 : Int32) (y2 : Int32), z_Mo (ih4 y0 y1 y2)) : ∀ (n : Nat) (s : Int32 × Int32 × Int32 × Int32 × Int32), z_Mo (F_X11_make_162 a0 ih4 n s) :=
  mo_fix (fun ih hih s => m_B_X11_make_162 a0 ih4 h_ih4 (fun y0 y1 y2 y3 y4 => ih (y0, y1, y2, y3, y4)) (fun y0 y1 y2 y3 y4 => hih (y0, y1, y2, y3, y4)) s.1 s.2.1 s.2.2.1 s.2.2.2.1 s.2.2.2.2)
theorem m_B_X11_make_41 (a0 : Nat) (ih4 : Int32 → Int32 → Int32 → zMn Unit) (h_ih4 : ∀ (y0 : Int32) (y1 : Int32) (y2 : Int32), z_Mo (ih4 y0 y1 y2)) (ih41 : Int32 → Int32 → Int32 → Int32 → Int32 → zMn Unit) (h_ih41 : ∀ (y0 : Int32) (y1 : Int32) (y2 : Int32) (y3 : Int32) (y4 : Int32), z_Mo (ih41 y0 y1 y2 y3 y4)) (x_1 : Int32) (x_2 : Int32) (x_3 : Int32) (x_4 : Int32) (x_5 : Int32) : z_Mo (B_X11_make_41 a0 ih4 ih41 x_1 x_2 x_3 x_4 x_5) :=
  mo_bd (mo_gi (by decide)) (fun x8 => mo_if (mo_bd (mo_ga (by decide)) (fun r10 => mo_bd mo_li (fun x11 => mo_if (mo_bd (mo_ga (by decide)) (fun r13 => mo_bd (mo_ga (by decide)) (fun r14 => mo_bd (mo_rc (by decide)) (fun b16 => mo_bd (m_F_X11_unit b16 x_3) (fun x15 => mo_bd mo_li (fun x17 => mo_bd mo_sb (fun _ => m_F_X11_make_320 a0 ih4 h_ih4 x_1 x_2 x_3))))))) (mo_if (mo_bd (mo_ga (by decide)) (fun r19 => mo_bd (mo_ga (by decide)) (fun r20 => mo_bd (mo_rc (by decide)) (fun b22 => mo_bd (m_F_X11_unit b22 x_3) (fun x21 => mo_bd mo_li (fun x23 => mo_bd mo_sb (fun _ => m_F_X11_make_320 a0 ih4 h_ih4 x_1 x_2 x_3))))))) (mo_if (mo_bd (mo_ga (by decide)) (fun r25 => mo_bd mo_li (fun x26 => mo_bd (mo_rc (by decide)) (fun b28 => mo_bd (m_F_X11_row b28 x26) (fun x27 => mo_bd (mo_ga (by decide)) (fun r29 => mo_bd mo_li (fun x30 => mo_bd (mo_rc (by decide)) (fun b32 => mo_bd (m_F_X11_row b32 x30) (fun x31 => mo_bd (mo_rc (by decide)) (fun b33 => mo_bd (m_F_X11_together b33 x27 x31 x_4) (fun _ => m_F_X11_make_320 a0 ih4 h_ih4 x_1 x_2 x_3))))))))))) (mo_if (m_F_X11_make_162 a0 ih4 h_ih4 z_N (x_1, x_2, x_3, x_4, 0)) (mo_if (mo_bd (mo_ga (by decide)) (fun r36 => mo_bd mo_li (fun x37 => mo_if (m_F_X11_make_261 a0 ih4 h_ih4 x_1 x_2 x_3 x_4) (mo_bd (mo_ga (by decide)) (fun r39 => mo_bd mo_li (fun x40 => mo_bd (mo_ga (by decide)) (fun r41 => mo_bd mo_li (fun x42 => mo_if (m_F_X11_make_320 a0 ih4 h_ih4 x_1 x_2 x_3) (m_F_X11_make_261 a0 ih4 h_ih4 x_1 x_2 x_3 x_4))))))))) (mo_bd (mo_ga (by decide)) (fun r44 => mo_bd mo_sb (fun _ => m_F_X11_make_320 a0 ih4 h_ih4 x_1 x_2 x_3)))))))))) (mo_bd (mo_ga (by decide)) (fun r45 => mo_bd mo_sb (fun _ => h_ih41 x_1 x_2 x_3 x_4 (x_5 + 1)))))
theorem m_F_X11_make_41 (a0 : Nat) (ih4 : Int32 → Int32 → Int32 → zMn Unit) (h_ih4 : ∀ (y0 : Int32) (y1 : Int32) (y2 : Int32), z_Mo (ih4 y0 y1 y2)) : ∀ (n : Nat) (s : Int32 × Int32 × Int32 × Int32 × Int32), z_Mo (F_X11_make_41 a0 ih4 n s) :=
  mo_fix (fun ih hih s => m_B_X11_make_41 a0 ih4 h_ih4 (fun y0 y1 y2 y3 y4 => ih (y0, y1, y2, y3, y4)) (fun y0 y1 y2 y3 y4 => hih (y0, y1, y2, y3, y4)) s.1 s.2.1 s.2.2.1 s.2.2.2.1 s.2.2.2.2)
theorem m_B_X11_make_4 (a0 : Nat) (ih4 : Int32 → Int32 → Int32 → zMn Unit) (h_ih4 : ∀ (y0 : Int32) (y1 : Int32) (y2 : Int32), z_Mo (ih4 y0 y1 y2)) (x_1 : Int32) (x_2 : Int32) (x_3 : Int32) : z_Mo (B_X11_make_4 a0 ih4 x_1 x_2 x_3) :=
  mo_if (mo_ret) (mo_bd (mo_ga (by decide)) (fun r2 => mo_bd mo_lb (fun x3 => mo_if (m_F_X11_make_320 a0 ih4 h_ih4 x_1 x_2 x_3) (mo_bd (mo_ga (by decide)) (fun r5 => mo_bd mo_si (fun _ => mo_bd (mo_rc (by decide)) (fun b7 => mo_bd (m_F_X11_row b7 x_3) (fun x6 => m_F_X11_make_41 a0 ih4 h_ih4 z_N (x_1, x_2 + 1, x_3, x6, 0)))))))))
theorem m_F_X11_make_4 (a0 : Nat) : ∀ (n : Nat) (s : Int32 × Int32 × Int32), z_Mo (F_X11_make_4 a0 n s) :=
  mo_fix (fun ih hih s => m_B_X11_make_4 a0 (fun y0 y1 y2 => ih (y0, y1, y2)) (fun y0 y1 y2 => hih (y0, y1, y2)) s.1 s.2.1 s.2.2)
theorem m_F_X11_make (a0 : Nat) (p0 : Int32) : z_Mo (F_X11_make a0 p0) :=
  m_F_X11_make_4 a0 z_N (p0, 0, 0)
theorem m_B_X11_root_7 (a0 : Nat) (ih7 : Int32 → Int32 → zMn Unit) (h_ih7 : ∀ (y0 : Int32) (y1 : Int32), z_Mo (ih7 y0 y1)) (x_1 : Int32) (x_2 : Int32) : z_Mo (B_X11_root_7 a0 ih7 x_1 x_2) :=
  mo_bd (mo_gi (by decide)) (fun x2 => mo_if (mo_bd (mo_ga (by decide)) (fun r4 => mo_bd mo_sb (fun _ => mo_ret))) (mo_bd (mo_ga (by decide)) (fun r5 => mo_bd (mo_ga (by decide)) (fun r6 => mo_bd (mo_rc (by decide)) (fun b8 => mo_bd (m_F_X11_row b8 x_1) (fun x7 => mo_bd mo_lb (fun x9 => mo_bd mo_sb (fun _ => h_ih7 x_1 (x_2 + 1)))))))))
theorem m_F_X11_root_7 (a0 : Nat) : ∀ (n : Nat) (s : Int32 × Int32), z_Mo (F_X11_root_7 a0 n s) :=
  mo_fix (fun ih hih s => m_B_X11_root_7 a0 (fun y0 y1 => ih (y0, y1)) (fun y0 y1 => hih (y0, y1)) s.1 s.2)
theorem m_F_X11_root (a0 : Nat) (p0 : Int32) : z_Mo (F_X11_root a0 p0) :=
  mo_bd (mo_rc (by decide)) (fun b1 => mo_bd (m_F_X11_make b1 p0) (fun _ => m_F_X11_root_7 a0 z_N (p0, 0)))
theorem m_F_X11_weigh_191 (a0 : Nat) (ih149 : Int32 → Int64 → Int32 → zMn Int64) (h_ih149 : ∀ (y0 : Int32) (y1 : Int64) (y2 : Int32), z_Mo (ih149 y0 y1 y2)) (x_2 : Int32) (x_5 : Int32) (u_0 : Int64) (u_1 : Int64) : z_Mo (F_X11_weigh_191 a0 ih149 x_2 x_5 u_0 u_1) :=
  mo_bd mo_ret (fun w36 => h_ih149 x_2 w36 (x_5 + 1))
theorem m_B_X11_weigh_149 (a0 : Nat) (ih149 : Int32 → Int64 → Int32 → zMn Int64) (h_ih149 : ∀ (y0 : Int32) (y1 : Int64) (y2 : Int32), z_Mo (ih149 y0 y1 y2)) (x_2 : Int32) (w_3 : Int64) (x_5 : Int32) : z_Mo (B_X11_weigh_149 a0 ih149 x_2 w_3 x_5) :=
  mo_bd (mo_gi (by decide)) (fun x27 => mo_if (mo_ret) (mo_bd (mo_ga (by decide)) (fun r29 => mo_bd (mo_ga (by decide)) (fun r30 => mo_bd mo_li (fun x31 => mo_bd mo_lb (fun x32 => mo_if (m_F_X11_weigh_191 a0 ih149 h_ih149 x_2 x_5 w_3 0) (mo_bd (mo_ga (by decide)) (fun r34 => mo_bd mo_ll (fun w35 => m_F_X11_weigh_191 a0 ih149 h_ih149 x_2 x_5 w_3 w35)))))))))
theorem m_F_X11_weigh_149 (a0 : Nat) : ∀ (n : Nat) (s : Int32 × Int64 × Int32), z_Mo (F_X11_weigh_149 a0 n s) :=
  mo_fix (fun ih hih s => m_B_X11_weigh_149 a0 (fun y0 y1 y2 => ih (y0, y1, y2)) (fun y0 y1 y2 => hih (y0, y1, y2)) s.1 s.2.1 s.2.2)
theorem m_F_X11_weigh_138 (a0 : Nat) (ih67 : Int32 → Int32 → Int32 → zMn Int64) (h_ih67 : ∀ (y0 : Int32) (y1 : Int32) (y2 : Int32), z_Mo (ih67 y0 y1 y2)) (x_1 : Int32) (x_2 : Int32) (x_3 : Int32) : z_Mo (F_X11_weigh_138 a0 ih67 x_1 x_2 x_3) :=
  h_ih67 x_1 x_2 (x_3 + 1)
theorem m_F_X11_weigh_109 (a0 : Nat) (ih67 : Int32 → Int32 → Int32 → zMn Int64) (h_ih67 : ∀ (y0 : Int32) (y1 : Int32) (y2 : Int32), z_Mo (ih67 y0 y1 y2)) (x_1 : Int32) (x_2 : Int32) (x_3 : Int32) (x_4 : Int32) (t_0 : Option Nat) (s_1 : Int32) (s_2 : Int32) : z_Mo (F_X11_weigh_109 a0 ih67 x_1 x_2 x_3 x_4 t_0 s_1 s_2) :=
  mo_bd mo_li (fun x21 => mo_if (mo_bd (mo_rc (by decide)) (fun b24 => mo_bd (m_F_X11_concerns b24 x_2 (x_3 / 2) x_4) (fun x23 => mo_if (m_F_X11_weigh_138 a0 ih67 h_ih67 x_1 x_2 x_3) (mo_bd (mo_rc (by decide)) (fun b26 => mo_bd (m_F_X11_giveOut b26 x_2 (x_3 / 2) x_4) (fun _ => m_F_X11_weigh_138 a0 ih67 h_ih67 x_1 x_2 x_3)))))) (m_F_X11_weigh_138 a0 ih67 h_ih67 x_1 x_2 x_3))
theorem m_F_X11_weigh_88 (a0 : Nat) (ih67 : Int32 → Int32 → Int32 → zMn Int64) (h_ih67 : ∀ (y0 : Int32) (y1 : Int32) (y2 : Int32), z_Mo (ih67 y0 y1 y2)) (x_1 : Int32) (x_2 : Int32) (x_3 : Int32) (s_0 : Int32) : z_Mo (F_X11_weigh_88 a0 ih67 x_1 x_2 x_3 s_0) :=
  mo_bd (mo_ga (by decide)) (fun r19 => mo_if (m_F_X11_weigh_109 a0 ih67 h_ih67 x_1 x_2 x_3 s_0 r19 (3 * (x_3 / 2)) 2) (m_F_X11_weigh_109 a0 ih67 h_ih67 x_1 x_2 x_3 s_0 r19 (3 * (x_3 / 2)) 0))
theorem m_B_X11_weigh_67 (a0 : Nat) (ih67 : Int32 → Int32 → Int32 → zMn Int64) (h_ih67 : ∀ (y0 : Int32) (y1 : Int32) (y2 : Int32), z_Mo (ih67 y0 y1 y2)) (x_1 : Int32) (x_2 : Int32) (x_3 : Int32) : z_Mo (B_X11_weigh_67 a0 ih67 x_1 x_2 x_3) :=
  mo_bd (mo_gi (by decide)) (fun x16 => mo_if (m_F_X11_weigh_149 a0 z_N (x_2, 0, 0)) (mo_if (m_F_X11_weigh_88 a0 ih67 h_ih67 x_1 x_2 x_3 1) (m_F_X11_weigh_88 a0 ih67 h_ih67 x_1 x_2 x_3 0)))
theorem m_F_X11_weigh_67 (a0 : Nat) : ∀ (n : Nat) (s : Int32 × Int32 × Int32), z_Mo (F_X11_weigh_67 a0 n s) :=
  mo_fix (fun ih hih s => m_B_X11_weigh_67 a0 (fun y0 y1 y2 => ih (y0, y1, y2)) (fun y0 y1 y2 => hih (y0, y1, y2)) s.1 s.2.1 s.2.2)
theorem m_F_X11_weigh_58 (a0 : Nat) (ih36 : Int32 → Int32 → Int32 → zMn Int64) (h_ih36 : ∀ (y0 : Int32) (y1 : Int32) (y2 : Int32), z_Mo (ih36 y0 y1 y2)) (x_1 : Int32) (x_2 : Int32) (x_3 : Int32) (t_0 : Option Nat) (s_1 : Int32) (u_2 : Int64) : z_Mo (F_X11_weigh_58 a0 ih36 x_1 x_2 x_3 t_0 s_1 u_2) :=
  mo_bd mo_slo (fun _ => h_ih36 x_1 x_2 (x_3 + 1))
theorem m_B_X11_weigh_36 (a0 : Nat) (ih36 : Int32 → Int32 → Int32 → zMn Int64) (h_ih36 : ∀ (y0 : Int32) (y1 : Int32) (y2 : Int32), z_Mo (ih36 y0 y1 y2)) (x_1 : Int32) (x_2 : Int32) (x_3 : Int32) : z_Mo (B_X11_weigh_36 a0 ih36 x_1 x_2 x_3) :=
  mo_bd (mo_gi (by decide)) (fun x12 => mo_if (m_F_X11_weigh_67 a0 z_N (x_1, x_2, 0)) (mo_bd (mo_ga (by decide)) (fun r14 => mo_if (m_F_X11_weigh_58 a0 ih36 h_ih36 x_1 x_2 x_3 r14 x_3 1) (m_F_X11_weigh_58 a0 ih36 h_ih36 x_1 x_2 x_3 r14 x_3 0))))
theorem m_F_X11_weigh_36 (a0 : Nat) : ∀ (n : Nat) (s : Int32 × Int32 × Int32), z_Mo (F_X11_weigh_36 a0 n s) :=
  mo_fix (fun ih hih s => m_B_X11_weigh_36 a0 (fun y0 y1 y2 => ih (y0, y1, y2)) (fun y0 y1 y2 => hih (y0, y1, y2)) s.1 s.2.1 s.2.2)
theorem m_F_X11_weigh_34 (a0 : Nat) (x_1 : Int32) (x_2 : Int32) : z_Mo (F_X11_weigh_34 a0 x_1 x_2) :=
  m_F_X11_weigh_36 a0 z_N (x_1, x_2, 0)
theorem m_F_X11_weigh (a0 : Nat) (p0 : Int32) (p1 : Int32) : z_Mo (F_X11_weigh a0 p0 p1) :=
  mo_bd (mo_ga (by decide)) (fun r1 => mo_bd mo_li (fun x2 => mo_bd (mo_rc (by decide)) (fun b3 => mo_bd (m_F_X11_findPlaces b3 x2) (fun _ => mo_bd (mo_ga (by decide)) (fun r4 => mo_bd (mo_ga (by decide)) (fun r5 => mo_bd mo_li (fun x6 => mo_bd mo_lb (fun x7 => mo_if (mo_bd (mo_ga (by decide)) (fun r9 => mo_bd mo_li (fun x10 => mo_bd (mo_rc (by decide)) (fun b11 => mo_bd (m_F_X11_root b11 x10) (fun _ => m_F_X11_weigh_34 a0 p0 p1))))) (m_F_X11_weigh_34 a0 p0 p1)))))))))
theorem m_F_X11_holds_176 (a0 : Nat) (s_0 : Int32) : z_Mo (F_X11_holds_176 a0 s_0) :=
  mo_rb
theorem m_F_X11_holds_161 (a0 : Nat) (s_0 : Int32) : z_Mo (F_X11_holds_161 a0 s_0) :=
  mo_rb
theorem m_F_X11_holds_142 (a0 : Nat) (s_0 : Int32) : z_Mo (F_X11_holds_142 a0 s_0) :=
  mo_rb
theorem m_F_X11_holds_137 (a0 : Nat) : z_Mo (F_X11_holds_137 a0) :=
  m_F_X11_holds_142 a0 1
theorem m_F_X11_holds_103 (a0 : Nat) (s_0 : Int32) : z_Mo (F_X11_holds_103 a0 s_0) :=
  mo_rb
theorem m_F_X11_holds_102 (a0 : Nat) : z_Mo (F_X11_holds_102 a0) :=
  m_F_X11_holds_103 a0 0
theorem m_F_X11_holds_64 (a0 : Nat) (s_0 : Int32) : z_Mo (F_X11_holds_64 a0 s_0) :=
  mo_rb
theorem m_F_X11_holds (a0 : Nat) (p0 : Int32) (p1 : Int32) : z_Mo (F_X11_holds a0 p0 p1) :=
  mo_bd (mo_ga (by decide)) (fun r1 => mo_bd mo_li (fun x2 => mo_bd (mo_ga (by decide)) (fun r3 => mo_bd mo_li (fun x4 => mo_if (mo_bd (mo_rc (by decide)) (fun b7 => mo_bd (m_F_X11_weigh b7 p0 p1) (fun w6 => mo_if (m_F_X11_holds_64 a0 0) (m_F_X11_holds_64 a0 1)))) (mo_if (mo_bd (mo_ga (by decide)) (fun r10 => mo_bd mo_li (fun x11 => mo_if (mo_bd (mo_ga (by decide)) (fun r13 => mo_bd (mo_ga (by decide)) (fun r14 => mo_bd mo_li (fun x15 => mo_bd mo_li (fun x16 => mo_if (m_F_X11_holds_103 a0 1) (m_F_X11_holds_102 a0)))))) (m_F_X11_holds_102 a0)))) (mo_if (mo_bd (mo_ga (by decide)) (fun r19 => mo_bd mo_li (fun x20 => mo_if (m_F_X11_holds_137 a0) (mo_bd (mo_ga (by decide)) (fun r22 => mo_bd (mo_ga (by decide)) (fun r23 => mo_bd mo_li (fun x24 => mo_bd mo_li (fun x25 => mo_if (m_F_X11_holds_137 a0) (m_F_X11_holds_142 a0 0))))))))) (mo_if (mo_bd (mo_ga (by decide)) (fun r28 => mo_bd mo_li (fun x29 => mo_if (m_F_X11_holds_161 a0 1) (m_F_X11_holds_161 a0 0)))) (mo_if (mo_if (m_F_X11_holds_176 a0 1) (m_F_X11_holds_176 a0 0)) (mo_rb)))))))))
theorem m_F_X11_lose_81 (a0 : Nat) (ih4 : Int32 → Int32 → Int32 → zMn Int32) (h_ih4 : ∀ (y0 : Int32) (y1 : Int32) (y2 : Int32), z_Mo (ih4 y0 y1 y2)) (x_1 : Int32) (x_2 : Int32) (x_3 : Int32) : z_Mo (F_X11_lose_81 a0 ih4 x_1 x_2 x_3) :=
  h_ih4 x_1 x_2 (x_3 + 1)
theorem m_F_X11_lose_75 (a0 : Nat) (ih4 : Int32 → Int32 → Int32 → zMn Int32) (h_ih4 : ∀ (y0 : Int32) (y1 : Int32) (y2 : Int32), z_Mo (ih4 y0 y1 y2)) (ih24 : Int32 → Int32 → Int32 → Int32 → zMn Int32) (h_ih24 : ∀ (y0 : Int32) (y1 : Int32) (y2 : Int32) (y3 : Int32), z_Mo (ih24 y0 y1 y2 y3)) (x_1 : Int32) (x_2 : Int32) (x_3 : Int32) (x_4 : Int32) : z_Mo (F_X11_lose_75 a0 ih4 ih24 x_1 x_2 x_3 x_4) :=
  h_ih24 x_1 x_2 x_3 (x_4 + 1)
theorem m_B_X11_lose_24 (a0 : Nat) (ih4 : Int32 → Int32 → Int32 → zMn Int32) (h_ih4 : ∀ (y0 : Int32) (y1 : Int32) (y2 : Int32), z_Mo (ih4 y0 y1 y2)) (ih24 : Int32 → Int32 → Int32 → Int32 → zMn Int32) (h_ih24 : ∀ (y0 : Int32) (y1 : Int32) (y2 : Int32) (y3 : Int32), z_Mo (ih24 y0 y1 y2 y3)) (x_1 : Int32) (x_2 : Int32) (x_3 : Int32) (x_4 : Int32) : z_Mo (B_X11_lose_24 a0 ih4 ih24 x_1 x_2 x_3 x_4) :=
  mo_if (m_F_X11_lose_81 a0 ih4 h_ih4 x_1 x_2 x_3) (mo_bd (mo_ga (by decide)) (fun r4 => mo_bd mo_li (fun x5 => mo_if (m_F_X11_lose_75 a0 ih4 h_ih4 ih24 h_ih24 x_1 x_2 x_3 x_4) (mo_bd (mo_rc (by decide)) (fun b8 => mo_bd (m_F_X11_holds b8 x_4 x_3) (fun x7 => mo_if (mo_bd (mo_ga (by decide)) (fun r10 => mo_bd mo_li (fun x11 => mo_bd mo_si (fun _ => m_F_X11_lose_75 a0 ih4 h_ih4 ih24 h_ih24 x_1 1 x_3 x_4)))) (m_F_X11_lose_75 a0 ih4 h_ih4 ih24 h_ih24 x_1 x_2 x_3 x_4)))))))
theorem m_F_X11_lose_24 (a0 : Nat) (ih4 : Int32 → Int32 → Int32 → zMn Int32) (h_ih4 : ∀ (y0 : Int32) (y1 : Int32) (y2 : Int32), z_Mo (ih4 y0 y1 y2)) : ∀ (n : Nat) (s : Int32 × Int32 × Int32 × Int32), z_Mo (F_X11_lose_24 a0 ih4 n s) :=
  mo_fix (fun ih hih s => m_B_X11_lose_24 a0 ih4 h_ih4 (fun y0 y1 y2 y3 => ih (y0, y1, y2, y3)) (fun y0 y1 y2 y3 => hih (y0, y1, y2, y3)) s.1 s.2.1 s.2.2.1 s.2.2.2)
theorem m_B_X11_lose_4 (a0 : Nat) (ih4 : Int32 → Int32 → Int32 → zMn Int32) (h_ih4 : ∀ (y0 : Int32) (y1 : Int32) (y2 : Int32), z_Mo (ih4 y0 y1 y2)) (x_1 : Int32) (x_2 : Int32) (x_3 : Int32) : z_Mo (B_X11_lose_4 a0 ih4 x_1 x_2 x_3) :=
  mo_if (mo_rb) (mo_if (m_F_X11_lose_81 a0 ih4 h_ih4 x_1 x_2 x_3) (m_F_X11_lose_24 a0 ih4 h_ih4 z_N (x_1, x_2, x_3, 0)))
theorem m_F_X11_lose_4 (a0 : Nat) : ∀ (n : Nat) (s : Int32 × Int32 × Int32), z_Mo (F_X11_lose_4 a0 n s) :=
  mo_fix (fun ih hih s => m_B_X11_lose_4 a0 (fun y0 y1 y2 => ih (y0, y1, y2)) (fun y0 y1 y2 => hih (y0, y1, y2)) s.1 s.2.1 s.2.2)
theorem m_F_X11_lose (a0 : Nat) (p0 : Int32) : z_Mo (F_X11_lose a0 p0) :=
  m_F_X11_lose_4 a0 z_N (p0, 0, 0)
theorem m_B_X11_reckon_149 (a0 : Nat) (ih27 : Int32 → zMn Unit) (h_ih27 : ∀ (y0 : Int32), z_Mo (ih27 y0)) (ih149 : Int32 → Int32 → Int32 → zMn Unit) (h_ih149 : ∀ (y0 : Int32) (y1 : Int32) (y2 : Int32), z_Mo (ih149 y0 y1 y2)) (x_1 : Int32) (x_3 : Int32) (x_4 : Int32) : z_Mo (B_X11_reckon_149 a0 ih27 ih149 x_1 x_3 x_4) :=
  mo_if (mo_bd mo_ret (fun x25 => h_ih27 x25)) (mo_bd (mo_rc (by decide)) (fun b27 => mo_bd (m_F_X11_lose b27 x_3) (fun x26 => h_ih149 x_1 x_3 x26)))
theorem m_F_X11_reckon_149 (a0 : Nat) (ih27 : Int32 → zMn Unit) (h_ih27 : ∀ (y0 : Int32), z_Mo (ih27 y0)) : ∀ (n : Nat) (s : Int32 × Int32 × Int32), z_Mo (F_X11_reckon_149 a0 ih27 n s) :=
  mo_fix (fun ih hih s => m_B_X11_reckon_149 a0 ih27 h_ih27 (fun y0 y1 y2 => ih (y0, y1, y2)) (fun y0 y1 y2 => hih (y0, y1, y2)) s.1 s.2.1 s.2.2)
theorem m_F_X11_reckon_139 (a0 : Nat) (ih27 : Int32 → zMn Unit) (h_ih27 : ∀ (y0 : Int32), z_Mo (ih27 y0)) (ih104 : Int32 → Int32 → Int32 → zMn Unit) (h_ih104 : ∀ (y0 : Int32) (y1 : Int32) (y2 : Int32), z_Mo (ih104 y0 y1 y2)) (x_1 : Int32) (x_3 : Int32) (x_4 : Int32) (t_0 : Option Nat) (s_1 : Int32) (s_2 : Int32) : z_Mo (F_X11_reckon_139 a0 ih27 ih104 x_1 x_3 x_4 t_0 s_1 s_2) :=
  mo_bd mo_si (fun _ => h_ih104 x_1 x_3 (x_4 + 1))
theorem m_B_X11_reckon_104 (a0 : Nat) (ih27 : Int32 → zMn Unit) (h_ih27 : ∀ (y0 : Int32), z_Mo (ih27 y0)) (ih104 : Int32 → Int32 → Int32 → zMn Unit) (h_ih104 : ∀ (y0 : Int32) (y1 : Int32) (y2 : Int32), z_Mo (ih104 y0 y1 y2)) (x_1 : Int32) (x_3 : Int32) (x_4 : Int32) : z_Mo (B_X11_reckon_104 a0 ih27 ih104 x_1 x_3 x_4) :=
  mo_if (m_F_X11_reckon_149 a0 ih27 h_ih27 z_N (x_1, x_3, 1)) (mo_bd (mo_ga (by decide)) (fun r20 => mo_if (m_F_X11_reckon_139 a0 ih27 h_ih27 ih104 h_ih104 x_1 x_3 x_4 r20 x_4 65535) (mo_bd (mo_ga (by decide)) (fun r22 => mo_bd mo_li (fun x23 => m_F_X11_reckon_139 a0 ih27 h_ih27 ih104 h_ih104 x_1 x_3 x_4 r20 x_4 x23)))))
theorem m_F_X11_reckon_104 (a0 : Nat) (ih27 : Int32 → zMn Unit) (h_ih27 : ∀ (y0 : Int32), z_Mo (ih27 y0)) : ∀ (n : Nat) (s : Int32 × Int32 × Int32), z_Mo (F_X11_reckon_104 a0 ih27 n s) :=
  mo_fix (fun ih hih s => m_B_X11_reckon_104 a0 ih27 h_ih27 (fun y0 y1 y2 => ih (y0, y1, y2)) (fun y0 y1 y2 => hih (y0, y1, y2)) s.1 s.2.1 s.2.2)
theorem m_F_X11_reckon_93 (a0 : Nat) (ih27 : Int32 → zMn Unit) (h_ih27 : ∀ (y0 : Int32), z_Mo (ih27 y0)) (ih57 : Int32 → Int32 → Int32 → Int32 → zMn Unit) (h_ih57 : ∀ (y0 : Int32) (y1 : Int32) (y2 : Int32) (y3 : Int32), z_Mo (ih57 y0 y1 y2 y3)) (x_1 : Int32) (x_2 : Int32) (x_4 : Int32) (s_0 : Int32) (s_1 : Int32) : z_Mo (F_X11_reckon_93 a0 ih27 ih57 x_1 x_2 x_4 s_0 s_1) :=
  mo_bd mo_ret (fun x18 => h_ih57 x_1 x_2 x18 (x_4 + 1))
theorem m_F_X11_reckon_92 (a0 : Nat) (ih27 : Int32 → zMn Unit) (h_ih27 : ∀ (y0 : Int32), z_Mo (ih27 y0)) (ih57 : Int32 → Int32 → Int32 → Int32 → zMn Unit) (h_ih57 : ∀ (y0 : Int32) (y1 : Int32) (y2 : Int32) (y3 : Int32), z_Mo (ih57 y0 y1 y2 y3)) (x_1 : Int32) (x_2 : Int32) (x_4 : Int32) (s_0 : Int32) : z_Mo (F_X11_reckon_92 a0 ih27 ih57 x_1 x_2 x_4 s_0) :=
  m_F_X11_reckon_93 a0 ih27 h_ih27 ih57 h_ih57 x_1 x_2 x_4 s_0 0
theorem m_B_X11_reckon_57 (a0 : Nat) (ih27 : Int32 → zMn Unit) (h_ih27 : ∀ (y0 : Int32), z_Mo (ih27 y0)) (ih57 : Int32 → Int32 → Int32 → Int32 → zMn Unit) (h_ih57 : ∀ (y0 : Int32) (y1 : Int32) (y2 : Int32) (y3 : Int32), z_Mo (ih57 y0 y1 y2 y3)) (x_1 : Int32) (x_2 : Int32) (x_3 : Int32) (x_4 : Int32) : z_Mo (B_X11_reckon_57 a0 ih27 ih57 x_1 x_2 x_3 x_4) :=
  mo_if (m_F_X11_reckon_104 a0 ih27 h_ih27 z_N (x_1, x_3, 0)) (mo_bd (mo_rc (by decide)) (fun b13 => mo_bd (m_F_X11_comesTo b13 x_2 x_4) (fun x12 => mo_if (m_F_X11_reckon_92 a0 ih27 h_ih27 ih57 h_ih57 x_1 x_2 x_4 x_3) (mo_bd (mo_rc (by decide)) (fun b16 => mo_bd (m_F_X11_comesTo b16 x_4 x_2) (fun x15 => mo_if (m_F_X11_reckon_92 a0 ih27 h_ih27 ih57 h_ih57 x_1 x_2 x_4 x_3) (m_F_X11_reckon_93 a0 ih27 h_ih27 ih57 h_ih57 x_1 x_2 x_4 x_3 ((1 : Int32) <<< (x_4 &&& 31)))))))))
theorem m_F_X11_reckon_57 (a0 : Nat) (ih27 : Int32 → zMn Unit) (h_ih27 : ∀ (y0 : Int32), z_Mo (ih27 y0)) : ∀ (n : Nat) (s : Int32 × Int32 × Int32 × Int32), z_Mo (F_X11_reckon_57 a0 ih27 n s) :=
  mo_fix (fun ih hih s => m_B_X11_reckon_57 a0 ih27 h_ih27 (fun y0 y1 y2 y3 => ih (y0, y1, y2, y3)) (fun y0 y1 y2 y3 => hih (y0, y1, y2, y3)) s.1 s.2.1 s.2.2.1 s.2.2.2)
theorem m_B_X11_reckon_35 (a0 : Nat) (ih27 : Int32 → zMn Unit) (h_ih27 : ∀ (y0 : Int32), z_Mo (ih27 y0)) (ih35 : Int32 → Int32 → zMn Unit) (h_ih35 : ∀ (y0 : Int32) (y1 : Int32), z_Mo (ih35 y0 y1)) (x_1 : Int32) (x_2 : Int32) : z_Mo (B_X11_reckon_35 a0 ih27 ih35 x_1 x_2) :=
  mo_bd (mo_rc (by decide)) (fun b8 => mo_bd (m_F_X11_isReady b8 x_2 x_1) (fun x7 => mo_if (h_ih35 x_1 (x_2 + 1)) (mo_bd mo_ret (fun x10 => m_F_X11_reckon_57 a0 ih27 h_ih27 z_N (x_1, x_2, x10, 0)))))
theorem m_F_X11_reckon_35 (a0 : Nat) (ih27 : Int32 → zMn Unit) (h_ih27 : ∀ (y0 : Int32), z_Mo (ih27 y0)) : ∀ (n : Nat) (s : Int32 × Int32), z_Mo (F_X11_reckon_35 a0 ih27 n s) :=
  mo_fix (fun ih hih s => m_B_X11_reckon_35 a0 ih27 h_ih27 (fun y0 y1 => ih (y0, y1)) (fun y0 y1 => hih (y0, y1)) s.1 s.2)
theorem m_B_X11_reckon_27 (a0 : Nat) (ih27 : Int32 → zMn Unit) (h_ih27 : ∀ (y0 : Int32), z_Mo (ih27 y0)) (x_1 : Int32) : z_Mo (B_X11_reckon_27 a0 ih27 x_1) :=
  mo_if (mo_ret) (m_F_X11_reckon_35 a0 ih27 h_ih27 z_N (x_1, 0))
theorem m_F_X11_reckon_27 (a0 : Nat) : ∀ (n : Nat) (s : Int32), z_Mo (F_X11_reckon_27 a0 n s) :=
  mo_fix (fun ih hih s => m_B_X11_reckon_27 a0 (fun y0 => ih (y0)) (fun y0 => hih (y0)) s)
theorem m_F_X11_reckon (a0 : Nat) : z_Mo (F_X11_reckon a0) :=
  mo_bd (mo_gi (by decide)) (fun x1 => mo_if (mo_bd (mo_pf (by decide)) (fun _ => mo_bd (mo_rc (by decide)) (fun b3 => mo_bd (m_F_X11_findRings b3) (fun _ => mo_bd (mo_gi (by decide)) (fun x4 => mo_if (m_F_X11_reckon_27 a0 z_N (0)) (mo_ret)))))) (mo_ret))
theorem m_F_X11_has_47 (a0 : Nat) (s_0 : Int32) : z_Mo (F_X11_has_47 a0 s_0) :=
  mo_ret
theorem m_F_X11_has_19 (a0 : Nat) : z_Mo (F_X11_has_19 a0) :=
  mo_ret
theorem m_F_X11_has (a0 : Nat) (p0 : Int32) (p1 : Int32) : z_Mo (F_X11_has a0 p0 p1) :=
  mo_bd (mo_pf (by decide)) (fun _ => mo_bd (m_F_X11_isNode p0) (fun x1 => mo_if (m_F_X11_has_19 a0) (mo_bd (m_F_X11_isShape p1) (fun x3 => mo_if (m_F_X11_has_19 a0) (mo_bd (mo_rc (by decide)) (fun b5 => mo_bd (m_F_X11_reckon b5) (fun _ => mo_bd (mo_gi (by decide)) (fun x6 => mo_if (mo_bd (mo_ga (by decide)) (fun r8 => mo_bd mo_li (fun x9 => m_F_X11_has_47 a0 ((x9 >>> (p0 &&& 31)) &&& 1)))) (m_F_X11_has_47 a0 ((-3)))))))))))
theorem m_F_X11_init_318 (a0 : Nat) (ih233 : Int32 → zMn Unit) (h_ih233 : ∀ (y0 : Int32), z_Mo (ih233 y0)) (x_1 : Int32) : z_Mo (F_X11_init_318 a0 ih233 x_1) :=
  h_ih233 (x_1 + 1)
theorem m_B_X11_init_243 (a0 : Nat) (ih233 : Int32 → zMn Unit) (h_ih233 : ∀ (y0 : Int32), z_Mo (ih233 y0)) (ih243 : Int32 → Int32 → Int32 → zMn Unit) (h_ih243 : ∀ (y0 : Int32) (y1 : Int32) (y2 : Int32), z_Mo (ih243 y0 y1 y2)) (x_1 : Int32) (x_2 : Int32) (x_3 : Int32) : z_Mo (B_X11_init_243 a0 ih233 ih243 x_1 x_2 x_3) :=
  mo_if (mo_bd (mo_ga (by decide)) (fun r30 => mo_bd mo_si (fun _ => mo_if (mo_bd (mo_ga (by decide)) (fun r32 => mo_bd (mo_gi (by decide)) (fun x33 => mo_bd mo_si (fun _ => mo_bd (mo_ga (by decide)) (fun r34 => mo_bd (mo_gi (by decide)) (fun x35 => mo_bd mo_si (fun _ => mo_bd (mo_ga (by decide)) (fun r36 => mo_bd (mo_gi (by decide)) (fun x37 => mo_bd mo_si (fun _ => mo_bd (mo_gi (by decide)) (fun x38 => mo_bd (mo_pf (by decide)) (fun _ => m_F_X11_init_318 a0 ih233 h_ih233 x_1)))))))))))) (m_F_X11_init_318 a0 ih233 h_ih233 x_1)))) (mo_bd mo_ret (fun x39 => mo_bd mo_ret (fun x40 => h_ih243 x_1 x39 x40)))
theorem m_F_X11_init_243 (a0 : Nat) (ih233 : Int32 → zMn Unit) (h_ih233 : ∀ (y0 : Int32), z_Mo (ih233 y0)) : ∀ (n : Nat) (s : Int32 × Int32 × Int32), z_Mo (F_X11_init_243 a0 ih233 n s) :=
  mo_fix (fun ih hih s => m_B_X11_init_243 a0 ih233 h_ih233 (fun y0 y1 y2 => ih (y0, y1, y2)) (fun y0 y1 y2 => hih (y0, y1, y2)) s.1 s.2.1 s.2.2)
theorem m_B_X11_init_233 (a0 : Nat) (ih233 : Int32 → zMn Unit) (h_ih233 : ∀ (y0 : Int32), z_Mo (ih233 y0)) (x_1 : Int32) : z_Mo (B_X11_init_233 a0 ih233 x_1) :=
  mo_if (mo_ret) (m_F_X11_init_243 a0 ih233 h_ih233 z_N (x_1, 0, x_1))
theorem m_F_X11_init_233 (a0 : Nat) : ∀ (n : Nat) (s : Int32), z_Mo (F_X11_init_233 a0 n s) :=
  mo_fix (fun ih hih s => m_B_X11_init_233 a0 (fun y0 => ih (y0)) (fun y0 => hih (y0)) s)
theorem m_B_X11_init_212 (a0 : Nat) (ih212 : Int32 → zMn Unit) (h_ih212 : ∀ (y0 : Int32), z_Mo (ih212 y0)) (x_1 : Int32) : z_Mo (B_X11_init_212 a0 ih212 x_1) :=
  mo_if (m_F_X11_init_233 a0 z_N (0)) (mo_bd (mo_ga (by decide)) (fun r27 => mo_bd mo_si (fun _ => h_ih212 (x_1 + 1))))
theorem m_F_X11_init_212 (a0 : Nat) : ∀ (n : Nat) (s : Int32), z_Mo (F_X11_init_212 a0 n s) :=
  mo_fix (fun ih hih s => m_B_X11_init_212 a0 (fun y0 => ih (y0)) (fun y0 => hih (y0)) s)
theorem m_F_X11_init (a0 : Nat) : z_Mo (F_X11_init a0) :=
  mo_bd (mo_nwa (by decide)) (fun a1 => mo_bd (mo_pf (by decide)) (fun _ => mo_bd (mo_nwa (by decide)) (fun a2 => mo_bd (mo_pf (by decide)) (fun _ => mo_bd (mo_nwa (by decide)) (fun a3 => mo_bd (mo_pf (by decide)) (fun _ => mo_bd (mo_nwa (by decide)) (fun a4 => mo_bd (mo_pf (by decide)) (fun _ => mo_bd (mo_nwa (by decide)) (fun a5 => mo_bd (mo_pf (by decide)) (fun _ => mo_bd (mo_nwa (by decide)) (fun a6 => mo_bd (mo_pf (by decide)) (fun _ => mo_bd (mo_nwa (by decide)) (fun a7 => mo_bd (mo_pf (by decide)) (fun _ => mo_bd (mo_nwa (by decide)) (fun a8 => mo_bd (mo_pf (by decide)) (fun _ => mo_bd (mo_nwa (by decide)) (fun a9 => mo_bd (mo_pf (by decide)) (fun _ => mo_bd (mo_nwa (by decide)) (fun a10 => mo_bd (mo_pf (by decide)) (fun _ => mo_bd (mo_nwa (by decide)) (fun a11 => mo_bd (mo_pf (by decide)) (fun _ => mo_bd (mo_nwa (by decide)) (fun a12 => mo_bd (mo_pf (by decide)) (fun _ => mo_bd (mo_nwa (by decide)) (fun a13 => mo_bd (mo_pf (by decide)) (fun _ => mo_bd (mo_nwa (by decide)) (fun a14 => mo_bd (mo_pf (by decide)) (fun _ => mo_bd (mo_nwa (by decide)) (fun a15 => mo_bd (mo_pf (by decide)) (fun _ => mo_bd (mo_nwa (by decide)) (fun a16 => mo_bd (mo_pf (by decide)) (fun _ => mo_bd (mo_nwa (by decide)) (fun a17 => mo_bd (mo_pf (by decide)) (fun _ => mo_bd (mo_nwa (by decide)) (fun a18 => mo_bd (mo_pf (by decide)) (fun _ => mo_bd (mo_nwa (by decide)) (fun a19 => mo_bd (mo_pf (by decide)) (fun _ => mo_bd (mo_nwa (by decide)) (fun a20 => mo_bd (mo_pf (by decide)) (fun _ => mo_bd (mo_nwa (by decide)) (fun a21 => mo_bd (mo_pf (by decide)) (fun _ => mo_bd (mo_nwa (by decide)) (fun a22 => mo_bd (mo_pf (by decide)) (fun _ => mo_bd (mo_nwa (by decide)) (fun a23 => mo_bd (mo_pf (by decide)) (fun _ => mo_bd (mo_nwa (by decide)) (fun a24 => mo_bd (mo_pf (by decide)) (fun _ => mo_bd (mo_nwa (by decide)) (fun a25 => mo_bd (mo_pf (by decide)) (fun _ => m_F_X11_init_212 a0 z_N (0)))))))))))))))))))))))))))))))))))))))))))))))))))
theorem m_F_X11_isBare_21 (a0 : Nat) (s_0 : Int32) : z_Mo (F_X11_isBare_21 a0 s_0) :=
  mo_rb
theorem m_F_X11_isBare_20 (a0 : Nat) : z_Mo (F_X11_isBare_20 a0) :=
  m_F_X11_isBare_21 a0 0
theorem m_F_X11_isBare (a0 : Nat) (p0 : Int32) : z_Mo (F_X11_isBare a0 p0) :=
  mo_bd (m_F_X11_isShape p0) (fun x1 => mo_if (m_F_X11_isBare_20 a0) (mo_bd (mo_ga (by decide)) (fun r3 => mo_bd mo_li (fun x4 => mo_if (m_F_X11_isBare_21 a0 1) (m_F_X11_isBare_20 a0)))))
theorem m_B_X11_isLoose_15 (a0 : Nat) (ih15 : Int32 → Int32 → Int32 → zMn Int32) (h_ih15 : ∀ (y0 : Int32) (y1 : Int32) (y2 : Int32), z_Mo (ih15 y0 y1 y2)) (x_2 : Int32) (x_3 : Int32) (x_4 : Int32) : z_Mo (B_X11_isLoose_15 a0 ih15 x_2 x_3 x_4) :=
  mo_bd (mo_gi (by decide)) (fun x4 => mo_if (mo_rb) (mo_bd (mo_ga (by decide)) (fun r6 => mo_bd mo_li (fun x7 => mo_bd (mo_rc (by decide)) (fun b9 => mo_bd (m_F_X11_takes b9 x7 x_2 x_3) (fun x8 => mo_if (h_ih15 x_2 x_3 (x_4 + 1)) (mo_rb)))))))
theorem m_F_X11_isLoose_15 (a0 : Nat) : ∀ (n : Nat) (s : Int32 × Int32 × Int32), z_Mo (F_X11_isLoose_15 a0 n s) :=
  mo_fix (fun ih hih s => m_B_X11_isLoose_15 a0 (fun y0 y1 y2 => ih (y0, y1, y2)) (fun y0 y1 y2 => hih (y0, y1, y2)) s.1 s.2.1 s.2.2)
theorem m_F_X11_isLoose (a0 : Nat) (p0 : Int32) (p1 : Int32) (p2 : Int32) : z_Mo (F_X11_isLoose a0 p0 p1 p2) :=
  mo_bd (mo_rc (by decide)) (fun b2 => mo_bd (m_F_X11_mayBeLeft b2 p0 p1 p2) (fun x1 => mo_if (m_F_X11_isLoose_15 a0 z_N (p1, p2, 0)) (mo_rb)))
theorem m_F_X11_loose_138 (a0 : Nat) (ih51 : Int32 → Int32 → Int32 → Int32 → zMn Int32) (h_ih51 : ∀ (y0 : Int32) (y1 : Int32) (y2 : Int32) (y3 : Int32), z_Mo (ih51 y0 y1 y2 y3)) (x_1 : Int32) (x_2 : Int32) (x_3 : Int32) (x_4 : Int32) : z_Mo (F_X11_loose_138 a0 ih51 x_1 x_2 x_3 x_4) :=
  h_ih51 x_1 x_2 x_3 (x_4 + 1)
theorem m_F_X11_loose_136 (a0 : Nat) (ih51 : Int32 → Int32 → Int32 → Int32 → zMn Int32) (h_ih51 : ∀ (y0 : Int32) (y1 : Int32) (y2 : Int32) (y3 : Int32), z_Mo (ih51 y0 y1 y2 y3)) (x_1 : Int32) (x_2 : Int32) (x_4 : Int32) (s_0 : Int32) (s_1 : Int32) : z_Mo (F_X11_loose_136 a0 ih51 x_1 x_2 x_4 s_0 s_1) :=
  mo_bd mo_ret (fun x25 => m_F_X11_loose_138 a0 ih51 h_ih51 x_1 x_2 x25 x_4)
theorem m_F_X11_loose_96 (a0 : Nat) (ih51 : Int32 → Int32 → Int32 → Int32 → zMn Int32) (h_ih51 : ∀ (y0 : Int32) (y1 : Int32) (y2 : Int32) (y3 : Int32), z_Mo (ih51 y0 y1 y2 y3)) (x_1 : Int32) (x_2 : Int32) (x_3 : Int32) (x_4 : Int32) (x_5 : Int32) (t_0 : Option Nat) (s_1 : Int32) (s_2 : Int32) : z_Mo (F_X11_loose_96 a0 ih51 x_1 x_2 x_3 x_4 x_5 t_0 s_1 s_2) :=
  mo_bd mo_li (fun x17 => mo_if (mo_bd (mo_rc (by decide)) (fun b20 => mo_bd (m_F_X11_concerns b20 x_2 (x_4 / 2) x_5) (fun x19 => mo_if (m_F_X11_loose_138 a0 ih51 h_ih51 x_1 x_2 x_3 x_4) (mo_bd (mo_rc (by decide)) (fun b23 => mo_bd (m_F_X11_isLoose b23 x_2 (x_4 / 2) x_5) (fun x22 => mo_if (m_F_X11_loose_136 a0 ih51 h_ih51 x_1 x_2 x_4 x_3 0) (m_F_X11_loose_136 a0 ih51 h_ih51 x_1 x_2 x_4 x_3 1))))))) (m_F_X11_loose_138 a0 ih51 h_ih51 x_1 x_2 x_3 x_4))
theorem m_F_X11_loose_74 (a0 : Nat) (ih51 : Int32 → Int32 → Int32 → Int32 → zMn Int32) (h_ih51 : ∀ (y0 : Int32) (y1 : Int32) (y2 : Int32) (y3 : Int32), z_Mo (ih51 y0 y1 y2 y3)) (x_1 : Int32) (x_2 : Int32) (x_3 : Int32) (x_4 : Int32) (s_0 : Int32) : z_Mo (F_X11_loose_74 a0 ih51 x_1 x_2 x_3 x_4 s_0) :=
  mo_bd (mo_ga (by decide)) (fun r15 => mo_if (m_F_X11_loose_96 a0 ih51 h_ih51 x_1 x_2 x_3 x_4 s_0 r15 (3 * (x_4 / 2)) 2) (m_F_X11_loose_96 a0 ih51 h_ih51 x_1 x_2 x_3 x_4 s_0 r15 (3 * (x_4 / 2)) 0))
theorem m_B_X11_loose_51 (a0 : Nat) (ih51 : Int32 → Int32 → Int32 → Int32 → zMn Int32) (h_ih51 : ∀ (y0 : Int32) (y1 : Int32) (y2 : Int32) (y3 : Int32), z_Mo (ih51 y0 y1 y2 y3)) (x_1 : Int32) (x_2 : Int32) (x_3 : Int32) (x_4 : Int32) : z_Mo (B_X11_loose_51 a0 ih51 x_1 x_2 x_3 x_4) :=
  mo_bd (mo_gi (by decide)) (fun x12 => mo_if (mo_ret) (mo_if (m_F_X11_loose_74 a0 ih51 h_ih51 x_1 x_2 x_3 x_4 1) (m_F_X11_loose_74 a0 ih51 h_ih51 x_1 x_2 x_3 x_4 0)))
theorem m_F_X11_loose_51 (a0 : Nat) : ∀ (n : Nat) (s : Int32 × Int32 × Int32 × Int32), z_Mo (F_X11_loose_51 a0 n s) :=
  mo_fix (fun ih hih s => m_B_X11_loose_51 a0 (fun y0 y1 y2 y3 => ih (y0, y1, y2, y3)) (fun y0 y1 y2 y3 => hih (y0, y1, y2, y3)) s.1 s.2.1 s.2.2.1 s.2.2.2)
theorem m_F_X11_loose_20 (a0 : Nat) : z_Mo (F_X11_loose_20 a0) :=
  mo_ret
theorem m_F_X11_loose (a0 : Nat) (p0 : Int32) (p1 : Int32) : z_Mo (F_X11_loose a0 p0 p1) :=
  mo_bd (mo_pf (by decide)) (fun _ => mo_bd (m_F_X11_isNode p0) (fun x1 => mo_if (m_F_X11_loose_20 a0) (mo_bd (mo_rc (by decide)) (fun b4 => mo_bd (m_F_X11_isBare b4 p1) (fun x3 => mo_if (m_F_X11_loose_20 a0) (mo_bd (mo_rc (by decide)) (fun b6 => mo_bd (m_F_X11_reckon b6) (fun _ => mo_bd (mo_gi (by decide)) (fun x7 => mo_if (mo_bd (mo_ga (by decide)) (fun r9 => mo_bd mo_li (fun x10 => mo_bd (mo_rc (by decide)) (fun b11 => mo_bd (m_F_X11_findPlaces b11 x10) (fun _ => m_F_X11_loose_51 a0 z_N (p0, p1, 0, 0)))))) (mo_ret))))))))))
theorem m_F_X11_nodes_36 (a0 : Nat) (s_0 : Int32) : z_Mo (F_X11_nodes_36 a0 s_0) :=
  mo_ret
theorem m_F_X11_nodes (a0 : Nat) (p0 : Int32) : z_Mo (F_X11_nodes a0 p0) :=
  mo_bd (mo_pf (by decide)) (fun _ => mo_bd (m_F_X11_isShape p0) (fun x1 => mo_if (mo_ret) (mo_bd (mo_rc (by decide)) (fun b3 => mo_bd (m_F_X11_reckon b3) (fun _ => mo_bd (mo_gi (by decide)) (fun x4 => mo_if (mo_bd (mo_ga (by decide)) (fun r6 => mo_bd mo_li (fun x7 => m_F_X11_nodes_36 a0 x7))) (m_F_X11_nodes_36 a0 ((-3)))))))))
theorem m_F_X11_other_118 (a0 : Nat) (s_0 : Int32) : z_Mo (F_X11_other_118 a0 s_0) :=
  mo_ret
theorem m_F_X11_other_98 (a0 : Nat) (x_3 : Int32) (t_0 : Option Nat) (s_1 : Int32) : z_Mo (F_X11_other_98 a0 x_3 t_0 s_1) :=
  mo_bd (mo_pf (by decide)) (fun _ => mo_bd (mo_gi (by decide)) (fun x11 => mo_if (mo_bd (mo_ga (by decide)) (fun r13 => mo_bd mo_li (fun x14 => m_F_X11_other_118 a0 x14))) (m_F_X11_other_118 a0 0)))
theorem m_F_X11_other_97 (a0 : Nat) (x_3 : Int32) (t_0 : Option Nat) : z_Mo (F_X11_other_97 a0 x_3 t_0) :=
  m_F_X11_other_98 a0 x_3 t_0 1
theorem m_F_X11_other_76 (a0 : Nat) (ih6 : Int32 → Int32 → Int32 → Int32 → Int32 → zMn Int32) (h_ih6 : ∀ (y0 : Int32) (y1 : Int32) (y2 : Int32) (y3 : Int32) (y4 : Int32), z_Mo (ih6 y0 y1 y2 y3 y4)) (x_1 : Int32) (x_2 : Int32) (x_3 : Int32) (x_4 : Int32) (x_5 : Int32) : z_Mo (F_X11_other_76 a0 ih6 x_1 x_2 x_3 x_4 x_5) :=
  h_ih6 x_1 x_2 x_3 x_4 (x_5 + 1)
theorem m_F_X11_other_51 (a0 : Nat) (ih6 : Int32 → Int32 → Int32 → Int32 → Int32 → zMn Int32) (h_ih6 : ∀ (y0 : Int32) (y1 : Int32) (y2 : Int32) (y3 : Int32) (y4 : Int32), z_Mo (ih6 y0 y1 y2 y3 y4)) (x_1 : Int32) (x_2 : Int32) (x_3 : Int32) (x_4 : Int32) (x_5 : Int32) (s_0 : Int32) : z_Mo (F_X11_other_51 a0 ih6 x_1 x_2 x_3 x_4 x_5 s_0) :=
  mo_if (mo_bd (mo_ga (by decide)) (fun r10 => mo_bd mo_si (fun _ => m_F_X11_other_76 a0 ih6 h_ih6 x_1 x_2 x_3 (x_4 + 1) x_5))) (m_F_X11_other_76 a0 ih6 h_ih6 x_1 x_2 x_3 x_4 x_5)
theorem m_B_X11_other_6 (a0 : Nat) (ih6 : Int32 → Int32 → Int32 → Int32 → Int32 → zMn Int32) (h_ih6 : ∀ (y0 : Int32) (y1 : Int32) (y2 : Int32) (y3 : Int32) (y4 : Int32), z_Mo (ih6 y0 y1 y2 y3 y4)) (x_1 : Int32) (x_2 : Int32) (x_3 : Int32) (x_4 : Int32) (x_5 : Int32) : z_Mo (B_X11_other_6 a0 ih6 x_1 x_2 x_3 x_4 x_5) :=
  mo_if (mo_if (m_F_X11_other_97 a0 x_3 ((some a0))) (mo_if (m_F_X11_other_97 a0 x_3 ((some a0))) (m_F_X11_other_98 a0 x_3 ((some a0)) 0))) (mo_if (mo_bd (mo_rc (by decide)) (fun b6 => mo_bd (m_F_X11_find b6 (x_5 - x_5 / 16 * 16) (x_5 / 16) x_1) (fun x5 => m_F_X11_other_51 a0 ih6 h_ih6 x_1 x_2 x_3 x_4 x_5 x5))) (mo_bd (mo_rc (by decide)) (fun b8 => mo_bd (m_F_X11_find b8 x_1 (x_5 / 16) (x_5 - x_5 / 16 * 16)) (fun x7 => m_F_X11_other_51 a0 ih6 h_ih6 x_1 x_2 x_3 x_4 x_5 x7))))
theorem m_F_X11_other_6 (a0 : Nat) : ∀ (n : Nat) (s : Int32 × Int32 × Int32 × Int32 × Int32), z_Mo (F_X11_other_6 a0 n s) :=
  mo_fix (fun ih hih s => m_B_X11_other_6 a0 (fun y0 y1 y2 y3 y4 => ih (y0, y1, y2, y3, y4)) (fun y0 y1 y2 y3 y4 => hih (y0, y1, y2, y3, y4)) s.1 s.2.1 s.2.2.1 s.2.2.2.1 s.2.2.2.2)
theorem m_F_X11_other (a0 : Nat) (p0 : Int32) (p1 : Int32) (p2 : Int32) : z_Mo (F_X11_other a0 p0 p1 p2) :=
  m_F_X11_other_6 a0 z_N (p0, p1, p2, 0, 0)
theorem m_F_X11_shape_95 (a0 : Nat) (x_1 : Int32) (x_2 : Int32) (x_3 : Int32) (x_4 : Int32) (x_5 : Int32) : z_Mo (F_X11_shape_95 a0 x_1 x_2 x_3 x_4 x_5) :=
  mo_bd (mo_ga (by decide)) (fun r17 => mo_bd mo_si (fun _ => mo_bd (mo_ga (by decide)) (fun r18 => mo_bd mo_si (fun _ => mo_bd (mo_ga (by decide)) (fun r19 => mo_bd mo_si (fun _ => mo_bd (mo_ga (by decide)) (fun r20 => mo_bd mo_si (fun _ => mo_bd (mo_pf (by decide)) (fun _ => mo_ret)))))))))
theorem m_F_X11_shape_93 (a0 : Nat) : z_Mo (F_X11_shape_93 a0) :=
  mo_ret
theorem m_F_X11_shape_85 (a0 : Nat) (x_1 : Int32) (x_2 : Int32) (x_3 : Int32) (x_4 : Int32) (x_5 : Int32) : z_Mo (F_X11_shape_85 a0 x_1 x_2 x_3 x_4 x_5) :=
  mo_bd (m_F_X11_isShape x_4) (fun x21 => mo_if (m_F_X11_shape_93 a0) (m_F_X11_shape_95 a0 x_1 x_2 x_3 x_4 x_5))
theorem m_F_X11_shape_75 (a0 : Nat) (x_1 : Int32) (x_2 : Int32) (x_3 : Int32) (x_4 : Int32) (x_5 : Int32) : z_Mo (F_X11_shape_75 a0 x_1 x_2 x_3 x_4 x_5) :=
  mo_if (m_F_X11_shape_85 a0 x_1 x_2 x_3 x_4 x_5) (mo_if (m_F_X11_shape_85 a0 x_1 x_2 x_3 x_4 x_5) (m_F_X11_shape_95 a0 x_1 x_2 x_3 x_4 x_5))
theorem m_F_X11_shape_68 (a0 : Nat) (x_1 : Int32) (x_2 : Int32) (x_3 : Int32) (x_4 : Int32) (x_5 : Int32) : z_Mo (F_X11_shape_68 a0 x_1 x_2 x_3 x_4 x_5) :=
  mo_bd (m_F_X11_isShape x_3) (fun x23 => mo_if (m_F_X11_shape_93 a0) (m_F_X11_shape_75 a0 x_1 x_2 x_3 x_4 x_5))
theorem m_F_X11_shape_53 (a0 : Nat) (x_1 : Int32) (x_2 : Int32) (x_3 : Int32) (x_4 : Int32) (x_5 : Int32) : z_Mo (F_X11_shape_53 a0 x_1 x_2 x_3 x_4 x_5) :=
  mo_if (m_F_X11_shape_68 a0 x_1 x_2 x_3 x_4 x_5) (mo_if (m_F_X11_shape_68 a0 x_1 x_2 x_3 x_4 x_5) (mo_if (m_F_X11_shape_68 a0 x_1 x_2 x_3 x_4 x_5) (m_F_X11_shape_75 a0 x_1 x_2 x_3 x_4 x_5)))
theorem m_F_X11_shape_22 (a0 : Nat) : z_Mo (F_X11_shape_22 a0) :=
  mo_ret
theorem m_F_X11_shape (a0 : Nat) (p0 : Int32) (p1 : Int32) (p2 : Int32) (p3 : Int32) (p4 : Int32) : z_Mo (F_X11_shape a0 p0 p1 p2 p3 p4) :=
  mo_bd (mo_pf (by decide)) (fun _ => mo_bd (m_F_X11_isShape p0) (fun x1 => mo_if (m_F_X11_shape_22 a0) (mo_if (m_F_X11_shape_22 a0) (mo_if (mo_if (mo_bd (mo_rc (by decide)) (fun b7 => mo_bd (m_F_X11_isExpression b7 p2) (fun x6 => mo_if (mo_ret) (mo_bd (mo_rc (by decide)) (fun b9 => mo_bd (m_F_X11_findPlaces b9 p2) (fun _ => mo_bd (mo_gi (by decide)) (fun x10 => mo_if (m_F_X11_shape_53 a0 p0 p1 p2 p3 p4) (mo_ret)))))))) (m_F_X11_shape_53 a0 p0 p1 p2 p3 p4)) (m_F_X11_shape_22 a0)))))
theorem m_F_X11_thrown (a0 : Nat) : z_Mo (F_X11_thrown a0) :=
  mo_bd (mo_gi (by decide)) (fun x1 => mo_ret)
theorem m_F_X11_ways_58 (a0 : Nat) (s_0 : Int32) : z_Mo (F_X11_ways_58 a0 s_0) :=
  mo_ret
theorem m_F_X11_ways_20 (a0 : Nat) : z_Mo (F_X11_ways_20 a0) :=
  mo_ret
theorem m_F_X11_ways (a0 : Nat) (p0 : Int32) (p1 : Int32) : z_Mo (F_X11_ways a0 p0 p1) :=
  mo_bd (mo_pf (by decide)) (fun _ => mo_bd (m_F_X11_isNode p0) (fun x1 => mo_if (m_F_X11_ways_20 a0) (mo_bd (mo_rc (by decide)) (fun b4 => mo_bd (m_F_X11_isBare b4 p1) (fun x3 => mo_if (m_F_X11_ways_20 a0) (mo_bd (mo_rc (by decide)) (fun b6 => mo_bd (m_F_X11_reckon b6) (fun _ => mo_bd (mo_gi (by decide)) (fun x7 => mo_if (mo_bd (mo_rc (by decide)) (fun b10 => mo_bd (m_F_X11_weigh b10 p0 p1) (fun w9 => mo_if (m_F_X11_ways_58 a0 1000000) (m_F_X11_ways_58 a0 ((w9 : Int64).toInt32))))) (mo_ret))))))))))
theorem m_F_X11_wrong (a0 : Nat) : z_Mo (F_X11_wrong a0) :=
  mo_bd (mo_pf (by decide)) (fun _ => mo_bd (mo_rc (by decide)) (fun b1 => mo_bd (m_F_X11_reckon b1) (fun _ => mo_bd (mo_gi (by decide)) (fun x2 => mo_ret))))
