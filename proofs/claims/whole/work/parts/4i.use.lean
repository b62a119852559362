section OC
variable {g : ez_G} {h h0 h2 : ez_H} {P P2 : xP} {c c2 : xR → Nat → Int32} {z Z : md_S}
theorem c_isFor {j : Nat} {a so : Int32} (l6 : lv P (6, j, 0)) : ez_ev g 11 [.ref (P.2.2.1 (6, j, 0)), .int a, .int so] (xh h0 P c) = some (some (.int (if c (6, j, 0) 0 = a ∧ c (6, j, 0) 1 = so then 1 else 0)), xh h0 P c) := by
  rw [e11]
  simp only [s11_0, s11_1, s11_4, s11_5, s11_8, s11_9, s11_12, s11_13, s11_16, s11_17, s11_20, s11_21, zl_n, zl_i, zl_r, zl_0, z10, z01, ez_bd_s, ez_bd_n, eq_self, true_or, or_true, if_true, if_false, zb_eq, zb_eq1, zb_em, zb_em2, ite_not, List.append_nil, List.cons_append, List.nil_append, reduceCtorEq, not_true_eq_false, not_false_eq_true, xo1, xa1, xf1_0, xv1_0, xp1_0, xf1_1, xv1_1, xf1_2, xv1_2, xp1_2, xf1_3, xv1_3, xf1_4, xv1_4, xf1_5, xv1_5, xp1_5, xf1_6, xv1_6, xp1_6, xf1_7, xv1_7, xf1_8, xv1_8, xf1_9, xv1_9, xf1_10, xv1_10, xf1_11, xv1_11, xf1_12, xv1_12, xf1_13, xv1_13, xf1_14, xv1_14, xp1_14, xo3, xa3, xf3_0, xv3_0, xp3_0, xf3_1, xv3_1, xf3_2, xv3_2, xp3_2, xo5, xa5, xf5_0, xv5_0, xp5_0, xf5_1, xv5_1, xp5_1, xf5_2, xv5_2, xp5_2, xf5_3, xv5_3, xp5_3, xf5_4, xv5_4, xp5_4, xf5_5, xv5_5, xp5_5, xf5_6, xv5_6, xp5_6, xf5_7, xv5_7, xp5_7, xf5_8, xv5_8, xp5_8, xf5_9, xv5_9, xp5_9, xf5_10, xv5_10, xp5_10, xf5_11, xv5_11, xp5_11, xf5_12, xv5_12, xp5_12, xo6, xa6, xf6_0, xv6_0, xp6_0, xf6_1, xv6_1, xp6_1, xf6_2, xv6_2, xp6_2, xo7, xa7, xf7_0, xv7_0, xp7_0, xf7_1, xv7_1, xp7_1, xf7_2, xv7_2, xp7_2, xf7_3, xv7_3, xp7_3, xf7_4, xv7_4, xf7_5, xv7_5, xo8, xa8, xf8_0, xv8_0, xp8_0, xf8_1, xv8_1, xo10, xa10, xf10_0, xv10_0, xp10_0, xf10_1, xv10_1, xp10_1, xf10_2, xv10_2, xp10_2, xf10_3, xv10_3, xf10_4, xv10_4, xo12, xa12, xf12_0, xv12_0, xf12_1, xv12_1, xp12_1, xf12_2, xv12_2, xp12_2, xf12_3, xv12_3, xp12_3, xf12_4, xv12_4, xo13, xa13, xf13_0, xv13_0, xf13_1, xv13_1, xp13_1, xo14, xa14, xf14_0, xv14_0, xf14_1, xv14_1, xp14_1, xf14_2, xv14_2, xp14_2, xf14_3, xv14_3, xp14_3, ya2_1, yw2_1, yv2_1, yp2_1, yn2_1, yl2_1, ya2_3, yw2_3, yv2_3, yp2_3, yn2_3, yl2_3, ya2_10, yw2_10, yv2_10, yp2_10, yn2_10, yl2_10, ya2_11, yw2_11, yv2_11, yp2_11, yn2_11, yl2_11, ya9, yw9, yv9, yp9, yn9, yl9, ya11, yw11, yv11, yp11, yn11, yl11, ya15, yw15, yv15, yp15, yn15, yl15, ya16, yw16, yv16, yp16, yn16, yl16, ok10, ok11, ok1i, xu_s, xu_n, ne_eq, Prod.mk.injEq, Nat.reduceEqDiff, false_and, and_false, not_false_eq_true, l6]
  by_cases e1 : c (6, j, 0) 0 = a
  · rw [if_pos e1]
    by_cases e2 : c (6, j, 0) 1 = so
    · rw [if_pos e2, if_pos ⟨e1, e2⟩]
    · rw [if_neg e2, if_neg (fun h => e2 h.2)]
  · rw [if_neg e1, if_neg (fun h => e1 h.1)]
theorem lc_licensed {a so : Int32} (w : xw h0 P c) (R : RR P c z) : ∀ d j, j + d = (z.1 2).toNatClampNeg → ∀ x5, ez_rn g 79 5 [some (.ref (P.2.2.1 (1, 0, 0))), some (.int a), some (.int so), some (.int (l_sum (pmay z a so) j)), some (.int (nI j)), x5] [] (xh h0 P c) = some (some (.int (l_sum (pmay z a so) (z.1 2).toNatClampNeg)), xh h0 P c) := by
  obtain ⟨l1, l21, l23, l16, l30, l31, l32, l210, l211, l33, l34⟩ := w_lvs w R.1; have ok := w.1
  obtain ⟨⟨a1, a2, a3, a4, a5⟩, ⟨b1, b2, b3⟩, ⟨d1, d2, d3⟩, m0, m1, m7, m36⟩ := R.2.1; have r1 := R.2.2.1; have r2 := R.2.2.2.1; have r5 := R.2.2.2.2.1; have r3 := R.2.2.2.2.2.1; have r4 := R.2.2.2.2.2.2.1; have rv := R.2.2.2.2.2.2.2; have r0 := R.2.1
  have hb := (md_inE r1.1).2
  intro d
  induction d with
  | zero =>
    intro j hj x5
    obtain rfl : j = (z.1 2).toNatClampNeg := by omega
    rw [s79_5]
    simp only [s79_0, s79_1, s79_2, s79_3, s79_7, s79_8, s79_11, s79_14, s79_17, s79_18, s79_21, s79_23, s79_26, s79_29, s79_31, s79_33, s79_34, s79_35, s79_38, s79_41, s79_42, s79_44, s79_47, s79_48, s79_49, s79_52, s79_55, s79_56, zl_n, zl_i, zl_r, zl_0, z10, z01, ez_bd_s, ez_bd_n, eq_self, true_or, or_true, if_true, if_false, zb_eq, zb_eq1, zb_em, zb_em2, ite_not, List.append_nil, List.cons_append, List.nil_append, reduceCtorEq, not_true_eq_false, not_false_eq_true, xo1, xa1, xf1_0, xv1_0, xp1_0, xf1_1, xv1_1, xf1_2, xv1_2, xp1_2, xf1_3, xv1_3, xf1_4, xv1_4, xf1_5, xv1_5, xp1_5, xf1_6, xv1_6, xp1_6, xf1_7, xv1_7, xf1_8, xv1_8, xf1_9, xv1_9, xf1_10, xv1_10, xf1_11, xv1_11, xf1_12, xv1_12, xf1_13, xv1_13, xf1_14, xv1_14, xp1_14, xo3, xa3, xf3_0, xv3_0, xp3_0, xf3_1, xv3_1, xf3_2, xv3_2, xp3_2, xo5, xa5, xf5_0, xv5_0, xp5_0, xf5_1, xv5_1, xp5_1, xf5_2, xv5_2, xp5_2, xf5_3, xv5_3, xp5_3, xf5_4, xv5_4, xp5_4, xf5_5, xv5_5, xp5_5, xf5_6, xv5_6, xp5_6, xf5_7, xv5_7, xp5_7, xf5_8, xv5_8, xp5_8, xf5_9, xv5_9, xp5_9, xf5_10, xv5_10, xp5_10, xf5_11, xv5_11, xp5_11, xf5_12, xv5_12, xp5_12, xo6, xa6, xf6_0, xv6_0, xp6_0, xf6_1, xv6_1, xp6_1, xf6_2, xv6_2, xp6_2, xo7, xa7, xf7_0, xv7_0, xp7_0, xf7_1, xv7_1, xp7_1, xf7_2, xv7_2, xp7_2, xf7_3, xv7_3, xp7_3, xf7_4, xv7_4, xf7_5, xv7_5, xo8, xa8, xf8_0, xv8_0, xp8_0, xf8_1, xv8_1, xo10, xa10, xf10_0, xv10_0, xp10_0, xf10_1, xv10_1, xp10_1, xf10_2, xv10_2, xp10_2, xf10_3, xv10_3, xf10_4, xv10_4, xo12, xa12, xf12_0, xv12_0, xf12_1, xv12_1, xp12_1, xf12_2, xv12_2, xp12_2, xf12_3, xv12_3, xp12_3, xf12_4, xv12_4, xo13, xa13, xf13_0, xv13_0, xf13_1, xv13_1, xp13_1, xo14, xa14, xf14_0, xv14_0, xf14_1, xv14_1, xp14_1, xf14_2, xv14_2, xp14_2, xf14_3, xv14_3, xp14_3, ya2_1, yw2_1, yv2_1, yp2_1, yn2_1, yl2_1, ya2_3, yw2_3, yv2_3, yp2_3, yn2_3, yl2_3, ya2_10, yw2_10, yv2_10, yp2_10, yn2_10, yl2_10, ya2_11, yw2_11, yv2_11, yp2_11, yn2_11, yl2_11, ya9, yw9, yv9, yp9, yn9, yl9, ya11, yw11, yv11, yp11, yn11, yl11, ya15, yw15, yv15, yp15, yn15, yl15, ya16, yw16, yv16, yp16, yn16, yl16, ok10, ok11, ok1i, xu_s, xu_n, ne_eq, Prod.mk.injEq, Nat.reduceEqDiff, false_and, and_false, not_false_eq_true, l1, l21, l23, l16, l30, l31, l32, l210, l211, l33, l34, ok, q_size, r1.2.1.1, nI_leT (Nat.le_refl (z.1 2).toNatClampNeg) (by omega)]
  | succ d ih =>
    intro j hj x5
    obtain ⟨q, l6⟩ := g_lic (g := g) w l31 r1 (show j < (z.1 2).toNatClampNeg by omega)
    obtain ⟨-, x0, x1, x2, -⟩ := r1.2.2 j (by omega)
    have hx := ih (j + 1) (by omega)
    rw [l_sum, pmay] at hx
    rw [s79_5]
    simp only [s79_0, s79_1, s79_2, s79_3, s79_7, s79_8, s79_11, s79_14, s79_17, s79_18, s79_21, s79_23, s79_26, s79_29, s79_31, s79_33, s79_34, s79_35, s79_38, s79_41, s79_42, s79_44, s79_47, s79_48, s79_49, s79_52, s79_55, s79_56, zl_n, zl_i, zl_r, zl_0, z10, z01, ez_bd_s, ez_bd_n, eq_self, true_or, or_true, if_true, if_false, zb_eq, zb_eq1, zb_em, zb_em2, ite_not, List.append_nil, List.cons_append, List.nil_append, reduceCtorEq, not_true_eq_false, not_false_eq_true, xo1, xa1, xf1_0, xv1_0, xp1_0, xf1_1, xv1_1, xf1_2, xv1_2, xp1_2, xf1_3, xv1_3, xf1_4, xv1_4, xf1_5, xv1_5, xp1_5, xf1_6, xv1_6, xp1_6, xf1_7, xv1_7, xf1_8, xv1_8, xf1_9, xv1_9, xf1_10, xv1_10, xf1_11, xv1_11, xf1_12, xv1_12, xf1_13, xv1_13, xf1_14, xv1_14, xp1_14, xo3, xa3, xf3_0, xv3_0, xp3_0, xf3_1, xv3_1, xf3_2, xv3_2, xp3_2, xo5, xa5, xf5_0, xv5_0, xp5_0, xf5_1, xv5_1, xp5_1, xf5_2, xv5_2, xp5_2, xf5_3, xv5_3, xp5_3, xf5_4, xv5_4, xp5_4, xf5_5, xv5_5, xp5_5, xf5_6, xv5_6, xp5_6, xf5_7, xv5_7, xp5_7, xf5_8, xv5_8, xp5_8, xf5_9, xv5_9, xp5_9, xf5_10, xv5_10, xp5_10, xf5_11, xv5_11, xp5_11, xf5_12, xv5_12, xp5_12, xo6, xa6, xf6_0, xv6_0, xp6_0, xf6_1, xv6_1, xp6_1, xf6_2, xv6_2, xp6_2, xo7, xa7, xf7_0, xv7_0, xp7_0, xf7_1, xv7_1, xp7_1, xf7_2, xv7_2, xp7_2, xf7_3, xv7_3, xp7_3, xf7_4, xv7_4, xf7_5, xv7_5, xo8, xa8, xf8_0, xv8_0, xp8_0, xf8_1, xv8_1, xo10, xa10, xf10_0, xv10_0, xp10_0, xf10_1, xv10_1, xp10_1, xf10_2, xv10_2, xp10_2, xf10_3, xv10_3, xf10_4, xv10_4, xo12, xa12, xf12_0, xv12_0, xf12_1, xv12_1, xp12_1, xf12_2, xv12_2, xp12_2, xf12_3, xv12_3, xp12_3, xf12_4, xv12_4, xo13, xa13, xf13_0, xv13_0, xf13_1, xv13_1, xp13_1, xo14, xa14, xf14_0, xv14_0, xf14_1, xv14_1, xp14_1, xf14_2, xv14_2, xp14_2, xf14_3, xv14_3, xp14_3, ya2_1, yw2_1, yv2_1, yp2_1, yn2_1, yl2_1, ya2_3, yw2_3, yv2_3, yp2_3, yn2_3, yl2_3, ya2_10, yw2_10, yv2_10, yp2_10, yn2_10, yl2_10, ya2_11, yw2_11, yv2_11, yp2_11, yn2_11, yl2_11, ya9, yw9, yv9, yp9, yn9, yl9, ya11, yw11, yv11, yp11, yn11, yl11, ya15, yw15, yv15, yp15, yn15, yl15, ya16, yw16, yv16, yp16, yn16, yl16, ok10, ok11, ok1i, xu_s, xu_n, ne_eq, Prod.mk.injEq, Nat.reduceEqDiff, false_and, and_false, not_false_eq_true, l1, l21, l23, l16, l30, l31, l32, l210, l211, l33, l34, ok, q_size, r1.2.1.1, nI_nleI (show j < (z.1 2).toNatClampNeg by omega) (by omega), q, l6, c_isFor l6, x0, x1, x2, nI_1]
    by_cases e1 : z.2 9 j = a
    · by_cases e2 : z.2 10 j = so
      · rw [if_pos e1, if_pos e2] at hx
        rw [if_pos ⟨e1, e2⟩]
        exact hx _
      · rw [if_pos e1, if_neg e2, Int32.add_zero] at hx
        rw [if_neg (fun h => e2 h.2)]
        exact hx _
    · rw [if_neg e1, Int32.add_zero] at hx
      rw [if_neg (fun h => e1 h.1)]
      exact hx _
theorem c_licensed {a so : Int32} (w : xw h0 P c) (R : RR P c z) : ez_ev g 79 [.ref (P.2.2.1 (1, 0, 0)), .int a, .int so] (xh h0 P c) = some (some (.int (l_sum (pmay z a so) (z.1 2).toNatClampNeg)), xh h0 P c) := by
  rw [e79, ← lc_licensed (g := g) w R _ 0 (Nat.zero_add _) none]
  simp only [s79_0, s79_1, s79_2, s79_3, s79_7, s79_8, s79_11, s79_14, s79_17, s79_18, s79_21, s79_23, s79_26, s79_29, s79_31, s79_33, s79_34, s79_35, s79_38, s79_41, s79_42, s79_44, s79_47, s79_48, s79_49, s79_52, s79_55, s79_56, zl_n, zl_i, zl_r, zl_0, z10, z01, ez_bd_s, ez_bd_n, eq_self, true_or, or_true, if_true, if_false, zb_eq, zb_eq1, zb_em, zb_em2, ite_not, List.append_nil, List.cons_append, List.nil_append, reduceCtorEq, not_true_eq_false, not_false_eq_true, l_sum, nI_0]
def ctak (c : xR → Nat → Int32) (w : Int32) (j : Nat) : Int32 := if c (6, j, 0) 2 < w then c (6, j, 0) 2 else w
def cu (c : xR → Nat → Int32) (w a so : Int32) : Nat → (xR → Nat → Int32) × Int32
  | 0 => (c, w)
  | j + 1 => if c (6, j, 0) 0 = a ∧ c (6, j, 0) 1 = so then (xu (cu c w a so j).1 (6, j, 0) 2 ((cu c w a so j).1 (6, j, 0) 2 - ctak (cu c w a so j).1 (cu c w a so j).2 j), (cu c w a so j).2 - ctak (cu c w a so j).1 (cu c w a so j).2 j) else cu c w a so j
theorem cu_n {w a so : Int32} {r : xR} {t : Nat} (hr : r.1 ≠ 6 ∨ t ≠ 2) : ∀ j, (cu c w a so j).1 r t = c r t
  | 0 => rfl
  | j + 1 => by
    have ih := cu_n (w := w) (a := a) (so := so) hr j
    rw [cu]
    split
    · dsimp only
      rcases hr with h | h
      · rw [xu_n (fun e => h (by rw [e])), ih]
      · rw [xu_t h, ih]
    · exact ih
theorem cu_nr {w a so : Int32} {r : xR} (hr : r.1 ≠ 6) (j : Nat) : (cu c w a so j).1 r = c r := funext fun _ => cu_n (Or.inl hr) j
theorem xw_cu {w a so : Int32} (W : xw h0 P c) : ∀ j, xw h0 P (cu c w a so j).1
  | 0 => W
  | j + 1 => by
    have ih := xw_cu (w := w) (a := a) (so := so) W j
    rw [cu]
    split
    · exact xw_6 ih
    · exact ih
theorem ctak_f {y : xR → Nat → Int32} {w : Int32} {j : Nat} : (if y (6, j, 0) 2 < w then y (6, j, 0) 2 else w) = ctak y w j := id rfl
theorem lc_use {a so v s : Int32} (w : xw h0 P c) (R : RR P c z) : ∀ d j, j + d = (z.1 2).toNatClampNeg → ∀ x6 x7, ez_nl x6 = true → ez_rn g 80 6 [some (.ref (P.2.2.1 (1, 0, 0))), some (.int a), some (.int so), some (.int s), some (.int (cu c v a so j).2), some (.int (nI j)), x6, x7] [] (xh h0 P (cu c v a so j).1) = some (none, xh h0 P (cu c v a so (z.1 2).toNatClampNeg).1) := by
  obtain ⟨l1, l21, l23, l16, l30, l31, l32, l210, l211, l33, l34⟩ := w_lvs w R.1; have ok := w.1
  obtain ⟨⟨a1, a2, a3, a4, a5⟩, ⟨b1, b2, b3⟩, ⟨d1, d2, d3⟩, m0, m1, m7, m36⟩ := R.2.1; have r1 := R.2.2.1; have r2 := R.2.2.2.1; have r5 := R.2.2.2.2.1; have r3 := R.2.2.2.2.2.1; have r4 := R.2.2.2.2.2.2.1; have rv := R.2.2.2.2.2.2.2; have r0 := R.2.1
  have hb := (md_inE r1.1).2
  intro d
  induction d with
  | zero =>
    intro j hj x6 x7 h6
    obtain rfl : j = (z.1 2).toNatClampNeg := by omega
    have s1 : (cu c v a so (z.1 2).toNatClampNeg).1 (3, 1, 0) 2 = nI (z.1 2).toNatClampNeg := by rw [cu_nr (show 3 ≠ 6 by decide)]; exact r1.2.1.1
    rw [s80_6]
    simp only [s80_0, s80_1, s80_3, s80_4, s80_8, s80_9, s80_12, s80_15, s80_18, s80_19, s80_22, s80_24, s80_27, s80_30, s80_32, s80_34, s80_35, s80_36, s80_39, s80_42, s80_44, s80_46, s80_49, s80_52, s80_54, s80_56, s80_57, s80_60, s80_62, s80_63, s80_66, s80_68, s80_70, s80_71, s80_73, s80_76, s80_79, zl_n, zl_i, zl_r, zl_0, z10, z01, ez_bd_s, ez_bd_n, eq_self, true_or, or_true, if_true, if_false, zb_eq, zb_eq1, zb_em, zb_em2, ite_not, List.append_nil, List.cons_append, List.nil_append, reduceCtorEq, not_true_eq_false, not_false_eq_true, xo1, xa1, xf1_0, xv1_0, xp1_0, xf1_1, xv1_1, xf1_2, xv1_2, xp1_2, xf1_3, xv1_3, xf1_4, xv1_4, xf1_5, xv1_5, xp1_5, xf1_6, xv1_6, xp1_6, xf1_7, xv1_7, xf1_8, xv1_8, xf1_9, xv1_9, xf1_10, xv1_10, xf1_11, xv1_11, xf1_12, xv1_12, xf1_13, xv1_13, xf1_14, xv1_14, xp1_14, xo3, xa3, xf3_0, xv3_0, xp3_0, xf3_1, xv3_1, xf3_2, xv3_2, xp3_2, xo5, xa5, xf5_0, xv5_0, xp5_0, xf5_1, xv5_1, xp5_1, xf5_2, xv5_2, xp5_2, xf5_3, xv5_3, xp5_3, xf5_4, xv5_4, xp5_4, xf5_5, xv5_5, xp5_5, xf5_6, xv5_6, xp5_6, xf5_7, xv5_7, xp5_7, xf5_8, xv5_8, xp5_8, xf5_9, xv5_9, xp5_9, xf5_10, xv5_10, xp5_10, xf5_11, xv5_11, xp5_11, xf5_12, xv5_12, xp5_12, xo6, xa6, xf6_0, xv6_0, xp6_0, xf6_1, xv6_1, xp6_1, xf6_2, xv6_2, xp6_2, xo7, xa7, xf7_0, xv7_0, xp7_0, xf7_1, xv7_1, xp7_1, xf7_2, xv7_2, xp7_2, xf7_3, xv7_3, xp7_3, xf7_4, xv7_4, xf7_5, xv7_5, xo8, xa8, xf8_0, xv8_0, xp8_0, xf8_1, xv8_1, xo10, xa10, xf10_0, xv10_0, xp10_0, xf10_1, xv10_1, xp10_1, xf10_2, xv10_2, xp10_2, xf10_3, xv10_3, xf10_4, xv10_4, xo12, xa12, xf12_0, xv12_0, xf12_1, xv12_1, xp12_1, xf12_2, xv12_2, xp12_2, xf12_3, xv12_3, xp12_3, xf12_4, xv12_4, xo13, xa13, xf13_0, xv13_0, xf13_1, xv13_1, xp13_1, xo14, xa14, xf14_0, xv14_0, xf14_1, xv14_1, xp14_1, xf14_2, xv14_2, xp14_2, xf14_3, xv14_3, xp14_3, ya2_1, yw2_1, yv2_1, yp2_1, yn2_1, yl2_1, ya2_3, yw2_3, yv2_3, yp2_3, yn2_3, yl2_3, ya2_10, yw2_10, yv2_10, yp2_10, yn2_10, yl2_10, ya2_11, yw2_11, yv2_11, yp2_11, yn2_11, yl2_11, ya9, yw9, yv9, yp9, yn9, yl9, ya11, yw11, yv11, yp11, yn11, yl11, ya15, yw15, yv15, yp15, yn15, yl15, ya16, yw16, yv16, yp16, yn16, yl16, ok10, ok11, ok1i, xu_s, xu_n, ne_eq, Prod.mk.injEq, Nat.reduceEqDiff, false_and, and_false, not_false_eq_true, l1, l21, l23, l16, l30, l31, l32, l210, l211, l33, l34, ok, q_size, s1, nI_leT (Nat.le_refl (z.1 2).toNatClampNeg) (by omega)]
  | succ d ih =>
    intro j hj x6 x7 h6
    have s1 : lsz P (cu c v a so j).1 1 0 (z.1 2).toNatClampNeg := lsz_cg r1.2.1 rfl (by rw [cu_nr (show 3 ≠ 6 by decide)]) (cu_nr (show 4 ≠ 6 by decide) _)
    obtain ⟨q, l6⟩ := g_get (g := g) (v := j) (xw_cu w j) l31 s1 (show j < (z.1 2).toNatClampNeg by omega) (by omega) (by rw [cu_nr (show 4 ≠ 6 by decide)]; exact (r1.2.2 j (by omega)).1)
    have q : ez_ev g 153 [.ref (P.2.2.1 (3, 1, 0)), .int (nI j)] (xh h0 P (cu c v a so j).1) = some (some (.ref (P.2.2.1 (6, j, 0))), xh h0 P (cu c v a so j).1) := q
    have l6 : lv P (6, j, 0) := l6
    have g0 : (cu c v a so j).1 (6, j, 0) 0 = c (6, j, 0) 0 := cu_n (Or.inr (by decide)) j
    have g1 : (cu c v a so j).1 (6, j, 0) 1 = c (6, j, 0) 1 := cu_n (Or.inr (by decide)) j
    have hx := ih (j + 1) (by omega) (some (.ref (P.2.2.1 (6, j, 0))))
    rw [cu] at hx
    rw [s80_6]
    simp only [s80_0, s80_1, s80_3, s80_4, s80_8, s80_9, s80_12, s80_15, s80_18, s80_19, s80_22, s80_24, s80_27, s80_30, s80_32, s80_34, s80_35, s80_36, s80_39, s80_42, s80_44, s80_46, s80_49, s80_52, s80_54, s80_56, s80_57, s80_60, s80_62, s80_63, s80_66, s80_68, s80_70, s80_71, s80_73, s80_76, s80_79, zl_n, zl_i, zl_r, zl_0, z10, z01, ez_bd_s, ez_bd_n, eq_self, true_or, or_true, if_true, if_false, zb_eq, zb_eq1, zb_em, zb_em2, ite_not, List.append_nil, List.cons_append, List.nil_append, reduceCtorEq, not_true_eq_false, not_false_eq_true, xo1, xa1, xf1_0, xv1_0, xp1_0, xf1_1, xv1_1, xf1_2, xv1_2, xp1_2, xf1_3, xv1_3, xf1_4, xv1_4, xf1_5, xv1_5, xp1_5, xf1_6, xv1_6, xp1_6, xf1_7, xv1_7, xf1_8, xv1_8, xf1_9, xv1_9, xf1_10, xv1_10, xf1_11, xv1_11, xf1_12, xv1_12, xf1_13, xv1_13, xf1_14, xv1_14, xp1_14, xo3, xa3, xf3_0, xv3_0, xp3_0, xf3_1, xv3_1, xf3_2, xv3_2, xp3_2, xo5, xa5, xf5_0, xv5_0, xp5_0, xf5_1, xv5_1, xp5_1, xf5_2, xv5_2, xp5_2, xf5_3, xv5_3, xp5_3, xf5_4, xv5_4, xp5_4, xf5_5, xv5_5, xp5_5, xf5_6, xv5_6, xp5_6, xf5_7, xv5_7, xp5_7, xf5_8, xv5_8, xp5_8, xf5_9, xv5_9, xp5_9, xf5_10, xv5_10, xp5_10, xf5_11, xv5_11, xp5_11, xf5_12, xv5_12, xp5_12, xo6, xa6, xf6_0, xv6_0, xp6_0, xf6_1, xv6_1, xp6_1, xf6_2, xv6_2, xp6_2, xo7, xa7, xf7_0, xv7_0, xp7_0, xf7_1, xv7_1, xp7_1, xf7_2, xv7_2, xp7_2, xf7_3, xv7_3, xp7_3, xf7_4, xv7_4, xf7_5, xv7_5, xo8, xa8, xf8_0, xv8_0, xp8_0, xf8_1, xv8_1, xo10, xa10, xf10_0, xv10_0, xp10_0, xf10_1, xv10_1, xp10_1, xf10_2, xv10_2, xp10_2, xf10_3, xv10_3, xf10_4, xv10_4, xo12, xa12, xf12_0, xv12_0, xf12_1, xv12_1, xp12_1, xf12_2, xv12_2, xp12_2, xf12_3, xv12_3, xp12_3, xf12_4, xv12_4, xo13, xa13, xf13_0, xv13_0, xf13_1, xv13_1, xp13_1, xo14, xa14, xf14_0, xv14_0, xf14_1, xv14_1, xp14_1, xf14_2, xv14_2, xp14_2, xf14_3, xv14_3, xp14_3, ya2_1, yw2_1, yv2_1, yp2_1, yn2_1, yl2_1, ya2_3, yw2_3, yv2_3, yp2_3, yn2_3, yl2_3, ya2_10, yw2_10, yv2_10, yp2_10, yn2_10, yl2_10, ya2_11, yw2_11, yv2_11, yp2_11, yn2_11, yl2_11, ya9, yw9, yv9, yp9, yn9, yl9, ya11, yw11, yv11, yp11, yn11, yl11, ya15, yw15, yv15, yp15, yn15, yl15, ya16, yw16, yv16, yp16, yn16, yl16, ok10, ok11, ok1i, xu_s, xu_n, ne_eq, Prod.mk.injEq, Nat.reduceEqDiff, false_and, and_false, not_false_eq_true, l1, l21, l23, l16, l30, l31, l32, l210, l211, l33, l34, ok, q_size, s1.1, nI_nleI (show j < (z.1 2).toNatClampNeg by omega) (by omega), q, l6, c_isFor l6, g0, g1, h6, ctak_f, nI_1]
    by_cases e1 : c (6, j, 0) 0 = a ∧ c (6, j, 0) 1 = so
    · rw [if_pos e1] at hx ⊢
      exact hx _ zl_r
    · rw [if_neg e1] at hx ⊢
      exact hx _ zl_r
theorem c_use {a so v : Int32} (w : xw h0 P c) (R : RR P c z) : ez_ev g 80 [.ref (P.2.2.1 (1, 0, 0)), .int a, .int so, .int v] (xh h0 P c) = some (none, xh h0 P (cu c v a so (z.1 2).toNatClampNeg).1) := by
  have lp := lc_use (g := g) (a := a) (so := so) (v := v) (s := v) w R _ 0 (Nat.zero_add _) none none zl_n
  rw [cu, nI_0] at lp
  rw [e80, ← lp]
  simp only [s80_0, s80_1, s80_3, s80_4, s80_8, s80_9, s80_12, s80_15, s80_18, s80_19, s80_22, s80_24, s80_27, s80_30, s80_32, s80_34, s80_35, s80_36, s80_39, s80_42, s80_44, s80_46, s80_49, s80_52, s80_54, s80_56, s80_57, s80_60, s80_62, s80_63, s80_66, s80_68, s80_70, s80_71, s80_73, s80_76, s80_79, zl_n, zl_i, zl_r, zl_0, z10, z01, ez_bd_s, ez_bd_n, eq_self, true_or, or_true, if_true, if_false, zb_eq, zb_eq1, zb_em, zb_em2, ite_not, List.append_nil, List.cons_append, List.nil_append, reduceCtorEq, not_true_eq_false, not_false_eq_true]
theorem cu_pu {y : md_S} {a so v : Int32} {n : Nat} (hv : md_in v 501 = true) (hR : ∀ j, j < n → c (6, j, 0) 0 = y.2 9 j ∧ c (6, j, 0) 1 = y.2 10 j ∧ c (6, j, 0) 2 = y.2 11 j ∧ md_in (y.2 11 j) 501 = true) : ∀ j, j ≤ n → (cu c v a so j).2 = (pu y v a so j).2 ∧ md_in (pu y v a so j).2 501 = true ∧ ∀ i, i < n → (cu c v a so j).1 (6, i, 0) 2 = (pu y v a so j).1.2 11 i ∧ md_in ((pu y v a so j).1.2 11 i) 501 = true
  | 0, _ => ⟨rfl, hv, fun i hi => (hR i hi).2.2⟩
  | j + 1, h => by
    obtain ⟨i1, i2, i3⟩ := cu_pu (a := a) (so := so) hv hR j (by omega)
    obtain ⟨x0, x1, -, -⟩ := hR j (by omega)
    obtain ⟨k1, k2⟩ := i3 j (by omega)
    rw [cu, pu, x0, x1]
    by_cases e1 : y.2 9 j = a
    · by_cases e2 : y.2 10 j = so
      · rw [if_pos ⟨e1, e2⟩, if_pos e1, if_pos e2]
        have et : ctak (cu c v a so j).1 (cu c v a so j).2 j = ptk (pu y v a so j).1 (pu y v a so j).2 j := by
          unfold ctak ptk
          rw [i1, k1]
        obtain ⟨p1, p2⟩ := md_inE i2
        obtain ⟨p3, p4⟩ := md_inE k2
        have eb : md_in ((pu y v a so j).2 - ptk (pu y v a so j).1 (pu y v a so j).2 j) 501 = true ∧ md_in ((pu y v a so j).1.2 11 j - ptk (pu y v a so j).1 (pu y v a so j).2 j) 501 = true := by
          unfold ptk
          generalize (pu y v a so j).2.toNatClampNeg = A at p1 p2
          generalize ((pu y v a so j).1.2 11 j).toNatClampNeg = B at p3 p4
          rw [p1, p3]
          have sub : ∀ a b : Nat, b ≤ a → nI a - nI b = nI (a - b) := fun a b hab => by
            conv => lhs; lhs; rw [show a = b + (a - b) by omega]
            exact nI_sb
          by_cases hlt : B < A
          · rw [if_pos (nI_lt hlt (by omega)), sub A B (by omega), sub B B (by omega)]
            exact ⟨md_inN (by omega) (by decide), md_inN (by omega) (by decide)⟩
          · rw [if_neg (nI_nlt (by omega) (by omega)), sub A A (by omega), sub B A (by omega)]
            exact ⟨md_inN (by omega) (by decide), md_inN (by omega) (by decide)⟩
        refine ⟨by dsimp only; rw [i1, ← et, i1], eb.1, fun i hi => ?_⟩
        dsimp only
        rw [md_A2, if_pos rfl]
        unfold upd
        by_cases e3 : i = j
        · subst e3
          rw [xu_s, if_pos rfl, if_pos rfl, k1, et]
          exact ⟨rfl, eb.2⟩
        · rw [xu_n (by rintro ⟨⟩; exact e3 rfl), if_neg e3]
          exact i3 i hi
      · rw [if_neg (fun h => e2 h.2), if_pos e1, if_neg e2]
        exact ⟨i1, i2, i3⟩
    · rw [if_neg (fun h => e1 h.1), if_neg e1]
      exact ⟨i1, i2, i3⟩
theorem pu_00 {y : md_S} {a so : Int32} : ∀ n, (∀ j, j < n → 0 ≤ y.2 11 j) → (pu y 0 a so n).2 = 0 ∧ (pu y 0 a so n).1.2 11 = y.2 11
  | 0, _ => ⟨rfl, rfl⟩
  | n + 1, h => by
    obtain ⟨i1, i2⟩ := pu_00 (y := y) (a := a) (so := so) n (fun j hj => h j (by omega))
    rw [pu]
    have et : ptk (pu y 0 a so n).1 (pu y 0 a so n).2 n = 0 := by
      unfold ptk
      rw [i1, i2, if_neg (Int32.not_lt.mpr (h n (by omega)))]
    repeat' split
    · dsimp only
      rw [et, i1, md_A2, if_pos rfl, i2]
      refine ⟨rfl, ?_⟩
      funext i
      unfold upd
      split
      · next e => rw [e, Int32.sub_zero]
      · rfl
    · exact ⟨i1, i2⟩
    · exact ⟨i1, i2⟩
/-- a lot is made -/
def nlot (a sh so s d : Int32) (i : Nat) : Int32 := if i = 0 then a else if i = 1 then sh else if i = 2 then so else if i = 3 then s else if i = 4 then d else if i = 6 then -1 else if i = 9 then -1 else 0
theorem lq_bring {a sh so s b : Int32} {n : Nat} (hg : g.1 = P.1) (w : xw h0 P c) (l1 : lv P (1, 0, 0)) (hb : b = 0 ∨ b = 1) (hs : lsz P c 2 0 n) (hn : n < 150) (hnl : ¬ lv P (5, n, 0)) : ∃ h2 P2 c2, (∀ x5 x7, ez_rn g 51 123 [some (.ref (P.2.2.1 (1, 0, 0))), some (.int a), some (.int sh), some (.int so), some (.int s), x5, some (.int b), x7] [] (xh h0 P c) = some (some (.int (nI n)), xh h2 P2 c2)) ∧ xw h2 P2 c2 ∧ lsz P2 c2 2 0 (n + 1) ∧ (∀ r, r ≠ (5, n, 0) → r ≠ (3, 2, 0) → r ≠ (4, 2, 0) → c2 r = c r) ∧ c2 (4, 2, 0) = upd (c (4, 2, 0)) n (nI n) ∧ (∀ t, c2 (5, n, 0) t = if t = 5 then b else nlot a sh so s (c (1, 0, 0) 0) t) ∧ (∀ r, r ≠ (5, n, 0) → r ≠ (4, 2, 0) → P2.2.2.1 r = P.2.2.1 r) ∧ (∀ r, r.1 ≠ 0 → r ≠ (5, n, 0) → r ≠ (4, 2, 0) → (lv P2 r ↔ lv P r)) ∧ (∀ r, r ≠ (5, n, 0) → r ≠ (3, 2, 0) → P2.2.2.2 r = P.2.2.2 r) ∧ xfr h0 P h2 P2 2 413 := by
  have q0 := w.2.1 h0.2.1 (Nat.le_refl _)
  obtain ⟨h1, e1, w1, f1⟩ := x_new1 (r := (5, n, 0)) (f := nlot a sh so s (c (1, 0, 0) 0)) (E := .inr (5, [.int a, .int sh, .int so, .int s, .int (c (1, 0, 0) 0), .int 0, .int (-1), .int 0, .int 0, .int (-1), .int 0, .int 0, .int 0])) (n := 13) w (show 5 ≠ 0 by decide) (show 5 ≠ 4 by decide) hnl (fun h => absurd h (show ¬ 5 = 3 by decide)) rfl (fun r' hx => (show False from hx).elim)
  have pa : ∀ r, r ≠ (5, n, 0) → (pad P (5, n, 0) h0.2.1).2.2.1 r = P.2.2.1 r := fun r hr => pad_a hr
  have pr : (pad P (5, n, 0) h0.2.1).2.2.1 (5, n, 0) = h0.2.1 := pad_r
  have pc : ∀ r, r ≠ (5, n, 0) → (pad P (5, n, 0) h0.2.1).2.2.2 r = P.2.2.2 r := fun r hr => pad_c hr
  have pl : ∀ r, r.1 ≠ 0 → r ≠ (5, n, 0) → (lv (pad P (5, n, 0) h0.2.1) r ↔ lv P r) := fun r h0 hr => lv_pad q0 h0 hr
  have plr : lv (pad P (5, n, 0) h0.2.1) (5, n, 0) := lv_pad_r
  generalize pad P (5, n, 0) h0.2.1 = P1 at *
  have hc1 : ∀ r, r ≠ (5, n, 0) → xs c (5, n, 0) (nlot a sh so s (c (1, 0, 0) 0)) r = c r := fun r hr => xs_n hr
  have hcn : xs c (5, n, 0) (nlot a sh so s (c (1, 0, 0) 0)) (5, n, 0) = nlot a sh so s (c (1, 0, 0) 0) := xs_r
  generalize xs c (5, n, 0) (nlot a sh so s (c (1, 0, 0) 0)) = c1 at *
  obtain ⟨l1', l21, l23, l16, l30, l31, l32, l210, l211, l33, l34⟩ := w_lvs w l1
  have l32' := (pl (3, 2, 0) (by decide) (by rintro ⟨⟩)).mpr l32
  have l1p := (pl (1, 0, 0) (by decide) (by rintro ⟨⟩)).mpr l1
  have w1' : xw h1 P1 (xu c1 (5, n, 0) 5 b) := xw_5 w1
  have ok1 := w1.1
  obtain ⟨h2, P2, e2, w2, gr, s2⟩ := q_add (g := g) (L := 2) (i := 0) (n := n) (v := n) w1' (hg.trans f1.1.symm) l32' (lsz_cg hs (pc _ (by rintro ⟨⟩)) (by rw [xu_n (by rintro ⟨⟩), hc1 _ (by rintro ⟨⟩)]) (by rw [xu_n (by rintro ⟨⟩), hc1 _ (by rintro ⟨⟩)])) (by omega) (by omega) plr
  have e2 : ez_ev g 155 [.ref (P.2.2.1 (3, 2, 0)), .ref (xh h0 P c).2.1] (xh h1 P1 (xu c1 (5, n, 0) 5 b)) = some (some (.int 1), xh h2 P2 (xad (xu c1 (5, n, 0) 5 b) 2 0 n n)) := by
    rw [← pa (3, 2, 0) (by rintro ⟨⟩)]
    show ez_ev g 155 [_, .ref h0.2.1] _ = _
    rw [← pr]
    exact e2
  have t5 : ez_isF ((xh h1 P1 c1).1 (xh h0 P c).2.1) 5 5 = true := by
    show ez_isF ((xh h1 P1 c1).1 h0.2.1) 5 5 = true
    rw [← pr]
    exact xf5_5 plr
  have t6 : ez_hs (xh h1 P1 c1) (xh h0 P c).2.1 (ez_uF ((xh h1 P1 c1).1 (xh h0 P c).2.1) 5 (.int b)) = xh h1 P1 (xu c1 (5, n, 0) 5 b) := by
    show ez_hs (xh h1 P1 c1) h0.2.1 (ez_uF ((xh h1 P1 c1).1 h0.2.1) 5 (.int b)) = _
    rw [← pr]
    exact xp5_5 ok1 plr
  obtain ⟨u1, u2, u3, -⟩ := tops_2 (g := g) w1' l1p (pa _ (by rintro ⟨⟩)) (pa _ (by rintro ⟨⟩))
  have ea : ∀ r, r ≠ (5, n, 0) → r ≠ (4, 2, 0) → P2.2.2.1 r = P.2.2.1 r := fun r u1 u2 => (gr.1 r u2).trans (pa r u1)
  have el : ∀ r, r.1 ≠ 0 → r ≠ (5, n, 0) → r ≠ (4, 2, 0) → (lv P2 r ↔ lv P r) := fun r u0 u1 u2 => (gr.2.1 r u0 u2).trans (pl r u0 u1)
  obtain ⟨t1, t2, t3, t4⟩ := tops_2 (g := g) w2 ((el _ (by decide) (by rintro ⟨⟩) (by rintro ⟨⟩)).mpr l1) (ea _ (by rintro ⟨⟩) (by rintro ⟨⟩)) (ea _ (by rintro ⟨⟩) (by rintro ⟨⟩))
  rw [s2.1] at t4
  refine ⟨h2, P2, _, fun x5 x7 => ?_, w2, s2, fun r u1 u2 u3 => by rw [xad_n u2 u3, xu_n u1, hc1 r u1], by rw [xad_4, xu_n (by rintro ⟨⟩), hc1 _ (by rintro ⟨⟩)], fun t => by rw [xad_n (by rintro ⟨⟩) (by rintro ⟨⟩), xu_s, hcn], ea, el, fun r u1 u2 => (gr.2.2.1 r u2).trans (pc r u1), xfr_t f1 gr.2.2.2⟩
  have tn : ∀ (E : ez_E) (k : Nat), ez_isF ((ez_nw (xh h0 P c) E k).1 (P.2.2.1 (1, 0, 0))) 9 0 = true ∧ ez_vF ((ez_nw (xh h0 P c) E k).1 (P.2.2.1 (1, 0, 0))) 0 = .int (c (1, 0, 0) 0) := fun E k => by
    rw [xh_nw q0]
    exact ⟨xf1_0 l1, xv1_0 l1⟩
  rcases hb with rfl | rfl
  · simp only [s51_0, s51_1, s51_2, s51_5, s51_8, s51_9, s51_12, s51_15, s51_16, s51_19, s51_22, s51_24, s51_25, s51_28, s51_31, s51_34, s51_36, s51_37, s51_38, s51_39, s51_42, s51_45, s51_45n, s51_47, s51_47n, s51_49n, s51_49, s51_52, s51_52n, s51_54, s51_55, s51_56, s51_59, s51_60, s51_61, s51_62, s51_65, s51_68, s51_69, s51_72, s51_73, s51_75, s51_77, s51_80, s51_81, s51_82, s51_83, s51_86, s51_88, s51_91, s51_93, s51_94, s51_95, s51_98, s51_101, s51_104, s51_107, s51_109, s51_110, s51_112, s51_115, s51_116, s51_117, s51_118, s51_120, s51_123, s51_126, s51_127, s51_128, s51_129, s51_130, s51_132, s51_133, s51_136, s51_139, s51_141, s51_143, s51_145, s51_148, s51_149, s51_152, s51_154, s51_157, s51_158, s51_159, s51_162, s51_165, s51_166, s51_167, zl_n, zl_i, zl_r, zl_0, z10, z01, ez_bd_s, ez_bd_n, eq_self, true_or, or_true, if_true, if_false, zb_eq, zb_eq1, zb_em, zb_em2, ite_not, List.append_nil, List.cons_append, List.nil_append, reduceCtorEq, not_true_eq_false, not_false_eq_true, (tn _ _).1, (tn _ _).2, c_lotInit, e1, t5, t6, ok10, ok11, u1, u2, u3, e2, t1, t2, t3, t4, nI_pred]
  · simp only [s51_0, s51_1, s51_2, s51_5, s51_8, s51_9, s51_12, s51_15, s51_16, s51_19, s51_22, s51_24, s51_25, s51_28, s51_31, s51_34, s51_36, s51_37, s51_38, s51_39, s51_42, s51_45, s51_45n, s51_47, s51_47n, s51_49n, s51_49, s51_52, s51_52n, s51_54, s51_55, s51_56, s51_59, s51_60, s51_61, s51_62, s51_65, s51_68, s51_69, s51_72, s51_73, s51_75, s51_77, s51_80, s51_81, s51_82, s51_83, s51_86, s51_88, s51_91, s51_93, s51_94, s51_95, s51_98, s51_101, s51_104, s51_107, s51_109, s51_110, s51_112, s51_115, s51_116, s51_117, s51_118, s51_120, s51_123, s51_126, s51_127, s51_128, s51_129, s51_130, s51_132, s51_133, s51_136, s51_139, s51_141, s51_143, s51_145, s51_148, s51_149, s51_152, s51_154, s51_157, s51_158, s51_159, s51_162, s51_165, s51_166, s51_167, zl_n, zl_i, zl_r, zl_0, z10, z01, ez_bd_s, ez_bd_n, eq_self, true_or, or_true, if_true, if_false, zb_eq, zb_eq1, zb_em, zb_em2, ite_not, List.append_nil, List.cons_append, List.nil_append, reduceCtorEq, not_true_eq_false, not_false_eq_true, (tn _ _).1, (tn _ _).2, c_lotInit, e1, t5, t6, ok10, ok11, u1, u2, u3, e2, t1, t2, t3, t4, nI_pred]
end OC
