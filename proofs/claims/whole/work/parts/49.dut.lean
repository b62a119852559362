section O4
variable {g : ez_G} {h h0 : ez_H} {P : xP} {c : xR → Nat → Int32} {z : md_S}
theorem c_fits {t k m : Nat} {mk v : Int32} (hm : md_in mk 3 = true) (hk : mk.toNatClampNeg = m) (l8 : lv P (8, t, k)) (l9 : lv P (9, t, k)) : ez_ev g 3 [.ref (P.2.2.1 (8, t, k)), .int mk, .int v] (xh h0 P c) = some (some (.int (if c (9, t, k) m = -1 ∨ c (9, t, k) m = v then 1 else 0)), xh h0 P c) := by
  rw [e3]
  simp only [s3_0, s3_1, s3_4, s3_5, s3_6, s3_7, s3_10, s3_11, s3_14, s3_15, s3_16, s3_17, s3_20, s3_21, s3_24, s3_25, zl_n, zl_i, zl_r, zl_0, z10, z01, ez_bd_s, ez_bd_n, eq_self, true_or, or_true, if_true, if_false, zb_eq, zb_eq1, zb_em, zb_em2, ite_not, List.append_nil, List.cons_append, List.nil_append, reduceCtorEq, not_true_eq_false, not_false_eq_true, xo1, xa1, xf1_0, xv1_0, xp1_0, xf1_1, xv1_1, xf1_2, xv1_2, xp1_2, xf1_3, xv1_3, xf1_4, xv1_4, xf1_5, xv1_5, xp1_5, xf1_6, xv1_6, xp1_6, xf1_7, xv1_7, xf1_8, xv1_8, xf1_9, xv1_9, xf1_10, xv1_10, xf1_11, xv1_11, xf1_12, xv1_12, xf1_13, xv1_13, xf1_14, xv1_14, xp1_14, xo3, xa3, xf3_0, xv3_0, xp3_0, xf3_1, xv3_1, xf3_2, xv3_2, xp3_2, xo5, xa5, xf5_0, xv5_0, xp5_0, xf5_1, xv5_1, xp5_1, xf5_2, xv5_2, xp5_2, xf5_3, xv5_3, xp5_3, xf5_4, xv5_4, xp5_4, xf5_5, xv5_5, xp5_5, xf5_6, xv5_6, xp5_6, xf5_7, xv5_7, xp5_7, xf5_8, xv5_8, xp5_8, xf5_9, xv5_9, xp5_9, xf5_10, xv5_10, xp5_10, xf5_11, xv5_11, xp5_11, xf5_12, xv5_12, xp5_12, xo6, xa6, xf6_0, xv6_0, xp6_0, xf6_1, xv6_1, xp6_1, xf6_2, xv6_2, xp6_2, xo7, xa7, xf7_0, xv7_0, xp7_0, xf7_1, xv7_1, xp7_1, xf7_2, xv7_2, xp7_2, xf7_3, xv7_3, xp7_3, xf7_4, xv7_4, xf7_5, xv7_5, xo8, xa8, xf8_0, xv8_0, xp8_0, xf8_1, xv8_1, xo10, xa10, xf10_0, xv10_0, xp10_0, xf10_1, xv10_1, xp10_1, xf10_2, xv10_2, xp10_2, xf10_3, xv10_3, xf10_4, xv10_4, xo12, xa12, xf12_0, xv12_0, xf12_1, xv12_1, xp12_1, xf12_2, xv12_2, xp12_2, xf12_3, xv12_3, xp12_3, xf12_4, xv12_4, xo13, xa13, xf13_0, xv13_0, xf13_1, xv13_1, xp13_1, xo14, xa14, xf14_0, xv14_0, xf14_1, xv14_1, xp14_1, xf14_2, xv14_2, xp14_2, xf14_3, xv14_3, xp14_3, ya2_1, yw2_1, yv2_1, yp2_1, yn2_1, yl2_1, ya2_3, yw2_3, yv2_3, yp2_3, yn2_3, yl2_3, ya2_10, yw2_10, yv2_10, yp2_10, yn2_10, yl2_10, ya2_11, yw2_11, yv2_11, yp2_11, yn2_11, yl2_11, ya9, yw9, yv9, yp9, yn9, yl9, ya11, yw11, yv11, yp11, yn11, yl11, ya15, yw15, yv15, yp15, yn15, yl15, ya16, yw16, yv16, yp16, yn16, yl16, ok10, ok11, ok1i, xu_s, xu_n, ne_eq, Prod.mk.injEq, Nat.reduceEqDiff, false_and, and_false, not_false_eq_true, l8, l9, hm, hk]
  by_cases e1 : c (9, t, k) m = -1
  · rw [if_pos e1, if_pos (Or.inl e1)]
  · rw [if_neg e1]
    by_cases e2 : c (9, t, k) m = v
    · rw [if_pos e2, if_pos (Or.inr e2)]
    · rw [if_neg e2, if_neg (fun h => h.elim e1 e2)]
/-- a clause holds -/
abbrev Hh (f : Nat → Int32) (so mn sh : Int32) : Prop := (f 0 = -1 ∨ f 0 = so) ∧ (f 1 = -1 ∨ f 1 = mn) ∧ (f 2 = -1 ∨ f 2 = sh)
theorem c_holds {t k : Nat} {so mn sh : Int32} (l8 : lv P (8, t, k)) (l9 : lv P (9, t, k)) : ez_ev g 2 [.ref (P.2.2.1 (8, t, k)), .int so, .int mn, .int sh] (xh h0 P c) = some (some (.int (if Hh (c (9, t, k)) so mn sh then 1 else 0)), xh h0 P c) := by
  have f0 := fun v => c_fits (g := g) (h0 := h0) (c := c) (mk := 0) (m := 0) (v := v) (by decide) (by decide) l8 l9
  have f1 := fun v => c_fits (g := g) (h0 := h0) (c := c) (mk := 1) (m := 1) (v := v) (by decide) (by decide) l8 l9
  have f2 := fun v => c_fits (g := g) (h0 := h0) (c := c) (mk := 2) (m := 2) (v := v) (by decide) (by decide) l8 l9
  rw [e2]
  simp only [s2_0, s2_1, s2_2, s2_3, s2_6, s2_9, s2_10, s2_11, s2_12, s2_15, s2_18, s2_19, s2_20, s2_21, s2_24, s2_27, s2_28, s2_31, s2_32, zl_n, zl_i, zl_r, zl_0, z10, z01, ez_bd_s, ez_bd_n, eq_self, true_or, or_true, if_true, if_false, zb_eq, zb_eq1, zb_em, zb_em2, ite_not, List.append_nil, List.cons_append, List.nil_append, reduceCtorEq, not_true_eq_false, not_false_eq_true, xo1, xa1, xf1_0, xv1_0, xp1_0, xf1_1, xv1_1, xf1_2, xv1_2, xp1_2, xf1_3, xv1_3, xf1_4, xv1_4, xf1_5, xv1_5, xp1_5, xf1_6, xv1_6, xp1_6, xf1_7, xv1_7, xf1_8, xv1_8, xf1_9, xv1_9, xf1_10, xv1_10, xf1_11, xv1_11, xf1_12, xv1_12, xf1_13, xv1_13, xf1_14, xv1_14, xp1_14, xo3, xa3, xf3_0, xv3_0, xp3_0, xf3_1, xv3_1, xf3_2, xv3_2, xp3_2, xo5, xa5, xf5_0, xv5_0, xp5_0, xf5_1, xv5_1, xp5_1, xf5_2, xv5_2, xp5_2, xf5_3, xv5_3, xp5_3, xf5_4, xv5_4, xp5_4, xf5_5, xv5_5, xp5_5, xf5_6, xv5_6, xp5_6, xf5_7, xv5_7, xp5_7, xf5_8, xv5_8, xp5_8, xf5_9, xv5_9, xp5_9, xf5_10, xv5_10, xp5_10, xf5_11, xv5_11, xp5_11, xf5_12, xv5_12, xp5_12, xo6, xa6, xf6_0, xv6_0, xp6_0, xf6_1, xv6_1, xp6_1, xf6_2, xv6_2, xp6_2, xo7, xa7, xf7_0, xv7_0, xp7_0, xf7_1, xv7_1, xp7_1, xf7_2, xv7_2, xp7_2, xf7_3, xv7_3, xp7_3, xf7_4, xv7_4, xf7_5, xv7_5, xo8, xa8, xf8_0, xv8_0, xp8_0, xf8_1, xv8_1, xo10, xa10, xf10_0, xv10_0, xp10_0, xf10_1, xv10_1, xp10_1, xf10_2, xv10_2, xp10_2, xf10_3, xv10_3, xf10_4, xv10_4, xo12, xa12, xf12_0, xv12_0, xf12_1, xv12_1, xp12_1, xf12_2, xv12_2, xp12_2, xf12_3, xv12_3, xp12_3, xf12_4, xv12_4, xo13, xa13, xf13_0, xv13_0, xf13_1, xv13_1, xp13_1, xo14, xa14, xf14_0, xv14_0, xf14_1, xv14_1, xp14_1, xf14_2, xv14_2, xp14_2, xf14_3, xv14_3, xp14_3, ya2_1, yw2_1, yv2_1, yp2_1, yn2_1, yl2_1, ya2_3, yw2_3, yv2_3, yp2_3, yn2_3, yl2_3, ya2_10, yw2_10, yv2_10, yp2_10, yn2_10, yl2_10, ya2_11, yw2_11, yv2_11, yp2_11, yn2_11, yl2_11, ya9, yw9, yv9, yp9, yn9, yl9, ya11, yw11, yv11, yp11, yn11, yl11, ya15, yw15, yv15, yp15, yn15, yl15, ya16, yw16, yv16, yp16, yn16, yl16, ok10, ok11, ok1i, xu_s, xu_n, ne_eq, Prod.mk.injEq, Nat.reduceEqDiff, false_and, and_false, not_false_eq_true, l8, l9, f0, f1, f2]
  by_cases e0 : c (9, t, k) 0 = -1 ∨ c (9, t, k) 0 = so
  · rw [if_pos e0]
    by_cases e1 : c (9, t, k) 1 = -1 ∨ c (9, t, k) 1 = mn
    · rw [if_pos e1]
      by_cases e2 : c (9, t, k) 2 = -1 ∨ c (9, t, k) 2 = sh
      · rw [if_pos e2, if_pos ⟨e0, e1, e2⟩]
      · rw [if_neg e2, if_neg (fun h => e2 h.2.2)]
    · rw [if_neg e1, if_neg (fun h => e1 h.2.1)]
  · rw [if_neg e0, if_neg (fun h => e0 h.1)]
def dk (c : xR → Nat → Int32) (t : Nat) (so mn sh : Int32) : Nat → Nat → Int32
  | 0, _ => 0
  | d + 1, j => if Hh (c (9, t, 2 * j)) so mn sh then c (8, t, 2 * j) 0 else dk c t so mn sh d (j + 1)
def bk (c : xR → Nat → Int32) (t : Nat) (so mn sh : Int32) : Nat → Nat → Int32
  | 0, _ => 0
  | d + 1, j => if Hh (c (9, t, 2 * j + 1)) so mn sh then 1 else bk c t so mn sh d (j + 1)
theorem lc_duty {t n : Nat} {so mn sh : Int32} (w : xw h0 P c) (l7 : lv P (7, t, 0)) (l35 : lv P (3, 5, t)) (hs : lsz P c 5 t n) (hn : n ≤ 16) (hg : ∀ j, j < n → c (4, 5, t) j = nI j) : ∀ d j, j + d = n → ∀ x5, ez_rn g 38 3 [some (.ref (P.2.2.1 (7, t, 0))), some (.int so), some (.int mn), some (.int sh), some (.int (nI j)), x5] [] (xh h0 P c) = some (some (.int (dk c t so mn sh d j)), xh h0 P c) := by
  intro d
  induction d with
  | zero =>
    intro j hj x5
    obtain rfl : j = n := by omega
    rw [s38_3]
    simp only [s38_0, s38_1, s38_5, s38_6, s38_9, s38_12, s38_15, s38_16, s38_19, s38_21, s38_24, s38_27, s38_29, s38_31, s38_32, s38_33, s38_34, s38_37, s38_40, s38_42, s38_45, s38_46, s38_49, s38_52, s38_53, zl_n, zl_i, zl_r, zl_0, z10, z01, ez_bd_s, ez_bd_n, eq_self, true_or, or_true, if_true, if_false, zb_eq, zb_eq1, zb_em, zb_em2, ite_not, List.append_nil, List.cons_append, List.nil_append, reduceCtorEq, not_true_eq_false, not_false_eq_true, xo1, xa1, xf1_0, xv1_0, xp1_0, xf1_1, xv1_1, xf1_2, xv1_2, xp1_2, xf1_3, xv1_3, xf1_4, xv1_4, xf1_5, xv1_5, xp1_5, xf1_6, xv1_6, xp1_6, xf1_7, xv1_7, xf1_8, xv1_8, xf1_9, xv1_9, xf1_10, xv1_10, xf1_11, xv1_11, xf1_12, xv1_12, xf1_13, xv1_13, xf1_14, xv1_14, xp1_14, xo3, xa3, xf3_0, xv3_0, xp3_0, xf3_1, xv3_1, xf3_2, xv3_2, xp3_2, xo5, xa5, xf5_0, xv5_0, xp5_0, xf5_1, xv5_1, xp5_1, xf5_2, xv5_2, xp5_2, xf5_3, xv5_3, xp5_3, xf5_4, xv5_4, xp5_4, xf5_5, xv5_5, xp5_5, xf5_6, xv5_6, xp5_6, xf5_7, xv5_7, xp5_7, xf5_8, xv5_8, xp5_8, xf5_9, xv5_9, xp5_9, xf5_10, xv5_10, xp5_10, xf5_11, xv5_11, xp5_11, xf5_12, xv5_12, xp5_12, xo6, xa6, xf6_0, xv6_0, xp6_0, xf6_1, xv6_1, xp6_1, xf6_2, xv6_2, xp6_2, xo7, xa7, xf7_0, xv7_0, xp7_0, xf7_1, xv7_1, xp7_1, xf7_2, xv7_2, xp7_2, xf7_3, xv7_3, xp7_3, xf7_4, xv7_4, xf7_5, xv7_5, xo8, xa8, xf8_0, xv8_0, xp8_0, xf8_1, xv8_1, xo10, xa10, xf10_0, xv10_0, xp10_0, xf10_1, xv10_1, xp10_1, xf10_2, xv10_2, xp10_2, xf10_3, xv10_3, xf10_4, xv10_4, xo12, xa12, xf12_0, xv12_0, xf12_1, xv12_1, xp12_1, xf12_2, xv12_2, xp12_2, xf12_3, xv12_3, xp12_3, xf12_4, xv12_4, xo13, xa13, xf13_0, xv13_0, xf13_1, xv13_1, xp13_1, xo14, xa14, xf14_0, xv14_0, xf14_1, xv14_1, xp14_1, xf14_2, xv14_2, xp14_2, xf14_3, xv14_3, xp14_3, ya2_1, yw2_1, yv2_1, yp2_1, yn2_1, yl2_1, ya2_3, yw2_3, yv2_3, yp2_3, yn2_3, yl2_3, ya2_10, yw2_10, yv2_10, yp2_10, yn2_10, yl2_10, ya2_11, yw2_11, yv2_11, yp2_11, yn2_11, yl2_11, ya9, yw9, yv9, yp9, yn9, yl9, ya11, yw11, yv11, yp11, yn11, yl11, ya15, yw15, yv15, yp15, yn15, yl15, ya16, yw16, yv16, yp16, yn16, yl16, ok10, ok11, ok1i, xu_s, xu_n, ne_eq, Prod.mk.injEq, Nat.reduceEqDiff, false_and, and_false, not_false_eq_true, l7, l35, q_size, hs.1, nI_leT (Nat.le_refl j) (by omega), dk]
  | succ d ih =>
    intro j hj x5
    obtain ⟨q, l8⟩ := g_get (g := g) w l35 hs (show j < n by omega) (show j < 2 ^ 31 by omega) (hg j (by omega))
    have q : ez_ev g 153 [.ref (P.2.2.1 (3, 5, t)), .int (nI j)] (xh h0 P c) = some (some (.ref (P.2.2.1 (8, t, 2 * j))), xh h0 P c) := q
    have l8 : lv P (8, t, 2 * j) := l8
    have l9 : lv P (9, t, 2 * j) := xw_cl w l8 rfl (show 8 ≠ 0 by decide) (show 8 ≠ 3 by decide)
    have hx := ih (j + 1) (by omega)
    rw [s38_3]
    simp only [s38_0, s38_1, s38_5, s38_6, s38_9, s38_12, s38_15, s38_16, s38_19, s38_21, s38_24, s38_27, s38_29, s38_31, s38_32, s38_33, s38_34, s38_37, s38_40, s38_42, s38_45, s38_46, s38_49, s38_52, s38_53, zl_n, zl_i, zl_r, zl_0, z10, z01, ez_bd_s, ez_bd_n, eq_self, true_or, or_true, if_true, if_false, zb_eq, zb_eq1, zb_em, zb_em2, ite_not, List.append_nil, List.cons_append, List.nil_append, reduceCtorEq, not_true_eq_false, not_false_eq_true, xo1, xa1, xf1_0, xv1_0, xp1_0, xf1_1, xv1_1, xf1_2, xv1_2, xp1_2, xf1_3, xv1_3, xf1_4, xv1_4, xf1_5, xv1_5, xp1_5, xf1_6, xv1_6, xp1_6, xf1_7, xv1_7, xf1_8, xv1_8, xf1_9, xv1_9, xf1_10, xv1_10, xf1_11, xv1_11, xf1_12, xv1_12, xf1_13, xv1_13, xf1_14, xv1_14, xp1_14, xo3, xa3, xf3_0, xv3_0, xp3_0, xf3_1, xv3_1, xf3_2, xv3_2, xp3_2, xo5, xa5, xf5_0, xv5_0, xp5_0, xf5_1, xv5_1, xp5_1, xf5_2, xv5_2, xp5_2, xf5_3, xv5_3, xp5_3, xf5_4, xv5_4, xp5_4, xf5_5, xv5_5, xp5_5, xf5_6, xv5_6, xp5_6, xf5_7, xv5_7, xp5_7, xf5_8, xv5_8, xp5_8, xf5_9, xv5_9, xp5_9, xf5_10, xv5_10, xp5_10, xf5_11, xv5_11, xp5_11, xf5_12, xv5_12, xp5_12, xo6, xa6, xf6_0, xv6_0, xp6_0, xf6_1, xv6_1, xp6_1, xf6_2, xv6_2, xp6_2, xo7, xa7, xf7_0, xv7_0, xp7_0, xf7_1, xv7_1, xp7_1, xf7_2, xv7_2, xp7_2, xf7_3, xv7_3, xp7_3, xf7_4, xv7_4, xf7_5, xv7_5, xo8, xa8, xf8_0, xv8_0, xp8_0, xf8_1, xv8_1, xo10, xa10, xf10_0, xv10_0, xp10_0, xf10_1, xv10_1, xp10_1, xf10_2, xv10_2, xp10_2, xf10_3, xv10_3, xf10_4, xv10_4, xo12, xa12, xf12_0, xv12_0, xf12_1, xv12_1, xp12_1, xf12_2, xv12_2, xp12_2, xf12_3, xv12_3, xp12_3, xf12_4, xv12_4, xo13, xa13, xf13_0, xv13_0, xf13_1, xv13_1, xp13_1, xo14, xa14, xf14_0, xv14_0, xf14_1, xv14_1, xp14_1, xf14_2, xv14_2, xp14_2, xf14_3, xv14_3, xp14_3, ya2_1, yw2_1, yv2_1, yp2_1, yn2_1, yl2_1, ya2_3, yw2_3, yv2_3, yp2_3, yn2_3, yl2_3, ya2_10, yw2_10, yv2_10, yp2_10, yn2_10, yl2_10, ya2_11, yw2_11, yv2_11, yp2_11, yn2_11, yl2_11, ya9, yw9, yv9, yp9, yn9, yl9, ya11, yw11, yv11, yp11, yn11, yl11, ya15, yw15, yv15, yp15, yn15, yl15, ya16, yw16, yv16, yp16, yn16, yl16, ok10, ok11, ok1i, xu_s, xu_n, ne_eq, Prod.mk.injEq, Nat.reduceEqDiff, false_and, and_false, not_false_eq_true, l7, l35, l8, q_size, hs.1, nI_nleI (show j < n by omega) (by omega), q, c_holds l8 l9, nI_1, dk]
    by_cases e1 : Hh (c (9, t, 2 * j)) so mn sh
    · simp only [if_pos e1]
    · simp only [if_neg e1]
      exact hx _
theorem lc_forbids {t n : Nat} {so mn sh : Int32} (w : xw h0 P c) (l7 : lv P (7, t, 0)) (l35 : lv P (3, 6, t)) (hs : lsz P c 6 t n) (hn : n ≤ 16) (hg : ∀ j, j < n → c (4, 6, t) j = nI j) : ∀ d j, j + d = n → ez_rn g 39 3 [some (.ref (P.2.2.1 (7, t, 0))), some (.int so), some (.int mn), some (.int sh), some (.int (nI j))] [] (xh h0 P c) = some (some (.int (bk c t so mn sh d j)), xh h0 P c) := by
  intro d
  induction d with
  | zero =>
    intro j hj
    obtain rfl : j = n := by omega
    rw [s39_3]
    simp only [s39_0, s39_1, s39_5, s39_6, s39_9, s39_12, s39_15, s39_16, s39_19, s39_21, s39_24, s39_27, s39_28, s39_29, s39_30, s39_33, s39_36, s39_37, s39_38, s39_41, s39_44, s39_45, zl_n, zl_i, zl_r, zl_0, z10, z01, ez_bd_s, ez_bd_n, eq_self, true_or, or_true, if_true, if_false, zb_eq, zb_eq1, zb_em, zb_em2, ite_not, List.append_nil, List.cons_append, List.nil_append, reduceCtorEq, not_true_eq_false, not_false_eq_true, xo1, xa1, xf1_0, xv1_0, xp1_0, xf1_1, xv1_1, xf1_2, xv1_2, xp1_2, xf1_3, xv1_3, xf1_4, xv1_4, xf1_5, xv1_5, xp1_5, xf1_6, xv1_6, xp1_6, xf1_7, xv1_7, xf1_8, xv1_8, xf1_9, xv1_9, xf1_10, xv1_10, xf1_11, xv1_11, xf1_12, xv1_12, xf1_13, xv1_13, xf1_14, xv1_14, xp1_14, xo3, xa3, xf3_0, xv3_0, xp3_0, xf3_1, xv3_1, xf3_2, xv3_2, xp3_2, xo5, xa5, xf5_0, xv5_0, xp5_0, xf5_1, xv5_1, xp5_1, xf5_2, xv5_2, xp5_2, xf5_3, xv5_3, xp5_3, xf5_4, xv5_4, xp5_4, xf5_5, xv5_5, xp5_5, xf5_6, xv5_6, xp5_6, xf5_7, xv5_7, xp5_7, xf5_8, xv5_8, xp5_8, xf5_9, xv5_9, xp5_9, xf5_10, xv5_10, xp5_10, xf5_11, xv5_11, xp5_11, xf5_12, xv5_12, xp5_12, xo6, xa6, xf6_0, xv6_0, xp6_0, xf6_1, xv6_1, xp6_1, xf6_2, xv6_2, xp6_2, xo7, xa7, xf7_0, xv7_0, xp7_0, xf7_1, xv7_1, xp7_1, xf7_2, xv7_2, xp7_2, xf7_3, xv7_3, xp7_3, xf7_4, xv7_4, xf7_5, xv7_5, xo8, xa8, xf8_0, xv8_0, xp8_0, xf8_1, xv8_1, xo10, xa10, xf10_0, xv10_0, xp10_0, xf10_1, xv10_1, xp10_1, xf10_2, xv10_2, xp10_2, xf10_3, xv10_3, xf10_4, xv10_4, xo12, xa12, xf12_0, xv12_0, xf12_1, xv12_1, xp12_1, xf12_2, xv12_2, xp12_2, xf12_3, xv12_3, xp12_3, xf12_4, xv12_4, xo13, xa13, xf13_0, xv13_0, xf13_1, xv13_1, xp13_1, xo14, xa14, xf14_0, xv14_0, xf14_1, xv14_1, xp14_1, xf14_2, xv14_2, xp14_2, xf14_3, xv14_3, xp14_3, ya2_1, yw2_1, yv2_1, yp2_1, yn2_1, yl2_1, ya2_3, yw2_3, yv2_3, yp2_3, yn2_3, yl2_3, ya2_10, yw2_10, yv2_10, yp2_10, yn2_10, yl2_10, ya2_11, yw2_11, yv2_11, yp2_11, yn2_11, yl2_11, ya9, yw9, yv9, yp9, yn9, yl9, ya11, yw11, yv11, yp11, yn11, yl11, ya15, yw15, yv15, yp15, yn15, yl15, ya16, yw16, yv16, yp16, yn16, yl16, ok10, ok11, ok1i, xu_s, xu_n, ne_eq, Prod.mk.injEq, Nat.reduceEqDiff, false_and, and_false, not_false_eq_true, l7, l35, q_size, hs.1, nI_leT (Nat.le_refl j) (by omega), bk]
  | succ d ih =>
    intro j hj
    obtain ⟨q, l8⟩ := g_get (g := g) w l35 hs (show j < n by omega) (show j < 2 ^ 31 by omega) (hg j (by omega))
    have q : ez_ev g 153 [.ref (P.2.2.1 (3, 6, t)), .int (nI j)] (xh h0 P c) = some (some (.ref (P.2.2.1 (8, t, 2 * j + 1))), xh h0 P c) := q
    have l8 : lv P (8, t, 2 * j + 1) := l8
    have l9 : lv P (9, t, 2 * j + 1) := xw_cl w l8 rfl (show 8 ≠ 0 by decide) (show 8 ≠ 3 by decide)
    have hx := ih (j + 1) (by omega)
    rw [s39_3]
    simp only [s39_0, s39_1, s39_5, s39_6, s39_9, s39_12, s39_15, s39_16, s39_19, s39_21, s39_24, s39_27, s39_28, s39_29, s39_30, s39_33, s39_36, s39_37, s39_38, s39_41, s39_44, s39_45, zl_n, zl_i, zl_r, zl_0, z10, z01, ez_bd_s, ez_bd_n, eq_self, true_or, or_true, if_true, if_false, zb_eq, zb_eq1, zb_em, zb_em2, ite_not, List.append_nil, List.cons_append, List.nil_append, reduceCtorEq, not_true_eq_false, not_false_eq_true, xo1, xa1, xf1_0, xv1_0, xp1_0, xf1_1, xv1_1, xf1_2, xv1_2, xp1_2, xf1_3, xv1_3, xf1_4, xv1_4, xf1_5, xv1_5, xp1_5, xf1_6, xv1_6, xp1_6, xf1_7, xv1_7, xf1_8, xv1_8, xf1_9, xv1_9, xf1_10, xv1_10, xf1_11, xv1_11, xf1_12, xv1_12, xf1_13, xv1_13, xf1_14, xv1_14, xp1_14, xo3, xa3, xf3_0, xv3_0, xp3_0, xf3_1, xv3_1, xf3_2, xv3_2, xp3_2, xo5, xa5, xf5_0, xv5_0, xp5_0, xf5_1, xv5_1, xp5_1, xf5_2, xv5_2, xp5_2, xf5_3, xv5_3, xp5_3, xf5_4, xv5_4, xp5_4, xf5_5, xv5_5, xp5_5, xf5_6, xv5_6, xp5_6, xf5_7, xv5_7, xp5_7, xf5_8, xv5_8, xp5_8, xf5_9, xv5_9, xp5_9, xf5_10, xv5_10, xp5_10, xf5_11, xv5_11, xp5_11, xf5_12, xv5_12, xp5_12, xo6, xa6, xf6_0, xv6_0, xp6_0, xf6_1, xv6_1, xp6_1, xf6_2, xv6_2, xp6_2, xo7, xa7, xf7_0, xv7_0, xp7_0, xf7_1, xv7_1, xp7_1, xf7_2, xv7_2, xp7_2, xf7_3, xv7_3, xp7_3, xf7_4, xv7_4, xf7_5, xv7_5, xo8, xa8, xf8_0, xv8_0, xp8_0, xf8_1, xv8_1, xo10, xa10, xf10_0, xv10_0, xp10_0, xf10_1, xv10_1, xp10_1, xf10_2, xv10_2, xp10_2, xf10_3, xv10_3, xf10_4, xv10_4, xo12, xa12, xf12_0, xv12_0, xf12_1, xv12_1, xp12_1, xf12_2, xv12_2, xp12_2, xf12_3, xv12_3, xp12_3, xf12_4, xv12_4, xo13, xa13, xf13_0, xv13_0, xf13_1, xv13_1, xp13_1, xo14, xa14, xf14_0, xv14_0, xf14_1, xv14_1, xp14_1, xf14_2, xv14_2, xp14_2, xf14_3, xv14_3, xp14_3, ya2_1, yw2_1, yv2_1, yp2_1, yn2_1, yl2_1, ya2_3, yw2_3, yv2_3, yp2_3, yn2_3, yl2_3, ya2_10, yw2_10, yv2_10, yp2_10, yn2_10, yl2_10, ya2_11, yw2_11, yv2_11, yp2_11, yn2_11, yl2_11, ya9, yw9, yv9, yp9, yn9, yl9, ya11, yw11, yv11, yp11, yn11, yl11, ya15, yw15, yv15, yp15, yn15, yl15, ya16, yw16, yv16, yp16, yn16, yl16, ok10, ok11, ok1i, xu_s, xu_n, ne_eq, Prod.mk.injEq, Nat.reduceEqDiff, false_and, and_false, not_false_eq_true, l7, l35, l8, q_size, hs.1, nI_nleI (show j < n by omega) (by omega), q, c_holds l8 l9, nI_1, bk]
    by_cases e1 : Hh (c (9, t, 2 * j + 1)) so mn sh
    · simp only [if_pos e1]
    · simp only [if_neg e1]
      exact hx
theorem ck_le {w : Int32} {t : Nat} : ∀ s, ck z w t s ≤ s
  | 0 => Nat.le_refl _
  | s + 1 => by
    have := ck_le (w := w) (t := t) s
    rw [ck]
    split <;> omega
theorem ck_mono {w : Int32} {t s : Nat} : ∀ d, ck z w t s ≤ ck z w t (s + d)
  | 0 => Nat.le_refl _
  | d + 1 => by
    have := ck_mono (w := w) (t := t) (s := s) d
    rw [← Nat.add_assoc, ck]
    split <;> omega
theorem ck_ex {w : Int32} {t k : Nat} : ∀ n, k < ck z w t n → ∃ s, s < n ∧ z.2 44 (16 * t + s) = w ∧ ck z w t s = k
  | 0, h => by rw [ck] at h; omega
  | n + 1, h => by
    rw [ck] at h
    by_cases e : z.2 44 (16 * t + n) = w
    · rw [if_pos e] at h
      by_cases e2 : k = ck z w t n
      · exact ⟨n, by omega, e, e2.symm⟩
      · obtain ⟨s, h1, h2⟩ := ck_ex n (show k < ck z w t n by omega)
        exact ⟨s, by omega, h2⟩
    · rw [if_neg e] at h
      obtain ⟨s, h1, h2⟩ := ck_ex n h
      exact ⟨s, by omega, h2⟩
theorem RS_g5 {t n k : Nat} (r : RS P c z t n) (hk : k < ck z 0 t n) : c (4, 5, t) k = nI k := by
  obtain ⟨s, h1, h2, h3⟩ := ck_ex n hk
  have := ((r.2.2.2.2 s h1).2.1 h2).1
  rw [h3] at this
  exact this
theorem RS_g6 {t n k : Nat} (r : RS P c z t n) (hk : k < ck z 1 t n) : c (4, 6, t) k = nI k := by
  obtain ⟨s, h1, h2, h3⟩ := ck_ex n hk
  have := ((r.2.2.2.2 s h1).2.2 h2).1
  rw [h3] at this
  exact this
theorem ph_iff {a sh so : Int32} {s : Nat} : ∀ j, ph z a sh so s j = 1 ↔ ∀ k, k < j → cnd z s so (z.2 7 a.toNatClampNeg) sh k
  | 0 => ⟨fun _ k hk => absurd hk (by omega), fun _ => rfl⟩
  | j + 1 => by
    have ih := ph_iff (a := a) (sh := sh) (so := so) (s := s) j
    rw [ph]
    constructor
    · intro h k hk
      by_cases e0 : ph z a sh so s j = 0
      · rw [if_pos e0] at h
        exact absurd h (by decide)
      · rw [if_neg e0] at h
        by_cases e1 : phv z a sh so (3 * s + j) = z.2 48 (3 * s + j)
        · by_cases e2 : k = j
          · subst e2
            exact e1
          · exact ih.mp ((ph01 j).resolve_left e0) k (by omega)
        · rw [if_neg e1] at h
          exact absurd h (by decide)
    · intro h
      have h1 := ih.mpr (fun k hk => h k (by omega))
      have h2 : phv z a sh so (3 * s + j) = z.2 48 (3 * s + j) := h j (by omega)
      rw [h1, if_neg (by decide), if_pos h2]
theorem Hh_iff {f : Nat → Int32} {s n : Nat} {a sh so : Int32} (r : RC f z s n) (h1 : 0 ≤ so) (h2 : 0 ≤ z.2 7 a.toNatClampNeg) (h3 : 0 ≤ sh) (hn : (z.2 46 s).toNatClampNeg = n) : Hh f so (z.2 7 a.toNatClampNeg) sh ↔ ¬ phold z s a sh so = 0 := by
  unfold phold
  rw [hn]
  have h4 := r so (z.2 7 a.toNatClampNeg) sh h1 h2 h3
  have h5 := ph_iff (z := z) (a := a) (sh := sh) (so := so) (s := s) n
  have h6 := ph01 (z := z) (a := a) (sh := sh) (so := so) (s := s) n
  constructor
  · intro h e
    have := h5.mpr (h4.mp h)
    rw [e] at this
    exact absurd this (by decide)
  · intro h
    exact h4.mpr (h5.mp (h6.resolve_left h))
theorem dk_pdf {t n l : Nat} (r : RS P c z t n) (h1 : 0 ≤ z.2 14 l) (h2 : 0 ≤ z.2 7 (z.2 12 l).toNatClampNeg) (h3 : 0 ≤ z.2 13 l) : ∀ d s, s + d = n → z.2 15 l * dk c t (z.2 14 l) (z.2 7 (z.2 12 l).toNatClampNeg) (z.2 13 l) (ck z 0 t n - ck z 0 t s) (ck z 0 t s) = pdf z l t d s := by
  intro d
  induction d with
  | zero =>
    intro s hs
    obtain rfl : s = n := by omega
    rw [Nat.sub_self, dk, pdf, Int32.mul_zero]
  | succ d ih =>
    intro s hs
    have hx := ih (s + 1) (by omega)
    have hm := ck_mono (z := z) (w := 0) (t := t) (s := s + 1) d
    rw [show s + 1 + d = n by omega] at hm
    rw [pdf]
    rw [ck] at hx hm
    by_cases e : z.2 44 (16 * t + s) = 0
    · rw [if_pos e] at hx hm ⊢
      obtain ⟨v0, v1, -⟩ := r.2.2.2.2 s (by omega)
      obtain ⟨x1, x2, x3, x4⟩ := v1 e
      have hh := Hh_iff x4 h1 h2 h3 rfl
      rw [show ck z 0 t n - ck z 0 t s = (ck z 0 t n - (ck z 0 t s + 1)) + 1 by omega, dk]
      by_cases e2 : phold z (16 * t + s) (z.2 12 l) (z.2 13 l) (z.2 14 l) = 0
      · rw [if_pos e2, if_neg (fun h => hh.mp h e2)]
        exact hx
      · rw [if_neg e2, if_pos (hh.mpr e2), x2]
    · rw [if_neg e] at hx ⊢
      exact hx
theorem bk_pb {t n : Nat} {a sh so : Int32} (r : RS P c z t n) (h1 : 0 ≤ so) (h2 : 0 ≤ z.2 7 a.toNatClampNeg) (h3 : 0 ≤ sh) : ∀ d s, s + d = n → pb z a sh so t n = if pb z a sh so t s = 0 then bk c t so (z.2 7 a.toNatClampNeg) sh (ck z 1 t n - ck z 1 t s) (ck z 1 t s) else 1 := by
  intro d
  induction d with
  | zero =>
    intro s hs
    obtain rfl : s = n := by omega
    rw [Nat.sub_self, bk]
    rcases pb01 (z := z) (a := a) (sh := sh) (so := so) (t := t) s with e | e
    · rw [e, if_pos rfl]
    · rw [e, if_neg (by decide)]
  | succ d ih =>
    intro s hs
    have hx := ih (s + 1) (by omega)
    have hm := ck_mono (z := z) (w := 1) (t := t) (s := s + 1) d
    rw [show s + 1 + d = n by omega] at hm
    rw [ck] at hx hm
    rw [hx, pb]
    by_cases e0 : pb z a sh so t s = 0
    · rw [if_pos e0, if_pos e0]
      by_cases e : z.2 44 (16 * t + s) = 1
      · rw [if_pos e] at hm
        rw [if_pos e, if_pos e]
        obtain ⟨v0, -, v1⟩ := r.2.2.2.2 s (by omega)
        obtain ⟨x1, x4⟩ := v1 e
        have hh := Hh_iff x4 h1 h2 h3 rfl
        rw [show ck z 1 t n - ck z 1 t s = (ck z 1 t n - (ck z 1 t s + 1)) + 1 by omega, bk]
        by_cases e2 : phold z (16 * t + s) a sh so = 0
        · rw [if_pos e2, if_pos rfl, if_neg (fun h => hh.mp h e2)]
        · rw [if_neg e2, if_neg (by decide), if_pos (hh.mpr e2)]
      · rw [if_neg e, if_neg e, if_pos rfl]
    · rw [if_neg e0, if_neg e0, if_neg (by decide)]
theorem lv_sta (w : xw h0 P c) {t : Nat} (l7 : lv P (7, t, 0)) : lv P (3, 5, t) ∧ lv P (3, 6, t) := ⟨xw_cl w l7 (Or.inl rfl) (show 7 ≠ 0 by decide) (show 7 ≠ 3 by decide), xw_cl w l7 (Or.inr rfl) (show 7 ≠ 0 by decide) (show 7 ≠ 3 by decide)⟩
theorem c_dutyOf {t l : Nat} (w : xw h0 P c) (R : RR P c z) (ht : t < (z.1 40).toNatClampNeg) (l7 : lv P (7, t, 0)) (h1 : 0 ≤ z.2 14 l) (h2 : 0 ≤ z.2 7 (z.2 12 l).toNatClampNeg) (h3 : 0 ≤ z.2 13 l) : ∃ v, ez_ev g 38 [.ref (P.2.2.1 (7, t, 0)), .int (z.2 14 l), .int (z.2 7 (z.2 12 l).toNatClampNeg), .int (z.2 13 l)] (xh h0 P c) = some (some (.int v), xh h0 P c) ∧ z.2 15 l * v = pduty z (nI t) l := by
  obtain ⟨⟨a1, a2, a3, a4, a5⟩, ⟨b1, b2, b3⟩, ⟨d1, d2, d3⟩, m0, m1, m7, m36⟩ := R.2.1; have r1 := R.2.2.1; have r2 := R.2.2.2.1; have r5 := R.2.2.2.2.1; have r3 := R.2.2.2.2.2.1; have r4 := R.2.2.2.2.2.2.1; have rv := R.2.2.2.2.2.2.2; have r0 := R.2.1
  obtain ⟨-, -, -, v4, v5⟩ := r4.2.1 t ht
  have hb := (md_inE r4.1.1).2
  obtain ⟨e, hn⟩ := md_inE v4
  have hck := ck_le (z := z) (w := 0) (t := t) (z.2 41 t).toNatClampNeg
  have lp := lc_duty (g := g) (so := z.2 14 l) (mn := z.2 7 (z.2 12 l).toNatClampNeg) (sh := z.2 13 l) w l7 (lv_sta w l7).1 v5.2.2.1 (by omega) (fun j hj => RS_g5 v5 hj) _ 0 (Nat.zero_add _) none
  refine ⟨dk c t (z.2 14 l) (z.2 7 (z.2 12 l).toNatClampNeg) (z.2 13 l) (ck z 0 t (z.2 41 t).toNatClampNeg) 0, ?_, ?_⟩
  · rw [e38, ← lp]
    simp only [s38_0, s38_1, s38_5, s38_6, s38_9, s38_12, s38_15, s38_16, s38_19, s38_21, s38_24, s38_27, s38_29, s38_31, s38_32, s38_33, s38_34, s38_37, s38_40, s38_42, s38_45, s38_46, s38_49, s38_52, s38_53, zl_n, zl_i, zl_r, zl_0, z10, z01, ez_bd_s, ez_bd_n, eq_self, true_or, or_true, if_true, if_false, zb_eq, zb_eq1, zb_em, zb_em2, ite_not, List.append_nil, List.cons_append, List.nil_append, reduceCtorEq, not_true_eq_false, not_false_eq_true, nI_0]
  · have := dk_pdf v5 h1 h2 h3 (z.2 41 t).toNatClampNeg 0 (Nat.zero_add _)
    rw [ck, Nat.sub_zero] at this
    rw [this]
    unfold pduty
    rw [if_neg (by rw [nI_nm1 (by omega)]; exact id), nI_clamp (by omega)]
theorem c_forbids {t : Nat} {a sh so : Int32} (w : xw h0 P c) (R : RR P c z) (ht : t < (z.1 40).toNatClampNeg) (l7 : lv P (7, t, 0)) (h1 : 0 ≤ so) (h2 : 0 ≤ z.2 7 a.toNatClampNeg) (h3 : 0 ≤ sh) : ez_ev g 39 [.ref (P.2.2.1 (7, t, 0)), .int so, .int (z.2 7 a.toNatClampNeg), .int sh] (xh h0 P c) = some (some (.int (pbar z (nI t) a sh so)), xh h0 P c) := by
  obtain ⟨⟨a1, a2, a3, a4, a5⟩, ⟨b1, b2, b3⟩, ⟨d1, d2, d3⟩, m0, m1, m7, m36⟩ := R.2.1; have r1 := R.2.2.1; have r2 := R.2.2.2.1; have r5 := R.2.2.2.2.1; have r3 := R.2.2.2.2.2.1; have r4 := R.2.2.2.2.2.2.1; have rv := R.2.2.2.2.2.2.2; have r0 := R.2.1
  obtain ⟨-, -, -, v4, v5⟩ := r4.2.1 t ht
  have hb := (md_inE r4.1.1).2
  obtain ⟨e, hn⟩ := md_inE v4
  have hck := ck_le (z := z) (w := 1) (t := t) (z.2 41 t).toNatClampNeg
  have lp := lc_forbids (g := g) (so := so) (mn := z.2 7 a.toNatClampNeg) (sh := sh) w l7 (lv_sta w l7).2 v5.2.2.2.1 (by omega) (fun j hj => RS_g6 v5 hj) _ 0 (Nat.zero_add _)
  have hk := bk_pb v5 h1 h2 h3 (z.2 41 t).toNatClampNeg 0 (Nat.zero_add _)
  rw [pb, if_pos rfl, ck, Nat.sub_zero] at hk
  unfold pbar
  rw [if_neg (by rw [nI_nm1 (by omega)]; exact id), nI_clamp (by omega), hk, e39, ← lp]
  simp only [s39_0, s39_1, s39_5, s39_6, s39_9, s39_12, s39_15, s39_16, s39_19, s39_21, s39_24, s39_27, s39_28, s39_29, s39_30, s39_33, s39_36, s39_37, s39_38, s39_41, s39_44, s39_45, zl_n, zl_i, zl_r, zl_0, z10, z01, ez_bd_s, ez_bd_n, eq_self, true_or, or_true, if_true, if_false, zb_eq, zb_eq1, zb_em, zb_em2, ite_not, List.append_nil, List.cons_append, List.nil_append, reduceCtorEq, not_true_eq_false, not_false_eq_true, nI_0]
theorem e_dutyN {h : ez_H} {a0 a2 : Nat} : ez_ev g 78 [.ref a0, .null, .ref a2] h = ez_rn g 78 0 [some (.ref a0), some .null, some (.ref a2)] [] h := by
  unfold ez_ev
  rw [show ez_ml 78 = 3 by decide +kernel]
  rfl
theorem c_dutyN {h : ez_H} {p : Int32} {j a0 a2 : Nat} (hp : p = -1) : ez_ev g 78 [.ref a0, .null, .ref a2] h = some (some (.int (if z.2 22 j = 0 then pduty z p j else 0)), h) := by
  have e : (if z.2 22 j = 0 then pduty z p j else 0) = 0 := by
    unfold pduty
    rw [if_pos hp, ite_self]
  rw [e, e_dutyN]
  simp only [s78_0, s78_0n, s78_1n, s78_1, s78_4, s78_4n, s78_5, s78_8, s78_11, s78_12, s78_13, s78_13n, s78_14, s78_17, s78_17n, s78_18, s78_18n, s78_19, s78_22, s78_23, s78_26, s78_26n, s78_27, s78_30, s78_31, s78_31n, s78_32, s78_35, s78_38, s78_39, zl_n, zl_i, zl_r, zl_0, z10, z01, ez_bd_s, ez_bd_n, eq_self, true_or, or_true, if_true, if_false, zb_eq, zb_eq1, zb_em, zb_em2, ite_not, List.append_nil, List.cons_append, List.nil_append, reduceCtorEq, not_true_eq_false, not_false_eq_true]
theorem c_dutyBy {p : Int32} {j t : Nat} (w : xw h0 P c) (R : RR P c z) (ht : t < (z.1 40).toNatClampNeg) (l7 : lv P (7, t, 0)) (hp : p = nI t) (hj : j < (z.1 3).toNatClampNeg) (l5 : lv P (5, j, 0)) : ez_ev g 78 [.ref (P.2.2.1 (1, 0, 0)), .ref (P.2.2.1 (7, t, 0)), .ref (P.2.2.1 (5, j, 0))] (xh h0 P c) = some (some (.int (if z.2 22 j = 0 then pduty z p j else 0)), xh h0 P c) := by
  obtain ⟨l1, l21, l23, l16, l30, l31, l32, l210, l211, l33, l34⟩ := w_lvs w R.1; have ok := w.1
  obtain ⟨⟨a1, a2, a3, a4, a5⟩, ⟨b1, b2, b3⟩, ⟨d1, d2, d3⟩, m0, m1, m7, m36⟩ := R.2.1; have r1 := R.2.2.1; have r2 := R.2.2.2.1; have r5 := R.2.2.2.2.1; have r3 := R.2.2.2.2.2.1; have r4 := R.2.2.2.2.2.2.1; have rv := R.2.2.2.2.2.2.2; have r0 := R.2.1
  obtain ⟨y4, ⟨x0, x1, x2, x3, x4, x5, x6, x7, x8, x9, x10⟩, b12, b13, b14, b15, -⟩ := r2.2.2.1 j hj
  obtain ⟨e12, h12⟩ := md_inE b12
  obtain ⟨eM, hM⟩ := md_inE m1
  have p12 : md_in (z.2 12 j) 20 = true := md_inM b12 (by omega)
  have p7 := m7 _ h12
  have n0 : ∀ {v : Int32} {n : Nat}, md_in v n = true → n ≤ 2 ^ 31 → 0 ≤ v := fun h hn => by
    obtain ⟨e, h2⟩ := md_inE h
    rw [e]
    exact nI_pos' (by omega)
  rw [e78, hp]
  by_cases h1 : z.2 22 j = 0
  · rw [if_pos h1]
    obtain ⟨v, q2, e2⟩ := c_dutyOf (g := g) (l := j) w R ht l7 (n0 b14 (by decide)) (n0 p7 (by decide)) (n0 b13 (by decide))
    simp only [s78_0, s78_0n, s78_1n, s78_1, s78_4, s78_4n, s78_5, s78_8, s78_11, s78_12, s78_13, s78_13n, s78_14, s78_17, s78_17n, s78_18, s78_18n, s78_19, s78_22, s78_23, s78_26, s78_26n, s78_27, s78_30, s78_31, s78_31n, s78_32, s78_35, s78_38, s78_39, zl_n, zl_i, zl_r, zl_0, z10, z01, ez_bd_s, ez_bd_n, eq_self, true_or, or_true, if_true, if_false, zb_eq, zb_eq1, zb_em, zb_em2, ite_not, List.append_nil, List.cons_append, List.nil_append, reduceCtorEq, not_true_eq_false, not_false_eq_true, xo1, xa1, xf1_0, xv1_0, xp1_0, xf1_1, xv1_1, xf1_2, xv1_2, xp1_2, xf1_3, xv1_3, xf1_4, xv1_4, xf1_5, xv1_5, xp1_5, xf1_6, xv1_6, xp1_6, xf1_7, xv1_7, xf1_8, xv1_8, xf1_9, xv1_9, xf1_10, xv1_10, xf1_11, xv1_11, xf1_12, xv1_12, xf1_13, xv1_13, xf1_14, xv1_14, xp1_14, xo3, xa3, xf3_0, xv3_0, xp3_0, xf3_1, xv3_1, xf3_2, xv3_2, xp3_2, xo5, xa5, xf5_0, xv5_0, xp5_0, xf5_1, xv5_1, xp5_1, xf5_2, xv5_2, xp5_2, xf5_3, xv5_3, xp5_3, xf5_4, xv5_4, xp5_4, xf5_5, xv5_5, xp5_5, xf5_6, xv5_6, xp5_6, xf5_7, xv5_7, xp5_7, xf5_8, xv5_8, xp5_8, xf5_9, xv5_9, xp5_9, xf5_10, xv5_10, xp5_10, xf5_11, xv5_11, xp5_11, xf5_12, xv5_12, xp5_12, xo6, xa6, xf6_0, xv6_0, xp6_0, xf6_1, xv6_1, xp6_1, xf6_2, xv6_2, xp6_2, xo7, xa7, xf7_0, xv7_0, xp7_0, xf7_1, xv7_1, xp7_1, xf7_2, xv7_2, xp7_2, xf7_3, xv7_3, xp7_3, xf7_4, xv7_4, xf7_5, xv7_5, xo8, xa8, xf8_0, xv8_0, xp8_0, xf8_1, xv8_1, xo10, xa10, xf10_0, xv10_0, xp10_0, xf10_1, xv10_1, xp10_1, xf10_2, xv10_2, xp10_2, xf10_3, xv10_3, xf10_4, xv10_4, xo12, xa12, xf12_0, xv12_0, xf12_1, xv12_1, xp12_1, xf12_2, xv12_2, xp12_2, xf12_3, xv12_3, xp12_3, xf12_4, xv12_4, xo13, xa13, xf13_0, xv13_0, xf13_1, xv13_1, xp13_1, xo14, xa14, xf14_0, xv14_0, xf14_1, xv14_1, xp14_1, xf14_2, xv14_2, xp14_2, xf14_3, xv14_3, xp14_3, ya2_1, yw2_1, yv2_1, yp2_1, yn2_1, yl2_1, ya2_3, yw2_3, yv2_3, yp2_3, yn2_3, yl2_3, ya2_10, yw2_10, yv2_10, yp2_10, yn2_10, yl2_10, ya2_11, yw2_11, yv2_11, yp2_11, yn2_11, yl2_11, ya9, yw9, yv9, yp9, yn9, yl9, ya11, yw11, yv11, yp11, yn11, yl11, ya15, yw15, yv15, yp15, yn15, yl15, ya16, yw16, yv16, yp16, yn16, yl16, ok10, ok11, ok1i, xu_s, xu_n, ne_eq, Prod.mk.injEq, Nat.reduceEqDiff, false_and, and_false, not_false_eq_true, l1, l21, l23, l16, l30, l31, l32, l210, l211, l33, l34, ok, l7, l5, x5, h1, x0, x1, x2, x3, b1, p12, q2, e2]
  · rw [if_neg h1]
    simp only [s78_0, s78_0n, s78_1n, s78_1, s78_4, s78_4n, s78_5, s78_8, s78_11, s78_12, s78_13, s78_13n, s78_14, s78_17, s78_17n, s78_18, s78_18n, s78_19, s78_22, s78_23, s78_26, s78_26n, s78_27, s78_30, s78_31, s78_31n, s78_32, s78_35, s78_38, s78_39, zl_n, zl_i, zl_r, zl_0, z10, z01, ez_bd_s, ez_bd_n, eq_self, true_or, or_true, if_true, if_false, zb_eq, zb_eq1, zb_em, zb_em2, ite_not, List.append_nil, List.cons_append, List.nil_append, reduceCtorEq, not_true_eq_false, not_false_eq_true, xo1, xa1, xf1_0, xv1_0, xp1_0, xf1_1, xv1_1, xf1_2, xv1_2, xp1_2, xf1_3, xv1_3, xf1_4, xv1_4, xf1_5, xv1_5, xp1_5, xf1_6, xv1_6, xp1_6, xf1_7, xv1_7, xf1_8, xv1_8, xf1_9, xv1_9, xf1_10, xv1_10, xf1_11, xv1_11, xf1_12, xv1_12, xf1_13, xv1_13, xf1_14, xv1_14, xp1_14, xo3, xa3, xf3_0, xv3_0, xp3_0, xf3_1, xv3_1, xf3_2, xv3_2, xp3_2, xo5, xa5, xf5_0, xv5_0, xp5_0, xf5_1, xv5_1, xp5_1, xf5_2, xv5_2, xp5_2, xf5_3, xv5_3, xp5_3, xf5_4, xv5_4, xp5_4, xf5_5, xv5_5, xp5_5, xf5_6, xv5_6, xp5_6, xf5_7, xv5_7, xp5_7, xf5_8, xv5_8, xp5_8, xf5_9, xv5_9, xp5_9, xf5_10, xv5_10, xp5_10, xf5_11, xv5_11, xp5_11, xf5_12, xv5_12, xp5_12, xo6, xa6, xf6_0, xv6_0, xp6_0, xf6_1, xv6_1, xp6_1, xf6_2, xv6_2, xp6_2, xo7, xa7, xf7_0, xv7_0, xp7_0, xf7_1, xv7_1, xp7_1, xf7_2, xv7_2, xp7_2, xf7_3, xv7_3, xp7_3, xf7_4, xv7_4, xf7_5, xv7_5, xo8, xa8, xf8_0, xv8_0, xp8_0, xf8_1, xv8_1, xo10, xa10, xf10_0, xv10_0, xp10_0, xf10_1, xv10_1, xp10_1, xf10_2, xv10_2, xp10_2, xf10_3, xv10_3, xf10_4, xv10_4, xo12, xa12, xf12_0, xv12_0, xf12_1, xv12_1, xp12_1, xf12_2, xv12_2, xp12_2, xf12_3, xv12_3, xp12_3, xf12_4, xv12_4, xo13, xa13, xf13_0, xv13_0, xf13_1, xv13_1, xp13_1, xo14, xa14, xf14_0, xv14_0, xf14_1, xv14_1, xp14_1, xf14_2, xv14_2, xp14_2, xf14_3, xv14_3, xp14_3, ya2_1, yw2_1, yv2_1, yp2_1, yn2_1, yl2_1, ya2_3, yw2_3, yv2_3, yp2_3, yn2_3, yl2_3, ya2_10, yw2_10, yv2_10, yp2_10, yn2_10, yl2_10, ya2_11, yw2_11, yv2_11, yp2_11, yn2_11, yl2_11, ya9, yw9, yv9, yp9, yn9, yl9, ya11, yw11, yv11, yp11, yn11, yl11, ya15, yw15, yv15, yp15, yn15, yl15, ya16, yw16, yv16, yp16, yn16, yl16, ok10, ok11, ok1i, xu_s, xu_n, ne_eq, Prod.mk.injEq, Nat.reduceEqDiff, false_and, and_false, not_false_eq_true, l1, l21, l23, l16, l30, l31, l32, l210, l211, l33, l34, ok, l7, l5, x5, h1]
theorem pf_in {day : Int32} (h : md_in day 3001 = true) : pfd z day = pf z day (z.1 40).toNatClampNeg := by
  unfold pfd
  obtain ⟨e, h2⟩ := md_inE h
  rw [if_pos]
  rw [e]
  exact ⟨nI_pos' (by omega), nI_le (b := 3000) (by omega) (by decide)⟩
theorem o_over {l : Int32} (w : xw h0 P c) (R : RR P c z) : xop g 57 [.int l] h0 P c (z, pm_over z l) := by
  obtain ⟨l1, l21, l23, l16, l30, l31, l32, l210, l211, l33, l34⟩ := w_lvs w R.1; have ok := w.1
  obtain ⟨⟨a1, a2, a3, a4, a5⟩, ⟨b1, b2, b3⟩, ⟨d1, d2, d3⟩, m0, m1, m7, m36⟩ := R.2.1; have r1 := R.2.2.1; have r2 := R.2.2.2.1; have r5 := R.2.2.2.2.1; have r3 := R.2.2.2.2.2.1; have r4 := R.2.2.2.2.2.2.1; have rv := R.2.2.2.2.2.2.2; have r0 := R.2.1
  refine xop_s (c1 := c) ?_ w R
  obtain ⟨e, hb⟩ := md_inE r2.1
  rw [e57]
  unfold pm_over
  by_cases h1 : 0 ≤ l ∧ l ≤ z.1 3 - 1
  · rw [if_pos h1]
    rw [e] at h1
    obtain ⟨j, hj, rfl⟩ := ix_p (by omega) h1
    obtain ⟨q, l5⟩ := c_lotAt (g := g) w R hj
    have c1 : (nI j).toNatClampNeg = j := nI_clamp (by omega)
    rw [c1]
    obtain ⟨y4, ⟨x0, x1, x2, x3, x4, x5, x6, x7, x8, x9, x10⟩, b12, b13, b14, b15, b17, b20, ble, b21, b22, b217⟩ := r2.2.2.1 j hj
    by_cases h2 : z.2 21 j = -1
    · rw [if_pos h2]
      simp only [s57_0, s57_1, s57_2, s57_5, s57_5n, s57_6, s57_6n, s57_7n, s57_7, s57_10, s57_10n, s57_11, s57_14, s57_17, s57_18, s57_19, s57_20, s57_21, s57_21n, s57_22, s57_25, s57_28, s57_28n, s57_29, s57_29n, s57_32, s57_32n, s57_33, s57_36, s57_37, zl_n, zl_i, zl_r, zl_0, z10, z01, ez_bd_s, ez_bd_n, eq_self, true_or, or_true, if_true, if_false, zb_eq, zb_eq1, zb_em, zb_em2, ite_not, List.append_nil, List.cons_append, List.nil_append, reduceCtorEq, not_true_eq_false, not_false_eq_true, xo1, xa1, xf1_0, xv1_0, xp1_0, xf1_1, xv1_1, xf1_2, xv1_2, xp1_2, xf1_3, xv1_3, xf1_4, xv1_4, xf1_5, xv1_5, xp1_5, xf1_6, xv1_6, xp1_6, xf1_7, xv1_7, xf1_8, xv1_8, xf1_9, xv1_9, xf1_10, xv1_10, xf1_11, xv1_11, xf1_12, xv1_12, xf1_13, xv1_13, xf1_14, xv1_14, xp1_14, xo3, xa3, xf3_0, xv3_0, xp3_0, xf3_1, xv3_1, xf3_2, xv3_2, xp3_2, xo5, xa5, xf5_0, xv5_0, xp5_0, xf5_1, xv5_1, xp5_1, xf5_2, xv5_2, xp5_2, xf5_3, xv5_3, xp5_3, xf5_4, xv5_4, xp5_4, xf5_5, xv5_5, xp5_5, xf5_6, xv5_6, xp5_6, xf5_7, xv5_7, xp5_7, xf5_8, xv5_8, xp5_8, xf5_9, xv5_9, xp5_9, xf5_10, xv5_10, xp5_10, xf5_11, xv5_11, xp5_11, xf5_12, xv5_12, xp5_12, xo6, xa6, xf6_0, xv6_0, xp6_0, xf6_1, xv6_1, xp6_1, xf6_2, xv6_2, xp6_2, xo7, xa7, xf7_0, xv7_0, xp7_0, xf7_1, xv7_1, xp7_1, xf7_2, xv7_2, xp7_2, xf7_3, xv7_3, xp7_3, xf7_4, xv7_4, xf7_5, xv7_5, xo8, xa8, xf8_0, xv8_0, xp8_0, xf8_1, xv8_1, xo10, xa10, xf10_0, xv10_0, xp10_0, xf10_1, xv10_1, xp10_1, xf10_2, xv10_2, xp10_2, xf10_3, xv10_3, xf10_4, xv10_4, xo12, xa12, xf12_0, xv12_0, xf12_1, xv12_1, xp12_1, xf12_2, xv12_2, xp12_2, xf12_3, xv12_3, xp12_3, xf12_4, xv12_4, xo13, xa13, xf13_0, xv13_0, xf13_1, xv13_1, xp13_1, xo14, xa14, xf14_0, xv14_0, xf14_1, xv14_1, xp14_1, xf14_2, xv14_2, xp14_2, xf14_3, xv14_3, xp14_3, ya2_1, yw2_1, yv2_1, yp2_1, yn2_1, yl2_1, ya2_3, yw2_3, yv2_3, yp2_3, yn2_3, yl2_3, ya2_10, yw2_10, yv2_10, yp2_10, yn2_10, yl2_10, ya2_11, yw2_11, yv2_11, yp2_11, yn2_11, yl2_11, ya9, yw9, yv9, yp9, yn9, yl9, ya11, yw11, yv11, yp11, yn11, yl11, ya15, yw15, yv15, yp15, yn15, yl15, ya16, yw16, yv16, yp16, yn16, yl16, ok10, ok11, ok1i, xu_s, xu_n, ne_eq, Prod.mk.injEq, Nat.reduceEqDiff, false_and, and_false, not_false_eq_true, l1, l21, l23, l16, l30, l31, l32, l210, l211, l33, l34, ok, q, l5, c_isCus l5, x6, h2]
    · rw [if_neg h2]
      have fin : (if z.2 22 j = 0 then pduty z (pfd z (z.2 21 j)) j else 0) - z.2 17 j = if z.2 22 j = 0 then pduty z (pfd z (z.2 21 j)) j - z.2 17 j else 0 := by
        by_cases h3 : z.2 22 j = 0
        · rw [if_pos h3, if_pos h3]
        · rw [if_neg h3, if_neg h3, b22.resolve_left h3]
          rfl
      rcases c_inForce (g := g) (day := z.2 21 j) w R with ⟨e3, q3⟩ | ⟨t, ht, e3, q3, l7⟩
      · rw [← pf_in (b21.resolve_left h2)] at e3
        have q2 := c_dutyN (g := g) (h := xh h0 P c) (z := z) (j := j) (a0 := P.2.2.1 (1, 0, 0)) (a2 := P.2.2.1 (5, j, 0)) e3
        simp only [s57_0, s57_1, s57_2, s57_5, s57_5n, s57_6, s57_6n, s57_7n, s57_7, s57_10, s57_10n, s57_11, s57_14, s57_17, s57_18, s57_19, s57_20, s57_21, s57_21n, s57_22, s57_25, s57_28, s57_28n, s57_29, s57_29n, s57_32, s57_32n, s57_33, s57_36, s57_37, zl_n, zl_i, zl_r, zl_0, z10, z01, ez_bd_s, ez_bd_n, eq_self, true_or, or_true, if_true, if_false, zb_eq, zb_eq1, zb_em, zb_em2, ite_not, List.append_nil, List.cons_append, List.nil_append, reduceCtorEq, not_true_eq_false, not_false_eq_true, xo1, xa1, xf1_0, xv1_0, xp1_0, xf1_1, xv1_1, xf1_2, xv1_2, xp1_2, xf1_3, xv1_3, xf1_4, xv1_4, xf1_5, xv1_5, xp1_5, xf1_6, xv1_6, xp1_6, xf1_7, xv1_7, xf1_8, xv1_8, xf1_9, xv1_9, xf1_10, xv1_10, xf1_11, xv1_11, xf1_12, xv1_12, xf1_13, xv1_13, xf1_14, xv1_14, xp1_14, xo3, xa3, xf3_0, xv3_0, xp3_0, xf3_1, xv3_1, xf3_2, xv3_2, xp3_2, xo5, xa5, xf5_0, xv5_0, xp5_0, xf5_1, xv5_1, xp5_1, xf5_2, xv5_2, xp5_2, xf5_3, xv5_3, xp5_3, xf5_4, xv5_4, xp5_4, xf5_5, xv5_5, xp5_5, xf5_6, xv5_6, xp5_6, xf5_7, xv5_7, xp5_7, xf5_8, xv5_8, xp5_8, xf5_9, xv5_9, xp5_9, xf5_10, xv5_10, xp5_10, xf5_11, xv5_11, xp5_11, xf5_12, xv5_12, xp5_12, xo6, xa6, xf6_0, xv6_0, xp6_0, xf6_1, xv6_1, xp6_1, xf6_2, xv6_2, xp6_2, xo7, xa7, xf7_0, xv7_0, xp7_0, xf7_1, xv7_1, xp7_1, xf7_2, xv7_2, xp7_2, xf7_3, xv7_3, xp7_3, xf7_4, xv7_4, xf7_5, xv7_5, xo8, xa8, xf8_0, xv8_0, xp8_0, xf8_1, xv8_1, xo10, xa10, xf10_0, xv10_0, xp10_0, xf10_1, xv10_1, xp10_1, xf10_2, xv10_2, xp10_2, xf10_3, xv10_3, xf10_4, xv10_4, xo12, xa12, xf12_0, xv12_0, xf12_1, xv12_1, xp12_1, xf12_2, xv12_2, xp12_2, xf12_3, xv12_3, xp12_3, xf12_4, xv12_4, xo13, xa13, xf13_0, xv13_0, xf13_1, xv13_1, xp13_1, xo14, xa14, xf14_0, xv14_0, xf14_1, xv14_1, xp14_1, xf14_2, xv14_2, xp14_2, xf14_3, xv14_3, xp14_3, ya2_1, yw2_1, yv2_1, yp2_1, yn2_1, yl2_1, ya2_3, yw2_3, yv2_3, yp2_3, yn2_3, yl2_3, ya2_10, yw2_10, yv2_10, yp2_10, yn2_10, yl2_10, ya2_11, yw2_11, yv2_11, yp2_11, yn2_11, yl2_11, ya9, yw9, yv9, yp9, yn9, yl9, ya11, yw11, yv11, yp11, yn11, yl11, ya15, yw15, yv15, yp15, yn15, yl15, ya16, yw16, yv16, yp16, yn16, yl16, ok10, ok11, ok1i, xu_s, xu_n, ne_eq, Prod.mk.injEq, Nat.reduceEqDiff, false_and, and_false, not_false_eq_true, l1, l21, l23, l16, l30, l31, l32, l210, l211, l33, l34, ok, q, l5, c_isCus l5, x6, h2, q3, q2, x7, fin]
      · rw [← pf_in (b21.resolve_left h2)] at e3
        have q2 := c_dutyBy (g := g) w R ht l7 e3 hj l5
        simp only [s57_0, s57_1, s57_2, s57_5, s57_5n, s57_6, s57_6n, s57_7n, s57_7, s57_10, s57_10n, s57_11, s57_14, s57_17, s57_18, s57_19, s57_20, s57_21, s57_21n, s57_22, s57_25, s57_28, s57_28n, s57_29, s57_29n, s57_32, s57_32n, s57_33, s57_36, s57_37, zl_n, zl_i, zl_r, zl_0, z10, z01, ez_bd_s, ez_bd_n, eq_self, true_or, or_true, if_true, if_false, zb_eq, zb_eq1, zb_em, zb_em2, ite_not, List.append_nil, List.cons_append, List.nil_append, reduceCtorEq, not_true_eq_false, not_false_eq_true, xo1, xa1, xf1_0, xv1_0, xp1_0, xf1_1, xv1_1, xf1_2, xv1_2, xp1_2, xf1_3, xv1_3, xf1_4, xv1_4, xf1_5, xv1_5, xp1_5, xf1_6, xv1_6, xp1_6, xf1_7, xv1_7, xf1_8, xv1_8, xf1_9, xv1_9, xf1_10, xv1_10, xf1_11, xv1_11, xf1_12, xv1_12, xf1_13, xv1_13, xf1_14, xv1_14, xp1_14, xo3, xa3, xf3_0, xv3_0, xp3_0, xf3_1, xv3_1, xf3_2, xv3_2, xp3_2, xo5, xa5, xf5_0, xv5_0, xp5_0, xf5_1, xv5_1, xp5_1, xf5_2, xv5_2, xp5_2, xf5_3, xv5_3, xp5_3, xf5_4, xv5_4, xp5_4, xf5_5, xv5_5, xp5_5, xf5_6, xv5_6, xp5_6, xf5_7, xv5_7, xp5_7, xf5_8, xv5_8, xp5_8, xf5_9, xv5_9, xp5_9, xf5_10, xv5_10, xp5_10, xf5_11, xv5_11, xp5_11, xf5_12, xv5_12, xp5_12, xo6, xa6, xf6_0, xv6_0, xp6_0, xf6_1, xv6_1, xp6_1, xf6_2, xv6_2, xp6_2, xo7, xa7, xf7_0, xv7_0, xp7_0, xf7_1, xv7_1, xp7_1, xf7_2, xv7_2, xp7_2, xf7_3, xv7_3, xp7_3, xf7_4, xv7_4, xf7_5, xv7_5, xo8, xa8, xf8_0, xv8_0, xp8_0, xf8_1, xv8_1, xo10, xa10, xf10_0, xv10_0, xp10_0, xf10_1, xv10_1, xp10_1, xf10_2, xv10_2, xp10_2, xf10_3, xv10_3, xf10_4, xv10_4, xo12, xa12, xf12_0, xv12_0, xf12_1, xv12_1, xp12_1, xf12_2, xv12_2, xp12_2, xf12_3, xv12_3, xp12_3, xf12_4, xv12_4, xo13, xa13, xf13_0, xv13_0, xf13_1, xv13_1, xp13_1, xo14, xa14, xf14_0, xv14_0, xf14_1, xv14_1, xp14_1, xf14_2, xv14_2, xp14_2, xf14_3, xv14_3, xp14_3, ya2_1, yw2_1, yv2_1, yp2_1, yn2_1, yl2_1, ya2_3, yw2_3, yv2_3, yp2_3, yn2_3, yl2_3, ya2_10, yw2_10, yv2_10, yp2_10, yn2_10, yl2_10, ya2_11, yw2_11, yv2_11, yp2_11, yn2_11, yl2_11, ya9, yw9, yv9, yp9, yn9, yl9, ya11, yw11, yv11, yp11, yn11, yl11, ya15, yw15, yv15, yp15, yn15, yl15, ya16, yw16, yv16, yp16, yn16, yl16, ok10, ok11, ok1i, xu_s, xu_n, ne_eq, Prod.mk.injEq, Nat.reduceEqDiff, false_and, and_false, not_false_eq_true, l1, l21, l23, l16, l30, l31, l32, l210, l211, l33, l34, ok, q, l5, c_isCus l5, x6, h2, q3, l7, q2, x7, fin]
  · rw [if_neg h1]
    simp only [s57_0, s57_1, s57_2, s57_5, s57_5n, s57_6, s57_6n, s57_7n, s57_7, s57_10, s57_10n, s57_11, s57_14, s57_17, s57_18, s57_19, s57_20, s57_21, s57_21n, s57_22, s57_25, s57_28, s57_28n, s57_29, s57_29n, s57_32, s57_32n, s57_33, s57_36, s57_37, zl_n, zl_i, zl_r, zl_0, z10, z01, ez_bd_s, ez_bd_n, eq_self, true_or, or_true, if_true, if_false, zb_eq, zb_eq1, zb_em, zb_em2, ite_not, List.append_nil, List.cons_append, List.nil_append, reduceCtorEq, not_true_eq_false, not_false_eq_true, xo1, xa1, xf1_0, xv1_0, xp1_0, xf1_1, xv1_1, xf1_2, xv1_2, xp1_2, xf1_3, xv1_3, xf1_4, xv1_4, xf1_5, xv1_5, xp1_5, xf1_6, xv1_6, xp1_6, xf1_7, xv1_7, xf1_8, xv1_8, xf1_9, xv1_9, xf1_10, xv1_10, xf1_11, xv1_11, xf1_12, xv1_12, xf1_13, xv1_13, xf1_14, xv1_14, xp1_14, xo3, xa3, xf3_0, xv3_0, xp3_0, xf3_1, xv3_1, xf3_2, xv3_2, xp3_2, xo5, xa5, xf5_0, xv5_0, xp5_0, xf5_1, xv5_1, xp5_1, xf5_2, xv5_2, xp5_2, xf5_3, xv5_3, xp5_3, xf5_4, xv5_4, xp5_4, xf5_5, xv5_5, xp5_5, xf5_6, xv5_6, xp5_6, xf5_7, xv5_7, xp5_7, xf5_8, xv5_8, xp5_8, xf5_9, xv5_9, xp5_9, xf5_10, xv5_10, xp5_10, xf5_11, xv5_11, xp5_11, xf5_12, xv5_12, xp5_12, xo6, xa6, xf6_0, xv6_0, xp6_0, xf6_1, xv6_1, xp6_1, xf6_2, xv6_2, xp6_2, xo7, xa7, xf7_0, xv7_0, xp7_0, xf7_1, xv7_1, xp7_1, xf7_2, xv7_2, xp7_2, xf7_3, xv7_3, xp7_3, xf7_4, xv7_4, xf7_5, xv7_5, xo8, xa8, xf8_0, xv8_0, xp8_0, xf8_1, xv8_1, xo10, xa10, xf10_0, xv10_0, xp10_0, xf10_1, xv10_1, xp10_1, xf10_2, xv10_2, xp10_2, xf10_3, xv10_3, xf10_4, xv10_4, xo12, xa12, xf12_0, xv12_0, xf12_1, xv12_1, xp12_1, xf12_2, xv12_2, xp12_2, xf12_3, xv12_3, xp12_3, xf12_4, xv12_4, xo13, xa13, xf13_0, xv13_0, xf13_1, xv13_1, xp13_1, xo14, xa14, xf14_0, xv14_0, xf14_1, xv14_1, xp14_1, xf14_2, xv14_2, xp14_2, xf14_3, xv14_3, xp14_3, ya2_1, yw2_1, yv2_1, yp2_1, yn2_1, yl2_1, ya2_3, yw2_3, yv2_3, yp2_3, yn2_3, yl2_3, ya2_10, yw2_10, yv2_10, yp2_10, yn2_10, yl2_10, ya2_11, yw2_11, yv2_11, yp2_11, yn2_11, yl2_11, ya9, yw9, yv9, yp9, yn9, yl9, ya11, yw11, yv11, yp11, yn11, yl11, ya15, yw15, yv15, yp15, yn15, yl15, ya16, yw16, yv16, yp16, yn16, yl16, ok10, ok11, ok1i, xu_s, xu_n, ne_eq, Prod.mk.injEq, Nat.reduceEqDiff, false_and, and_false, not_false_eq_true, l1, l21, l23, l16, l30, l31, l32, l210, l211, l33, l34, ok, c_lotAt_n w R h1]
theorem pdf_b {t l n : Nat} (r : RS P c z t n) (h15 : md_in (z.2 15 l) 501 = true) : ∀ d s, s + d = n → md_in (pdf z l t d s) 500000 = true := by
  intro d
  induction d with
  | zero => intro s _; rw [pdf]; decide
  | succ d ih =>
    intro s hs
    have hx := ih (s + 1) (by omega)
    rw [pdf]
    by_cases e : z.2 44 (16 * t + s) = 0
    · rw [if_pos e]
      split
      · exact hx
      · obtain ⟨v0, v1, -⟩ := r.2.2.2.2 s (by omega)
        obtain ⟨x1, x2, x3, x4⟩ := v1 e
        obtain ⟨e1, i1⟩ := md_inE h15
        obtain ⟨e2, i2⟩ := md_inE x3
        rw [e1, e2, nI_mul]
        refine md_inN ?_ (by decide)
        have : (z.2 15 l).toNatClampNeg * (z.2 45 (16 * t + s)).toNatClampNeg ≤ 500 * 999 := Nat.mul_le_mul (by omega) (by omega)
        omega
    · rw [if_neg e]
      exact hx
end O4
