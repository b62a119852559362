section TL
variable {g : ez_G} {h h0 h2 : ez_H} {P P2 : xP} {c c' c2 : xR → Nat → Int32} {z Z : md_S} {N s j : Nat}
theorem lc_took (X : xst g P h0) (hj : j < 11) (l14 : lv P (14, 0, 0)) (l16 : lv P (16, 0, 0)) (h1 : c (14, 0, 0) 1 = nI N) (hN : N ≤ 600) (h2 : c (14, 0, 0) 2 = nI s) (hs : s + wl j ≤ N) : ∀ d i, i + d = wl j → ((∀ q, i ≤ q → q < wl j → c (16, 0, 0) (s + q) = nI (wb j q)) → ez_rn g 25 20 [some (.ref (P.2.2.1 (14, 0, 0))), some (.ref (g.2.1 j)), some (.int (nI i))] [] (xh h0 P c) = ez_rn g 25 54 [some (.ref (P.2.2.1 (14, 0, 0))), some (.ref (g.2.1 j)), some (.int (nI (wl j)))] [] (xh h0 P c)) ∧ ((∃ q, i ≤ q ∧ q < wl j ∧ ¬ c (16, 0, 0) (s + q) = nI (wb j q)) → ez_rn g 25 20 [some (.ref (P.2.2.1 (14, 0, 0))), some (.ref (g.2.1 j)), some (.int (nI i))] [] (xh h0 P c) = some (some (.int 0), xh h0 P c)) := by
  have x1 := (X.2 j hj).1
  have w6 := (wl6 j hj).1
  intro d
  induction d with
  | zero =>
    intro i hi
    obtain rfl : i = wl j := by omega
    refine ⟨fun _ => ?_, fun ⟨q, u1, u2, _⟩ => absurd u2 (by omega)⟩
    rw [s25_20]
    simp only [s25_0, s25_1, s25_4, s25_5, s25_8, s25_9, s25_9n, s25_10, s25_13, s25_16, s25_17, s25_18, s25_19, s25_21, s25_21n, s25_22, s25_25, s25_28, s25_29, s25_30, s25_33, s25_34, s25_35, s25_38, s25_38n, s25_39, s25_40, s25_43, s25_46, s25_47, s25_48, s25_51, s25_55, s25_58, s25_59, zl_n, zl_i, zl_r, zl_0, z10, z01, ez_bd_s, ez_bd_n, eq_self, true_or, or_true, if_true, if_false, zb_eq, zb_eq1, zb_em, zb_em2, ite_not, List.append_nil, List.cons_append, List.nil_append, reduceCtorEq, not_true_eq_false, not_false_eq_true, x1, Option.isSome_some, c_len X hj, nI_leT (Nat.le_refl (wl j)) (show wl j < 2 ^ 31 by omega)]
  | succ d ih =>
    intro i hi
    obtain ⟨i1, i2⟩ := ih (i + 1) (by omega)
    have qb := c_byteAt (g := g) (h0 := h0) (c := c) (p := s + i) l14 l16 h1 hN (by omega)
    rw [if_pos (by omega)] at qb
    have qc := c_chr (c := c) X hj (show i < wl j by omega)
    constructor
    · intro hm
      have hb := hm i (Nat.le_refl _) (by omega)
      rw [s25_20]
      simp only [s25_0, s25_1, s25_4, s25_5, s25_8, s25_9, s25_9n, s25_10, s25_13, s25_16, s25_17, s25_18, s25_19, s25_21, s25_21n, s25_22, s25_25, s25_28, s25_29, s25_30, s25_33, s25_34, s25_35, s25_38, s25_38n, s25_39, s25_40, s25_43, s25_46, s25_47, s25_48, s25_51, s25_55, s25_58, s25_59, zl_n, zl_i, zl_r, zl_0, z10, z01, ez_bd_s, ez_bd_n, eq_self, true_or, or_true, if_true, if_false, zb_eq, zb_eq1, zb_em, zb_em2, ite_not, List.append_nil, List.cons_append, List.nil_append, reduceCtorEq, not_true_eq_false, not_false_eq_true, xo1, xa1, xf1_0, xv1_0, xp1_0, xf1_1, xv1_1, xf1_2, xv1_2, xp1_2, xf1_3, xv1_3, xf1_4, xv1_4, xf1_5, xv1_5, xp1_5, xf1_6, xv1_6, xp1_6, xf1_7, xv1_7, xf1_8, xv1_8, xf1_9, xv1_9, xf1_10, xv1_10, xf1_11, xv1_11, xf1_12, xv1_12, xf1_13, xv1_13, xf1_14, xv1_14, xp1_14, xo3, xa3, xf3_0, xv3_0, xp3_0, xf3_1, xv3_1, xf3_2, xv3_2, xp3_2, xo5, xa5, xf5_0, xv5_0, xp5_0, xf5_1, xv5_1, xp5_1, xf5_2, xv5_2, xp5_2, xf5_3, xv5_3, xp5_3, xf5_4, xv5_4, xp5_4, xf5_5, xv5_5, xp5_5, xf5_6, xv5_6, xp5_6, xf5_7, xv5_7, xp5_7, xf5_8, xv5_8, xp5_8, xf5_9, xv5_9, xp5_9, xf5_10, xv5_10, xp5_10, xf5_11, xv5_11, xp5_11, xf5_12, xv5_12, xp5_12, xo6, xa6, xf6_0, xv6_0, xp6_0, xf6_1, xv6_1, xp6_1, xf6_2, xv6_2, xp6_2, xo7, xa7, xf7_0, xv7_0, xp7_0, xf7_1, xv7_1, xp7_1, xf7_2, xv7_2, xp7_2, xf7_3, xv7_3, xp7_3, xf7_4, xv7_4, xf7_5, xv7_5, xo8, xa8, xf8_0, xv8_0, xp8_0, xf8_1, xv8_1, xo10, xa10, xf10_0, xv10_0, xp10_0, xf10_1, xv10_1, xp10_1, xf10_2, xv10_2, xp10_2, xf10_3, xv10_3, xf10_4, xv10_4, xo12, xa12, xf12_0, xv12_0, xf12_1, xv12_1, xp12_1, xf12_2, xv12_2, xp12_2, xf12_3, xv12_3, xp12_3, xf12_4, xv12_4, xo13, xa13, xf13_0, xv13_0, xf13_1, xv13_1, xp13_1, xo14, xa14, xf14_0, xv14_0, xf14_1, xv14_1, xp14_1, xf14_2, xv14_2, xp14_2, xf14_3, xv14_3, xp14_3, ya2_1, yw2_1, yv2_1, yp2_1, yn2_1, yl2_1, ya2_3, yw2_3, yv2_3, yp2_3, yn2_3, yl2_3, ya2_10, yw2_10, yv2_10, yp2_10, yn2_10, yl2_10, ya2_11, yw2_11, yv2_11, yp2_11, yn2_11, yl2_11, ya9, yw9, yv9, yp9, yn9, yl9, ya11, yw11, yv11, yp11, yn11, yl11, ya15, yw15, yv15, yp15, yn15, yl15, ya16, yw16, yv16, yp16, yn16, yl16, ok10, ok11, ok1i, xu_s, xu_n, ne_eq, Prod.mk.injEq, Nat.reduceEqDiff, false_and, and_false, not_false_eq_true, l14, x1, Option.isSome_some, c_len X hj, nI_nleI (show i < wl j by omega) (show wl j < 2 ^ 31 by omega), h2, nI_add, qb, qc, hb, nI_1]
      exact i1 (fun q u1 u2 => hm q (by omega) u2)
    · intro hm
      rw [s25_20]
      simp only [s25_0, s25_1, s25_4, s25_5, s25_8, s25_9, s25_9n, s25_10, s25_13, s25_16, s25_17, s25_18, s25_19, s25_21, s25_21n, s25_22, s25_25, s25_28, s25_29, s25_30, s25_33, s25_34, s25_35, s25_38, s25_38n, s25_39, s25_40, s25_43, s25_46, s25_47, s25_48, s25_51, s25_55, s25_58, s25_59, zl_n, zl_i, zl_r, zl_0, z10, z01, ez_bd_s, ez_bd_n, eq_self, true_or, or_true, if_true, if_false, zb_eq, zb_eq1, zb_em, zb_em2, ite_not, List.append_nil, List.cons_append, List.nil_append, reduceCtorEq, not_true_eq_false, not_false_eq_true, xo1, xa1, xf1_0, xv1_0, xp1_0, xf1_1, xv1_1, xf1_2, xv1_2, xp1_2, xf1_3, xv1_3, xf1_4, xv1_4, xf1_5, xv1_5, xp1_5, xf1_6, xv1_6, xp1_6, xf1_7, xv1_7, xf1_8, xv1_8, xf1_9, xv1_9, xf1_10, xv1_10, xf1_11, xv1_11, xf1_12, xv1_12, xf1_13, xv1_13, xf1_14, xv1_14, xp1_14, xo3, xa3, xf3_0, xv3_0, xp3_0, xf3_1, xv3_1, xf3_2, xv3_2, xp3_2, xo5, xa5, xf5_0, xv5_0, xp5_0, xf5_1, xv5_1, xp5_1, xf5_2, xv5_2, xp5_2, xf5_3, xv5_3, xp5_3, xf5_4, xv5_4, xp5_4, xf5_5, xv5_5, xp5_5, xf5_6, xv5_6, xp5_6, xf5_7, xv5_7, xp5_7, xf5_8, xv5_8, xp5_8, xf5_9, xv5_9, xp5_9, xf5_10, xv5_10, xp5_10, xf5_11, xv5_11, xp5_11, xf5_12, xv5_12, xp5_12, xo6, xa6, xf6_0, xv6_0, xp6_0, xf6_1, xv6_1, xp6_1, xf6_2, xv6_2, xp6_2, xo7, xa7, xf7_0, xv7_0, xp7_0, xf7_1, xv7_1, xp7_1, xf7_2, xv7_2, xp7_2, xf7_3, xv7_3, xp7_3, xf7_4, xv7_4, xf7_5, xv7_5, xo8, xa8, xf8_0, xv8_0, xp8_0, xf8_1, xv8_1, xo10, xa10, xf10_0, xv10_0, xp10_0, xf10_1, xv10_1, xp10_1, xf10_2, xv10_2, xp10_2, xf10_3, xv10_3, xf10_4, xv10_4, xo12, xa12, xf12_0, xv12_0, xf12_1, xv12_1, xp12_1, xf12_2, xv12_2, xp12_2, xf12_3, xv12_3, xp12_3, xf12_4, xv12_4, xo13, xa13, xf13_0, xv13_0, xf13_1, xv13_1, xp13_1, xo14, xa14, xf14_0, xv14_0, xf14_1, xv14_1, xp14_1, xf14_2, xv14_2, xp14_2, xf14_3, xv14_3, xp14_3, ya2_1, yw2_1, yv2_1, yp2_1, yn2_1, yl2_1, ya2_3, yw2_3, yv2_3, yp2_3, yn2_3, yl2_3, ya2_10, yw2_10, yv2_10, yp2_10, yn2_10, yl2_10, ya2_11, yw2_11, yv2_11, yp2_11, yn2_11, yl2_11, ya9, yw9, yv9, yp9, yn9, yl9, ya11, yw11, yv11, yp11, yn11, yl11, ya15, yw15, yv15, yp15, yn15, yl15, ya16, yw16, yv16, yp16, yn16, yl16, ok10, ok11, ok1i, xu_s, xu_n, ne_eq, Prod.mk.injEq, Nat.reduceEqDiff, false_and, and_false, not_false_eq_true, l14, x1, Option.isSome_some, c_len X hj, nI_nleI (show i < wl j by omega) (show wl j < 2 ^ 31 by omega), h2, nI_add, qb, qc, nI_1]
      by_cases hb : c (16, 0, 0) (s + i) = nI (wb j i)
      · rw [if_pos hb]
        refine i2 ?_
        obtain ⟨q, u1, u2, u3⟩ := hm
        refine ⟨q, ?_, u2, u3⟩
        by_cases e : q = i
        · subst e; exact absurd hb u3
        · omega
      · rw [if_neg hb]
theorem c_tk (X : xst g P h0) (hj : j < 11) (w : xw h0 P c) (l14 : lv P (14, 0, 0)) (r : RD c z) : ((tE (c (16, 0, 0)) (z.1 37).toNatClampNeg (zs z) = zs z + wl j ∧ ∀ i, i < wl j → c (16, 0, 0) (zs z + i) = nI (wb j i)) → ez_ev g 25 [.ref (P.2.2.1 (14, 0, 0)), .ref (g.2.1 j)] (xh h0 P c) = some (some (.int 1), xh h0 P (xu (xu c (14, 0, 0) 2 (nI (sk (c (16, 0, 0)) ((z.1 37).toNatClampNeg - (zs z + wl j)) (zs z + wl j)))) (14, 0, 0) 3 (nI (tE (c (16, 0, 0)) (z.1 37).toNatClampNeg (sk (c (16, 0, 0)) ((z.1 37).toNatClampNeg - (zs z + wl j)) (zs z + wl j))))))) ∧ (¬ (tE (c (16, 0, 0)) (z.1 37).toNatClampNeg (zs z) = zs z + wl j ∧ ∀ i, i < wl j → c (16, 0, 0) (zs z + i) = nI (wb j i)) → ez_ev g 25 [.ref (P.2.2.1 (14, 0, 0)), .ref (g.2.1 j)] (xh h0 P c) = some (some (.int 0), xh h0 P c)) := by
  obtain ⟨N, s, hN, hs, eN, eN', es, nb, -, -⟩ := RD_f r
  obtain ⟨-, r1, r2, r3, -⟩ := r
  have l16 : lv P (16, 0, 0) := xw_cl w l14 rfl (show 14 ≠ 0 by decide) (show 14 ≠ 3 by decide)
  have x1 := (X.2 j hj).1
  have w6 := (wl6 j hj).1
  rw [eN'] at r1
  rw [eN, es] at r3
  rw [es] at r2
  rw [eN, es]
  have hT := tE_le (F := c (16, 0, 0)) hs
  have hsub : nI (tE (c (16, 0, 0)) N s) - nI s = nI (tE (c (16, 0, 0)) N s - s) := nI_sbl hT.1
  constructor
  · rintro ⟨e1, e2⟩
    have lp := (lc_took (g := g) X hj l14 l16 r1 hN r2 (by omega) _ 0 (Nat.zero_add _)).1 (fun q _ hq => e2 q hq)
    rw [nI_0] at lp
    have nx := c_next (g := g) (h0 := h0) l14 l16 w.1 r1 hN (e := s + wl j) (by rw [r3, e1]) (by omega)
    have ed : (nI (tE (c (16, 0, 0)) N s - s) = nI (wl j)) = True := eq_true (by rw [e1, Nat.add_sub_cancel_left])
    rw [e25]
    simp only [s25_0, s25_1, s25_4, s25_5, s25_8, s25_9, s25_9n, s25_10, s25_13, s25_16, s25_17, s25_18, s25_19, s25_21, s25_21n, s25_22, s25_25, s25_28, s25_29, s25_30, s25_33, s25_34, s25_35, s25_38, s25_38n, s25_39, s25_40, s25_43, s25_46, s25_47, s25_48, s25_51, s25_55, s25_58, s25_59, zl_n, zl_i, zl_r, zl_0, z10, z01, ez_bd_s, ez_bd_n, eq_self, true_or, or_true, if_true, if_false, zb_eq, zb_eq1, zb_em, zb_em2, ite_not, List.append_nil, List.cons_append, List.nil_append, reduceCtorEq, not_true_eq_false, not_false_eq_true, xo1, xa1, xf1_0, xv1_0, xp1_0, xf1_1, xv1_1, xf1_2, xv1_2, xp1_2, xf1_3, xv1_3, xf1_4, xv1_4, xf1_5, xv1_5, xp1_5, xf1_6, xv1_6, xp1_6, xf1_7, xv1_7, xf1_8, xv1_8, xf1_9, xv1_9, xf1_10, xv1_10, xf1_11, xv1_11, xf1_12, xv1_12, xf1_13, xv1_13, xf1_14, xv1_14, xp1_14, xo3, xa3, xf3_0, xv3_0, xp3_0, xf3_1, xv3_1, xf3_2, xv3_2, xp3_2, xo5, xa5, xf5_0, xv5_0, xp5_0, xf5_1, xv5_1, xp5_1, xf5_2, xv5_2, xp5_2, xf5_3, xv5_3, xp5_3, xf5_4, xv5_4, xp5_4, xf5_5, xv5_5, xp5_5, xf5_6, xv5_6, xp5_6, xf5_7, xv5_7, xp5_7, xf5_8, xv5_8, xp5_8, xf5_9, xv5_9, xp5_9, xf5_10, xv5_10, xp5_10, xf5_11, xv5_11, xp5_11, xf5_12, xv5_12, xp5_12, xo6, xa6, xf6_0, xv6_0, xp6_0, xf6_1, xv6_1, xp6_1, xf6_2, xv6_2, xp6_2, xo7, xa7, xf7_0, xv7_0, xp7_0, xf7_1, xv7_1, xp7_1, xf7_2, xv7_2, xp7_2, xf7_3, xv7_3, xp7_3, xf7_4, xv7_4, xf7_5, xv7_5, xo8, xa8, xf8_0, xv8_0, xp8_0, xf8_1, xv8_1, xo10, xa10, xf10_0, xv10_0, xp10_0, xf10_1, xv10_1, xp10_1, xf10_2, xv10_2, xp10_2, xf10_3, xv10_3, xf10_4, xv10_4, xo12, xa12, xf12_0, xv12_0, xf12_1, xv12_1, xp12_1, xf12_2, xv12_2, xp12_2, xf12_3, xv12_3, xp12_3, xf12_4, xv12_4, xo13, xa13, xf13_0, xv13_0, xf13_1, xv13_1, xp13_1, xo14, xa14, xf14_0, xv14_0, xf14_1, xv14_1, xp14_1, xf14_2, xv14_2, xp14_2, xf14_3, xv14_3, xp14_3, ya2_1, yw2_1, yv2_1, yp2_1, yn2_1, yl2_1, ya2_3, yw2_3, yv2_3, yp2_3, yn2_3, yl2_3, ya2_10, yw2_10, yv2_10, yp2_10, yn2_10, yl2_10, ya2_11, yw2_11, yv2_11, yp2_11, yn2_11, yl2_11, ya9, yw9, yv9, yp9, yn9, yl9, ya11, yw11, yv11, yp11, yn11, yl11, ya15, yw15, yv15, yp15, yn15, yl15, ya16, yw16, yv16, yp16, yn16, yl16, ok10, ok11, ok1i, xu_s, xu_n, ne_eq, Prod.mk.injEq, Nat.reduceEqDiff, false_and, and_false, not_false_eq_true, l14, r2, r3, hsub, x1, Option.isSome_some, c_len X hj, ed]
    rw [lp]
    simp only [s25_0, s25_1, s25_4, s25_5, s25_8, s25_9, s25_9n, s25_10, s25_13, s25_16, s25_17, s25_18, s25_19, s25_21, s25_21n, s25_22, s25_25, s25_28, s25_29, s25_30, s25_33, s25_34, s25_35, s25_38, s25_38n, s25_39, s25_40, s25_43, s25_46, s25_47, s25_48, s25_51, s25_54, s25_55, s25_58, s25_59, zl_n, zl_i, zl_r, zl_0, z10, z01, ez_bd_s, ez_bd_n, eq_self, true_or, or_true, if_true, if_false, zb_eq, zb_eq1, zb_em, zb_em2, ite_not, List.append_nil, List.cons_append, List.nil_append, reduceCtorEq, not_true_eq_false, not_false_eq_true, xo1, xa1, xf1_0, xv1_0, xp1_0, xf1_1, xv1_1, xf1_2, xv1_2, xp1_2, xf1_3, xv1_3, xf1_4, xv1_4, xf1_5, xv1_5, xp1_5, xf1_6, xv1_6, xp1_6, xf1_7, xv1_7, xf1_8, xv1_8, xf1_9, xv1_9, xf1_10, xv1_10, xf1_11, xv1_11, xf1_12, xv1_12, xf1_13, xv1_13, xf1_14, xv1_14, xp1_14, xo3, xa3, xf3_0, xv3_0, xp3_0, xf3_1, xv3_1, xf3_2, xv3_2, xp3_2, xo5, xa5, xf5_0, xv5_0, xp5_0, xf5_1, xv5_1, xp5_1, xf5_2, xv5_2, xp5_2, xf5_3, xv5_3, xp5_3, xf5_4, xv5_4, xp5_4, xf5_5, xv5_5, xp5_5, xf5_6, xv5_6, xp5_6, xf5_7, xv5_7, xp5_7, xf5_8, xv5_8, xp5_8, xf5_9, xv5_9, xp5_9, xf5_10, xv5_10, xp5_10, xf5_11, xv5_11, xp5_11, xf5_12, xv5_12, xp5_12, xo6, xa6, xf6_0, xv6_0, xp6_0, xf6_1, xv6_1, xp6_1, xf6_2, xv6_2, xp6_2, xo7, xa7, xf7_0, xv7_0, xp7_0, xf7_1, xv7_1, xp7_1, xf7_2, xv7_2, xp7_2, xf7_3, xv7_3, xp7_3, xf7_4, xv7_4, xf7_5, xv7_5, xo8, xa8, xf8_0, xv8_0, xp8_0, xf8_1, xv8_1, xo10, xa10, xf10_0, xv10_0, xp10_0, xf10_1, xv10_1, xp10_1, xf10_2, xv10_2, xp10_2, xf10_3, xv10_3, xf10_4, xv10_4, xo12, xa12, xf12_0, xv12_0, xf12_1, xv12_1, xp12_1, xf12_2, xv12_2, xp12_2, xf12_3, xv12_3, xp12_3, xf12_4, xv12_4, xo13, xa13, xf13_0, xv13_0, xf13_1, xv13_1, xp13_1, xo14, xa14, xf14_0, xv14_0, xf14_1, xv14_1, xp14_1, xf14_2, xv14_2, xp14_2, xf14_3, xv14_3, xp14_3, ya2_1, yw2_1, yv2_1, yp2_1, yn2_1, yl2_1, ya2_3, yw2_3, yv2_3, yp2_3, yn2_3, yl2_3, ya2_10, yw2_10, yv2_10, yp2_10, yn2_10, yl2_10, ya2_11, yw2_11, yv2_11, yp2_11, yn2_11, yl2_11, ya9, yw9, yv9, yp9, yn9, yl9, ya11, yw11, yv11, yp11, yn11, yl11, ya15, yw15, yv15, yp15, yn15, yl15, ya16, yw16, yv16, yp16, yn16, yl16, ok10, ok11, ok1i, xu_s, xu_n, ne_eq, Prod.mk.injEq, Nat.reduceEqDiff, false_and, and_false, not_false_eq_true, l14, nx]
  · intro hne
    rw [e25]
    by_cases e1 : tE (c (16, 0, 0)) N s = s + wl j
    · have ex : ∃ q, 0 ≤ q ∧ q < wl j ∧ ¬ c (16, 0, 0) (s + q) = nI (wb j q) := by
        refine Classical.byContradiction fun hn => hne ⟨e1, fun i hi => ?_⟩
        refine Classical.byContradiction fun h5 => hn ⟨i, Nat.zero_le _, hi, h5⟩
      have lp := (lc_took (g := g) X hj l14 l16 r1 hN r2 (by omega) _ 0 (Nat.zero_add _)).2 ex
      rw [nI_0] at lp
      have ed : (nI (tE (c (16, 0, 0)) N s - s) = nI (wl j)) = True := eq_true (by rw [e1, Nat.add_sub_cancel_left])
      simp only [s25_0, s25_1, s25_4, s25_5, s25_8, s25_9, s25_9n, s25_10, s25_13, s25_16, s25_17, s25_18, s25_19, s25_21, s25_21n, s25_22, s25_25, s25_28, s25_29, s25_30, s25_33, s25_34, s25_35, s25_38, s25_38n, s25_39, s25_40, s25_43, s25_46, s25_47, s25_48, s25_51, s25_55, s25_58, s25_59, zl_n, zl_i, zl_r, zl_0, z10, z01, ez_bd_s, ez_bd_n, eq_self, true_or, or_true, if_true, if_false, zb_eq, zb_eq1, zb_em, zb_em2, ite_not, List.append_nil, List.cons_append, List.nil_append, reduceCtorEq, not_true_eq_false, not_false_eq_true, xo1, xa1, xf1_0, xv1_0, xp1_0, xf1_1, xv1_1, xf1_2, xv1_2, xp1_2, xf1_3, xv1_3, xf1_4, xv1_4, xf1_5, xv1_5, xp1_5, xf1_6, xv1_6, xp1_6, xf1_7, xv1_7, xf1_8, xv1_8, xf1_9, xv1_9, xf1_10, xv1_10, xf1_11, xv1_11, xf1_12, xv1_12, xf1_13, xv1_13, xf1_14, xv1_14, xp1_14, xo3, xa3, xf3_0, xv3_0, xp3_0, xf3_1, xv3_1, xf3_2, xv3_2, xp3_2, xo5, xa5, xf5_0, xv5_0, xp5_0, xf5_1, xv5_1, xp5_1, xf5_2, xv5_2, xp5_2, xf5_3, xv5_3, xp5_3, xf5_4, xv5_4, xp5_4, xf5_5, xv5_5, xp5_5, xf5_6, xv5_6, xp5_6, xf5_7, xv5_7, xp5_7, xf5_8, xv5_8, xp5_8, xf5_9, xv5_9, xp5_9, xf5_10, xv5_10, xp5_10, xf5_11, xv5_11, xp5_11, xf5_12, xv5_12, xp5_12, xo6, xa6, xf6_0, xv6_0, xp6_0, xf6_1, xv6_1, xp6_1, xf6_2, xv6_2, xp6_2, xo7, xa7, xf7_0, xv7_0, xp7_0, xf7_1, xv7_1, xp7_1, xf7_2, xv7_2, xp7_2, xf7_3, xv7_3, xp7_3, xf7_4, xv7_4, xf7_5, xv7_5, xo8, xa8, xf8_0, xv8_0, xp8_0, xf8_1, xv8_1, xo10, xa10, xf10_0, xv10_0, xp10_0, xf10_1, xv10_1, xp10_1, xf10_2, xv10_2, xp10_2, xf10_3, xv10_3, xf10_4, xv10_4, xo12, xa12, xf12_0, xv12_0, xf12_1, xv12_1, xp12_1, xf12_2, xv12_2, xp12_2, xf12_3, xv12_3, xp12_3, xf12_4, xv12_4, xo13, xa13, xf13_0, xv13_0, xf13_1, xv13_1, xp13_1, xo14, xa14, xf14_0, xv14_0, xf14_1, xv14_1, xp14_1, xf14_2, xv14_2, xp14_2, xf14_3, xv14_3, xp14_3, ya2_1, yw2_1, yv2_1, yp2_1, yn2_1, yl2_1, ya2_3, yw2_3, yv2_3, yp2_3, yn2_3, yl2_3, ya2_10, yw2_10, yv2_10, yp2_10, yn2_10, yl2_10, ya2_11, yw2_11, yv2_11, yp2_11, yn2_11, yl2_11, ya9, yw9, yv9, yp9, yn9, yl9, ya11, yw11, yv11, yp11, yn11, yl11, ya15, yw15, yv15, yp15, yn15, yl15, ya16, yw16, yv16, yp16, yn16, yl16, ok10, ok11, ok1i, xu_s, xu_n, ne_eq, Prod.mk.injEq, Nat.reduceEqDiff, false_and, and_false, not_false_eq_true, l14, r2, r3, hsub, x1, Option.isSome_some, c_len X hj, ed]
      rw [lp]
    · have ed : (nI (tE (c (16, 0, 0)) N s - s) = nI (wl j)) = False := eq_false (fun h5 => e1 (by
        have := (nI_eq (by omega) (by omega)).mp h5
        omega))
      simp only [s25_0, s25_1, s25_4, s25_5, s25_8, s25_9, s25_9n, s25_10, s25_13, s25_16, s25_17, s25_18, s25_19, s25_21, s25_21n, s25_22, s25_25, s25_28, s25_29, s25_30, s25_33, s25_34, s25_35, s25_38, s25_38n, s25_39, s25_40, s25_43, s25_46, s25_47, s25_48, s25_51, s25_55, s25_58, s25_59, zl_n, zl_i, zl_r, zl_0, z10, z01, ez_bd_s, ez_bd_n, eq_self, true_or, or_true, if_true, if_false, zb_eq, zb_eq1, zb_em, zb_em2, ite_not, List.append_nil, List.cons_append, List.nil_append, reduceCtorEq, not_true_eq_false, not_false_eq_true, xo1, xa1, xf1_0, xv1_0, xp1_0, xf1_1, xv1_1, xf1_2, xv1_2, xp1_2, xf1_3, xv1_3, xf1_4, xv1_4, xf1_5, xv1_5, xp1_5, xf1_6, xv1_6, xp1_6, xf1_7, xv1_7, xf1_8, xv1_8, xf1_9, xv1_9, xf1_10, xv1_10, xf1_11, xv1_11, xf1_12, xv1_12, xf1_13, xv1_13, xf1_14, xv1_14, xp1_14, xo3, xa3, xf3_0, xv3_0, xp3_0, xf3_1, xv3_1, xf3_2, xv3_2, xp3_2, xo5, xa5, xf5_0, xv5_0, xp5_0, xf5_1, xv5_1, xp5_1, xf5_2, xv5_2, xp5_2, xf5_3, xv5_3, xp5_3, xf5_4, xv5_4, xp5_4, xf5_5, xv5_5, xp5_5, xf5_6, xv5_6, xp5_6, xf5_7, xv5_7, xp5_7, xf5_8, xv5_8, xp5_8, xf5_9, xv5_9, xp5_9, xf5_10, xv5_10, xp5_10, xf5_11, xv5_11, xp5_11, xf5_12, xv5_12, xp5_12, xo6, xa6, xf6_0, xv6_0, xp6_0, xf6_1, xv6_1, xp6_1, xf6_2, xv6_2, xp6_2, xo7, xa7, xf7_0, xv7_0, xp7_0, xf7_1, xv7_1, xp7_1, xf7_2, xv7_2, xp7_2, xf7_3, xv7_3, xp7_3, xf7_4, xv7_4, xf7_5, xv7_5, xo8, xa8, xf8_0, xv8_0, xp8_0, xf8_1, xv8_1, xo10, xa10, xf10_0, xv10_0, xp10_0, xf10_1, xv10_1, xp10_1, xf10_2, xv10_2, xp10_2, xf10_3, xv10_3, xf10_4, xv10_4, xo12, xa12, xf12_0, xv12_0, xf12_1, xv12_1, xp12_1, xf12_2, xv12_2, xp12_2, xf12_3, xv12_3, xp12_3, xf12_4, xv12_4, xo13, xa13, xf13_0, xv13_0, xf13_1, xv13_1, xp13_1, xo14, xa14, xf14_0, xv14_0, xf14_1, xv14_1, xp14_1, xf14_2, xv14_2, xp14_2, xf14_3, xv14_3, xp14_3, ya2_1, yw2_1, yv2_1, yp2_1, yn2_1, yl2_1, ya2_3, yw2_3, yv2_3, yp2_3, yn2_3, yl2_3, ya2_10, yw2_10, yv2_10, yp2_10, yn2_10, yl2_10, ya2_11, yw2_11, yv2_11, yp2_11, yn2_11, yl2_11, ya9, yw9, yv9, yp9, yn9, yl9, ya11, yw11, yv11, yp11, yn11, yl11, ya15, yw15, yv15, yp15, yn15, yl15, ya16, yw16, yv16, yp16, yn16, yl16, ok10, ok11, ok1i, xu_s, xu_n, ne_eq, Prod.mk.injEq, Nat.reduceEqDiff, false_and, and_false, not_false_eq_true, l14, r2, r3, hsub, x1, Option.isSome_some, c_len X hj, ed]
/-- a call of the reader -/
def rdc (g : ez_G) (h0 : ez_H) (P : xP) (c : xR → Nat → Int32) (k : Nat) (as : List Value) (v : Int32) (z' : md_S) : Prop := ∃ c', ez_ev g k (.ref (P.2.2.1 (14, 0, 0)) :: as) (xh h0 P c) = some (some (.int v), xh h0 P c') ∧ RD c' z' ∧ xw h0 P c' ∧ ∀ r, r ≠ (14, 0, 0) → c' r = c r
theorem c_took {W : Int64} (X : xst g P h0) (hj : j < 11) (h5 : j ≠ 5) (hW : W = lN (wN (wb j) (wl j))) (w : xw h0 P c) (l14 : lv P (14, 0, 0)) (r : RD c z) : rdc g h0 P c 25 [.ref (g.2.1 j)] (pm_tk z W).2 (pm_tk z W).1 := by
  obtain ⟨N, s, hN, hs, eN, eN', es, nb, eze, -⟩ := RD_f r
  obtain ⟨t1, t2⟩ := c_tk X hj w l14 r
  have hiff := tok_iff r hj h5 hW
  unfold pm_tk
  by_cases e : pm_wv z = W
  · rw [if_pos e]
    have hm := hiff.mpr e
    have ez' : ze z = zs z + wl j := by
      obtain ⟨l2, lw⟩ := lcode j hj h5
      obtain ⟨m1, m2⟩ := hm
      rw [eN, es] at m1
      rw [es] at m2
      have hT := tE_le (F := c (16, 0, 0)) hs
      have e0 := m2 0 (by omega)
      rw [Nat.add_zero] at e0
      have h0' := lw 0 (by omega)
      have w6' := (wl6 j hj).2 0 (by omega)
      rw [eze, es, ← m1]
      unfold tE
      rw [if_pos (by omega), e0, if_neg (show ¬ nI (wb j 0) < 97 from nI_nlt (b := 97) (by omega) (by omega)), if_neg (show ¬ 122 < nI (wb j 0) from nI_nlt (a := 122) (by omega) (by decide))]
    refine ⟨_, t1 hm, ?_, xw_14 (xw_14 w), fun r' hr => by rw [xu_n hr, xu_n hr]⟩
    have hT := tE_le (F := c (16, 0, 0)) hs
    have hm1 := hm.1
    rw [eN, es] at hm1
    refine RD_to r (p := zs z + wl j) (by rw [eN, es]; omega) rfl (by rw [← ez']; rfl) rfl (by rw [xu_n (by rintro ⟨⟩), xu_n (by rintro ⟨⟩)]) (by rw [xu_t (by decide), xu_t (by decide)]) (by rw [xu_t (by decide), xu_s, if_pos rfl]) (by rw [xu_s, if_pos rfl])
  · rw [if_neg e]
    refine ⟨c, t2 (fun h => e (hiff.mp h)), RD_st r rfl rfl rfl, w, fun _ _ => rfl⟩
theorem c_semi (X : xst g P h0) (w : xw h0 P c) (l14 : lv P (14, 0, 0)) (r : RD c z) : rdc g h0 P c 25 [.ref (g.2.1 5)] (pm_fin z).2 (pm_fin z).1 := by
  obtain ⟨N, s, hN, hs, eN, eN', es, nb, -, -⟩ := RD_f r
  obtain ⟨t1, t2⟩ := c_tk X (show 5 < 11 by decide) w l14 r
  have b38 : (pm_bl z).1 38 = nI s := by rw [← es]; rfl
  have b37 : (pm_bl z).1 37 = nI N := eN'
  have b35 : (pm_bl z).2 35 = z.2 35 := rfl
  have wl5 : wl 5 = 1 := by decide
  have wb5 : nI (wb 5 0) = 59 := by decide
  have st : RD c (pm_bl z) := RD_st r rfl rfl rfl
  have hiff : (tE (c (16, 0, 0)) (z.1 37).toNatClampNeg (zs z) = zs z + wl 5 ∧ ∀ i, i < wl 5 → c (16, 0, 0) (zs z + i) = nI (wb 5 i)) ↔ s < N ∧ c (16, 0, 0) s = 59 := by
    rw [eN, es, wl5]
    constructor
    · rintro ⟨e1, e2⟩
      have hT := tE_le (F := c (16, 0, 0)) hs
      have := e2 0 (by decide)
      rw [Nat.add_zero, wb5] at this
      exact ⟨by omega, this⟩
    · rintro ⟨e1, e2⟩
      refine ⟨?_, fun i hi => ?_⟩
      · unfold tE
        rw [if_pos e1, e2, if_pos (by decide), if_neg (by decide), if_pos (by decide)]
      · obtain rfl : i = 0 := by omega
        rw [Nat.add_zero, wb5]
        exact e2
  unfold pm_fin
  rw [b38, b37, b35]
  by_cases e1 : s < N
  · rw [if_neg (fun h5 => by have := (nI_eq (by omega) (by omega)).mp h5; omega), nI_clamp (by omega), r.2.2.2.2 s (by omega)]
    by_cases e2 : c (16, 0, 0) s = 59
    · rw [if_pos e2]
      refine ⟨_, t1 (hiff.mpr ⟨e1, e2⟩), ?_, xw_14 (xw_14 w), fun r' hr => by rw [xu_n hr, xu_n hr]⟩
      refine RD_to r (p := zs z + wl 5) (by rw [eN, es, wl5]; omega) rfl (by show nI s + 1 = _; rw [nI_1, es, wl5]) rfl (by rw [xu_n (by rintro ⟨⟩), xu_n (by rintro ⟨⟩)]) (by rw [xu_t (by decide), xu_t (by decide)]) (by rw [xu_t (by decide), xu_s, if_pos rfl]) (by rw [xu_s, if_pos rfl])
    · rw [if_neg e2]
      exact ⟨c, t2 (fun h => e2 (hiff.mp h).2), st, w, fun _ _ => rfl⟩
  · rw [if_pos (by rw [show s = N by omega])]
    exact ⟨c, t2 (fun h => e1 (hiff.mp h).1), st, w, fun _ _ => rfl⟩
theorem nv_cg {f f' : Nat → Int32} : ∀ n, (∀ i, i < n → f (s + i) = f' (s + i)) → nv f s n = nv f' s n
  | 0, _ => rfl
  | n + 1, h => by rw [nv, nv, nv_cg n (fun i hi => h i (by omega)), h n (by omega)]
theorem nv_b {f : Nat → Int32} : ∀ n, n ≤ 3 → (∀ i, i < n → ¬ f (s + i) < 48 ∧ ¬ 57 < f (s + i)) → ∃ m, m < 10 ^ n ∧ nv f s n = nI m
  | 0, _, _ => ⟨0, by decide, rfl⟩
  | n + 1, hn, h => by
    obtain ⟨m, hm, e⟩ := nv_b n (by omega) (fun i hi => h i (by omega))
    obtain ⟨u1, u2⟩ := h n (by omega)
    obtain ⟨b, hb, eb⟩ := nI_of2 (n := 57) (by decide) (Int32.not_lt.mpr (Int32.le_trans (by decide) (Int32.not_lt.mp u1))) (Int32.not_lt.mp u2)
    have hb48 : 48 ≤ b := by
      rw [eb] at u1
      exact Nat.le_of_not_lt fun h => u1 (nI_lt (b := 48) h (by decide))
    refine ⟨10 * m + (b - 48), by rw [Nat.pow_succ]; omega, ?_⟩
    rw [nv, if_neg (by omega), e, eb]
    show nI 10 * nI m + nI b - nI 48 = _
    rw [nI_mul, nI_add, nI_sbl (by omega)]
    congr 1
    omega
theorem lc_num {e : Nat} (l14 : lv P (14, 0, 0)) (l16 : lv P (16, 0, 0)) (h1 : c (14, 0, 0) 1 = nI N) (hN : N ≤ 600) (h3 : c (14, 0, 0) 3 = nI e) (he : e ≤ N) (hse : e ≤ s + 3) : ∀ d i, s + i + d = e → ez_rn g 26 36 [some (.ref (P.2.2.1 (14, 0, 0))), some (.int (nv (c (16, 0, 0)) s i)), some (.int (nI (s + i)))] [] (xh h0 P c) = ez_rn g 26 64 [some (.ref (P.2.2.1 (14, 0, 0))), some (.int (nv (c (16, 0, 0)) s (i + d))), some (.int (nI e))] [] (xh h0 P c) := by
  intro d
  induction d with
  | zero =>
    intro i hi
    obtain rfl : s + i = e := by omega
    rw [s26_36]
    simp only [s26_0, s26_1, s26_2, s26_5, s26_8, s26_11, s26_14, s26_15, s26_18, s26_19, s26_22, s26_23, s26_24, s26_27, s26_28, s26_29, s26_30, s26_31, s26_32, s26_35, s26_37, s26_38, s26_41, s26_44, s26_46, s26_47, s26_48, s26_49, s26_50, s26_53, s26_54, s26_56, s26_57, s26_58, s26_61, s26_65, s26_68, s26_69, zl_n, zl_i, zl_r, zl_0, z10, z01, ez_bd_s, ez_bd_n, eq_self, true_or, or_true, if_true, if_false, zb_eq, zb_eq1, zb_em, zb_em2, ite_not, List.append_nil, List.cons_append, List.nil_append, reduceCtorEq, not_true_eq_false, not_false_eq_true, xo1, xa1, xf1_0, xv1_0, xp1_0, xf1_1, xv1_1, xf1_2, xv1_2, xp1_2, xf1_3, xv1_3, xf1_4, xv1_4, xf1_5, xv1_5, xp1_5, xf1_6, xv1_6, xp1_6, xf1_7, xv1_7, xf1_8, xv1_8, xf1_9, xv1_9, xf1_10, xv1_10, xf1_11, xv1_11, xf1_12, xv1_12, xf1_13, xv1_13, xf1_14, xv1_14, xp1_14, xo3, xa3, xf3_0, xv3_0, xp3_0, xf3_1, xv3_1, xf3_2, xv3_2, xp3_2, xo5, xa5, xf5_0, xv5_0, xp5_0, xf5_1, xv5_1, xp5_1, xf5_2, xv5_2, xp5_2, xf5_3, xv5_3, xp5_3, xf5_4, xv5_4, xp5_4, xf5_5, xv5_5, xp5_5, xf5_6, xv5_6, xp5_6, xf5_7, xv5_7, xp5_7, xf5_8, xv5_8, xp5_8, xf5_9, xv5_9, xp5_9, xf5_10, xv5_10, xp5_10, xf5_11, xv5_11, xp5_11, xf5_12, xv5_12, xp5_12, xo6, xa6, xf6_0, xv6_0, xp6_0, xf6_1, xv6_1, xp6_1, xf6_2, xv6_2, xp6_2, xo7, xa7, xf7_0, xv7_0, xp7_0, xf7_1, xv7_1, xp7_1, xf7_2, xv7_2, xp7_2, xf7_3, xv7_3, xp7_3, xf7_4, xv7_4, xf7_5, xv7_5, xo8, xa8, xf8_0, xv8_0, xp8_0, xf8_1, xv8_1, xo10, xa10, xf10_0, xv10_0, xp10_0, xf10_1, xv10_1, xp10_1, xf10_2, xv10_2, xp10_2, xf10_3, xv10_3, xf10_4, xv10_4, xo12, xa12, xf12_0, xv12_0, xf12_1, xv12_1, xp12_1, xf12_2, xv12_2, xp12_2, xf12_3, xv12_3, xp12_3, xf12_4, xv12_4, xo13, xa13, xf13_0, xv13_0, xf13_1, xv13_1, xp13_1, xo14, xa14, xf14_0, xv14_0, xf14_1, xv14_1, xp14_1, xf14_2, xv14_2, xp14_2, xf14_3, xv14_3, xp14_3, ya2_1, yw2_1, yv2_1, yp2_1, yn2_1, yl2_1, ya2_3, yw2_3, yv2_3, yp2_3, yn2_3, yl2_3, ya2_10, yw2_10, yv2_10, yp2_10, yn2_10, yl2_10, ya2_11, yw2_11, yv2_11, yp2_11, yn2_11, yl2_11, ya9, yw9, yv9, yp9, yn9, yl9, ya11, yw11, yv11, yp11, yn11, yl11, ya15, yw15, yv15, yp15, yn15, yl15, ya16, yw16, yv16, yp16, yn16, yl16, ok10, ok11, ok1i, xu_s, xu_n, ne_eq, Prod.mk.injEq, Nat.reduceEqDiff, false_and, and_false, not_false_eq_true, l14, h3, nI_leT (Nat.le_refl (s + i)) (show s + i < 2 ^ 31 by omega), Nat.add_zero]
  | succ d ih =>
    intro i hi
    have hx := ih (i + 1) (by omega)
    have qb := c_byteAt (g := g) (h0 := h0) (c := c) (p := s + i) l14 l16 h1 hN (by omega)
    rw [if_pos (by omega)] at qb
    rw [nv, if_neg (by omega), ← Nat.add_assoc, show i + 1 + d = i + (d + 1) by omega] at hx
    rw [s26_36]
    simp only [s26_0, s26_1, s26_2, s26_5, s26_8, s26_11, s26_14, s26_15, s26_18, s26_19, s26_22, s26_23, s26_24, s26_27, s26_28, s26_29, s26_30, s26_31, s26_32, s26_35, s26_37, s26_38, s26_41, s26_44, s26_46, s26_47, s26_48, s26_49, s26_50, s26_53, s26_54, s26_56, s26_57, s26_58, s26_61, s26_65, s26_68, s26_69, zl_n, zl_i, zl_r, zl_0, z10, z01, ez_bd_s, ez_bd_n, eq_self, true_or, or_true, if_true, if_false, zb_eq, zb_eq1, zb_em, zb_em2, ite_not, List.append_nil, List.cons_append, List.nil_append, reduceCtorEq, not_true_eq_false, not_false_eq_true, xo1, xa1, xf1_0, xv1_0, xp1_0, xf1_1, xv1_1, xf1_2, xv1_2, xp1_2, xf1_3, xv1_3, xf1_4, xv1_4, xf1_5, xv1_5, xp1_5, xf1_6, xv1_6, xp1_6, xf1_7, xv1_7, xf1_8, xv1_8, xf1_9, xv1_9, xf1_10, xv1_10, xf1_11, xv1_11, xf1_12, xv1_12, xf1_13, xv1_13, xf1_14, xv1_14, xp1_14, xo3, xa3, xf3_0, xv3_0, xp3_0, xf3_1, xv3_1, xf3_2, xv3_2, xp3_2, xo5, xa5, xf5_0, xv5_0, xp5_0, xf5_1, xv5_1, xp5_1, xf5_2, xv5_2, xp5_2, xf5_3, xv5_3, xp5_3, xf5_4, xv5_4, xp5_4, xf5_5, xv5_5, xp5_5, xf5_6, xv5_6, xp5_6, xf5_7, xv5_7, xp5_7, xf5_8, xv5_8, xp5_8, xf5_9, xv5_9, xp5_9, xf5_10, xv5_10, xp5_10, xf5_11, xv5_11, xp5_11, xf5_12, xv5_12, xp5_12, xo6, xa6, xf6_0, xv6_0, xp6_0, xf6_1, xv6_1, xp6_1, xf6_2, xv6_2, xp6_2, xo7, xa7, xf7_0, xv7_0, xp7_0, xf7_1, xv7_1, xp7_1, xf7_2, xv7_2, xp7_2, xf7_3, xv7_3, xp7_3, xf7_4, xv7_4, xf7_5, xv7_5, xo8, xa8, xf8_0, xv8_0, xp8_0, xf8_1, xv8_1, xo10, xa10, xf10_0, xv10_0, xp10_0, xf10_1, xv10_1, xp10_1, xf10_2, xv10_2, xp10_2, xf10_3, xv10_3, xf10_4, xv10_4, xo12, xa12, xf12_0, xv12_0, xf12_1, xv12_1, xp12_1, xf12_2, xv12_2, xp12_2, xf12_3, xv12_3, xp12_3, xf12_4, xv12_4, xo13, xa13, xf13_0, xv13_0, xf13_1, xv13_1, xp13_1, xo14, xa14, xf14_0, xv14_0, xf14_1, xv14_1, xp14_1, xf14_2, xv14_2, xp14_2, xf14_3, xv14_3, xp14_3, ya2_1, yw2_1, yv2_1, yp2_1, yn2_1, yl2_1, ya2_3, yw2_3, yv2_3, yp2_3, yn2_3, yl2_3, ya2_10, yw2_10, yv2_10, yp2_10, yn2_10, yl2_10, ya2_11, yw2_11, yv2_11, yp2_11, yn2_11, yl2_11, ya9, yw9, yv9, yp9, yn9, yl9, ya11, yw11, yv11, yp11, yn11, yl11, ya15, yw15, yv15, yp15, yn15, yl15, ya16, yw16, yv16, yp16, yn16, yl16, ok10, ok11, ok1i, xu_s, xu_n, ne_eq, Prod.mk.injEq, Nat.reduceEqDiff, false_and, and_false, not_false_eq_true, l14, h3, nI_nleI (show s + i < e by omega) (show e < 2 ^ 31 by omega), qb, nI_1]
    exact hx
theorem c_num (w : xw h0 P c) (l14 : lv P (14, 0, 0)) (r : RD c z) : ((pm_tn z).2 = 0 ∧ rdc g h0 P c 26 [] (-1) (pm_tn z).1) ∨ ((pm_tn z).2 = 1 ∧ md_in ((pm_tn z).1.1 50) 1000 = true ∧ rdc g h0 P c 26 [] ((pm_tn z).1.1 50) (pm_tn z).1) := by
  obtain ⟨N, s, hN, hs, eN, eN', es, nb, -, ezd⟩ := RD_f r
  have r' := r
  obtain ⟨-, r1, r2, r3, r4⟩ := r
  have l16 : lv P (16, 0, 0) := xw_cl w l14 rfl (show 14 ≠ 0 by decide) (show 14 ≠ 3 by decide)
  rw [eN'] at r1
  rw [eN, es] at r3
  rw [es] at r2
  have hT := tE_le (F := c (16, 0, 0)) hs
  have hsub : nI (tE (c (16, 0, 0)) N s) - nI s = nI (tE (c (16, 0, 0)) N s - s) := nI_sbl hT.1
  have qb := c_byteAt (g := g) (h0 := h0) (c := c) (p := s) l14 l16 r1 hN (by omega)
  have hd := dte_le (f := c (16, 0, 0)) (N - s) s
  unfold pm_tn
  rw [ezd, es]
  by_cases hdig : s < N ∧ ¬ c (16, 0, 0) s < 48 ∧ ¬ 57 < c (16, 0, 0) s
  · obtain ⟨hsN, f1, f2⟩ := hdig
    have f3 : c (16, 0, 0) s < 97 := Int32.lt_of_le_of_lt (Int32.not_lt.mp f2) (by decide)
    have eT : tE (c (16, 0, 0)) N s = dte (c (16, 0, 0)) (N - s) s := by
      unfold tE
      rw [if_pos hsN, if_pos f3, if_neg f1, if_neg f2]
    have hgt : s < dte (c (16, 0, 0)) (N - s) s := by
      rw [show N - s = (N - s - 1) + 1 by omega, dte, if_neg f1, if_neg f2]
      have := dte_le (f := c (16, 0, 0)) (N - s - 1) (s + 1)
      omega
    rw [if_neg (by omega)]
    rw [if_pos hsN] at qb
    rw [eT] at r3 hsub hT
    have hin := fun q => dte_in (f := c (16, 0, 0)) (N - s) s q
    generalize dte (c (16, 0, 0)) (N - s) s = E at *
    by_cases h3 : E - s ≤ 3
    · rw [if_pos h3]
      right
      have en : (md_sI (pm_nn z) 38 (nI E)).1 50 = nv (c (16, 0, 0)) s (E - s) := by
        show nv (z.2 35) (zs z) (zd z - zs z) = _
        rw [ezd, es]
        exact nv_cg _ (fun i hi => r4 (s + i) (by omega))
      obtain ⟨m, hm, em⟩ := nv_b (s := s) (f := c (16, 0, 0)) (E - s) h3 (fun i hi => hin (s + i) (by omega) (by omega))
      have hm3 : m < 1000 := Nat.lt_of_lt_of_le hm (Nat.le_trans (Nat.pow_le_pow_right (show 0 < 10 by decide) h3) (by decide))
      refine ⟨rfl, by rw [en, em]; exact md_inN hm3 (by decide), ?_⟩
      have nx := c_next (g := g) (h0 := h0) l14 l16 w.1 r1 hN (e := E) r3 (by omega)
      refine ⟨xu (xu c (14, 0, 0) 2 (nI (sk (c (16, 0, 0)) (N - E) E))) (14, 0, 0) 3 (nI (tE (c (16, 0, 0)) N (sk (c (16, 0, 0)) (N - E) E))), ?_, ?_, xw_14 (xw_14 w), fun r' hr => by rw [xu_n hr, xu_n hr]⟩
      · have lp := lc_num (g := g) (h0 := h0) (s := s) l14 l16 r1 hN r3 (by omega) (by omega) (E - s) 0 (by omega)
        rw [nv, Nat.add_zero, Nat.zero_add] at lp
        rw [en, e26]
        simp only [s26_0, s26_1, s26_2, s26_5, s26_8, s26_11, s26_14, s26_15, s26_18, s26_19, s26_22, s26_23, s26_24, s26_27, s26_28, s26_29, s26_30, s26_31, s26_32, s26_35, s26_37, s26_38, s26_41, s26_44, s26_46, s26_47, s26_48, s26_49, s26_50, s26_53, s26_54, s26_56, s26_57, s26_58, s26_61, s26_65, s26_68, s26_69, zl_n, zl_i, zl_r, zl_0, z10, z01, ez_bd_s, ez_bd_n, eq_self, true_or, or_true, if_true, if_false, zb_eq, zb_eq1, zb_em, zb_em2, ite_not, List.append_nil, List.cons_append, List.nil_append, reduceCtorEq, not_true_eq_false, not_false_eq_true, xo1, xa1, xf1_0, xv1_0, xp1_0, xf1_1, xv1_1, xf1_2, xv1_2, xp1_2, xf1_3, xv1_3, xf1_4, xv1_4, xf1_5, xv1_5, xp1_5, xf1_6, xv1_6, xp1_6, xf1_7, xv1_7, xf1_8, xv1_8, xf1_9, xv1_9, xf1_10, xv1_10, xf1_11, xv1_11, xf1_12, xv1_12, xf1_13, xv1_13, xf1_14, xv1_14, xp1_14, xo3, xa3, xf3_0, xv3_0, xp3_0, xf3_1, xv3_1, xf3_2, xv3_2, xp3_2, xo5, xa5, xf5_0, xv5_0, xp5_0, xf5_1, xv5_1, xp5_1, xf5_2, xv5_2, xp5_2, xf5_3, xv5_3, xp5_3, xf5_4, xv5_4, xp5_4, xf5_5, xv5_5, xp5_5, xf5_6, xv5_6, xp5_6, xf5_7, xv5_7, xp5_7, xf5_8, xv5_8, xp5_8, xf5_9, xv5_9, xp5_9, xf5_10, xv5_10, xp5_10, xf5_11, xv5_11, xp5_11, xf5_12, xv5_12, xp5_12, xo6, xa6, xf6_0, xv6_0, xp6_0, xf6_1, xv6_1, xp6_1, xf6_2, xv6_2, xp6_2, xo7, xa7, xf7_0, xv7_0, xp7_0, xf7_1, xv7_1, xp7_1, xf7_2, xv7_2, xp7_2, xf7_3, xv7_3, xp7_3, xf7_4, xv7_4, xf7_5, xv7_5, xo8, xa8, xf8_0, xv8_0, xp8_0, xf8_1, xv8_1, xo10, xa10, xf10_0, xv10_0, xp10_0, xf10_1, xv10_1, xp10_1, xf10_2, xv10_2, xp10_2, xf10_3, xv10_3, xf10_4, xv10_4, xo12, xa12, xf12_0, xv12_0, xf12_1, xv12_1, xp12_1, xf12_2, xv12_2, xp12_2, xf12_3, xv12_3, xp12_3, xf12_4, xv12_4, xo13, xa13, xf13_0, xv13_0, xf13_1, xv13_1, xp13_1, xo14, xa14, xf14_0, xv14_0, xf14_1, xv14_1, xp14_1, xf14_2, xv14_2, xp14_2, xf14_3, xv14_3, xp14_3, ya2_1, yw2_1, yv2_1, yp2_1, yn2_1, yl2_1, ya2_3, yw2_3, yv2_3, yp2_3, yn2_3, yl2_3, ya2_10, yw2_10, yv2_10, yp2_10, yn2_10, yl2_10, ya2_11, yw2_11, yv2_11, yp2_11, yn2_11, yl2_11, ya9, yw9, yv9, yp9, yn9, yl9, ya11, yw11, yv11, yp11, yn11, yl11, ya15, yw15, yv15, yp15, yn15, yl15, ya16, yw16, yv16, yp16, yn16, yl16, ok10, ok11, ok1i, xu_s, xu_n, ne_eq, Prod.mk.injEq, Nat.reduceEqDiff, false_and, and_false, not_false_eq_true, l14, r2, r3, qb, c_isDigit, f1, f2, hsub, show (nI (E - s) ≤ 3) = True from eq_true (nI_le (b := 3) h3 (by decide))]
        rw [lp]
        simp only [s26_0, s26_1, s26_2, s26_5, s26_8, s26_11, s26_14, s26_15, s26_18, s26_19, s26_22, s26_23, s26_24, s26_27, s26_28, s26_29, s26_30, s26_31, s26_32, s26_35, s26_37, s26_38, s26_41, s26_44, s26_46, s26_47, s26_48, s26_49, s26_50, s26_53, s26_54, s26_56, s26_57, s26_58, s26_61, s26_64, s26_65, s26_68, s26_69, zl_n, zl_i, zl_r, zl_0, z10, z01, ez_bd_s, ez_bd_n, eq_self, true_or, or_true, if_true, if_false, zb_eq, zb_eq1, zb_em, zb_em2, ite_not, List.append_nil, List.cons_append, List.nil_append, reduceCtorEq, not_true_eq_false, not_false_eq_true, xo1, xa1, xf1_0, xv1_0, xp1_0, xf1_1, xv1_1, xf1_2, xv1_2, xp1_2, xf1_3, xv1_3, xf1_4, xv1_4, xf1_5, xv1_5, xp1_5, xf1_6, xv1_6, xp1_6, xf1_7, xv1_7, xf1_8, xv1_8, xf1_9, xv1_9, xf1_10, xv1_10, xf1_11, xv1_11, xf1_12, xv1_12, xf1_13, xv1_13, xf1_14, xv1_14, xp1_14, xo3, xa3, xf3_0, xv3_0, xp3_0, xf3_1, xv3_1, xf3_2, xv3_2, xp3_2, xo5, xa5, xf5_0, xv5_0, xp5_0, xf5_1, xv5_1, xp5_1, xf5_2, xv5_2, xp5_2, xf5_3, xv5_3, xp5_3, xf5_4, xv5_4, xp5_4, xf5_5, xv5_5, xp5_5, xf5_6, xv5_6, xp5_6, xf5_7, xv5_7, xp5_7, xf5_8, xv5_8, xp5_8, xf5_9, xv5_9, xp5_9, xf5_10, xv5_10, xp5_10, xf5_11, xv5_11, xp5_11, xf5_12, xv5_12, xp5_12, xo6, xa6, xf6_0, xv6_0, xp6_0, xf6_1, xv6_1, xp6_1, xf6_2, xv6_2, xp6_2, xo7, xa7, xf7_0, xv7_0, xp7_0, xf7_1, xv7_1, xp7_1, xf7_2, xv7_2, xp7_2, xf7_3, xv7_3, xp7_3, xf7_4, xv7_4, xf7_5, xv7_5, xo8, xa8, xf8_0, xv8_0, xp8_0, xf8_1, xv8_1, xo10, xa10, xf10_0, xv10_0, xp10_0, xf10_1, xv10_1, xp10_1, xf10_2, xv10_2, xp10_2, xf10_3, xv10_3, xf10_4, xv10_4, xo12, xa12, xf12_0, xv12_0, xf12_1, xv12_1, xp12_1, xf12_2, xv12_2, xp12_2, xf12_3, xv12_3, xp12_3, xf12_4, xv12_4, xo13, xa13, xf13_0, xv13_0, xf13_1, xv13_1, xp13_1, xo14, xa14, xf14_0, xv14_0, xf14_1, xv14_1, xp14_1, xf14_2, xv14_2, xp14_2, xf14_3, xv14_3, xp14_3, ya2_1, yw2_1, yv2_1, yp2_1, yn2_1, yl2_1, ya2_3, yw2_3, yv2_3, yp2_3, yn2_3, yl2_3, ya2_10, yw2_10, yv2_10, yp2_10, yn2_10, yl2_10, ya2_11, yw2_11, yv2_11, yp2_11, yn2_11, yl2_11, ya9, yw9, yv9, yp9, yn9, yl9, ya11, yw11, yv11, yp11, yn11, yl11, ya15, yw15, yv15, yp15, yn15, yl15, ya16, yw16, yv16, yp16, yn16, yl16, ok10, ok11, ok1i, xu_s, xu_n, ne_eq, Prod.mk.injEq, Nat.reduceEqDiff, false_and, and_false, not_false_eq_true, l14, nx]
      · refine RD_to r' (p := E) (by rw [eN]; omega) rfl rfl rfl (by rw [xu_n (by rintro ⟨⟩), xu_n (by rintro ⟨⟩)]) (by rw [xu_t (by decide), xu_t (by decide)]) (by rw [xu_t (by decide), xu_s, if_pos rfl, eN]) (by rw [xu_s, if_pos rfl, eN])
    · rw [if_neg h3]
      left
      refine ⟨rfl, c, ?_, RD_st r' rfl rfl rfl, w, fun _ _ => rfl⟩
      rw [e26]
      simp only [s26_0, s26_1, s26_2, s26_5, s26_8, s26_11, s26_14, s26_15, s26_18, s26_19, s26_22, s26_23, s26_24, s26_27, s26_28, s26_29, s26_30, s26_31, s26_32, s26_35, s26_36, s26_37, s26_38, s26_41, s26_44, s26_46, s26_47, s26_48, s26_49, s26_50, s26_53, s26_54, s26_56, s26_57, s26_58, s26_61, s26_64, s26_65, s26_68, s26_69, zl_n, zl_i, zl_r, zl_0, z10, z01, ez_bd_s, ez_bd_n, eq_self, true_or, or_true, if_true, if_false, zb_eq, zb_eq1, zb_em, zb_em2, ite_not, List.append_nil, List.cons_append, List.nil_append, reduceCtorEq, not_true_eq_false, not_false_eq_true, xo1, xa1, xf1_0, xv1_0, xp1_0, xf1_1, xv1_1, xf1_2, xv1_2, xp1_2, xf1_3, xv1_3, xf1_4, xv1_4, xf1_5, xv1_5, xp1_5, xf1_6, xv1_6, xp1_6, xf1_7, xv1_7, xf1_8, xv1_8, xf1_9, xv1_9, xf1_10, xv1_10, xf1_11, xv1_11, xf1_12, xv1_12, xf1_13, xv1_13, xf1_14, xv1_14, xp1_14, xo3, xa3, xf3_0, xv3_0, xp3_0, xf3_1, xv3_1, xf3_2, xv3_2, xp3_2, xo5, xa5, xf5_0, xv5_0, xp5_0, xf5_1, xv5_1, xp5_1, xf5_2, xv5_2, xp5_2, xf5_3, xv5_3, xp5_3, xf5_4, xv5_4, xp5_4, xf5_5, xv5_5, xp5_5, xf5_6, xv5_6, xp5_6, xf5_7, xv5_7, xp5_7, xf5_8, xv5_8, xp5_8, xf5_9, xv5_9, xp5_9, xf5_10, xv5_10, xp5_10, xf5_11, xv5_11, xp5_11, xf5_12, xv5_12, xp5_12, xo6, xa6, xf6_0, xv6_0, xp6_0, xf6_1, xv6_1, xp6_1, xf6_2, xv6_2, xp6_2, xo7, xa7, xf7_0, xv7_0, xp7_0, xf7_1, xv7_1, xp7_1, xf7_2, xv7_2, xp7_2, xf7_3, xv7_3, xp7_3, xf7_4, xv7_4, xf7_5, xv7_5, xo8, xa8, xf8_0, xv8_0, xp8_0, xf8_1, xv8_1, xo10, xa10, xf10_0, xv10_0, xp10_0, xf10_1, xv10_1, xp10_1, xf10_2, xv10_2, xp10_2, xf10_3, xv10_3, xf10_4, xv10_4, xo12, xa12, xf12_0, xv12_0, xf12_1, xv12_1, xp12_1, xf12_2, xv12_2, xp12_2, xf12_3, xv12_3, xp12_3, xf12_4, xv12_4, xo13, xa13, xf13_0, xv13_0, xf13_1, xv13_1, xp13_1, xo14, xa14, xf14_0, xv14_0, xf14_1, xv14_1, xp14_1, xf14_2, xv14_2, xp14_2, xf14_3, xv14_3, xp14_3, ya2_1, yw2_1, yv2_1, yp2_1, yn2_1, yl2_1, ya2_3, yw2_3, yv2_3, yp2_3, yn2_3, yl2_3, ya2_10, yw2_10, yv2_10, yp2_10, yn2_10, yl2_10, ya2_11, yw2_11, yv2_11, yp2_11, yn2_11, yl2_11, ya9, yw9, yv9, yp9, yn9, yl9, ya11, yw11, yv11, yp11, yn11, yl11, ya15, yw15, yv15, yp15, yn15, yl15, ya16, yw16, yv16, yp16, yn16, yl16, ok10, ok11, ok1i, xu_s, xu_n, ne_eq, Prod.mk.injEq, Nat.reduceEqDiff, false_and, and_false, not_false_eq_true, l14, r2, r3, qb, c_isDigit, f1, f2, hsub, show (nI (E - s) ≤ 3) = False from eq_false (nI_ge (a := 3) (by omega) (by omega))]
  · have eD : dte (c (16, 0, 0)) (N - s) s = s := by
      by_cases hsN : s < N
      · rw [show N - s = (N - s - 1) + 1 by omega, dte]
        by_cases f1 : c (16, 0, 0) s < 48
        · rw [if_pos f1]
        · rw [if_neg f1]
          by_cases f2 : 57 < c (16, 0, 0) s
          · rw [if_pos f2]
          · exact absurd ⟨hsN, f1, f2⟩ hdig
      · rw [show N - s = 0 by omega, dte]
    rw [if_pos eD]
    left
    refine ⟨rfl, c, ?_, RD_st r' rfl rfl rfl, w, fun _ _ => rfl⟩
    have hn : (if (if s < N then c (16, 0, 0) s else 256) < 48 then (0 : Int32) else if 57 < (if s < N then c (16, 0, 0) s else 256) then 0 else 1) = 0 := by
      by_cases hsN : s < N
      · rw [if_pos hsN]
        by_cases f1 : c (16, 0, 0) s < 48
        · rw [if_pos f1]
        · rw [if_neg f1]
          by_cases f2 : 57 < c (16, 0, 0) s
          · rw [if_pos f2]
          · exact absurd ⟨hsN, f1, f2⟩ hdig
      · rw [if_neg hsN]
        decide
    rw [e26]
    simp only [s26_0, s26_1, s26_2, s26_5, s26_8, s26_11, s26_14, s26_15, s26_18, s26_19, s26_22, s26_23, s26_24, s26_27, s26_28, s26_29, s26_30, s26_31, s26_32, s26_35, s26_36, s26_37, s26_38, s26_41, s26_44, s26_46, s26_47, s26_48, s26_49, s26_50, s26_53, s26_54, s26_56, s26_57, s26_58, s26_61, s26_64, s26_65, s26_68, s26_69, zl_n, zl_i, zl_r, zl_0, z10, z01, ez_bd_s, ez_bd_n, eq_self, true_or, or_true, if_true, if_false, zb_eq, zb_eq1, zb_em, zb_em2, ite_not, List.append_nil, List.cons_append, List.nil_append, reduceCtorEq, not_true_eq_false, not_false_eq_true, xo1, xa1, xf1_0, xv1_0, xp1_0, xf1_1, xv1_1, xf1_2, xv1_2, xp1_2, xf1_3, xv1_3, xf1_4, xv1_4, xf1_5, xv1_5, xp1_5, xf1_6, xv1_6, xp1_6, xf1_7, xv1_7, xf1_8, xv1_8, xf1_9, xv1_9, xf1_10, xv1_10, xf1_11, xv1_11, xf1_12, xv1_12, xf1_13, xv1_13, xf1_14, xv1_14, xp1_14, xo3, xa3, xf3_0, xv3_0, xp3_0, xf3_1, xv3_1, xf3_2, xv3_2, xp3_2, xo5, xa5, xf5_0, xv5_0, xp5_0, xf5_1, xv5_1, xp5_1, xf5_2, xv5_2, xp5_2, xf5_3, xv5_3, xp5_3, xf5_4, xv5_4, xp5_4, xf5_5, xv5_5, xp5_5, xf5_6, xv5_6, xp5_6, xf5_7, xv5_7, xp5_7, xf5_8, xv5_8, xp5_8, xf5_9, xv5_9, xp5_9, xf5_10, xv5_10, xp5_10, xf5_11, xv5_11, xp5_11, xf5_12, xv5_12, xp5_12, xo6, xa6, xf6_0, xv6_0, xp6_0, xf6_1, xv6_1, xp6_1, xf6_2, xv6_2, xp6_2, xo7, xa7, xf7_0, xv7_0, xp7_0, xf7_1, xv7_1, xp7_1, xf7_2, xv7_2, xp7_2, xf7_3, xv7_3, xp7_3, xf7_4, xv7_4, xf7_5, xv7_5, xo8, xa8, xf8_0, xv8_0, xp8_0, xf8_1, xv8_1, xo10, xa10, xf10_0, xv10_0, xp10_0, xf10_1, xv10_1, xp10_1, xf10_2, xv10_2, xp10_2, xf10_3, xv10_3, xf10_4, xv10_4, xo12, xa12, xf12_0, xv12_0, xf12_1, xv12_1, xp12_1, xf12_2, xv12_2, xp12_2, xf12_3, xv12_3, xp12_3, xf12_4, xv12_4, xo13, xa13, xf13_0, xv13_0, xf13_1, xv13_1, xp13_1, xo14, xa14, xf14_0, xv14_0, xf14_1, xv14_1, xp14_1, xf14_2, xv14_2, xp14_2, xf14_3, xv14_3, xp14_3, ya2_1, yw2_1, yv2_1, yp2_1, yn2_1, yl2_1, ya2_3, yw2_3, yv2_3, yp2_3, yn2_3, yl2_3, ya2_10, yw2_10, yv2_10, yp2_10, yn2_10, yl2_10, ya2_11, yw2_11, yv2_11, yp2_11, yn2_11, yl2_11, ya9, yw9, yv9, yp9, yn9, yl9, ya11, yw11, yv11, yp11, yn11, yl11, ya15, yw15, yv15, yp15, yn15, yl15, ya16, yw16, yv16, yp16, yn16, yl16, ok10, ok11, ok1i, xu_s, xu_n, ne_eq, Prod.mk.injEq, Nat.reduceEqDiff, false_and, and_false, not_false_eq_true, l14, r2, qb, c_isDigit, hn]
end TL
