section SL
variable {g : ez_G} {h h0 h2 : ez_H} {P P1 : xP} {c c1 cc : xR → Nat → Int32} {z z' y Y : md_S} {t n κ : Nat} {v : Int32}
/-- the end of a statement that says what is lost -/
theorem c_lend (X : xst g P h0) (l14 : lv P (14, 0, 0)) (rs : RS P c z t n) (N : NL P z t n) (hv : v = 0 ∨ v = 1) (rY : RD cc Y) (wY : xw h0 P cc) (ka : kf z Y (16 * t + n)) (g44 : Y.2 44 (16 * t + n) = 3) (g45 : Y.2 45 (16 * t + n) = v) (g46 : Y.2 46 (16 * t + n) = 0) (h3 : cc (7, t, 0) 3 = v) (h2 : cc (7, t, 0) 2 = c (7, t, 0) 2) (hf : ∀ r', r' ≠ (14, 0, 0) → r' ≠ (7, t, 0) → cc r' = c r') (h01 : ∀ s, s ≠ 2 → s ≠ 3 → cc (7, t, 0) s = c (7, t, 0) s) : ∃ c1, ez_ev g 25 [.ref (P.2.2.1 (14, 0, 0)), .ref (g.2.1 5)] (xh h0 P cc) = some (some (.int (pm_fin Y).2), xh h0 P c1) ∧ stR t n h0 P c (pm_fin Y) (pm_fin Y).2 h0 P c1 := by
  obtain ⟨c3, q3, r4, w4, f4⟩ := c_semi X wY l14 rY
  refine ⟨c3, q3, w4, FR_w (FR_c7 (fun r' hr => by rw [f4 _ (nin hr in14), hf _ (nin hr in14) (nin hr in7)]) (fun s u v => by rw [f4 _ (by rintro ⟨⟩), h01 s u v])) (by decide) (by decide), ?_⟩
  rcases fin_01 (y := Y) with h5 | h5
  · refine Or.inl ⟨h5, h5, ?_⟩
    rw [r4.2.2.1, (fin_38 rY h5).1]
  · have e44 : (pm_fin Y).1.2 = Y.2 := fin_2
    have ka' : kf z (pm_fin Y).1 (16 * t + n) := kf_t ka kf_fin
    obtain ⟨R1, R2⟩ := RS_23 (c1 := c3) ka' rs N (fun r' u1 u2 => by rw [f4 _ u1, hf _ u1 u2]) (by
      rw [pv, if_neg (by rw [e44, g44]; decide), pv_k ka' n (Nat.le_refl _), f4 _ (by rintro ⟨⟩), h2]
      exact rs.1) (by
      rw [pv, if_pos (by rw [e44]; exact g44), f4 _ (by rintro ⟨⟩), h3, e44, g45]) (Or.inr (by rw [e44]; exact g44)) (by rw [e44]; exact g46) (fun _ => by rw [e44, g45]; exact hv)
    exact Or.inr ⟨h5, h5, r4, R1, R2⟩
def w_e : Int64 := 1701733491
def w_s : Int64 := 126943688025203
theorem c_lost (X : xst g P h0) (w : xw h0 P c) (l14 : lv P (14, 0, 0)) (l7 : lv P (7, t, 0)) (r : RD c y) (a : kf z y (16 * t + n)) (rs : RS P c z t n) (N : NL P z t n) (h44 : y.2 44 (16 * t + n) = 3) (h46 : y.2 46 (16 * t + n) = 0) : ∃ v c1, ez_ev g 23 [.ref (P.2.2.1 (14, 0, 0)), .ref (P.2.2.1 (7, t, 0))] (xh h0 P c) = some (some (.int v), xh h0 P c1) ∧ stR t n h0 P c (if (pm_tk y w_e).2 = 0 then (if (pm_tk (md_sA (pm_tk y w_e).1 45 (16 * t + n) 0) w_s).2 = 0 then ((pm_tk (md_sA (pm_tk y w_e).1 45 (16 * t + n) 0) w_s).1, 0) else pm_fin (pm_tk (md_sA (pm_tk y w_e).1 45 (16 * t + n) 0) w_s).1) else pm_fin (md_sA (pm_tk y w_e).1 45 (16 * t + n) 1)) v h0 P c1 := by
  have ok := w.1
  obtain ⟨c2, q2, r2, w2, f2⟩ := c_took X (show 9 < 11 by decide) (by decide) (show w_e = _ from cW9) w l14 r
  have kt : kf z (pm_tk y w_e).1 (16 * t + n) := kf_t a kf_tk
  have t2 : (pm_tk y w_e).1.2 = y.2 := tk_2
  have t01 : (pm_tk y w_e).2 = 0 ∨ (pm_tk y w_e).2 = 1 := tk_01
  generalize pm_tk y w_e = T at *
  obtain ⟨T, b⟩ := T
  dsimp only at *
  rcases t01 with e1 | e1
  · subst e1
    rw [if_pos rfl]
    have r3 : RD (xu c2 (7, t, 0) 3 0) (md_sA T 45 (16 * t + n) 0) := RD_c (RD_cg r2 rfl rfl (md_A2n (by decide))) (xu_n (by rintro ⟨⟩)) (xu_n (by rintro ⟨⟩))
    have k3 : kf z (md_sA T 45 (16 * t + n) 0) (16 * t + n) := kf_t kt (kf_A (by omega))
    have v44 : (md_sA T 45 (16 * t + n) 0).2 44 (16 * t + n) = 3 := by rw [md_A2n (by decide), t2]; exact h44
    have v45 : (md_sA T 45 (16 * t + n) 0).2 45 (16 * t + n) = 0 := by rw [md_A2, if_pos rfl, pk_us]
    have v46 : (md_sA T 45 (16 * t + n) 0).2 46 (16 * t + n) = 0 := by rw [md_A2n (by decide), t2]; exact h46
    generalize md_sA T 45 (16 * t + n) 0 = Z at *
    obtain ⟨c3, q3, r4, w4, f4⟩ := c_took X (show 10 < 11 by decide) (by decide) (show w_s = _ from cW10) (xw_7 w2) l14 r3
    have k4 : kf z (pm_tk Z w_s).1 (16 * t + n) := kf_t k3 kf_tk
    have t4 : (pm_tk Z w_s).1.2 = Z.2 := tk_2
    have t38 : (pm_tk Z w_s).2 = 0 → (pm_tk Z w_s).1.1 38 = nI (zs (pm_tk Z w_s).1) := tk_38 r3
    have t02 : (pm_tk Z w_s).2 = 0 ∨ (pm_tk Z w_s).2 = 1 := tk_01
    generalize pm_tk Z w_s = U at *
    obtain ⟨U, b⟩ := U
    dsimp only at *
    rcases t02 with e2 | e2
    · subst e2
      rw [if_pos rfl]
      refine ⟨0, c3, ?_, w4, FR_w (FR_c7 (fun r' hr => by rw [f4 _ (nin hr in14), xu_n (nin hr in7), f2 _ (nin hr in14)]) (fun s _ u => by rw [f4 _ (by rintro ⟨⟩), xu_t u, f2 _ (by rintro ⟨⟩)])) (by decide) (by decide), Or.inl ⟨rfl, rfl, ?_⟩⟩
      · rw [e23]
        simp only [s23_0, s23_0n, s23_1, s23_2, s23_4, s23_7, s23_10, s23_10n, s23_11, s23_14, s23_17, s23_18, s23_20, s23_23, s23_26, s23_27, s23_29, s23_32, s23_35, s23_36, s23_39, s23_40, zl_n, zl_i, zl_r, zl_0, z10, z01, ez_bd_s, ez_bd_n, eq_self, true_or, or_true, if_true, if_false, zb_eq, zb_eq1, zb_em, zb_em2, ite_not, List.append_nil, List.cons_append, List.nil_append, reduceCtorEq, not_true_eq_false, not_false_eq_true, xo1, xa1, xf1_0, xv1_0, xp1_0, xf1_1, xv1_1, xf1_2, xv1_2, xp1_2, xf1_3, xv1_3, xf1_4, xv1_4, xf1_5, xv1_5, xp1_5, xf1_6, xv1_6, xp1_6, xf1_7, xv1_7, xf1_8, xv1_8, xf1_9, xv1_9, xf1_10, xv1_10, xf1_11, xv1_11, xf1_12, xv1_12, xf1_13, xv1_13, xf1_14, xv1_14, xp1_14, xo3, xa3, xf3_0, xv3_0, xp3_0, xf3_1, xv3_1, xf3_2, xv3_2, xp3_2, xo5, xa5, xf5_0, xv5_0, xp5_0, xf5_1, xv5_1, xp5_1, xf5_2, xv5_2, xp5_2, xf5_3, xv5_3, xp5_3, xf5_4, xv5_4, xp5_4, xf5_5, xv5_5, xp5_5, xf5_6, xv5_6, xp5_6, xf5_7, xv5_7, xp5_7, xf5_8, xv5_8, xp5_8, xf5_9, xv5_9, xp5_9, xf5_10, xv5_10, xp5_10, xf5_11, xv5_11, xp5_11, xf5_12, xv5_12, xp5_12, xo6, xa6, xf6_0, xv6_0, xp6_0, xf6_1, xv6_1, xp6_1, xf6_2, xv6_2, xp6_2, xo7, xa7, xf7_0, xv7_0, xp7_0, xf7_1, xv7_1, xp7_1, xf7_2, xv7_2, xp7_2, xf7_3, xv7_3, xp7_3, xf7_4, xv7_4, xf7_5, xv7_5, xo8, xa8, xf8_0, xv8_0, xp8_0, xf8_1, xv8_1, xo10, xa10, xf10_0, xv10_0, xp10_0, xf10_1, xv10_1, xp10_1, xf10_2, xv10_2, xp10_2, xf10_3, xv10_3, xf10_4, xv10_4, xo12, xa12, xf12_0, xv12_0, xf12_1, xv12_1, xp12_1, xf12_2, xv12_2, xp12_2, xf12_3, xv12_3, xp12_3, xf12_4, xv12_4, xo13, xa13, xf13_0, xv13_0, xf13_1, xv13_1, xp13_1, xo14, xa14, xf14_0, xv14_0, xf14_1, xv14_1, xp14_1, xf14_2, xv14_2, xp14_2, xf14_3, xv14_3, xp14_3, ya2_1, yw2_1, yv2_1, yp2_1, yn2_1, yl2_1, ya2_3, yw2_3, yv2_3, yp2_3, yn2_3, yl2_3, ya2_10, yw2_10, yv2_10, yp2_10, yn2_10, yl2_10, ya2_11, yw2_11, yv2_11, yp2_11, yn2_11, yl2_11, ya9, yw9, yv9, yp9, yn9, yl9, ya11, yw11, yv11, yp11, yn11, yl11, ya15, yw15, yv15, yp15, yn15, yl15, ya16, yw16, yv16, yp16, yn16, yl16, ok10, ok11, ok1i, xu_s, xu_n, ne_eq, Prod.mk.injEq, Nat.reduceEqDiff, false_and, and_false, not_false_eq_true, l14, l7, ok, q2, q3, ok10]
      · rw [r4.2.2.1, t38 rfl]
    · subst e2
      rw [if_neg (show ¬ (1 : Int32) = 0 by decide)]
      obtain ⟨c5, q5, s5⟩ := c_lend X l14 rs N (Or.inl rfl) r4 w4 k4 (by rw [t4]; exact v44) (by rw [t4]; exact v45) (by rw [t4]; exact v46) (by rw [f4 _ (by rintro ⟨⟩), xu_s, if_pos rfl]) (by rw [f4 _ (by rintro ⟨⟩), xu_t (by decide), f2 _ (by rintro ⟨⟩)]) (fun r' u1 u2 => by rw [f4 _ u1, xu_n u2, f2 _ u1]) (fun s _ u => by rw [f4 _ (by rintro ⟨⟩), xu_t u, f2 _ (by rintro ⟨⟩)])
      have f01 := fin_01 (y := U)
      generalize pm_fin U = V at *
      obtain ⟨V, b⟩ := V
      dsimp only at *
      refine ⟨b, c5, ?_, s5⟩
      rw [e23]
      rcases f01 with rfl | rfl <;> simp only [s23_0, s23_0n, s23_1, s23_2, s23_4, s23_7, s23_10, s23_10n, s23_11, s23_14, s23_17, s23_18, s23_20, s23_23, s23_26, s23_27, s23_29, s23_32, s23_35, s23_36, s23_39, s23_40, zl_n, zl_i, zl_r, zl_0, z10, z01, ez_bd_s, ez_bd_n, eq_self, true_or, or_true, if_true, if_false, zb_eq, zb_eq1, zb_em, zb_em2, ite_not, List.append_nil, List.cons_append, List.nil_append, reduceCtorEq, not_true_eq_false, not_false_eq_true, xo1, xa1, xf1_0, xv1_0, xp1_0, xf1_1, xv1_1, xf1_2, xv1_2, xp1_2, xf1_3, xv1_3, xf1_4, xv1_4, xf1_5, xv1_5, xp1_5, xf1_6, xv1_6, xp1_6, xf1_7, xv1_7, xf1_8, xv1_8, xf1_9, xv1_9, xf1_10, xv1_10, xf1_11, xv1_11, xf1_12, xv1_12, xf1_13, xv1_13, xf1_14, xv1_14, xp1_14, xo3, xa3, xf3_0, xv3_0, xp3_0, xf3_1, xv3_1, xf3_2, xv3_2, xp3_2, xo5, xa5, xf5_0, xv5_0, xp5_0, xf5_1, xv5_1, xp5_1, xf5_2, xv5_2, xp5_2, xf5_3, xv5_3, xp5_3, xf5_4, xv5_4, xp5_4, xf5_5, xv5_5, xp5_5, xf5_6, xv5_6, xp5_6, xf5_7, xv5_7, xp5_7, xf5_8, xv5_8, xp5_8, xf5_9, xv5_9, xp5_9, xf5_10, xv5_10, xp5_10, xf5_11, xv5_11, xp5_11, xf5_12, xv5_12, xp5_12, xo6, xa6, xf6_0, xv6_0, xp6_0, xf6_1, xv6_1, xp6_1, xf6_2, xv6_2, xp6_2, xo7, xa7, xf7_0, xv7_0, xp7_0, xf7_1, xv7_1, xp7_1, xf7_2, xv7_2, xp7_2, xf7_3, xv7_3, xp7_3, xf7_4, xv7_4, xf7_5, xv7_5, xo8, xa8, xf8_0, xv8_0, xp8_0, xf8_1, xv8_1, xo10, xa10, xf10_0, xv10_0, xp10_0, xf10_1, xv10_1, xp10_1, xf10_2, xv10_2, xp10_2, xf10_3, xv10_3, xf10_4, xv10_4, xo12, xa12, xf12_0, xv12_0, xf12_1, xv12_1, xp12_1, xf12_2, xv12_2, xp12_2, xf12_3, xv12_3, xp12_3, xf12_4, xv12_4, xo13, xa13, xf13_0, xv13_0, xf13_1, xv13_1, xp13_1, xo14, xa14, xf14_0, xv14_0, xf14_1, xv14_1, xp14_1, xf14_2, xv14_2, xp14_2, xf14_3, xv14_3, xp14_3, ya2_1, yw2_1, yv2_1, yp2_1, yn2_1, yl2_1, ya2_3, yw2_3, yv2_3, yp2_3, yn2_3, yl2_3, ya2_10, yw2_10, yv2_10, yp2_10, yn2_10, yl2_10, ya2_11, yw2_11, yv2_11, yp2_11, yn2_11, yl2_11, ya9, yw9, yv9, yp9, yn9, yl9, ya11, yw11, yv11, yp11, yn11, yl11, ya15, yw15, yv15, yp15, yn15, yl15, ya16, yw16, yv16, yp16, yn16, yl16, ok10, ok11, ok1i, xu_s, xu_n, ne_eq, Prod.mk.injEq, Nat.reduceEqDiff, false_and, and_false, not_false_eq_true, l14, l7, ok, q2, q3, q5, ok10]
  · subst e1
    rw [if_neg (show ¬ (1 : Int32) = 0 by decide)]
    have r3 : RD (xu c2 (7, t, 0) 3 1) (md_sA T 45 (16 * t + n) 1) := RD_c (RD_cg r2 rfl rfl (md_A2n (by decide))) (xu_n (by rintro ⟨⟩)) (xu_n (by rintro ⟨⟩))
    have k3 : kf z (md_sA T 45 (16 * t + n) 1) (16 * t + n) := kf_t kt (kf_A (by omega))
    have v44 : (md_sA T 45 (16 * t + n) 1).2 44 (16 * t + n) = 3 := by rw [md_A2n (by decide), t2]; exact h44
    have v45 : (md_sA T 45 (16 * t + n) 1).2 45 (16 * t + n) = 1 := by rw [md_A2, if_pos rfl, pk_us]
    have v46 : (md_sA T 45 (16 * t + n) 1).2 46 (16 * t + n) = 0 := by rw [md_A2n (by decide), t2]; exact h46
    generalize md_sA T 45 (16 * t + n) 1 = Z at *
    obtain ⟨c5, q5, s5⟩ := c_lend X l14 rs N (Or.inr rfl) r3 (xw_7 w2) k3 v44 v45 v46 (by rw [xu_s, if_pos rfl]) (by rw [xu_t (by decide), f2 _ (by rintro ⟨⟩)]) (fun r' u1 u2 => by rw [xu_n u2, f2 _ u1]) (fun s _ u => by rw [xu_t u, f2 _ (by rintro ⟨⟩)])
    have f01 := fin_01 (y := Z)
    generalize pm_fin Z = V at *
    obtain ⟨V, b⟩ := V
    dsimp only at *
    refine ⟨b, c5, ?_, s5⟩
    rw [e23]
    rcases f01 with rfl | rfl <;> simp only [s23_0, s23_0n, s23_1, s23_2, s23_4, s23_7, s23_10, s23_10n, s23_11, s23_14, s23_17, s23_18, s23_20, s23_23, s23_26, s23_27, s23_29, s23_32, s23_35, s23_36, s23_39, s23_40, zl_n, zl_i, zl_r, zl_0, z10, z01, ez_bd_s, ez_bd_n, eq_self, true_or, or_true, if_true, if_false, zb_eq, zb_eq1, zb_em, zb_em2, ite_not, List.append_nil, List.cons_append, List.nil_append, reduceCtorEq, not_true_eq_false, not_false_eq_true, xo1, xa1, xf1_0, xv1_0, xp1_0, xf1_1, xv1_1, xf1_2, xv1_2, xp1_2, xf1_3, xv1_3, xf1_4, xv1_4, xf1_5, xv1_5, xp1_5, xf1_6, xv1_6, xp1_6, xf1_7, xv1_7, xf1_8, xv1_8, xf1_9, xv1_9, xf1_10, xv1_10, xf1_11, xv1_11, xf1_12, xv1_12, xf1_13, xv1_13, xf1_14, xv1_14, xp1_14, xo3, xa3, xf3_0, xv3_0, xp3_0, xf3_1, xv3_1, xf3_2, xv3_2, xp3_2, xo5, xa5, xf5_0, xv5_0, xp5_0, xf5_1, xv5_1, xp5_1, xf5_2, xv5_2, xp5_2, xf5_3, xv5_3, xp5_3, xf5_4, xv5_4, xp5_4, xf5_5, xv5_5, xp5_5, xf5_6, xv5_6, xp5_6, xf5_7, xv5_7, xp5_7, xf5_8, xv5_8, xp5_8, xf5_9, xv5_9, xp5_9, xf5_10, xv5_10, xp5_10, xf5_11, xv5_11, xp5_11, xf5_12, xv5_12, xp5_12, xo6, xa6, xf6_0, xv6_0, xp6_0, xf6_1, xv6_1, xp6_1, xf6_2, xv6_2, xp6_2, xo7, xa7, xf7_0, xv7_0, xp7_0, xf7_1, xv7_1, xp7_1, xf7_2, xv7_2, xp7_2, xf7_3, xv7_3, xp7_3, xf7_4, xv7_4, xf7_5, xv7_5, xo8, xa8, xf8_0, xv8_0, xp8_0, xf8_1, xv8_1, xo10, xa10, xf10_0, xv10_0, xp10_0, xf10_1, xv10_1, xp10_1, xf10_2, xv10_2, xp10_2, xf10_3, xv10_3, xf10_4, xv10_4, xo12, xa12, xf12_0, xv12_0, xf12_1, xv12_1, xp12_1, xf12_2, xv12_2, xp12_2, xf12_3, xv12_3, xp12_3, xf12_4, xv12_4, xo13, xa13, xf13_0, xv13_0, xf13_1, xv13_1, xp13_1, xo14, xa14, xf14_0, xv14_0, xf14_1, xv14_1, xp14_1, xf14_2, xv14_2, xp14_2, xf14_3, xv14_3, xp14_3, ya2_1, yw2_1, yv2_1, yp2_1, yn2_1, yl2_1, ya2_3, yw2_3, yv2_3, yp2_3, yn2_3, yl2_3, ya2_10, yw2_10, yv2_10, yp2_10, yn2_10, yl2_10, ya2_11, yw2_11, yv2_11, yp2_11, yn2_11, yl2_11, ya9, yw9, yv9, yp9, yn9, yl9, ya11, yw11, yv11, yp11, yn11, yl11, ya15, yw15, yv15, yp15, yn15, yl15, ya16, yw16, yv16, yp16, yn16, yl16, ok10, ok11, ok1i, xu_s, xu_n, ne_eq, Prod.mk.injEq, Nat.reduceEqDiff, false_and, and_false, not_false_eq_true, l14, l7, ok, q2, q5, ok11]
end SL
