section DT
variable {g : ez_G} {h h0 h1 h2 : ez_H} {P P1 : xP} {c c1 cc : xR → Nat → Int32} {z z' y Y : md_S} {t n κ k L : Nat} {v : Int32}
theorem c_num1 (w : xw h0 P c) (l14 : lv P (14, 0, 0)) (r : RD c y) : ∃ v c', ez_ev g 26 [.ref (P.2.2.1 (14, 0, 0))] (xh h0 P c) = some (some (.int v), xh h0 P c') ∧ RD c' (pm_tn y).1 ∧ xw h0 P c' ∧ (∀ r', r' ≠ (14, 0, 0) → c' r' = c r') ∧ (((pm_tn y).2 = 0 ∧ v = -1 ∧ (pm_tn y).1.1 38 = nI (zs (pm_tn y).1)) ∨ ((pm_tn y).2 = 1 ∧ v = (pm_tn y).1.1 50 ∧ md_in ((pm_tn y).1.1 50) 1000 = true)) := by
  rcases c_num (g := g) w l14 r with ⟨t0, c2, q2, r2, w2, f2⟩ | ⟨t1, b1, c2, q2, r2, w2, f2⟩
  · obtain ⟨u1, u2⟩ := tn_38 r t0
    exact ⟨-1, c2, q2, r2, w2, f2, Or.inl ⟨t0, rfl, by rw [u1, u2]⟩⟩
  · exact ⟨_, c2, q2, r2, w2, f2, Or.inr ⟨t1, rfl, b1⟩⟩
def w_i : Int64 := 26995
theorem s0_w : pm_s0 y k = if (pm_tc y k).2 = 0 then ((pm_tc y k).1, 0) else if (pm_tk (pm_tc y k).1 w_i).2 = 0 then ((pm_tk (pm_tc y k).1 w_i).1, 0) else pm_s2 (pm_tk (pm_tc y k).1 w_i).1 k := rfl
theorem c_duty (hg : g.1 = P.1) (hn : n < 16) (X : xst g P h0) (w : xw h0 P c) (l14 : lv P (14, 0, 0)) (l7 : lv P (7, t, 0)) (r : RD c y) (a : kf z y (16 * t + n)) (rs : RS P c z t n) (N : NL P z t n) (h44 : y.2 44 (16 * t + n) = 0) : ∃ v h1 P1 c1, ez_ev g 20 [.ref (P.2.2.1 (14, 0, 0)), .ref (P.2.2.1 (7, t, 0))] (xh h0 P c) = some (some (.int v), xh h1 P1 c1) ∧ stR t n h0 P c (pm_s0 y (16 * t + n)) v h1 P1 c1 := by
  have hK := ck_le (z := z) (w := 0) (t := t) n
  obtain ⟨n8, n9⟩ := NL_n (κ := 2 * ck z 0 t n) N (Or.inl ⟨by omega, by omega⟩)
  have l6 := rs.2.2.2.1
  have l5 := rs.2.2.1
  generalize eK : ck z 0 t n = K at n8 n9 hK l5
  obtain ⟨h1, P1, e1, w1, l8, l9, p8, f1, x1⟩ := x_clause (t := t) (κ := 2 * K) w n8 n9
  generalize ec1 : xs (xs c (9, t, 2 * K) F3) (8, t, 2 * K) (fun _ => 0) = c1 at e1 w1
  have hc1 : ∀ r', r' ≠ (8, t, 2 * K) → r' ≠ (9, t, 2 * K) → c1 r' = c r' := fun r' u1 u2 => by rw [← ec1, xs_n u1, xs_n u2]
  have h19 : c1 (9, t, 2 * K) = F3 := by rw [← ec1, xs_n (by rintro ⟨⟩), xs_r]
  have F1 : FR t h0 P c h1 P1 c1 2 5 := FR_cl hc1 f1 x1
  have g14 : P1.2.2.1 (14, 0, 0) = P.2.2.1 (14, 0, 0) := F1.2.2.1.1
  have g7 : P1.2.2.1 (7, t, 0) = P.2.2.1 (7, t, 0) := F1.2.2.1.2.1
  have l7' := F1.2.2.2.2.1 l7
  have l14' := F1.2.2.2.1 l14
  have l35 : lv P1 (3, 5, t) := w1.2.2.1 (7, t, 0) (3, 5, t) (show 7 ≠ 0 by decide) l7' (Or.inl rfl) (fun h => absurd h (show ¬ 7 = 3 by decide))
  have X1 : xst g P1 h1 := xst_f X x1
  have r1 : RD c1 y := RD_c r (hc1 _ (by rintro ⟨⟩) (by rintro ⟨⟩)) (hc1 _ (by rintro ⟨⟩) (by rintro ⟨⟩))
  have ok1 := w1.1
  have st0 : ez_ev g 20 [.ref (P.2.2.1 (14, 0, 0)), .ref (P.2.2.1 (7, t, 0))] (xh h0 P c) = ez_rn g 20 8 [some (.ref (P1.2.2.1 (14, 0, 0))), some (.ref (P1.2.2.1 (7, t, 0))), some (.ref (P1.2.2.1 (8, t, 2 * K)))] [] (xh h1 P1 c1) := by
    rw [e20, ← g14, ← g7]
    simp only [s20_0, s20_3, s20_4, s20_7, s20_9, s20_10, s20_13, s20_16, s20_17, s20_19, s20_22, s20_25, s20_26, s20_27, s20_28, s20_29, s20_32, s20_35, s20_35n, s20_36, s20_39, s20_40, s20_43, s20_44, s20_45, s20_48, s20_49, s20_52, s20_53, s20_55, s20_58, s20_61, s20_62, s20_65, s20_66, zl_n, zl_i, zl_r, zl_0, z10, z01, ez_bd_s, ez_bd_n, eq_self, true_or, or_true, if_true, if_false, zb_eq, zb_eq1, zb_em, zb_em2, ite_not, List.append_nil, List.cons_append, List.nil_append, reduceCtorEq, not_true_eq_false, not_false_eq_true, c_clInit, e1]
    rw [p8]
  rw [st0, s0_w]
  obtain ⟨c3, v3, q3, w3, f3, res⟩ := c_conds (g := g) (k := 16 * t + n) X1 w1 l14' l8 l9 r1 h19
  have ka : kf z (pm_tc y (16 * t + n)).1 (16 * t + n) := kf_t a kf_tc
  have k44 : (pm_tc y (16 * t + n)).1.2 44 (16 * t + n) = 0 := by rw [tc_44]; exact h44
  generalize pm_tc y (16 * t + n) = T at res ka k44
  obtain ⟨T, b⟩ := T
  dsimp only at res ka k44 ⊢
  have FB3 : FR t h0 P c h1 P1 c3 2 5 := FR_w (FR_t F1 (FR_c (fun r' hr => f3 r' (niT hr iT14) (niT hr iT9)))) (Nat.le_refl _) (Nat.le_refl _)
  rcases res with ⟨b1, hv, r3, n', hn', e46, rc⟩ | ⟨b0, hv, e38⟩ | ⟨b0, hv, r3, e38, ecv⟩
  · subst b1
    subst hv
    rw [if_neg (show ¬ (1 : Int32) = 0 by decide)]
    obtain ⟨c4, q4, r4, w4, f4⟩ := c_took X1 (show 4 < 11 by decide) (by decide) (show w_i = _ from cW4) w3 l14' r3
    have t01 := tk_01 (y := T) (w := w_i)
    have t38 := tk_38 (w := w_i) r3
    have t2 : (pm_tk T w_i).1.2 = T.2 := tk_2
    have kb : kf z (pm_tk T w_i).1 (16 * t + n) := kf_t ka kf_tk
    generalize pm_tk T w_i = U at *
    obtain ⟨U, b⟩ := U
    dsimp only at *
    have FB4 : FR t h0 P c h1 P1 c4 2 5 := FR_w (FR_t FB3 (FR_c (fun r' hr => f4 r' (niT hr iT14)))) (Nat.le_refl _) (Nat.le_refl _)
    rcases t01 with rfl | rfl
    · rw [if_pos rfl]
      refine ⟨0, h1, P1, c4, ?_, w4, FR_w FB4 (by decide) (by decide), Or.inl ⟨rfl, rfl, ?_⟩⟩
      · simp only [s20_0, s20_3, s20_4, s20_7, s20_8, s20_9, s20_10, s20_13, s20_16, s20_17, s20_19, s20_22, s20_25, s20_26, s20_27, s20_28, s20_29, s20_32, s20_35, s20_35n, s20_36, s20_39, s20_40, s20_43, s20_44, s20_45, s20_48, s20_49, s20_52, s20_53, s20_55, s20_58, s20_61, s20_62, s20_65, s20_66, zl_n, zl_i, zl_r, zl_0, z10, z01, ez_bd_s, ez_bd_n, eq_self, true_or, or_true, if_true, if_false, zb_eq, zb_eq1, zb_em, zb_em2, ite_not, List.append_nil, List.cons_append, List.nil_append, reduceCtorEq, not_true_eq_false, not_false_eq_true, xo1, xa1, xf1_0, xv1_0, xp1_0, xf1_1, xv1_1, xf1_2, xv1_2, xp1_2, xf1_3, xv1_3, xf1_4, xv1_4, xf1_5, xv1_5, xp1_5, xf1_6, xv1_6, xp1_6, xf1_7, xv1_7, xf1_8, xv1_8, xf1_9, xv1_9, xf1_10, xv1_10, xf1_11, xv1_11, xf1_12, xv1_12, xf1_13, xv1_13, xf1_14, xv1_14, xp1_14, xo3, xa3, xf3_0, xv3_0, xp3_0, xf3_1, xv3_1, xf3_2, xv3_2, xp3_2, xo5, xa5, xf5_0, xv5_0, xp5_0, xf5_1, xv5_1, xp5_1, xf5_2, xv5_2, xp5_2, xf5_3, xv5_3, xp5_3, xf5_4, xv5_4, xp5_4, xf5_5, xv5_5, xp5_5, xf5_6, xv5_6, xp5_6, xf5_7, xv5_7, xp5_7, xf5_8, xv5_8, xp5_8, xf5_9, xv5_9, xp5_9, xf5_10, xv5_10, xp5_10, xf5_11, xv5_11, xp5_11, xf5_12, xv5_12, xp5_12, xo6, xa6, xf6_0, xv6_0, xp6_0, xf6_1, xv6_1, xp6_1, xf6_2, xv6_2, xp6_2, xo7, xa7, xf7_0, xv7_0, xp7_0, xf7_1, xv7_1, xp7_1, xf7_2, xv7_2, xp7_2, xf7_3, xv7_3, xp7_3, xf7_4, xv7_4, xf7_5, xv7_5, xo8, xa8, xf8_0, xv8_0, xp8_0, xf8_1, xv8_1, xo10, xa10, xf10_0, xv10_0, xp10_0, xf10_1, xv10_1, xp10_1, xf10_2, xv10_2, xp10_2, xf10_3, xv10_3, xf10_4, xv10_4, xo12, xa12, xf12_0, xv12_0, xf12_1, xv12_1, xp12_1, xf12_2, xv12_2, xp12_2, xf12_3, xv12_3, xp12_3, xf12_4, xv12_4, xo13, xa13, xf13_0, xv13_0, xf13_1, xv13_1, xp13_1, xo14, xa14, xf14_0, xv14_0, xf14_1, xv14_1, xp14_1, xf14_2, xv14_2, xp14_2, xf14_3, xv14_3, xp14_3, ya2_1, yw2_1, yv2_1, yp2_1, yn2_1, yl2_1, ya2_3, yw2_3, yv2_3, yp2_3, yn2_3, yl2_3, ya2_10, yw2_10, yv2_10, yp2_10, yn2_10, yl2_10, ya2_11, yw2_11, yv2_11, yp2_11, yn2_11, yl2_11, ya9, yw9, yv9, yp9, yn9, yl9, ya11, yw11, yv11, yp11, yn11, yl11, ya15, yw15, yv15, yp15, yn15, yl15, ya16, yw16, yv16, yp16, yn16, yl16, ok10, ok11, ok1i, xu_s, xu_n, ne_eq, Prod.mk.injEq, Nat.reduceEqDiff, false_and, and_false, not_false_eq_true, l14', ok1, q3, q4]
      · rw [r4.2.2.1, t38 rfl]
    · rw [if_neg (show ¬ (1 : Int32) = 0 by decide)]
      unfold pm_s2
      obtain ⟨v5, c5, q5, r5, w5, f5, hv5⟩ := c_num1 (g := g) w4 l14' r4
      have n2 : (pm_tn U).1.2 = U.2 := tn_22
      have kc : kf z (pm_tn U).1 (16 * t + n) := kf_t kb kf_tn
      generalize pm_tn U = W at *
      obtain ⟨W, b⟩ := W
      dsimp only at *
      have hc5 : ∀ r', r' ≠ (14, 0, 0) → r' ≠ (8, t, 2 * K) → r' ≠ (9, t, 2 * K) → c5 r' = c r' := fun r' u0 u1 u2 => by rw [f5 r' u0, f4 r' u0, f3 r' u0 u2, hc1 r' u1 u2]
      have hc6 : ∀ r', r' ≠ (14, 0, 0) → r' ≠ (8, t, 2 * K) → r' ≠ (9, t, 2 * K) → xu c5 (8, t, 2 * K) 0 v5 r' = c r' := fun r' u0 u1 u2 => by rw [xu_n u1, hc5 r' u0 u1 u2]
      have w6 : xw h1 P1 (xu c5 (8, t, 2 * K) 0 v5) := xw_8 w5
      have s5 : lsz P1 (xu c5 (8, t, 2 * K) 0 v5) 5 t K := lsz_cg l5 (f1 _ (by rintro ⟨⟩) (by rintro ⟨⟩)).2.1 (by rw [hc6 _ (by rintro ⟨⟩) (by rintro ⟨⟩) (by rintro ⟨⟩)]) (hc6 _ (by rintro ⟨⟩) (by rintro ⟨⟩) (by rintro ⟨⟩))
      obtain ⟨h2, P2, e2, w2, x2, s2⟩ := q_add (g := g) (L := 5) (i := t) (n := K) (v := K) w6 (hg.trans x1.1.symm) l35 s5 (by omega) (by omega) l8
      have e2 : ez_ev g 155 [.ref (P1.2.2.1 (3, 5, t)), .ref (P1.2.2.1 (8, t, 2 * K))] (xh h1 P1 (xu c5 (8, t, 2 * K) 0 v5)) = some (some (.int 1), xh h2 P2 (xad (xu c5 (8, t, 2 * K) 0 v5) 5 t K K)) := e2
      have h24 : xad (xu c5 (8, t, 2 * K) 0 v5) 5 t K K (4, 5, t) = upd (xu c5 (8, t, 2 * K) 0 v5 (4, 5, t)) K (nI K) := xad_4
      have h80 : xad (xu c5 (8, t, 2 * K) 0 v5) 5 t K K (8, t, 2 * K) 0 = v5 := by rw [xad_n (by rintro ⟨⟩) (by rintro ⟨⟩), xu_s, if_pos rfl]
      have hc7' : ∀ r', r' ≠ (3, 5, t) → r' ≠ (4, 5, t) → xad (xu c5 (8, t, 2 * K) 0 v5) 5 t K K r' = xu c5 (8, t, 2 * K) 0 v5 r' := fun r' u1 u2 => xad_n u1 u2
      generalize xad (xu c5 (8, t, 2 * K) 0 v5) 5 t K K = c7 at e2 w2 s2 h24 h80 hc7'
      have l8' : lv P2 (8, t, 2 * K) := (x2.2.1 _ (show 8 ≠ 0 by decide) (by rintro ⟨⟩)).mpr l8
      have FB7 : FR t h0 P c h2 P2 c7 3 405 := FR_w (FR_t FB4 (FR_t (FR_c (c1 := xu c5 (8, t, 2 * K) 0 v5) (fun r' hr => by rw [xu_n (niT hr iT8), f5 r' (niT hr iT14)])) (FR_gr in35 hc7' x2))) (Nat.le_refl _) (Nat.le_refl _)
      have l14'' : lv P2 (14, 0, 0) := (x2.2.1 _ (show 14 ≠ 0 by decide) (by rintro ⟨⟩)).mpr l14'
      have X2 : xst g P2 h2 := xst_f X1 x2.2.2.2
      have ok2 := w2.1
      have st1 : ez_rn g 20 8 [some (.ref (P1.2.2.1 (14, 0, 0))), some (.ref (P1.2.2.1 (7, t, 0))), some (.ref (P1.2.2.1 (8, t, 2 * K)))] [] (xh h1 P1 c1) = ez_rn g 20 44 [some (.ref (P2.2.2.1 (14, 0, 0))), some (.ref (P1.2.2.1 (7, t, 0))), some (.ref (P2.2.2.1 (8, t, 2 * K)))] [] (xh h2 P2 c7) := by
        rw [x2.1 (14, 0, 0) (by rintro ⟨⟩), x2.1 (8, t, 2 * K) (by rintro ⟨⟩)]
        simp only [s20_0, s20_3, s20_4, s20_7, s20_8, s20_9, s20_10, s20_13, s20_16, s20_17, s20_19, s20_22, s20_25, s20_26, s20_27, s20_28, s20_29, s20_32, s20_35, s20_35n, s20_36, s20_39, s20_40, s20_43, s20_45, s20_48, s20_49, s20_52, s20_53, s20_55, s20_58, s20_61, s20_62, s20_65, s20_66, zl_n, zl_i, zl_r, zl_0, z10, z01, ez_bd_s, ez_bd_n, eq_self, true_or, or_true, if_true, if_false, zb_eq, zb_eq1, zb_em, zb_em2, ite_not, List.append_nil, List.cons_append, List.nil_append, reduceCtorEq, not_true_eq_false, not_false_eq_true, xo1, xa1, xf1_0, xv1_0, xp1_0, xf1_1, xv1_1, xf1_2, xv1_2, xp1_2, xf1_3, xv1_3, xf1_4, xv1_4, xf1_5, xv1_5, xp1_5, xf1_6, xv1_6, xp1_6, xf1_7, xv1_7, xf1_8, xv1_8, xf1_9, xv1_9, xf1_10, xv1_10, xf1_11, xv1_11, xf1_12, xv1_12, xf1_13, xv1_13, xf1_14, xv1_14, xp1_14, xo3, xa3, xf3_0, xv3_0, xp3_0, xf3_1, xv3_1, xf3_2, xv3_2, xp3_2, xo5, xa5, xf5_0, xv5_0, xp5_0, xf5_1, xv5_1, xp5_1, xf5_2, xv5_2, xp5_2, xf5_3, xv5_3, xp5_3, xf5_4, xv5_4, xp5_4, xf5_5, xv5_5, xp5_5, xf5_6, xv5_6, xp5_6, xf5_7, xv5_7, xp5_7, xf5_8, xv5_8, xp5_8, xf5_9, xv5_9, xp5_9, xf5_10, xv5_10, xp5_10, xf5_11, xv5_11, xp5_11, xf5_12, xv5_12, xp5_12, xo6, xa6, xf6_0, xv6_0, xp6_0, xf6_1, xv6_1, xp6_1, xf6_2, xv6_2, xp6_2, xo7, xa7, xf7_0, xv7_0, xp7_0, xf7_1, xv7_1, xp7_1, xf7_2, xv7_2, xp7_2, xf7_3, xv7_3, xp7_3, xf7_4, xv7_4, xf7_5, xv7_5, xo8, xa8, xf8_0, xv8_0, xp8_0, xf8_1, xv8_1, xo10, xa10, xf10_0, xv10_0, xp10_0, xf10_1, xv10_1, xp10_1, xf10_2, xv10_2, xp10_2, xf10_3, xv10_3, xf10_4, xv10_4, xo12, xa12, xf12_0, xv12_0, xf12_1, xv12_1, xp12_1, xf12_2, xv12_2, xp12_2, xf12_3, xv12_3, xp12_3, xf12_4, xv12_4, xo13, xa13, xf13_0, xv13_0, xf13_1, xv13_1, xp13_1, xo14, xa14, xf14_0, xv14_0, xf14_1, xv14_1, xp14_1, xf14_2, xv14_2, xp14_2, xf14_3, xv14_3, xp14_3, ya2_1, yw2_1, yv2_1, yp2_1, yn2_1, yl2_1, ya2_3, yw2_3, yv2_3, yp2_3, yn2_3, yl2_3, ya2_10, yw2_10, yv2_10, yp2_10, yn2_10, yl2_10, ya2_11, yw2_11, yv2_11, yp2_11, yn2_11, yl2_11, ya9, yw9, yv9, yp9, yn9, yl9, ya11, yw11, yv11, yp11, yn11, yl11, ya15, yw15, yv15, yp15, yn15, yl15, ya16, yw16, yv16, yp16, yn16, yl16, ok10, ok11, ok1i, xu_s, xu_n, ne_eq, Prod.mk.injEq, Nat.reduceEqDiff, false_and, and_false, not_false_eq_true, l14', l7', l8, l35, ok1, q3, q4, q5, e2]
      have r7 : RD c7 W := RD_c r5 (by rw [hc7' _ (by rintro ⟨⟩) (by rintro ⟨⟩), xu_n (by rintro ⟨⟩)]) (by rw [hc7' _ (by rintro ⟨⟩) (by rintro ⟨⟩), xu_n (by rintro ⟨⟩)])
      rw [st1]
      rcases hv5 with ⟨rfl, hv5, e38⟩ | ⟨rfl, hv5, b5⟩
      · rw [if_pos rfl]
        subst hv5
        refine ⟨0, h2, P2, c7, ?_, w2, FB7, Or.inl ⟨rfl, rfl, ?_⟩⟩
        · rw [s20_44]
          simp only [s20_0, s20_3, s20_4, s20_7, s20_8, s20_9, s20_10, s20_13, s20_16, s20_17, s20_19, s20_22, s20_25, s20_26, s20_27, s20_28, s20_29, s20_32, s20_35, s20_35n, s20_36, s20_39, s20_40, s20_43, s20_44, s20_45, s20_48, s20_49, s20_52, s20_53, s20_55, s20_58, s20_61, s20_62, s20_65, s20_66, zl_n, zl_i, zl_r, zl_0, z10, z01, ez_bd_s, ez_bd_n, eq_self, true_or, or_true, if_true, if_false, zb_eq, zb_eq1, zb_em, zb_em2, ite_not, List.append_nil, List.cons_append, List.nil_append, reduceCtorEq, not_true_eq_false, not_false_eq_true, xo1, xa1, xf1_0, xv1_0, xp1_0, xf1_1, xv1_1, xf1_2, xv1_2, xp1_2, xf1_3, xv1_3, xf1_4, xv1_4, xf1_5, xv1_5, xp1_5, xf1_6, xv1_6, xp1_6, xf1_7, xv1_7, xf1_8, xv1_8, xf1_9, xv1_9, xf1_10, xv1_10, xf1_11, xv1_11, xf1_12, xv1_12, xf1_13, xv1_13, xf1_14, xv1_14, xp1_14, xo3, xa3, xf3_0, xv3_0, xp3_0, xf3_1, xv3_1, xf3_2, xv3_2, xp3_2, xo5, xa5, xf5_0, xv5_0, xp5_0, xf5_1, xv5_1, xp5_1, xf5_2, xv5_2, xp5_2, xf5_3, xv5_3, xp5_3, xf5_4, xv5_4, xp5_4, xf5_5, xv5_5, xp5_5, xf5_6, xv5_6, xp5_6, xf5_7, xv5_7, xp5_7, xf5_8, xv5_8, xp5_8, xf5_9, xv5_9, xp5_9, xf5_10, xv5_10, xp5_10, xf5_11, xv5_11, xp5_11, xf5_12, xv5_12, xp5_12, xo6, xa6, xf6_0, xv6_0, xp6_0, xf6_1, xv6_1, xp6_1, xf6_2, xv6_2, xp6_2, xo7, xa7, xf7_0, xv7_0, xp7_0, xf7_1, xv7_1, xp7_1, xf7_2, xv7_2, xp7_2, xf7_3, xv7_3, xp7_3, xf7_4, xv7_4, xf7_5, xv7_5, xo8, xa8, xf8_0, xv8_0, xp8_0, xf8_1, xv8_1, xo10, xa10, xf10_0, xv10_0, xp10_0, xf10_1, xv10_1, xp10_1, xf10_2, xv10_2, xp10_2, xf10_3, xv10_3, xf10_4, xv10_4, xo12, xa12, xf12_0, xv12_0, xf12_1, xv12_1, xp12_1, xf12_2, xv12_2, xp12_2, xf12_3, xv12_3, xp12_3, xf12_4, xv12_4, xo13, xa13, xf13_0, xv13_0, xf13_1, xv13_1, xp13_1, xo14, xa14, xf14_0, xv14_0, xf14_1, xv14_1, xp14_1, xf14_2, xv14_2, xp14_2, xf14_3, xv14_3, xp14_3, ya2_1, yw2_1, yv2_1, yp2_1, yn2_1, yl2_1, ya2_3, yw2_3, yv2_3, yp2_3, yn2_3, yl2_3, ya2_10, yw2_10, yv2_10, yp2_10, yn2_10, yl2_10, ya2_11, yw2_11, yv2_11, yp2_11, yn2_11, yl2_11, ya9, yw9, yv9, yp9, yn9, yl9, ya11, yw11, yv11, yp11, yn11, yl11, ya15, yw15, yv15, yp15, yn15, yl15, ya16, yw16, yv16, yp16, yn16, yl16, ok10, ok11, ok1i, xu_s, xu_n, ne_eq, Prod.mk.injEq, Nat.reduceEqDiff, false_and, and_false, not_false_eq_true, l14'', l8', ok2, h80]
        · rw [r7.2.2.1, e38]
      · rw [if_neg (show ¬ (1 : Int32) = 0 by decide)]
        have nm : ¬ v5 = -1 := by rw [hv5]; exact md_inm1 b5 (by decide)
        rw [← hv5]
        have r8 : RD c7 (md_sA W 45 (16 * t + n) v5) := RD_cg r7 rfl rfl (md_A2n (by decide))
        have kd : kf z (md_sA W 45 (16 * t + n) v5) (16 * t + n) := kf_t kc (kf_A (by omega))
        have u44 : (md_sA W 45 (16 * t + n) v5).2 44 (16 * t + n) = 0 := by rw [md_A2n (by decide), n2, t2]; exact k44
        have u45 : (md_sA W 45 (16 * t + n) v5).2 45 (16 * t + n) = v5 := by rw [md_A2, if_pos rfl, pk_us]
        have u46 : (md_sA W 45 (16 * t + n) v5).2 46 (16 * t + n) = nI n' := by rw [md_A2n (by decide), n2, t2]; exact e46
        have urc : RC (c3 (9, t, 2 * K)) (md_sA W 45 (16 * t + n) v5) (16 * t + n) n' := RC_cg rc (by rw [md_A2n (by decide), n2, t2]) (by rw [md_A2n (by decide), n2, t2])
        generalize md_sA W 45 (16 * t + n) v5 = Z at *
        obtain ⟨c8, q8, r9, w9, f8⟩ := c_semi X2 w2 l14'' r8
        have f01 := fin_01 (y := Z)
        have f38 := fin_38 r8
        have ff2 : (pm_fin Z).1.2 = Z.2 := fin_2
        have ke : kf z (pm_fin Z).1 (16 * t + n) := kf_t kd kf_fin
        generalize pm_fin Z = V at *
        obtain ⟨V, b⟩ := V
        dsimp only at *
        refine ⟨b, h2, P2, c8, ?_, w9, FR_w (FR_t FB7 (FR_c (fun r' hr => f8 r' (niT hr iT14)))) (Nat.le_refl _) (Nat.le_refl _), ?_⟩
        · rw [s20_44]
          rcases f01 with rfl | rfl <;> simp only [s20_0, s20_3, s20_4, s20_7, s20_8, s20_9, s20_10, s20_13, s20_16, s20_17, s20_19, s20_22, s20_25, s20_26, s20_27, s20_28, s20_29, s20_32, s20_35, s20_35n, s20_36, s20_39, s20_40, s20_43, s20_44, s20_45, s20_48, s20_49, s20_52, s20_53, s20_55, s20_58, s20_61, s20_62, s20_65, s20_66, zl_n, zl_i, zl_r, zl_0, z10, z01, ez_bd_s, ez_bd_n, eq_self, true_or, or_true, if_true, if_false, zb_eq, zb_eq1, zb_em, zb_em2, ite_not, List.append_nil, List.cons_append, List.nil_append, reduceCtorEq, not_true_eq_false, not_false_eq_true, xo1, xa1, xf1_0, xv1_0, xp1_0, xf1_1, xv1_1, xf1_2, xv1_2, xp1_2, xf1_3, xv1_3, xf1_4, xv1_4, xf1_5, xv1_5, xp1_5, xf1_6, xv1_6, xp1_6, xf1_7, xv1_7, xf1_8, xv1_8, xf1_9, xv1_9, xf1_10, xv1_10, xf1_11, xv1_11, xf1_12, xv1_12, xf1_13, xv1_13, xf1_14, xv1_14, xp1_14, xo3, xa3, xf3_0, xv3_0, xp3_0, xf3_1, xv3_1, xf3_2, xv3_2, xp3_2, xo5, xa5, xf5_0, xv5_0, xp5_0, xf5_1, xv5_1, xp5_1, xf5_2, xv5_2, xp5_2, xf5_3, xv5_3, xp5_3, xf5_4, xv5_4, xp5_4, xf5_5, xv5_5, xp5_5, xf5_6, xv5_6, xp5_6, xf5_7, xv5_7, xp5_7, xf5_8, xv5_8, xp5_8, xf5_9, xv5_9, xp5_9, xf5_10, xv5_10, xp5_10, xf5_11, xv5_11, xp5_11, xf5_12, xv5_12, xp5_12, xo6, xa6, xf6_0, xv6_0, xp6_0, xf6_1, xv6_1, xp6_1, xf6_2, xv6_2, xp6_2, xo7, xa7, xf7_0, xv7_0, xp7_0, xf7_1, xv7_1, xp7_1, xf7_2, xv7_2, xp7_2, xf7_3, xv7_3, xp7_3, xf7_4, xv7_4, xf7_5, xv7_5, xo8, xa8, xf8_0, xv8_0, xp8_0, xf8_1, xv8_1, xo10, xa10, xf10_0, xv10_0, xp10_0, xf10_1, xv10_1, xp10_1, xf10_2, xv10_2, xp10_2, xf10_3, xv10_3, xf10_4, xv10_4, xo12, xa12, xf12_0, xv12_0, xf12_1, xv12_1, xp12_1, xf12_2, xv12_2, xp12_2, xf12_3, xv12_3, xp12_3, xf12_4, xv12_4, xo13, xa13, xf13_0, xv13_0, xf13_1, xv13_1, xp13_1, xo14, xa14, xf14_0, xv14_0, xf14_1, xv14_1, xp14_1, xf14_2, xv14_2, xp14_2, xf14_3, xv14_3, xp14_3, ya2_1, yw2_1, yv2_1, yp2_1, yn2_1, yl2_1, ya2_3, yw2_3, yv2_3, yp2_3, yn2_3, yl2_3, ya2_10, yw2_10, yv2_10, yp2_10, yn2_10, yl2_10, ya2_11, yw2_11, yv2_11, yp2_11, yn2_11, yl2_11, ya9, yw9, yv9, yp9, yn9, yl9, ya11, yw11, yv11, yp11, yn11, yl11, ya15, yw15, yv15, yp15, yn15, yl15, ya16, yw16, yv16, yp16, yn16, yl16, ok10, ok11, ok1i, xu_s, xu_n, ne_eq, Prod.mk.injEq, Nat.reduceEqDiff, false_and, and_false, not_false_eq_true, l14'', l8', ok2, h80, nm, q8]
        rcases f01 with rfl | rfl
        · exact Or.inl ⟨rfl, rfl, by rw [r9.2.2.1, (f38 rfl).1]⟩
        · have hc8 : ∀ r', r' ≠ (14, 0, 0) → r' ≠ (8, t, 2 * K) → r' ≠ (9, t, 2 * K) → r' ≠ (3, 5, t) → r' ≠ (4, 5, t) → c8 r' = c r' := fun r' u0 u1 u2 u3 u4 => by rw [f8 r' u0, hc7' r' u3 u4, hc6 r' u0 u1 u2]
          have h89 : c8 (9, t, 2 * K) = c3 (9, t, 2 * K) := by rw [f8 _ (by rintro ⟨⟩), hc7' _ (by rintro ⟨⟩) (by rintro ⟨⟩), xu_n (by rintro ⟨⟩), f5 _ (by rintro ⟨⟩), f4 _ (by rintro ⟨⟩)]
          have v44 : V.2 44 (16 * t + n) = 0 := by rw [ff2]; exact u44
          have v45 : V.2 45 (16 * t + n) = v5 := by rw [ff2]; exact u45
          have v46 : V.2 46 (16 * t + n) = nI n' := by rw [ff2]; exact u46
          have k0 : ck V 0 t (n + 1) = K + 1 := by rw [ck, if_pos v44, ck_k ke n (Nat.le_refl _), eK]
          have k1 : ck V 1 t (n + 1) = ck z 1 t n := by rw [ck, if_neg (by rw [v44]; decide), ck_k ke n (Nat.le_refl _)]
          refine Or.inr ⟨rfl, rfl, r9, RS_ext ke rs ?_ ?_ ?_ ?_ ?_ ?_ ?_ ?_ ?_ ?_ ?_, ?_⟩
          · rw [pv, if_neg (by rw [v44]; decide), pv_k ke n (Nat.le_refl _), hc8 _ (by rintro ⟨⟩) (by rintro ⟨⟩) (by rintro ⟨⟩) (by rintro ⟨⟩) (by rintro ⟨⟩)]
            exact rs.1
          · rw [pv, if_neg (by rw [v44]; decide), pv_k ke n (Nat.le_refl _), hc8 _ (by rintro ⟨⟩) (by rintro ⟨⟩) (by rintro ⟨⟩) (by rintro ⟨⟩) (by rintro ⟨⟩)]
            exact rs.2.1
          · rw [k0]
            exact lsz_cg s2 rfl (by rw [f8 _ (by rintro ⟨⟩)]) (by rw [f8 _ (by rintro ⟨⟩)])
          · rw [k1]
            exact lsz_cg l6 ((x2.2.2.1 _ (by rintro ⟨⟩)).trans (f1 _ (by rintro ⟨⟩) (by rintro ⟨⟩)).2.1) (by rw [hc8 _ (by rintro ⟨⟩) (by rintro ⟨⟩) (by rintro ⟨⟩) (by rintro ⟨⟩) (by rintro ⟨⟩)]) (hc8 _ (by rintro ⟨⟩) (by rintro ⟨⟩) (by rintro ⟨⟩) (by rintro ⟨⟩) (by rintro ⟨⟩))
          · intro q hq
            rw [f8 _ (by rintro ⟨⟩), h24, hc6 _ (by rintro ⟨⟩) (by rintro ⟨⟩) (by rintro ⟨⟩)]
            unfold upd
            rw [if_neg (by omega)]
          · intro q _
            rw [hc8 _ (by rintro ⟨⟩) (by rintro ⟨⟩) (by rintro ⟨⟩) (by rintro ⟨⟩) (by rintro ⟨⟩)]
          · intro j hj
            exact ⟨hc8 _ (by rintro ⟨⟩) (by rintro ⟨⟩; omega) (by rintro ⟨⟩) (by rintro ⟨⟩) (by rintro ⟨⟩), hc8 _ (by rintro ⟨⟩) (by rintro ⟨⟩) (by rintro ⟨⟩; omega) (by rintro ⟨⟩) (by rintro ⟨⟩)⟩
          · rw [v46]
            exact md_inN (by omega) (by decide)
          · intro h
            exact absurd (v44.symm.trans h) (by decide)
          · intro _
            rw [v46, v45, nI_clamp (by omega), eK, h89, f8 _ (by rintro ⟨⟩), f8 _ (by rintro ⟨⟩), h24, h80]
            refine ⟨pk_us, rfl, by rw [hv5]; exact b5, RC_cg urc ?_ ?_⟩
            · rw [ff2]
            · rw [ff2]
          · intro h
            exact absurd (v44.symm.trans h) (by decide)
          · intro κ hκ
            rw [k0, k1]
            by_cases eκ : κ = 2 * K
            · exact Or.inl ⟨by omega, by omega⟩
            · have n1 : ((8, t, κ) : xR) ≠ (8, t, 2 * K) := by rintro ⟨⟩; exact eκ rfl
              have n2 : ((9, t, κ) : xR) ≠ (9, t, 2 * K) := by rintro ⟨⟩; exact eκ rfl
              have := N κ (hκ.imp (fun h => ((f1 _ n1 (by rintro ⟨⟩)).2.2 (show 8 ≠ 0 by decide)).mp ((x2.2.1 _ (show 8 ≠ 0 by decide) (by rintro ⟨⟩)).mp h)) (fun h => ((f1 _ (by rintro ⟨⟩) n2).2.2 (show 9 ≠ 0 by decide)).mp ((x2.2.1 _ (show 9 ≠ 0 by decide) (by rintro ⟨⟩)).mp h)))
              omega
  · subst b0
    subst hv
    rw [if_pos rfl]
    refine ⟨0, h1, P1, c3, ?_, w3, FR_w FB3 (by decide) (by decide), Or.inl ⟨rfl, rfl, e38⟩⟩
    simp only [s20_0, s20_3, s20_4, s20_7, s20_8, s20_9, s20_10, s20_13, s20_16, s20_17, s20_19, s20_22, s20_25, s20_26, s20_27, s20_28, s20_29, s20_32, s20_35, s20_35n, s20_36, s20_39, s20_40, s20_43, s20_44, s20_45, s20_48, s20_49, s20_52, s20_53, s20_55, s20_58, s20_61, s20_62, s20_65, s20_66, zl_n, zl_i, zl_r, zl_0, z10, z01, ez_bd_s, ez_bd_n, eq_self, true_or, or_true, if_true, if_false, zb_eq, zb_eq1, zb_em, zb_em2, ite_not, List.append_nil, List.cons_append, List.nil_append, reduceCtorEq, not_true_eq_false, not_false_eq_true, xo1, xa1, xf1_0, xv1_0, xp1_0, xf1_1, xv1_1, xf1_2, xv1_2, xp1_2, xf1_3, xv1_3, xf1_4, xv1_4, xf1_5, xv1_5, xp1_5, xf1_6, xv1_6, xp1_6, xf1_7, xv1_7, xf1_8, xv1_8, xf1_9, xv1_9, xf1_10, xv1_10, xf1_11, xv1_11, xf1_12, xv1_12, xf1_13, xv1_13, xf1_14, xv1_14, xp1_14, xo3, xa3, xf3_0, xv3_0, xp3_0, xf3_1, xv3_1, xf3_2, xv3_2, xp3_2, xo5, xa5, xf5_0, xv5_0, xp5_0, xf5_1, xv5_1, xp5_1, xf5_2, xv5_2, xp5_2, xf5_3, xv5_3, xp5_3, xf5_4, xv5_4, xp5_4, xf5_5, xv5_5, xp5_5, xf5_6, xv5_6, xp5_6, xf5_7, xv5_7, xp5_7, xf5_8, xv5_8, xp5_8, xf5_9, xv5_9, xp5_9, xf5_10, xv5_10, xp5_10, xf5_11, xv5_11, xp5_11, xf5_12, xv5_12, xp5_12, xo6, xa6, xf6_0, xv6_0, xp6_0, xf6_1, xv6_1, xp6_1, xf6_2, xv6_2, xp6_2, xo7, xa7, xf7_0, xv7_0, xp7_0, xf7_1, xv7_1, xp7_1, xf7_2, xv7_2, xp7_2, xf7_3, xv7_3, xp7_3, xf7_4, xv7_4, xf7_5, xv7_5, xo8, xa8, xf8_0, xv8_0, xp8_0, xf8_1, xv8_1, xo10, xa10, xf10_0, xv10_0, xp10_0, xf10_1, xv10_1, xp10_1, xf10_2, xv10_2, xp10_2, xf10_3, xv10_3, xf10_4, xv10_4, xo12, xa12, xf12_0, xv12_0, xf12_1, xv12_1, xp12_1, xf12_2, xv12_2, xp12_2, xf12_3, xv12_3, xp12_3, xf12_4, xv12_4, xo13, xa13, xf13_0, xv13_0, xf13_1, xv13_1, xp13_1, xo14, xa14, xf14_0, xv14_0, xf14_1, xv14_1, xp14_1, xf14_2, xv14_2, xp14_2, xf14_3, xv14_3, xp14_3, ya2_1, yw2_1, yv2_1, yp2_1, yn2_1, yl2_1, ya2_3, yw2_3, yv2_3, yp2_3, yn2_3, yl2_3, ya2_10, yw2_10, yv2_10, yp2_10, yn2_10, yl2_10, ya2_11, yw2_11, yv2_11, yp2_11, yn2_11, yl2_11, ya9, yw9, yv9, yp9, yn9, yl9, ya11, yw11, yv11, yp11, yn11, yl11, ya15, yw15, yv15, yp15, yn15, yl15, ya16, yw16, yv16, yp16, yn16, yl16, ok10, ok11, ok1i, xu_s, xu_n, ne_eq, Prod.mk.injEq, Nat.reduceEqDiff, false_and, and_false, not_false_eq_true, l14', ok1, q3]
  · subst b0
    subst hv
    rw [if_pos rfl]
    obtain ⟨c4, q4, r4, w4, f4⟩ := c_took X1 (show 4 < 11 by decide) (by decide) (show w_i = _ from cW4) w3 l14' r3
    have f0 : (pm_tk T w_i).2 = 0 := cv_is ecv
    have t38 := tk_38 (w := w_i) r3 f0
    have tz : zs (pm_tk T w_i).1 = zs T := by
      have : (pm_tk T w_i).1 = pm_wd T := by
        unfold pm_tk at f0 ⊢
        split at f0
        · exact absurd (show (1 : Int32) = 0 from f0) (by decide)
        · next h => rw [if_neg h]
      rw [this, wd_zs r3]
    rw [f0] at q4
    refine ⟨0, h1, P1, c4, ?_, w4, FR_w (FR_t FB3 (FR_c (fun r' hr => f4 r' (niT hr iT14)))) (by decide) (by decide), Or.inl ⟨rfl, rfl, ?_⟩⟩
    · simp only [s20_0, s20_3, s20_4, s20_7, s20_8, s20_9, s20_10, s20_13, s20_16, s20_17, s20_19, s20_22, s20_25, s20_26, s20_27, s20_28, s20_29, s20_32, s20_35, s20_35n, s20_36, s20_39, s20_40, s20_43, s20_44, s20_45, s20_48, s20_49, s20_52, s20_53, s20_55, s20_58, s20_61, s20_62, s20_65, s20_66, zl_n, zl_i, zl_r, zl_0, z10, z01, ez_bd_s, ez_bd_n, eq_self, true_or, or_true, if_true, if_false, zb_eq, zb_eq1, zb_em, zb_em2, ite_not, List.append_nil, List.cons_append, List.nil_append, reduceCtorEq, not_true_eq_false, not_false_eq_true, xo1, xa1, xf1_0, xv1_0, xp1_0, xf1_1, xv1_1, xf1_2, xv1_2, xp1_2, xf1_3, xv1_3, xf1_4, xv1_4, xf1_5, xv1_5, xp1_5, xf1_6, xv1_6, xp1_6, xf1_7, xv1_7, xf1_8, xv1_8, xf1_9, xv1_9, xf1_10, xv1_10, xf1_11, xv1_11, xf1_12, xv1_12, xf1_13, xv1_13, xf1_14, xv1_14, xp1_14, xo3, xa3, xf3_0, xv3_0, xp3_0, xf3_1, xv3_1, xf3_2, xv3_2, xp3_2, xo5, xa5, xf5_0, xv5_0, xp5_0, xf5_1, xv5_1, xp5_1, xf5_2, xv5_2, xp5_2, xf5_3, xv5_3, xp5_3, xf5_4, xv5_4, xp5_4, xf5_5, xv5_5, xp5_5, xf5_6, xv5_6, xp5_6, xf5_7, xv5_7, xp5_7, xf5_8, xv5_8, xp5_8, xf5_9, xv5_9, xp5_9, xf5_10, xv5_10, xp5_10, xf5_11, xv5_11, xp5_11, xf5_12, xv5_12, xp5_12, xo6, xa6, xf6_0, xv6_0, xp6_0, xf6_1, xv6_1, xp6_1, xf6_2, xv6_2, xp6_2, xo7, xa7, xf7_0, xv7_0, xp7_0, xf7_1, xv7_1, xp7_1, xf7_2, xv7_2, xp7_2, xf7_3, xv7_3, xp7_3, xf7_4, xv7_4, xf7_5, xv7_5, xo8, xa8, xf8_0, xv8_0, xp8_0, xf8_1, xv8_1, xo10, xa10, xf10_0, xv10_0, xp10_0, xf10_1, xv10_1, xp10_1, xf10_2, xv10_2, xp10_2, xf10_3, xv10_3, xf10_4, xv10_4, xo12, xa12, xf12_0, xv12_0, xf12_1, xv12_1, xp12_1, xf12_2, xv12_2, xp12_2, xf12_3, xv12_3, xp12_3, xf12_4, xv12_4, xo13, xa13, xf13_0, xv13_0, xf13_1, xv13_1, xp13_1, xo14, xa14, xf14_0, xv14_0, xf14_1, xv14_1, xp14_1, xf14_2, xv14_2, xp14_2, xf14_3, xv14_3, xp14_3, ya2_1, yw2_1, yv2_1, yp2_1, yn2_1, yl2_1, ya2_3, yw2_3, yv2_3, yp2_3, yn2_3, yl2_3, ya2_10, yw2_10, yv2_10, yp2_10, yn2_10, yl2_10, ya2_11, yw2_11, yv2_11, yp2_11, yn2_11, yl2_11, ya9, yw9, yv9, yp9, yn9, yl9, ya11, yw11, yv11, yp11, yn11, yl11, ya15, yw15, yv15, yp15, yn15, yl15, ya16, yw16, yv16, yp16, yn16, yl16, ok10, ok11, ok1i, xu_s, xu_n, ne_eq, Prod.mk.injEq, Nat.reduceEqDiff, false_and, and_false, not_false_eq_true, l14', ok1, q3, q4]
    · rw [r4.2.2.1, tz, e38]
end DT
