section ST
variable {g : ez_G} {h h0 h1 h2 : ez_H} {P P1 : xP} {c c1 c2 cc : xR → Nat → Int32} {z z' y Y : md_S} {t n κ k L : Nat} {v : Int32} {R : md_S × Int32}
theorem kf_s2 : kf z (pm_s2 z k).1 k := by
  unfold pm_s2
  split
  · exact kf_tn
  · exact kf_t kf_tn (kf_t (kf_A (by omega)) kf_fin)
theorem kf_s1 : kf z (pm_s1 z k).1 k := by
  unfold pm_s1
  split
  · exact kf_tc
  · exact kf_t kf_tc kf_fin
def w_d : Int64 := 1685419129
def w_f : Int64 := 112628846455140
def w_t : Int64 := 1952805485
def w_l : Int64 := 1819243380
theorem s3_w : pm_s3 y k = if (pm_tk y w_l).2 = 0 then ((pm_tk y w_l).1, 0) else if (pm_tk (pm_tk y w_l).1 w_e).2 = 0 then (if (pm_tk (md_sA (pm_tk (pm_tk y w_l).1 w_e).1 45 k 0) w_s).2 = 0 then ((pm_tk (md_sA (pm_tk (pm_tk y w_l).1 w_e).1 45 k 0) w_s).1, 0) else pm_fin (pm_tk (md_sA (pm_tk (pm_tk y w_l).1 w_e).1 45 k 0) w_s).1) else pm_fin (md_sA (pm_tk (pm_tk y w_l).1 w_e).1 45 k 1) := rfl
theorem st_w : pm_st z k = if (pm_tk (md_sA z 46 k 0) w_d).2 = 0 then (if (pm_tk (pm_tk (md_sA z 46 k 0) w_d).1 w_f).2 = 0 then (if (pm_tk (pm_tk (pm_tk (md_sA z 46 k 0) w_d).1 w_f).1 w_t).2 = 0 then pm_s3 (md_sA (pm_tk (pm_tk (pm_tk (md_sA z 46 k 0) w_d).1 w_f).1 w_t).1 44 k 3) k else pm_s2 (md_sA (pm_tk (pm_tk (pm_tk (md_sA z 46 k 0) w_d).1 w_f).1 w_t).1 44 k 2) k) else pm_s1 (md_sA (pm_tk (pm_tk (md_sA z 46 k 0) w_d).1 w_f).1 44 k 1) k) else pm_s0 (md_sA (pm_tk (md_sA z 46 k 0) w_d).1 44 k 0) k := rfl
theorem kf_s0 : kf z (pm_s0 z k).1 k := by
  rw [s0_w]
  have a1 : kf z (pm_tc z k).1 k := kf_tc
  generalize pm_tc z k = T at *
  have a2 : kf z (pm_tk T.1 w_i).1 k := kf_t a1 kf_tk
  generalize pm_tk T.1 w_i = U at *
  have a3 : kf z (pm_s2 U.1 k).1 k := kf_t a2 kf_s2
  generalize pm_s2 U.1 k = V at *
  split
  · exact a1
  · split
    · exact a2
    · exact a3
theorem kf_s3 : kf z (pm_s3 z k).1 k := by
  rw [s3_w]
  have a1 : kf z (pm_tk z w_l).1 k := kf_tk
  generalize pm_tk z w_l = T at *
  have a2 : kf z (pm_tk T.1 w_e).1 k := kf_t a1 kf_tk
  generalize pm_tk T.1 w_e = U at *
  have a3 : kf z (md_sA U.1 45 k 0) k := kf_t a2 (kf_A (by omega))
  have a4 : kf z (pm_fin (md_sA U.1 45 k 1)).1 k := kf_t a2 (kf_t (kf_A (by omega)) kf_fin)
  generalize md_sA U.1 45 k 0 = V at *
  have a5 : kf z (pm_tk V w_s).1 k := kf_t a3 kf_tk
  generalize pm_tk V w_s = W at *
  have a6 : kf z (pm_fin W.1).1 k := kf_t a5 kf_fin
  generalize pm_fin (md_sA U.1 45 k 1) = Q at *
  generalize pm_fin W.1 = Q' at *
  split
  · exact a1
  · split
    · split
      · exact a5
      · exact a6
    · exact a4
theorem kf_st : kf z (pm_st z k).1 k := by
  rw [st_w]
  have a1 : kf z (pm_tk (md_sA z 46 k 0) w_d).1 k := kf_t (kf_A (by omega)) kf_tk
  have a2 : kf z (pm_tk (pm_tk (md_sA z 46 k 0) w_d).1 w_f).1 k := kf_t a1 kf_tk
  have a3 : kf z (pm_tk (pm_tk (pm_tk (md_sA z 46 k 0) w_d).1 w_f).1 w_t).1 k := kf_t a2 kf_tk
  split
  · split
    · split
      · exact kf_t a3 (kf_t (kf_A (by omega)) kf_s3)
      · exact kf_t a3 (kf_t (kf_A (by omega)) kf_s2)
    · exact kf_t a2 (kf_t (kf_A (by omega)) kf_s1)
  · exact kf_t a1 (kf_t (kf_A (by omega)) kf_s0)
theorem RS_14 (f : ∀ r', r' ≠ (14, 0, 0) → c1 r' = c r') (rs : RS P c z t n) : RS P c1 z t n := RS_k kf_r rs (fun _ _ => rfl) (fun L _ => ⟨by rw [f _ (by rintro ⟨⟩)], f _ (by rintro ⟨⟩)⟩) ⟨by rw [f _ (by rintro ⟨⟩)], by rw [f _ (by rintro ⟨⟩)]⟩ (fun j _ => ⟨f _ (by rintro ⟨⟩), f _ (by rintro ⟨⟩)⟩)
theorem stR_c (f : ∀ r', r' ≠ (14, 0, 0) → c1 r' = c r') (s : stR t n h0 P c1 R v h1 P1 c2) : stR t n h0 P c R v h1 P1 c2 := ⟨s.1, FR_w (FR_t (FR_c (fun r' hr => f r' (niT hr iT14))) s.2.1) (by decide) (by decide), s.2.2⟩
theorem stR_v (s : stR t n h0 P c1 R v h1 P1 c2) : v = 0 ∨ v = 1 := by
  rcases s.2.2 with ⟨-, e, -⟩ | ⟨-, e, -⟩
  · exact Or.inl e
  · exact Or.inr e
/-- a word is tried -/
theorem c_try {j : Nat} {W : Int64} (X : xst g P h0) (hj : j < 11) (h5 : j ≠ 5) (hW : W = lN (wN (wb j) (wl j))) (w : xw h0 P c) (l14 : lv P (14, 0, 0)) (r : RD c y) (a : kf z y (16 * t + n)) (rs : RS P c z t n) (h46 : y.2 46 (16 * t + n) = 0) : ∃ T b c1, pm_tk y W = (T, b) ∧ (b = 0 ∨ b = 1) ∧ ez_ev g 25 [.ref (P.2.2.1 (14, 0, 0)), .ref (g.2.1 j)] (xh h0 P c) = some (some (.int b), xh h0 P c1) ∧ RD c1 T ∧ xw h0 P c1 ∧ (∀ r', r' ≠ (14, 0, 0) → c1 r' = c r') ∧ kf z T (16 * t + n) ∧ RS P c1 z t n ∧ T.2 46 (16 * t + n) = 0 ∧ (b = 0 → T.1 38 = nI (zs T)) := by
  obtain ⟨c1, q1, r1, w1, f1⟩ := c_took X hj h5 hW w l14 r
  have t01 := tk_01 (y := y) (w := W)
  have t38 := tk_38 (w := W) r
  have t2 : (pm_tk y W).1.2 = y.2 := tk_2
  have kb : kf z (pm_tk y W).1 (16 * t + n) := kf_t a kf_tk
  generalize pm_tk y W = T at *
  obtain ⟨T, b⟩ := T
  exact ⟨T, b, c1, rfl, t01, q1, r1, w1, f1, kb, RS_14 f1 rs, by rw [show T.2 = y.2 from t2]; exact h46, t38⟩
theorem mk_44 {b : Int32} (r : RD c y) (a : kf z y (16 * t + n)) (h46 : y.2 46 (16 * t + n) = 0) : RD c (md_sA y 44 (16 * t + n) b) ∧ kf z (md_sA y 44 (16 * t + n) b) (16 * t + n) ∧ (md_sA y 44 (16 * t + n) b).2 44 (16 * t + n) = b ∧ (md_sA y 44 (16 * t + n) b).2 46 (16 * t + n) = 0 := ⟨RD_cg r rfl rfl (md_A2n (by decide)), kf_t a (kf_A (by omega)), by rw [md_A2, if_pos rfl, pk_us], by rw [md_A2n (by decide)]; exact h46⟩
theorem c_stm {x3 : Option Value} {i : Int32} (hg : g.1 = P.1) (hn : n < 16) (X : xst g P h0) (w : xw h0 P c) (l14 : lv P (14, 0, 0)) (l7 : lv P (7, t, 0)) (r : RD c z) (rs : RS P c z t n) (N : NL P z t n) : ∃ v h1 P1 c1, ez_rn g 19 23 [some (.ref (P.2.2.1 (14, 0, 0))), some (.ref (P.2.2.1 (7, t, 0))), some (.int i), x3] [] (xh h0 P c) = ez_rn g 19 97 [some (.ref (P.2.2.1 (14, 0, 0))), some (.ref (P.2.2.1 (7, t, 0))), some (.int i), some (.int v)] [] (xh h1 P1 c1) ∧ stR t n h0 P c (pm_st z (16 * t + n)) v h1 P1 c1 := by
  have ok := w.1
  have r0 : RD c (md_sA z 46 (16 * t + n) 0) := RD_cg r rfl rfl (md_A2n (by decide))
  have a0 : kf z (md_sA z 46 (16 * t + n) 0) (16 * t + n) := kf_A (by omega)
  obtain ⟨T1, b1, c1, e1, v1, q1, r1, w1, f1, a1, rs1, z1, -⟩ := c_try X (show 0 < 11 by decide) (by decide) (show w_d = _ from cW0) w l14 r0 a0 rs (by rw [md_A2, if_pos rfl, pk_us])
  rw [st_w, e1, s19_23]
  dsimp only
  rcases v1 with rfl | rfl
  · rw [if_pos rfl]
    obtain ⟨T2, b2, c2, e2, v2, q2, r2, w2, f2, a2, rs2, z2, -⟩ := c_try X (show 6 < 11 by decide) (by decide) (show w_f = _ from cW6) w1 l14 r1 a1 rs1 z1
    rw [e2]
    dsimp only
    rcases v2 with rfl | rfl
    · rw [if_pos rfl]
      obtain ⟨T3, b3, c3, e3, v3, q3, r3, w3, f3, a3, rs3, z3, -⟩ := c_try X (show 7 < 11 by decide) (by decide) (show w_t = _ from cW7) w2 l14 r2 a2 rs2 z2
      rw [e3]
      dsimp only
      rcases v3 with rfl | rfl
      · rw [if_pos rfl, s3_w]
        obtain ⟨m1, m2, m3, m4⟩ := mk_44 (b := 3) r3 a3 z3
        generalize md_sA T3 44 (16 * t + n) 3 = Y at m1 m2 m3 m4 ⊢
        have y44 : (pm_tk Y w_l).1.2 = Y.2 := tk_2
        obtain ⟨T4, b4, c4, e4, v4, q4, r4, w4, f4, a4, rs4, z4, z5⟩ := c_try X (show 8 < 11 by decide) (by decide) (show w_l = _ from cW8) w3 l14 m1 m2 rs3 m4
        rw [e4] at y44 ⊢
        dsimp only at y44 ⊢
        have ff : ∀ r', r' ≠ (14, 0, 0) → c4 r' = c r' := fun r' u => by rw [f4 r' u, f3 r' u, f2 r' u, f1 r' u]
        rcases v4 with rfl | rfl
        · rw [if_pos rfl]
          refine ⟨0, h0, P, c4, ?_, stR_c ff ⟨w4, FR_w (FR_c (fun _ _ => rfl)) (by decide) (by decide), Or.inl ⟨rfl, rfl, ?_⟩⟩⟩
          · simp only [s19_0, s19_1, s19_4, s19_5, s19_6, s19_7, s19_9, s19_12, s19_13, s19_16, s19_17, s19_20, s19_23, s19_24, s19_26, s19_29, s19_32, s19_33, s19_33n, s19_34, s19_37, s19_40, s19_41, s19_43, s19_46, s19_49, s19_50, s19_50n, s19_51, s19_54, s19_57, s19_58, s19_60, s19_63, s19_66, s19_67, s19_67n, s19_68, s19_71, s19_74, s19_75, s19_77, s19_80, s19_83, s19_84, s19_84n, s19_85, s19_88, s19_91, s19_92, s19_95, s19_96, s19_98, s19_101, s19_102, s19_103, s19_106, s19_109, s19_110, s19_113, s19_114, s19_117, s19_120, s19_121, s19_124, s19_125, zl_n, zl_i, zl_r, zl_0, z10, z01, ez_bd_s, ez_bd_n, eq_self, true_or, or_true, if_true, if_false, zb_eq, zb_eq1, zb_em, zb_em2, ite_not, List.append_nil, List.cons_append, List.nil_append, reduceCtorEq, not_true_eq_false, not_false_eq_true, xo1, xa1, xf1_0, xv1_0, xp1_0, xf1_1, xv1_1, xf1_2, xv1_2, xp1_2, xf1_3, xv1_3, xf1_4, xv1_4, xf1_5, xv1_5, xp1_5, xf1_6, xv1_6, xp1_6, xf1_7, xv1_7, xf1_8, xv1_8, xf1_9, xv1_9, xf1_10, xv1_10, xf1_11, xv1_11, xf1_12, xv1_12, xf1_13, xv1_13, xf1_14, xv1_14, xp1_14, xo3, xa3, xf3_0, xv3_0, xp3_0, xf3_1, xv3_1, xf3_2, xv3_2, xp3_2, xo5, xa5, xf5_0, xv5_0, xp5_0, xf5_1, xv5_1, xp5_1, xf5_2, xv5_2, xp5_2, xf5_3, xv5_3, xp5_3, xf5_4, xv5_4, xp5_4, xf5_5, xv5_5, xp5_5, xf5_6, xv5_6, xp5_6, xf5_7, xv5_7, xp5_7, xf5_8, xv5_8, xp5_8, xf5_9, xv5_9, xp5_9, xf5_10, xv5_10, xp5_10, xf5_11, xv5_11, xp5_11, xf5_12, xv5_12, xp5_12, xo6, xa6, xf6_0, xv6_0, xp6_0, xf6_1, xv6_1, xp6_1, xf6_2, xv6_2, xp6_2, xo7, xa7, xf7_0, xv7_0, xp7_0, xf7_1, xv7_1, xp7_1, xf7_2, xv7_2, xp7_2, xf7_3, xv7_3, xp7_3, xf7_4, xv7_4, xf7_5, xv7_5, xo8, xa8, xf8_0, xv8_0, xp8_0, xf8_1, xv8_1, xo10, xa10, xf10_0, xv10_0, xp10_0, xf10_1, xv10_1, xp10_1, xf10_2, xv10_2, xp10_2, xf10_3, xv10_3, xf10_4, xv10_4, xo12, xa12, xf12_0, xv12_0, xf12_1, xv12_1, xp12_1, xf12_2, xv12_2, xp12_2, xf12_3, xv12_3, xp12_3, xf12_4, xv12_4, xo13, xa13, xf13_0, xv13_0, xf13_1, xv13_1, xp13_1, xo14, xa14, xf14_0, xv14_0, xf14_1, xv14_1, xp14_1, xf14_2, xv14_2, xp14_2, xf14_3, xv14_3, xp14_3, ya2_1, yw2_1, yv2_1, yp2_1, yn2_1, yl2_1, ya2_3, yw2_3, yv2_3, yp2_3, yn2_3, yl2_3, ya2_10, yw2_10, yv2_10, yp2_10, yn2_10, yl2_10, ya2_11, yw2_11, yv2_11, yp2_11, yn2_11, yl2_11, ya9, yw9, yv9, yp9, yn9, yl9, ya11, yw11, yv11, yp11, yn11, yl11, ya15, yw15, yv15, yp15, yn15, yl15, ya16, yw16, yv16, yp16, yn16, yl16, ok10, ok11, ok1i, xu_s, xu_n, ne_eq, Prod.mk.injEq, Nat.reduceEqDiff, false_and, and_false, not_false_eq_true, l14, ok, q1, q2, q3, q4]
          · rw [r4.2.2.1, z5 rfl]
        · rw [if_neg (show ¬ (1 : Int32) = 0 by decide)]
          obtain ⟨v, c5, q5, s5⟩ := c_lost X w4 l14 l7 r4 a4 rs4 N (by rw [y44]; exact m3) z4
          refine ⟨v, h0, P, c5, ?_, stR_c ff s5⟩
          rcases stR_v s5 with rfl | rfl <;> simp only [s19_0, s19_1, s19_4, s19_5, s19_6, s19_7, s19_9, s19_12, s19_13, s19_16, s19_17, s19_20, s19_23, s19_24, s19_26, s19_29, s19_32, s19_33, s19_33n, s19_34, s19_37, s19_40, s19_41, s19_43, s19_46, s19_49, s19_50, s19_50n, s19_51, s19_54, s19_57, s19_58, s19_60, s19_63, s19_66, s19_67, s19_67n, s19_68, s19_71, s19_74, s19_75, s19_77, s19_80, s19_83, s19_84, s19_84n, s19_85, s19_88, s19_91, s19_92, s19_95, s19_96, s19_98, s19_101, s19_102, s19_103, s19_106, s19_109, s19_110, s19_113, s19_114, s19_117, s19_120, s19_121, s19_124, s19_125, zl_n, zl_i, zl_r, zl_0, z10, z01, ez_bd_s, ez_bd_n, eq_self, true_or, or_true, if_true, if_false, zb_eq, zb_eq1, zb_em, zb_em2, ite_not, List.append_nil, List.cons_append, List.nil_append, reduceCtorEq, not_true_eq_false, not_false_eq_true, xo1, xa1, xf1_0, xv1_0, xp1_0, xf1_1, xv1_1, xf1_2, xv1_2, xp1_2, xf1_3, xv1_3, xf1_4, xv1_4, xf1_5, xv1_5, xp1_5, xf1_6, xv1_6, xp1_6, xf1_7, xv1_7, xf1_8, xv1_8, xf1_9, xv1_9, xf1_10, xv1_10, xf1_11, xv1_11, xf1_12, xv1_12, xf1_13, xv1_13, xf1_14, xv1_14, xp1_14, xo3, xa3, xf3_0, xv3_0, xp3_0, xf3_1, xv3_1, xf3_2, xv3_2, xp3_2, xo5, xa5, xf5_0, xv5_0, xp5_0, xf5_1, xv5_1, xp5_1, xf5_2, xv5_2, xp5_2, xf5_3, xv5_3, xp5_3, xf5_4, xv5_4, xp5_4, xf5_5, xv5_5, xp5_5, xf5_6, xv5_6, xp5_6, xf5_7, xv5_7, xp5_7, xf5_8, xv5_8, xp5_8, xf5_9, xv5_9, xp5_9, xf5_10, xv5_10, xp5_10, xf5_11, xv5_11, xp5_11, xf5_12, xv5_12, xp5_12, xo6, xa6, xf6_0, xv6_0, xp6_0, xf6_1, xv6_1, xp6_1, xf6_2, xv6_2, xp6_2, xo7, xa7, xf7_0, xv7_0, xp7_0, xf7_1, xv7_1, xp7_1, xf7_2, xv7_2, xp7_2, xf7_3, xv7_3, xp7_3, xf7_4, xv7_4, xf7_5, xv7_5, xo8, xa8, xf8_0, xv8_0, xp8_0, xf8_1, xv8_1, xo10, xa10, xf10_0, xv10_0, xp10_0, xf10_1, xv10_1, xp10_1, xf10_2, xv10_2, xp10_2, xf10_3, xv10_3, xf10_4, xv10_4, xo12, xa12, xf12_0, xv12_0, xf12_1, xv12_1, xp12_1, xf12_2, xv12_2, xp12_2, xf12_3, xv12_3, xp12_3, xf12_4, xv12_4, xo13, xa13, xf13_0, xv13_0, xf13_1, xv13_1, xp13_1, xo14, xa14, xf14_0, xv14_0, xf14_1, xv14_1, xp14_1, xf14_2, xv14_2, xp14_2, xf14_3, xv14_3, xp14_3, ya2_1, yw2_1, yv2_1, yp2_1, yn2_1, yl2_1, ya2_3, yw2_3, yv2_3, yp2_3, yn2_3, yl2_3, ya2_10, yw2_10, yv2_10, yp2_10, yn2_10, yl2_10, ya2_11, yw2_11, yv2_11, yp2_11, yn2_11, yl2_11, ya9, yw9, yv9, yp9, yn9, yl9, ya11, yw11, yv11, yp11, yn11, yl11, ya15, yw15, yv15, yp15, yn15, yl15, ya16, yw16, yv16, yp16, yn16, yl16, ok10, ok11, ok1i, xu_s, xu_n, ne_eq, Prod.mk.injEq, Nat.reduceEqDiff, false_and, and_false, not_false_eq_true, l14, ok, q1, q2, q3, q4, q5]
      · rw [if_neg (show ¬ (1 : Int32) = 0 by decide)]
        obtain ⟨m1, m2, m3, m4⟩ := mk_44 (b := 2) r3 a3 z3
        obtain ⟨v, c5, q5, s5⟩ := c_term X w3 l14 l7 m1 m2 rs3 N m3 m4
        refine ⟨v, h0, P, c5, ?_, stR_c (fun r' u => by rw [f3 r' u, f2 r' u, f1 r' u]) s5⟩
        simp only [s19_0, s19_1, s19_4, s19_5, s19_6, s19_7, s19_9, s19_12, s19_13, s19_16, s19_17, s19_20, s19_23, s19_24, s19_26, s19_29, s19_32, s19_33, s19_33n, s19_34, s19_37, s19_40, s19_41, s19_43, s19_46, s19_49, s19_50, s19_50n, s19_51, s19_54, s19_57, s19_58, s19_60, s19_63, s19_66, s19_67, s19_67n, s19_68, s19_71, s19_74, s19_75, s19_77, s19_80, s19_83, s19_84, s19_84n, s19_85, s19_88, s19_91, s19_92, s19_95, s19_96, s19_98, s19_101, s19_102, s19_103, s19_106, s19_109, s19_110, s19_113, s19_114, s19_117, s19_120, s19_121, s19_124, s19_125, zl_n, zl_i, zl_r, zl_0, z10, z01, ez_bd_s, ez_bd_n, eq_self, true_or, or_true, if_true, if_false, zb_eq, zb_eq1, zb_em, zb_em2, ite_not, List.append_nil, List.cons_append, List.nil_append, reduceCtorEq, not_true_eq_false, not_false_eq_true, xo1, xa1, xf1_0, xv1_0, xp1_0, xf1_1, xv1_1, xf1_2, xv1_2, xp1_2, xf1_3, xv1_3, xf1_4, xv1_4, xf1_5, xv1_5, xp1_5, xf1_6, xv1_6, xp1_6, xf1_7, xv1_7, xf1_8, xv1_8, xf1_9, xv1_9, xf1_10, xv1_10, xf1_11, xv1_11, xf1_12, xv1_12, xf1_13, xv1_13, xf1_14, xv1_14, xp1_14, xo3, xa3, xf3_0, xv3_0, xp3_0, xf3_1, xv3_1, xf3_2, xv3_2, xp3_2, xo5, xa5, xf5_0, xv5_0, xp5_0, xf5_1, xv5_1, xp5_1, xf5_2, xv5_2, xp5_2, xf5_3, xv5_3, xp5_3, xf5_4, xv5_4, xp5_4, xf5_5, xv5_5, xp5_5, xf5_6, xv5_6, xp5_6, xf5_7, xv5_7, xp5_7, xf5_8, xv5_8, xp5_8, xf5_9, xv5_9, xp5_9, xf5_10, xv5_10, xp5_10, xf5_11, xv5_11, xp5_11, xf5_12, xv5_12, xp5_12, xo6, xa6, xf6_0, xv6_0, xp6_0, xf6_1, xv6_1, xp6_1, xf6_2, xv6_2, xp6_2, xo7, xa7, xf7_0, xv7_0, xp7_0, xf7_1, xv7_1, xp7_1, xf7_2, xv7_2, xp7_2, xf7_3, xv7_3, xp7_3, xf7_4, xv7_4, xf7_5, xv7_5, xo8, xa8, xf8_0, xv8_0, xp8_0, xf8_1, xv8_1, xo10, xa10, xf10_0, xv10_0, xp10_0, xf10_1, xv10_1, xp10_1, xf10_2, xv10_2, xp10_2, xf10_3, xv10_3, xf10_4, xv10_4, xo12, xa12, xf12_0, xv12_0, xf12_1, xv12_1, xp12_1, xf12_2, xv12_2, xp12_2, xf12_3, xv12_3, xp12_3, xf12_4, xv12_4, xo13, xa13, xf13_0, xv13_0, xf13_1, xv13_1, xp13_1, xo14, xa14, xf14_0, xv14_0, xf14_1, xv14_1, xp14_1, xf14_2, xv14_2, xp14_2, xf14_3, xv14_3, xp14_3, ya2_1, yw2_1, yv2_1, yp2_1, yn2_1, yl2_1, ya2_3, yw2_3, yv2_3, yp2_3, yn2_3, yl2_3, ya2_10, yw2_10, yv2_10, yp2_10, yn2_10, yl2_10, ya2_11, yw2_11, yv2_11, yp2_11, yn2_11, yl2_11, ya9, yw9, yv9, yp9, yn9, yl9, ya11, yw11, yv11, yp11, yn11, yl11, ya15, yw15, yv15, yp15, yn15, yl15, ya16, yw16, yv16, yp16, yn16, yl16, ok10, ok11, ok1i, xu_s, xu_n, ne_eq, Prod.mk.injEq, Nat.reduceEqDiff, false_and, and_false, not_false_eq_true, l14, ok, q1, q2, q3, q5]
    · rw [if_neg (show ¬ (1 : Int32) = 0 by decide)]
      obtain ⟨m1, m2, m3, m4⟩ := mk_44 (b := 1) r2 a2 z2
      obtain ⟨v, h5, P5, c5, q5, s5⟩ := c_forbid hg hn X w2 l14 l7 m1 m2 rs2 N m3
      refine ⟨v, h5, P5, c5, ?_, stR_c (fun r' u => by rw [f2 r' u, f1 r' u]) s5⟩
      simp only [s19_0, s19_1, s19_4, s19_5, s19_6, s19_7, s19_9, s19_12, s19_13, s19_16, s19_17, s19_20, s19_23, s19_24, s19_26, s19_29, s19_32, s19_33, s19_33n, s19_34, s19_37, s19_40, s19_41, s19_43, s19_46, s19_49, s19_50, s19_50n, s19_51, s19_54, s19_57, s19_58, s19_60, s19_63, s19_66, s19_67, s19_67n, s19_68, s19_71, s19_74, s19_75, s19_77, s19_80, s19_83, s19_84, s19_84n, s19_85, s19_88, s19_91, s19_92, s19_95, s19_96, s19_98, s19_101, s19_102, s19_103, s19_106, s19_109, s19_110, s19_113, s19_114, s19_117, s19_120, s19_121, s19_124, s19_125, zl_n, zl_i, zl_r, zl_0, z10, z01, ez_bd_s, ez_bd_n, eq_self, true_or, or_true, if_true, if_false, zb_eq, zb_eq1, zb_em, zb_em2, ite_not, List.append_nil, List.cons_append, List.nil_append, reduceCtorEq, not_true_eq_false, not_false_eq_true, xo1, xa1, xf1_0, xv1_0, xp1_0, xf1_1, xv1_1, xf1_2, xv1_2, xp1_2, xf1_3, xv1_3, xf1_4, xv1_4, xf1_5, xv1_5, xp1_5, xf1_6, xv1_6, xp1_6, xf1_7, xv1_7, xf1_8, xv1_8, xf1_9, xv1_9, xf1_10, xv1_10, xf1_11, xv1_11, xf1_12, xv1_12, xf1_13, xv1_13, xf1_14, xv1_14, xp1_14, xo3, xa3, xf3_0, xv3_0, xp3_0, xf3_1, xv3_1, xf3_2, xv3_2, xp3_2, xo5, xa5, xf5_0, xv5_0, xp5_0, xf5_1, xv5_1, xp5_1, xf5_2, xv5_2, xp5_2, xf5_3, xv5_3, xp5_3, xf5_4, xv5_4, xp5_4, xf5_5, xv5_5, xp5_5, xf5_6, xv5_6, xp5_6, xf5_7, xv5_7, xp5_7, xf5_8, xv5_8, xp5_8, xf5_9, xv5_9, xp5_9, xf5_10, xv5_10, xp5_10, xf5_11, xv5_11, xp5_11, xf5_12, xv5_12, xp5_12, xo6, xa6, xf6_0, xv6_0, xp6_0, xf6_1, xv6_1, xp6_1, xf6_2, xv6_2, xp6_2, xo7, xa7, xf7_0, xv7_0, xp7_0, xf7_1, xv7_1, xp7_1, xf7_2, xv7_2, xp7_2, xf7_3, xv7_3, xp7_3, xf7_4, xv7_4, xf7_5, xv7_5, xo8, xa8, xf8_0, xv8_0, xp8_0, xf8_1, xv8_1, xo10, xa10, xf10_0, xv10_0, xp10_0, xf10_1, xv10_1, xp10_1, xf10_2, xv10_2, xp10_2, xf10_3, xv10_3, xf10_4, xv10_4, xo12, xa12, xf12_0, xv12_0, xf12_1, xv12_1, xp12_1, xf12_2, xv12_2, xp12_2, xf12_3, xv12_3, xp12_3, xf12_4, xv12_4, xo13, xa13, xf13_0, xv13_0, xf13_1, xv13_1, xp13_1, xo14, xa14, xf14_0, xv14_0, xf14_1, xv14_1, xp14_1, xf14_2, xv14_2, xp14_2, xf14_3, xv14_3, xp14_3, ya2_1, yw2_1, yv2_1, yp2_1, yn2_1, yl2_1, ya2_3, yw2_3, yv2_3, yp2_3, yn2_3, yl2_3, ya2_10, yw2_10, yv2_10, yp2_10, yn2_10, yl2_10, ya2_11, yw2_11, yv2_11, yp2_11, yn2_11, yl2_11, ya9, yw9, yv9, yp9, yn9, yl9, ya11, yw11, yv11, yp11, yn11, yl11, ya15, yw15, yv15, yp15, yn15, yl15, ya16, yw16, yv16, yp16, yn16, yl16, ok10, ok11, ok1i, xu_s, xu_n, ne_eq, Prod.mk.injEq, Nat.reduceEqDiff, false_and, and_false, not_false_eq_true, l14, ok, q1, q2, q5]
  · rw [if_neg (show ¬ (1 : Int32) = 0 by decide)]
    obtain ⟨m1, m2, m3, m4⟩ := mk_44 (b := 0) r1 a1 z1
    obtain ⟨v, h5, P5, c5, q5, s5⟩ := c_duty hg hn X w1 l14 l7 m1 m2 rs1 N m3
    refine ⟨v, h5, P5, c5, ?_, stR_c f1 s5⟩
    simp only [s19_0, s19_1, s19_4, s19_5, s19_6, s19_7, s19_9, s19_12, s19_13, s19_16, s19_17, s19_20, s19_23, s19_24, s19_26, s19_29, s19_32, s19_33, s19_33n, s19_34, s19_37, s19_40, s19_41, s19_43, s19_46, s19_49, s19_50, s19_50n, s19_51, s19_54, s19_57, s19_58, s19_60, s19_63, s19_66, s19_67, s19_67n, s19_68, s19_71, s19_74, s19_75, s19_77, s19_80, s19_83, s19_84, s19_84n, s19_85, s19_88, s19_91, s19_92, s19_95, s19_96, s19_98, s19_101, s19_102, s19_103, s19_106, s19_109, s19_110, s19_113, s19_114, s19_117, s19_120, s19_121, s19_124, s19_125, zl_n, zl_i, zl_r, zl_0, z10, z01, ez_bd_s, ez_bd_n, eq_self, true_or, or_true, if_true, if_false, zb_eq, zb_eq1, zb_em, zb_em2, ite_not, List.append_nil, List.cons_append, List.nil_append, reduceCtorEq, not_true_eq_false, not_false_eq_true, xo1, xa1, xf1_0, xv1_0, xp1_0, xf1_1, xv1_1, xf1_2, xv1_2, xp1_2, xf1_3, xv1_3, xf1_4, xv1_4, xf1_5, xv1_5, xp1_5, xf1_6, xv1_6, xp1_6, xf1_7, xv1_7, xf1_8, xv1_8, xf1_9, xv1_9, xf1_10, xv1_10, xf1_11, xv1_11, xf1_12, xv1_12, xf1_13, xv1_13, xf1_14, xv1_14, xp1_14, xo3, xa3, xf3_0, xv3_0, xp3_0, xf3_1, xv3_1, xf3_2, xv3_2, xp3_2, xo5, xa5, xf5_0, xv5_0, xp5_0, xf5_1, xv5_1, xp5_1, xf5_2, xv5_2, xp5_2, xf5_3, xv5_3, xp5_3, xf5_4, xv5_4, xp5_4, xf5_5, xv5_5, xp5_5, xf5_6, xv5_6, xp5_6, xf5_7, xv5_7, xp5_7, xf5_8, xv5_8, xp5_8, xf5_9, xv5_9, xp5_9, xf5_10, xv5_10, xp5_10, xf5_11, xv5_11, xp5_11, xf5_12, xv5_12, xp5_12, xo6, xa6, xf6_0, xv6_0, xp6_0, xf6_1, xv6_1, xp6_1, xf6_2, xv6_2, xp6_2, xo7, xa7, xf7_0, xv7_0, xp7_0, xf7_1, xv7_1, xp7_1, xf7_2, xv7_2, xp7_2, xf7_3, xv7_3, xp7_3, xf7_4, xv7_4, xf7_5, xv7_5, xo8, xa8, xf8_0, xv8_0, xp8_0, xf8_1, xv8_1, xo10, xa10, xf10_0, xv10_0, xp10_0, xf10_1, xv10_1, xp10_1, xf10_2, xv10_2, xp10_2, xf10_3, xv10_3, xf10_4, xv10_4, xo12, xa12, xf12_0, xv12_0, xf12_1, xv12_1, xp12_1, xf12_2, xv12_2, xp12_2, xf12_3, xv12_3, xp12_3, xf12_4, xv12_4, xo13, xa13, xf13_0, xv13_0, xf13_1, xv13_1, xp13_1, xo14, xa14, xf14_0, xv14_0, xf14_1, xv14_1, xp14_1, xf14_2, xv14_2, xp14_2, xf14_3, xv14_3, xp14_3, ya2_1, yw2_1, yv2_1, yp2_1, yn2_1, yl2_1, ya2_3, yw2_3, yv2_3, yp2_3, yn2_3, yl2_3, ya2_10, yw2_10, yv2_10, yp2_10, yn2_10, yl2_10, ya2_11, yw2_11, yv2_11, yp2_11, yn2_11, yl2_11, ya9, yw9, yv9, yp9, yn9, yl9, ya11, yw11, yv11, yp11, yn11, yl11, ya15, yw15, yv15, yp15, yn15, yl15, ya16, yw16, yv16, yp16, yn16, yl16, ok10, ok11, ok1i, xu_s, xu_n, ne_eq, Prod.mk.injEq, Nat.reduceEqDiff, false_and, and_false, not_false_eq_true, l14, ok, q1, q5]
end ST
