section FB
variable {g : ez_G} {h h0 h1 h2 : ez_H} {P P1 : xP} {c c1 cc : xR → Nat → Int32} {z z' y Y : md_S} {t n κ k L : Nat} {v : Int32}
theorem tcl_4 {s : Nat} (hs : s ≠ 46 ∧ s ≠ 47 ∧ s ≠ 48) : ∀ d z, (tcl k d z).1.2 s = z.2 s
  | 0, _ => rfl
  | d + 1, z => by
    rw [tcl]
    split
    · rfl
    · split
      · rfl
      · split
        · exact tn_2
        · rw [tcl_4 hs d]
          unfold pm_cn
          rw [md_A2n hs.1, md_A2n hs.2.2, md_A2n hs.2.1, tn_2]
          rfl
theorem tc_44 : (pm_tc z k).1.2 44 = z.2 44 := by
  unfold pm_tc
  rw [tcl_4 (by decide), md_A2n (by decide)]
theorem tc_45 : (pm_tc z k).1.2 45 = z.2 45 := by
  unfold pm_tc
  rw [tcl_4 (by decide), md_A2n (by decide)]
theorem NL_n (N : NL P z t n) (h : κ % 2 = 0 ∧ κ / 2 = ck z 0 t n ∨ κ % 2 = 1 ∧ κ / 2 = ck z 1 t n) : ¬ lv P (8, t, κ) ∧ ¬ lv P (9, t, κ) := by
  refine ⟨fun hl => ?_, fun hl => ?_⟩
  · have := N κ (Or.inl hl)
    omega
  · have := N κ (Or.inr hl)
    omega
theorem c_forbid (hg : g.1 = P.1) (hn : n < 16) (X : xst g P h0) (w : xw h0 P c) (l14 : lv P (14, 0, 0)) (l7 : lv P (7, t, 0)) (r : RD c y) (a : kf z y (16 * t + n)) (rs : RS P c z t n) (N : NL P z t n) (h44 : y.2 44 (16 * t + n) = 1) : ∃ v h1 P1 c1, ez_ev g 21 [.ref (P.2.2.1 (14, 0, 0)), .ref (P.2.2.1 (7, t, 0))] (xh h0 P c) = some (some (.int v), xh h1 P1 c1) ∧ stR t n h0 P c (pm_s1 y (16 * t + n)) v h1 P1 c1 := by
  have hK := ck_le (z := z) (w := 1) (t := t) n
  obtain ⟨n8, n9⟩ := NL_n (κ := 2 * ck z 1 t n + 1) N (Or.inr ⟨by omega, by omega⟩)
  have l6 := rs.2.2.2.1
  have l5 := rs.2.2.1
  generalize eK : ck z 1 t n = K at n8 n9 hK l6
  obtain ⟨h1, P1, e1, w1, l8, l9, p8, f1, x1⟩ := x_clause (t := t) (κ := 2 * K + 1) w n8 n9
  generalize ec1 : xs (xs c (9, t, 2 * K + 1) F3) (8, t, 2 * K + 1) (fun _ => 0) = c1 at e1 w1
  have hc1 : ∀ r', r' ≠ (8, t, 2 * K + 1) → r' ≠ (9, t, 2 * K + 1) → c1 r' = c r' := fun r' u1 u2 => by rw [← ec1, xs_n u1, xs_n u2]
  have h19 : c1 (9, t, 2 * K + 1) = F3 := by rw [← ec1, xs_n (by rintro ⟨⟩), xs_r]
  have F1 : FR t h0 P c h1 P1 c1 2 5 := FR_cl hc1 f1 x1
  have l7' := F1.2.2.2.2.1 l7
  have l36 : lv P1 (3, 6, t) := w1.2.2.1 (7, t, 0) (3, 6, t) (show 7 ≠ 0 by decide) l7' (Or.inr rfl) (fun h => absurd h (show ¬ 7 = 3 by decide))
  have s6 : lsz P1 c1 6 t K := lsz_cg l6 (f1 _ (by rintro ⟨⟩) (by rintro ⟨⟩)).2.1 (by rw [hc1 _ (by rintro ⟨⟩) (by rintro ⟨⟩)]) (hc1 _ (by rintro ⟨⟩) (by rintro ⟨⟩))
  obtain ⟨h2, P2, e2, w2, x2, s2⟩ := q_add (g := g) (L := 6) (i := t) (n := K) (v := K) w1 (hg.trans x1.1.symm) l36 s6 (by omega) (by omega) l8
  have e2 : ez_ev g 155 [.ref (P1.2.2.1 (3, 6, t)), .ref (xh h0 P c).2.1] (xh h1 P1 c1) = some (some (.int 1), xh h2 P2 (xad c1 6 t K K)) := by
    rw [← p8]
    exact e2
  have h24 : xad c1 6 t K K (4, 6, t) = upd (c1 (4, 6, t)) K (nI K) := xad_4
  have hc2' : ∀ r', r' ≠ (3, 6, t) → r' ≠ (4, 6, t) → xad c1 6 t K K r' = c1 r' := fun r' u1 u2 => xad_n u1 u2
  generalize xad c1 6 t K K = c2 at e2 w2 s2 h24 hc2'
  have F2 : FR t h0 P c h2 P2 c2 3 405 := FR_t F1 (FR_gr in36 hc2' x2)
  have g14 : P2.2.2.1 (14, 0, 0) = P.2.2.1 (14, 0, 0) := F2.2.2.1.1
  have l14' := F2.2.2.2.1 l14
  have l8' : lv P2 (8, t, 2 * K + 1) := (x2.2.1 _ (show 8 ≠ 0 by decide) (by rintro ⟨⟩)).mpr l8
  have l9' : lv P2 (9, t, 2 * K + 1) := (x2.2.1 _ (show 9 ≠ 0 by decide) (by rintro ⟨⟩)).mpr l9
  have p8' : P2.2.2.1 (8, t, 2 * K + 1) = (xh h0 P c).2.1 := (x2.1 _ (by rintro ⟨⟩)).trans p8
  have X2 : xst g P2 h2 := xst_f X F2.2.2.2.2.2
  have hc2 : ∀ r', r' ≠ (8, t, 2 * K + 1) → r' ≠ (9, t, 2 * K + 1) → r' ≠ (3, 6, t) → r' ≠ (4, 6, t) → c2 r' = c r' := fun r' u1 u2 u3 u4 => by rw [hc2' r' u3 u4, hc1 r' u1 u2]
  have r2 : RD c2 y := RD_c r (hc2 _ (by rintro ⟨⟩) (by rintro ⟨⟩) (by rintro ⟨⟩) (by rintro ⟨⟩)) (hc2 _ (by rintro ⟨⟩) (by rintro ⟨⟩) (by rintro ⟨⟩) (by rintro ⟨⟩))
  obtain ⟨c3, v3, q3, w3, f3, res⟩ := c_conds (g := g) (k := 16 * t + n) X2 w2 l14' l8' l9' r2 (by rw [hc2' _ (by rintro ⟨⟩) (by rintro ⟨⟩), h19])
  rw [p8'] at q3
  have ka : kf z (pm_tc y (16 * t + n)).1 (16 * t + n) := kf_t a kf_tc
  have k44 : (pm_tc y (16 * t + n)).1.2 44 (16 * t + n) = 1 := by rw [tc_44]; exact h44
  have k01 : (pm_tc y (16 * t + n)).2 = 0 ∨ (pm_tc y (16 * t + n)).2 = 1 := by
    rcases res with ⟨h, -⟩ | ⟨h, -⟩ | ⟨h, -⟩
    · exact Or.inr h
    · exact Or.inl h
    · exact Or.inl h
  unfold pm_s1
  generalize pm_tc y (16 * t + n) = T at res ka k44 k01
  obtain ⟨T, b⟩ := T
  dsimp only at res ka k44 k01 ⊢
  have ok1 := w1.1
  have ok2 := w2.1
  have F3' : FR t h0 P c h2 P2 c3 3 405 := FR_w (FR_t F2 (FR_c (fun r' hr => f3 r' (niT hr iT14) (niT hr iT9)))) (Nat.le_refl _) (Nat.le_refl _)
  have run0 : v3 = 0 → ez_ev g 21 [.ref (P.2.2.1 (14, 0, 0)), .ref (P.2.2.1 (7, t, 0))] (xh h0 P c) = some (some (.int 0), xh h2 P2 c3) := fun e => by
    subst e
    rw [e21, ← g14, ← F1.2.2.1.2.1]
    simp only [s21_0, s21_3, s21_4, s21_7, s21_8, s21_8n, s21_9, s21_12, s21_13, s21_16, s21_17, s21_18, s21_19, s21_22, s21_25, s21_26, s21_28, s21_31, s21_34, s21_35, s21_38, s21_39, zl_n, zl_i, zl_r, zl_0, z10, z01, ez_bd_s, ez_bd_n, eq_self, true_or, or_true, if_true, if_false, zb_eq, zb_eq1, zb_em, zb_em2, ite_not, List.append_nil, List.cons_append, List.nil_append, reduceCtorEq, not_true_eq_false, not_false_eq_true, xo1, xa1, xf1_0, xv1_0, xp1_0, xf1_1, xv1_1, xf1_2, xv1_2, xp1_2, xf1_3, xv1_3, xf1_4, xv1_4, xf1_5, xv1_5, xp1_5, xf1_6, xv1_6, xp1_6, xf1_7, xv1_7, xf1_8, xv1_8, xf1_9, xv1_9, xf1_10, xv1_10, xf1_11, xv1_11, xf1_12, xv1_12, xf1_13, xv1_13, xf1_14, xv1_14, xp1_14, xo3, xa3, xf3_0, xv3_0, xp3_0, xf3_1, xv3_1, xf3_2, xv3_2, xp3_2, xo5, xa5, xf5_0, xv5_0, xp5_0, xf5_1, xv5_1, xp5_1, xf5_2, xv5_2, xp5_2, xf5_3, xv5_3, xp5_3, xf5_4, xv5_4, xp5_4, xf5_5, xv5_5, xp5_5, xf5_6, xv5_6, xp5_6, xf5_7, xv5_7, xp5_7, xf5_8, xv5_8, xp5_8, xf5_9, xv5_9, xp5_9, xf5_10, xv5_10, xp5_10, xf5_11, xv5_11, xp5_11, xf5_12, xv5_12, xp5_12, xo6, xa6, xf6_0, xv6_0, xp6_0, xf6_1, xv6_1, xp6_1, xf6_2, xv6_2, xp6_2, xo7, xa7, xf7_0, xv7_0, xp7_0, xf7_1, xv7_1, xp7_1, xf7_2, xv7_2, xp7_2, xf7_3, xv7_3, xp7_3, xf7_4, xv7_4, xf7_5, xv7_5, xo8, xa8, xf8_0, xv8_0, xp8_0, xf8_1, xv8_1, xo10, xa10, xf10_0, xv10_0, xp10_0, xf10_1, xv10_1, xp10_1, xf10_2, xv10_2, xp10_2, xf10_3, xv10_3, xf10_4, xv10_4, xo12, xa12, xf12_0, xv12_0, xf12_1, xv12_1, xp12_1, xf12_2, xv12_2, xp12_2, xf12_3, xv12_3, xp12_3, xf12_4, xv12_4, xo13, xa13, xf13_0, xv13_0, xf13_1, xv13_1, xp13_1, xo14, xa14, xf14_0, xv14_0, xf14_1, xv14_1, xp14_1, xf14_2, xv14_2, xp14_2, xf14_3, xv14_3, xp14_3, ya2_1, yw2_1, yv2_1, yp2_1, yn2_1, yl2_1, ya2_3, yw2_3, yv2_3, yp2_3, yn2_3, yl2_3, ya2_10, yw2_10, yv2_10, yp2_10, yn2_10, yl2_10, ya2_11, yw2_11, yv2_11, yp2_11, yn2_11, yl2_11, ya9, yw9, yv9, yp9, yn9, yl9, ya11, yw11, yv11, yp11, yn11, yl11, ya15, yw15, yv15, yp15, yn15, yl15, ya16, yw16, yv16, yp16, yn16, yl16, ok10, ok11, ok1i, xu_s, xu_n, ne_eq, Prod.mk.injEq, Nat.reduceEqDiff, false_and, and_false, not_false_eq_true, c_clInit, e1, l7', l36, ok1, e2, l14', ok2, q3]
  have run1 : v3 = 1 → ∀ v c4, (v = 0 ∨ v = 1) → ez_ev g 25 [.ref (P2.2.2.1 (14, 0, 0)), .ref (g.2.1 5)] (xh h2 P2 c3) = some (some (.int v), xh h2 P2 c4) → ez_ev g 21 [.ref (P.2.2.1 (14, 0, 0)), .ref (P.2.2.1 (7, t, 0))] (xh h0 P c) = some (some (.int v), xh h2 P2 c4) := fun e v c4 hv q4 => by
    subst e
    rw [e21, ← g14, ← F1.2.2.1.2.1]
    rcases hv with rfl | rfl <;> simp only [s21_0, s21_3, s21_4, s21_7, s21_8, s21_8n, s21_9, s21_12, s21_13, s21_16, s21_17, s21_18, s21_19, s21_22, s21_25, s21_26, s21_28, s21_31, s21_34, s21_35, s21_38, s21_39, zl_n, zl_i, zl_r, zl_0, z10, z01, ez_bd_s, ez_bd_n, eq_self, true_or, or_true, if_true, if_false, zb_eq, zb_eq1, zb_em, zb_em2, ite_not, List.append_nil, List.cons_append, List.nil_append, reduceCtorEq, not_true_eq_false, not_false_eq_true, xo1, xa1, xf1_0, xv1_0, xp1_0, xf1_1, xv1_1, xf1_2, xv1_2, xp1_2, xf1_3, xv1_3, xf1_4, xv1_4, xf1_5, xv1_5, xp1_5, xf1_6, xv1_6, xp1_6, xf1_7, xv1_7, xf1_8, xv1_8, xf1_9, xv1_9, xf1_10, xv1_10, xf1_11, xv1_11, xf1_12, xv1_12, xf1_13, xv1_13, xf1_14, xv1_14, xp1_14, xo3, xa3, xf3_0, xv3_0, xp3_0, xf3_1, xv3_1, xf3_2, xv3_2, xp3_2, xo5, xa5, xf5_0, xv5_0, xp5_0, xf5_1, xv5_1, xp5_1, xf5_2, xv5_2, xp5_2, xf5_3, xv5_3, xp5_3, xf5_4, xv5_4, xp5_4, xf5_5, xv5_5, xp5_5, xf5_6, xv5_6, xp5_6, xf5_7, xv5_7, xp5_7, xf5_8, xv5_8, xp5_8, xf5_9, xv5_9, xp5_9, xf5_10, xv5_10, xp5_10, xf5_11, xv5_11, xp5_11, xf5_12, xv5_12, xp5_12, xo6, xa6, xf6_0, xv6_0, xp6_0, xf6_1, xv6_1, xp6_1, xf6_2, xv6_2, xp6_2, xo7, xa7, xf7_0, xv7_0, xp7_0, xf7_1, xv7_1, xp7_1, xf7_2, xv7_2, xp7_2, xf7_3, xv7_3, xp7_3, xf7_4, xv7_4, xf7_5, xv7_5, xo8, xa8, xf8_0, xv8_0, xp8_0, xf8_1, xv8_1, xo10, xa10, xf10_0, xv10_0, xp10_0, xf10_1, xv10_1, xp10_1, xf10_2, xv10_2, xp10_2, xf10_3, xv10_3, xf10_4, xv10_4, xo12, xa12, xf12_0, xv12_0, xf12_1, xv12_1, xp12_1, xf12_2, xv12_2, xp12_2, xf12_3, xv12_3, xp12_3, xf12_4, xv12_4, xo13, xa13, xf13_0, xv13_0, xf13_1, xv13_1, xp13_1, xo14, xa14, xf14_0, xv14_0, xf14_1, xv14_1, xp14_1, xf14_2, xv14_2, xp14_2, xf14_3, xv14_3, xp14_3, ya2_1, yw2_1, yv2_1, yp2_1, yn2_1, yl2_1, ya2_3, yw2_3, yv2_3, yp2_3, yn2_3, yl2_3, ya2_10, yw2_10, yv2_10, yp2_10, yn2_10, yl2_10, ya2_11, yw2_11, yv2_11, yp2_11, yn2_11, yl2_11, ya9, yw9, yv9, yp9, yn9, yl9, ya11, yw11, yv11, yp11, yn11, yl11, ya15, yw15, yv15, yp15, yn15, yl15, ya16, yw16, yv16, yp16, yn16, yl16, ok10, ok11, ok1i, xu_s, xu_n, ne_eq, Prod.mk.injEq, Nat.reduceEqDiff, false_and, and_false, not_false_eq_true, c_clInit, e1, l7', l36, ok1, e2, l14', ok2, q3, q4]
  rcases res with ⟨b1, hv, r3, n', hn', e46, rc⟩ | ⟨b0, hv, e38⟩ | ⟨b0, hv, r3, e38, ecv⟩
  · subst b1
    rw [if_neg (show ¬ (1 : Int32) = 0 by decide)]
    obtain ⟨c4, q4, r4, w4, f4⟩ := c_semi X2 w3 l14' r3
    have f01 := fin_01 (y := T)
    have f38 := fin_38 r3
    have ff2 : (pm_fin T).1.2 = T.2 := fin_2
    have kb : kf z (pm_fin T).1 (16 * t + n) := kf_t ka kf_fin
    generalize pm_fin T = V at *
    obtain ⟨V, b⟩ := V
    dsimp only at *
    refine ⟨b, h2, P2, c4, run1 hv b c4 f01 q4, w4, FR_w (FR_t F3' (FR_c (fun r' hr => f4 r' (niT hr iT14)))) (Nat.le_refl _) (Nat.le_refl _), ?_⟩
    rcases f01 with rfl | rfl
    · exact Or.inl ⟨rfl, rfl, by rw [r4.2.2.1, (f38 rfl).1]⟩
    · have hc4 : ∀ r', r' ≠ (14, 0, 0) → r' ≠ (8, t, 2 * K + 1) → r' ≠ (9, t, 2 * K + 1) → r' ≠ (3, 6, t) → r' ≠ (4, 6, t) → c4 r' = c r' := fun r' u0 u1 u2 u3 u4 => by rw [f4 r' u0, f3 r' u0 u2, hc2 r' u1 u2 u3 u4]
      have v44 : V.2 44 (16 * t + n) = 1 := by rw [ff2]; exact k44
      have v46 : V.2 46 (16 * t + n) = nI n' := by rw [ff2]; exact e46
      have k0 : ck V 0 t (n + 1) = ck z 0 t n := by rw [ck, if_neg (by rw [v44]; decide), ck_k kb n (Nat.le_refl _)]
      have k1 : ck V 1 t (n + 1) = K + 1 := by rw [ck, if_pos v44, ck_k kb n (Nat.le_refl _), eK]
      refine Or.inr ⟨rfl, rfl, r4, RS_ext kb rs ?_ ?_ ?_ ?_ ?_ ?_ ?_ ?_ ?_ ?_ ?_, ?_⟩
      · rw [pv, if_neg (by rw [v44]; decide), pv_k kb n (Nat.le_refl _), hc4 _ (by rintro ⟨⟩) (by rintro ⟨⟩) (by rintro ⟨⟩) (by rintro ⟨⟩) (by rintro ⟨⟩)]
        exact rs.1
      · rw [pv, if_neg (by rw [v44]; decide), pv_k kb n (Nat.le_refl _), hc4 _ (by rintro ⟨⟩) (by rintro ⟨⟩) (by rintro ⟨⟩) (by rintro ⟨⟩) (by rintro ⟨⟩)]
        exact rs.2.1
      · rw [k0]
        exact lsz_cg l5 ((x2.2.2.1 _ (by rintro ⟨⟩)).trans (f1 _ (by rintro ⟨⟩) (by rintro ⟨⟩)).2.1) (by rw [hc4 _ (by rintro ⟨⟩) (by rintro ⟨⟩) (by rintro ⟨⟩) (by rintro ⟨⟩) (by rintro ⟨⟩)]) (hc4 _ (by rintro ⟨⟩) (by rintro ⟨⟩) (by rintro ⟨⟩) (by rintro ⟨⟩) (by rintro ⟨⟩))
      · rw [k1]
        exact lsz_cg s2 rfl (by rw [f4 _ (by rintro ⟨⟩), f3 _ (by rintro ⟨⟩) (by rintro ⟨⟩)]) (by rw [f4 _ (by rintro ⟨⟩), f3 _ (by rintro ⟨⟩) (by rintro ⟨⟩)])
      · intro q _
        rw [hc4 _ (by rintro ⟨⟩) (by rintro ⟨⟩) (by rintro ⟨⟩) (by rintro ⟨⟩) (by rintro ⟨⟩)]
      · intro q hq
        rw [f4 _ (by rintro ⟨⟩), f3 _ (by rintro ⟨⟩) (by rintro ⟨⟩), h24, hc1 _ (by rintro ⟨⟩) (by rintro ⟨⟩)]
        unfold upd
        rw [if_neg (by omega)]
      · intro j hj
        exact ⟨hc4 _ (by rintro ⟨⟩) (by rintro ⟨⟩; omega) (by rintro ⟨⟩) (by rintro ⟨⟩) (by rintro ⟨⟩), hc4 _ (by rintro ⟨⟩) (by rintro ⟨⟩) (by rintro ⟨⟩; omega) (by rintro ⟨⟩) (by rintro ⟨⟩)⟩
      · rw [v46]
        exact md_inN (by omega) (by decide)
      · intro h
        exact absurd (v44.symm.trans h) (by decide)
      · intro h
        exact absurd (v44.symm.trans h) (by decide)
      · intro _
        rw [v46, nI_clamp (by omega), eK, f4 _ (by rintro ⟨⟩), f3 _ (by rintro ⟨⟩) (by rintro ⟨⟩), f4 (9, t, 2 * K + 1) (by rintro ⟨⟩), h24]
        refine ⟨pk_us, RC_cg rc ?_ ?_⟩
        · rw [ff2]
        · rw [ff2]
      · intro κ hκ
        rw [k0, k1]
        by_cases eκ : κ = 2 * K + 1
        · exact Or.inr ⟨by omega, by omega⟩
        · have n1 : ((8, t, κ) : xR) ≠ (8, t, 2 * K + 1) := by rintro ⟨⟩; exact eκ rfl
          have n2 : ((9, t, κ) : xR) ≠ (9, t, 2 * K + 1) := by rintro ⟨⟩; exact eκ rfl
          have := N κ (hκ.imp (fun h => ((f1 _ n1 (by rintro ⟨⟩)).2.2 (show 8 ≠ 0 by decide)).mp ((x2.2.1 _ (show 8 ≠ 0 by decide) (by rintro ⟨⟩)).mp h)) (fun h => ((f1 _ (by rintro ⟨⟩) n2).2.2 (show 9 ≠ 0 by decide)).mp ((x2.2.1 _ (show 9 ≠ 0 by decide) (by rintro ⟨⟩)).mp h)))
          omega
  · subst b0
    rw [if_pos rfl]
    exact ⟨0, h2, P2, c3, run0 hv, w3, F3', Or.inl ⟨rfl, rfl, e38⟩⟩
  · subst b0
    rw [if_pos rfl]
    obtain ⟨c4, q4, r4, w4, f4⟩ := c_semi X2 w3 l14' r3
    have f0 := cv_fin r3 ecv
    have f38 := fin_38 r3 f0
    rw [f0] at q4
    refine ⟨0, h2, P2, c4, run1 hv 0 c4 (Or.inl rfl) q4, w4, FR_w (FR_t F3' (FR_c (fun r' hr => f4 r' (niT hr iT14)))) (Nat.le_refl _) (Nat.le_refl _), Or.inl ⟨rfl, rfl, ?_⟩⟩
    rw [r4.2.2.1, f38.2, e38]
end FB
