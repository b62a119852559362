section SM
variable {g : ez_G} {h h0 h2 : ez_H} {P P1 : xP} {c c1 : xR → Nat → Int32} {z z' y : md_S} {t n κ : Nat}
def NL (P : xP) (z : md_S) (t n : Nat) : Prop := ∀ κ, lv P (8, t, κ) ∨ lv P (9, t, κ) → κ % 2 = 0 ∧ κ / 2 < ck z 0 t n ∨ κ % 2 = 1 ∧ κ / 2 < ck z 1 t n
/-- what reading a statement gives -/
def stR (t n : Nat) (h0 : ez_H) (P : xP) (c : xR → Nat → Int32) (R : md_S × Int32) (v : Int32) (h1 : ez_H) (P1 : xP) (c1 : xR → Nat → Int32) : Prop := xw h1 P1 c1 ∧ FR t h0 P c h1 P1 c1 3 405 ∧ ((R.2 = 0 ∧ v = 0 ∧ c1 (14, 0, 0) 2 = R.1.1 38) ∨ (R.2 = 1 ∧ v = 1 ∧ RD c1 R.1 ∧ RS P1 c1 R.1 t (n + 1) ∧ NL P1 R.1 t (n + 1)))
theorem fin_38 (r : RD c y) (h : (pm_fin y).2 = 0) : (pm_fin y).1.1 38 = nI (zs (pm_fin y).1) ∧ zs (pm_fin y).1 = zs y := by
  have e : (pm_fin y).1 = pm_bl y := by
    unfold pm_fin at h ⊢
    by_cases e1 : (pm_bl y).1 38 = (pm_bl y).1 37
    · rw [if_pos e1]
    · rw [if_neg e1] at h ⊢
      by_cases e2 : (pm_bl y).2 35 ((pm_bl y).1 38).toNatClampNeg = 59
      · rw [if_pos e2] at h
        exact absurd (show (1 : Int32) = 0 from h) (by decide)
      · rw [if_neg e2]
  have e3 : zs (pm_bl y) = zs y := RD_z r rfl rfl rfl
  rw [e, e3]
  exact ⟨rfl, rfl⟩
theorem tk_38 {w : Int64} (r : RD c y) (h : (pm_tk y w).2 = 0) : (pm_tk y w).1.1 38 = nI (zs (pm_tk y w).1) := by
  have e : (pm_tk y w).1 = pm_wd y := by
    unfold pm_tk at h ⊢
    by_cases e1 : pm_wv y = w
    · rw [if_pos e1] at h
      exact absurd (show (1 : Int32) = 0 from h) (by decide)
    · rw [if_neg e1]
  rw [e, wd_zs r]
  rfl
theorem fin_01 : (pm_fin y).2 = 0 ∨ (pm_fin y).2 = 1 := by
  unfold pm_fin
  repeat' split
  all_goals first | exact Or.inl rfl | exact Or.inr rfl
theorem tk_01 {w : Int64} : (pm_tk y w).2 = 0 ∨ (pm_tk y w).2 = 1 := by
  unfold pm_tk
  split
  · exact Or.inr rfl
  · exact Or.inl rfl
/-- a statement more -/
theorem RS_ext (a : kf z z' (16 * t + n)) (r : RS P c z t n) (h2 : c1 (7, t, 0) 2 = pv z' 2 t (n + 1)) (h3 : c1 (7, t, 0) 3 = pv z' 3 t (n + 1)) (l5 : lsz P1 c1 5 t (ck z' 0 t (n + 1))) (l6 : lsz P1 c1 6 t (ck z' 1 t (n + 1))) (h45 : ∀ q, q < ck z 0 t n → c1 (4, 5, t) q = c (4, 5, t) q) (h46 : ∀ q, q < ck z 1 t n → c1 (4, 6, t) q = c (4, 6, t) q) (h8 : ∀ j, j % 2 = 0 ∧ j / 2 < ck z 0 t n ∨ j % 2 = 1 ∧ j / 2 < ck z 1 t n → c1 (8, t, j) = c (8, t, j) ∧ c1 (9, t, j) = c (9, t, j)) (hm : md_in (z'.2 46 (16 * t + n)) 4 = true) (hk3 : z'.2 44 (16 * t + n) = 3 → z'.2 45 (16 * t + n) = 0 ∨ z'.2 45 (16 * t + n) = 1) (hk0 : z'.2 44 (16 * t + n) = 0 → c1 (4, 5, t) (ck z 0 t n) = nI (ck z 0 t n) ∧ c1 (8, t, 2 * ck z 0 t n) 0 = z'.2 45 (16 * t + n) ∧ md_in (z'.2 45 (16 * t + n)) 1000 = true ∧ RC (c1 (9, t, 2 * ck z 0 t n)) z' (16 * t + n) (z'.2 46 (16 * t + n)).toNatClampNeg) (hk1 : z'.2 44 (16 * t + n) = 1 → c1 (4, 6, t) (ck z 1 t n) = nI (ck z 1 t n) ∧ RC (c1 (9, t, 2 * ck z 1 t n + 1)) z' (16 * t + n) (z'.2 46 (16 * t + n)).toNatClampNeg) : RS P1 c1 z' t (n + 1) := by
  obtain ⟨-, -, -, -, u5⟩ := r
  refine ⟨h2, h3, l5, l6, fun s hs => ?_⟩
  by_cases es : s = n
  · subst es
    rw [ck_k a s (Nat.le_refl _), ck_k a s (Nat.le_refl _)]
    exact ⟨⟨hm, hk3⟩, hk0, hk1⟩
  · obtain ⟨⟨v0, v0'⟩, v1, v2⟩ := u5 s (by omega)
    have hmm : (z.2 46 (16 * t + s)).toNatClampNeg ≤ 3 := by have := (md_inE v0).2; omega
    rw [a.2.2.1 44 (16 * t + s) (by omega) (by omega) (by omega), a.2.2.1 45 (16 * t + s) (by omega) (by omega) (by omega), a.2.2.1 46 (16 * t + s) (by omega) (by omega) (by omega), ck_k a s (by omega), ck_k a s (by omega)]
    refine ⟨⟨v0, v0'⟩, fun hk => ?_, fun hk => ?_⟩
    · obtain ⟨x1, x2, x3, x4⟩ := v1 hk
      have hlt : ck z 0 t s < ck z 0 t n := by
        have := ck_mono (z := z) (w := 0) (t := t) (s := s + 1) (n - (s + 1))
        rw [show s + 1 + (n - (s + 1)) = n by omega, ck, if_pos hk] at this
        omega
      obtain ⟨y1, y2⟩ := h8 (2 * ck z 0 t s) (Or.inl ⟨by omega, by omega⟩)
      rw [h45 _ hlt, y1, y2]
      exact ⟨x1, x2, x3, RC_k a (by omega) hmm x4⟩
    · obtain ⟨x1, x2⟩ := v2 hk
      have hlt : ck z 1 t s < ck z 1 t n := by
        have := ck_mono (z := z) (w := 1) (t := t) (s := s + 1) (n - (s + 1))
        rw [show s + 1 + (n - (s + 1)) = n by omega, ck, if_pos hk] at this
        omega
      obtain ⟨y1, y2⟩ := h8 (2 * ck z 1 t s + 1) (Or.inr ⟨by omega, by omega⟩)
      rw [h46 _ hlt, y2]
      exact ⟨x1, RC_k a (by omega) hmm x2⟩
/-- a statement of kind 2 or 3 is added: the lists stay -/
theorem RS_23 (a : kf z z' (16 * t + n)) (r : RS P c z t n) (N : NL P z t n) (hf : ∀ r', r' ≠ (14, 0, 0) → r' ≠ (7, t, 0) → c1 r' = c r') (h2 : c1 (7, t, 0) 2 = pv z' 2 t (n + 1)) (h3 : c1 (7, t, 0) 3 = pv z' 3 t (n + 1)) (hk : z'.2 44 (16 * t + n) = 2 ∨ z'.2 44 (16 * t + n) = 3) (hm : z'.2 46 (16 * t + n) = 0) (hk3 : z'.2 44 (16 * t + n) = 3 → z'.2 45 (16 * t + n) = 0 ∨ z'.2 45 (16 * t + n) = 1) : RS P c1 z' t (n + 1) ∧ NL P z' t (n + 1) := by
  have n0 : ¬ z'.2 44 (16 * t + n) = 0 := by rcases hk with e | e <;> rw [e] <;> decide
  have n1 : ¬ z'.2 44 (16 * t + n) = 1 := by rcases hk with e | e <;> rw [e] <;> decide
  have k0 : ck z' 0 t (n + 1) = ck z 0 t n := by rw [ck, if_neg n0, ck_k a n (Nat.le_refl _)]
  have k1 : ck z' 1 t (n + 1) = ck z 1 t n := by rw [ck, if_neg n1, ck_k a n (Nat.le_refl _)]
  refine ⟨RS_ext a r h2 h3 ?_ ?_ (fun q _ => by rw [hf _ (by rintro ⟨⟩) (by rintro ⟨⟩)]) (fun q _ => by rw [hf _ (by rintro ⟨⟩) (by rintro ⟨⟩)]) (fun j _ => ⟨hf _ (by rintro ⟨⟩) (by rintro ⟨⟩), hf _ (by rintro ⟨⟩) (by rintro ⟨⟩)⟩) (by rw [hm]; decide) hk3 (fun h => absurd h n0) (fun h => absurd h n1), ?_⟩
  · rw [k0]; exact lsz_cg r.2.2.1 rfl (by rw [hf _ (by rintro ⟨⟩) (by rintro ⟨⟩)]) (hf _ (by rintro ⟨⟩) (by rintro ⟨⟩))
  · rw [k1]; exact lsz_cg r.2.2.2.1 rfl (by rw [hf _ (by rintro ⟨⟩) (by rintro ⟨⟩)]) (hf _ (by rintro ⟨⟩) (by rintro ⟨⟩))
  · intro κ hκ
    rw [k0, k1]
    exact N κ hκ
theorem c_term (X : xst g P h0) (w : xw h0 P c) (l14 : lv P (14, 0, 0)) (l7 : lv P (7, t, 0)) (r : RD c y) (a : kf z y (16 * t + n)) (rs : RS P c z t n) (N : NL P z t n) (h44 : y.2 44 (16 * t + n) = 2) (h46 : y.2 46 (16 * t + n) = 0) : ∃ v c1, ez_ev g 22 [.ref (P.2.2.1 (14, 0, 0)), .ref (P.2.2.1 (7, t, 0))] (xh h0 P c) = some (some (.int v), xh h0 P c1) ∧ stR t n h0 P c (pm_s2 y (16 * t + n)) v h0 P c1 := by
  have ok := w.1
  unfold pm_s2
  rcases c_num (g := g) w l14 r with ⟨t0, c2, q2, r2, w2, f2⟩ | ⟨t1, b1, c2, q2, r2, w2, f2⟩
  · rw [if_pos t0]
    obtain ⟨u1, u2⟩ := tn_38 r t0
    refine ⟨0, xu c2 (7, t, 0) 2 (-1), ?_, xw_7 w2, FR_w (FR_c7 (fun r' hr => by rw [xu_n (nin hr in7), f2 _ (nin hr in14)]) (fun s u _ => by rw [xu_t u, f2 _ (by rintro ⟨⟩)])) (by decide) (by decide), Or.inl ⟨rfl, rfl, ?_⟩⟩
    · rw [e22]
      simp only [s22_0, s22_0n, s22_1, s22_2, s22_5, s22_8, s22_8n, s22_9, s22_12, s22_13, s22_16, s22_17, s22_19, s22_22, s22_25, s22_26, s22_29, s22_30, zl_n, zl_i, zl_r, zl_0, z10, z01, ez_bd_s, ez_bd_n, eq_self, true_or, or_true, if_true, if_false, zb_eq, zb_eq1, zb_em, zb_em2, ite_not, List.append_nil, List.cons_append, List.nil_append, reduceCtorEq, not_true_eq_false, not_false_eq_true, xo1, xa1, xf1_0, xv1_0, xp1_0, xf1_1, xv1_1, xf1_2, xv1_2, xp1_2, xf1_3, xv1_3, xf1_4, xv1_4, xf1_5, xv1_5, xp1_5, xf1_6, xv1_6, xp1_6, xf1_7, xv1_7, xf1_8, xv1_8, xf1_9, xv1_9, xf1_10, xv1_10, xf1_11, xv1_11, xf1_12, xv1_12, xf1_13, xv1_13, xf1_14, xv1_14, xp1_14, xo3, xa3, xf3_0, xv3_0, xp3_0, xf3_1, xv3_1, xf3_2, xv3_2, xp3_2, xo5, xa5, xf5_0, xv5_0, xp5_0, xf5_1, xv5_1, xp5_1, xf5_2, xv5_2, xp5_2, xf5_3, xv5_3, xp5_3, xf5_4, xv5_4, xp5_4, xf5_5, xv5_5, xp5_5, xf5_6, xv5_6, xp5_6, xf5_7, xv5_7, xp5_7, xf5_8, xv5_8, xp5_8, xf5_9, xv5_9, xp5_9, xf5_10, xv5_10, xp5_10, xf5_11, xv5_11, xp5_11, xf5_12, xv5_12, xp5_12, xo6, xa6, xf6_0, xv6_0, xp6_0, xf6_1, xv6_1, xp6_1, xf6_2, xv6_2, xp6_2, xo7, xa7, xf7_0, xv7_0, xp7_0, xf7_1, xv7_1, xp7_1, xf7_2, xv7_2, xp7_2, xf7_3, xv7_3, xp7_3, xf7_4, xv7_4, xf7_5, xv7_5, xo8, xa8, xf8_0, xv8_0, xp8_0, xf8_1, xv8_1, xo10, xa10, xf10_0, xv10_0, xp10_0, xf10_1, xv10_1, xp10_1, xf10_2, xv10_2, xp10_2, xf10_3, xv10_3, xf10_4, xv10_4, xo12, xa12, xf12_0, xv12_0, xf12_1, xv12_1, xp12_1, xf12_2, xv12_2, xp12_2, xf12_3, xv12_3, xp12_3, xf12_4, xv12_4, xo13, xa13, xf13_0, xv13_0, xf13_1, xv13_1, xp13_1, xo14, xa14, xf14_0, xv14_0, xf14_1, xv14_1, xp14_1, xf14_2, xv14_2, xp14_2, xf14_3, xv14_3, xp14_3, ya2_1, yw2_1, yv2_1, yp2_1, yn2_1, yl2_1, ya2_3, yw2_3, yv2_3, yp2_3, yn2_3, yl2_3, ya2_10, yw2_10, yv2_10, yp2_10, yn2_10, yl2_10, ya2_11, yw2_11, yv2_11, yp2_11, yn2_11, yl2_11, ya9, yw9, yv9, yp9, yn9, yl9, ya11, yw11, yv11, yp11, yn11, yl11, ya15, yw15, yv15, yp15, yn15, yl15, ya16, yw16, yv16, yp16, yn16, yl16, ok10, ok11, ok1i, xu_s, xu_n, ne_eq, Prod.mk.injEq, Nat.reduceEqDiff, false_and, and_false, not_false_eq_true, l14, l7, ok, q2]
    · show _ = (pm_tn y).1.1 38
      rw [xu_n (by rintro ⟨⟩), r2.2.2.1, u1, u2]
  · rw [if_neg (by rw [t1]; decide)]
    have nm : ¬ (pm_tn y).1.1 50 = -1 := md_inm1 b1 (by decide)
    have r3 : RD (xu c2 (7, t, 0) 2 ((pm_tn y).1.1 50)) (md_sA (pm_tn y).1 45 (16 * t + n) ((pm_tn y).1.1 50)) := RD_c (RD_cg r2 rfl rfl (md_A2n (by decide))) (xu_n (by rintro ⟨⟩)) (xu_n (by rintro ⟨⟩))
    obtain ⟨c3, q3, r4, w4, f4⟩ := c_semi X (xw_7 w2) l14 r3
    have e44 : (pm_fin (md_sA (pm_tn y).1 45 (16 * t + n) ((pm_tn y).1.1 50))).1.2 = (md_sA (pm_tn y).1 45 (16 * t + n) ((pm_tn y).1.1 50)).2 := fin_2
    refine ⟨(pm_fin (md_sA (pm_tn y).1 45 (16 * t + n) ((pm_tn y).1.1 50))).2, c3, ?_, w4, FR_w (FR_c7 (fun r' hr => by rw [f4 _ (nin hr in14), xu_n (nin hr in7), f2 _ (nin hr in14)]) (fun s u _ => by rw [f4 _ (by rintro ⟨⟩), xu_t u, f2 _ (by rintro ⟨⟩)])) (by decide) (by decide), ?_⟩
    · rw [e22]
      rcases fin_01 (y := md_sA (pm_tn y).1 45 (16 * t + n) ((pm_tn y).1.1 50)) with h5 | h5
      · rw [h5] at q3 ⊢
        simp only [s22_0, s22_0n, s22_1, s22_2, s22_5, s22_8, s22_8n, s22_9, s22_12, s22_13, s22_16, s22_17, s22_19, s22_22, s22_25, s22_26, s22_29, s22_30, zl_n, zl_i, zl_r, zl_0, z10, z01, ez_bd_s, ez_bd_n, eq_self, true_or, or_true, if_true, if_false, zb_eq, zb_eq1, zb_em, zb_em2, ite_not, List.append_nil, List.cons_append, List.nil_append, reduceCtorEq, not_true_eq_false, not_false_eq_true, xo1, xa1, xf1_0, xv1_0, xp1_0, xf1_1, xv1_1, xf1_2, xv1_2, xp1_2, xf1_3, xv1_3, xf1_4, xv1_4, xf1_5, xv1_5, xp1_5, xf1_6, xv1_6, xp1_6, xf1_7, xv1_7, xf1_8, xv1_8, xf1_9, xv1_9, xf1_10, xv1_10, xf1_11, xv1_11, xf1_12, xv1_12, xf1_13, xv1_13, xf1_14, xv1_14, xp1_14, xo3, xa3, xf3_0, xv3_0, xp3_0, xf3_1, xv3_1, xf3_2, xv3_2, xp3_2, xo5, xa5, xf5_0, xv5_0, xp5_0, xf5_1, xv5_1, xp5_1, xf5_2, xv5_2, xp5_2, xf5_3, xv5_3, xp5_3, xf5_4, xv5_4, xp5_4, xf5_5, xv5_5, xp5_5, xf5_6, xv5_6, xp5_6, xf5_7, xv5_7, xp5_7, xf5_8, xv5_8, xp5_8, xf5_9, xv5_9, xp5_9, xf5_10, xv5_10, xp5_10, xf5_11, xv5_11, xp5_11, xf5_12, xv5_12, xp5_12, xo6, xa6, xf6_0, xv6_0, xp6_0, xf6_1, xv6_1, xp6_1, xf6_2, xv6_2, xp6_2, xo7, xa7, xf7_0, xv7_0, xp7_0, xf7_1, xv7_1, xp7_1, xf7_2, xv7_2, xp7_2, xf7_3, xv7_3, xp7_3, xf7_4, xv7_4, xf7_5, xv7_5, xo8, xa8, xf8_0, xv8_0, xp8_0, xf8_1, xv8_1, xo10, xa10, xf10_0, xv10_0, xp10_0, xf10_1, xv10_1, xp10_1, xf10_2, xv10_2, xp10_2, xf10_3, xv10_3, xf10_4, xv10_4, xo12, xa12, xf12_0, xv12_0, xf12_1, xv12_1, xp12_1, xf12_2, xv12_2, xp12_2, xf12_3, xv12_3, xp12_3, xf12_4, xv12_4, xo13, xa13, xf13_0, xv13_0, xf13_1, xv13_1, xp13_1, xo14, xa14, xf14_0, xv14_0, xf14_1, xv14_1, xp14_1, xf14_2, xv14_2, xp14_2, xf14_3, xv14_3, xp14_3, ya2_1, yw2_1, yv2_1, yp2_1, yn2_1, yl2_1, ya2_3, yw2_3, yv2_3, yp2_3, yn2_3, yl2_3, ya2_10, yw2_10, yv2_10, yp2_10, yn2_10, yl2_10, ya2_11, yw2_11, yv2_11, yp2_11, yn2_11, yl2_11, ya9, yw9, yv9, yp9, yn9, yl9, ya11, yw11, yv11, yp11, yn11, yl11, ya15, yw15, yv15, yp15, yn15, yl15, ya16, yw16, yv16, yp16, yn16, yl16, ok10, ok11, ok1i, xu_s, xu_n, ne_eq, Prod.mk.injEq, Nat.reduceEqDiff, false_and, and_false, not_false_eq_true, l14, l7, ok, q2, nm, q3]
      · rw [h5] at q3 ⊢
        simp only [s22_0, s22_0n, s22_1, s22_2, s22_5, s22_8, s22_8n, s22_9, s22_12, s22_13, s22_16, s22_17, s22_19, s22_22, s22_25, s22_26, s22_29, s22_30, zl_n, zl_i, zl_r, zl_0, z10, z01, ez_bd_s, ez_bd_n, eq_self, true_or, or_true, if_true, if_false, zb_eq, zb_eq1, zb_em, zb_em2, ite_not, List.append_nil, List.cons_append, List.nil_append, reduceCtorEq, not_true_eq_false, not_false_eq_true, xo1, xa1, xf1_0, xv1_0, xp1_0, xf1_1, xv1_1, xf1_2, xv1_2, xp1_2, xf1_3, xv1_3, xf1_4, xv1_4, xf1_5, xv1_5, xp1_5, xf1_6, xv1_6, xp1_6, xf1_7, xv1_7, xf1_8, xv1_8, xf1_9, xv1_9, xf1_10, xv1_10, xf1_11, xv1_11, xf1_12, xv1_12, xf1_13, xv1_13, xf1_14, xv1_14, xp1_14, xo3, xa3, xf3_0, xv3_0, xp3_0, xf3_1, xv3_1, xf3_2, xv3_2, xp3_2, xo5, xa5, xf5_0, xv5_0, xp5_0, xf5_1, xv5_1, xp5_1, xf5_2, xv5_2, xp5_2, xf5_3, xv5_3, xp5_3, xf5_4, xv5_4, xp5_4, xf5_5, xv5_5, xp5_5, xf5_6, xv5_6, xp5_6, xf5_7, xv5_7, xp5_7, xf5_8, xv5_8, xp5_8, xf5_9, xv5_9, xp5_9, xf5_10, xv5_10, xp5_10, xf5_11, xv5_11, xp5_11, xf5_12, xv5_12, xp5_12, xo6, xa6, xf6_0, xv6_0, xp6_0, xf6_1, xv6_1, xp6_1, xf6_2, xv6_2, xp6_2, xo7, xa7, xf7_0, xv7_0, xp7_0, xf7_1, xv7_1, xp7_1, xf7_2, xv7_2, xp7_2, xf7_3, xv7_3, xp7_3, xf7_4, xv7_4, xf7_5, xv7_5, xo8, xa8, xf8_0, xv8_0, xp8_0, xf8_1, xv8_1, xo10, xa10, xf10_0, xv10_0, xp10_0, xf10_1, xv10_1, xp10_1, xf10_2, xv10_2, xp10_2, xf10_3, xv10_3, xf10_4, xv10_4, xo12, xa12, xf12_0, xv12_0, xf12_1, xv12_1, xp12_1, xf12_2, xv12_2, xp12_2, xf12_3, xv12_3, xp12_3, xf12_4, xv12_4, xo13, xa13, xf13_0, xv13_0, xf13_1, xv13_1, xp13_1, xo14, xa14, xf14_0, xv14_0, xf14_1, xv14_1, xp14_1, xf14_2, xv14_2, xp14_2, xf14_3, xv14_3, xp14_3, ya2_1, yw2_1, yv2_1, yp2_1, yn2_1, yl2_1, ya2_3, yw2_3, yv2_3, yp2_3, yn2_3, yl2_3, ya2_10, yw2_10, yv2_10, yp2_10, yn2_10, yl2_10, ya2_11, yw2_11, yv2_11, yp2_11, yn2_11, yl2_11, ya9, yw9, yv9, yp9, yn9, yl9, ya11, yw11, yv11, yp11, yn11, yl11, ya15, yw15, yv15, yp15, yn15, yl15, ya16, yw16, yv16, yp16, yn16, yl16, ok10, ok11, ok1i, xu_s, xu_n, ne_eq, Prod.mk.injEq, Nat.reduceEqDiff, false_and, and_false, not_false_eq_true, l14, l7, ok, q2, nm, q3]
    · rcases fin_01 (y := md_sA (pm_tn y).1 45 (16 * t + n) ((pm_tn y).1.1 50)) with h5 | h5
      · refine Or.inl ⟨h5, h5, ?_⟩
        rw [r4.2.2.1, (fin_38 r3 h5).1]
      · have ka : kf z (pm_fin (md_sA (pm_tn y).1 45 (16 * t + n) ((pm_tn y).1.1 50))).1 (16 * t + n) := kf_t a (kf_t kf_tn (kf_t (kf_A (by omega)) kf_fin))
        have g44 : (pm_fin (md_sA (pm_tn y).1 45 (16 * t + n) ((pm_tn y).1.1 50))).1.2 44 (16 * t + n) = 2 := by rw [e44, md_A2n (by decide), tn_2]; exact h44
        have g45 : (pm_fin (md_sA (pm_tn y).1 45 (16 * t + n) ((pm_tn y).1.1 50))).1.2 45 (16 * t + n) = (pm_tn y).1.1 50 := by rw [e44, md_A2, if_pos rfl, pk_us]
        have g46 : (pm_fin (md_sA (pm_tn y).1 45 (16 * t + n) ((pm_tn y).1.1 50))).1.2 46 (16 * t + n) = 0 := by rw [e44, md_A2n (by decide), tn_2]; exact h46
        obtain ⟨R1, R2⟩ := RS_23 (c1 := c3) ka rs N (fun r' u1 u2 => by rw [f4 _ u1, xu_n u2, f2 _ u1]) (by
          rw [pv, if_pos g44, g45, f4 _ (by rintro ⟨⟩), xu_s, if_pos rfl]) (by
          rw [pv, if_neg (by rw [g44]; decide), pv_k ka n (Nat.le_refl _), f4 _ (by rintro ⟨⟩), xu_t (by decide), f2 _ (by rintro ⟨⟩)]
          exact rs.2.1) (Or.inl g44) g46 (fun h => absurd (g44.symm.trans h) (by decide))
        exact Or.inr ⟨h5, h5, r4, R1, R2⟩
end SM