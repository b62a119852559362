section CO
variable {g : ez_G} {h h0 h2 : ez_H} {P P2 : xP} {c c' c2 : xR → Nat → Int32} {z Z y : md_S} {t κ k : Nat}
theorem RD_z {z' : md_S} (r : RD c z) (z37 : z'.1 37 = z.1 37) (z38 : z'.1 38 = nI (zs z)) (z35 : z'.2 35 = z.2 35) : zs z' = zs z := by
  have r' := RD_st r z37 z38 z35
  obtain ⟨N, s, hN, hs, eN, -, es, -⟩ := RD_f r
  obtain ⟨N', s', hN', hs', eN', -, es', -⟩ := RD_f r'
  have h1 := r.2.2.1
  have h2 := r'.2.2.1
  rw [h1, es, es'] at h2
  rw [es, es']
  exact ((nI_eq (by omega) (by omega)).mp h2).symm
theorem RD_cg {z' : md_S} (r : RD c z) (z37 : z'.1 37 = z.1 37) (z38 : z'.1 38 = z.1 38) (z35 : z'.2 35 = z.2 35) : RD c z' := by
  have e : zs z' = zs z := by unfold zs; rw [z37, z38, z35]
  obtain ⟨p, r1, r2, r3, r4⟩ := r
  unfold RD md_p
  rw [e, z37, z38, z35]
  exact ⟨p, r1, r2, r3, r4⟩
theorem RD_c (r : RD c z) (h14 : c' (14, 0, 0) = c (14, 0, 0)) (h16 : c' (16, 0, 0) = c (16, 0, 0)) : RD c' z := by
  unfold RD at *
  rw [h14, h16]
  exact r
theorem wd_zs (r : RD c z) : zs (pm_wd z) = zs z := RD_z r rfl rfl rfl
theorem wd_ze (r : RD c z) : ze (pm_wd z) = ze z := by
  unfold ze
  rw [wd_zs r]
  rfl
theorem wd_wv (r : RD c z) : pm_wv (pm_wd z) = pm_wv z := by
  unfold pm_wv
  rw [wd_zs r, wd_ze r]
  rfl
theorem wd_wd (r : RD c z) : pm_wd (pm_wd z) = pm_wd z := by
  show md_sI (md_sI (pm_wd z) 38 (nI (zs (pm_wd z)))) 49 (nI (ze (pm_wd z))) = pm_wd z
  rw [wd_zs r, wd_ze r, md_sIs (z := pm_wd z) (s := 38) (v := nI (zs z)) rfl]
  exact md_sIs rfl
theorem RD_wd (r : RD c z) : RD c (pm_wd z) := RD_st r rfl rfl rfl
theorem cW1 : (1936683636 : Int64) = lN (wN (wb 1) (wl 1)) := by decide +kernel
theorem cW2 : (7168366 : Int64) = lN (wN (wb 2) (wl 2)) := by decide +kernel
theorem cW3 : (495672980069 : Int64) = lN (wN (wb 3) (wl 3)) := by decide +kernel
theorem cW0 : (1685419129 : Int64) = lN (wN (wb 0) (wl 0)) := by decide +kernel
theorem cW4 : (26995 : Int64) = lN (wN (wb 4) (wl 4)) := by decide +kernel
theorem cW6 : (112628846455140 : Int64) = lN (wN (wb 6) (wl 6)) := by decide +kernel
theorem cW7 : (1952805485 : Int64) = lN (wN (wb 7) (wl 7)) := by decide +kernel
theorem cW8 : (1819243380 : Int64) = lN (wN (wb 8) (wl 8)) := by decide +kernel
theorem cW9 : (1701733491 : Int64) = lN (wN (wb 9) (wl 9)) := by decide +kernel
theorem cW10 : (126943688025203 : Int64) = lN (wN (wb 10) (wl 10)) := by decide +kernel
/-- what a clause asks more -/
def askv (a v : Int32) : Int32 := if a = -1 then v else if a = v then v else -2
theorem c_ask {m : Nat} {mk v : Int32} (ok : xok P) (hm : mk = 0 ∧ m = 0 ∨ mk = 1 ∧ m = 1 ∨ mk = 2 ∧ m = 2) (l8 : lv P (8, t, κ)) (l9 : lv P (9, t, κ)) : ez_ev g 1 [.ref (P.2.2.1 (8, t, κ)), .int mk, .int v] (xh h0 P c) = some (none, xh h0 P (xu c (9, t, κ) m (askv (c (9, t, κ) m) v))) := by
  have hin : (0 ≤ mk ∧ mk ≤ 2) = True := eq_true (by rcases hm with ⟨rfl, -⟩ | ⟨rfl, -⟩ | ⟨rfl, -⟩ <;> decide)
  have p3 : md_in mk 3 = true := by rcases hm with ⟨rfl, -⟩ | ⟨rfl, -⟩ | ⟨rfl, -⟩ <;> decide
  have cm : mk.toNatClampNeg = m := by rcases hm with ⟨rfl, rfl⟩ | ⟨rfl, rfl⟩ | ⟨rfl, rfl⟩ <;> decide
  rw [e1]
  unfold askv
  by_cases e1 : c (9, t, κ) m = -1
  · rw [if_pos e1]
    simp only [s1_0, s1_1, s1_2, s1_3, s1_6, s1_9, s1_10, s1_13, s1_14, s1_15, s1_16, s1_19, s1_20, s1_23, s1_24, s1_25, s1_26, s1_29, s1_30, s1_33, s1_34, s1_35, s1_36, s1_39, s1_40, s1_41, s1_44, s1_45, s1_48, s1_50, s1_51, zl_n, zl_i, zl_r, zl_0, z10, z01, ez_bd_s, ez_bd_n, eq_self, true_or, or_true, if_true, if_false, zb_eq, zb_eq1, zb_em, zb_em2, ite_not, List.append_nil, List.cons_append, List.nil_append, reduceCtorEq, not_true_eq_false, not_false_eq_true, xo1, xa1, xf1_0, xv1_0, xp1_0, xf1_1, xv1_1, xf1_2, xv1_2, xp1_2, xf1_3, xv1_3, xf1_4, xv1_4, xf1_5, xv1_5, xp1_5, xf1_6, xv1_6, xp1_6, xf1_7, xv1_7, xf1_8, xv1_8, xf1_9, xv1_9, xf1_10, xv1_10, xf1_11, xv1_11, xf1_12, xv1_12, xf1_13, xv1_13, xf1_14, xv1_14, xp1_14, xo3, xa3, xf3_0, xv3_0, xp3_0, xf3_1, xv3_1, xf3_2, xv3_2, xp3_2, xo5, xa5, xf5_0, xv5_0, xp5_0, xf5_1, xv5_1, xp5_1, xf5_2, xv5_2, xp5_2, xf5_3, xv5_3, xp5_3, xf5_4, xv5_4, xp5_4, xf5_5, xv5_5, xp5_5, xf5_6, xv5_6, xp5_6, xf5_7, xv5_7, xp5_7, xf5_8, xv5_8, xp5_8, xf5_9, xv5_9, xp5_9, xf5_10, xv5_10, xp5_10, xf5_11, xv5_11, xp5_11, xf5_12, xv5_12, xp5_12, xo6, xa6, xf6_0, xv6_0, xp6_0, xf6_1, xv6_1, xp6_1, xf6_2, xv6_2, xp6_2, xo7, xa7, xf7_0, xv7_0, xp7_0, xf7_1, xv7_1, xp7_1, xf7_2, xv7_2, xp7_2, xf7_3, xv7_3, xp7_3, xf7_4, xv7_4, xf7_5, xv7_5, xo8, xa8, xf8_0, xv8_0, xp8_0, xf8_1, xv8_1, xo10, xa10, xf10_0, xv10_0, xp10_0, xf10_1, xv10_1, xp10_1, xf10_2, xv10_2, xp10_2, xf10_3, xv10_3, xf10_4, xv10_4, xo12, xa12, xf12_0, xv12_0, xf12_1, xv12_1, xp12_1, xf12_2, xv12_2, xp12_2, xf12_3, xv12_3, xp12_3, xf12_4, xv12_4, xo13, xa13, xf13_0, xv13_0, xf13_1, xv13_1, xp13_1, xo14, xa14, xf14_0, xv14_0, xf14_1, xv14_1, xp14_1, xf14_2, xv14_2, xp14_2, xf14_3, xv14_3, xp14_3, ya2_1, yw2_1, yv2_1, yp2_1, yn2_1, yl2_1, ya2_3, yw2_3, yv2_3, yp2_3, yn2_3, yl2_3, ya2_10, yw2_10, yv2_10, yp2_10, yn2_10, yl2_10, ya2_11, yw2_11, yv2_11, yp2_11, yn2_11, yl2_11, ya9, yw9, yv9, yp9, yn9, yl9, ya11, yw11, yv11, yp11, yn11, yl11, ya15, yw15, yv15, yp15, yn15, yl15, ya16, yw16, yv16, yp16, yn16, yl16, ok10, ok11, ok1i, xu_s, xu_n, ne_eq, Prod.mk.injEq, Nat.reduceEqDiff, false_and, and_false, not_false_eq_true, l8, l9, ok, c_within, hin, p3, cm, e1]
  · rw [if_neg e1]
    by_cases e2 : c (9, t, κ) m = v
    · rw [if_pos e2]
      simp only [s1_0, s1_1, s1_2, s1_3, s1_6, s1_9, s1_10, s1_13, s1_14, s1_15, s1_16, s1_19, s1_20, s1_23, s1_24, s1_25, s1_26, s1_29, s1_30, s1_33, s1_34, s1_35, s1_36, s1_39, s1_40, s1_41, s1_44, s1_45, s1_48, s1_50, s1_51, zl_n, zl_i, zl_r, zl_0, z10, z01, ez_bd_s, ez_bd_n, eq_self, true_or, or_true, if_true, if_false, zb_eq, zb_eq1, zb_em, zb_em2, ite_not, List.append_nil, List.cons_append, List.nil_append, reduceCtorEq, not_true_eq_false, not_false_eq_true, xo1, xa1, xf1_0, xv1_0, xp1_0, xf1_1, xv1_1, xf1_2, xv1_2, xp1_2, xf1_3, xv1_3, xf1_4, xv1_4, xf1_5, xv1_5, xp1_5, xf1_6, xv1_6, xp1_6, xf1_7, xv1_7, xf1_8, xv1_8, xf1_9, xv1_9, xf1_10, xv1_10, xf1_11, xv1_11, xf1_12, xv1_12, xf1_13, xv1_13, xf1_14, xv1_14, xp1_14, xo3, xa3, xf3_0, xv3_0, xp3_0, xf3_1, xv3_1, xf3_2, xv3_2, xp3_2, xo5, xa5, xf5_0, xv5_0, xp5_0, xf5_1, xv5_1, xp5_1, xf5_2, xv5_2, xp5_2, xf5_3, xv5_3, xp5_3, xf5_4, xv5_4, xp5_4, xf5_5, xv5_5, xp5_5, xf5_6, xv5_6, xp5_6, xf5_7, xv5_7, xp5_7, xf5_8, xv5_8, xp5_8, xf5_9, xv5_9, xp5_9, xf5_10, xv5_10, xp5_10, xf5_11, xv5_11, xp5_11, xf5_12, xv5_12, xp5_12, xo6, xa6, xf6_0, xv6_0, xp6_0, xf6_1, xv6_1, xp6_1, xf6_2, xv6_2, xp6_2, xo7, xa7, xf7_0, xv7_0, xp7_0, xf7_1, xv7_1, xp7_1, xf7_2, xv7_2, xp7_2, xf7_3, xv7_3, xp7_3, xf7_4, xv7_4, xf7_5, xv7_5, xo8, xa8, xf8_0, xv8_0, xp8_0, xf8_1, xv8_1, xo10, xa10, xf10_0, xv10_0, xp10_0, xf10_1, xv10_1, xp10_1, xf10_2, xv10_2, xp10_2, xf10_3, xv10_3, xf10_4, xv10_4, xo12, xa12, xf12_0, xv12_0, xf12_1, xv12_1, xp12_1, xf12_2, xv12_2, xp12_2, xf12_3, xv12_3, xp12_3, xf12_4, xv12_4, xo13, xa13, xf13_0, xv13_0, xf13_1, xv13_1, xp13_1, xo14, xa14, xf14_0, xv14_0, xf14_1, xv14_1, xp14_1, xf14_2, xv14_2, xp14_2, xf14_3, xv14_3, xp14_3, ya2_1, yw2_1, yv2_1, yp2_1, yn2_1, yl2_1, ya2_3, yw2_3, yv2_3, yp2_3, yn2_3, yl2_3, ya2_10, yw2_10, yv2_10, yp2_10, yn2_10, yl2_10, ya2_11, yw2_11, yv2_11, yp2_11, yn2_11, yl2_11, ya9, yw9, yv9, yp9, yn9, yl9, ya11, yw11, yv11, yp11, yn11, yl11, ya15, yw15, yv15, yp15, yn15, yl15, ya16, yw16, yv16, yp16, yn16, yl16, ok10, ok11, ok1i, xu_s, xu_n, ne_eq, Prod.mk.injEq, Nat.reduceEqDiff, false_and, and_false, not_false_eq_true, l8, l9, ok, c_within, hin, p3, cm, e1, e2]
      rw [e2] at e1
      simp only [s1_0, s1_1, s1_2, s1_3, s1_6, s1_9, s1_10, s1_13, s1_14, s1_15, s1_16, s1_19, s1_20, s1_23, s1_24, s1_25, s1_26, s1_29, s1_30, s1_33, s1_34, s1_35, s1_36, s1_39, s1_40, s1_41, s1_44, s1_45, s1_48, s1_50, s1_51, zl_n, zl_i, zl_r, zl_0, z10, z01, ez_bd_s, ez_bd_n, eq_self, true_or, or_true, if_true, if_false, zb_eq, zb_eq1, zb_em, zb_em2, ite_not, List.append_nil, List.cons_append, List.nil_append, reduceCtorEq, not_true_eq_false, not_false_eq_true, xo1, xa1, xf1_0, xv1_0, xp1_0, xf1_1, xv1_1, xf1_2, xv1_2, xp1_2, xf1_3, xv1_3, xf1_4, xv1_4, xf1_5, xv1_5, xp1_5, xf1_6, xv1_6, xp1_6, xf1_7, xv1_7, xf1_8, xv1_8, xf1_9, xv1_9, xf1_10, xv1_10, xf1_11, xv1_11, xf1_12, xv1_12, xf1_13, xv1_13, xf1_14, xv1_14, xp1_14, xo3, xa3, xf3_0, xv3_0, xp3_0, xf3_1, xv3_1, xf3_2, xv3_2, xp3_2, xo5, xa5, xf5_0, xv5_0, xp5_0, xf5_1, xv5_1, xp5_1, xf5_2, xv5_2, xp5_2, xf5_3, xv5_3, xp5_3, xf5_4, xv5_4, xp5_4, xf5_5, xv5_5, xp5_5, xf5_6, xv5_6, xp5_6, xf5_7, xv5_7, xp5_7, xf5_8, xv5_8, xp5_8, xf5_9, xv5_9, xp5_9, xf5_10, xv5_10, xp5_10, xf5_11, xv5_11, xp5_11, xf5_12, xv5_12, xp5_12, xo6, xa6, xf6_0, xv6_0, xp6_0, xf6_1, xv6_1, xp6_1, xf6_2, xv6_2, xp6_2, xo7, xa7, xf7_0, xv7_0, xp7_0, xf7_1, xv7_1, xp7_1, xf7_2, xv7_2, xp7_2, xf7_3, xv7_3, xp7_3, xf7_4, xv7_4, xf7_5, xv7_5, xo8, xa8, xf8_0, xv8_0, xp8_0, xf8_1, xv8_1, xo10, xa10, xf10_0, xv10_0, xp10_0, xf10_1, xv10_1, xp10_1, xf10_2, xv10_2, xp10_2, xf10_3, xv10_3, xf10_4, xv10_4, xo12, xa12, xf12_0, xv12_0, xf12_1, xv12_1, xp12_1, xf12_2, xv12_2, xp12_2, xf12_3, xv12_3, xp12_3, xf12_4, xv12_4, xo13, xa13, xf13_0, xv13_0, xf13_1, xv13_1, xp13_1, xo14, xa14, xf14_0, xv14_0, xf14_1, xv14_1, xp14_1, xf14_2, xv14_2, xp14_2, xf14_3, xv14_3, xp14_3, ya2_1, yw2_1, yv2_1, yp2_1, yn2_1, yl2_1, ya2_3, yw2_3, yv2_3, yp2_3, yn2_3, yl2_3, ya2_10, yw2_10, yv2_10, yp2_10, yn2_10, yl2_10, ya2_11, yw2_11, yv2_11, yp2_11, yn2_11, yl2_11, ya9, yw9, yv9, yp9, yn9, yl9, ya11, yw11, yv11, yp11, yn11, yl11, ya15, yw15, yv15, yp15, yn15, yl15, ya16, yw16, yv16, yp16, yn16, yl16, ok10, ok11, ok1i, xu_s, xu_n, ne_eq, Prod.mk.injEq, Nat.reduceEqDiff, false_and, and_false, not_false_eq_true, l8, l9, ok, p3, cm, e1, e2]
    · rw [if_neg e2]
      simp only [s1_0, s1_1, s1_2, s1_3, s1_6, s1_9, s1_10, s1_13, s1_14, s1_15, s1_16, s1_19, s1_20, s1_23, s1_24, s1_25, s1_26, s1_29, s1_30, s1_33, s1_34, s1_35, s1_36, s1_39, s1_40, s1_41, s1_44, s1_45, s1_48, s1_50, s1_51, zl_n, zl_i, zl_r, zl_0, z10, z01, ez_bd_s, ez_bd_n, eq_self, true_or, or_true, if_true, if_false, zb_eq, zb_eq1, zb_em, zb_em2, ite_not, List.append_nil, List.cons_append, List.nil_append, reduceCtorEq, not_true_eq_false, not_false_eq_true, xo1, xa1, xf1_0, xv1_0, xp1_0, xf1_1, xv1_1, xf1_2, xv1_2, xp1_2, xf1_3, xv1_3, xf1_4, xv1_4, xf1_5, xv1_5, xp1_5, xf1_6, xv1_6, xp1_6, xf1_7, xv1_7, xf1_8, xv1_8, xf1_9, xv1_9, xf1_10, xv1_10, xf1_11, xv1_11, xf1_12, xv1_12, xf1_13, xv1_13, xf1_14, xv1_14, xp1_14, xo3, xa3, xf3_0, xv3_0, xp3_0, xf3_1, xv3_1, xf3_2, xv3_2, xp3_2, xo5, xa5, xf5_0, xv5_0, xp5_0, xf5_1, xv5_1, xp5_1, xf5_2, xv5_2, xp5_2, xf5_3, xv5_3, xp5_3, xf5_4, xv5_4, xp5_4, xf5_5, xv5_5, xp5_5, xf5_6, xv5_6, xp5_6, xf5_7, xv5_7, xp5_7, xf5_8, xv5_8, xp5_8, xf5_9, xv5_9, xp5_9, xf5_10, xv5_10, xp5_10, xf5_11, xv5_11, xp5_11, xf5_12, xv5_12, xp5_12, xo6, xa6, xf6_0, xv6_0, xp6_0, xf6_1, xv6_1, xp6_1, xf6_2, xv6_2, xp6_2, xo7, xa7, xf7_0, xv7_0, xp7_0, xf7_1, xv7_1, xp7_1, xf7_2, xv7_2, xp7_2, xf7_3, xv7_3, xp7_3, xf7_4, xv7_4, xf7_5, xv7_5, xo8, xa8, xf8_0, xv8_0, xp8_0, xf8_1, xv8_1, xo10, xa10, xf10_0, xv10_0, xp10_0, xf10_1, xv10_1, xp10_1, xf10_2, xv10_2, xp10_2, xf10_3, xv10_3, xf10_4, xv10_4, xo12, xa12, xf12_0, xv12_0, xf12_1, xv12_1, xp12_1, xf12_2, xv12_2, xp12_2, xf12_3, xv12_3, xp12_3, xf12_4, xv12_4, xo13, xa13, xf13_0, xv13_0, xf13_1, xv13_1, xp13_1, xo14, xa14, xf14_0, xv14_0, xf14_1, xv14_1, xp14_1, xf14_2, xv14_2, xp14_2, xf14_3, xv14_3, xp14_3, ya2_1, yw2_1, yv2_1, yp2_1, yn2_1, yl2_1, ya2_3, yw2_3, yv2_3, yp2_3, yn2_3, yl2_3, ya2_10, yw2_10, yv2_10, yp2_10, yn2_10, yl2_10, ya2_11, yw2_11, yv2_11, yp2_11, yn2_11, yl2_11, ya9, yw9, yv9, yp9, yn9, yl9, ya11, yw11, yv11, yp11, yn11, yl11, ya15, yw15, yv15, yp15, yn15, yl15, ya16, yw16, yv16, yp16, yn16, yl16, ok10, ok11, ok1i, xu_s, xu_n, ne_eq, Prod.mk.injEq, Nat.reduceEqDiff, false_and, and_false, not_false_eq_true, l8, l9, ok, c_within, hin, p3, cm, e1, e2]
theorem fit_ask {a v x : Int32} (hv : 0 ≤ v) (hx : 0 ≤ x) : fit (askv a v) x ↔ fit a x ∧ x = v := by
  have nv : ¬ v = -1 := fun e => absurd (by rw [e] at hv; exact hv) (by decide : ¬ (0 : Int32) ≤ -1)
  have nx2 : ¬ (-2 : Int32) = x := fun e => absurd (by rw [← e] at hx; exact hx) (by decide : ¬ (0 : Int32) ≤ -2)
  unfold fit askv
  by_cases e1 : a = -1
  · rw [if_pos e1]
    exact ⟨fun h => ⟨Or.inl e1, (h.resolve_left nv).symm⟩, fun h => Or.inr h.2.symm⟩
  · rw [if_neg e1]
    by_cases e2 : a = v
    · rw [if_pos e2]
      exact ⟨fun h => ⟨Or.inr (e2.trans (h.resolve_left nv)), (h.resolve_left nv).symm⟩, fun h => Or.inr h.2.symm⟩
    · rw [if_neg e2]
      refine ⟨fun h => h.elim (fun h => absurd h (by decide)) (fun h => absurd h nx2), fun h => ?_⟩
      exact absurd ((h.1.resolve_left e1).trans h.2) e2
/-- a COND more on both sides -/
theorem RC_step {f : Nat → Int32} {m n : Nat} {mk v : Int32} (hm : mk = 0 ∧ m = 0 ∨ mk = 1 ∧ m = 1 ∨ mk = 2 ∧ m = 2) (hv : 0 ≤ v) (r : RC f z k n) (e47 : Z.2 47 = upd (z.2 47) (3 * k + n) mk) (e48 : Z.2 48 = upd (z.2 48) (3 * k + n) v) : RC (upd f m (askv (f m) v)) Z k (n + 1) := by
  intro so mn sh h1 h2 h3
  have r0 := r so mn sh h1 h2 h3
  have old : ∀ q, q < n → (cnd Z k so mn sh q ↔ cnd z k so mn sh q) := fun q hq => by
    have u1 : ∀ (f : Nat → Int32) (v : Int32), upd f (3 * k + n) v (3 * k + q) = f (3 * k + q) := fun f v => if_neg (by omega)
    unfold cnd
    rw [e47, e48, u1, u1]
  have new : cnd Z k so mn sh n ↔ (if mk = 0 then so else if mk = 1 then mn else sh) = v := by
    unfold cnd
    rw [e47, e48, pk_us, pk_us]
  have split : (∀ q, q < n + 1 → cnd Z k so mn sh q) ↔ (∀ q, q < n → cnd z k so mn sh q) ∧ cnd Z k so mn sh n := by
    constructor
    · intro h
      exact ⟨fun q hq => (old q hq).mp (h q (by omega)), h n (by omega)⟩
    · rintro ⟨h, h'⟩ q hq
      by_cases e : q = n
      · rw [e]; exact h'
      · exact (old q (by omega)).mpr (h q (by omega))
  rw [split, ← r0, new]
  rcases hm with ⟨rfl, rfl⟩ | ⟨rfl, rfl⟩ | ⟨rfl, rfl⟩
  · show (fit (askv (f 0) v) so ∧ fit (f 1) mn ∧ fit (f 2) sh) ↔ (fit (f 0) so ∧ fit (f 1) mn ∧ fit (f 2) sh) ∧ so = v
    rw [fit_ask hv h1]
    exact ⟨fun h => ⟨⟨h.1.1, h.2⟩, h.1.2⟩, fun h => ⟨⟨h.1.1, h.2⟩, h.1.2⟩⟩
  · show (fit (f 0) so ∧ fit (askv (f 1) v) mn ∧ fit (f 2) sh) ↔ (fit (f 0) so ∧ fit (f 1) mn ∧ fit (f 2) sh) ∧ mn = v
    rw [fit_ask hv h2]
    exact ⟨fun h => ⟨⟨h.1, h.2.1.1, h.2.2⟩, h.2.1.2⟩, fun h => ⟨h.1.1, ⟨h.1.2.1, h.2⟩, h.1.2.2⟩⟩
  · show (fit (f 0) so ∧ fit (f 1) mn ∧ fit (askv (f 2) v) sh) ↔ (fit (f 0) so ∧ fit (f 1) mn ∧ fit (f 2) sh) ∧ sh = v
    rw [fit_ask hv h3]
    exact ⟨fun h => ⟨⟨h.1, h.2.1, h.2.2.1⟩, h.2.2.2⟩, fun h => ⟨h.1.1, h.1.2.1, h.1.2.2, h.2⟩⟩
theorem c_mark {x2 x3 x4 : Option Value} {cl : Nat} (X : xst g P h0) (w : xw h0 P c) (l14 : lv P (14, 0, 0)) (r : RD c z) (h2 : ez_nl x2 = true) : ∃ c', ez_rn g 24 7 [some (.ref (P.2.2.1 (14, 0, 0))), some (.ref cl), x2, x3, x4] [] (xh h0 P c) = ez_rn g 24 48 [some (.ref (P.2.2.1 (14, 0, 0))), some (.ref cl), x2, some (.int (pm_cv z)), x4] [] (xh h0 P c') ∧ (pm_cv z = -1 → RD c' (pm_wd z)) ∧ (¬ pm_cv z = -1 → RD c' (pm_nx z)) ∧ xw h0 P c' ∧ ∀ r, r ≠ (14, 0, 0) → c' r = c r := by
  obtain ⟨c1, q1, r1, w1, f1⟩ := c_took X (show 1 < 11 by decide) (by decide) cW1 w l14 r
  by_cases e1 : pm_wv z = 1936683636
  · have ec : pm_cv z = 0 := by unfold pm_cv; rw [if_pos e1]
    have et : pm_tk z 1936683636 = (pm_nx z, 1) := by unfold pm_tk; rw [if_pos e1]; rfl
    rw [et] at q1 r1
    refine ⟨c1, ?_, fun h => absurd (ec.symm.trans h) (by decide), fun _ => r1, w1, f1⟩
    rw [ec]
    simp only [s24_0, s24_1, s24_2, s24_3, s24_4, s24_7, s24_8, s24_10, s24_13, s24_16, s24_17, s24_20, s24_21, s24_23, s24_26, s24_29, s24_30, s24_33, s24_34, s24_36, s24_39, s24_42, s24_43, s24_46, s24_47, s24_49, s24_50, s24_53, s24_54, s24_55, s24_56, s24_59, s24_61, s24_63, s24_64, s24_67, s24_68, s24_69, s24_69n, s24_70, s24_71, s24_73, s24_76, s24_79, s24_82, s24_83, zl_n, zl_i, zl_r, zl_0, z10, z01, ez_bd_s, ez_bd_n, eq_self, true_or, or_true, if_true, if_false, zb_eq, zb_eq1, zb_em, zb_em2, ite_not, List.append_nil, List.cons_append, List.nil_append, reduceCtorEq, not_true_eq_false, not_false_eq_true, xo1, xa1, xf1_0, xv1_0, xp1_0, xf1_1, xv1_1, xf1_2, xv1_2, xp1_2, xf1_3, xv1_3, xf1_4, xv1_4, xf1_5, xv1_5, xp1_5, xf1_6, xv1_6, xp1_6, xf1_7, xv1_7, xf1_8, xv1_8, xf1_9, xv1_9, xf1_10, xv1_10, xf1_11, xv1_11, xf1_12, xv1_12, xf1_13, xv1_13, xf1_14, xv1_14, xp1_14, xo3, xa3, xf3_0, xv3_0, xp3_0, xf3_1, xv3_1, xf3_2, xv3_2, xp3_2, xo5, xa5, xf5_0, xv5_0, xp5_0, xf5_1, xv5_1, xp5_1, xf5_2, xv5_2, xp5_2, xf5_3, xv5_3, xp5_3, xf5_4, xv5_4, xp5_4, xf5_5, xv5_5, xp5_5, xf5_6, xv5_6, xp5_6, xf5_7, xv5_7, xp5_7, xf5_8, xv5_8, xp5_8, xf5_9, xv5_9, xp5_9, xf5_10, xv5_10, xp5_10, xf5_11, xv5_11, xp5_11, xf5_12, xv5_12, xp5_12, xo6, xa6, xf6_0, xv6_0, xp6_0, xf6_1, xv6_1, xp6_1, xf6_2, xv6_2, xp6_2, xo7, xa7, xf7_0, xv7_0, xp7_0, xf7_1, xv7_1, xp7_1, xf7_2, xv7_2, xp7_2, xf7_3, xv7_3, xp7_3, xf7_4, xv7_4, xf7_5, xv7_5, xo8, xa8, xf8_0, xv8_0, xp8_0, xf8_1, xv8_1, xo10, xa10, xf10_0, xv10_0, xp10_0, xf10_1, xv10_1, xp10_1, xf10_2, xv10_2, xp10_2, xf10_3, xv10_3, xf10_4, xv10_4, xo12, xa12, xf12_0, xv12_0, xf12_1, xv12_1, xp12_1, xf12_2, xv12_2, xp12_2, xf12_3, xv12_3, xp12_3, xf12_4, xv12_4, xo13, xa13, xf13_0, xv13_0, xf13_1, xv13_1, xp13_1, xo14, xa14, xf14_0, xv14_0, xf14_1, xv14_1, xp14_1, xf14_2, xv14_2, xp14_2, xf14_3, xv14_3, xp14_3, ya2_1, yw2_1, yv2_1, yp2_1, yn2_1, yl2_1, ya2_3, yw2_3, yv2_3, yp2_3, yn2_3, yl2_3, ya2_10, yw2_10, yv2_10, yp2_10, yn2_10, yl2_10, ya2_11, yw2_11, yv2_11, yp2_11, yn2_11, yl2_11, ya9, yw9, yv9, yp9, yn9, yl9, ya11, yw11, yv11, yp11, yn11, yl11, ya15, yw15, yv15, yp15, yn15, yl15, ya16, yw16, yv16, yp16, yn16, yl16, ok10, ok11, ok1i, xu_s, xu_n, ne_eq, Prod.mk.injEq, Nat.reduceEqDiff, false_and, and_false, not_false_eq_true, l14, q1, h2]
  · have et : pm_tk z 1936683636 = (pm_wd z, 0) := by unfold pm_tk; rw [if_neg e1]
    rw [et] at q1 r1
    obtain ⟨c2, q2, r2, w2, f2⟩ := c_took X (show 2 < 11 by decide) (by decide) cW2 w1 l14 r1
    by_cases e2 : pm_wv z = 7168366
    · have ec : pm_cv z = 1 := by unfold pm_cv; rw [if_neg e1, if_pos e2]
      have et : pm_tk (pm_wd z) 7168366 = (pm_nx z, 1) := by
        unfold pm_tk
        rw [wd_wv r, if_pos e2, wd_wd r, wd_ze r]
        rfl
      rw [et] at q2 r2
      refine ⟨c2, ?_, fun h => absurd (ec.symm.trans h) (by decide), fun _ => r2, w2, fun r' hr => (f2 r' hr).trans (f1 r' hr)⟩
      rw [ec]
      simp only [s24_0, s24_1, s24_2, s24_3, s24_4, s24_7, s24_8, s24_10, s24_13, s24_16, s24_17, s24_20, s24_21, s24_23, s24_26, s24_29, s24_30, s24_33, s24_34, s24_36, s24_39, s24_42, s24_43, s24_46, s24_47, s24_49, s24_50, s24_53, s24_54, s24_55, s24_56, s24_59, s24_61, s24_63, s24_64, s24_67, s24_68, s24_69, s24_69n, s24_70, s24_71, s24_73, s24_76, s24_79, s24_82, s24_83, zl_n, zl_i, zl_r, zl_0, z10, z01, ez_bd_s, ez_bd_n, eq_self, true_or, or_true, if_true, if_false, zb_eq, zb_eq1, zb_em, zb_em2, ite_not, List.append_nil, List.cons_append, List.nil_append, reduceCtorEq, not_true_eq_false, not_false_eq_true, xo1, xa1, xf1_0, xv1_0, xp1_0, xf1_1, xv1_1, xf1_2, xv1_2, xp1_2, xf1_3, xv1_3, xf1_4, xv1_4, xf1_5, xv1_5, xp1_5, xf1_6, xv1_6, xp1_6, xf1_7, xv1_7, xf1_8, xv1_8, xf1_9, xv1_9, xf1_10, xv1_10, xf1_11, xv1_11, xf1_12, xv1_12, xf1_13, xv1_13, xf1_14, xv1_14, xp1_14, xo3, xa3, xf3_0, xv3_0, xp3_0, xf3_1, xv3_1, xf3_2, xv3_2, xp3_2, xo5, xa5, xf5_0, xv5_0, xp5_0, xf5_1, xv5_1, xp5_1, xf5_2, xv5_2, xp5_2, xf5_3, xv5_3, xp5_3, xf5_4, xv5_4, xp5_4, xf5_5, xv5_5, xp5_5, xf5_6, xv5_6, xp5_6, xf5_7, xv5_7, xp5_7, xf5_8, xv5_8, xp5_8, xf5_9, xv5_9, xp5_9, xf5_10, xv5_10, xp5_10, xf5_11, xv5_11, xp5_11, xf5_12, xv5_12, xp5_12, xo6, xa6, xf6_0, xv6_0, xp6_0, xf6_1, xv6_1, xp6_1, xf6_2, xv6_2, xp6_2, xo7, xa7, xf7_0, xv7_0, xp7_0, xf7_1, xv7_1, xp7_1, xf7_2, xv7_2, xp7_2, xf7_3, xv7_3, xp7_3, xf7_4, xv7_4, xf7_5, xv7_5, xo8, xa8, xf8_0, xv8_0, xp8_0, xf8_1, xv8_1, xo10, xa10, xf10_0, xv10_0, xp10_0, xf10_1, xv10_1, xp10_1, xf10_2, xv10_2, xp10_2, xf10_3, xv10_3, xf10_4, xv10_4, xo12, xa12, xf12_0, xv12_0, xf12_1, xv12_1, xp12_1, xf12_2, xv12_2, xp12_2, xf12_3, xv12_3, xp12_3, xf12_4, xv12_4, xo13, xa13, xf13_0, xv13_0, xf13_1, xv13_1, xp13_1, xo14, xa14, xf14_0, xv14_0, xf14_1, xv14_1, xp14_1, xf14_2, xv14_2, xp14_2, xf14_3, xv14_3, xp14_3, ya2_1, yw2_1, yv2_1, yp2_1, yn2_1, yl2_1, ya2_3, yw2_3, yv2_3, yp2_3, yn2_3, yl2_3, ya2_10, yw2_10, yv2_10, yp2_10, yn2_10, yl2_10, ya2_11, yw2_11, yv2_11, yp2_11, yn2_11, yl2_11, ya9, yw9, yv9, yp9, yn9, yl9, ya11, yw11, yv11, yp11, yn11, yl11, ya15, yw15, yv15, yp15, yn15, yl15, ya16, yw16, yv16, yp16, yn16, yl16, ok10, ok11, ok1i, xu_s, xu_n, ne_eq, Prod.mk.injEq, Nat.reduceEqDiff, false_and, and_false, not_false_eq_true, l14, q1, q2, h2]
    · have et : pm_tk (pm_wd z) 7168366 = (pm_wd z, 0) := by
        unfold pm_tk
        rw [wd_wv r, if_neg e2, wd_wd r]
      rw [et] at q2 r2
      obtain ⟨c3, q3, r3, w3, f3⟩ := c_took X (show 3 < 11 by decide) (by decide) cW3 w2 l14 r2
      by_cases e3 : pm_wv z = 495672980069
      · have ec : pm_cv z = 2 := by unfold pm_cv; rw [if_neg e1, if_neg e2, if_pos e3]
        have et : pm_tk (pm_wd z) 495672980069 = (pm_nx z, 1) := by
          unfold pm_tk
          rw [wd_wv r, if_pos e3, wd_wd r, wd_ze r]
          rfl
        rw [et] at q3 r3
        refine ⟨c3, ?_, fun h => absurd (ec.symm.trans h) (by decide), fun _ => r3, w3, fun r' hr => (f3 r' hr).trans ((f2 r' hr).trans (f1 r' hr))⟩
        rw [ec]
        simp only [s24_0, s24_1, s24_2, s24_3, s24_4, s24_7, s24_8, s24_10, s24_13, s24_16, s24_17, s24_20, s24_21, s24_23, s24_26, s24_29, s24_30, s24_33, s24_34, s24_36, s24_39, s24_42, s24_43, s24_46, s24_47, s24_49, s24_50, s24_53, s24_54, s24_55, s24_56, s24_59, s24_61, s24_63, s24_64, s24_67, s24_68, s24_69, s24_69n, s24_70, s24_71, s24_73, s24_76, s24_79, s24_82, s24_83, zl_n, zl_i, zl_r, zl_0, z10, z01, ez_bd_s, ez_bd_n, eq_self, true_or, or_true, if_true, if_false, zb_eq, zb_eq1, zb_em, zb_em2, ite_not, List.append_nil, List.cons_append, List.nil_append, reduceCtorEq, not_true_eq_false, not_false_eq_true, xo1, xa1, xf1_0, xv1_0, xp1_0, xf1_1, xv1_1, xf1_2, xv1_2, xp1_2, xf1_3, xv1_3, xf1_4, xv1_4, xf1_5, xv1_5, xp1_5, xf1_6, xv1_6, xp1_6, xf1_7, xv1_7, xf1_8, xv1_8, xf1_9, xv1_9, xf1_10, xv1_10, xf1_11, xv1_11, xf1_12, xv1_12, xf1_13, xv1_13, xf1_14, xv1_14, xp1_14, xo3, xa3, xf3_0, xv3_0, xp3_0, xf3_1, xv3_1, xf3_2, xv3_2, xp3_2, xo5, xa5, xf5_0, xv5_0, xp5_0, xf5_1, xv5_1, xp5_1, xf5_2, xv5_2, xp5_2, xf5_3, xv5_3, xp5_3, xf5_4, xv5_4, xp5_4, xf5_5, xv5_5, xp5_5, xf5_6, xv5_6, xp5_6, xf5_7, xv5_7, xp5_7, xf5_8, xv5_8, xp5_8, xf5_9, xv5_9, xp5_9, xf5_10, xv5_10, xp5_10, xf5_11, xv5_11, xp5_11, xf5_12, xv5_12, xp5_12, xo6, xa6, xf6_0, xv6_0, xp6_0, xf6_1, xv6_1, xp6_1, xf6_2, xv6_2, xp6_2, xo7, xa7, xf7_0, xv7_0, xp7_0, xf7_1, xv7_1, xp7_1, xf7_2, xv7_2, xp7_2, xf7_3, xv7_3, xp7_3, xf7_4, xv7_4, xf7_5, xv7_5, xo8, xa8, xf8_0, xv8_0, xp8_0, xf8_1, xv8_1, xo10, xa10, xf10_0, xv10_0, xp10_0, xf10_1, xv10_1, xp10_1, xf10_2, xv10_2, xp10_2, xf10_3, xv10_3, xf10_4, xv10_4, xo12, xa12, xf12_0, xv12_0, xf12_1, xv12_1, xp12_1, xf12_2, xv12_2, xp12_2, xf12_3, xv12_3, xp12_3, xf12_4, xv12_4, xo13, xa13, xf13_0, xv13_0, xf13_1, xv13_1, xp13_1, xo14, xa14, xf14_0, xv14_0, xf14_1, xv14_1, xp14_1, xf14_2, xv14_2, xp14_2, xf14_3, xv14_3, xp14_3, ya2_1, yw2_1, yv2_1, yp2_1, yn2_1, yl2_1, ya2_3, yw2_3, yv2_3, yp2_3, yn2_3, yl2_3, ya2_10, yw2_10, yv2_10, yp2_10, yn2_10, yl2_10, ya2_11, yw2_11, yv2_11, yp2_11, yn2_11, yl2_11, ya9, yw9, yv9, yp9, yn9, yl9, ya11, yw11, yv11, yp11, yn11, yl11, ya15, yw15, yv15, yp15, yn15, yl15, ya16, yw16, yv16, yp16, yn16, yl16, ok10, ok11, ok1i, xu_s, xu_n, ne_eq, Prod.mk.injEq, Nat.reduceEqDiff, false_and, and_false, not_false_eq_true, l14, q1, q2, q3, h2]
      · have ec : pm_cv z = -1 := by unfold pm_cv; rw [if_neg e1, if_neg e2, if_neg e3]
        have et : pm_tk (pm_wd z) 495672980069 = (pm_wd z, 0) := by
          unfold pm_tk
          rw [wd_wv r, if_neg e3, wd_wd r]
        rw [et] at q3 r3
        refine ⟨c3, ?_, fun _ => r3, fun h => absurd ec h, w3, fun r' hr => (f3 r' hr).trans ((f2 r' hr).trans (f1 r' hr))⟩
        rw [ec]
        simp only [s24_0, s24_1, s24_2, s24_3, s24_4, s24_7, s24_8, s24_10, s24_13, s24_16, s24_17, s24_20, s24_21, s24_23, s24_26, s24_29, s24_30, s24_33, s24_34, s24_36, s24_39, s24_42, s24_43, s24_46, s24_47, s24_49, s24_50, s24_53, s24_54, s24_55, s24_56, s24_59, s24_61, s24_63, s24_64, s24_67, s24_68, s24_69, s24_69n, s24_70, s24_71, s24_73, s24_76, s24_79, s24_82, s24_83, zl_n, zl_i, zl_r, zl_0, z10, z01, ez_bd_s, ez_bd_n, eq_self, true_or, or_true, if_true, if_false, zb_eq, zb_eq1, zb_em, zb_em2, ite_not, List.append_nil, List.cons_append, List.nil_append, reduceCtorEq, not_true_eq_false, not_false_eq_true, xo1, xa1, xf1_0, xv1_0, xp1_0, xf1_1, xv1_1, xf1_2, xv1_2, xp1_2, xf1_3, xv1_3, xf1_4, xv1_4, xf1_5, xv1_5, xp1_5, xf1_6, xv1_6, xp1_6, xf1_7, xv1_7, xf1_8, xv1_8, xf1_9, xv1_9, xf1_10, xv1_10, xf1_11, xv1_11, xf1_12, xv1_12, xf1_13, xv1_13, xf1_14, xv1_14, xp1_14, xo3, xa3, xf3_0, xv3_0, xp3_0, xf3_1, xv3_1, xf3_2, xv3_2, xp3_2, xo5, xa5, xf5_0, xv5_0, xp5_0, xf5_1, xv5_1, xp5_1, xf5_2, xv5_2, xp5_2, xf5_3, xv5_3, xp5_3, xf5_4, xv5_4, xp5_4, xf5_5, xv5_5, xp5_5, xf5_6, xv5_6, xp5_6, xf5_7, xv5_7, xp5_7, xf5_8, xv5_8, xp5_8, xf5_9, xv5_9, xp5_9, xf5_10, xv5_10, xp5_10, xf5_11, xv5_11, xp5_11, xf5_12, xv5_12, xp5_12, xo6, xa6, xf6_0, xv6_0, xp6_0, xf6_1, xv6_1, xp6_1, xf6_2, xv6_2, xp6_2, xo7, xa7, xf7_0, xv7_0, xp7_0, xf7_1, xv7_1, xp7_1, xf7_2, xv7_2, xp7_2, xf7_3, xv7_3, xp7_3, xf7_4, xv7_4, xf7_5, xv7_5, xo8, xa8, xf8_0, xv8_0, xp8_0, xf8_1, xv8_1, xo10, xa10, xf10_0, xv10_0, xp10_0, xf10_1, xv10_1, xp10_1, xf10_2, xv10_2, xp10_2, xf10_3, xv10_3, xf10_4, xv10_4, xo12, xa12, xf12_0, xv12_0, xf12_1, xv12_1, xp12_1, xf12_2, xv12_2, xp12_2, xf12_3, xv12_3, xp12_3, xf12_4, xv12_4, xo13, xa13, xf13_0, xv13_0, xf13_1, xv13_1, xp13_1, xo14, xa14, xf14_0, xv14_0, xf14_1, xv14_1, xp14_1, xf14_2, xv14_2, xp14_2, xf14_3, xv14_3, xp14_3, ya2_1, yw2_1, yv2_1, yp2_1, yn2_1, yl2_1, ya2_3, yw2_3, yv2_3, yp2_3, yn2_3, yl2_3, ya2_10, yw2_10, yv2_10, yp2_10, yn2_10, yl2_10, ya2_11, yw2_11, yv2_11, yp2_11, yn2_11, yl2_11, ya9, yw9, yv9, yp9, yn9, yl9, ya11, yw11, yv11, yp11, yn11, yl11, ya15, yw15, yv15, yp15, yn15, yl15, ya16, yw16, yv16, yp16, yn16, yl16, ok10, ok11, ok1i, xu_s, xu_n, ne_eq, Prod.mk.injEq, Nat.reduceEqDiff, false_and, and_false, not_false_eq_true, l14, q1, q2, q3, h2]
theorem wd_cv (r : RD c z) : pm_cv (pm_wd z) = pm_cv z := by
  unfold pm_cv
  rw [wd_wv r]
theorem tn_38 (r : RD c y) (h : (pm_tn y).2 = 0) : (pm_tn y).1.1 38 = nI (zs y) ∧ zs (pm_tn y).1 = zs y := by
  have e : (pm_tn y).1 = pm_nn y := by
    unfold pm_tn at h ⊢
    by_cases e1 : zd y = zs y
    · rw [if_pos e1]
    · rw [if_neg e1] at h ⊢
      by_cases e2 : zd y - zs y ≤ 3
      · rw [if_pos e2] at h
        exact absurd (show (1 : Int32) = 0 from h) (by decide)
      · rw [if_neg e2]
  rw [e]
  exact ⟨rfl, RD_z r rfl rfl rfl⟩
theorem lc_conds {hk : Nat} (X : xst g P h0) (l14 : lv P (14, 0, 0)) (l8 : lv P (8, t, κ)) (l9 : lv P (9, t, κ)) : ∀ d n, n + d = 3 → ∀ c z, xw h0 P c → RD c z → z.2 46 k = nI n → RC (c (9, t, κ)) z k n → ∀ x3 x4, ∃ c' v, ez_rn g 24 2 [some (.ref (P.2.2.1 (14, 0, 0))), some (.ref (P.2.2.1 (8, t, κ))), some (.int (nI n)), x3, x4] [] (xh h0 P c) = some (some (.int v), xh h0 P c') ∧ xw h0 P c' ∧ (∀ r, r ≠ (14, 0, 0) → r ≠ (9, t, κ) → c' r = c r) ∧ (((tcl k (4 - n) z).2 = 1 ∧ v = 1 ∧ RD c' (tcl k (4 - n) z).1 ∧ ∃ n', n' ≤ 3 ∧ (tcl k (4 - n) z).1.2 46 k = nI n' ∧ RC (c' (9, t, κ)) (tcl k (4 - n) z).1 k n') ∨ ((tcl k (4 - n) z).2 = 0 ∧ v = 0 ∧ c' (14, 0, 0) 2 = (tcl k (4 - n) z).1.1 38) ∨ ((tcl k (4 - n) z).2 = 0 ∧ v = 1 ∧ RD c' (tcl k (4 - n) z).1 ∧ (tcl k (4 - n) z).1.1 38 = nI (zs (tcl k (4 - n) z).1) ∧ ¬ pm_cv (tcl k (4 - n) z).1 = -1)) := by
  intro d
  induction d with
  | zero =>
    intro n hn c z w r h46 hrc x3 x4
    obtain rfl : n = 3 := by omega
    refine ⟨c, 1, ?_, w, fun _ _ _ => rfl, ?_⟩
    · rw [s24_2]
      simp only [s24_0, s24_1, s24_3, s24_4, s24_7, s24_8, s24_10, s24_13, s24_16, s24_17, s24_20, s24_21, s24_23, s24_26, s24_29, s24_30, s24_33, s24_34, s24_36, s24_39, s24_42, s24_43, s24_46, s24_47, s24_48, s24_49, s24_50, s24_53, s24_54, s24_55, s24_56, s24_59, s24_61, s24_63, s24_64, s24_67, s24_68, s24_69, s24_69n, s24_70, s24_71, s24_73, s24_76, s24_79, s24_82, s24_83, zl_n, zl_i, zl_r, zl_0, z10, z01, ez_bd_s, ez_bd_n, eq_self, true_or, or_true, if_true, if_false, zb_eq, zb_eq1, zb_em, zb_em2, ite_not, List.append_nil, List.cons_append, List.nil_append, reduceCtorEq, not_true_eq_false, not_false_eq_true, show ((3 : Int32) ≤ nI 3) = True from eq_true (nI_le (a := 3) (b := 3) (by decide) (by decide))]
    · show (((tcl k 1 z).2 = 1 ∧ _ ∧ RD c (tcl k 1 z).1 ∧ _) ∨ ((tcl k 1 z).2 = 0 ∧ _ ∧ _) ∨ ((tcl k 1 z).2 = 0 ∧ _ ∧ RD c (tcl k 1 z).1 ∧ _ ∧ _))
      rw [tcl]
      by_cases e1 : pm_cv z = -1
      · rw [if_pos e1]
        exact Or.inl ⟨rfl, rfl, RD_wd r, 3, by decide, h46, RC_cg hrc rfl rfl⟩
      · rw [if_neg e1, if_pos (show z.2 46 k = 3 from h46)]
        exact Or.inr (Or.inr ⟨rfl, rfl, RD_wd r, by rw [wd_zs r]; rfl, by rw [wd_cv r]; exact e1⟩)
  | succ d ih =>
    intro n hn c z w r h46 hrc x3 x4
    obtain ⟨c1, q1, m1, m2, w1, f1⟩ := c_mark (x2 := some (.int (nI n))) (x3 := x3) (x4 := x4) (cl := P.2.2.1 (8, t, κ)) X w l14 r zl_i
    have n3 : (3 ≤ nI n) = False := eq_false (nI_ge (b := 3) (by omega) (by decide))
    have e4 : tcl k (4 - n) z = if pm_cv z = -1 then (pm_wd z, 1) else if (pm_tn (pm_nx z)).2 = 0 then ((pm_tn (pm_nx z)).1, 0) else tcl k (4 - (n + 1)) (pm_cn (pm_tn (pm_nx z)).1 k (pm_cv z)) := by
      rw [show 4 - n = (4 - (n + 1)) + 1 by omega, tcl]
      have h3 : ¬ z.2 46 k = 3 := by
        rw [h46]
        intro h5
        have := (nI_eq (b := 3) (by omega) (by decide)).mp h5
        omega
      rw [if_neg h3]
    rw [e4]
    by_cases e1 : pm_cv z = -1
    · rw [if_pos e1]
      rw [e1] at q1
      refine ⟨c1, 1, ?_, w1, fun r' u1 _ => f1 r' u1, Or.inl ⟨rfl, rfl, m1 e1, n, by omega, h46, ?_⟩⟩
      · rw [s24_2]
        simp only [s24_0, s24_1, s24_3, s24_4, s24_8, s24_10, s24_13, s24_16, s24_17, s24_20, s24_21, s24_23, s24_26, s24_29, s24_30, s24_33, s24_34, s24_36, s24_39, s24_42, s24_43, s24_46, s24_47, s24_49, s24_50, s24_53, s24_54, s24_55, s24_56, s24_59, s24_61, s24_63, s24_64, s24_67, s24_68, s24_69, s24_69n, s24_70, s24_71, s24_73, s24_76, s24_79, s24_82, s24_83, zl_n, zl_i, zl_r, zl_0, z10, z01, ez_bd_s, ez_bd_n, eq_self, true_or, or_true, if_true, if_false, zb_eq, zb_eq1, zb_em, zb_em2, ite_not, List.append_nil, List.cons_append, List.nil_append, reduceCtorEq, not_true_eq_false, not_false_eq_true, n3]
        rw [q1]
        simp only [s24_0, s24_1, s24_3, s24_4, s24_7, s24_8, s24_10, s24_13, s24_16, s24_17, s24_20, s24_21, s24_23, s24_26, s24_29, s24_30, s24_33, s24_34, s24_36, s24_39, s24_42, s24_43, s24_46, s24_47, s24_48, s24_49, s24_50, s24_53, s24_54, s24_55, s24_56, s24_59, s24_61, s24_63, s24_64, s24_67, s24_68, s24_69, s24_69n, s24_70, s24_71, s24_73, s24_76, s24_79, s24_82, s24_83, zl_n, zl_i, zl_r, zl_0, z10, z01, ez_bd_s, ez_bd_n, eq_self, true_or, or_true, if_true, if_false, zb_eq, zb_eq1, zb_em, zb_em2, ite_not, List.append_nil, List.cons_append, List.nil_append, reduceCtorEq, not_true_eq_false, not_false_eq_true]
      · rw [f1 (9, t, κ) (by rintro ⟨⟩)]
        exact RC_cg hrc rfl rfl
    · rw [if_neg e1]
      have rn := m2 e1
      rcases c_num (g := g) w1 l14 rn with ⟨t0, c2, q2, r2, w2, f2⟩ | ⟨t1, b1, c2, q2, r2, w2, f2⟩
      · rw [if_pos t0]
        obtain ⟨u1, u2⟩ := tn_38 rn t0
        refine ⟨c2, 0, ?_, w2, fun r' v1 _ => (f2 r' v1).trans (f1 r' v1), Or.inr (Or.inl ⟨rfl, rfl, ?_⟩)⟩
        · rw [s24_2]
          simp only [s24_0, s24_1, s24_3, s24_4, s24_8, s24_10, s24_13, s24_16, s24_17, s24_20, s24_21, s24_23, s24_26, s24_29, s24_30, s24_33, s24_34, s24_36, s24_39, s24_42, s24_43, s24_46, s24_47, s24_49, s24_50, s24_53, s24_54, s24_55, s24_56, s24_59, s24_61, s24_63, s24_64, s24_67, s24_68, s24_69, s24_69n, s24_70, s24_71, s24_73, s24_76, s24_79, s24_82, s24_83, zl_n, zl_i, zl_r, zl_0, z10, z01, ez_bd_s, ez_bd_n, eq_self, true_or, or_true, if_true, if_false, zb_eq, zb_eq1, zb_em, zb_em2, ite_not, List.append_nil, List.cons_append, List.nil_append, reduceCtorEq, not_true_eq_false, not_false_eq_true, n3]
          rw [q1]
          simp only [s24_0, s24_1, s24_3, s24_4, s24_7, s24_8, s24_10, s24_13, s24_16, s24_17, s24_20, s24_21, s24_23, s24_26, s24_29, s24_30, s24_33, s24_34, s24_36, s24_39, s24_42, s24_43, s24_46, s24_47, s24_48, s24_49, s24_50, s24_53, s24_54, s24_55, s24_56, s24_59, s24_61, s24_63, s24_64, s24_67, s24_68, s24_69, s24_69n, s24_70, s24_71, s24_73, s24_76, s24_79, s24_82, s24_83, zl_n, zl_i, zl_r, zl_0, z10, z01, ez_bd_s, ez_bd_n, eq_self, true_or, or_true, if_true, if_false, zb_eq, zb_eq1, zb_em, zb_em2, ite_not, List.append_nil, List.cons_append, List.nil_append, reduceCtorEq, not_true_eq_false, not_false_eq_true, xo1, xa1, xf1_0, xv1_0, xp1_0, xf1_1, xv1_1, xf1_2, xv1_2, xp1_2, xf1_3, xv1_3, xf1_4, xv1_4, xf1_5, xv1_5, xp1_5, xf1_6, xv1_6, xp1_6, xf1_7, xv1_7, xf1_8, xv1_8, xf1_9, xv1_9, xf1_10, xv1_10, xf1_11, xv1_11, xf1_12, xv1_12, xf1_13, xv1_13, xf1_14, xv1_14, xp1_14, xo3, xa3, xf3_0, xv3_0, xp3_0, xf3_1, xv3_1, xf3_2, xv3_2, xp3_2, xo5, xa5, xf5_0, xv5_0, xp5_0, xf5_1, xv5_1, xp5_1, xf5_2, xv5_2, xp5_2, xf5_3, xv5_3, xp5_3, xf5_4, xv5_4, xp5_4, xf5_5, xv5_5, xp5_5, xf5_6, xv5_6, xp5_6, xf5_7, xv5_7, xp5_7, xf5_8, xv5_8, xp5_8, xf5_9, xv5_9, xp5_9, xf5_10, xv5_10, xp5_10, xf5_11, xv5_11, xp5_11, xf5_12, xv5_12, xp5_12, xo6, xa6, xf6_0, xv6_0, xp6_0, xf6_1, xv6_1, xp6_1, xf6_2, xv6_2, xp6_2, xo7, xa7, xf7_0, xv7_0, xp7_0, xf7_1, xv7_1, xp7_1, xf7_2, xv7_2, xp7_2, xf7_3, xv7_3, xp7_3, xf7_4, xv7_4, xf7_5, xv7_5, xo8, xa8, xf8_0, xv8_0, xp8_0, xf8_1, xv8_1, xo10, xa10, xf10_0, xv10_0, xp10_0, xf10_1, xv10_1, xp10_1, xf10_2, xv10_2, xp10_2, xf10_3, xv10_3, xf10_4, xv10_4, xo12, xa12, xf12_0, xv12_0, xf12_1, xv12_1, xp12_1, xf12_2, xv12_2, xp12_2, xf12_3, xv12_3, xp12_3, xf12_4, xv12_4, xo13, xa13, xf13_0, xv13_0, xf13_1, xv13_1, xp13_1, xo14, xa14, xf14_0, xv14_0, xf14_1, xv14_1, xp14_1, xf14_2, xv14_2, xp14_2, xf14_3, xv14_3, xp14_3, ya2_1, yw2_1, yv2_1, yp2_1, yn2_1, yl2_1, ya2_3, yw2_3, yv2_3, yp2_3, yn2_3, yl2_3, ya2_10, yw2_10, yv2_10, yp2_10, yn2_10, yl2_10, ya2_11, yw2_11, yv2_11, yp2_11, yn2_11, yl2_11, ya9, yw9, yv9, yp9, yn9, yl9, ya11, yw11, yv11, yp11, yn11, yl11, ya15, yw15, yv15, yp15, yn15, yl15, ya16, yw16, yv16, yp16, yn16, yl16, ok10, ok11, ok1i, xu_s, xu_n, ne_eq, Prod.mk.injEq, Nat.reduceEqDiff, false_and, and_false, not_false_eq_true, l14, e1, q2]
        · show c2 (14, 0, 0) 2 = (pm_tn (pm_nx z)).1.1 38
          rw [r2.2.2.1, u1, u2]
      · rw [if_neg (by rw [t1]; decide)]
        have hm : pm_cv z = 0 ∧ (pm_cv z).toNatClampNeg = 0 ∨ pm_cv z = 1 ∧ (pm_cv z).toNatClampNeg = 1 ∨ pm_cv z = 2 ∧ (pm_cv z).toNatClampNeg = 2 := by
          rcases pm_cv3 (z := z) with e | e | e | e
          · exact absurd e e1
          · exact Or.inl ⟨e, by rw [e]; decide⟩
          · exact Or.inr (Or.inl ⟨e, by rw [e]; decide⟩)
          · exact Or.inr (Or.inr ⟨e, by rw [e]; decide⟩)
        have qa := c_ask (g := g) (h0 := h0) (c := c2) (v := (pm_tn (pm_nx z)).1.1 50) w2.1 hm l8 l9
        have nm : ¬ (pm_tn (pm_nx z)).1.1 50 = -1 := md_inm1 b1 (by decide)
        have c9 : c2 (9, t, κ) = c (9, t, κ) := (f2 _ (by rintro ⟨⟩)).trans (f1 _ (by rintro ⟨⟩))
        have y46 : (pm_tn (pm_nx z)).1.2 46 k = nI n := by rw [tn_2]; exact h46
        have cn46 : (nI n).toNatClampNeg = n := nI_clamp (by omega)
        have E47 : (pm_cn (pm_tn (pm_nx z)).1 k (pm_cv z)).2 47 = upd (z.2 47) (3 * k + n) (pm_cv z) := by
          unfold pm_cn
          rw [md_A2n (by decide), md_A2n (by decide), md_A2, if_pos rfl, y46, cn46, tn_2]
          rfl
        have E48 : (pm_cn (pm_tn (pm_nx z)).1 k (pm_cv z)).2 48 = upd (z.2 48) (3 * k + n) ((pm_tn (pm_nx z)).1.1 50) := by
          unfold pm_cn
          rw [md_A2n (by decide), md_A2, if_pos rfl, md_A2n (by decide), y46, cn46, tn_2]
          rfl
        have E46 : (pm_cn (pm_tn (pm_nx z)).1 k (pm_cv z)).2 46 k = nI (n + 1) := by
          unfold pm_cn
          rw [md_A2, if_pos rfl, pk_us, y46, nI_1]
        have w3 : xw h0 P (xu c2 (9, t, κ) (pm_cv z).toNatClampNeg (askv (c2 (9, t, κ) (pm_cv z).toNatClampNeg) ((pm_tn (pm_nx z)).1.1 50))) := xw_9 w2
        have rr : RD (xu c2 (9, t, κ) (pm_cv z).toNatClampNeg (askv (c2 (9, t, κ) (pm_cv z).toNatClampNeg) ((pm_tn (pm_nx z)).1.1 50))) (pm_cn (pm_tn (pm_nx z)).1 k (pm_cv z)) := by
          refine RD_c (RD_cg r2 rfl rfl ?_) (xu_n (by rintro ⟨⟩)) (xu_n (by rintro ⟨⟩))
          unfold pm_cn
          rw [md_A2n (by decide), md_A2n (by decide), md_A2n (by decide)]
        have hrc' : RC (xu c2 (9, t, κ) (pm_cv z).toNatClampNeg (askv (c2 (9, t, κ) (pm_cv z).toNatClampNeg) ((pm_tn (pm_nx z)).1.1 50)) (9, t, κ)) (pm_cn (pm_tn (pm_nx z)).1 k (pm_cv z)) k (n + 1) := by
          have e9 : ∀ v, xu c2 (9, t, κ) (pm_cv z).toNatClampNeg v (9, t, κ) = upd (c2 (9, t, κ)) (pm_cv z).toNatClampNeg v := fun v => if_pos rfl
          rw [e9, c9]
          exact RC_step hm (md_in0 b1 (by decide)) hrc E47 E48
        obtain ⟨c', v, ev, w', fr, res⟩ := ih (n + 1) (by omega) _ _ w3 rr E46 hrc' (some (.int (pm_cv z))) (some (.int ((pm_tn (pm_nx z)).1.1 50)))
        refine ⟨c', v, ?_, w', fun r' u1 u2 => by rw [fr r' u1 u2, xu_n u2, f2 r' u1, f1 r' u1], res⟩
        rw [s24_2]
        simp only [s24_0, s24_1, s24_3, s24_4, s24_8, s24_10, s24_13, s24_16, s24_17, s24_20, s24_21, s24_23, s24_26, s24_29, s24_30, s24_33, s24_34, s24_36, s24_39, s24_42, s24_43, s24_46, s24_47, s24_49, s24_50, s24_53, s24_54, s24_55, s24_56, s24_59, s24_61, s24_63, s24_64, s24_67, s24_68, s24_69, s24_69n, s24_70, s24_71, s24_73, s24_76, s24_79, s24_82, s24_83, zl_n, zl_i, zl_r, zl_0, z10, z01, ez_bd_s, ez_bd_n, eq_self, true_or, or_true, if_true, if_false, zb_eq, zb_eq1, zb_em, zb_em2, ite_not, List.append_nil, List.cons_append, List.nil_append, reduceCtorEq, not_true_eq_false, not_false_eq_true, n3]
        rw [q1]
        simp only [s24_0, s24_1, s24_3, s24_4, s24_7, s24_8, s24_10, s24_13, s24_16, s24_17, s24_20, s24_21, s24_23, s24_26, s24_29, s24_30, s24_33, s24_34, s24_36, s24_39, s24_42, s24_43, s24_46, s24_47, s24_48, s24_49, s24_50, s24_53, s24_54, s24_55, s24_56, s24_59, s24_61, s24_63, s24_64, s24_67, s24_68, s24_69, s24_69n, s24_70, s24_71, s24_73, s24_76, s24_79, s24_82, s24_83, zl_n, zl_i, zl_r, zl_0, z10, z01, ez_bd_s, ez_bd_n, eq_self, true_or, or_true, if_true, if_false, zb_eq, zb_eq1, zb_em, zb_em2, ite_not, List.append_nil, List.cons_append, List.nil_append, reduceCtorEq, not_true_eq_false, not_false_eq_true, xo1, xa1, xf1_0, xv1_0, xp1_0, xf1_1, xv1_1, xf1_2, xv1_2, xp1_2, xf1_3, xv1_3, xf1_4, xv1_4, xf1_5, xv1_5, xp1_5, xf1_6, xv1_6, xp1_6, xf1_7, xv1_7, xf1_8, xv1_8, xf1_9, xv1_9, xf1_10, xv1_10, xf1_11, xv1_11, xf1_12, xv1_12, xf1_13, xv1_13, xf1_14, xv1_14, xp1_14, xo3, xa3, xf3_0, xv3_0, xp3_0, xf3_1, xv3_1, xf3_2, xv3_2, xp3_2, xo5, xa5, xf5_0, xv5_0, xp5_0, xf5_1, xv5_1, xp5_1, xf5_2, xv5_2, xp5_2, xf5_3, xv5_3, xp5_3, xf5_4, xv5_4, xp5_4, xf5_5, xv5_5, xp5_5, xf5_6, xv5_6, xp5_6, xf5_7, xv5_7, xp5_7, xf5_8, xv5_8, xp5_8, xf5_9, xv5_9, xp5_9, xf5_10, xv5_10, xp5_10, xf5_11, xv5_11, xp5_11, xf5_12, xv5_12, xp5_12, xo6, xa6, xf6_0, xv6_0, xp6_0, xf6_1, xv6_1, xp6_1, xf6_2, xv6_2, xp6_2, xo7, xa7, xf7_0, xv7_0, xp7_0, xf7_1, xv7_1, xp7_1, xf7_2, xv7_2, xp7_2, xf7_3, xv7_3, xp7_3, xf7_4, xv7_4, xf7_5, xv7_5, xo8, xa8, xf8_0, xv8_0, xp8_0, xf8_1, xv8_1, xo10, xa10, xf10_0, xv10_0, xp10_0, xf10_1, xv10_1, xp10_1, xf10_2, xv10_2, xp10_2, xf10_3, xv10_3, xf10_4, xv10_4, xo12, xa12, xf12_0, xv12_0, xf12_1, xv12_1, xp12_1, xf12_2, xv12_2, xp12_2, xf12_3, xv12_3, xp12_3, xf12_4, xv12_4, xo13, xa13, xf13_0, xv13_0, xf13_1, xv13_1, xp13_1, xo14, xa14, xf14_0, xv14_0, xf14_1, xv14_1, xp14_1, xf14_2, xv14_2, xp14_2, xf14_3, xv14_3, xp14_3, ya2_1, yw2_1, yv2_1, yp2_1, yn2_1, yl2_1, ya2_3, yw2_3, yv2_3, yp2_3, yn2_3, yl2_3, ya2_10, yw2_10, yv2_10, yp2_10, yn2_10, yl2_10, ya2_11, yw2_11, yv2_11, yp2_11, yn2_11, yl2_11, ya9, yw9, yv9, yp9, yn9, yl9, ya11, yw11, yv11, yp11, yn11, yl11, ya15, yw15, yv15, yp15, yn15, yl15, ya16, yw16, yv16, yp16, yn16, yl16, ok10, ok11, ok1i, xu_s, xu_n, ne_eq, Prod.mk.injEq, Nat.reduceEqDiff, false_and, and_false, not_false_eq_true, l14, l8, e1, q2, nm, qa, nI_1]
        exact ev
end CO
