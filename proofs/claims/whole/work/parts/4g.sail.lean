section OA
variable {g : ez_G} {h h0 h2 : ez_H} {P P2 : xP} {c c2 : xR → Nat → Int32} {z z1 : md_S}
theorem cf_ex {f : Int32} {k : Nat} : ∀ n, k < cf z f n → ∃ s, s < n ∧ z.2 28 s = f ∧ cf z f s = k
  | 0, h => by rw [cf] at h; omega
  | n + 1, h => by
    rw [cf] at h
    by_cases e : z.2 28 n = f
    · rw [if_pos e] at h
      by_cases e2 : k = cf z f n
      · exact ⟨n, by omega, e, e2.symm⟩
      · obtain ⟨s, h1, h2⟩ := cf_ex n (show k < cf z f n by omega)
        exact ⟨s, by omega, h2⟩
    · rw [if_neg e] at h
      obtain ⟨s, h1, h2⟩ := cf_ex n h
      exact ⟨s, by omega, h2⟩
theorem cn_ex {f : Int32} {k : Nat} : ∀ n, k < cn z f n → ∃ s, s < n ∧ z.2 31 s = f ∧ cn z f s = k
  | 0, h => by rw [cn] at h; omega
  | n + 1, h => by
    rw [cn] at h
    by_cases e : z.2 31 n = f
    · rw [if_pos e] at h
      by_cases e2 : k = cn z f n
      · exact ⟨n, by omega, e, e2.symm⟩
      · obtain ⟨s, h1, h2⟩ := cn_ex n (show k < cn z f n by omega)
        exact ⟨s, by omega, h2⟩
    · rw [if_neg e] at h
      obtain ⟨s, h1, h2⟩ := cn_ex n h
      exact ⟨s, by omega, h2⟩
/-- sacks of a fleet's ships in their order -/
def sab (c : xR → Nat → Int32) (k m : Nat) : Int32 := c (12, (c (4, 7, k) m).toNatClampNeg, 0) 2
theorem lc_aboard {k n : Nat} (w : xw h0 P c) (l10 : lv P (10, k, 0)) (hs : lsz P c 7 k n) (hn : n ≤ 40) (hm : ∀ m, m < n → ∃ s, s < 40 ∧ c (4, 7, k) m = nI s) : ∀ d j, j + d = n → ez_rn g 5 4 [some (.ref (P.2.2.1 (10, k, 0))), some (.int (l_sum (sab c k) j)), some (.int (nI j))] [] (xh h0 P c) = some (some (.int (l_sum (sab c k) n)), xh h0 P c) := by
  have l37 : lv P (3, 7, k) := xw_cl w l10 (Or.inl rfl) (show 10 ≠ 0 by decide) (show 10 ≠ 3 by decide)
  intro d
  induction d with
  | zero =>
    intro j hj
    obtain rfl : j = n := by omega
    rw [s5_4]
    simp only [s5_0, s5_1, s5_2, s5_3, s5_5, s5_6, s5_9, s5_12, s5_15, s5_16, s5_17, s5_20, s5_21, s5_24, s5_27, s5_30, s5_31, s5_32, s5_35, s5_38, s5_39, zl_n, zl_i, zl_r, zl_0, z10, z01, ez_bd_s, ez_bd_n, eq_self, true_or, or_true, if_true, if_false, zb_eq, zb_eq1, zb_em, zb_em2, ite_not, List.append_nil, List.cons_append, List.nil_append, reduceCtorEq, not_true_eq_false, not_false_eq_true, xo1, xa1, xf1_0, xv1_0, xp1_0, xf1_1, xv1_1, xf1_2, xv1_2, xp1_2, xf1_3, xv1_3, xf1_4, xv1_4, xf1_5, xv1_5, xp1_5, xf1_6, xv1_6, xp1_6, xf1_7, xv1_7, xf1_8, xv1_8, xf1_9, xv1_9, xf1_10, xv1_10, xf1_11, xv1_11, xf1_12, xv1_12, xf1_13, xv1_13, xf1_14, xv1_14, xp1_14, xo3, xa3, xf3_0, xv3_0, xp3_0, xf3_1, xv3_1, xf3_2, xv3_2, xp3_2, xo5, xa5, xf5_0, xv5_0, xp5_0, xf5_1, xv5_1, xp5_1, xf5_2, xv5_2, xp5_2, xf5_3, xv5_3, xp5_3, xf5_4, xv5_4, xp5_4, xf5_5, xv5_5, xp5_5, xf5_6, xv5_6, xp5_6, xf5_7, xv5_7, xp5_7, xf5_8, xv5_8, xp5_8, xf5_9, xv5_9, xp5_9, xf5_10, xv5_10, xp5_10, xf5_11, xv5_11, xp5_11, xf5_12, xv5_12, xp5_12, xo6, xa6, xf6_0, xv6_0, xp6_0, xf6_1, xv6_1, xp6_1, xf6_2, xv6_2, xp6_2, xo7, xa7, xf7_0, xv7_0, xp7_0, xf7_1, xv7_1, xp7_1, xf7_2, xv7_2, xp7_2, xf7_3, xv7_3, xp7_3, xf7_4, xv7_4, xf7_5, xv7_5, xo8, xa8, xf8_0, xv8_0, xp8_0, xf8_1, xv8_1, xo10, xa10, xf10_0, xv10_0, xp10_0, xf10_1, xv10_1, xp10_1, xf10_2, xv10_2, xp10_2, xf10_3, xv10_3, xf10_4, xv10_4, xo12, xa12, xf12_0, xv12_0, xf12_1, xv12_1, xp12_1, xf12_2, xv12_2, xp12_2, xf12_3, xv12_3, xp12_3, xf12_4, xv12_4, xo13, xa13, xf13_0, xv13_0, xf13_1, xv13_1, xp13_1, xo14, xa14, xf14_0, xv14_0, xf14_1, xv14_1, xp14_1, xf14_2, xv14_2, xp14_2, xf14_3, xv14_3, xp14_3, ya2_1, yw2_1, yv2_1, yp2_1, yn2_1, yl2_1, ya2_3, yw2_3, yv2_3, yp2_3, yn2_3, yl2_3, ya2_10, yw2_10, yv2_10, yp2_10, yn2_10, yl2_10, ya2_11, yw2_11, yv2_11, yp2_11, yn2_11, yl2_11, ya9, yw9, yv9, yp9, yn9, yl9, ya11, yw11, yv11, yp11, yn11, yl11, ya15, yw15, yv15, yp15, yn15, yl15, ya16, yw16, yv16, yp16, yn16, yl16, ok10, ok11, ok1i, xu_s, xu_n, ne_eq, Prod.mk.injEq, Nat.reduceEqDiff, false_and, and_false, not_false_eq_true, l10, l37, q_size, hs.1, nI_leT (Nat.le_refl j) (by omega)]
  | succ d ih =>
    intro j hj
    obtain ⟨s, h1, e1⟩ := hm j (by omega)
    obtain ⟨q, l12⟩ := g_get (g := g) w l37 hs (show j < n by omega) (show s < 2 ^ 31 by omega) e1
    have q : ez_ev g 153 [.ref (P.2.2.1 (3, 7, k)), .int (nI j)] (xh h0 P c) = some (some (.ref (P.2.2.1 (12, s, 0))), xh h0 P c) := q
    have l12 : lv P (12, s, 0) := l12
    have hx := ih (j + 1) (by omega)
    rw [l_sum, sab, e1, nI_clamp (by omega)] at hx
    rw [s5_4]
    simp only [s5_0, s5_1, s5_2, s5_3, s5_5, s5_6, s5_9, s5_12, s5_15, s5_16, s5_17, s5_20, s5_21, s5_24, s5_27, s5_30, s5_31, s5_32, s5_35, s5_38, s5_39, zl_n, zl_i, zl_r, zl_0, z10, z01, ez_bd_s, ez_bd_n, eq_self, true_or, or_true, if_true, if_false, zb_eq, zb_eq1, zb_em, zb_em2, ite_not, List.append_nil, List.cons_append, List.nil_append, reduceCtorEq, not_true_eq_false, not_false_eq_true, xo1, xa1, xf1_0, xv1_0, xp1_0, xf1_1, xv1_1, xf1_2, xv1_2, xp1_2, xf1_3, xv1_3, xf1_4, xv1_4, xf1_5, xv1_5, xp1_5, xf1_6, xv1_6, xp1_6, xf1_7, xv1_7, xf1_8, xv1_8, xf1_9, xv1_9, xf1_10, xv1_10, xf1_11, xv1_11, xf1_12, xv1_12, xf1_13, xv1_13, xf1_14, xv1_14, xp1_14, xo3, xa3, xf3_0, xv3_0, xp3_0, xf3_1, xv3_1, xf3_2, xv3_2, xp3_2, xo5, xa5, xf5_0, xv5_0, xp5_0, xf5_1, xv5_1, xp5_1, xf5_2, xv5_2, xp5_2, xf5_3, xv5_3, xp5_3, xf5_4, xv5_4, xp5_4, xf5_5, xv5_5, xp5_5, xf5_6, xv5_6, xp5_6, xf5_7, xv5_7, xp5_7, xf5_8, xv5_8, xp5_8, xf5_9, xv5_9, xp5_9, xf5_10, xv5_10, xp5_10, xf5_11, xv5_11, xp5_11, xf5_12, xv5_12, xp5_12, xo6, xa6, xf6_0, xv6_0, xp6_0, xf6_1, xv6_1, xp6_1, xf6_2, xv6_2, xp6_2, xo7, xa7, xf7_0, xv7_0, xp7_0, xf7_1, xv7_1, xp7_1, xf7_2, xv7_2, xp7_2, xf7_3, xv7_3, xp7_3, xf7_4, xv7_4, xf7_5, xv7_5, xo8, xa8, xf8_0, xv8_0, xp8_0, xf8_1, xv8_1, xo10, xa10, xf10_0, xv10_0, xp10_0, xf10_1, xv10_1, xp10_1, xf10_2, xv10_2, xp10_2, xf10_3, xv10_3, xf10_4, xv10_4, xo12, xa12, xf12_0, xv12_0, xf12_1, xv12_1, xp12_1, xf12_2, xv12_2, xp12_2, xf12_3, xv12_3, xp12_3, xf12_4, xv12_4, xo13, xa13, xf13_0, xv13_0, xf13_1, xv13_1, xp13_1, xo14, xa14, xf14_0, xv14_0, xf14_1, xv14_1, xp14_1, xf14_2, xv14_2, xp14_2, xf14_3, xv14_3, xp14_3, ya2_1, yw2_1, yv2_1, yp2_1, yn2_1, yl2_1, ya2_3, yw2_3, yv2_3, yp2_3, yn2_3, yl2_3, ya2_10, yw2_10, yv2_10, yp2_10, yn2_10, yl2_10, ya2_11, yw2_11, yv2_11, yp2_11, yn2_11, yl2_11, ya9, yw9, yv9, yp9, yn9, yl9, ya11, yw11, yv11, yp11, yn11, yl11, ya15, yw15, yv15, yp15, yn15, yl15, ya16, yw16, yv16, yp16, yn16, yl16, ok10, ok11, ok1i, xu_s, xu_n, ne_eq, Prod.mk.injEq, Nat.reduceEqDiff, false_and, and_false, not_false_eq_true, l10, l37, q_size, hs.1, nI_nleI (show j < n by omega) (by omega), q, l12, nI_1]
    exact hx
theorem sab_eq {k : Nat} (r3 : R3 P c z) (hk : k < 40) : ∀ s, s ≤ (z.1 5).toNatClampNeg → l_sum (sab c k) (cf z (nI k) s) = l_sum (psl z (nI k)) s
  | 0, _ => rfl
  | s + 1, h => by
    have ih := sab_eq r3 hk s (by omega)
    have hb5 := (md_inE r3.1.2.1).2
    obtain ⟨y1, y2, y3, y4, y5, y6, y7, y8, -⟩ := r3.2.2.1 s (by omega)
    rw [cf, l_sum, psl]
    by_cases e : z.2 28 s = nI k
    · rw [if_pos e, if_pos e, l_sum, ih]
      rw [e, nI_clamp (by omega)] at y7
      rw [sab, y7, nI_clamp (by omega), y4]
    · rw [if_neg e, if_neg e, ih, Int32.add_zero]
theorem vb1 : vp_nar .boolean (1 : Int32) = 1 := by decide
theorem o_sail {f : Int32} (w : xw h0 P c) (R : RR P c z) : xop g 61 [.int f] h0 P c (pm_sail z f) := by
  obtain ⟨l1, l21, l23, l16, l30, l31, l32, l210, l211, l33, l34⟩ := w_lvs w R.1; have ok := w.1
  obtain ⟨⟨a1, a2, a3, a4, a5⟩, ⟨b1, b2, b3⟩, ⟨d1, d2, d3⟩, m0, m1, m7, m36⟩ := R.2.1; have r1 := R.2.2.1; have r2 := R.2.2.2.1; have r5 := R.2.2.2.2.1; have r3 := R.2.2.2.2.2.1; have r4 := R.2.2.2.2.2.2.1; have rv := R.2.2.2.2.2.2.2; have r0 := R.2.1
  obtain ⟨⟨v1, v2, v3, v4⟩, v5, v6, v7, v8, v9⟩ := r3
  obtain ⟨e4, hb4⟩ := md_inE v1
  obtain ⟨ez5, hb5⟩ := md_inE v2
  unfold pm_sail
  by_cases h1 : 0 ≤ f ∧ f ≤ z.1 4 - 1
  · rw [if_pos h1]
    have h1' := h1
    rw [e4] at h1'
    obtain ⟨k, hk, rfl⟩ := ix_p (by omega) h1'
    obtain ⟨q, l10⟩ := c_fleetAt (g := g) w R hk
    have c1 : (nI k).toNatClampNeg = k := nI_clamp (by omega)
    rw [c1]
    obtain ⟨y1, y2, y3, y4, y5, y6⟩ := v5 k hk
    by_cases h2 : z.2 25 k = 0
    · rw [if_pos h2, vb1]
      have l37 : lv P (3, 7, k) := xw_cl w l10 (Or.inl rfl) (show 10 ≠ 0 by decide) (show 10 ≠ 3 by decide)
      have hcf := cf_le (z := z) (f := nI k) (z.1 5).toNatClampNeg
      have x1 : xu c (10, k, 0) 1 1 (4, 7, k) = c (4, 7, k) := xu_n (by rintro ⟨⟩)
      have lp := lc_aboard (g := g) (xw_10 (s := 1) (v := 1) (i := k) (j := 0) w) l10 (lsz_cg y5 rfl (by rw [xu_n (by rintro ⟨⟩)]) x1) (by omega) (fun m hm => by
        obtain ⟨s, u1, u2, u3⟩ := cf_ex _ hm
        obtain ⟨-, -, -, -, -, -, i7, -⟩ := v6 s u1
        rw [u2, c1, u3] at i7
        exact ⟨s, by omega, by rw [x1]; exact i7⟩) _ 0 (Nat.zero_add _)
      have hsab : sab (xu c (10, k, 0) 1 1) k = sab c k := by
        funext m
        unfold sab
        rw [x1, xu_n (by rintro ⟨⟩)]
      rw [hsab, sab_eq (R.2.2.2.2.2.1) (by omega) _ (Nat.le_refl _), l_sum, nI_0] at lp
      have qa : ez_ev g 5 [.ref (P.2.2.1 (10, k, 0))] (xh h0 P (xu c (10, k, 0) 1 1)) = some (some (.int (l_sum (psl z (nI k)) (z.1 5).toNatClampNeg)), xh h0 P (xu c (10, k, 0) 1 1)) := by
        rw [e5, ← lp]
        simp only [s5_0, s5_1, s5_2, s5_3, s5_5, s5_6, s5_9, s5_12, s5_15, s5_16, s5_17, s5_20, s5_21, s5_24, s5_27, s5_30, s5_31, s5_32, s5_35, s5_38, s5_39, zl_n, zl_i, zl_r, zl_0, z10, z01, ez_bd_s, ez_bd_n, eq_self, true_or, or_true, if_true, if_false, zb_eq, zb_eq1, zb_em, zb_em2, ite_not, List.append_nil, List.cons_append, List.nil_append, reduceCtorEq, not_true_eq_false, not_false_eq_true]
      refine xop_s (c1 := xu c (10, k, 0) 1 1) ?_ (xw_10 w) ⟨l1, r0, R1_cg r1 rfl rfl rfl (fun _ => rfl) rfl rfl rfl rfl, R2_cg r2 rfl rfl rfl (fun _ _ _ => rfl) (Nat.le_refl _) rfl (fun t h1 h2 => by (try simp only [md_I2]); (repeat rw [md_A2n (by omega)])), R5_cg r5 (fun _ _ _ => rfl) rfl rfl rfl (fun t h1 h2 => by (try simp only [md_I2]); (repeat rw [md_A2n (by omega)])), ?_, R4_cg r4 (fun _ _ _ => rfl) (fun _ _ _ => ⟨rfl, rfl⟩) (fun _ _ => rfl) (fun _ _ => rfl) (fun _ _ => rfl) rfl (fun t h1 h2 => by (try simp only [md_I2]); (repeat rw [md_A2n (by omega)])), RV_cg rv rfl rfl rfl rfl rfl rfl rfl⟩
      · rw [e61]
        simp only [s61_0, s61_1, s61_2, s61_5, s61_5n, s61_6, s61_6n, s61_7n, s61_7, s61_10, s61_10n, s61_11, s61_14, s61_17, s61_18, s61_19, s61_19n, s61_20, s61_21, s61_24, s61_24n, s61_25, s61_28, zl_n, zl_i, zl_r, zl_0, z10, z01, ez_bd_s, ez_bd_n, eq_self, true_or, or_true, if_true, if_false, zb_eq, zb_eq1, zb_em, zb_em2, ite_not, List.append_nil, List.cons_append, List.nil_append, reduceCtorEq, not_true_eq_false, not_false_eq_true, xo1, xa1, xf1_0, xv1_0, xp1_0, xf1_1, xv1_1, xf1_2, xv1_2, xp1_2, xf1_3, xv1_3, xf1_4, xv1_4, xf1_5, xv1_5, xp1_5, xf1_6, xv1_6, xp1_6, xf1_7, xv1_7, xf1_8, xv1_8, xf1_9, xv1_9, xf1_10, xv1_10, xf1_11, xv1_11, xf1_12, xv1_12, xf1_13, xv1_13, xf1_14, xv1_14, xp1_14, xo3, xa3, xf3_0, xv3_0, xp3_0, xf3_1, xv3_1, xf3_2, xv3_2, xp3_2, xo5, xa5, xf5_0, xv5_0, xp5_0, xf5_1, xv5_1, xp5_1, xf5_2, xv5_2, xp5_2, xf5_3, xv5_3, xp5_3, xf5_4, xv5_4, xp5_4, xf5_5, xv5_5, xp5_5, xf5_6, xv5_6, xp5_6, xf5_7, xv5_7, xp5_7, xf5_8, xv5_8, xp5_8, xf5_9, xv5_9, xp5_9, xf5_10, xv5_10, xp5_10, xf5_11, xv5_11, xp5_11, xf5_12, xv5_12, xp5_12, xo6, xa6, xf6_0, xv6_0, xp6_0, xf6_1, xv6_1, xp6_1, xf6_2, xv6_2, xp6_2, xo7, xa7, xf7_0, xv7_0, xp7_0, xf7_1, xv7_1, xp7_1, xf7_2, xv7_2, xp7_2, xf7_3, xv7_3, xp7_3, xf7_4, xv7_4, xf7_5, xv7_5, xo8, xa8, xf8_0, xv8_0, xp8_0, xf8_1, xv8_1, xo10, xa10, xf10_0, xv10_0, xp10_0, xf10_1, xv10_1, xp10_1, xf10_2, xv10_2, xp10_2, xf10_3, xv10_3, xf10_4, xv10_4, xo12, xa12, xf12_0, xv12_0, xf12_1, xv12_1, xp12_1, xf12_2, xv12_2, xp12_2, xf12_3, xv12_3, xp12_3, xf12_4, xv12_4, xo13, xa13, xf13_0, xv13_0, xf13_1, xv13_1, xp13_1, xo14, xa14, xf14_0, xv14_0, xf14_1, xv14_1, xp14_1, xf14_2, xv14_2, xp14_2, xf14_3, xv14_3, xp14_3, ya2_1, yw2_1, yv2_1, yp2_1, yn2_1, yl2_1, ya2_3, yw2_3, yv2_3, yp2_3, yn2_3, yl2_3, ya2_10, yw2_10, yv2_10, yp2_10, yn2_10, yl2_10, ya2_11, yw2_11, yv2_11, yp2_11, yn2_11, yl2_11, ya9, yw9, yv9, yp9, yn9, yl9, ya11, yw11, yv11, yp11, yn11, yl11, ya15, yw15, yv15, yp15, yn15, yl15, ya16, yw16, yv16, yp16, yn16, yl16, ok10, ok11, ok1i, xu_s, xu_n, ne_eq, Prod.mk.injEq, Nat.reduceEqDiff, false_and, and_false, not_false_eq_true, l1, l21, l23, l16, l30, l31, l32, l210, l211, l33, l34, ok, q, l10, y3, h2, qa]
      · show R3 P (xu c (10, k, 0) 1 1) (md_sA z 25 k 1)
        have Z25 : (md_sA z 25 k 1).2 25 = upd (z.2 25) k 1 := by rw [md_A2, if_pos rfl]
        have Za : ∀ t, t ≠ 25 → (md_sA z 25 k 1).2 t = z.2 t := fun t ht => md_A2n ht
        have hcr : ∀ r, r ≠ (10, k, 0) → xu c (10, k, 0) 1 1 r = c r := fun r hr => xu_n hr
        unfold R3
        rw [md_A1]
        simp only [cf_cg (z1 := md_sA z 25 k 1) (z := z) (Za 28 (by decide)), cn_cg (z1 := md_sA z 25 k 1) (z := z) (Za 31 (by decide)), pl_in_cg (z1 := md_sA z 25 k 1) (z := z) (fun t h1 h2 => Za t (by omega)), Z25, Za 26 (by decide), Za 27 (by decide), Za 28 (by decide), Za 29 (by decide), Za 30 (by decide), Za 31 (by decide), Za 32 (by decide), Za 33 (by decide)]
        refine ⟨⟨v1, v2, lsz_cg v3 rfl rfl rfl, lsz_cg v4 rfl rfl rfl⟩, fun f hf => ?_, fun s hs => ?_, v7, fun f hf => ?_, v9⟩
        · obtain ⟨i1, i2, i3, i4, i5, i6⟩ := v5 f hf
          have k0 : xu c (10, k, 0) 1 1 (10, f, 0) 0 = c (10, f, 0) 0 := xu_t (by decide)
          have k2 : xu c (10, k, 0) 1 1 (10, f, 0) 2 = c (10, f, 0) 2 := xu_t (by decide)
          refine ⟨i1, k0.trans i2, ?_, k2.trans i4, lsz_cg i5 rfl rfl rfl, i6⟩
          unfold upd
          by_cases ef : f = k
          · subst ef
            rw [xu_s, if_pos rfl, if_pos rfl]
          · rw [if_neg ef, hcr _ (by rintro ⟨⟩; exact ef rfl)]
            exact i3
        · obtain ⟨i1, i2, i3, i4, i5, i6, i7, i8, i9, i10, i11, i12⟩ := v6 s hs
          refine ⟨i1, i2, i3, i4, i5, lsz_cg i6 rfl rfl rfl, i7, i8, i9, i10, i11, ?_⟩
          unfold upd
          split
          · exact fun h => absurd h (by decide)
          · exact i12
        · have := v8 f hf
          unfold upd
          rw [if_neg (by omega)]
          exact this
    · rw [if_neg h2]
      refine xop_s (c1 := c) ?_ w R
      rw [e61]
      simp only [s61_0, s61_1, s61_2, s61_5, s61_5n, s61_6, s61_6n, s61_7n, s61_7, s61_10, s61_10n, s61_11, s61_14, s61_17, s61_18, s61_19, s61_19n, s61_20, s61_21, s61_24, s61_24n, s61_25, s61_28, zl_n, zl_i, zl_r, zl_0, z10, z01, ez_bd_s, ez_bd_n, eq_self, true_or, or_true, if_true, if_false, zb_eq, zb_eq1, zb_em, zb_em2, ite_not, List.append_nil, List.cons_append, List.nil_append, reduceCtorEq, not_true_eq_false, not_false_eq_true, xo1, xa1, xf1_0, xv1_0, xp1_0, xf1_1, xv1_1, xf1_2, xv1_2, xp1_2, xf1_3, xv1_3, xf1_4, xv1_4, xf1_5, xv1_5, xp1_5, xf1_6, xv1_6, xp1_6, xf1_7, xv1_7, xf1_8, xv1_8, xf1_9, xv1_9, xf1_10, xv1_10, xf1_11, xv1_11, xf1_12, xv1_12, xf1_13, xv1_13, xf1_14, xv1_14, xp1_14, xo3, xa3, xf3_0, xv3_0, xp3_0, xf3_1, xv3_1, xf3_2, xv3_2, xp3_2, xo5, xa5, xf5_0, xv5_0, xp5_0, xf5_1, xv5_1, xp5_1, xf5_2, xv5_2, xp5_2, xf5_3, xv5_3, xp5_3, xf5_4, xv5_4, xp5_4, xf5_5, xv5_5, xp5_5, xf5_6, xv5_6, xp5_6, xf5_7, xv5_7, xp5_7, xf5_8, xv5_8, xp5_8, xf5_9, xv5_9, xp5_9, xf5_10, xv5_10, xp5_10, xf5_11, xv5_11, xp5_11, xf5_12, xv5_12, xp5_12, xo6, xa6, xf6_0, xv6_0, xp6_0, xf6_1, xv6_1, xp6_1, xf6_2, xv6_2, xp6_2, xo7, xa7, xf7_0, xv7_0, xp7_0, xf7_1, xv7_1, xp7_1, xf7_2, xv7_2, xp7_2, xf7_3, xv7_3, xp7_3, xf7_4, xv7_4, xf7_5, xv7_5, xo8, xa8, xf8_0, xv8_0, xp8_0, xf8_1, xv8_1, xo10, xa10, xf10_0, xv10_0, xp10_0, xf10_1, xv10_1, xp10_1, xf10_2, xv10_2, xp10_2, xf10_3, xv10_3, xf10_4, xv10_4, xo12, xa12, xf12_0, xv12_0, xf12_1, xv12_1, xp12_1, xf12_2, xv12_2, xp12_2, xf12_3, xv12_3, xp12_3, xf12_4, xv12_4, xo13, xa13, xf13_0, xv13_0, xf13_1, xv13_1, xp13_1, xo14, xa14, xf14_0, xv14_0, xf14_1, xv14_1, xp14_1, xf14_2, xv14_2, xp14_2, xf14_3, xv14_3, xp14_3, ya2_1, yw2_1, yv2_1, yp2_1, yn2_1, yl2_1, ya2_3, yw2_3, yv2_3, yp2_3, yn2_3, yl2_3, ya2_10, yw2_10, yv2_10, yp2_10, yn2_10, yl2_10, ya2_11, yw2_11, yv2_11, yp2_11, yn2_11, yl2_11, ya9, yw9, yv9, yp9, yn9, yl9, ya11, yw11, yv11, yp11, yn11, yl11, ya15, yw15, yv15, yp15, yn15, yl15, ya16, yw16, yv16, yp16, yn16, yl16, ok10, ok11, ok1i, xu_s, xu_n, ne_eq, Prod.mk.injEq, Nat.reduceEqDiff, false_and, and_false, not_false_eq_true, l1, l21, l23, l16, l30, l31, l32, l210, l211, l33, l34, ok, q, l10, y3, h2]
  · rw [if_neg h1]
    refine xop_s (c1 := c) ?_ w R
    rw [e61]
    simp only [s61_0, s61_1, s61_2, s61_5, s61_5n, s61_6, s61_6n, s61_7n, s61_7, s61_10, s61_10n, s61_11, s61_14, s61_17, s61_18, s61_19, s61_19n, s61_20, s61_21, s61_24, s61_24n, s61_25, s61_28, zl_n, zl_i, zl_r, zl_0, z10, z01, ez_bd_s, ez_bd_n, eq_self, true_or, or_true, if_true, if_false, zb_eq, zb_eq1, zb_em, zb_em2, ite_not, List.append_nil, List.cons_append, List.nil_append, reduceCtorEq, not_true_eq_false, not_false_eq_true, xo1, xa1, xf1_0, xv1_0, xp1_0, xf1_1, xv1_1, xf1_2, xv1_2, xp1_2, xf1_3, xv1_3, xf1_4, xv1_4, xf1_5, xv1_5, xp1_5, xf1_6, xv1_6, xp1_6, xf1_7, xv1_7, xf1_8, xv1_8, xf1_9, xv1_9, xf1_10, xv1_10, xf1_11, xv1_11, xf1_12, xv1_12, xf1_13, xv1_13, xf1_14, xv1_14, xp1_14, xo3, xa3, xf3_0, xv3_0, xp3_0, xf3_1, xv3_1, xf3_2, xv3_2, xp3_2, xo5, xa5, xf5_0, xv5_0, xp5_0, xf5_1, xv5_1, xp5_1, xf5_2, xv5_2, xp5_2, xf5_3, xv5_3, xp5_3, xf5_4, xv5_4, xp5_4, xf5_5, xv5_5, xp5_5, xf5_6, xv5_6, xp5_6, xf5_7, xv5_7, xp5_7, xf5_8, xv5_8, xp5_8, xf5_9, xv5_9, xp5_9, xf5_10, xv5_10, xp5_10, xf5_11, xv5_11, xp5_11, xf5_12, xv5_12, xp5_12, xo6, xa6, xf6_0, xv6_0, xp6_0, xf6_1, xv6_1, xp6_1, xf6_2, xv6_2, xp6_2, xo7, xa7, xf7_0, xv7_0, xp7_0, xf7_1, xv7_1, xp7_1, xf7_2, xv7_2, xp7_2, xf7_3, xv7_3, xp7_3, xf7_4, xv7_4, xf7_5, xv7_5, xo8, xa8, xf8_0, xv8_0, xp8_0, xf8_1, xv8_1, xo10, xa10, xf10_0, xv10_0, xp10_0, xf10_1, xv10_1, xp10_1, xf10_2, xv10_2, xp10_2, xf10_3, xv10_3, xf10_4, xv10_4, xo12, xa12, xf12_0, xv12_0, xf12_1, xv12_1, xp12_1, xf12_2, xv12_2, xp12_2, xf12_3, xv12_3, xp12_3, xf12_4, xv12_4, xo13, xa13, xf13_0, xv13_0, xf13_1, xv13_1, xp13_1, xo14, xa14, xf14_0, xv14_0, xf14_1, xv14_1, xp14_1, xf14_2, xv14_2, xp14_2, xf14_3, xv14_3, xp14_3, ya2_1, yw2_1, yv2_1, yp2_1, yn2_1, yl2_1, ya2_3, yw2_3, yv2_3, yp2_3, yn2_3, yl2_3, ya2_10, yw2_10, yv2_10, yp2_10, yn2_10, yl2_10, ya2_11, yw2_11, yv2_11, yp2_11, yn2_11, yl2_11, ya9, yw9, yv9, yp9, yn9, yl9, ya11, yw11, yv11, yp11, yn11, yl11, ya15, yw15, yv15, yp15, yn15, yl15, ya16, yw16, yv16, yp16, yn16, yl16, ok10, ok11, ok1i, xu_s, xu_n, ne_eq, Prod.mk.injEq, Nat.reduceEqDiff, false_and, and_false, not_false_eq_true, l1, l21, l23, l16, l30, l31, l32, l210, l211, l33, l34, ok, c_fleetAt_n w R h1]
/-- a ship goes down -/
def gl (c : xR → Nat → Int32) (i k : Nat) : Nat := (c (13, i, k) 0).toNatClampNeg
def gd (c : xR → Nat → Int32) (i : Nat) (e : Int32) : Nat → (xR → Nat → Int32) × Int32
  | 0 => (c, 0)
  | k + 1 => if e = 0 then (xu (gd c i e k).1 (5, gl c i k, 0) 12 ((gd c i e k).1 (5, gl c i k, 0) 12 + c (13, i, k) 1), (gd c i e k).2) else if (gd c i e k).1 (5, gl c i k, 0) 8 = 1 then (xu (xu (gd c i e k).1 (5, gl c i k, 0) 12 ((gd c i e k).1 (5, gl c i k, 0) 12 + c (13, i, k) 1)) (5, gl c i k, 0) 8 3, (gd c i e k).2 + 1) else (xu (gd c i e k).1 (5, gl c i k, 0) 12 ((gd c i e k).1 (5, gl c i k, 0) 12 + c (13, i, k) 1), (gd c i e k).2)
theorem gd_n {i : Nat} {e : Int32} {r : xR} (hr : r.1 ≠ 5) : ∀ k, (gd c i e k).1 r = c r
  | 0 => rfl
  | k + 1 => by
    have ih := gd_n (i := i) (e := e) hr k
    have n5 : ∀ j, r ≠ (5, j, 0) := fun j h => hr (by rw [h])
    rw [gd]
    repeat' split
    all_goals dsimp only
    · rw [xu_n (n5 _), ih]
    · rw [xu_n (n5 _), xu_n (n5 _), ih]
    · rw [xu_n (n5 _), ih]
theorem xw_gd {i : Nat} {e : Int32} (w : xw h0 P c) : ∀ k, xw h0 P (gd c i e k).1
  | 0 => w
  | k + 1 => by
    have ih := xw_gd (i := i) (e := e) w k
    rw [gd]
    repeat' split
    · exact xw_5 ih
    · exact xw_5 (xw_5 ih)
    · exact xw_5 ih
theorem lc_goDown {i n : Nat} {e : Int32} (w : xw h0 P c) (l12 : lv P (12, i, 0)) (hs : lsz P c 8 i n) (hn : n ≤ 200) (hm : ∀ m, m < n → c (4, 8, i) m = nI m) : ∀ d j, j + d = n → ∀ x4 x5, ez_nl x4 = true → ez_rn g 34 9 [some (.ref (P.2.2.1 (12, i, 0))), some (.int e), some (.int (gd c i e j).2), some (.int (nI j)), x4, x5] [] (xh h0 P (gd c i e j).1) = some (some (.int (gd c i e n).2), xh h0 P (gd c i e n).1) := by
  have l38 : lv P (3, 8, i) := xw_cl w l12 (Or.inr rfl) (show 12 ≠ 0 by decide) (show 12 ≠ 3 by decide)
  have ok := w.1
  intro d
  induction d with
  | zero =>
    intro j hj x4 x5 h4
    obtain rfl : j = n := by omega
    have s1 : (gd c i e j).1 (3, 8, i) 2 = nI j := by rw [gd_n (show 3 ≠ 5 by decide)]; exact hs.1
    rw [s34_9]
    simp only [s34_0, s34_1, s34_2, s34_5, s34_6, s34_7, s34_8, s34_10, s34_11, s34_14, s34_17, s34_20, s34_21, s34_24, s34_25, s34_28, s34_31, s34_33, s34_35, s34_38, s34_40, s34_42, s34_43, s34_46, s34_48, s34_51, s34_52, s34_55, s34_56, s34_59, s34_61, s34_64, s34_65, s34_68, s34_70, s34_71, s34_74, s34_77, s34_80, s34_83, s34_84, zl_n, zl_i, zl_r, zl_0, z10, z01, ez_bd_s, ez_bd_n, eq_self, true_or, or_true, if_true, if_false, zb_eq, zb_eq1, zb_em, zb_em2, ite_not, List.append_nil, List.cons_append, List.nil_append, reduceCtorEq, not_true_eq_false, not_false_eq_true, xo1, xa1, xf1_0, xv1_0, xp1_0, xf1_1, xv1_1, xf1_2, xv1_2, xp1_2, xf1_3, xv1_3, xf1_4, xv1_4, xf1_5, xv1_5, xp1_5, xf1_6, xv1_6, xp1_6, xf1_7, xv1_7, xf1_8, xv1_8, xf1_9, xv1_9, xf1_10, xv1_10, xf1_11, xv1_11, xf1_12, xv1_12, xf1_13, xv1_13, xf1_14, xv1_14, xp1_14, xo3, xa3, xf3_0, xv3_0, xp3_0, xf3_1, xv3_1, xf3_2, xv3_2, xp3_2, xo5, xa5, xf5_0, xv5_0, xp5_0, xf5_1, xv5_1, xp5_1, xf5_2, xv5_2, xp5_2, xf5_3, xv5_3, xp5_3, xf5_4, xv5_4, xp5_4, xf5_5, xv5_5, xp5_5, xf5_6, xv5_6, xp5_6, xf5_7, xv5_7, xp5_7, xf5_8, xv5_8, xp5_8, xf5_9, xv5_9, xp5_9, xf5_10, xv5_10, xp5_10, xf5_11, xv5_11, xp5_11, xf5_12, xv5_12, xp5_12, xo6, xa6, xf6_0, xv6_0, xp6_0, xf6_1, xv6_1, xp6_1, xf6_2, xv6_2, xp6_2, xo7, xa7, xf7_0, xv7_0, xp7_0, xf7_1, xv7_1, xp7_1, xf7_2, xv7_2, xp7_2, xf7_3, xv7_3, xp7_3, xf7_4, xv7_4, xf7_5, xv7_5, xo8, xa8, xf8_0, xv8_0, xp8_0, xf8_1, xv8_1, xo10, xa10, xf10_0, xv10_0, xp10_0, xf10_1, xv10_1, xp10_1, xf10_2, xv10_2, xp10_2, xf10_3, xv10_3, xf10_4, xv10_4, xo12, xa12, xf12_0, xv12_0, xf12_1, xv12_1, xp12_1, xf12_2, xv12_2, xp12_2, xf12_3, xv12_3, xp12_3, xf12_4, xv12_4, xo13, xa13, xf13_0, xv13_0, xf13_1, xv13_1, xp13_1, xo14, xa14, xf14_0, xv14_0, xf14_1, xv14_1, xp14_1, xf14_2, xv14_2, xp14_2, xf14_3, xv14_3, xp14_3, ya2_1, yw2_1, yv2_1, yp2_1, yn2_1, yl2_1, ya2_3, yw2_3, yv2_3, yp2_3, yn2_3, yl2_3, ya2_10, yw2_10, yv2_10, yp2_10, yn2_10, yl2_10, ya2_11, yw2_11, yv2_11, yp2_11, yn2_11, yl2_11, ya9, yw9, yv9, yp9, yn9, yl9, ya11, yw11, yv11, yp11, yn11, yl11, ya15, yw15, yv15, yp15, yn15, yl15, ya16, yw16, yv16, yp16, yn16, yl16, ok10, ok11, ok1i, xu_s, xu_n, ne_eq, Prod.mk.injEq, Nat.reduceEqDiff, false_and, and_false, not_false_eq_true, l12, l38, q_size, s1, nI_leT (Nat.le_refl j) (by omega)]
  | succ d ih =>
    intro j hj x4 x5 h4
    have s1 : lsz P (gd c i e j).1 8 i n := lsz_cg hs rfl (by rw [gd_n (show 3 ≠ 5 by decide)]) (gd_n (show 4 ≠ 5 by decide) _)
    obtain ⟨q, l13⟩ := g_get (g := g) (v := j) (xw_gd w j) l38 s1 (show j < n by omega) (by omega) (by rw [gd_n (show 4 ≠ 5 by decide)]; exact hm j (by omega))
    have q : ez_ev g 153 [.ref (P.2.2.1 (3, 8, i)), .int (nI j)] (xh h0 P (gd c i e j).1) = some (some (.ref (P.2.2.1 (13, i, j))), xh h0 P (gd c i e j).1) := q
    have l13 : lv P (13, i, j) := l13
    have g13 : (gd c i e j).1 (13, i, j) = c (13, i, j) := gd_n (show 13 ≠ 5 by decide) _
    have l5 : lv P (5, gl c i j, 0) := by
      have := xw_cl w l13 rfl (show 13 ≠ 0 by decide) (show 13 ≠ 3 by decide)
      exact this
    have hgl : (c (13, i, j) 0).toNatClampNeg = gl c i j := rfl
    have hx := ih (j + 1) (by omega) (some (.ref (P.2.2.1 (13, i, j)))) (some (.ref (P.2.2.1 (5, gl c i j, 0)))) zl_r
    rw [gd] at hx
    rw [s34_9]
    simp only [s34_0, s34_1, s34_2, s34_5, s34_6, s34_7, s34_8, s34_10, s34_11, s34_14, s34_17, s34_20, s34_21, s34_24, s34_25, s34_28, s34_31, s34_33, s34_35, s34_38, s34_40, s34_42, s34_43, s34_46, s34_48, s34_51, s34_52, s34_55, s34_56, s34_59, s34_61, s34_64, s34_65, s34_68, s34_70, s34_71, s34_74, s34_77, s34_80, s34_83, s34_84, zl_n, zl_i, zl_r, zl_0, z10, z01, ez_bd_s, ez_bd_n, eq_self, true_or, or_true, if_true, if_false, zb_eq, zb_eq1, zb_em, zb_em2, ite_not, List.append_nil, List.cons_append, List.nil_append, reduceCtorEq, not_true_eq_false, not_false_eq_true, xo1, xa1, xf1_0, xv1_0, xp1_0, xf1_1, xv1_1, xf1_2, xv1_2, xp1_2, xf1_3, xv1_3, xf1_4, xv1_4, xf1_5, xv1_5, xp1_5, xf1_6, xv1_6, xp1_6, xf1_7, xv1_7, xf1_8, xv1_8, xf1_9, xv1_9, xf1_10, xv1_10, xf1_11, xv1_11, xf1_12, xv1_12, xf1_13, xv1_13, xf1_14, xv1_14, xp1_14, xo3, xa3, xf3_0, xv3_0, xp3_0, xf3_1, xv3_1, xf3_2, xv3_2, xp3_2, xo5, xa5, xf5_0, xv5_0, xp5_0, xf5_1, xv5_1, xp5_1, xf5_2, xv5_2, xp5_2, xf5_3, xv5_3, xp5_3, xf5_4, xv5_4, xp5_4, xf5_5, xv5_5, xp5_5, xf5_6, xv5_6, xp5_6, xf5_7, xv5_7, xp5_7, xf5_8, xv5_8, xp5_8, xf5_9, xv5_9, xp5_9, xf5_10, xv5_10, xp5_10, xf5_11, xv5_11, xp5_11, xf5_12, xv5_12, xp5_12, xo6, xa6, xf6_0, xv6_0, xp6_0, xf6_1, xv6_1, xp6_1, xf6_2, xv6_2, xp6_2, xo7, xa7, xf7_0, xv7_0, xp7_0, xf7_1, xv7_1, xp7_1, xf7_2, xv7_2, xp7_2, xf7_3, xv7_3, xp7_3, xf7_4, xv7_4, xf7_5, xv7_5, xo8, xa8, xf8_0, xv8_0, xp8_0, xf8_1, xv8_1, xo10, xa10, xf10_0, xv10_0, xp10_0, xf10_1, xv10_1, xp10_1, xf10_2, xv10_2, xp10_2, xf10_3, xv10_3, xf10_4, xv10_4, xo12, xa12, xf12_0, xv12_0, xf12_1, xv12_1, xp12_1, xf12_2, xv12_2, xp12_2, xf12_3, xv12_3, xp12_3, xf12_4, xv12_4, xo13, xa13, xf13_0, xv13_0, xf13_1, xv13_1, xp13_1, xo14, xa14, xf14_0, xv14_0, xf14_1, xv14_1, xp14_1, xf14_2, xv14_2, xp14_2, xf14_3, xv14_3, xp14_3, ya2_1, yw2_1, yv2_1, yp2_1, yn2_1, yl2_1, ya2_3, yw2_3, yv2_3, yp2_3, yn2_3, yl2_3, ya2_10, yw2_10, yv2_10, yp2_10, yn2_10, yl2_10, ya2_11, yw2_11, yv2_11, yp2_11, yn2_11, yl2_11, ya9, yw9, yv9, yp9, yn9, yl9, ya11, yw11, yv11, yp11, yn11, yl11, ya15, yw15, yv15, yp15, yn15, yl15, ya16, yw16, yv16, yp16, yn16, yl16, ok10, ok11, ok1i, xu_s, xu_n, ne_eq, Prod.mk.injEq, Nat.reduceEqDiff, false_and, and_false, not_false_eq_true, l12, l38, l13, l5, ok, q_size, s1.1, nI_nleI (show j < n by omega) (by omega), q, g13, hgl, h4, nI_1]
    by_cases e1 : e = 0
    · rw [if_pos e1] at hx ⊢
      exact hx
    · rw [if_neg e1] at hx ⊢
      by_cases e2 : (gd c i e j).1 (5, gl c i j, 0) 8 = 1
      · rw [if_pos e2] at hx ⊢
        exact hx
      · rw [if_neg e2] at hx ⊢
        exact hx
theorem c_goDown {i n : Nat} {e : Int32} (w : xw h0 P c) (l12 : lv P (12, i, 0)) (hs : lsz P c 8 i n) (hn : n ≤ 200) (hm : ∀ m, m < n → c (4, 8, i) m = nI m) : ez_ev g 34 [.ref (P.2.2.1 (12, i, 0)), .int e] (xh h0 P c) = some (some (.int (gd (xu c (12, i, 0) 3 1) i e n).2), xh h0 P (gd (xu c (12, i, 0) 3 1) i e n).1) := by
  have ok := w.1
  have lp := lc_goDown (g := g) (e := e) (xw_12 (s := 3) (v := 1) (i := i) (j := 0) w (by decide)) l12 (lsz_cg hs rfl (by rw [xu_n (by rintro ⟨⟩)]) (xu_n (by rintro ⟨⟩))) hn (fun m h => by rw [xu_n (by rintro ⟨⟩)]; exact hm m h) _ 0 (Nat.zero_add _) none none zl_n
  rw [gd, nI_0] at lp
  rw [e34, ← lp]
  simp only [s34_0, s34_1, s34_2, s34_5, s34_6, s34_7, s34_8, s34_10, s34_11, s34_14, s34_17, s34_20, s34_21, s34_24, s34_25, s34_28, s34_31, s34_33, s34_35, s34_38, s34_40, s34_42, s34_43, s34_46, s34_48, s34_51, s34_52, s34_55, s34_56, s34_59, s34_61, s34_64, s34_65, s34_68, s34_70, s34_71, s34_74, s34_77, s34_80, s34_83, s34_84, zl_n, zl_i, zl_r, zl_0, z10, z01, ez_bd_s, ez_bd_n, eq_self, true_or, or_true, if_true, if_false, zb_eq, zb_eq1, zb_em, zb_em2, ite_not, List.append_nil, List.cons_append, List.nil_append, reduceCtorEq, not_true_eq_false, not_false_eq_true, xo1, xa1, xf1_0, xv1_0, xp1_0, xf1_1, xv1_1, xf1_2, xv1_2, xp1_2, xf1_3, xv1_3, xf1_4, xv1_4, xf1_5, xv1_5, xp1_5, xf1_6, xv1_6, xp1_6, xf1_7, xv1_7, xf1_8, xv1_8, xf1_9, xv1_9, xf1_10, xv1_10, xf1_11, xv1_11, xf1_12, xv1_12, xf1_13, xv1_13, xf1_14, xv1_14, xp1_14, xo3, xa3, xf3_0, xv3_0, xp3_0, xf3_1, xv3_1, xf3_2, xv3_2, xp3_2, xo5, xa5, xf5_0, xv5_0, xp5_0, xf5_1, xv5_1, xp5_1, xf5_2, xv5_2, xp5_2, xf5_3, xv5_3, xp5_3, xf5_4, xv5_4, xp5_4, xf5_5, xv5_5, xp5_5, xf5_6, xv5_6, xp5_6, xf5_7, xv5_7, xp5_7, xf5_8, xv5_8, xp5_8, xf5_9, xv5_9, xp5_9, xf5_10, xv5_10, xp5_10, xf5_11, xv5_11, xp5_11, xf5_12, xv5_12, xp5_12, xo6, xa6, xf6_0, xv6_0, xp6_0, xf6_1, xv6_1, xp6_1, xf6_2, xv6_2, xp6_2, xo7, xa7, xf7_0, xv7_0, xp7_0, xf7_1, xv7_1, xp7_1, xf7_2, xv7_2, xp7_2, xf7_3, xv7_3, xp7_3, xf7_4, xv7_4, xf7_5, xv7_5, xo8, xa8, xf8_0, xv8_0, xp8_0, xf8_1, xv8_1, xo10, xa10, xf10_0, xv10_0, xp10_0, xf10_1, xv10_1, xp10_1, xf10_2, xv10_2, xp10_2, xf10_3, xv10_3, xf10_4, xv10_4, xo12, xa12, xf12_0, xv12_0, xf12_1, xv12_1, xp12_1, xf12_2, xv12_2, xp12_2, xf12_3, xv12_3, xp12_3, xf12_4, xv12_4, xo13, xa13, xf13_0, xv13_0, xf13_1, xv13_1, xp13_1, xo14, xa14, xf14_0, xv14_0, xf14_1, xv14_1, xp14_1, xf14_2, xv14_2, xp14_2, xf14_3, xv14_3, xp14_3, ya2_1, yw2_1, yv2_1, yp2_1, yn2_1, yl2_1, ya2_3, yw2_3, yv2_3, yp2_3, yn2_3, yl2_3, ya2_10, yw2_10, yv2_10, yp2_10, yn2_10, yl2_10, ya2_11, yw2_11, yv2_11, yp2_11, yn2_11, yl2_11, ya9, yw9, yv9, yp9, yn9, yl9, ya11, yw11, yv11, yp11, yn11, yl11, ya15, yw15, yv15, yp15, yn15, yl15, ya16, yw16, yv16, yp16, yn16, yl16, ok10, ok11, ok1i, xu_s, xu_n, ne_eq, Prod.mk.injEq, Nat.reduceEqDiff, false_and, and_false, not_false_eq_true, l12, ok]
/-- what a ship carries of a lot -/
def lo (z : md_S) (i l : Nat) (j : Nat) : Int32 := if z.2 31 j = nI i then (if z.2 32 j = nI l then z.2 33 j else 0) else 0
theorem gd_rel {i N3 : Nat} {e : Int32} {z1 : md_S} (hb : N3 ≤ 150) (z31 : z1.2 31 = z.2 31) (z32 : z1.2 32 = z.2 32) : ∀ j, (∀ k, k < j → md_in (z.2 32 k) N3 = true ∧ (z.2 31 k = nI i → c (13, i, cn z (nI i) k) 0 = z.2 32 k ∧ c (13, i, cn z (nI i) k) 1 = z.2 33 k)) → (∀ l, l < N3 → (gd c i e (cn z (nI i) j)).1 (5, l, 0) 12 = c (5, l, 0) 12 + l_sum (lo z i l) j) ∧ (∀ l t, t ≠ 8 → t ≠ 12 → (gd c i e (cn z (nI i) j)).1 (5, l, 0) t = c (5, l, 0) t) ∧ (e = 0 → (∀ l, (gd c i e (cn z (nI i) j)).1 (5, l, 0) 8 = c (5, l, 0) 8) ∧ (gd c i e (cn z (nI i) j)).2 = 0) ∧ (¬ e = 0 → (∀ l, l < N3 → c (5, l, 0) 8 = z1.2 18 l) → (∀ l, l < N3 → (gd c i e (cn z (nI i) j)).1 (5, l, 0) 8 = (psk z1 (nI i) j).1.2 18 l) ∧ (gd c i e (cn z (nI i) j)).2 = (psk z1 (nI i) j).2)
  | 0, _ => ⟨fun l _ => by rw [cn, gd, l_sum, Int32.add_zero], fun l t _ _ => rfl, fun _ => ⟨fun _ => rfl, rfl⟩, fun _ h => ⟨h, rfl⟩⟩
  | j + 1, hk => by
    obtain ⟨i1, i2, i3, i4⟩ := gd_rel (e := e) hb z31 z32 j (fun k h => hk k (by omega))
    obtain ⟨hj1, hj2⟩ := hk j (by omega)
    rw [cn, psk, z31]
    by_cases e0 : z.2 31 j = nI i
    · obtain ⟨k0, k1⟩ := hj2 e0
      obtain ⟨el, hl⟩ := md_inE hj1
      have hgl : gl c i (cn z (nI i) j) = (z.2 32 j).toNatClampNeg := by unfold gl; rw [k0]
      have elo : ∀ l, l < N3 → lo z i l j = if l = (z.2 32 j).toNatClampNeg then z.2 33 j else 0 := fun l h => by
        unfold lo
        rw [if_pos e0]
        by_cases h5 : l = (z.2 32 j).toNatClampNeg
        · rw [if_pos h5, if_pos (by rw [h5]; exact el)]
        · rw [if_neg h5, if_neg (fun h6 => h5 (by rw [h6, nI_clamp (by omega)]))]
      rw [if_pos e0, gd, if_pos e0, hgl, k1, z32]
      generalize hL : (z.2 32 j).toNatClampNeg = L at *
      generalize gd c i e (cn z (nI i) j) = y at *
      have u12 : ∀ l, l < N3 → xu y.1 (5, L, 0) 12 (y.1 (5, L, 0) 12 + z.2 33 j) (5, l, 0) 12 = c (5, l, 0) 12 + l_sum (lo z i l) (j + 1) := fun l h => by
        rw [l_sum, elo l h]
        by_cases h5 : l = L
        · subst h5
          rw [xu_s, if_pos rfl, if_pos rfl, i1 l h, Int32.add_assoc]
        · rw [xu_n (by rintro ⟨⟩; exact h5 rfl), if_neg h5, Int32.add_zero, i1 l h]
      have u8 : ∀ (v : Int32) l, xu y.1 (5, L, 0) 12 v (5, l, 0) 8 = y.1 (5, l, 0) 8 := fun v l => xu_t (by decide)
      by_cases e1 : e = 0
      · rw [if_pos e1]
        refine ⟨u12, fun l t h1 h2 => (xu_t h2).trans (i2 l t h1 h2), fun _ => ⟨fun l => (u8 _ l).trans ((i3 e1).1 l), (i3 e1).2⟩, fun h => absurd e1 h⟩
      · rw [if_neg e1]
        by_cases e2 : y.1 (5, L, 0) 8 = 1
        · rw [if_pos e2]
          refine ⟨fun l h => (xu_t (by decide)).trans (u12 l h), fun l t h1 h2 => (xu_t h1).trans ((xu_t h2).trans (i2 l t h1 h2)), fun h => absurd h e1, fun h hb8 => ?_⟩
          obtain ⟨w1, w2⟩ := i4 h hb8
          have w3 := w1 L hl
          rw [if_pos (by rw [← w3]; exact e2)]
          refine ⟨fun l h' => ?_, by rw [w2]⟩
          dsimp only
          rw [md_A2, if_pos rfl]
          unfold upd
          by_cases h5 : l = L
          · subst h5
            rw [xu_s, if_pos rfl, if_pos rfl]
          · rw [xu_n (by rintro ⟨⟩; exact h5 rfl), if_neg h5]
            exact (u8 _ l).trans (w1 l h')
        · rw [if_neg e2]
          refine ⟨u12, fun l t h1 h2 => (xu_t h2).trans (i2 l t h1 h2), fun h => absurd h e1, fun h hb8 => ?_⟩
          obtain ⟨w1, w2⟩ := i4 h hb8
          have w3 := w1 L hl
          rw [if_neg (by rw [← w3]; exact e2)]
          exact ⟨fun l h' => (u8 _ l).trans (w1 l h'), w2⟩
    · rw [if_neg e0, if_neg e0]
      refine ⟨fun l h => ?_, i2, i3, i4⟩
      rw [l_sum, lo, if_neg e0, Int32.add_zero]
      exact i1 l h
theorem l_sum_ad {f f' : Nat → Int32} : ∀ n, l_sum (fun j => f j + f' j) n = l_sum f n + l_sum f' n
  | 0 => rfl
  | n + 1 => by
    rw [l_sum, l_sum, l_sum, l_sum_ad n]
    have : ∀ a b p q : Int32, a + b + (p + q) = a + p + (b + q) := fun a b p q => by
      rw [Int32.add_assoc, Int32.add_assoc, ← Int32.add_assoc b p q, Int32.add_comm b p, Int32.add_assoc p b q]
    exact this _ _ _ _
theorem pv3 {t n : Nat} (r : RS P c z t n) : ∀ j, j ≤ n → pv z 3 t j = 0 ∨ pv z 3 t j = 1
  | 0, _ => Or.inl rfl
  | j + 1, h => by
    rw [pv]
    split
    · next e => exact (r.2.2.2.2 j (by omega)).1.2 e
    · exact pv3 r j (by omega)
theorem psk_18 {s : Int32} {l : Nat} : ∀ n, (∀ j, j < n → (z.2 32 j).toNatClampNeg ≠ l) → (psk z s n).1.2 18 l = z.2 18 l
  | 0, _ => rfl
  | n + 1, h => by
    have ih := psk_18 (s := s) n (fun j hj => h j (by omega))
    rw [psk]
    repeat' split
    all_goals try dsimp only
    · rw [md_A2, if_pos rfl]
      unfold upd
      rw [if_neg (fun e => h n (by omega) e.symm)]
      exact ih
    · exact ih
    · exact ih
end OA
