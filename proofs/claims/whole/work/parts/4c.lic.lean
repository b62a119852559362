section O6
variable {g : ez_G} {h h0 h2 : ez_H} {P P2 : xP} {c c2 : xR → Nat → Int32} {z : md_S}
theorem tops_0 {A A3 : Nat} (w2 : xw h2 P2 c2) (l : lv P2 (1, 0, 0)) (ea : P2.2.2.1 (1, 0, 0) = A) (e3 : P2.2.2.1 (3, 0, 0) = A3) : ez_isF ((xh h2 P2 c2).1 A) 9 7 = true ∧ ez_vF ((xh h2 P2 c2).1 A) 7 = .ref A3 ∧ ez_isO ((xh h2 P2 c2).1 A3) 0 = true ∧ ez_ev g 151 [.ref A3] (xh h2 P2 c2) = some (some (.int (c2 (3, 0, 0) 2)), xh h2 P2 c2) := by
  obtain ⟨l1, l21, l23, l16, l30, l31, l32, l210, l211, l33, l34⟩ := w_lvs w2 l
  subst ea e3
  exact ⟨xf1_7 l1, xv1_7 l1, xo3 l30, q_size l30⟩
theorem tops_1 {A A3 : Nat} (w2 : xw h2 P2 c2) (l : lv P2 (1, 0, 0)) (ea : P2.2.2.1 (1, 0, 0) = A) (e3 : P2.2.2.1 (3, 1, 0) = A3) : ez_isF ((xh h2 P2 c2).1 A) 9 8 = true ∧ ez_vF ((xh h2 P2 c2).1 A) 8 = .ref A3 ∧ ez_isO ((xh h2 P2 c2).1 A3) 0 = true ∧ ez_ev g 151 [.ref A3] (xh h2 P2 c2) = some (some (.int (c2 (3, 1, 0) 2)), xh h2 P2 c2) := by
  obtain ⟨l1, l21, l23, l16, l30, l31, l32, l210, l211, l33, l34⟩ := w_lvs w2 l
  subst ea e3
  exact ⟨xf1_8 l1, xv1_8 l1, xo3 l31, q_size l31⟩
theorem tops_2 {A A3 : Nat} (w2 : xw h2 P2 c2) (l : lv P2 (1, 0, 0)) (ea : P2.2.2.1 (1, 0, 0) = A) (e3 : P2.2.2.1 (3, 2, 0) = A3) : ez_isF ((xh h2 P2 c2).1 A) 9 9 = true ∧ ez_vF ((xh h2 P2 c2).1 A) 9 = .ref A3 ∧ ez_isO ((xh h2 P2 c2).1 A3) 0 = true ∧ ez_ev g 151 [.ref A3] (xh h2 P2 c2) = some (some (.int (c2 (3, 2, 0) 2)), xh h2 P2 c2) := by
  obtain ⟨l1, l21, l23, l16, l30, l31, l32, l210, l211, l33, l34⟩ := w_lvs w2 l
  subst ea e3
  exact ⟨xf1_9 l1, xv1_9 l1, xo3 l32, q_size l32⟩
theorem tops_3 {A A3 : Nat} (w2 : xw h2 P2 c2) (l : lv P2 (1, 0, 0)) (ea : P2.2.2.1 (1, 0, 0) = A) (e3 : P2.2.2.1 (3, 3, 0) = A3) : ez_isF ((xh h2 P2 c2).1 A) 9 12 = true ∧ ez_vF ((xh h2 P2 c2).1 A) 12 = .ref A3 ∧ ez_isO ((xh h2 P2 c2).1 A3) 0 = true ∧ ez_ev g 151 [.ref A3] (xh h2 P2 c2) = some (some (.int (c2 (3, 3, 0) 2)), xh h2 P2 c2) := by
  obtain ⟨l1, l21, l23, l16, l30, l31, l32, l210, l211, l33, l34⟩ := w_lvs w2 l
  subst ea e3
  exact ⟨xf1_12 l1, xv1_12 l1, xo3 l33, q_size l33⟩
theorem tops_4 {A A3 : Nat} (w2 : xw h2 P2 c2) (l : lv P2 (1, 0, 0)) (ea : P2.2.2.1 (1, 0, 0) = A) (e3 : P2.2.2.1 (3, 4, 0) = A3) : ez_isF ((xh h2 P2 c2).1 A) 9 13 = true ∧ ez_vF ((xh h2 P2 c2).1 A) 13 = .ref A3 ∧ ez_isO ((xh h2 P2 c2).1 A3) 0 = true ∧ ez_ev g 151 [.ref A3] (xh h2 P2 c2) = some (some (.int (c2 (3, 4, 0) 2)), xh h2 P2 c2) := by
  obtain ⟨l1, l21, l23, l16, l30, l31, l32, l210, l211, l33, l34⟩ := w_lvs w2 l
  subst ea e3
  exact ⟨xf1_13 l1, xv1_13 l1, xo3 l34, q_size l34⟩
theorem cn_le {z z1 : md_S} {s : Int32} (a : z1.2 31 = z.2 31) (b : z1.1 6 = z.1 6) : cn z s (z.1 6).toNatClampNeg ≤ cn z1 s (z1.1 6).toNatClampNeg := by
  rw [b, cn_cg a]
  exact Nat.le_refl _
theorem o_licence {a b s : Int32} (hg : g.1 = P.1) (w : xw h0 P c) (R : RR P c z) : xop g 49 [.int a, .int b, .int s] h0 P c (pm_licence z a b s) := by
  obtain ⟨l1, l21, l23, l16, l30, l31, l32, l210, l211, l33, l34⟩ := w_lvs w R.1; have ok := w.1
  obtain ⟨⟨a1, a2, a3, a4, a5⟩, ⟨b1, b2, b3⟩, ⟨d1, d2, d3⟩, m0, m1, m7, m36⟩ := R.2.1; have r1 := R.2.2.1; have r2 := R.2.2.2.1; have r5 := R.2.2.2.2.1; have r3 := R.2.2.2.2.2.1; have r4 := R.2.2.2.2.2.2.1; have rv := R.2.2.2.2.2.2.2; have r0 := R.2.1
  obtain ⟨e, hb⟩ := md_inE r1.1
  unfold pm_licence
  by_cases h1 : 0 ≤ a ∧ a ≤ z.1 1 - 1
  · rw [if_pos h1]
    by_cases h2 : 0 ≤ b ∧ b ≤ 3
    · rw [if_pos h2]
      by_cases h3 : 1 ≤ s ∧ s ≤ 500
      · rw [if_pos h3]
        by_cases h4 : z.1 2 = 40
        · rw [if_pos h4]
          refine xop_s (c1 := c) ?_ w R
          have t2 : c (3, 1, 0) 2 = 40 := by rw [r1.2.1.1, ← e, h4]
          rw [e49]
          simp only [s49_0, s49_1, s49_2, s49_5, s49_8, s49_9, s49_12, s49_15, s49_16, s49_17, s49_20, s49_23, s49_26, s49_27, s49_30, s49_33, s49_35, s49_38, s49_39, s49_40, s49_41, s49_44, s49_47, s49_48, s49_49, s49_50, s49_51, s49_54, s49_57, s49_58, s49_59, s49_62, s49_65, s49_66, s49_67, zl_n, zl_i, zl_r, zl_0, z10, z01, ez_bd_s, ez_bd_n, eq_self, true_or, or_true, if_true, if_false, zb_eq, zb_eq1, zb_em, zb_em2, ite_not, List.append_nil, List.cons_append, List.nil_append, reduceCtorEq, not_true_eq_false, not_false_eq_true, xo1, xa1, xf1_0, xv1_0, xp1_0, xf1_1, xv1_1, xf1_2, xv1_2, xp1_2, xf1_3, xv1_3, xf1_4, xv1_4, xf1_5, xv1_5, xp1_5, xf1_6, xv1_6, xp1_6, xf1_7, xv1_7, xf1_8, xv1_8, xf1_9, xv1_9, xf1_10, xv1_10, xf1_11, xv1_11, xf1_12, xv1_12, xf1_13, xv1_13, xf1_14, xv1_14, xp1_14, xo3, xa3, xf3_0, xv3_0, xp3_0, xf3_1, xv3_1, xf3_2, xv3_2, xp3_2, xo5, xa5, xf5_0, xv5_0, xp5_0, xf5_1, xv5_1, xp5_1, xf5_2, xv5_2, xp5_2, xf5_3, xv5_3, xp5_3, xf5_4, xv5_4, xp5_4, xf5_5, xv5_5, xp5_5, xf5_6, xv5_6, xp5_6, xf5_7, xv5_7, xp5_7, xf5_8, xv5_8, xp5_8, xf5_9, xv5_9, xp5_9, xf5_10, xv5_10, xp5_10, xf5_11, xv5_11, xp5_11, xf5_12, xv5_12, xp5_12, xo6, xa6, xf6_0, xv6_0, xp6_0, xf6_1, xv6_1, xp6_1, xf6_2, xv6_2, xp6_2, xo7, xa7, xf7_0, xv7_0, xp7_0, xf7_1, xv7_1, xp7_1, xf7_2, xv7_2, xp7_2, xf7_3, xv7_3, xp7_3, xf7_4, xv7_4, xf7_5, xv7_5, xo8, xa8, xf8_0, xv8_0, xp8_0, xf8_1, xv8_1, xo10, xa10, xf10_0, xv10_0, xp10_0, xf10_1, xv10_1, xp10_1, xf10_2, xv10_2, xp10_2, xf10_3, xv10_3, xf10_4, xv10_4, xo12, xa12, xf12_0, xv12_0, xf12_1, xv12_1, xp12_1, xf12_2, xv12_2, xp12_2, xf12_3, xv12_3, xp12_3, xf12_4, xv12_4, xo13, xa13, xf13_0, xv13_0, xf13_1, xv13_1, xp13_1, xo14, xa14, xf14_0, xv14_0, xf14_1, xv14_1, xp14_1, xf14_2, xv14_2, xp14_2, xf14_3, xv14_3, xp14_3, ya2_1, yw2_1, yv2_1, yp2_1, yn2_1, yl2_1, ya2_3, yw2_3, yv2_3, yp2_3, yn2_3, yl2_3, ya2_10, yw2_10, yv2_10, yp2_10, yn2_10, yl2_10, ya2_11, yw2_11, yv2_11, yp2_11, yn2_11, yl2_11, ya9, yw9, yv9, yp9, yn9, yl9, ya11, yw11, yv11, yp11, yn11, yl11, ya15, yw15, yv15, yp15, yn15, yl15, ya16, yw16, yv16, yp16, yn16, yl16, ok10, ok11, ok1i, xu_s, xu_n, ne_eq, Prod.mk.injEq, Nat.reduceEqDiff, false_and, and_false, not_false_eq_true, l1, l21, l23, l16, l30, l31, l32, l210, l211, l33, l34, ok, c_isMerchant l1, c_isSort, c_within, a2, h1, h2, h3, and_self, q_size, t2, show ((40 : Int32) < 40) = False by decide]
        · rw [if_neg h4]
          have hn : (z.1 2).toNatClampNeg < 40 := by
            refine Nat.lt_of_le_of_ne (by omega) fun e5 => h4 ?_
            rw [e, e5]
            rfl
          generalize hN : (z.1 2).toNatClampNeg = n at e hb hn
          have s1 := r1.2.1
          rw [hN] at s1
          have hnl : ¬ lv P (6, n, 0) := fun hl => by
            have := (rv (6, n, 0) (show 6 ≠ 0 by decide) hl).2.1 rfl
            rw [hN] at this
            exact absurd this (Nat.lt_irrefl _)
          obtain ⟨h1', e1, w1, f1⟩ := x_new1 (r := (6, n, 0)) (f := fun i => if i = 0 then a else if i = 1 then b else s) (E := .inr (3, [.int a, .int b, .int s])) (n := 3) w (show 6 ≠ 0 by decide) (show 6 ≠ 4 by decide) hnl (fun h => absurd h (show ¬ 6 = 3 by decide)) rfl (fun r' hx => (show False from hx).elim)
          generalize hP1 : pad P (6, n, 0) h0.2.1 = P1 at e1 w1 f1
          have q0 := w.2.1 h0.2.1 (Nat.le_refl _)
          have pa : ∀ r, r ≠ (6, n, 0) → P1.2.2.1 r = P.2.2.1 r := fun r hr => by rw [← hP1]; exact pad_a hr
          have pr : P1.2.2.1 (6, n, 0) = h0.2.1 := by rw [← hP1]; exact pad_r
          have pc : ∀ r, r ≠ (6, n, 0) → P1.2.2.2 r = P.2.2.2 r := fun r hr => by rw [← hP1]; exact pad_c hr
          have pl : ∀ r, r.1 ≠ 0 → r ≠ (6, n, 0) → (lv P1 r ↔ lv P r) := fun r h0 hr => by rw [← hP1]; exact lv_pad q0 h0 hr
          have plr : lv P1 (6, n, 0) := by rw [← hP1]; exact lv_pad_r
          obtain ⟨h2', P2, e2, w2, gr, s2⟩ := q_add (g := g) (L := 1) (i := 0) (n := n) (v := n) w1 (hg.trans f1.1.symm) ((pl (3, 1, 0) (by decide) (by rintro ⟨⟩)).mpr l31) (lsz_cg s1 (pc _ (by rintro ⟨⟩)) rfl rfl) (by omega) (by omega) plr
          have e2 : ez_ev g 155 [.ref (P.2.2.1 (3, 1, 0)), .ref (xh h0 P c).2.1] (xh h1' P1 (xs c (6, n, 0) fun i => if i = 0 then a else if i = 1 then b else s)) = some (some (.int 1), xh h2' P2 (xad (xs c (6, n, 0) fun i => if i = 0 then a else if i = 1 then b else s) 1 0 n n)) := by
            rw [← pa (3, 1, 0) (by rintro ⟨⟩)]
            show ez_ev g 155 [_, .ref h0.2.1] _ = _
            rw [← pr]
            exact e2
          have t0 : ez_isO ((xh h1' P1 (xs c (6, n, 0) fun i => if i = 0 then a else if i = 1 then b else s)).1 (P.2.2.1 (3, 1, 0))) 0 = true := by
            rw [← pa (3, 1, 0) (by rintro ⟨⟩)]
            exact xo3 ((pl (3, 1, 0) (by decide) (by rintro ⟨⟩)).mpr l31)
          generalize hc2 : xad (xs c (6, n, 0) fun i => if i = 0 then a else if i = 1 then b else s) 1 0 n n = c2 at e2 w2 s2
          have hc : ∀ r, r ≠ (6, n, 0) → r ≠ (3, 1, 0) → r ≠ (4, 1, 0) → c2 r = c r := fun r u1 u2 u3 => by rw [← hc2, xad_n u2 u3, xs_n u1]
          have hp : ∀ r, r ≠ (6, n, 0) → r ≠ (3, 1, 0) → P2.2.2.2 r = P.2.2.2 r := fun r u1 u2 => (gr.2.2.1 r u2).trans (pc r u1)
          have ea : ∀ r, r ≠ (6, n, 0) → r ≠ (4, 1, 0) → P2.2.2.1 r = P.2.2.1 r := fun r u1 u2 => (gr.1 r u2).trans (pa r u1)
          have el : ∀ r, r.1 ≠ 0 → r ≠ (6, n, 0) → r ≠ (4, 1, 0) → (lv P2 r ↔ lv P r) := fun r u0 u1 u2 => (gr.2.1 r u0 u2).trans (pl r u0 u1)
          have l1' : lv P2 (1, 0, 0) := (el _ (by decide) (by rintro ⟨⟩) (by rintro ⟨⟩)).mpr l1
          obtain ⟨t1, t2, t3, t4⟩ := tops_1 (g := g) w2 l1' (ea _ (by rintro ⟨⟩) (by rintro ⟨⟩)) (ea _ (by rintro ⟨⟩) (by rintro ⟨⟩))
          rw [s2.1] at t4
          refine ⟨h2', P2, c2, ?_, w2, ⟨l1', R0_cg r0 (hc _ (by rintro ⟨⟩ <;> omega) (by rintro ⟨⟩ <;> omega) (by rintro ⟨⟩ <;> omega)) (hc _ (by rintro ⟨⟩ <;> omega) (by rintro ⟨⟩ <;> omega) (by rintro ⟨⟩ <;> omega)) (hc _ (by rintro ⟨⟩ <;> omega) (by rintro ⟨⟩ <;> omega) (by rintro ⟨⟩ <;> omega)) (hc _ (by rintro ⟨⟩ <;> omega) (by rintro ⟨⟩ <;> omega) (by rintro ⟨⟩ <;> omega)) (hc _ (by rintro ⟨⟩ <;> omega) (by rintro ⟨⟩ <;> omega) (by rintro ⟨⟩ <;> omega)) (hc _ (by rintro ⟨⟩ <;> omega) (by rintro ⟨⟩ <;> omega) (by rintro ⟨⟩ <;> omega)) rfl rfl rfl rfl rfl rfl rfl rfl rfl rfl, ?_, R2_cg r2 (hp _ (by rintro ⟨⟩ <;> omega) (by rintro ⟨⟩ <;> omega)) (by rw [hc _ (by rintro ⟨⟩ <;> omega) (by rintro ⟨⟩ <;> omega) (by rintro ⟨⟩ <;> omega)]) (hc _ (by rintro ⟨⟩ <;> omega) (by rintro ⟨⟩ <;> omega) (by rintro ⟨⟩ <;> omega)) (fun _ _ _ => (by rw [hc _ (by rintro ⟨⟩ <;> omega) (by rintro ⟨⟩ <;> omega) (by rintro ⟨⟩ <;> omega)])) (Nat.le_refl _) rfl (fun t h1 h2 => by (try simp only [md_I2]); (repeat rw [md_A2n (by omega)])), R5_cg r5 (fun _ _ _ => (by rw [hc _ (by rintro ⟨⟩ <;> omega) (by rintro ⟨⟩ <;> omega) (by rintro ⟨⟩ <;> omega)])) rfl rfl rfl (fun t h1 h2 => by (try simp only [md_I2]); (repeat rw [md_A2n (by omega)])), R3_cg r3 (fun _ _ _ => (hp _ (by rintro ⟨⟩ <;> omega) (by rintro ⟨⟩ <;> omega))) (fun _ _ _ => ⟨(by rw [hc _ (by rintro ⟨⟩ <;> omega) (by rintro ⟨⟩ <;> omega) (by rintro ⟨⟩ <;> omega)]), (hc _ (by rintro ⟨⟩ <;> omega) (by rintro ⟨⟩ <;> omega) (by rintro ⟨⟩ <;> omega))⟩) (fun _ _ => (hc _ (by rintro ⟨⟩ <;> omega) (by rintro ⟨⟩ <;> omega) (by rintro ⟨⟩ <;> omega))) (fun _ _ => (hc _ (by rintro ⟨⟩ <;> omega) (by rintro ⟨⟩ <;> omega) (by rintro ⟨⟩ <;> omega))) (fun _ _ => (hc _ (by rintro ⟨⟩ <;> omega) (by rintro ⟨⟩ <;> omega) (by rintro ⟨⟩ <;> omega))) (fun _ _ => (hc _ (by rintro ⟨⟩ <;> omega) (by rintro ⟨⟩ <;> omega) (by rintro ⟨⟩ <;> omega))) rfl rfl rfl (fun t h1 h2 => by (try simp only [md_I2]); (repeat rw [md_A2n (by omega)])), R4_cg r4 (fun _ _ _ => (hp _ (by rintro ⟨⟩ <;> omega) (by rintro ⟨⟩ <;> omega))) (fun _ _ _ => ⟨(by rw [hc _ (by rintro ⟨⟩ <;> omega) (by rintro ⟨⟩ <;> omega) (by rintro ⟨⟩ <;> omega)]), (hc _ (by rintro ⟨⟩ <;> omega) (by rintro ⟨⟩ <;> omega) (by rintro ⟨⟩ <;> omega))⟩) (fun _ _ => (hc _ (by rintro ⟨⟩ <;> omega) (by rintro ⟨⟩ <;> omega) (by rintro ⟨⟩ <;> omega))) (fun _ _ => (hc _ (by rintro ⟨⟩ <;> omega) (by rintro ⟨⟩ <;> omega) (by rintro ⟨⟩ <;> omega))) (fun _ _ => (hc _ (by rintro ⟨⟩ <;> omega) (by rintro ⟨⟩ <;> omega) (by rintro ⟨⟩ <;> omega))) rfl (fun t h1 h2 => by (try simp only [md_I2]); (repeat rw [md_A2n (by omega)])), ?_⟩, ea _ (by rintro ⟨⟩) (by rintro ⟨⟩), xfr_w (xfr_t f1 gr.2.2.2) (by decide) (by decide)⟩
          · rw [e49]
            simp only [s49_0, s49_1, s49_2, s49_5, s49_8, s49_9, s49_12, s49_15, s49_16, s49_17, s49_20, s49_23, s49_26, s49_27, s49_30, s49_33, s49_35, s49_38, s49_39, s49_40, s49_41, s49_44, s49_47, s49_48, s49_49, s49_50, s49_51, s49_54, s49_57, s49_58, s49_59, s49_62, s49_65, s49_66, s49_67, zl_n, zl_i, zl_r, zl_0, z10, z01, ez_bd_s, ez_bd_n, eq_self, true_or, or_true, if_true, if_false, zb_eq, zb_eq1, zb_em, zb_em2, ite_not, List.append_nil, List.cons_append, List.nil_append, reduceCtorEq, not_true_eq_false, not_false_eq_true, xo1, xa1, xf1_0, xv1_0, xp1_0, xf1_1, xv1_1, xf1_2, xv1_2, xp1_2, xf1_3, xv1_3, xf1_4, xv1_4, xf1_5, xv1_5, xp1_5, xf1_6, xv1_6, xp1_6, xf1_7, xv1_7, xf1_8, xv1_8, xf1_9, xv1_9, xf1_10, xv1_10, xf1_11, xv1_11, xf1_12, xv1_12, xf1_13, xv1_13, xf1_14, xv1_14, xp1_14, xo3, xa3, xf3_0, xv3_0, xp3_0, xf3_1, xv3_1, xf3_2, xv3_2, xp3_2, xo5, xa5, xf5_0, xv5_0, xp5_0, xf5_1, xv5_1, xp5_1, xf5_2, xv5_2, xp5_2, xf5_3, xv5_3, xp5_3, xf5_4, xv5_4, xp5_4, xf5_5, xv5_5, xp5_5, xf5_6, xv5_6, xp5_6, xf5_7, xv5_7, xp5_7, xf5_8, xv5_8, xp5_8, xf5_9, xv5_9, xp5_9, xf5_10, xv5_10, xp5_10, xf5_11, xv5_11, xp5_11, xf5_12, xv5_12, xp5_12, xo6, xa6, xf6_0, xv6_0, xp6_0, xf6_1, xv6_1, xp6_1, xf6_2, xv6_2, xp6_2, xo7, xa7, xf7_0, xv7_0, xp7_0, xf7_1, xv7_1, xp7_1, xf7_2, xv7_2, xp7_2, xf7_3, xv7_3, xp7_3, xf7_4, xv7_4, xf7_5, xv7_5, xo8, xa8, xf8_0, xv8_0, xp8_0, xf8_1, xv8_1, xo10, xa10, xf10_0, xv10_0, xp10_0, xf10_1, xv10_1, xp10_1, xf10_2, xv10_2, xp10_2, xf10_3, xv10_3, xf10_4, xv10_4, xo12, xa12, xf12_0, xv12_0, xf12_1, xv12_1, xp12_1, xf12_2, xv12_2, xp12_2, xf12_3, xv12_3, xp12_3, xf12_4, xv12_4, xo13, xa13, xf13_0, xv13_0, xf13_1, xv13_1, xp13_1, xo14, xa14, xf14_0, xv14_0, xf14_1, xv14_1, xp14_1, xf14_2, xv14_2, xp14_2, xf14_3, xv14_3, xp14_3, ya2_1, yw2_1, yv2_1, yp2_1, yn2_1, yl2_1, ya2_3, yw2_3, yv2_3, yp2_3, yn2_3, yl2_3, ya2_10, yw2_10, yv2_10, yp2_10, yn2_10, yl2_10, ya2_11, yw2_11, yv2_11, yp2_11, yn2_11, yl2_11, ya9, yw9, yv9, yp9, yn9, yl9, ya11, yw11, yv11, yp11, yn11, yl11, ya15, yw15, yv15, yp15, yn15, yl15, ya16, yw16, yv16, yp16, yn16, yl16, ok10, ok11, ok1i, xu_s, xu_n, ne_eq, Prod.mk.injEq, Nat.reduceEqDiff, false_and, and_false, not_false_eq_true, l1, l21, l23, l16, l30, l31, l32, l210, l211, l33, l34, ok, c_isMerchant l1, c_isSort, c_within, a2, h1, h2, h3, and_self, q_size, s1.1, show (nI n < 40) = True from eq_true (nI_lt (b := 40) hn (by decide)), c_licInit, e1, e2, t0, t1, t2, t3, t4, e, nI_1, nI_pred]
          · have e1z : (md_sI (md_sA (md_sA (md_sA z 9 n a) 10 n b) 11 n s) 2 (z.1 2 + 1)).1 2 = nI (n + 1) := by
              show z.1 2 + 1 = _
              rw [e, nI_1]
            refine ⟨by rw [e1z]; exact md_inN (by omega) (by decide), by rw [e1z, nI_clamp (by omega)]; exact s2, fun j hj => ?_⟩
            rw [e1z, nI_clamp (by omega)] at hj
            show c2 (4, 1, 0) j = _ ∧ c2 (6, j, 0) 0 = upd (z.2 9) n a j ∧ c2 (6, j, 0) 1 = upd (z.2 10) n b j ∧ c2 (6, j, 0) 2 = upd (z.2 11) n s j ∧ md_in (upd (z.2 11) n s j) 501 = true
            have u4 : c2 (4, 1, 0) j = upd (c (4, 1, 0)) n (nI n) j := by rw [← hc2, xad_4]; rfl
            rw [u4]
            unfold upd
            by_cases ej : j = n
            · subst ej
              have u6 : c2 (6, j, 0) = fun i => if i = 0 then a else if i = 1 then b else s := by rw [← hc2, xad_n (by rintro ⟨⟩) (by rintro ⟨⟩), xs_r]
              rw [u6]
              simp only [if_true]
              refine ⟨?_, ?_, ?_, ?_, md_inB (n := 500) (Int32.le_trans (by decide) h3.1) h3.2 (by decide)⟩
              all_goals first | trivial | rfl
            · rw [hc (6, j, 0) (by rintro ⟨⟩; exact ej rfl) (by rintro ⟨⟩) (by rintro ⟨⟩)]
              simp only [if_neg ej]
              exact r1.2.2 j (by omega)
          · intro r u0 hl
            by_cases u1 : r = (4, 1, 0)
            · rw [u1]; exact (bd34 (by decide)).2
            · by_cases u2 : r = (6, n, 0)
              · rw [u2]
                refine bd6 ?_
                show n < (z.1 2 + 1).toNatClampNeg
                rw [e, nI_1, nI_clamp (by omega)]
                omega
              · refine bd_m (rv r u0 ((el r u0 u2 u1).mp hl)) ?_ (Nat.le_refl _) (Nat.le_refl _) (Nat.le_refl _) (Nat.le_refl _) (fun s => ?_)
                · show _ ≤ (z.1 2 + 1).toNatClampNeg
                  rw [hN, e, nI_1, nI_clamp (by omega)]
                  omega
                · exact cn_le rfl rfl
      · rw [if_neg h3]
        refine xop_s (c1 := c) ?_ w R
        rw [e49]
        simp only [s49_0, s49_1, s49_2, s49_5, s49_8, s49_9, s49_12, s49_15, s49_16, s49_17, s49_20, s49_23, s49_26, s49_27, s49_30, s49_33, s49_35, s49_38, s49_39, s49_40, s49_41, s49_44, s49_47, s49_48, s49_49, s49_50, s49_51, s49_54, s49_57, s49_58, s49_59, s49_62, s49_65, s49_66, s49_67, zl_n, zl_i, zl_r, zl_0, z10, z01, ez_bd_s, ez_bd_n, eq_self, true_or, or_true, if_true, if_false, zb_eq, zb_eq1, zb_em, zb_em2, ite_not, List.append_nil, List.cons_append, List.nil_append, reduceCtorEq, not_true_eq_false, not_false_eq_true, xo1, xa1, xf1_0, xv1_0, xp1_0, xf1_1, xv1_1, xf1_2, xv1_2, xp1_2, xf1_3, xv1_3, xf1_4, xv1_4, xf1_5, xv1_5, xp1_5, xf1_6, xv1_6, xp1_6, xf1_7, xv1_7, xf1_8, xv1_8, xf1_9, xv1_9, xf1_10, xv1_10, xf1_11, xv1_11, xf1_12, xv1_12, xf1_13, xv1_13, xf1_14, xv1_14, xp1_14, xo3, xa3, xf3_0, xv3_0, xp3_0, xf3_1, xv3_1, xf3_2, xv3_2, xp3_2, xo5, xa5, xf5_0, xv5_0, xp5_0, xf5_1, xv5_1, xp5_1, xf5_2, xv5_2, xp5_2, xf5_3, xv5_3, xp5_3, xf5_4, xv5_4, xp5_4, xf5_5, xv5_5, xp5_5, xf5_6, xv5_6, xp5_6, xf5_7, xv5_7, xp5_7, xf5_8, xv5_8, xp5_8, xf5_9, xv5_9, xp5_9, xf5_10, xv5_10, xp5_10, xf5_11, xv5_11, xp5_11, xf5_12, xv5_12, xp5_12, xo6, xa6, xf6_0, xv6_0, xp6_0, xf6_1, xv6_1, xp6_1, xf6_2, xv6_2, xp6_2, xo7, xa7, xf7_0, xv7_0, xp7_0, xf7_1, xv7_1, xp7_1, xf7_2, xv7_2, xp7_2, xf7_3, xv7_3, xp7_3, xf7_4, xv7_4, xf7_5, xv7_5, xo8, xa8, xf8_0, xv8_0, xp8_0, xf8_1, xv8_1, xo10, xa10, xf10_0, xv10_0, xp10_0, xf10_1, xv10_1, xp10_1, xf10_2, xv10_2, xp10_2, xf10_3, xv10_3, xf10_4, xv10_4, xo12, xa12, xf12_0, xv12_0, xf12_1, xv12_1, xp12_1, xf12_2, xv12_2, xp12_2, xf12_3, xv12_3, xp12_3, xf12_4, xv12_4, xo13, xa13, xf13_0, xv13_0, xf13_1, xv13_1, xp13_1, xo14, xa14, xf14_0, xv14_0, xf14_1, xv14_1, xp14_1, xf14_2, xv14_2, xp14_2, xf14_3, xv14_3, xp14_3, ya2_1, yw2_1, yv2_1, yp2_1, yn2_1, yl2_1, ya2_3, yw2_3, yv2_3, yp2_3, yn2_3, yl2_3, ya2_10, yw2_10, yv2_10, yp2_10, yn2_10, yl2_10, ya2_11, yw2_11, yv2_11, yp2_11, yn2_11, yl2_11, ya9, yw9, yv9, yp9, yn9, yl9, ya11, yw11, yv11, yp11, yn11, yl11, ya15, yw15, yv15, yp15, yn15, yl15, ya16, yw16, yv16, yp16, yn16, yl16, ok10, ok11, ok1i, xu_s, xu_n, ne_eq, Prod.mk.injEq, Nat.reduceEqDiff, false_and, and_false, not_false_eq_true, l1, l21, l23, l16, l30, l31, l32, l210, l211, l33, l34, ok, c_isMerchant l1, c_isSort, c_within, a2, h1, h2, and_self]
        simp only [if_neg h3, zl_n, zl_i, zl_r, zl_0, z10, z01, ez_bd_s, ez_bd_n, eq_self, true_or, or_true, if_true, if_false, zb_eq, zb_eq1, zb_em, zb_em2, ite_not, List.append_nil, List.cons_append, List.nil_append, reduceCtorEq, not_true_eq_false, not_false_eq_true]
    · rw [if_neg h2]
      refine xop_s (c1 := c) ?_ w R
      rw [e49]
      simp only [s49_0, s49_1, s49_2, s49_5, s49_8, s49_9, s49_12, s49_15, s49_16, s49_17, s49_20, s49_23, s49_26, s49_27, s49_30, s49_33, s49_35, s49_38, s49_39, s49_40, s49_41, s49_44, s49_47, s49_48, s49_49, s49_50, s49_51, s49_54, s49_57, s49_58, s49_59, s49_62, s49_65, s49_66, s49_67, zl_n, zl_i, zl_r, zl_0, z10, z01, ez_bd_s, ez_bd_n, eq_self, true_or, or_true, if_true, if_false, zb_eq, zb_eq1, zb_em, zb_em2, ite_not, List.append_nil, List.cons_append, List.nil_append, reduceCtorEq, not_true_eq_false, not_false_eq_true, xo1, xa1, xf1_0, xv1_0, xp1_0, xf1_1, xv1_1, xf1_2, xv1_2, xp1_2, xf1_3, xv1_3, xf1_4, xv1_4, xf1_5, xv1_5, xp1_5, xf1_6, xv1_6, xp1_6, xf1_7, xv1_7, xf1_8, xv1_8, xf1_9, xv1_9, xf1_10, xv1_10, xf1_11, xv1_11, xf1_12, xv1_12, xf1_13, xv1_13, xf1_14, xv1_14, xp1_14, xo3, xa3, xf3_0, xv3_0, xp3_0, xf3_1, xv3_1, xf3_2, xv3_2, xp3_2, xo5, xa5, xf5_0, xv5_0, xp5_0, xf5_1, xv5_1, xp5_1, xf5_2, xv5_2, xp5_2, xf5_3, xv5_3, xp5_3, xf5_4, xv5_4, xp5_4, xf5_5, xv5_5, xp5_5, xf5_6, xv5_6, xp5_6, xf5_7, xv5_7, xp5_7, xf5_8, xv5_8, xp5_8, xf5_9, xv5_9, xp5_9, xf5_10, xv5_10, xp5_10, xf5_11, xv5_11, xp5_11, xf5_12, xv5_12, xp5_12, xo6, xa6, xf6_0, xv6_0, xp6_0, xf6_1, xv6_1, xp6_1, xf6_2, xv6_2, xp6_2, xo7, xa7, xf7_0, xv7_0, xp7_0, xf7_1, xv7_1, xp7_1, xf7_2, xv7_2, xp7_2, xf7_3, xv7_3, xp7_3, xf7_4, xv7_4, xf7_5, xv7_5, xo8, xa8, xf8_0, xv8_0, xp8_0, xf8_1, xv8_1, xo10, xa10, xf10_0, xv10_0, xp10_0, xf10_1, xv10_1, xp10_1, xf10_2, xv10_2, xp10_2, xf10_3, xv10_3, xf10_4, xv10_4, xo12, xa12, xf12_0, xv12_0, xf12_1, xv12_1, xp12_1, xf12_2, xv12_2, xp12_2, xf12_3, xv12_3, xp12_3, xf12_4, xv12_4, xo13, xa13, xf13_0, xv13_0, xf13_1, xv13_1, xp13_1, xo14, xa14, xf14_0, xv14_0, xf14_1, xv14_1, xp14_1, xf14_2, xv14_2, xp14_2, xf14_3, xv14_3, xp14_3, ya2_1, yw2_1, yv2_1, yp2_1, yn2_1, yl2_1, ya2_3, yw2_3, yv2_3, yp2_3, yn2_3, yl2_3, ya2_10, yw2_10, yv2_10, yp2_10, yn2_10, yl2_10, ya2_11, yw2_11, yv2_11, yp2_11, yn2_11, yl2_11, ya9, yw9, yv9, yp9, yn9, yl9, ya11, yw11, yv11, yp11, yn11, yl11, ya15, yw15, yv15, yp15, yn15, yl15, ya16, yw16, yv16, yp16, yn16, yl16, ok10, ok11, ok1i, xu_s, xu_n, ne_eq, Prod.mk.injEq, Nat.reduceEqDiff, false_and, and_false, not_false_eq_true, l1, l21, l23, l16, l30, l31, l32, l210, l211, l33, l34, ok, c_isMerchant l1, c_isSort, c_within, a2, h1, and_self]
      simp only [if_neg h2, zl_n, zl_i, zl_r, zl_0, z10, z01, ez_bd_s, ez_bd_n, eq_self, true_or, or_true, if_true, if_false, zb_eq, zb_eq1, zb_em, zb_em2, ite_not, List.append_nil, List.cons_append, List.nil_append, reduceCtorEq, not_true_eq_false, not_false_eq_true]
  · rw [if_neg h1]
    refine xop_s (c1 := c) ?_ w R
    rw [e49]
    simp only [s49_0, s49_1, s49_2, s49_5, s49_8, s49_9, s49_12, s49_15, s49_16, s49_17, s49_20, s49_23, s49_26, s49_27, s49_30, s49_33, s49_35, s49_38, s49_39, s49_40, s49_41, s49_44, s49_47, s49_48, s49_49, s49_50, s49_51, s49_54, s49_57, s49_58, s49_59, s49_62, s49_65, s49_66, s49_67, zl_n, zl_i, zl_r, zl_0, z10, z01, ez_bd_s, ez_bd_n, eq_self, true_or, or_true, if_true, if_false, zb_eq, zb_eq1, zb_em, zb_em2, ite_not, List.append_nil, List.cons_append, List.nil_append, reduceCtorEq, not_true_eq_false, not_false_eq_true, xo1, xa1, xf1_0, xv1_0, xp1_0, xf1_1, xv1_1, xf1_2, xv1_2, xp1_2, xf1_3, xv1_3, xf1_4, xv1_4, xf1_5, xv1_5, xp1_5, xf1_6, xv1_6, xp1_6, xf1_7, xv1_7, xf1_8, xv1_8, xf1_9, xv1_9, xf1_10, xv1_10, xf1_11, xv1_11, xf1_12, xv1_12, xf1_13, xv1_13, xf1_14, xv1_14, xp1_14, xo3, xa3, xf3_0, xv3_0, xp3_0, xf3_1, xv3_1, xf3_2, xv3_2, xp3_2, xo5, xa5, xf5_0, xv5_0, xp5_0, xf5_1, xv5_1, xp5_1, xf5_2, xv5_2, xp5_2, xf5_3, xv5_3, xp5_3, xf5_4, xv5_4, xp5_4, xf5_5, xv5_5, xp5_5, xf5_6, xv5_6, xp5_6, xf5_7, xv5_7, xp5_7, xf5_8, xv5_8, xp5_8, xf5_9, xv5_9, xp5_9, xf5_10, xv5_10, xp5_10, xf5_11, xv5_11, xp5_11, xf5_12, xv5_12, xp5_12, xo6, xa6, xf6_0, xv6_0, xp6_0, xf6_1, xv6_1, xp6_1, xf6_2, xv6_2, xp6_2, xo7, xa7, xf7_0, xv7_0, xp7_0, xf7_1, xv7_1, xp7_1, xf7_2, xv7_2, xp7_2, xf7_3, xv7_3, xp7_3, xf7_4, xv7_4, xf7_5, xv7_5, xo8, xa8, xf8_0, xv8_0, xp8_0, xf8_1, xv8_1, xo10, xa10, xf10_0, xv10_0, xp10_0, xf10_1, xv10_1, xp10_1, xf10_2, xv10_2, xp10_2, xf10_3, xv10_3, xf10_4, xv10_4, xo12, xa12, xf12_0, xv12_0, xf12_1, xv12_1, xp12_1, xf12_2, xv12_2, xp12_2, xf12_3, xv12_3, xp12_3, xf12_4, xv12_4, xo13, xa13, xf13_0, xv13_0, xf13_1, xv13_1, xp13_1, xo14, xa14, xf14_0, xv14_0, xf14_1, xv14_1, xp14_1, xf14_2, xv14_2, xp14_2, xf14_3, xv14_3, xp14_3, ya2_1, yw2_1, yv2_1, yp2_1, yn2_1, yl2_1, ya2_3, yw2_3, yv2_3, yp2_3, yn2_3, yl2_3, ya2_10, yw2_10, yv2_10, yp2_10, yn2_10, yl2_10, ya2_11, yw2_11, yv2_11, yp2_11, yn2_11, yl2_11, ya9, yw9, yv9, yp9, yn9, yl9, ya11, yw11, yv11, yp11, yn11, yl11, ya15, yw15, yv15, yp15, yn15, yl15, ya16, yw16, yv16, yp16, yn16, yl16, ok10, ok11, ok1i, xu_s, xu_n, ne_eq, Prod.mk.injEq, Nat.reduceEqDiff, false_and, and_false, not_false_eq_true, l1, l21, l23, l16, l30, l31, l32, l210, l211, l33, l34, ok, c_isMerchant l1, c_isSort, c_within, a2]
    simp only [if_neg h1, zl_n, zl_i, zl_r, zl_0, z10, z01, ez_bd_s, ez_bd_n, eq_self, true_or, or_true, if_true, if_false, zb_eq, zb_eq1, zb_em, zb_em2, ite_not, List.append_nil, List.cons_append, List.nil_append, reduceCtorEq, not_true_eq_false, not_false_eq_true]
end O6
