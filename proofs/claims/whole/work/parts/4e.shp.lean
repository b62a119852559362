section O8
variable {g : ez_G} {h h0 h2 : ez_H} {P P2 : xP} {c c2 : xR → Nat → Int32} {z z1 : md_S}
theorem cf_up {n : Nat} {v f : Int32} (a : z1.2 28 = upd (z.2 28) n v) : ∀ j, j ≤ n → cf z1 f j = cf z f j
  | 0, _ => rfl
  | j + 1, h => by
    have : upd (z.2 28) n v j = z.2 28 j := if_neg (by omega)
    rw [cf, cf, a, this, cf_up a j (by omega)]
theorem cf_mono {f : Int32} {s : Nat} : ∀ d, cf z f s ≤ cf z f (s + d)
  | 0 => Nat.le_refl _
  | d + 1 => by
    have := cf_mono (f := f) (s := s) d
    rw [← Nat.add_assoc, cf]
    split <;> omega
theorem cf_lt {f : Int32} {s n : Nat} (hs : s < n) (h : z.2 28 s = f) : cf z f s < cf z f n := by
  have := cf_mono (z := z) (f := f) (s := s + 1) (n - (s + 1))
  rw [show s + 1 + (n - (s + 1)) = n by omega, cf, if_pos h] at this
  omega
theorem cf_le {f : Int32} : ∀ s, cf z f s ≤ s
  | 0 => Nat.le_refl _
  | s + 1 => by
    have := cf_le (f := f) s
    rw [cf]
    split <;> omega
theorem cn_mono {f : Int32} {s : Nat} : ∀ d, cn z f s ≤ cn z f (s + d)
  | 0 => Nat.le_refl _
  | d + 1 => by
    have := cn_mono (f := f) (s := s) d
    rw [← Nat.add_assoc, cn]
    split <;> omega
theorem cn_lt {f : Int32} {s n : Nat} (hs : s < n) (h : z.2 31 s = f) : cn z f s < cn z f n := by
  have := cn_mono (z := z) (f := f) (s := s + 1) (n - (s + 1))
  rw [show s + 1 + (n - (s + 1)) = n by omega, cn, if_pos h] at this
  omega
theorem cn_leq {f : Int32} : ∀ s, cn z f s ≤ s
  | 0 => Nat.le_refl _
  | s + 1 => by
    have := cn_leq (f := f) s
    rw [cn]
    split <;> omega
theorem cn_0 {f : Int32} : ∀ n, (∀ s, s < n → ¬ z.2 31 s = f) → cn z f n = 0
  | 0, _ => rfl
  | n + 1, h => by rw [cn, if_neg (h n (by omega)), cn_0 n (fun s hs => h s (by omega))]
theorem pl_in_0 {f : Int32} : ∀ n, (∀ s, s < n → ¬ z.2 31 s = f) → l_sum (pl_in z f) n = 0
  | 0, _ => rfl
  | n + 1, h => by
    rw [l_sum, pl_in_0 n (fun s hs => h s (by omega)), pl_in, if_neg (h n (by omega))]
    rfl
theorem o_ship {f r : Int32} (hg : g.1 = P.1) (w : xw h0 P c) (R : RR P c z) : xop g 59 [.int f, .int r] h0 P c (pm_ship z f r) := by
  obtain ⟨l1, l21, l23, l16, l30, l31, l32, l210, l211, l33, l34⟩ := w_lvs w R.1; have ok := w.1
  obtain ⟨⟨a1, a2, a3, a4, a5⟩, ⟨b1, b2, b3⟩, ⟨d1, d2, d3⟩, m0, m1, m7, m36⟩ := R.2.1; have r1 := R.2.2.1; have r2 := R.2.2.2.1; have r5 := R.2.2.2.2.1; have r3 := R.2.2.2.2.2.1; have r4 := R.2.2.2.2.2.2.1; have rv := R.2.2.2.2.2.2.2; have r0 := R.2.1
  obtain ⟨⟨v1, v2, v3, v4⟩, v5, v6, v7, v8, v9⟩ := r3
  obtain ⟨e4, hb4⟩ := md_inE v1
  obtain ⟨e5, hb5⟩ := md_inE v2
  unfold pm_ship
  by_cases h1 : 0 ≤ f ∧ f ≤ z.1 4 - 1
  · rw [if_pos h1]
    have h1' := h1
    rw [e4] at h1'
    obtain ⟨k, hk, rfl⟩ := ix_p (by omega) h1'
    obtain ⟨q, l10⟩ := c_fleetAt (g := g) w R hk
    have c1 : (nI k).toNatClampNeg = k := nI_clamp (by omega)
    rw [c1]
    obtain ⟨y1, y2, y3, y4, y5, y6⟩ := v5 k hk
    by_cases h2 : z.2 25 k = 0
    · rw [if_pos h2]
      by_cases h3 : 1 ≤ r ∧ r ≤ 500
      · rw [if_pos h3]
        by_cases h4 : z.1 5 = 40
        · rw [if_pos h4]
          refine xop_s (c1 := c) ?_ w R
          have t2 : c (3, 4, 0) 2 = 40 := by rw [v4.1, ← e5, h4]
          rw [e59]
          simp only [s59_0, s59_1, s59_2, s59_5, s59_5n, s59_6, s59_6n, s59_7n, s59_7, s59_10, s59_10n, s59_11, s59_14, s59_17, s59_18, s59_19, s59_22, s59_25, s59_28, s59_29, s59_32, s59_35, s59_37, s59_40, s59_41, s59_42, s59_45, s59_46, s59_46n, s59_47, s59_48, s59_51, s59_53, s59_53n, s59_54, s59_57, s59_59, s59_62, s59_63, s59_64, s59_67, s59_69, s59_72, s59_73, s59_74, s59_77, s59_80, s59_81, s59_82, zl_n, zl_i, zl_r, zl_0, z10, z01, ez_bd_s, ez_bd_n, eq_self, true_or, or_true, if_true, if_false, zb_eq, zb_eq1, zb_em, zb_em2, ite_not, List.append_nil, List.cons_append, List.nil_append, reduceCtorEq, not_true_eq_false, not_false_eq_true, xo1, xa1, xf1_0, xv1_0, xp1_0, xf1_1, xv1_1, xf1_2, xv1_2, xp1_2, xf1_3, xv1_3, xf1_4, xv1_4, xf1_5, xv1_5, xp1_5, xf1_6, xv1_6, xp1_6, xf1_7, xv1_7, xf1_8, xv1_8, xf1_9, xv1_9, xf1_10, xv1_10, xf1_11, xv1_11, xf1_12, xv1_12, xf1_13, xv1_13, xf1_14, xv1_14, xp1_14, xo3, xa3, xf3_0, xv3_0, xp3_0, xf3_1, xv3_1, xf3_2, xv3_2, xp3_2, xo5, xa5, xf5_0, xv5_0, xp5_0, xf5_1, xv5_1, xp5_1, xf5_2, xv5_2, xp5_2, xf5_3, xv5_3, xp5_3, xf5_4, xv5_4, xp5_4, xf5_5, xv5_5, xp5_5, xf5_6, xv5_6, xp5_6, xf5_7, xv5_7, xp5_7, xf5_8, xv5_8, xp5_8, xf5_9, xv5_9, xp5_9, xf5_10, xv5_10, xp5_10, xf5_11, xv5_11, xp5_11, xf5_12, xv5_12, xp5_12, xo6, xa6, xf6_0, xv6_0, xp6_0, xf6_1, xv6_1, xp6_1, xf6_2, xv6_2, xp6_2, xo7, xa7, xf7_0, xv7_0, xp7_0, xf7_1, xv7_1, xp7_1, xf7_2, xv7_2, xp7_2, xf7_3, xv7_3, xp7_3, xf7_4, xv7_4, xf7_5, xv7_5, xo8, xa8, xf8_0, xv8_0, xp8_0, xf8_1, xv8_1, xo10, xa10, xf10_0, xv10_0, xp10_0, xf10_1, xv10_1, xp10_1, xf10_2, xv10_2, xp10_2, xf10_3, xv10_3, xf10_4, xv10_4, xo12, xa12, xf12_0, xv12_0, xf12_1, xv12_1, xp12_1, xf12_2, xv12_2, xp12_2, xf12_3, xv12_3, xp12_3, xf12_4, xv12_4, xo13, xa13, xf13_0, xv13_0, xf13_1, xv13_1, xp13_1, xo14, xa14, xf14_0, xv14_0, xf14_1, xv14_1, xp14_1, xf14_2, xv14_2, xp14_2, xf14_3, xv14_3, xp14_3, ya2_1, yw2_1, yv2_1, yp2_1, yn2_1, yl2_1, ya2_3, yw2_3, yv2_3, yp2_3, yn2_3, yl2_3, ya2_10, yw2_10, yv2_10, yp2_10, yn2_10, yl2_10, ya2_11, yw2_11, yv2_11, yp2_11, yn2_11, yl2_11, ya9, yw9, yv9, yp9, yn9, yl9, ya11, yw11, yv11, yp11, yn11, yl11, ya15, yw15, yv15, yp15, yn15, yl15, ya16, yw16, yv16, yp16, yn16, yl16, ok10, ok11, ok1i, xu_s, xu_n, ne_eq, Prod.mk.injEq, Nat.reduceEqDiff, false_and, and_false, not_false_eq_true, l1, l21, l23, l16, l30, l31, l32, l210, l211, l33, l34, ok, q, l10, y3, h2, c_within, h3, and_self, q_size, t2, show ((40 : Int32) < 40) = False by decide]
        · rw [if_neg h4]
          have hn : (z.1 5).toNatClampNeg < 40 := by
            refine Nat.lt_of_le_of_ne (by omega) fun e => h4 ?_
            rw [e5, e]
            rfl
          have r5b := r5.2.2
          generalize hN : (z.1 5).toNatClampNeg = n at e5 hb5 hn v4 v5 v6 v9 y5 r5b
          have nl12 : ¬ lv P (12, n, 0) := fun hl => by
            have := (rv (12, n, 0) (show 12 ≠ 0 by decide) hl).2.2.2.1 rfl
            rw [hN] at this
            exact absurd this (Nat.lt_irrefl _)
          have nl3 : ¬ lv P (3, 8, n) := fun hl => by
            have := ((rv (3, 8, n) (show 3 ≠ 0 by decide) hl).2.2.2.2.2.1 (Or.inl rfl)).2.1 rfl
            rw [hN] at this
            exact absurd this (Nat.lt_irrefl _)
          have nl4 : ¬ lv P (4, 8, n) := fun hl => by
            have := ((rv (4, 8, n) (show 4 ≠ 0 by decide) hl).2.2.2.2.2.1 (Or.inr rfl)).2.1 rfl
            rw [hN] at this
            exact absurd this (Nat.lt_irrefl _)
          have q0 := w.2.1 h0.2.1 (Nat.le_refl _)
          have q1 := w.2.1 (h0.2.1 + 1) (by omega)
          have hP : P.1 < h0.2.1 := w.2.2.2.2.2
          have eA : ez_nw (ez_nw (xh h0 P c) (.inr (7, [.ref (P.2.2.1 (10, k, 0)), .int r, .int 0, .int 0, .ref (h0.2.1 + 1)])) 5) (.inr (0, [.int 0, .ref g.1, .int 0])) 3 = xh (ez_nw (ez_nw h0 (.inr (7, [.ref (P.2.2.1 (10, k, 0)), .int r, .int 0, .int 0, .ref (h0.2.1 + 1)])) 5) (.inr (0, [.int 0, .ref g.1, .int 0])) 3) P c := by
            rw [xh_nw q0, xh_nw q1]
          generalize hA : ez_nw (ez_nw h0 (.inr (7, [.ref (P.2.2.1 (10, k, 0)), .int r, .int 0, .int 0, .ref (h0.2.1 + 1)])) 5) (.inr (0, [.int 0, .ref g.1, .int 0])) 3 = hB at eA
          have wB : xw hB P c := by rw [← hA]; exact xw_nw (xw_nw w)
          have B0 : hB.1 h0.2.1 = some (.inr (7, [.ref (P.2.2.1 (10, k, 0)), .int r, .int 0, .int 0, .ref (h0.2.1 + 1)])) := by
            rw [← hA]
            simp only [nw_c, nw_21, ne01, if_true, if_false]
          have B1 : hB.1 (h0.2.1 + 1) = some (.inr (0, [.int 0, .ref P.1, .int 0])) := by
            rw [← hA, hg]
            simp only [nw_c, nw_21, if_true]
          have Bo : ∀ q, q < h0.2.1 → hB.1 q = h0.1 q := fun q hq => by
            rw [← hA]
            simp only [nw_c, nw_21]
            rw [if_neg (by omega), if_neg (by omega)]
          have Bn : hB.2.1 = h0.2.1 + 2 ∧ hB.2.2 = h0.2.2 + 8 := by rw [← hA]; exact ⟨rfl, rfl⟩
          obtain ⟨hh1, e1, w1, z1, o1, s1⟩ := x_adl (L := 8) (i := n) (a := h0.2.1 + 1) wB nl3 nl4 q1 (by omega) (by omega) B1
          have lp1 : ∀ r, r.1 ≠ 0 → r ≠ (3, 8, n) → (lv (pad P (3, 8, n) (h0.2.1 + 1)) r ↔ lv P r) := fun r u0 u1 => lv_pad q1 u0 u1
          have q0' : ((pad P (3, 8, n) (h0.2.1 + 1)).2.1 h0.2.1).1 = 0 := pad_o (show 3 ≠ 0 by decide) (by omega) q0
          obtain ⟨hh3, e3, w3, z3, o3⟩ := x_ad (r := (12, n, 0)) (f := fun i => if i = 0 then nI k else if i = 1 then r else 0) (a := h0.2.1) w1 (show 12 ≠ 0 by decide) (show 12 ≠ 4 by decide) (fun hl => nl12 ((lp1 _ (show 12 ≠ 0 by decide) (by rintro ⟨⟩)).mp hl)) (fun h => absurd h (show ¬ 12 = 3 by decide)) q0' (by rw [z1]; omega) (by show _ ≠ P.1; omega) (by
            rw [o1 _ q0, B0]
            show _ = some (Sum.inr (7, [Value.ref ((pad (pad P (3, 8, n) (h0.2.1 + 1)) (12, n, 0) h0.2.1).2.2.1 (10, (nI k).toNatClampNeg, 0)), Value.int r, Value.int 0, Value.int 0, Value.ref ((pad (pad P (3, 8, n) (h0.2.1 + 1)) (12, n, 0) h0.2.1).2.2.1 (3, 8, n))]))
            rw [c1, pad_a (by rintro ⟨⟩), pad_a (by rintro ⟨⟩), pad_a (by rintro ⟨⟩), pad_r]) (fun r' hx _ => by
            rcases hx with hx | hx
            · rw [hx]
              show lv _ (10, (nI k).toNatClampNeg, 0)
              rw [c1]
              exact (lp1 _ (show 10 ≠ 0 by decide) (by rintro ⟨⟩)).mpr l10
            · rw [hx]; exact lv_pad_r)
          have pa : ∀ r, r ≠ (3, 8, n) → r ≠ (12, n, 0) → (pad (pad P (3, 8, n) (h0.2.1 + 1)) (12, n, 0) h0.2.1).2.2.1 r = P.2.2.1 r := fun r u1 u3 => by rw [pad_a u3, pad_a u1]
          have pc : ∀ r, r ≠ (3, 8, n) → r ≠ (12, n, 0) → (pad (pad P (3, 8, n) (h0.2.1 + 1)) (12, n, 0) h0.2.1).2.2.2 r = P.2.2.2 r := fun r u1 u3 => by rw [pad_c u3, pad_c u1]
          have pl : ∀ r, r.1 ≠ 0 → r ≠ (3, 8, n) → r ≠ (12, n, 0) → (lv (pad (pad P (3, 8, n) (h0.2.1 + 1)) (12, n, 0) h0.2.1) r ↔ lv P r) := fun r u0 u1 u3 => (lv_pad q0' u0 u3).trans (lp1 r u0 u1)
          have plr : lv (pad (pad P (3, 8, n) (h0.2.1 + 1)) (12, n, 0) h0.2.1) (12, n, 0) := lv_pad_r
          have pr : (pad (pad P (3, 8, n) (h0.2.1 + 1)) (12, n, 0) h0.2.1).2.2.1 (12, n, 0) = h0.2.1 := pad_r
          have s8 : lsz (pad (pad P (3, 8, n) (h0.2.1 + 1)) (12, n, 0) h0.2.1) (xs (xnl c 8 n) (12, n, 0) fun i => if i = 0 then nI k else if i = 1 then r else 0) 8 n 0 := lsz_cg s1 (by rw [pad_c (by rintro ⟨⟩)]) rfl rfl
          have po : ∀ q, q < h0.2.1 → (P.2.1 q).1 = 0 → ((pad (pad P (3, 8, n) (h0.2.1 + 1)) (12, n, 0) h0.2.1).2.1 q).1 = 0 ∧ hh3.1 q = h0.1 q := fun q hq h5 => by
            have u1 := pad_o (r := (3, 8, n)) (a := h0.2.1 + 1) (show 3 ≠ 0 by decide) (by omega) h5
            exact ⟨pad_o (show 12 ≠ 0 by decide) (by omega) u1, by rw [o3 _ u1, o1 _ h5, Bo q hq]⟩
          have eN : ez_nw (ez_nw (xh h0 P c) (.inr (7, [.ref (P.2.2.1 (10, k, 0)), .int r, .int 0, .int 0, .ref ((xh h0 P c).2.1 + 1)])) 5) (.inr (0, [.int 0, .ref g.1, .int 0])) 3 = xh hh3 (pad (pad P (3, 8, n) (h0.2.1 + 1)) (12, n, 0) h0.2.1) (xs (xnl c 8 n) (12, n, 0) fun i => if i = 0 then nI k else if i = 1 then r else 0) := eA.trans (e1.trans e3)
          have f1 : xfr h0 P hh3 (pad (pad P (3, 8, n) (h0.2.1 + 1)) (12, n, 0) h0.2.1) 2 8 := by
            refine ⟨rfl, ?_, ?_, ?_, ?_, po⟩
            all_goals (rw [z3, z1]; omega)
          generalize pad (pad P (3, 8, n) (h0.2.1 + 1)) (12, n, 0) h0.2.1 = P1 at *
          have hc1 : ∀ r', r' ≠ (3, 8, n) → r' ≠ (4, 8, n) → r' ≠ (12, n, 0) → (xs (xnl c 8 n) (12, n, 0) fun i => if i = 0 then nI k else if i = 1 then r else 0) r' = c r' := fun r u1 u2 u4 => by rw [xs_n u4, xnl_n u1 u2]
          have hc12 : (xs (xnl c 8 n) (12, n, 0) fun i => if i = 0 then nI k else if i = 1 then r else 0) (12, n, 0) = fun i => if i = 0 then nI k else if i = 1 then r else 0 := xs_r
          generalize (xs (xnl c 8 n) (12, n, 0) fun i => if i = 0 then nI k else if i = 1 then r else 0) = c1' at *
          have l37 : lv P (3, 7, k) := xw_cl w l10 (Or.inl rfl) (show 10 ≠ 0 by decide) (show 10 ≠ 3 by decide)
          have l37' : lv P1 (3, 7, k) := (pl _ (show 3 ≠ 0 by decide) (by rintro ⟨⟩) (by rintro ⟨⟩)).mpr l37
          have l10' : lv P1 (10, k, 0) := (pl _ (show 10 ≠ 0 by decide) (by rintro ⟨⟩) (by rintro ⟨⟩)).mpr l10
          have hcf := cf_le (z := z) (f := nI k) n
          obtain ⟨h4', P2, e4', w4, gr, s2⟩ := q_add (g := g) (L := 7) (i := k) (v := n) w3 (hg.trans f1.1.symm) l37' (lsz_cg y5 (pc _ (by rintro ⟨⟩) (by rintro ⟨⟩)) (by rw [hc1 _ (by rintro ⟨⟩) (by rintro ⟨⟩) (by rintro ⟨⟩)]) (hc1 _ (by rintro ⟨⟩) (by rintro ⟨⟩) (by rintro ⟨⟩))) (by omega) (by omega) plr
          have pr2 : P2.2.2.1 (12, n, 0) = h0.2.1 := (gr.1 _ (by rintro ⟨⟩)).trans pr
          have e4' : ez_ev g 155 [.ref (P.2.2.1 (3, 7, k)), .ref (xh h0 P c).2.1] (xh hh3 P1 c1') = some (some (.int 1), xh h4' P2 (xad c1' 7 k (cf z (nI k) n) n)) := by
            rw [← pa (3, 7, k) (by rintro ⟨⟩) (by rintro ⟨⟩)]
            show ez_ev g 155 [_, .ref h0.2.1] _ = _
            rw [← pr]
            exact e4'
          have t10 : ez_isF ((xh hh3 P1 c1').1 (P.2.2.1 (10, k, 0))) 2 3 = true ∧ ez_vF ((xh hh3 P1 c1').1 (P.2.2.1 (10, k, 0))) 3 = .ref (P.2.2.1 (3, 7, k)) ∧ ez_isO ((xh hh3 P1 c1').1 (P.2.2.1 (3, 7, k))) 0 = true := by
            rw [← pa (10, k, 0) (by rintro ⟨⟩) (by rintro ⟨⟩), ← pa (3, 7, k) (by rintro ⟨⟩) (by rintro ⟨⟩)]
            exact ⟨xf10_3 l10', xv10_3 l10', xo3 l37'⟩
          have l34' : lv P2 (3, 4, 0) := (gr.2.1 _ (show 3 ≠ 0 by decide) (by rintro ⟨⟩)).mpr ((pl _ (show 3 ≠ 0 by decide) (by rintro ⟨⟩) (by rintro ⟨⟩)).mpr l34)
          have l12' : lv P2 (12, n, 0) := (gr.2.1 _ (show 12 ≠ 0 by decide) (by rintro ⟨⟩)).mpr plr
          have c34 : ∀ r, r ≠ (3, 8, n) → r ≠ (4, 8, n) → r ≠ (12, n, 0) → r ≠ (3, 7, k) → r ≠ (4, 7, k) → (xad c1' 7 k (cf z (nI k) n) n) r = c r := fun r u1 u2 u3 u4 u5 => by rw [xad_n u4 u5, hc1 r u1 u2 u3]
          have x47 : (xad c1' 7 k (cf z (nI k) n) n) (4, 7, k) = upd (c (4, 7, k)) (cf z (nI k) n) (nI n) := by rw [xad_4, hc1 _ (by rintro ⟨⟩) (by rintro ⟨⟩) (by rintro ⟨⟩)]
          have x12 : (xad c1' 7 k (cf z (nI k) n) n) (12, n, 0) = fun i => if i = 0 then nI k else if i = 1 then r else 0 := by rw [xad_n (by rintro ⟨⟩) (by rintro ⟨⟩), hc12]
          have s8' : lsz P2 (xad c1' 7 k (cf z (nI k) n) n) 8 n 0 := lsz_cg s8 (gr.2.2.1 _ (by rintro ⟨⟩)) (by rw [xad_n (by rintro ⟨⟩) (by rintro ⟨⟩)]) (xad_n (by rintro ⟨⟩) (by rintro ⟨⟩))
          have ea2 : ∀ r, r ≠ (3, 8, n) → r ≠ (12, n, 0) → r ≠ (4, 7, k) → P2.2.2.1 r = P.2.2.1 r := fun r u1 u2 u3 => (gr.1 r u3).trans (pa r u1 u2)
          have l1'' : lv P2 (1, 0, 0) := (gr.2.1 _ (show 1 ≠ 0 by decide) (by rintro ⟨⟩)).mpr ((pl _ (show 1 ≠ 0 by decide) (by rintro ⟨⟩) (by rintro ⟨⟩)).mpr l1)
          generalize xad c1' 7 k (cf z (nI k) n) n = c2 at *
          obtain ⟨t5, t6, t7, -⟩ := tops_4 (g := g) w4 l1'' (ea2 _ (by rintro ⟨⟩) (by rintro ⟨⟩) (by rintro ⟨⟩)) (ea2 _ (by rintro ⟨⟩) (by rintro ⟨⟩) (by rintro ⟨⟩))
          obtain ⟨h6', P3, e6', w6, gr3, s3⟩ := q_add (g := g) (L := 4) (i := 0) (n := n) (v := n) w4 (hg.trans (f1.1.symm.trans gr.2.2.2.1.symm)) l34' (lsz_cg v4 ((gr.2.2.1 _ (by rintro ⟨⟩)).trans (pc _ (by rintro ⟨⟩) (by rintro ⟨⟩))) (by rw [c34 _ (by rintro ⟨⟩) (by rintro ⟨⟩) (by rintro ⟨⟩) (by rintro ⟨⟩) (by rintro ⟨⟩)]) (c34 _ (by rintro ⟨⟩) (by rintro ⟨⟩) (by rintro ⟨⟩) (by rintro ⟨⟩) (by rintro ⟨⟩))) (by omega) (by omega) l12'
          have e6' : ez_ev g 155 [.ref (P.2.2.1 (3, 4, 0)), .ref (xh h0 P c).2.1] (xh h4' P2 c2) = some (some (.int 1), xh h6' P3 (xad c2 4 0 n n)) := by
            rw [← ea2 (3, 4, 0) (by rintro ⟨⟩) (by rintro ⟨⟩) (by rintro ⟨⟩)]
            show ez_ev g 155 [_, .ref h0.2.1] _ = _
            rw [← pr2]
            exact e6'
          have hc : ∀ r, r ≠ (3, 8, n) → r ≠ (4, 8, n) → r ≠ (12, n, 0) → r ≠ (3, 7, k) → r ≠ (4, 7, k) → r ≠ (3, 4, 0) → r ≠ (4, 4, 0) → (xad c2 4 0 n n) r = c r := fun r u1 u2 u3 u4 u5 u6 u7 => by rw [xad_n u6 u7, c34 r u1 u2 u3 u4 u5]
          have X47 : (xad c2 4 0 n n) (4, 7, k) = upd (c (4, 7, k)) (cf z (nI k) n) (nI n) := by rw [xad_n (by rintro ⟨⟩) (by rintro ⟨⟩), x47]
          have X44 : (xad c2 4 0 n n) (4, 4, 0) = upd (c (4, 4, 0)) n (nI n) := by rw [xad_4, c34 _ (by rintro ⟨⟩) (by rintro ⟨⟩) (by rintro ⟨⟩) (by rintro ⟨⟩) (by rintro ⟨⟩)]
          have X12 : (xad c2 4 0 n n) (12, n, 0) = fun i => if i = 0 then nI k else if i = 1 then r else 0 := by rw [xad_n (by rintro ⟨⟩) (by rintro ⟨⟩), x12]
          have S8 : lsz P3 (xad c2 4 0 n n) 8 n 0 := lsz_cg s8' (gr3.2.2.1 _ (by rintro ⟨⟩)) (by rw [xad_n (by rintro ⟨⟩) (by rintro ⟨⟩)]) (xad_n (by rintro ⟨⟩) (by rintro ⟨⟩))
          have S7 : lsz P3 (xad c2 4 0 n n) 7 k (cf z (nI k) n + 1) := lsz_cg s2 (gr3.2.2.1 _ (by rintro ⟨⟩)) (by rw [xad_n (by rintro ⟨⟩) (by rintro ⟨⟩)]) (xad_n (by rintro ⟨⟩) (by rintro ⟨⟩))
          generalize xad c2 4 0 n n = c3 at *
          have hp : ∀ r, r ≠ (3, 8, n) → r ≠ (12, n, 0) → r ≠ (3, 7, k) → r ≠ (3, 4, 0) → P3.2.2.2 r = P.2.2.2 r := fun r u1 u2 u3 u4 => (gr3.2.2.1 r u4).trans ((gr.2.2.1 r u3).trans (pc r u1 u2))
          have ea : ∀ r, r ≠ (3, 8, n) → r ≠ (12, n, 0) → r ≠ (4, 7, k) → r ≠ (4, 4, 0) → P3.2.2.1 r = P.2.2.1 r := fun r u1 u2 u3 u4 => (gr3.1 r u4).trans (ea2 r u1 u2 u3)
          have el : ∀ r, r.1 ≠ 0 → r ≠ (3, 8, n) → r ≠ (12, n, 0) → r ≠ (4, 7, k) → r ≠ (4, 4, 0) → (lv P3 r ↔ lv P r) := fun r u0 u1 u2 u3 u4 => (gr3.2.1 r u0 u4).trans ((gr.2.1 r u0 u3).trans (pl r u0 u1 u2))
          have l1' : lv P3 (1, 0, 0) := (el _ (by decide) (by rintro ⟨⟩) (by rintro ⟨⟩) (by rintro ⟨⟩) (by rintro ⟨⟩)).mpr l1
          obtain ⟨t1, t2, t3, t4⟩ := tops_4 (g := g) w6 l1' (ea _ (by rintro ⟨⟩) (by rintro ⟨⟩) (by rintro ⟨⟩) (by rintro ⟨⟩)) (ea _ (by rintro ⟨⟩) (by rintro ⟨⟩) (by rintro ⟨⟩) (by rintro ⟨⟩))
          rw [s3.1] at t4
          generalize hZ : md_sI (md_sA (md_sA z 28 n (nI k)) 29 n r) 5 (z.1 5 + 1) = Z
          have Z5 : Z.1 5 = nI (n + 1) := by
            rw [← hZ]
            show z.1 5 + 1 = _
            rw [e5, nI_1]
          have Zi : ∀ t, t ≠ 5 → Z.1 t = z.1 t := fun t ht => by rw [← hZ]; exact if_neg ht
          have Za : ∀ t, t ≠ 28 → t ≠ 29 → Z.2 t = z.2 t := fun t u1 u2 => by rw [← hZ, md_I2, md_A2n u2, md_A2n u1]
          have Z28 : Z.2 28 = upd (z.2 28) n (nI k) := by rw [← hZ, md_I2, md_A2n (by decide), md_A2, if_pos rfl]
          have Z29 : Z.2 29 = upd (z.2 29) n r := by
            rw [← hZ, md_I2, md_A2, if_pos rfl]
            rfl
          have g2 : ∀ f j, cn Z f j = cn z f j := fun f j => cn_cg (z1 := Z) (z := z) (Za 31 (by decide) (by decide)) j
          have g3 : ∀ f, pl_in Z f = pl_in z f := fun f => pl_in_cg (z1 := Z) (z := z) (fun t u1 u2 => Za t (by omega) (by omega))
          have g1 : ∀ f j, j ≤ n → cf Z f j = cf z f j := fun f j hj => cf_up Z28 j hj
          have g1' : ∀ f, cf Z f (n + 1) = if nI k = f then cf z f n + 1 else cf z f n := fun f => by rw [cf, Z28, pk_us, g1 f n (Nat.le_refl _)]
          have no31 : ∀ j, j < (z.1 6).toNatClampNeg → ¬ z.2 31 j = nI n := fun j hj h5 => by
            have := (md_inE (r5b j hj).1).2
            rw [h5, nI_clamp (by omega)] at this
            omega
          refine ⟨h6', P3, c3, ?_, w6, ⟨l1', R0_cg r0 (hc _ (by rintro ⟨⟩ <;> omega) (by rintro ⟨⟩ <;> omega) (by rintro ⟨⟩ <;> omega) (by rintro ⟨⟩ <;> omega) (by rintro ⟨⟩ <;> omega) (by rintro ⟨⟩ <;> omega) (by rintro ⟨⟩ <;> omega)) (hc _ (by rintro ⟨⟩ <;> omega) (by rintro ⟨⟩ <;> omega) (by rintro ⟨⟩ <;> omega) (by rintro ⟨⟩ <;> omega) (by rintro ⟨⟩ <;> omega) (by rintro ⟨⟩ <;> omega) (by rintro ⟨⟩ <;> omega)) (hc _ (by rintro ⟨⟩ <;> omega) (by rintro ⟨⟩ <;> omega) (by rintro ⟨⟩ <;> omega) (by rintro ⟨⟩ <;> omega) (by rintro ⟨⟩ <;> omega) (by rintro ⟨⟩ <;> omega) (by rintro ⟨⟩ <;> omega)) (hc _ (by rintro ⟨⟩ <;> omega) (by rintro ⟨⟩ <;> omega) (by rintro ⟨⟩ <;> omega) (by rintro ⟨⟩ <;> omega) (by rintro ⟨⟩ <;> omega) (by rintro ⟨⟩ <;> omega) (by rintro ⟨⟩ <;> omega)) (hc _ (by rintro ⟨⟩ <;> omega) (by rintro ⟨⟩ <;> omega) (by rintro ⟨⟩ <;> omega) (by rintro ⟨⟩ <;> omega) (by rintro ⟨⟩ <;> omega) (by rintro ⟨⟩ <;> omega) (by rintro ⟨⟩ <;> omega)) (hc _ (by rintro ⟨⟩ <;> omega) (by rintro ⟨⟩ <;> omega) (by rintro ⟨⟩ <;> omega) (by rintro ⟨⟩ <;> omega) (by rintro ⟨⟩ <;> omega) (by rintro ⟨⟩ <;> omega) (by rintro ⟨⟩ <;> omega)) (Zi _ (by decide)) (Zi _ (by decide)) (Zi _ (by decide)) (Zi _ (by decide)) (Zi _ (by decide)) (Za _ (by decide) (by decide)) (Za _ (by decide) (by decide)) (Za _ (by decide) (by decide)) (Za _ (by decide) (by decide)) (Za _ (by decide) (by decide)), R1_cg r1 (hp _ (by rintro ⟨⟩ <;> omega) (by rintro ⟨⟩ <;> omega) (by rintro ⟨⟩ <;> omega) (by rintro ⟨⟩ <;> omega)) (by rw [hc _ (by rintro ⟨⟩ <;> omega) (by rintro ⟨⟩ <;> omega) (by rintro ⟨⟩ <;> omega) (by rintro ⟨⟩ <;> omega) (by rintro ⟨⟩ <;> omega) (by rintro ⟨⟩ <;> omega) (by rintro ⟨⟩ <;> omega)]) (hc _ (by rintro ⟨⟩ <;> omega) (by rintro ⟨⟩ <;> omega) (by rintro ⟨⟩ <;> omega) (by rintro ⟨⟩ <;> omega) (by rintro ⟨⟩ <;> omega) (by rintro ⟨⟩ <;> omega) (by rintro ⟨⟩ <;> omega)) (fun _ => (hc _ (by rintro ⟨⟩ <;> omega) (by rintro ⟨⟩ <;> omega) (by rintro ⟨⟩ <;> omega) (by rintro ⟨⟩ <;> omega) (by rintro ⟨⟩ <;> omega) (by rintro ⟨⟩ <;> omega) (by rintro ⟨⟩ <;> omega))) (Zi _ (by decide)) (Za _ (by decide) (by decide)) (Za _ (by decide) (by decide)) (Za _ (by decide) (by decide)), R2_cg r2 (hp _ (by rintro ⟨⟩ <;> omega) (by rintro ⟨⟩ <;> omega) (by rintro ⟨⟩ <;> omega) (by rintro ⟨⟩ <;> omega)) (by rw [hc _ (by rintro ⟨⟩ <;> omega) (by rintro ⟨⟩ <;> omega) (by rintro ⟨⟩ <;> omega) (by rintro ⟨⟩ <;> omega) (by rintro ⟨⟩ <;> omega) (by rintro ⟨⟩ <;> omega) (by rintro ⟨⟩ <;> omega)]) (hc _ (by rintro ⟨⟩ <;> omega) (by rintro ⟨⟩ <;> omega) (by rintro ⟨⟩ <;> omega) (by rintro ⟨⟩ <;> omega) (by rintro ⟨⟩ <;> omega) (by rintro ⟨⟩ <;> omega) (by rintro ⟨⟩ <;> omega)) (fun _ _ _ => by rw [hc _ (by rintro ⟨⟩ <;> omega) (by rintro ⟨⟩ <;> omega) (by rintro ⟨⟩ <;> omega) (by rintro ⟨⟩ <;> omega) (by rintro ⟨⟩ <;> omega) (by rintro ⟨⟩ <;> omega) (by rintro ⟨⟩ <;> omega)]) (by rw [Zi _ (by decide)]; exact Nat.le_refl _) (Zi _ (by decide)) (fun t u1 u2 => Za t (by omega) (by omega)), ?_, ?_, R4_cg r4 (fun _ _ _ => (hp _ (by rintro ⟨⟩ <;> omega) (by rintro ⟨⟩ <;> omega) (by rintro ⟨⟩ <;> omega) (by rintro ⟨⟩ <;> omega))) (fun _ _ _ => ⟨by rw [hc _ (by rintro ⟨⟩ <;> omega) (by rintro ⟨⟩ <;> omega) (by rintro ⟨⟩ <;> omega) (by rintro ⟨⟩ <;> omega) (by rintro ⟨⟩ <;> omega) (by rintro ⟨⟩ <;> omega) (by rintro ⟨⟩ <;> omega)], (hc _ (by rintro ⟨⟩ <;> omega) (by rintro ⟨⟩ <;> omega) (by rintro ⟨⟩ <;> omega) (by rintro ⟨⟩ <;> omega) (by rintro ⟨⟩ <;> omega) (by rintro ⟨⟩ <;> omega) (by rintro ⟨⟩ <;> omega))⟩) (fun _ _ => (hc _ (by rintro ⟨⟩ <;> omega) (by rintro ⟨⟩ <;> omega) (by rintro ⟨⟩ <;> omega) (by rintro ⟨⟩ <;> omega) (by rintro ⟨⟩ <;> omega) (by rintro ⟨⟩ <;> omega) (by rintro ⟨⟩ <;> omega))) (fun _ _ => (hc _ (by rintro ⟨⟩ <;> omega) (by rintro ⟨⟩ <;> omega) (by rintro ⟨⟩ <;> omega) (by rintro ⟨⟩ <;> omega) (by rintro ⟨⟩ <;> omega) (by rintro ⟨⟩ <;> omega) (by rintro ⟨⟩ <;> omega))) (fun _ _ => (hc _ (by rintro ⟨⟩ <;> omega) (by rintro ⟨⟩ <;> omega) (by rintro ⟨⟩ <;> omega) (by rintro ⟨⟩ <;> omega) (by rintro ⟨⟩ <;> omega) (by rintro ⟨⟩ <;> omega) (by rintro ⟨⟩ <;> omega))) (Zi _ (by decide)) (fun t u1 u2 => Za t (by omega) (by omega)), ?_⟩, ea _ (by rintro ⟨⟩) (by rintro ⟨⟩) (by rintro ⟨⟩) (by rintro ⟨⟩), xfr_w (xfr_t (xfr_t f1 gr.2.2.2) gr3.2.2.2) (by decide) (by decide)⟩
          · rw [e59]
            simp only [s59_0, s59_1, s59_2, s59_5, s59_5n, s59_6, s59_6n, s59_7n, s59_7, s59_10, s59_10n, s59_11, s59_14, s59_17, s59_18, s59_19, s59_22, s59_25, s59_28, s59_29, s59_32, s59_35, s59_37, s59_40, s59_41, s59_42, s59_45, s59_46, s59_46n, s59_47, s59_48, s59_51, s59_53, s59_53n, s59_54, s59_57, s59_59, s59_62, s59_63, s59_64, s59_67, s59_69, s59_72, s59_73, s59_74, s59_77, s59_80, s59_81, s59_82, zl_n, zl_i, zl_r, zl_0, z10, z01, ez_bd_s, ez_bd_n, eq_self, true_or, or_true, if_true, if_false, zb_eq, zb_eq1, zb_em, zb_em2, ite_not, List.append_nil, List.cons_append, List.nil_append, reduceCtorEq, not_true_eq_false, not_false_eq_true, xo1, xa1, xf1_0, xv1_0, xp1_0, xf1_1, xv1_1, xf1_2, xv1_2, xp1_2, xf1_3, xv1_3, xf1_4, xv1_4, xf1_5, xv1_5, xp1_5, xf1_6, xv1_6, xp1_6, xf1_7, xv1_7, xf1_8, xv1_8, xf1_9, xv1_9, xf1_10, xv1_10, xf1_11, xv1_11, xf1_12, xv1_12, xf1_13, xv1_13, xf1_14, xv1_14, xp1_14, xo3, xa3, xf3_0, xv3_0, xp3_0, xf3_1, xv3_1, xf3_2, xv3_2, xp3_2, xo5, xa5, xf5_0, xv5_0, xp5_0, xf5_1, xv5_1, xp5_1, xf5_2, xv5_2, xp5_2, xf5_3, xv5_3, xp5_3, xf5_4, xv5_4, xp5_4, xf5_5, xv5_5, xp5_5, xf5_6, xv5_6, xp5_6, xf5_7, xv5_7, xp5_7, xf5_8, xv5_8, xp5_8, xf5_9, xv5_9, xp5_9, xf5_10, xv5_10, xp5_10, xf5_11, xv5_11, xp5_11, xf5_12, xv5_12, xp5_12, xo6, xa6, xf6_0, xv6_0, xp6_0, xf6_1, xv6_1, xp6_1, xf6_2, xv6_2, xp6_2, xo7, xa7, xf7_0, xv7_0, xp7_0, xf7_1, xv7_1, xp7_1, xf7_2, xv7_2, xp7_2, xf7_3, xv7_3, xp7_3, xf7_4, xv7_4, xf7_5, xv7_5, xo8, xa8, xf8_0, xv8_0, xp8_0, xf8_1, xv8_1, xo10, xa10, xf10_0, xv10_0, xp10_0, xf10_1, xv10_1, xp10_1, xf10_2, xv10_2, xp10_2, xf10_3, xv10_3, xf10_4, xv10_4, xo12, xa12, xf12_0, xv12_0, xf12_1, xv12_1, xp12_1, xf12_2, xv12_2, xp12_2, xf12_3, xv12_3, xp12_3, xf12_4, xv12_4, xo13, xa13, xf13_0, xv13_0, xf13_1, xv13_1, xp13_1, xo14, xa14, xf14_0, xv14_0, xf14_1, xv14_1, xp14_1, xf14_2, xv14_2, xp14_2, xf14_3, xv14_3, xp14_3, ya2_1, yw2_1, yv2_1, yp2_1, yn2_1, yl2_1, ya2_3, yw2_3, yv2_3, yp2_3, yn2_3, yl2_3, ya2_10, yw2_10, yv2_10, yp2_10, yn2_10, yl2_10, ya2_11, yw2_11, yv2_11, yp2_11, yn2_11, yl2_11, ya9, yw9, yv9, yp9, yn9, yl9, ya11, yw11, yv11, yp11, yn11, yl11, ya15, yw15, yv15, yp15, yn15, yl15, ya16, yw16, yv16, yp16, yn16, yl16, ok10, ok11, ok1i, xu_s, xu_n, ne_eq, Prod.mk.injEq, Nat.reduceEqDiff, false_and, and_false, not_false_eq_true, l1, l21, l23, l16, l30, l31, l32, l210, l211, l33, l34, ok, q, l10, y3, h2, c_within, h3, and_self, q_size, v4.1, show (nI n < 40) = True from eq_true (nI_lt (b := 40) hn (by decide)), c_shipInit, eN, e4', t10.1, t10.2.1, t10.2.2, t5, t6, t7, e6', t1, t2, t3, t4, e5, nI_1, nI_pred]
          · refine ⟨fun j hj => ?_, ?_, fun j hj => ?_⟩
            · show c3 (5, j, 0) 11 = l_sum (pl_ld Z (nI j) 0) (Z.1 6).toNatClampNeg ∧ c3 (5, j, 0) 12 = l_sum (pl_ld Z (nI j) 1) (Z.1 6).toNatClampNeg
              rw [hc _ (by rintro ⟨⟩ <;> omega) (by rintro ⟨⟩ <;> omega) (by rintro ⟨⟩ <;> omega) (by rintro ⟨⟩ <;> omega) (by rintro ⟨⟩ <;> omega) (by rintro ⟨⟩ <;> omega) (by rintro ⟨⟩ <;> omega), pl_ld_cg (z1 := Z) (z := z) (fun t u1 u2 => Za t (by omega) (by omega)), pl_ld_cg (z1 := Z) (z := z) (fun t u1 u2 => Za t (by omega) (by omega)), Zi 6 (by decide)]
              have hj : j < (Z.1 3).toNatClampNeg := hj
              rw [Zi 3 (by decide)] at hj
              exact r5.1 j hj
            · show md_in (Z.1 6) 201 = true
              rw [Zi 6 (by decide)]
              exact r5.2.1
            · have hj : j < (Z.1 6).toNatClampNeg := hj
              rw [Zi 6 (by decide)] at hj
              show md_in (Z.2 31 j) (Z.1 5).toNatClampNeg = true ∧ md_in (Z.2 32 j) (Z.1 3).toNatClampNeg = true ∧ md_in (Z.2 33 j) 501 = true
              rw [Za 31 (by decide) (by decide), Za 32 (by decide) (by decide), Za 33 (by decide) (by decide), Z5, Zi 3 (by decide), nI_clamp (by omega)]
              obtain ⟨x1, x2, x3⟩ := r5b j hj
              exact ⟨md_inM x1 (by omega), x2, x3⟩
          · show R3 P3 c3 Z
            unfold R3
            rw [Zi 4 (by decide), Zi 6 (by decide), Z5, nI_clamp (by omega)]
            simp only [g2, g3, Za 25 (by decide) (by decide), Za 26 (by decide) (by decide), Za 27 (by decide) (by decide), Za 30 (by decide) (by decide), Za 31 (by decide) (by decide), Za 32 (by decide) (by decide), Za 33 (by decide) (by decide)]
            refine ⟨⟨v1, md_inN (by omega) (by decide), lsz_cg v3 (hp _ (by rintro ⟨⟩ <;> omega) (by rintro ⟨⟩ <;> omega) (by rintro ⟨⟩ <;> omega) (by rintro ⟨⟩ <;> omega)) (by rw [hc _ (by rintro ⟨⟩ <;> omega) (by rintro ⟨⟩ <;> omega) (by rintro ⟨⟩ <;> omega) (by rintro ⟨⟩ <;> omega) (by rintro ⟨⟩ <;> omega) (by rintro ⟨⟩ <;> omega) (by rintro ⟨⟩ <;> omega)]) (hc _ (by rintro ⟨⟩ <;> omega) (by rintro ⟨⟩ <;> omega) (by rintro ⟨⟩ <;> omega) (by rintro ⟨⟩ <;> omega) (by rintro ⟨⟩ <;> omega) (by rintro ⟨⟩ <;> omega) (by rintro ⟨⟩ <;> omega)), s3⟩, fun f hf => ?_, fun s hs => ?_, fun j hj => ?_, v8, fun s hs => v9 s (by omega)⟩
            · obtain ⟨i1, i2, i3, i4, i5, i6⟩ := v5 f hf
              rw [hc (4, 3, 0) (by rintro ⟨⟩) (by rintro ⟨⟩) (by rintro ⟨⟩) (by rintro ⟨⟩) (by rintro ⟨⟩) (by rintro ⟨⟩) (by rintro ⟨⟩), hc (10, f, 0) (by rintro ⟨⟩ <;> omega) (by rintro ⟨⟩ <;> omega) (by rintro ⟨⟩ <;> omega) (by rintro ⟨⟩ <;> omega) (by rintro ⟨⟩ <;> omega) (by rintro ⟨⟩ <;> omega) (by rintro ⟨⟩ <;> omega), hc (11, f, 0) (by rintro ⟨⟩ <;> omega) (by rintro ⟨⟩ <;> omega) (by rintro ⟨⟩ <;> omega) (by rintro ⟨⟩ <;> omega) (by rintro ⟨⟩ <;> omega) (by rintro ⟨⟩ <;> omega) (by rintro ⟨⟩ <;> omega), g1']
              refine ⟨i1, i2, i3, i4, ?_, i6⟩
              by_cases ef : f = k
              · subst ef
                rw [if_pos rfl]
                exact S7
              · rw [if_neg (fun h5 => ef ((nI_eq (by omega) (by omega)).mp h5).symm)]
                exact lsz_cg i5 (hp _ (by rintro ⟨⟩) (by rintro ⟨⟩) (by rintro ⟨⟩; exact ef rfl) (by rintro ⟨⟩)) (by rw [hc _ (by rintro ⟨⟩) (by rintro ⟨⟩) (by rintro ⟨⟩) (by rintro ⟨⟩; exact ef rfl) (by rintro ⟨⟩) (by rintro ⟨⟩) (by rintro ⟨⟩)]) (hc _ (by rintro ⟨⟩) (by rintro ⟨⟩) (by rintro ⟨⟩) (by rintro ⟨⟩) (by rintro ⟨⟩; exact ef rfl) (by rintro ⟨⟩) (by rintro ⟨⟩))
            · rw [X44, Z28, Z29]
              by_cases es : s = n
              · subst es
                rw [X12, pk_us, pk_us, pk_us, c1, X47, g1 _ s (Nat.le_refl _), pk_us, pl_in_0 _ no31, cn_0 _ no31, v9 s (Nat.le_refl _)]
                exact ⟨rfl, rfl, rfl, rfl, rfl, S8, rfl, md_inN hk (by omega), md_inB (n := 500) (Int32.le_trans (by decide) h3.1) h3.2 (by decide), Int32.le_refl _, Int32.le_trans (by decide) h3.1, fun _ => rfl⟩
              · have us : ∀ (f : Nat → Int32) (v : Int32), upd f n v s = f s := fun f v => if_neg es
                rw [us, us, us]
                obtain ⟨i1, i2, i3, i4, i5, i6, i7, i8, i9⟩ := v6 s (by omega)
                rw [hc (12, s, 0) (by rintro ⟨⟩) (by rintro ⟨⟩) (by rintro ⟨⟩; exact es rfl) (by rintro ⟨⟩) (by rintro ⟨⟩) (by rintro ⟨⟩) (by rintro ⟨⟩)]
                refine ⟨i1, i2, i3, i4, i5, lsz_cg i6 (hp _ (by rintro ⟨⟩; exact es rfl) (by rintro ⟨⟩) (by rintro ⟨⟩) (by rintro ⟨⟩)) (by rw [hc _ (by rintro ⟨⟩; exact es rfl) (by rintro ⟨⟩) (by rintro ⟨⟩) (by rintro ⟨⟩) (by rintro ⟨⟩) (by rintro ⟨⟩) (by rintro ⟨⟩)]) (hc _ (by rintro ⟨⟩) (by rintro ⟨⟩; exact es rfl) (by rintro ⟨⟩) (by rintro ⟨⟩) (by rintro ⟨⟩) (by rintro ⟨⟩) (by rintro ⟨⟩)), ?_, i8, i9⟩
                rw [g1 _ s (by omega)]
                obtain ⟨ef, hf⟩ := md_inE i8
                by_cases ek : (z.2 28 s).toNatClampNeg = k
                · have e28 : z.2 28 s = nI k := by rw [ef, ek]
                  have hlt := cf_lt (z := z) (f := nI k) (show s < n by omega) e28
                  rw [ek, X47, e28]
                  unfold upd
                  rw [if_neg (by omega)]
                  rw [ek, e28] at i7
                  exact i7
                · rw [hc (4, 7, (z.2 28 s).toNatClampNeg) (by rintro ⟨⟩) (by rintro ⟨⟩) (by rintro ⟨⟩) (by rintro ⟨⟩) (by intro h5; exact ek (congrArg (fun x => x.2.2) h5)) (by rintro ⟨⟩) (by rintro ⟨⟩)]
                  exact i7
            · have hlt := (md_inE (r5b j hj).1).2
              rw [hc (4, 8, (z.2 31 j).toNatClampNeg) (by rintro ⟨⟩) (by intro h5; have h6 : (z.2 31 j).toNatClampNeg = n := congrArg (fun x => x.2.2) h5; omega) (by rintro ⟨⟩) (by rintro ⟨⟩) (by rintro ⟨⟩) (by rintro ⟨⟩) (by rintro ⟨⟩), hc (13, (z.2 31 j).toNatClampNeg, cn z (z.2 31 j) j) (by rintro ⟨⟩) (by rintro ⟨⟩) (by rintro ⟨⟩) (by rintro ⟨⟩) (by rintro ⟨⟩) (by rintro ⟨⟩) (by rintro ⟨⟩)]
              exact v7 j hj
          · show RV P3 Z
            intro r' u0 hl
            have hN1 : n < (Z.1 5).toNatClampNeg := by
              rw [Z5, nI_clamp (by omega)]
              omega
            by_cases u1 : r' = (4, 4, 0)
            · rw [u1]; exact (bd34 (by decide)).2
            · by_cases u2 : r' = (3, 8, n)
              · rw [u2]; exact (bd38 hN1).1
              · by_cases u3 : r' = (12, n, 0)
                · rw [u3]; exact bd12 hN1
                · by_cases u4 : r' = (4, 7, k)
                  · rw [u4]; exact (bd37 (by rw [Zi 4 (by decide)]; exact hk)).2
                  · refine bd_m (rv r' u0 ((el r' u0 u2 u3 u4 u1).mp hl)) (Nat.le_of_eq (by rw [Zi _ (by decide)])) (Nat.le_of_eq (by rw [Zi _ (by decide)])) (Nat.le_of_eq (by rw [Zi _ (by decide)])) (by omega) (Nat.le_of_eq (by rw [Zi _ (by decide)])) (fun s => cn_le (Za _ (by decide) (by decide)) (Zi _ (by decide)))
      · rw [if_neg h3]
        refine xop_s (c1 := c) ?_ w R
        rw [e59]
        simp only [s59_0, s59_1, s59_2, s59_5, s59_5n, s59_6, s59_6n, s59_7n, s59_7, s59_10, s59_10n, s59_11, s59_14, s59_17, s59_18, s59_19, s59_22, s59_25, s59_28, s59_29, s59_32, s59_35, s59_37, s59_40, s59_41, s59_42, s59_45, s59_46, s59_46n, s59_47, s59_48, s59_51, s59_53, s59_53n, s59_54, s59_57, s59_59, s59_62, s59_63, s59_64, s59_67, s59_69, s59_72, s59_73, s59_74, s59_77, s59_80, s59_81, s59_82, zl_n, zl_i, zl_r, zl_0, z10, z01, ez_bd_s, ez_bd_n, eq_self, true_or, or_true, if_true, if_false, zb_eq, zb_eq1, zb_em, zb_em2, ite_not, List.append_nil, List.cons_append, List.nil_append, reduceCtorEq, not_true_eq_false, not_false_eq_true, xo1, xa1, xf1_0, xv1_0, xp1_0, xf1_1, xv1_1, xf1_2, xv1_2, xp1_2, xf1_3, xv1_3, xf1_4, xv1_4, xf1_5, xv1_5, xp1_5, xf1_6, xv1_6, xp1_6, xf1_7, xv1_7, xf1_8, xv1_8, xf1_9, xv1_9, xf1_10, xv1_10, xf1_11, xv1_11, xf1_12, xv1_12, xf1_13, xv1_13, xf1_14, xv1_14, xp1_14, xo3, xa3, xf3_0, xv3_0, xp3_0, xf3_1, xv3_1, xf3_2, xv3_2, xp3_2, xo5, xa5, xf5_0, xv5_0, xp5_0, xf5_1, xv5_1, xp5_1, xf5_2, xv5_2, xp5_2, xf5_3, xv5_3, xp5_3, xf5_4, xv5_4, xp5_4, xf5_5, xv5_5, xp5_5, xf5_6, xv5_6, xp5_6, xf5_7, xv5_7, xp5_7, xf5_8, xv5_8, xp5_8, xf5_9, xv5_9, xp5_9, xf5_10, xv5_10, xp5_10, xf5_11, xv5_11, xp5_11, xf5_12, xv5_12, xp5_12, xo6, xa6, xf6_0, xv6_0, xp6_0, xf6_1, xv6_1, xp6_1, xf6_2, xv6_2, xp6_2, xo7, xa7, xf7_0, xv7_0, xp7_0, xf7_1, xv7_1, xp7_1, xf7_2, xv7_2, xp7_2, xf7_3, xv7_3, xp7_3, xf7_4, xv7_4, xf7_5, xv7_5, xo8, xa8, xf8_0, xv8_0, xp8_0, xf8_1, xv8_1, xo10, xa10, xf10_0, xv10_0, xp10_0, xf10_1, xv10_1, xp10_1, xf10_2, xv10_2, xp10_2, xf10_3, xv10_3, xf10_4, xv10_4, xo12, xa12, xf12_0, xv12_0, xf12_1, xv12_1, xp12_1, xf12_2, xv12_2, xp12_2, xf12_3, xv12_3, xp12_3, xf12_4, xv12_4, xo13, xa13, xf13_0, xv13_0, xf13_1, xv13_1, xp13_1, xo14, xa14, xf14_0, xv14_0, xf14_1, xv14_1, xp14_1, xf14_2, xv14_2, xp14_2, xf14_3, xv14_3, xp14_3, ya2_1, yw2_1, yv2_1, yp2_1, yn2_1, yl2_1, ya2_3, yw2_3, yv2_3, yp2_3, yn2_3, yl2_3, ya2_10, yw2_10, yv2_10, yp2_10, yn2_10, yl2_10, ya2_11, yw2_11, yv2_11, yp2_11, yn2_11, yl2_11, ya9, yw9, yv9, yp9, yn9, yl9, ya11, yw11, yv11, yp11, yn11, yl11, ya15, yw15, yv15, yp15, yn15, yl15, ya16, yw16, yv16, yp16, yn16, yl16, ok10, ok11, ok1i, xu_s, xu_n, ne_eq, Prod.mk.injEq, Nat.reduceEqDiff, false_and, and_false, not_false_eq_true, l1, l21, l23, l16, l30, l31, l32, l210, l211, l33, l34, ok, q, l10, y3, h2, c_within]
        simp only [if_neg h3, zl_n, zl_i, zl_r, zl_0, z10, z01, ez_bd_s, ez_bd_n, eq_self, true_or, or_true, if_true, if_false, zb_eq, zb_eq1, zb_em, zb_em2, ite_not, List.append_nil, List.cons_append, List.nil_append, reduceCtorEq, not_true_eq_false, not_false_eq_true]
    · rw [if_neg h2]
      refine xop_s (c1 := c) ?_ w R
      rw [e59]
      simp only [s59_0, s59_1, s59_2, s59_5, s59_5n, s59_6, s59_6n, s59_7n, s59_7, s59_10, s59_10n, s59_11, s59_14, s59_17, s59_18, s59_19, s59_22, s59_25, s59_28, s59_29, s59_32, s59_35, s59_37, s59_40, s59_41, s59_42, s59_45, s59_46, s59_46n, s59_47, s59_48, s59_51, s59_53, s59_53n, s59_54, s59_57, s59_59, s59_62, s59_63, s59_64, s59_67, s59_69, s59_72, s59_73, s59_74, s59_77, s59_80, s59_81, s59_82, zl_n, zl_i, zl_r, zl_0, z10, z01, ez_bd_s, ez_bd_n, eq_self, true_or, or_true, if_true, if_false, zb_eq, zb_eq1, zb_em, zb_em2, ite_not, List.append_nil, List.cons_append, List.nil_append, reduceCtorEq, not_true_eq_false, not_false_eq_true, xo1, xa1, xf1_0, xv1_0, xp1_0, xf1_1, xv1_1, xf1_2, xv1_2, xp1_2, xf1_3, xv1_3, xf1_4, xv1_4, xf1_5, xv1_5, xp1_5, xf1_6, xv1_6, xp1_6, xf1_7, xv1_7, xf1_8, xv1_8, xf1_9, xv1_9, xf1_10, xv1_10, xf1_11, xv1_11, xf1_12, xv1_12, xf1_13, xv1_13, xf1_14, xv1_14, xp1_14, xo3, xa3, xf3_0, xv3_0, xp3_0, xf3_1, xv3_1, xf3_2, xv3_2, xp3_2, xo5, xa5, xf5_0, xv5_0, xp5_0, xf5_1, xv5_1, xp5_1, xf5_2, xv5_2, xp5_2, xf5_3, xv5_3, xp5_3, xf5_4, xv5_4, xp5_4, xf5_5, xv5_5, xp5_5, xf5_6, xv5_6, xp5_6, xf5_7, xv5_7, xp5_7, xf5_8, xv5_8, xp5_8, xf5_9, xv5_9, xp5_9, xf5_10, xv5_10, xp5_10, xf5_11, xv5_11, xp5_11, xf5_12, xv5_12, xp5_12, xo6, xa6, xf6_0, xv6_0, xp6_0, xf6_1, xv6_1, xp6_1, xf6_2, xv6_2, xp6_2, xo7, xa7, xf7_0, xv7_0, xp7_0, xf7_1, xv7_1, xp7_1, xf7_2, xv7_2, xp7_2, xf7_3, xv7_3, xp7_3, xf7_4, xv7_4, xf7_5, xv7_5, xo8, xa8, xf8_0, xv8_0, xp8_0, xf8_1, xv8_1, xo10, xa10, xf10_0, xv10_0, xp10_0, xf10_1, xv10_1, xp10_1, xf10_2, xv10_2, xp10_2, xf10_3, xv10_3, xf10_4, xv10_4, xo12, xa12, xf12_0, xv12_0, xf12_1, xv12_1, xp12_1, xf12_2, xv12_2, xp12_2, xf12_3, xv12_3, xp12_3, xf12_4, xv12_4, xo13, xa13, xf13_0, xv13_0, xf13_1, xv13_1, xp13_1, xo14, xa14, xf14_0, xv14_0, xf14_1, xv14_1, xp14_1, xf14_2, xv14_2, xp14_2, xf14_3, xv14_3, xp14_3, ya2_1, yw2_1, yv2_1, yp2_1, yn2_1, yl2_1, ya2_3, yw2_3, yv2_3, yp2_3, yn2_3, yl2_3, ya2_10, yw2_10, yv2_10, yp2_10, yn2_10, yl2_10, ya2_11, yw2_11, yv2_11, yp2_11, yn2_11, yl2_11, ya9, yw9, yv9, yp9, yn9, yl9, ya11, yw11, yv11, yp11, yn11, yl11, ya15, yw15, yv15, yp15, yn15, yl15, ya16, yw16, yv16, yp16, yn16, yl16, ok10, ok11, ok1i, xu_s, xu_n, ne_eq, Prod.mk.injEq, Nat.reduceEqDiff, false_and, and_false, not_false_eq_true, l1, l21, l23, l16, l30, l31, l32, l210, l211, l33, l34, ok, q, l10, y3, h2]
  · rw [if_neg h1]
    refine xop_s (c1 := c) ?_ w R
    rw [e59]
    simp only [s59_0, s59_1, s59_2, s59_5, s59_5n, s59_6, s59_6n, s59_7n, s59_7, s59_10, s59_10n, s59_11, s59_14, s59_17, s59_18, s59_19, s59_22, s59_25, s59_28, s59_29, s59_32, s59_35, s59_37, s59_40, s59_41, s59_42, s59_45, s59_46, s59_46n, s59_47, s59_48, s59_51, s59_53, s59_53n, s59_54, s59_57, s59_59, s59_62, s59_63, s59_64, s59_67, s59_69, s59_72, s59_73, s59_74, s59_77, s59_80, s59_81, s59_82, zl_n, zl_i, zl_r, zl_0, z10, z01, ez_bd_s, ez_bd_n, eq_self, true_or, or_true, if_true, if_false, zb_eq, zb_eq1, zb_em, zb_em2, ite_not, List.append_nil, List.cons_append, List.nil_append, reduceCtorEq, not_true_eq_false, not_false_eq_true, xo1, xa1, xf1_0, xv1_0, xp1_0, xf1_1, xv1_1, xf1_2, xv1_2, xp1_2, xf1_3, xv1_3, xf1_4, xv1_4, xf1_5, xv1_5, xp1_5, xf1_6, xv1_6, xp1_6, xf1_7, xv1_7, xf1_8, xv1_8, xf1_9, xv1_9, xf1_10, xv1_10, xf1_11, xv1_11, xf1_12, xv1_12, xf1_13, xv1_13, xf1_14, xv1_14, xp1_14, xo3, xa3, xf3_0, xv3_0, xp3_0, xf3_1, xv3_1, xf3_2, xv3_2, xp3_2, xo5, xa5, xf5_0, xv5_0, xp5_0, xf5_1, xv5_1, xp5_1, xf5_2, xv5_2, xp5_2, xf5_3, xv5_3, xp5_3, xf5_4, xv5_4, xp5_4, xf5_5, xv5_5, xp5_5, xf5_6, xv5_6, xp5_6, xf5_7, xv5_7, xp5_7, xf5_8, xv5_8, xp5_8, xf5_9, xv5_9, xp5_9, xf5_10, xv5_10, xp5_10, xf5_11, xv5_11, xp5_11, xf5_12, xv5_12, xp5_12, xo6, xa6, xf6_0, xv6_0, xp6_0, xf6_1, xv6_1, xp6_1, xf6_2, xv6_2, xp6_2, xo7, xa7, xf7_0, xv7_0, xp7_0, xf7_1, xv7_1, xp7_1, xf7_2, xv7_2, xp7_2, xf7_3, xv7_3, xp7_3, xf7_4, xv7_4, xf7_5, xv7_5, xo8, xa8, xf8_0, xv8_0, xp8_0, xf8_1, xv8_1, xo10, xa10, xf10_0, xv10_0, xp10_0, xf10_1, xv10_1, xp10_1, xf10_2, xv10_2, xp10_2, xf10_3, xv10_3, xf10_4, xv10_4, xo12, xa12, xf12_0, xv12_0, xf12_1, xv12_1, xp12_1, xf12_2, xv12_2, xp12_2, xf12_3, xv12_3, xp12_3, xf12_4, xv12_4, xo13, xa13, xf13_0, xv13_0, xf13_1, xv13_1, xp13_1, xo14, xa14, xf14_0, xv14_0, xf14_1, xv14_1, xp14_1, xf14_2, xv14_2, xp14_2, xf14_3, xv14_3, xp14_3, ya2_1, yw2_1, yv2_1, yp2_1, yn2_1, yl2_1, ya2_3, yw2_3, yv2_3, yp2_3, yn2_3, yl2_3, ya2_10, yw2_10, yv2_10, yp2_10, yn2_10, yl2_10, ya2_11, yw2_11, yv2_11, yp2_11, yn2_11, yl2_11, ya9, yw9, yv9, yp9, yn9, yl9, ya11, yw11, yv11, yp11, yn11, yl11, ya15, yw15, yv15, yp15, yn15, yl15, ya16, yw16, yv16, yp16, yn16, yl16, ok10, ok11, ok1i, xu_s, xu_n, ne_eq, Prod.mk.injEq, Nat.reduceEqDiff, false_and, and_false, not_false_eq_true, l1, l21, l23, l16, l30, l31, l32, l210, l211, l33, l34, ok, c_fleetAt_n w R h1]
end O8
