section AR
variable {g : ez_G} {h h0 h2 : ez_H} {P P1 : xP} {c c1 : xR → Nat → Int32} {z z' Z : md_S} {S m t n N : Nat}
theorem a_read (hg : g.1 = P.1) (X : xst g P h0) (w : xw h0 P c) (R : RR P c z) (hN : N ≤ 600) (hn : nI N ≤ z.1 36) (hS : S < 20) (eS : z.1 40 = nI S) : ∃ v h3 P3 c3, ez_ev g 45 [.ref (P.2.2.1 (1, 0, 0)), .int (nI N)] (xh h0 P c) = ez_rn g 45 62 [some (.ref (P3.2.2.1 (1, 0, 0))), some (.int (nI N)), some (.ref (P3.2.2.1 (7, S, 0))), some (.ref (P3.2.2.1 (14, 0, 0))), some (.int v)] [] (xh h3 P3 c3) ∧ xw h3 P3 c3 ∧ (∀ r, ¬ inS S r → c3 r = c r ∧ P3.2.2.1 r = P.2.2.1 r ∧ P3.2.2.2 r = P.2.2.2 r) ∧ (∀ r, r.1 ≠ 0 → ¬ inS S r → (lv P3 r ↔ lv P r)) ∧ (lv P3 (14, 0, 0) ∧ lv P3 (7, S, 0)) ∧ xfr h0 P h3 P3 52 6496 ∧ (c3 (7, S, 0) 0 = z.1 0 ∧ c3 (7, S, 0) 1 = 0) ∧ (((pm_al z (nI N)).2 = 0 ∧ v = 0 ∧ c3 (14, 0, 0) 2 = (pm_al z (nI N)).1.1 38) ∨ ((pm_al z (nI N)).2 = 1 ∧ v = 1 ∧ ∃ K, K ≤ 16 ∧ (pm_al z (nI N)).1.2 41 S = nI K ∧ RS P3 c3 (pm_al z (nI N)).1 S K ∧ NL P3 (pm_al z (nI N)).1 S K)) := by
  obtain ⟨l1, l21, l23, l16, l30, l31, l32, l210, l211, l33, l34⟩ := w_lvs w R.1; have ok := w.1
  obtain ⟨⟨a1, a2, a3, a4, a5⟩, ⟨b1, b2, b3⟩, ⟨d1, d2, d3⟩, m0, m1, m7, m36⟩ := R.2.1; have r1 := R.2.2.1; have r2 := R.2.2.2.1; have r5 := R.2.2.2.2.1; have r3 := R.2.2.2.2.2.1; have r4 := R.2.2.2.2.2.2.1; have rv := R.2.2.2.2.2.2.2; have r0 := R.2.1
  have kS : (z.1 40).toNatClampNeg = S := by rw [eS, nI_clamp (by omega)]
  have nlt : ∀ r, r.1 ≠ 0 → (r.1 = 7 ∨ r.1 = 8 ∨ r.1 = 9) → r.2.1 = S → ¬ lv P r := fun r u0 u1 u2 hl => by
    have := (rv r u0 hl).2.2.2.2.2.2.1 u1
    omega
  have nll : ∀ r, (r.1 = 3 ∨ r.1 = 4) → (r.2.1 = 5 ∨ r.2.1 = 6) → r.2.2 = S → ¬ lv P r := fun r u1 u2 u3 hl => by
    have := ((rv r (by omega) hl).2.2.2.2.2.1 u1).2.2 u2
    omega
  have n14 : ¬ lv P (14, 0, 0) := fun hl => (rv (14, 0, 0) (show 14 ≠ 0 by decide) hl).2.2.2.2.2.2.2.1 rfl
  have q0 := w.2.1 h0.2.1 (Nat.le_refl _)
  obtain ⟨h1, P1, c1, e1, w1, l7, p7, c7, s5, s6, f1, fc, x1⟩ := x_stat (g := g) (S := S) (d := c (1, 0, 0) 0) hg w (nlt _ (show 7 ≠ 0 by decide) (Or.inl rfl) rfl) (nll _ (Or.inl rfl) (Or.inl rfl) rfl) (nll _ (Or.inr rfl) (Or.inl rfl) rfl) (nll _ (Or.inl rfl) (Or.inr rfl) rfl) (nll _ (Or.inr rfl) (Or.inr rfl) rfl)
  have l1' : lv P1 (1, 0, 0) := ((f1 _ (by rintro ⟨⟩) (by rintro ⟨⟩) (by rintro ⟨⟩)).2.2 (show 1 ≠ 0 by decide)).mpr l1
  have l16' : lv P1 (16, 0, 0) := ((f1 _ (by rintro ⟨⟩) (by rintro ⟨⟩) (by rintro ⟨⟩)).2.2 (show 16 ≠ 0 by decide)).mpr l16
  have n14' : ¬ lv P1 (14, 0, 0) := fun hl => n14 (((f1 _ (by rintro ⟨⟩) (by rintro ⟨⟩) (by rintro ⟨⟩)).2.2 (show 14 ≠ 0 by decide)).mp hl)
  have a1' : P1.2.2.1 (1, 0, 0) = P.2.2.1 (1, 0, 0) := (f1 _ (by rintro ⟨⟩) (by rintro ⟨⟩) (by rintro ⟨⟩)).1
  have q0' := w1.2.1 h1.2.1 (Nat.le_refl _)
  obtain ⟨h2, e2, w2, x2⟩ := x_reader (n := nI N) w1 l16' n14'
  have pa2 : ∀ r, r ≠ (14, 0, 0) → (pad P1 (14, 0, 0) h1.2.1).2.2.1 r = P1.2.2.1 r ∧ (pad P1 (14, 0, 0) h1.2.1).2.2.2 r = P1.2.2.2 r := fun r u => ⟨pad_a u, pad_c u⟩
  have lp2 : ∀ r, r.1 ≠ 0 → r ≠ (14, 0, 0) → (lv (pad P1 (14, 0, 0) h1.2.1) r ↔ lv P1 r) := fun r u0 u1 => lv_pad q0' u0 u1
  have l14 : lv (pad P1 (14, 0, 0) h1.2.1) (14, 0, 0) := lv_pad_r
  have p14 : (pad P1 (14, 0, 0) h1.2.1).2.2.1 (14, 0, 0) = (xh h1 P1 c1).2.1 := pad_r
  have hc2 : ∀ r, r ≠ (14, 0, 0) → xs c1 (14, 0, 0) (fun i => if i = 1 then nI N else 0) r = c1 r := fun r u => xs_n u
  have c214 : xs c1 (14, 0, 0) (fun i => if i = 1 then nI N else 0) (14, 0, 0) = fun i => if i = 1 then nI N else 0 := xs_r
  generalize pad P1 (14, 0, 0) h1.2.1 = P2 at *
  generalize xs c1 (14, 0, 0) (fun i => if i = 1 then nI N else 0) = c2 at *
  have l72 : lv P2 (7, S, 0) := (lp2 _ (show 7 ≠ 0 by decide) (by rintro ⟨⟩)).mpr l7
  have l162 : lv P2 (16, 0, 0) := (lp2 _ (show 16 ≠ 0 by decide) (by rintro ⟨⟩)).mpr l16'
  have X2 : xst g P2 h2 := xst_f (xst_f X x1) x2
  have hc12 : ∀ r, ¬ inS S r → c2 r = c r := fun r hr => by
    rw [hc2 r (nin hr in14), fc r (nin hr in7) (nin hr in35.1) (nin hr in35.2) (nin hr in36.1) (nin hr in36.2)]
  have c16 : c2 (16, 0, 0) = z.2 34 := (hc12 _ (by unfold inS; dsimp only; omega)).trans b3
  have c72 : c2 (7, S, 0) = fun i => if i = 0 then c (1, 0, 0) 0 else 0 := (hc2 _ (by rintro ⟨⟩)).trans c7
  obtain ⟨v, h3, P3, c3, q3, w3, F3, res⟩ := c_readS (g := g) (S := S) (N := N) (Z := pm_z2 z (nI N)) (hg.trans (x2.1.trans x1.1).symm) X2 w2 l14 l72 l162 hN rfl rfl (fun i hi => by
      rw [c16]
      unfold pm_z2
      rw [md_A2n (by decide)]
      show (pcp z (nI N).toNatClampNeg).2 35 i = _
      rw [nI_clamp (by omega), pcp_T, if_pos hi]
      exact m36.2 i) (by
      unfold pm_z2
      rw [md_A2, if_pos rfl, kS, pk_us]) c214 (by rw [c72]; rfl) (by rw [c72]; rfl) (lsz_cg s5 (pa2 _ (by rintro ⟨⟩)).2 (by rw [hc2 _ (by rintro ⟨⟩)]) (hc2 _ (by rintro ⟨⟩))) (lsz_cg s6 (pa2 _ (by rintro ⟨⟩)).2 (by rw [hc2 _ (by rintro ⟨⟩)]) (hc2 _ (by rintro ⟨⟩))) (fun κ hl => by
      have g8 : ∀ k, k = 8 ∨ k = 9 → ¬ lv P2 (k, S, κ) := fun k hk hl => by
        have n1 : ((k, S, κ) : xR) ≠ (14, 0, 0) := by rcases hk with rfl | rfl <;> rintro ⟨⟩
        have n2 : ((k, S, κ) : xR) ≠ (7, S, 0) := by rcases hk with rfl | rfl <;> rintro ⟨⟩
        have n3 : ((k, S, κ) : xR) ≠ (3, 5, S) := by rcases hk with rfl | rfl <;> rintro ⟨⟩
        have n4 : ((k, S, κ) : xR) ≠ (3, 6, S) := by rcases hk with rfl | rfl <;> rintro ⟨⟩
        have k0 : k ≠ 0 := by omega
        exact nlt (k, S, κ) k0 (Or.inr hk) rfl (((f1 _ n2 n3 n4).2.2 k0).mp ((lp2 _ k0 n1).mp hl))
      rcases hl with hl | hl
      · exact g8 8 (Or.inl rfl) hl
      · exact g8 9 (Or.inr rfl) hl)
  have res : (((pm_al z (nI N)).2 = 0 ∧ v = 0 ∧ c3 (14, 0, 0) 2 = (pm_al z (nI N)).1.1 38) ∨ ((pm_al z (nI N)).2 = 1 ∧ v = 1 ∧ ∃ K, K ≤ 16 ∧ (pm_al z (nI N)).1.2 41 S = nI K ∧ RS P3 c3 (pm_al z (nI N)).1 S K ∧ NL P3 (pm_al z (nI N)).1 S K)) := by
    unfold pm_al
    rw [kS]
    exact res
  refine ⟨v, h3, P3, c3, ?_, w3, fun r hr => ⟨(F3.1 r hr).1.trans (hc12 r hr), ?_, ?_⟩, fun r u0 hr => ?_, ⟨F3.2.2.2.1 l14, F3.2.2.2.2.1 l72⟩, xfr_w (xfr_t (xfr_t x1 x2) F3.2.2.2.2.2) (by decide) (by decide), ⟨by rw [F3.2.2.1.2.2 0 (by decide) (by decide), c72]; exact a1, by rw [F3.2.2.1.2.2 1 (by decide) (by decide), c72]; rfl⟩, res⟩
  · have t1 : ∀ E k, ez_isF ((ez_nw (xh h0 P c) E k).1 (P.2.2.1 (1, 0, 0))) 9 0 = true ∧ ez_vF ((ez_nw (xh h0 P c) E k).1 (P.2.2.1 (1, 0, 0))) 0 = .int (c (1, 0, 0) 0) := fun E k => by
      rw [xh_nw q0]
      exact ⟨xf1_0 l1, xv1_0 l1⟩
    have t2 : ∀ E k, ez_isF ((ez_nw (xh h1 P1 c1) E k).1 (P.2.2.1 (1, 0, 0))) 9 4 = true ∧ ez_vF ((ez_nw (xh h1 P1 c1) E k).1 (P.2.2.1 (1, 0, 0))) 4 = .ref (P1.2.2.1 (16, 0, 0)) := fun E k => by
      rw [xh_nw q0', ← a1']
      exact ⟨xf1_4 l1', xv1_4 l1'⟩
    have hne : (P1.2.2.1 (16, 0, 0) = (xh h1 P1 c1).2.1) = False := eq_false fun e => by
      have e : P1.2.2.1 (16, 0, 0) = h1.2.1 := e
      have l := l16'
      unfold lv at l
      rw [e] at l
      rw [l] at q0'
      exact absurd q0' (show ¬ 16 = 0 by decide)
    have ci := fun m => c_rdInit (g := g) (h := xh h1 P1 c1) (m := m) (x := P1.2.2.1 (16, 0, 0)) (n := nI N) (f := c1 (16, 0, 0)) (xh_at l16' (show 16 ≠ 0 by decide)) hne (eq_false (Int32.not_lt.mpr (nI_le (b := 600) hN (by decide))))
    have g1 : P3.2.2.1 (1, 0, 0) = P.2.2.1 (1, 0, 0) := ((F3.1 _ (by unfold inS; dsimp only; omega)).2.1.trans (pa2 _ (by rintro ⟨⟩)).1).trans a1'
    have p72 : P2.2.2.1 (7, S, 0) = (xh h0 P c).2.1 := (pa2 _ (by rintro ⟨⟩)).1.trans p7
    have o14 : ez_isO ((xh h2 P2 c2).1 (xh h1 P1 c1).2.1) 6 = true := by
      rw [← p14]
      exact xo14 l14
    rw [p14, p72] at q3
    rw [g1, F3.2.2.1.1, F3.2.2.1.2.1, p14, p72, e45]
    simp only [s45_0, s45_1, s45_4, s45_5, s45_6, s45_9, s45_12, s45_14, s45_15, s45_16, s45_19, s45_22, s45_24, s45_27, s45_29, s45_30, s45_33, s45_34, s45_35, s45_38, s45_41, s45_42, s45_45, s45_46, s45_47, s45_50, s45_51, s45_54, s45_55, s45_56, s45_57, s45_60, s45_63, s45_64, s45_67, s45_69, s45_72, s45_73, s45_74, s45_77, s45_80, s45_81, s45_82, s45_83, s45_84, s45_87, s45_88, s45_91, s45_92, s45_95, s45_96, s45_97, s45_100, s45_103, s45_104, s45_105, zl_n, zl_i, zl_r, zl_0, z10, z01, ez_bd_s, ez_bd_n, eq_self, true_or, or_true, if_true, if_false, zb_eq, zb_eq1, zb_em, zb_em2, ite_not, List.append_nil, List.cons_append, List.nil_append, reduceCtorEq, not_true_eq_false, not_false_eq_true, xo1, xa1, xf1_0, xv1_0, xp1_0, xf1_1, xv1_1, xf1_2, xv1_2, xp1_2, xf1_3, xv1_3, xf1_4, xv1_4, xf1_5, xv1_5, xp1_5, xf1_6, xv1_6, xp1_6, xf1_7, xv1_7, xf1_8, xv1_8, xf1_9, xv1_9, xf1_10, xv1_10, xf1_11, xv1_11, xf1_12, xv1_12, xf1_13, xv1_13, xf1_14, xv1_14, xp1_14, xo3, xa3, xf3_0, xv3_0, xp3_0, xf3_1, xv3_1, xf3_2, xv3_2, xp3_2, xo5, xa5, xf5_0, xv5_0, xp5_0, xf5_1, xv5_1, xp5_1, xf5_2, xv5_2, xp5_2, xf5_3, xv5_3, xp5_3, xf5_4, xv5_4, xp5_4, xf5_5, xv5_5, xp5_5, xf5_6, xv5_6, xp5_6, xf5_7, xv5_7, xp5_7, xf5_8, xv5_8, xp5_8, xf5_9, xv5_9, xp5_9, xf5_10, xv5_10, xp5_10, xf5_11, xv5_11, xp5_11, xf5_12, xv5_12, xp5_12, xo6, xa6, xf6_0, xv6_0, xp6_0, xf6_1, xv6_1, xp6_1, xf6_2, xv6_2, xp6_2, xo7, xa7, xf7_0, xv7_0, xp7_0, xf7_1, xv7_1, xp7_1, xf7_2, xv7_2, xp7_2, xf7_3, xv7_3, xp7_3, xf7_4, xv7_4, xf7_5, xv7_5, xo8, xa8, xf8_0, xv8_0, xp8_0, xf8_1, xv8_1, xo10, xa10, xf10_0, xv10_0, xp10_0, xf10_1, xv10_1, xp10_1, xf10_2, xv10_2, xp10_2, xf10_3, xv10_3, xf10_4, xv10_4, xo12, xa12, xf12_0, xv12_0, xf12_1, xv12_1, xp12_1, xf12_2, xv12_2, xp12_2, xf12_3, xv12_3, xp12_3, xf12_4, xv12_4, xo13, xa13, xf13_0, xv13_0, xf13_1, xv13_1, xp13_1, xo14, xa14, xf14_0, xv14_0, xf14_1, xv14_1, xp14_1, xf14_2, xv14_2, xp14_2, xf14_3, xv14_3, xp14_3, ya2_1, yw2_1, yv2_1, yp2_1, yn2_1, yl2_1, ya2_3, yw2_3, yv2_3, yp2_3, yn2_3, yl2_3, ya2_10, yw2_10, yv2_10, yp2_10, yn2_10, yl2_10, ya2_11, yw2_11, yv2_11, yp2_11, yn2_11, yl2_11, ya9, yw9, yv9, yp9, yn9, yl9, ya11, yw11, yv11, yp11, yn11, yl11, ya15, yw15, yv15, yp15, yn15, yl15, ya16, yw16, yv16, yp16, yn16, yl16, ok10, ok11, ok1i, xu_s, xu_n, ne_eq, Prod.mk.injEq, Nat.reduceEqDiff, false_and, and_false, not_false_eq_true, l1, l21, l23, l16, l30, l31, l32, l210, l211, l33, l34, ok, a3, hn, show (nI N < 0) = False from eq_false (Int32.not_lt.mpr (nI_le (a := 0) (Nat.zero_le _) (by omega))), q_size, r4.1.2.1, kS, show (nI S < 20) = True from eq_true (nI_lt (b := 20) hS (by decide)), (t1 _ _).1, (t1 _ _).2, c_statInit, e1, (t2 _ _).1, (t2 _ _).2, ci, e2, o14, q3]
  · exact (F3.1 r hr).2.1.trans ((pa2 r (nin hr in14)).1.trans (f1 r (nin hr in7) (nin hr in35.1) (nin hr in36.1)).1)
  · exact (F3.1 r hr).2.2.trans ((pa2 r (nin hr in14)).2.trans (f1 r (nin hr in7) (nin hr in35.1) (nin hr in36.1)).2.1)
  · exact (F3.2.1 r u0 hr).trans ((lp2 r u0 (nin hr in14)).trans ((f1 r (nin hr in7) (nin hr in35.1) (nin hr in36.1)).2.2 u0))
end AR
