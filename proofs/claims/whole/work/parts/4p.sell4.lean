section OJ
variable {g : ez_G} {h h0 h2 : ez_H} {P P2 : xP} {c c' c2 : xR → Nat → Int32} {z Z : md_S} {k κ : Nat}
theorem RR_sold (R : RR P c z) (hk : k < (z.1 4).toNatClampNeg) : RR P (xu c (10, k, 0) 2 1) (pm_sold z (nI k)) ∧ pm_sold z (nI k) = md_sA z 26 k 1 := by
  have hb4 := (md_inE R.2.2.2.2.2.1.1.1).2
  have e : pm_sold z (nI k) = md_sA z 26 k 1 := by
    unfold pm_sold
    rw [nI_clamp (by omega), vb1]
  rw [e]
  refine ⟨RR_sell R hk rfl (fun t u1 _ _ => md_A2n u1) (by rw [md_A2, if_pos rfl]) (fun x hx => ?_) (fun i _ => rfl) (fun r u1 _ => xu_n u1) (fun t ht => xu_t ht) (by rw [xu_s, if_pos rfl]), rfl⟩
  rw [xu_n (by rintro ⟨⟩)]
  exact (R.2.2.2.2.2.1.2.1 k hk).2.2.2.2.2.1 x hx
theorem pal_0 (R : RR P c z) (hk : k < (z.1 4).toNatClampNeg) : pal z (nI k) (z.1 1).toNatClampNeg = lN (nsum (Wt z k) (z.1 1).toNatClampNeg) ∧ nsum (Wt z k) (z.1 1).toNatClampNeg < 2 ^ 63 := by
  obtain ⟨hW, hW0, hWl⟩ := sell_W R hk
  have hM := (md_inE R.2.1.2.2.2.2.1).2
  refine ⟨pal_n (M := (z.1 1).toNatClampNeg) (fun x hx => ⟨hWl x, by have := (hW x (by omega)).2; omega⟩) _ (Nat.le_refl _), ?_⟩
  have : nsum (Wt z k) (z.1 1).toNatClampNeg ≤ (z.1 1).toNatClampNeg * 400000 := nsum_le _ (fun j hj => (hW j (by omega)).2)
  omega
theorem sell_md {f C : Int32} (R : RR P c z) (hf : 0 ≤ f ∧ f ≤ z.1 4 - 1) (hC : 0 ≤ C ∧ C ≤ 1000000) (hp : ¬ pal (pm_sold z f) f (z.1 1).toNatClampNeg = 0) : md_sel z f C := by
  obtain ⟨e4, hb4⟩ := md_inE R.2.2.2.2.2.1.1.1
  rw [e4] at hf
  obtain ⟨k, hk, rfl⟩ := ix_p (by omega) hf
  obtain ⟨κ, hκ, rfl⟩ := nI_of2 (n := 1000000) (by decide) (Int32.not_lt.mpr hC.1) hC.2
  obtain ⟨R1, e1⟩ := RR_sold R hk
  have hM : (pm_sold z (nI k)).1 = z.1 := rfl
  have hk1 : k < ((pm_sold z (nI k)).1 4).toNatClampNeg := hk
  obtain ⟨p1, p2⟩ := pal_0 R1 hk1
  have hM1 : ((pm_sold z (nI k)).1 1).toNatClampNeg = (z.1 1).toNatClampNeg := rfl
  rw [hM1] at p1 p2
  have hA : 0 < nsum (Wt (pm_sold z (nI k)) k) (z.1 1).toNatClampNeg := by
    refine Nat.pos_of_ne_zero fun e => hp ?_
    rw [p1, e]
    rfl
  obtain ⟨L, h20, hL, -, -, -, hplf, hok, -⟩ := sell_L (κ := κ) R1 hk1 hκ hA
  rw [hM1] at hplf hok
  unfold md_sel
  rw [nI_clamp (by omega), p1]
  exact ⟨L, by omega, hplf, hok⟩
theorem o_sell {f C : Int32} (w : xw h0 P c) (R : RR P c z) : xop g 63 [.int f, .int C] h0 P c (pm_sell z f C) := by
  obtain ⟨l1, l21, l23, l16, l30, l31, l32, l210, l211, l33, l34⟩ := w_lvs w R.1; have ok := w.1
  obtain ⟨⟨a1, a2, a3, a4, a5⟩, ⟨b1, b2, b3⟩, ⟨d1, d2, d3⟩, m0, m1, m7, m36⟩ := R.2.1; have r1 := R.2.2.1; have r2 := R.2.2.2.1; have r5 := R.2.2.2.2.1; have r3 := R.2.2.2.2.2.1; have r4 := R.2.2.2.2.2.2.1; have rv := R.2.2.2.2.2.2.2; have r0 := R.2.1
  obtain ⟨ez4, hb4⟩ := md_inE r3.1.1
  unfold pm_sell
  by_cases h1 : 0 ≤ f ∧ f ≤ z.1 4 - 1
  · rw [if_pos h1]
    have h1' := h1
    rw [ez4] at h1'
    obtain ⟨k, hk, rfl⟩ := ix_p (by omega) h1'
    obtain ⟨q, l10⟩ := c_fleetAt (g := g) w R hk
    have ck' : (nI k).toNatClampNeg = k := nI_clamp (by omega)
    rw [ck']
    obtain ⟨y1, y2, y3, y4, y5, y6, y7⟩ := r3.2.1 k hk
    by_cases h2 : z.2 25 k = 0
    · rw [if_pos h2]
      refine xop_s (c1 := c) ?_ w R
      rw [e63]
      simp only [s63_0, s63_1, s63_2, s63_5, s63_5n, s63_6, s63_6n, s63_7n, s63_7, s63_10, s63_11, s63_12, s63_14, s63_17, s63_20, s63_20n, s63_21, s63_24, s63_27, s63_27n, s63_28, s63_31, s63_34, s63_35, s63_36, s63_36n, s63_37, s63_38, s63_41, s63_41n, s63_42, s63_43, s63_46, zl_n, zl_i, zl_r, zl_0, z10, z01, ez_bd_s, ez_bd_n, eq_self, true_or, or_true, if_true, if_false, zb_eq, zb_eq1, zb_em, zb_em2, ite_not, List.append_nil, List.cons_append, List.nil_append, reduceCtorEq, not_true_eq_false, not_false_eq_true, xo1, xa1, xf1_0, xv1_0, xp1_0, xf1_1, xv1_1, xf1_2, xv1_2, xp1_2, xf1_3, xv1_3, xf1_4, xv1_4, xf1_5, xv1_5, xp1_5, xf1_6, xv1_6, xp1_6, xf1_7, xv1_7, xf1_8, xv1_8, xf1_9, xv1_9, xf1_10, xv1_10, xf1_11, xv1_11, xf1_12, xv1_12, xf1_13, xv1_13, xf1_14, xv1_14, xp1_14, xo3, xa3, xf3_0, xv3_0, xp3_0, xf3_1, xv3_1, xf3_2, xv3_2, xp3_2, xo5, xa5, xf5_0, xv5_0, xp5_0, xf5_1, xv5_1, xp5_1, xf5_2, xv5_2, xp5_2, xf5_3, xv5_3, xp5_3, xf5_4, xv5_4, xp5_4, xf5_5, xv5_5, xp5_5, xf5_6, xv5_6, xp5_6, xf5_7, xv5_7, xp5_7, xf5_8, xv5_8, xp5_8, xf5_9, xv5_9, xp5_9, xf5_10, xv5_10, xp5_10, xf5_11, xv5_11, xp5_11, xf5_12, xv5_12, xp5_12, xo6, xa6, xf6_0, xv6_0, xp6_0, xf6_1, xv6_1, xp6_1, xf6_2, xv6_2, xp6_2, xo7, xa7, xf7_0, xv7_0, xp7_0, xf7_1, xv7_1, xp7_1, xf7_2, xv7_2, xp7_2, xf7_3, xv7_3, xp7_3, xf7_4, xv7_4, xf7_5, xv7_5, xo8, xa8, xf8_0, xv8_0, xp8_0, xf8_1, xv8_1, xo10, xa10, xf10_0, xv10_0, xp10_0, xf10_1, xv10_1, xp10_1, xf10_2, xv10_2, xp10_2, xf10_3, xv10_3, xf10_4, xv10_4, xo12, xa12, xf12_0, xv12_0, xf12_1, xv12_1, xp12_1, xf12_2, xv12_2, xp12_2, xf12_3, xv12_3, xp12_3, xf12_4, xv12_4, xo13, xa13, xf13_0, xv13_0, xf13_1, xv13_1, xp13_1, xo14, xa14, xf14_0, xv14_0, xf14_1, xv14_1, xp14_1, xf14_2, xv14_2, xp14_2, xf14_3, xv14_3, xp14_3, ya2_1, yw2_1, yv2_1, yp2_1, yn2_1, yl2_1, ya2_3, yw2_3, yv2_3, yp2_3, yn2_3, yl2_3, ya2_10, yw2_10, yv2_10, yp2_10, yn2_10, yl2_10, ya2_11, yw2_11, yv2_11, yp2_11, yn2_11, yl2_11, ya9, yw9, yv9, yp9, yn9, yl9, ya11, yw11, yv11, yp11, yn11, yl11, ya15, yw15, yv15, yp15, yn15, yl15, ya16, yw16, yv16, yp16, yn16, yl16, ok10, ok11, ok1i, xu_s, xu_n, ne_eq, Prod.mk.injEq, Nat.reduceEqDiff, false_and, and_false, not_false_eq_true, l1, l21, l23, l16, l30, l31, l32, l210, l211, l33, l34, ok, q, l10, y3, h2, c_within]
      split <;> simp only [zl_n, zl_i, zl_r, zl_0, z10, z01, ez_bd_s, ez_bd_n, eq_self, true_or, or_true, if_true, if_false, zb_eq, zb_eq1, zb_em, zb_em2, ite_not, List.append_nil, List.cons_append, List.nil_append, reduceCtorEq, not_true_eq_false, not_false_eq_true]
    · rw [if_neg h2]
      by_cases h3 : z.2 26 k = 0
      · rw [if_pos h3]
        by_cases h4 : 0 ≤ C ∧ C ≤ 1000000
        · rw [if_pos h4]
          obtain ⟨κ, hκ, rfl⟩ := nI_of2 (n := 1000000) (by decide) (Int32.not_lt.mpr h4.1) h4.2
          obtain ⟨R1, e1⟩ := RR_sold R hk
          have hk1 : k < ((pm_sold z (nI k)).1 4).toNatClampNeg := hk
          have hM1 : ((pm_sold z (nI k)).1 1).toNatClampNeg = (z.1 1).toNatClampNeg := rfl
          have hN5 : ((pm_sold z (nI k)).1 5).toNatClampNeg = (z.1 5).toNatClampNeg := rfl
          have hN6 : ((pm_sold z (nI k)).1 6).toNatClampNeg = (z.1 6).toNatClampNeg := rfl
          obtain ⟨p1, p2⟩ := pal_0 R1 hk1
          have w1 : xw h0 P (xu c (10, k, 0) 2 1) := xw_10 w
          have q27 : ∀ x, (z.1 1).toNatClampNeg ≤ x → x < 20 → (pm_sold z (nI k)).2 27 (20 * k + x) = 0 := fun x _ hx => by
            rw [e1, md_A2n (by decide)]
            exact y7 h3 x hx
          have a26 : (pm_sold z (nI k)).2 26 = upd (z.2 26) k 1 := by rw [e1, md_A2, if_pos rfl]
          have aZ : ∀ t, t ≠ 26 → (pm_sold z (nI k)).2 t = z.2 t := fun t ht => by rw [e1, md_A2n ht]
          have aI : (pm_sold z (nI k)).1 = z.1 := rfl
          have hL := fun hA => sell_L (κ := κ) R1 hk1 hκ hA
          obtain ⟨hW, hW0, hWl⟩ := sell_W R1 hk1
          obtain ⟨yy1, yy2⟩ := pws_y (z := pm_sold z (nI k)) (f := nI k) (z.1 1).toNatClampNeg
          rw [hM1] at p1 p2 hW0
          rw [hN5] at hW
          rw [hM1, hN5] at hL
          -- the class's dividing
          have r31 := R1.2.2.2.2.2.1
          have r51 := R1.2.2.2.2.1
          have r21 := R1.2.2.2.1
          have hMb := (md_inE m1).2
          have hb5 := (md_inE r31.1.2.1).2
          have hb6 := (md_inE r51.2.1).2
          have hcf := cf_le (z := pm_sold z (nI k)) (f := nI k) (z.1 5).toNatClampNeg
          obtain ⟨-, -, -, -, s7, -⟩ := r31.2.1 k hk1
          have dv := fun L => c_divide (g := g) (n := cf (pm_sold z (nI k)) (nI k) (z.1 5).toNatClampNeg) (L := L) (C := nI κ) w1 l10 s7 (by omega) (fun m hm => by
            obtain ⟨s, u1, u2, u3⟩ := cf_ex _ hm
            obtain ⟨-, -, -, -, -, s8, i7, -⟩ := r31.2.2.1 s u1
            rw [u2, ck', u3] at i7
            have hms : ms (xu c (10, k, 0) 2 1) k m = s := by unfold ms; rw [i7, nI_clamp (by omega)]
            rw [hms]
            have hcn := cn_leq (z := pm_sold z (nI k)) (f := nI s) (z.1 6).toNatClampNeg
            refine ⟨by omega, i7, cn (pm_sold z (nI k)) (nI s) (z.1 6).toNatClampNeg, by omega, s8, fun j hj => ?_, fun j hj => ?_⟩
            · obtain ⟨j', w1, w2, w3⟩ := cn_ex _ hj
              have := (r31.2.2.2.1 j' w1).1
              rw [w2, nI_clamp (by omega), w3] at this
              exact this
            · obtain ⟨j', w1, w2, w3⟩ := cn_ex _ hj
              have := (r31.2.2.2.1 j' w1).2.1
              rw [w2, nI_clamp (by omega), w3] at this
              have hgl : gl (xu c (10, k, 0) 2 1) s j = ((pm_sold z (nI k)).2 32 j').toNatClampNeg := by unfold gl; rw [this]
              rw [hgl]
              obtain ⟨-, k2, -⟩ := r51.2.2 j' w1
              obtain ⟨-, ⟨x0, -⟩, b12, -⟩ := r21.2.2.1 _ (md_inE k2).2
              rw [x0]
              exact md_inM b12 (by rw [hM1]; omega))
          have ok := w.1
          have ev0 : ∀ x, ez_ev g 6 [.ref (P.2.2.1 (10, k, 0)), .int (nI κ)] (xh h0 P (xu c (10, k, 0) 2 1)) = x → ez_ev g 63 [.ref (P.2.2.1 (1, 0, 0)), .int (nI k), .int (nI κ)] (xh h0 P c) = ez_bd g 63 46 [some (.ref (P.2.2.1 (1, 0, 0))), some (.int (nI k)), some (.int (nI κ)), some (.ref (P.2.2.1 (10, k, 0)))] [] x := fun x hx => by
            rw [e63]
            simp only [s63_0, s63_1, s63_2, s63_5, s63_5n, s63_6, s63_6n, s63_7n, s63_7, s63_10, s63_11, s63_12, s63_14, s63_17, s63_20, s63_20n, s63_21, s63_24, s63_27, s63_27n, s63_28, s63_31, s63_34, s63_35, s63_36, s63_36n, s63_37, s63_38, s63_41, s63_41n, s63_42, s63_43, zl_n, zl_i, zl_r, zl_0, z10, z01, ez_bd_s, ez_bd_n, eq_self, true_or, or_true, if_true, if_false, zb_eq, zb_eq1, zb_em, zb_em2, ite_not, List.append_nil, List.cons_append, List.nil_append, reduceCtorEq, not_true_eq_false, not_false_eq_true, xo1, xa1, xf1_0, xv1_0, xp1_0, xf1_1, xv1_1, xf1_2, xv1_2, xp1_2, xf1_3, xv1_3, xf1_4, xv1_4, xf1_5, xv1_5, xp1_5, xf1_6, xv1_6, xp1_6, xf1_7, xv1_7, xf1_8, xv1_8, xf1_9, xv1_9, xf1_10, xv1_10, xf1_11, xv1_11, xf1_12, xv1_12, xf1_13, xv1_13, xf1_14, xv1_14, xp1_14, xo3, xa3, xf3_0, xv3_0, xp3_0, xf3_1, xv3_1, xf3_2, xv3_2, xp3_2, xo5, xa5, xf5_0, xv5_0, xp5_0, xf5_1, xv5_1, xp5_1, xf5_2, xv5_2, xp5_2, xf5_3, xv5_3, xp5_3, xf5_4, xv5_4, xp5_4, xf5_5, xv5_5, xp5_5, xf5_6, xv5_6, xp5_6, xf5_7, xv5_7, xp5_7, xf5_8, xv5_8, xp5_8, xf5_9, xv5_9, xp5_9, xf5_10, xv5_10, xp5_10, xf5_11, xv5_11, xp5_11, xf5_12, xv5_12, xp5_12, xo6, xa6, xf6_0, xv6_0, xp6_0, xf6_1, xv6_1, xp6_1, xf6_2, xv6_2, xp6_2, xo7, xa7, xf7_0, xv7_0, xp7_0, xf7_1, xv7_1, xp7_1, xf7_2, xv7_2, xp7_2, xf7_3, xv7_3, xp7_3, xf7_4, xv7_4, xf7_5, xv7_5, xo8, xa8, xf8_0, xv8_0, xp8_0, xf8_1, xv8_1, xo10, xa10, xf10_0, xv10_0, xp10_0, xf10_1, xv10_1, xp10_1, xf10_2, xv10_2, xp10_2, xf10_3, xv10_3, xf10_4, xv10_4, xo12, xa12, xf12_0, xv12_0, xf12_1, xv12_1, xp12_1, xf12_2, xv12_2, xp12_2, xf12_3, xv12_3, xp12_3, xf12_4, xv12_4, xo13, xa13, xf13_0, xv13_0, xf13_1, xv13_1, xp13_1, xo14, xa14, xf14_0, xv14_0, xf14_1, xv14_1, xp14_1, xf14_2, xv14_2, xp14_2, xf14_3, xv14_3, xp14_3, ya2_1, yw2_1, yv2_1, yp2_1, yn2_1, yl2_1, ya2_3, yw2_3, yv2_3, yp2_3, yn2_3, yl2_3, ya2_10, yw2_10, yv2_10, yp2_10, yn2_10, yl2_10, ya2_11, yw2_11, yv2_11, yp2_11, yn2_11, yl2_11, ya9, yw9, yv9, yp9, yn9, yl9, ya11, yw11, yv11, yp11, yn11, yl11, ya15, yw15, yv15, yp15, yn15, yl15, ya16, yw16, yv16, yp16, yn16, yl16, ok10, ok11, ok1i, xu_s, xu_n, ne_eq, Prod.mk.injEq, Nat.reduceEqDiff, false_and, and_false, not_false_eq_true, l1, l21, l23, l16, l30, l31, l32, l210, l211, l33, l34, ok, q, l10, y3, y4, h2, h3, c_within, h4, and_self, hx]
          have lan : la (wm (xu c (10, k, 0) 2 1) k (cf (pm_sold z (nI k)) (nI k) (z.1 5).toNatClampNeg)) 20 = lN (nsum (Wt (pm_sold z (nI k)) k) 20) := la_n (fun x hx => ⟨(hW x hx).1, by have := (hW x hx).2; omega⟩) 20 (Nat.le_refl _)
          have e20 : nsum (Wt (pm_sold z (nI k)) k) 20 = nsum (Wt (pm_sold z (nI k)) k) (z.1 1).toNatClampNeg := by
            have := nsum_0 (f := Wt (pm_sold z (nI k)) k) (m := (z.1 1).toNatClampNeg) (20 - (z.1 1).toNatClampNeg) (fun j u1 u2 => hW0 j u1 (by omega))
            rw [show (z.1 1).toNatClampNeg + (20 - (z.1 1).toNatClampNeg) = 20 by omega] at this
            exact this
          rw [e20] at lan
          rw [p1]
          by_cases hA : nsum (Wt (pm_sold z (nI k)) k) (z.1 1).toNatClampNeg = 0
          · rw [if_pos (by rw [hA]; rfl)]
            obtain ⟨h1', ed, wd, fd⟩ := (dv 0).1 (by rw [lan]; exact (lN_le0 p2).mpr hA)
            refine ⟨h1', P, xu c (10, k, 0) 2 1, ?_, wd, ?_, rfl, xfr_w fd (by decide) (by decide)⟩
            · rw [ev0 _ ed]
              simp only [s63_0, s63_1, s63_2, s63_5, s63_5n, s63_6, s63_6n, s63_7n, s63_7, s63_10, s63_11, s63_12, s63_14, s63_17, s63_20, s63_20n, s63_21, s63_24, s63_27, s63_27n, s63_28, s63_31, s63_34, s63_35, s63_36, s63_36n, s63_37, s63_38, s63_41, s63_41n, s63_42, s63_43, s63_46, zl_n, zl_i, zl_r, zl_0, z10, z01, ez_bd_s, ez_bd_n, eq_self, true_or, or_true, if_true, if_false, zb_eq, zb_eq1, zb_em, zb_em2, ite_not, List.append_nil, List.cons_append, List.nil_append, reduceCtorEq, not_true_eq_false, not_false_eq_true]
            · show RR P (xu c (10, k, 0) 2 1) (pws (pm_sold z (nI k)) (nI k) (z.1 1).toNatClampNeg)
              refine RR_sell R hk (yy1.trans aI) (fun t u1 u2 u3 => by rw [yy2 t u3, aZ t u1]) (by rw [yy2 26 (by decide), a26]) (fun x hx => ?_) (fun i _ => by rw [yy2 27 (by decide), aZ 27 (by decide)]) (fun r u1 _ => xu_n u1) (fun t ht => xu_t ht) (by rw [xu_s, if_pos rfl])
              rw [xu_n (by rintro ⟨⟩), yy2 27 (by decide), aZ 27 (by decide)]
              exact y6 x hx
          · have hne : ¬ lN (nsum (Wt (pm_sold z (nI k)) k) (z.1 1).toNatClampNeg) = 0 := fun h5 => hA ((pk_lEQ p2 (by decide)).mp h5)
            rw [if_neg hne]
            obtain ⟨L, hL20, hLM, -, -, hov, hplf, -, hfin⟩ := hL (Nat.pos_of_ne_zero hA)
            obtain ⟨g1, g2, g3, g4⟩ := hfin (xu c (10, k, 0) 2 1) q27
            rw [hplf, nI_clamp (by omega)]
            obtain ⟨h1', ed, wd, fd⟩ := (dv L).2 (by rw [lan]; exact fun h5 => hA ((lN_le0 p2).mp h5)) (by rw [lan]; exact hne) (by rw [lan]; exact hov) hL20
            rw [lan] at ed
            generalize hZ : p3 k (nI κ) (lN (nsum (Wt (pm_sold z (nI k)) k) (z.1 1).toNatClampNeg)) (z.1 1).toNatClampNeg L (pps (pws (pm_sold z (nI k)) (nI k) (z.1 1).toNatClampNeg) k (nI κ) (lN (nsum (Wt (pm_sold z (nI k)) k) (z.1 1).toNatClampNeg)) (z.1 1).toNatClampNeg) = Z at *
            have hn11 : ∀ r, r ≠ (11, k, 0) → (ho (ps (xu c (10, k, 0) 2 1) k (nI κ) (wm (xu c (10, k, 0) 2 1) k (cf (pm_sold z (nI k)) (nI k) (z.1 5).toNatClampNeg)) (lN (nsum (Wt (pm_sold z (nI k)) k) (z.1 1).toNatClampNeg)) 20) k (rs (nI κ) (wm (xu c (10, k, 0) 2 1) k (cf (pm_sold z (nI k)) (nI k) (z.1 5).toNatClampNeg)) (lN (nsum (Wt (pm_sold z (nI k)) k) (z.1 1).toNatClampNeg)) 20) L).1 r = xu c (10, k, 0) 2 1 r := fun r hr => by rw [ho_n hr, ps_n hr]
            generalize (ho (ps (xu c (10, k, 0) 2 1) k (nI κ) (wm (xu c (10, k, 0) 2 1) k (cf (pm_sold z (nI k)) (nI k) (z.1 5).toNatClampNeg)) (lN (nsum (Wt (pm_sold z (nI k)) k) (z.1 1).toNatClampNeg)) 20) k (rs (nI κ) (wm (xu c (10, k, 0) 2 1) k (cf (pm_sold z (nI k)) (nI k) (z.1 5).toNatClampNeg)) (lN (nsum (Wt (pm_sold z (nI k)) k) (z.1 1).toNatClampNeg)) 20) L).1 = cL at *
            have hcl : xcl P cL := fun r r' u0 hl hx ht => by
              by_cases e11 : r = (11, k, 0)
              · subst e11
                exact (show False from hx).elim
              · rw [hn11 r e11] at hx
                exact w1.2.2.1 r r' u0 hl hx ht
            refine ⟨h1', P, cL, ?_, wd cL hcl, ?_, rfl, xfr_w fd (by decide) (by decide)⟩
            · rw [ev0 _ ed]
              simp only [s63_0, s63_1, s63_2, s63_5, s63_5n, s63_6, s63_6n, s63_7n, s63_7, s63_10, s63_11, s63_12, s63_14, s63_17, s63_20, s63_20n, s63_21, s63_24, s63_27, s63_27n, s63_28, s63_31, s63_34, s63_35, s63_36, s63_36n, s63_37, s63_38, s63_41, s63_41n, s63_42, s63_43, s63_46, zl_n, zl_i, zl_r, zl_0, z10, z01, ez_bd_s, ez_bd_n, eq_self, true_or, or_true, if_true, if_false, zb_eq, zb_eq1, zb_em, zb_em2, ite_not, List.append_nil, List.cons_append, List.nil_append, reduceCtorEq, not_true_eq_false, not_false_eq_true]
            · show RR P cL Z
              refine RR_sell R hk (g2.trans aI) (fun t u1 u2 u3 => by rw [g3 t u2 u3, aZ t u1]) (by rw [g3 26 (by decide) (by decide), a26]) g1 (fun i hi => by rw [g4 i hi, aZ 27 (by decide)]) (fun r u1 u2 => by rw [hn11 r u2, xu_n u1]) (fun t ht => by rw [hn11 _ (by rintro ⟨⟩), xu_t ht]) (by rw [hn11 _ (by rintro ⟨⟩), xu_s, if_pos rfl])
        · rw [if_neg h4]
          refine xop_s (c1 := c) ?_ w R
          rw [e63]
          simp only [s63_0, s63_1, s63_2, s63_5, s63_5n, s63_6, s63_6n, s63_7n, s63_7, s63_10, s63_11, s63_12, s63_14, s63_17, s63_20, s63_20n, s63_21, s63_24, s63_27, s63_27n, s63_28, s63_31, s63_34, s63_35, s63_36, s63_36n, s63_37, s63_38, s63_41, s63_41n, s63_42, s63_43, s63_46, zl_n, zl_i, zl_r, zl_0, z10, z01, ez_bd_s, ez_bd_n, eq_self, true_or, or_true, if_true, if_false, zb_eq, zb_eq1, zb_em, zb_em2, ite_not, List.append_nil, List.cons_append, List.nil_append, reduceCtorEq, not_true_eq_false, not_false_eq_true, xo1, xa1, xf1_0, xv1_0, xp1_0, xf1_1, xv1_1, xf1_2, xv1_2, xp1_2, xf1_3, xv1_3, xf1_4, xv1_4, xf1_5, xv1_5, xp1_5, xf1_6, xv1_6, xp1_6, xf1_7, xv1_7, xf1_8, xv1_8, xf1_9, xv1_9, xf1_10, xv1_10, xf1_11, xv1_11, xf1_12, xv1_12, xf1_13, xv1_13, xf1_14, xv1_14, xp1_14, xo3, xa3, xf3_0, xv3_0, xp3_0, xf3_1, xv3_1, xf3_2, xv3_2, xp3_2, xo5, xa5, xf5_0, xv5_0, xp5_0, xf5_1, xv5_1, xp5_1, xf5_2, xv5_2, xp5_2, xf5_3, xv5_3, xp5_3, xf5_4, xv5_4, xp5_4, xf5_5, xv5_5, xp5_5, xf5_6, xv5_6, xp5_6, xf5_7, xv5_7, xp5_7, xf5_8, xv5_8, xp5_8, xf5_9, xv5_9, xp5_9, xf5_10, xv5_10, xp5_10, xf5_11, xv5_11, xp5_11, xf5_12, xv5_12, xp5_12, xo6, xa6, xf6_0, xv6_0, xp6_0, xf6_1, xv6_1, xp6_1, xf6_2, xv6_2, xp6_2, xo7, xa7, xf7_0, xv7_0, xp7_0, xf7_1, xv7_1, xp7_1, xf7_2, xv7_2, xp7_2, xf7_3, xv7_3, xp7_3, xf7_4, xv7_4, xf7_5, xv7_5, xo8, xa8, xf8_0, xv8_0, xp8_0, xf8_1, xv8_1, xo10, xa10, xf10_0, xv10_0, xp10_0, xf10_1, xv10_1, xp10_1, xf10_2, xv10_2, xp10_2, xf10_3, xv10_3, xf10_4, xv10_4, xo12, xa12, xf12_0, xv12_0, xf12_1, xv12_1, xp12_1, xf12_2, xv12_2, xp12_2, xf12_3, xv12_3, xp12_3, xf12_4, xv12_4, xo13, xa13, xf13_0, xv13_0, xf13_1, xv13_1, xp13_1, xo14, xa14, xf14_0, xv14_0, xf14_1, xv14_1, xp14_1, xf14_2, xv14_2, xp14_2, xf14_3, xv14_3, xp14_3, ya2_1, yw2_1, yv2_1, yp2_1, yn2_1, yl2_1, ya2_3, yw2_3, yv2_3, yp2_3, yn2_3, yl2_3, ya2_10, yw2_10, yv2_10, yp2_10, yn2_10, yl2_10, ya2_11, yw2_11, yv2_11, yp2_11, yn2_11, yl2_11, ya9, yw9, yv9, yp9, yn9, yl9, ya11, yw11, yv11, yp11, yn11, yl11, ya15, yw15, yv15, yp15, yn15, yl15, ya16, yw16, yv16, yp16, yn16, yl16, ok10, ok11, ok1i, xu_s, xu_n, ne_eq, Prod.mk.injEq, Nat.reduceEqDiff, false_and, and_false, not_false_eq_true, l1, l21, l23, l16, l30, l31, l32, l210, l211, l33, l34, ok, q, l10, y3, h2, c_within]
          simp only [if_neg h4, zl_n, zl_i, zl_r, zl_0, z10, z01, ez_bd_s, ez_bd_n, eq_self, true_or, or_true, if_true, if_false, zb_eq, zb_eq1, zb_em, zb_em2, ite_not, List.append_nil, List.cons_append, List.nil_append, reduceCtorEq, not_true_eq_false, not_false_eq_true]
      · rw [if_neg h3]
        refine xop_s (c1 := c) ?_ w R
        rw [e63]
        simp only [s63_0, s63_1, s63_2, s63_5, s63_5n, s63_6, s63_6n, s63_7n, s63_7, s63_10, s63_11, s63_12, s63_14, s63_17, s63_20, s63_20n, s63_21, s63_24, s63_27, s63_27n, s63_28, s63_31, s63_34, s63_35, s63_36, s63_36n, s63_37, s63_38, s63_41, s63_41n, s63_42, s63_43, s63_46, zl_n, zl_i, zl_r, zl_0, z10, z01, ez_bd_s, ez_bd_n, eq_self, true_or, or_true, if_true, if_false, zb_eq, zb_eq1, zb_em, zb_em2, ite_not, List.append_nil, List.cons_append, List.nil_append, reduceCtorEq, not_true_eq_false, not_false_eq_true, xo1, xa1, xf1_0, xv1_0, xp1_0, xf1_1, xv1_1, xf1_2, xv1_2, xp1_2, xf1_3, xv1_3, xf1_4, xv1_4, xf1_5, xv1_5, xp1_5, xf1_6, xv1_6, xp1_6, xf1_7, xv1_7, xf1_8, xv1_8, xf1_9, xv1_9, xf1_10, xv1_10, xf1_11, xv1_11, xf1_12, xv1_12, xf1_13, xv1_13, xf1_14, xv1_14, xp1_14, xo3, xa3, xf3_0, xv3_0, xp3_0, xf3_1, xv3_1, xf3_2, xv3_2, xp3_2, xo5, xa5, xf5_0, xv5_0, xp5_0, xf5_1, xv5_1, xp5_1, xf5_2, xv5_2, xp5_2, xf5_3, xv5_3, xp5_3, xf5_4, xv5_4, xp5_4, xf5_5, xv5_5, xp5_5, xf5_6, xv5_6, xp5_6, xf5_7, xv5_7, xp5_7, xf5_8, xv5_8, xp5_8, xf5_9, xv5_9, xp5_9, xf5_10, xv5_10, xp5_10, xf5_11, xv5_11, xp5_11, xf5_12, xv5_12, xp5_12, xo6, xa6, xf6_0, xv6_0, xp6_0, xf6_1, xv6_1, xp6_1, xf6_2, xv6_2, xp6_2, xo7, xa7, xf7_0, xv7_0, xp7_0, xf7_1, xv7_1, xp7_1, xf7_2, xv7_2, xp7_2, xf7_3, xv7_3, xp7_3, xf7_4, xv7_4, xf7_5, xv7_5, xo8, xa8, xf8_0, xv8_0, xp8_0, xf8_1, xv8_1, xo10, xa10, xf10_0, xv10_0, xp10_0, xf10_1, xv10_1, xp10_1, xf10_2, xv10_2, xp10_2, xf10_3, xv10_3, xf10_4, xv10_4, xo12, xa12, xf12_0, xv12_0, xf12_1, xv12_1, xp12_1, xf12_2, xv12_2, xp12_2, xf12_3, xv12_3, xp12_3, xf12_4, xv12_4, xo13, xa13, xf13_0, xv13_0, xf13_1, xv13_1, xp13_1, xo14, xa14, xf14_0, xv14_0, xf14_1, xv14_1, xp14_1, xf14_2, xv14_2, xp14_2, xf14_3, xv14_3, xp14_3, ya2_1, yw2_1, yv2_1, yp2_1, yn2_1, yl2_1, ya2_3, yw2_3, yv2_3, yp2_3, yn2_3, yl2_3, ya2_10, yw2_10, yv2_10, yp2_10, yn2_10, yl2_10, ya2_11, yw2_11, yv2_11, yp2_11, yn2_11, yl2_11, ya9, yw9, yv9, yp9, yn9, yl9, ya11, yw11, yv11, yp11, yn11, yl11, ya15, yw15, yv15, yp15, yn15, yl15, ya16, yw16, yv16, yp16, yn16, yl16, ok10, ok11, ok1i, xu_s, xu_n, ne_eq, Prod.mk.injEq, Nat.reduceEqDiff, false_and, and_false, not_false_eq_true, l1, l21, l23, l16, l30, l31, l32, l210, l211, l33, l34, ok, q, l10, y3, y4, h2, h3, c_within]
        split <;> simp only [zl_n, zl_i, zl_r, zl_0, z10, z01, ez_bd_s, ez_bd_n, eq_self, true_or, or_true, if_true, if_false, zb_eq, zb_eq1, zb_em, zb_em2, ite_not, List.append_nil, List.cons_append, List.nil_append, reduceCtorEq, not_true_eq_false, not_false_eq_true]
  · rw [if_neg h1]
    refine xop_s (c1 := c) ?_ w R
    rw [e63]
    simp only [s63_0, s63_1, s63_2, s63_5, s63_5n, s63_6, s63_6n, s63_7n, s63_7, s63_10, s63_11, s63_12, s63_14, s63_17, s63_20, s63_20n, s63_21, s63_24, s63_27, s63_27n, s63_28, s63_31, s63_34, s63_35, s63_36, s63_36n, s63_37, s63_38, s63_41, s63_41n, s63_42, s63_43, s63_46, zl_n, zl_i, zl_r, zl_0, z10, z01, ez_bd_s, ez_bd_n, eq_self, true_or, or_true, if_true, if_false, zb_eq, zb_eq1, zb_em, zb_em2, ite_not, List.append_nil, List.cons_append, List.nil_append, reduceCtorEq, not_true_eq_false, not_false_eq_true, xo1, xa1, xf1_0, xv1_0, xp1_0, xf1_1, xv1_1, xf1_2, xv1_2, xp1_2, xf1_3, xv1_3, xf1_4, xv1_4, xf1_5, xv1_5, xp1_5, xf1_6, xv1_6, xp1_6, xf1_7, xv1_7, xf1_8, xv1_8, xf1_9, xv1_9, xf1_10, xv1_10, xf1_11, xv1_11, xf1_12, xv1_12, xf1_13, xv1_13, xf1_14, xv1_14, xp1_14, xo3, xa3, xf3_0, xv3_0, xp3_0, xf3_1, xv3_1, xf3_2, xv3_2, xp3_2, xo5, xa5, xf5_0, xv5_0, xp5_0, xf5_1, xv5_1, xp5_1, xf5_2, xv5_2, xp5_2, xf5_3, xv5_3, xp5_3, xf5_4, xv5_4, xp5_4, xf5_5, xv5_5, xp5_5, xf5_6, xv5_6, xp5_6, xf5_7, xv5_7, xp5_7, xf5_8, xv5_8, xp5_8, xf5_9, xv5_9, xp5_9, xf5_10, xv5_10, xp5_10, xf5_11, xv5_11, xp5_11, xf5_12, xv5_12, xp5_12, xo6, xa6, xf6_0, xv6_0, xp6_0, xf6_1, xv6_1, xp6_1, xf6_2, xv6_2, xp6_2, xo7, xa7, xf7_0, xv7_0, xp7_0, xf7_1, xv7_1, xp7_1, xf7_2, xv7_2, xp7_2, xf7_3, xv7_3, xp7_3, xf7_4, xv7_4, xf7_5, xv7_5, xo8, xa8, xf8_0, xv8_0, xp8_0, xf8_1, xv8_1, xo10, xa10, xf10_0, xv10_0, xp10_0, xf10_1, xv10_1, xp10_1, xf10_2, xv10_2, xp10_2, xf10_3, xv10_3, xf10_4, xv10_4, xo12, xa12, xf12_0, xv12_0, xf12_1, xv12_1, xp12_1, xf12_2, xv12_2, xp12_2, xf12_3, xv12_3, xp12_3, xf12_4, xv12_4, xo13, xa13, xf13_0, xv13_0, xf13_1, xv13_1, xp13_1, xo14, xa14, xf14_0, xv14_0, xf14_1, xv14_1, xp14_1, xf14_2, xv14_2, xp14_2, xf14_3, xv14_3, xp14_3, ya2_1, yw2_1, yv2_1, yp2_1, yn2_1, yl2_1, ya2_3, yw2_3, yv2_3, yp2_3, yn2_3, yl2_3, ya2_10, yw2_10, yv2_10, yp2_10, yn2_10, yl2_10, ya2_11, yw2_11, yv2_11, yp2_11, yn2_11, yl2_11, ya9, yw9, yv9, yp9, yn9, yl9, ya11, yw11, yv11, yp11, yn11, yl11, ya15, yw15, yv15, yp15, yn15, yl15, ya16, yw16, yv16, yp16, yn16, yl16, ok10, ok11, ok1i, xu_s, xu_n, ne_eq, Prod.mk.injEq, Nat.reduceEqDiff, false_and, and_false, not_false_eq_true, l1, l21, l23, l16, l30, l31, l32, l210, l211, l33, l34, ok, c_fleetAt_n w R h1]
end OJ
