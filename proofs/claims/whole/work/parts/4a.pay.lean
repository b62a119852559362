section O5
variable {g : ez_G} {h h0 : ez_H} {P : xP} {c c1 : xR → Nat → Int32} {z z1 : md_S} {j : Nat}
theorem hc_u {s : Nat} {v : Int32} (hs : s < 11) (hc : ∀ r t, r ≠ (5, j, 0) ∨ 11 ≤ t → c1 r t = c r t) : ∀ r t, r ≠ (5, j, 0) ∨ 11 ≤ t → xu c1 (5, j, 0) s v r t = c r t := by
  intro r t h
  rw [← hc r t h]
  rcases h with h | h
  · rw [xu_n h]
  · exact xu_t (by omega)
theorem hz_u {T : Nat} {v : Int32} (h1 : 17 ≤ T) (h2 : T ≤ 21) (hz : ∀ t i, i ≠ j ∨ t < 17 ∨ 21 < t → z1.2 t i = z.2 t i) : ∀ t i, i ≠ j ∨ t < 17 ∨ 21 < t → (md_sA z1 T j v).2 t i = z.2 t i := by
  intro t i h
  rw [← hz t i h, md_A2]
  by_cases e : t = T
  · rw [if_pos e, e]
    unfold upd
    rw [if_neg (by omega)]
  · rw [if_neg e]
theorem md_in0 {v : Int32} {n : Nat} (h : md_in v n = true) (hn : n ≤ 2 ^ 31) : 0 ≤ v := by
  obtain ⟨e, h2⟩ := md_inE h
  rw [e]
  exact nI_pos' (by omega)
theorem md_inm1 {v : Int32} {n : Nat} (h : md_in v n = true) (hn : n ≤ 2 ^ 31) : ¬ v = -1 := by
  obtain ⟨e, h2⟩ := md_inE h
  rw [e, nI_nm1 (by omega)]
  exact id
theorem o_custom {l : Int32} (w : xw h0 P c) (R : RR P c z) : xop g 52 [.int l] h0 P c (pm_custom z l) := by
  obtain ⟨l1, l21, l23, l16, l30, l31, l32, l210, l211, l33, l34⟩ := w_lvs w R.1; have ok := w.1
  obtain ⟨⟨a1, a2, a3, a4, a5⟩, ⟨b1, b2, b3⟩, ⟨d1, d2, d3⟩, m0, m1, m7, m36⟩ := R.2.1; have r1 := R.2.2.1; have r2 := R.2.2.2.1; have r5 := R.2.2.2.2.1; have r3 := R.2.2.2.2.2.1; have r4 := R.2.2.2.2.2.2.1; have rv := R.2.2.2.2.2.2.2; have r0 := R.2.1
  obtain ⟨e, hb⟩ := md_inE r2.1
  unfold pm_custom
  by_cases h1 : 0 ≤ l ∧ l ≤ z.1 3 - 1
  · rw [if_pos h1]
    rw [e] at h1
    obtain ⟨j, hj, rfl⟩ := ix_p (by omega) h1
    obtain ⟨q, l5⟩ := c_lotAt (g := g) w R hj
    have c1 : (nI j).toNatClampNeg = j := nI_clamp (by omega)
    rw [c1]
    obtain ⟨y4, ⟨x0, x1, x2, x3, x4, x5, x6, x7, x8, x9, x10⟩, b12, b13, b14, b15, b17, b20, ble, b21, b22, b217⟩ := r2.2.2.1 j hj
    by_cases h2 : z.2 21 j = -1
    · rw [if_pos h2]
      have d0 := b217 h2
      have p0 : z.2 20 j = 0 := by
        obtain ⟨ep, hp⟩ := md_inE b20
        rw [d0, ep] at ble
        have : (z.2 20 j).toNatClampNeg ≤ 0 := (nI_leI (b := 0) (by omega) (by decide)).mp ble
        rw [ep, show (z.2 20 j).toNatClampNeg = 0 by omega]
        rfl
      have n1 := md_inm1 m0 (by decide)
      have L1 : LF (xu c (5, j, 0) 6 (z.1 0)) (md_sA z 21 j (z.1 0)) j := by
        unfold LF
        simp only [xu_s, xu_n, md_A1, md_A2, pk_us, Nat.reduceEqDiff, if_true, if_false, ne_eq, Prod.mk.injEq, false_and, not_false_eq_true]
        exact ⟨y4, ⟨x0, x1, x2, x3, x4, x5, trivial, x7, x8, x9, x10⟩, b12, b13, b14, b15, b17, b20, ble, Or.inr m0, b22, fun _ => d0⟩
      have R1' : RR P (xu c (5, j, 0) 6 (z.1 0)) (md_sA z 21 j (z.1 0)) := RR_lot R hj (hc_u (by decide) (fun _ _ _ => rfl)) rfl (hz_u (by decide) (by decide) (fun _ _ _ => rfl)) L1
      have hD : (if z.2 22 j = 0 then pduty z (pfd z (z.1 0)) j else 0) = pcd z j := id rfl
      have bD : md_in (pcd z j) 500000 = true := by
        unfold pcd
        split
        · unfold pduty
          split
          · decide
          · next h5 =>
            rcases pf_r (z := z) (day := z.1 0) (z.1 40).toNatClampNeg with e5 | ⟨t, ht, e5⟩
            · rw [pf_in m0] at h5
              exact absurd e5 h5
            · rw [pf_in m0, e5, nI_clamp (by have := (md_inE r4.1.1).2; omega)]
              exact pdf_b (r4.2.1 t ht).2.2.2.2 b15 _ 0 (Nat.zero_add _)
        · decide
      have fD : z.2 22 j = 0 ∨ pcd z j = 0 := by
        by_cases h3 : z.2 22 j = 0
        · exact Or.inl h3
        · exact Or.inr (if_neg h3)
      have L2 : LF (xu (xu c (5, j, 0) 6 (z.1 0)) (5, j, 0) 7 (pcd z j)) (md_sA (md_sA z 21 j (z.1 0)) 17 j (pcd z j)) j := by
        unfold LF
        simp only [xu_s, xu_n, md_A1, md_A2, pk_us, Nat.reduceEqDiff, if_true, if_false, ne_eq, Prod.mk.injEq, false_and, not_false_eq_true]
        exact ⟨y4, ⟨x0, x1, x2, x3, x4, x5, trivial, trivial, x8, x9, x10⟩, b12, b13, b14, b15, bD, b20, by rw [p0]; exact md_in0 bD (by decide), Or.inr m0, fD, fun h => absurd h n1⟩
      have R2' : RR P (xu (xu c (5, j, 0) 6 (z.1 0)) (5, j, 0) 7 (pcd z j)) (md_sA (md_sA z 21 j (z.1 0)) 17 j (pcd z j)) := RR_lot R hj (hc_u (by decide) (hc_u (by decide) (fun _ _ _ => rfl))) rfl (hz_u (by decide) (by decide) (hz_u (by decide) (by decide) (fun _ _ _ => rfl))) L2
      rcases c_inForce (g := g) (day := z.1 0) w R with ⟨e3, q2⟩ | ⟨t, ht, e3, q2, l7⟩
      · rw [← pf_in m0] at e3
        have q1 := c_dutyN (g := g) (h := xh h0 P (xu c (5, j, 0) 6 (z.1 0))) (z := z) (j := j) (a0 := P.2.2.1 (1, 0, 0)) (a2 := P.2.2.1 (5, j, 0)) e3
        rw [hD] at q1
        have D0 : pcd z j = 0 := by
          unfold pcd pduty
          rw [e3, if_pos rfl, ite_self]
        rw [if_pos (by rw [D0]; decide)]
        refine xop_s (c1 := xu (xu c (5, j, 0) 6 (z.1 0)) (5, j, 0) 7 (pcd z j)) ?_ (xw_5 (xw_5 w)) R2'
        rw [e52]
        simp only [s52_0, s52_1, s52_2, s52_5, s52_5n, s52_6, s52_6n, s52_7n, s52_7, s52_10, s52_10n, s52_11, s52_14, s52_17, s52_18, s52_19, s52_20, s52_21, s52_24, s52_27, s52_27n, s52_28, s52_28n, s52_29, s52_30, s52_33, s52_36, s52_36n, s52_37, s52_38, s52_38n, s52_39, s52_39n, s52_40, s52_40n, s52_43, s52_46, s52_46n, s52_47n, s52_47, s52_50, s52_50n, s52_51, s52_54, s52_57, s52_57n, s52_58, s52_59, s52_62, s52_62n, s52_63, s52_64, s52_67, s52_67n, s52_68, s52_71, s52_72, s52_75, s52_75n, s52_76, s52_79, zl_n, zl_i, zl_r, zl_0, z10, z01, ez_bd_s, ez_bd_n, eq_self, true_or, or_true, if_true, if_false, zb_eq, zb_eq1, zb_em, zb_em2, ite_not, List.append_nil, List.cons_append, List.nil_append, reduceCtorEq, not_true_eq_false, not_false_eq_true, xo1, xa1, xf1_0, xv1_0, xp1_0, xf1_1, xv1_1, xf1_2, xv1_2, xp1_2, xf1_3, xv1_3, xf1_4, xv1_4, xf1_5, xv1_5, xp1_5, xf1_6, xv1_6, xp1_6, xf1_7, xv1_7, xf1_8, xv1_8, xf1_9, xv1_9, xf1_10, xv1_10, xf1_11, xv1_11, xf1_12, xv1_12, xf1_13, xv1_13, xf1_14, xv1_14, xp1_14, xo3, xa3, xf3_0, xv3_0, xp3_0, xf3_1, xv3_1, xf3_2, xv3_2, xp3_2, xo5, xa5, xf5_0, xv5_0, xp5_0, xf5_1, xv5_1, xp5_1, xf5_2, xv5_2, xp5_2, xf5_3, xv5_3, xp5_3, xf5_4, xv5_4, xp5_4, xf5_5, xv5_5, xp5_5, xf5_6, xv5_6, xp5_6, xf5_7, xv5_7, xp5_7, xf5_8, xv5_8, xp5_8, xf5_9, xv5_9, xp5_9, xf5_10, xv5_10, xp5_10, xf5_11, xv5_11, xp5_11, xf5_12, xv5_12, xp5_12, xo6, xa6, xf6_0, xv6_0, xp6_0, xf6_1, xv6_1, xp6_1, xf6_2, xv6_2, xp6_2, xo7, xa7, xf7_0, xv7_0, xp7_0, xf7_1, xv7_1, xp7_1, xf7_2, xv7_2, xp7_2, xf7_3, xv7_3, xp7_3, xf7_4, xv7_4, xf7_5, xv7_5, xo8, xa8, xf8_0, xv8_0, xp8_0, xf8_1, xv8_1, xo10, xa10, xf10_0, xv10_0, xp10_0, xf10_1, xv10_1, xp10_1, xf10_2, xv10_2, xp10_2, xf10_3, xv10_3, xf10_4, xv10_4, xo12, xa12, xf12_0, xv12_0, xf12_1, xv12_1, xp12_1, xf12_2, xv12_2, xp12_2, xf12_3, xv12_3, xp12_3, xf12_4, xv12_4, xo13, xa13, xf13_0, xv13_0, xf13_1, xv13_1, xp13_1, xo14, xa14, xf14_0, xv14_0, xf14_1, xv14_1, xp14_1, xf14_2, xv14_2, xp14_2, xf14_3, xv14_3, xp14_3, ya2_1, yw2_1, yv2_1, yp2_1, yn2_1, yl2_1, ya2_3, yw2_3, yv2_3, yp2_3, yn2_3, yl2_3, ya2_10, yw2_10, yv2_10, yp2_10, yn2_10, yl2_10, ya2_11, yw2_11, yv2_11, yp2_11, yn2_11, yl2_11, ya9, yw9, yv9, yp9, yn9, yl9, ya11, yw11, yv11, yp11, yn11, yl11, ya15, yw15, yv15, yp15, yn15, yl15, ya16, yw16, yv16, yp16, yn16, yl16, ok10, ok11, ok1i, xu_s, xu_n, ne_eq, Prod.mk.injEq, Nat.reduceEqDiff, false_and, and_false, not_false_eq_true, l1, l21, l23, l16, l30, l31, l32, l210, l211, l33, l34, ok, q, l5, c_isCus l5, x6, h2, a1, q1, q2]
      · rw [← pf_in m0] at e3
        have q1 := c_dutyBy (g := g) (xw_5 w) R1' ht l7 e3 hj l5
        rw [pduty_A (by decide)] at q1
        have hD' : (if (md_sA z 21 j (z.1 0)).2 22 j = 0 then pduty z (pfd z (z.1 0)) j else 0) = pcd z j := id rfl
        rw [hD'] at q1
        by_cases h3 : pcd z j ≤ 0
        · rw [if_pos h3]
          refine xop_s (c1 := xu (xu c (5, j, 0) 6 (z.1 0)) (5, j, 0) 7 (pcd z j)) ?_ (xw_5 (xw_5 w)) R2'
          rw [e52]
          simp only [s52_0, s52_1, s52_2, s52_5, s52_5n, s52_6, s52_6n, s52_7n, s52_7, s52_10, s52_10n, s52_11, s52_14, s52_17, s52_18, s52_19, s52_20, s52_21, s52_24, s52_27, s52_27n, s52_28, s52_28n, s52_29, s52_30, s52_33, s52_36, s52_36n, s52_37, s52_38, s52_38n, s52_39, s52_39n, s52_40, s52_40n, s52_43, s52_46, s52_46n, s52_47n, s52_47, s52_50, s52_50n, s52_51, s52_54, s52_57, s52_57n, s52_58, s52_59, s52_62, s52_62n, s52_63, s52_64, s52_67, s52_67n, s52_68, s52_71, s52_72, s52_75, s52_75n, s52_76, s52_79, zl_n, zl_i, zl_r, zl_0, z10, z01, ez_bd_s, ez_bd_n, eq_self, true_or, or_true, if_true, if_false, zb_eq, zb_eq1, zb_em, zb_em2, ite_not, List.append_nil, List.cons_append, List.nil_append, reduceCtorEq, not_true_eq_false, not_false_eq_true, xo1, xa1, xf1_0, xv1_0, xp1_0, xf1_1, xv1_1, xf1_2, xv1_2, xp1_2, xf1_3, xv1_3, xf1_4, xv1_4, xf1_5, xv1_5, xp1_5, xf1_6, xv1_6, xp1_6, xf1_7, xv1_7, xf1_8, xv1_8, xf1_9, xv1_9, xf1_10, xv1_10, xf1_11, xv1_11, xf1_12, xv1_12, xf1_13, xv1_13, xf1_14, xv1_14, xp1_14, xo3, xa3, xf3_0, xv3_0, xp3_0, xf3_1, xv3_1, xf3_2, xv3_2, xp3_2, xo5, xa5, xf5_0, xv5_0, xp5_0, xf5_1, xv5_1, xp5_1, xf5_2, xv5_2, xp5_2, xf5_3, xv5_3, xp5_3, xf5_4, xv5_4, xp5_4, xf5_5, xv5_5, xp5_5, xf5_6, xv5_6, xp5_6, xf5_7, xv5_7, xp5_7, xf5_8, xv5_8, xp5_8, xf5_9, xv5_9, xp5_9, xf5_10, xv5_10, xp5_10, xf5_11, xv5_11, xp5_11, xf5_12, xv5_12, xp5_12, xo6, xa6, xf6_0, xv6_0, xp6_0, xf6_1, xv6_1, xp6_1, xf6_2, xv6_2, xp6_2, xo7, xa7, xf7_0, xv7_0, xp7_0, xf7_1, xv7_1, xp7_1, xf7_2, xv7_2, xp7_2, xf7_3, xv7_3, xp7_3, xf7_4, xv7_4, xf7_5, xv7_5, xo8, xa8, xf8_0, xv8_0, xp8_0, xf8_1, xv8_1, xo10, xa10, xf10_0, xv10_0, xp10_0, xf10_1, xv10_1, xp10_1, xf10_2, xv10_2, xp10_2, xf10_3, xv10_3, xf10_4, xv10_4, xo12, xa12, xf12_0, xv12_0, xf12_1, xv12_1, xp12_1, xf12_2, xv12_2, xp12_2, xf12_3, xv12_3, xp12_3, xf12_4, xv12_4, xo13, xa13, xf13_0, xv13_0, xf13_1, xv13_1, xp13_1, xo14, xa14, xf14_0, xv14_0, xf14_1, xv14_1, xp14_1, xf14_2, xv14_2, xp14_2, xf14_3, xv14_3, xp14_3, ya2_1, yw2_1, yv2_1, yp2_1, yn2_1, yl2_1, ya2_3, yw2_3, yv2_3, yp2_3, yn2_3, yl2_3, ya2_10, yw2_10, yv2_10, yp2_10, yn2_10, yl2_10, ya2_11, yw2_11, yv2_11, yp2_11, yn2_11, yl2_11, ya9, yw9, yv9, yp9, yn9, yl9, ya11, yw11, yv11, yp11, yn11, yl11, ya15, yw15, yv15, yp15, yn15, yl15, ya16, yw16, yv16, yp16, yn16, yl16, ok10, ok11, ok1i, xu_s, xu_n, ne_eq, Prod.mk.injEq, Nat.reduceEqDiff, false_and, and_false, not_false_eq_true, l1, l21, l23, l16, l30, l31, l32, l210, l211, l33, l34, ok, q, l5, c_isCus l5, x6, h2, a1, q1, q2, h3, l7]
        · rw [if_neg h3]
          have tm : c (7, t, 0) 2 = plast z (pfd z (z.1 0)) 2 := by
            unfold plast
            have ht20 := (md_inE r4.1.1).2
            rw [e3, if_neg (by rw [nI_nm1 (by omega)]; exact id), nI_clamp (by omega)]
            exact (r4.2.1 t ht).2.2.2.2.1
          refine xop_s (c1 := xu (xu (xu (xu c (5, j, 0) 6 (z.1 0)) (5, j, 0) 7 (pcd z j)) (5, j, 0) 8 1) (5, j, 0) 9 (z.1 0 + plast z (pfd z (z.1 0)) 2)) ?_ (xw_5 (xw_5 (xw_5 (xw_5 w)))) (RR_lot R hj (hc_u (by decide) (hc_u (by decide) (hc_u (by decide) (hc_u (by decide) (fun _ _ _ => rfl))))) rfl (hz_u (by decide) (by decide) (hz_u (by decide) (by decide) (hz_u (by decide) (by decide) (hz_u (by decide) (by decide) (fun _ _ _ => rfl))))) ?_)
          · rw [e52]
            simp only [s52_0, s52_1, s52_2, s52_5, s52_5n, s52_6, s52_6n, s52_7n, s52_7, s52_10, s52_10n, s52_11, s52_14, s52_17, s52_18, s52_19, s52_20, s52_21, s52_24, s52_27, s52_27n, s52_28, s52_28n, s52_29, s52_30, s52_33, s52_36, s52_36n, s52_37, s52_38, s52_38n, s52_39, s52_39n, s52_40, s52_40n, s52_43, s52_46, s52_46n, s52_47n, s52_47, s52_50, s52_50n, s52_51, s52_54, s52_57, s52_57n, s52_58, s52_59, s52_62, s52_62n, s52_63, s52_64, s52_67, s52_67n, s52_68, s52_71, s52_72, s52_75, s52_75n, s52_76, s52_79, zl_n, zl_i, zl_r, zl_0, z10, z01, ez_bd_s, ez_bd_n, eq_self, true_or, or_true, if_true, if_false, zb_eq, zb_eq1, zb_em, zb_em2, ite_not, List.append_nil, List.cons_append, List.nil_append, reduceCtorEq, not_true_eq_false, not_false_eq_true, xo1, xa1, xf1_0, xv1_0, xp1_0, xf1_1, xv1_1, xf1_2, xv1_2, xp1_2, xf1_3, xv1_3, xf1_4, xv1_4, xf1_5, xv1_5, xp1_5, xf1_6, xv1_6, xp1_6, xf1_7, xv1_7, xf1_8, xv1_8, xf1_9, xv1_9, xf1_10, xv1_10, xf1_11, xv1_11, xf1_12, xv1_12, xf1_13, xv1_13, xf1_14, xv1_14, xp1_14, xo3, xa3, xf3_0, xv3_0, xp3_0, xf3_1, xv3_1, xf3_2, xv3_2, xp3_2, xo5, xa5, xf5_0, xv5_0, xp5_0, xf5_1, xv5_1, xp5_1, xf5_2, xv5_2, xp5_2, xf5_3, xv5_3, xp5_3, xf5_4, xv5_4, xp5_4, xf5_5, xv5_5, xp5_5, xf5_6, xv5_6, xp5_6, xf5_7, xv5_7, xp5_7, xf5_8, xv5_8, xp5_8, xf5_9, xv5_9, xp5_9, xf5_10, xv5_10, xp5_10, xf5_11, xv5_11, xp5_11, xf5_12, xv5_12, xp5_12, xo6, xa6, xf6_0, xv6_0, xp6_0, xf6_1, xv6_1, xp6_1, xf6_2, xv6_2, xp6_2, xo7, xa7, xf7_0, xv7_0, xp7_0, xf7_1, xv7_1, xp7_1, xf7_2, xv7_2, xp7_2, xf7_3, xv7_3, xp7_3, xf7_4, xv7_4, xf7_5, xv7_5, xo8, xa8, xf8_0, xv8_0, xp8_0, xf8_1, xv8_1, xo10, xa10, xf10_0, xv10_0, xp10_0, xf10_1, xv10_1, xp10_1, xf10_2, xv10_2, xp10_2, xf10_3, xv10_3, xf10_4, xv10_4, xo12, xa12, xf12_0, xv12_0, xf12_1, xv12_1, xp12_1, xf12_2, xv12_2, xp12_2, xf12_3, xv12_3, xp12_3, xf12_4, xv12_4, xo13, xa13, xf13_0, xv13_0, xf13_1, xv13_1, xp13_1, xo14, xa14, xf14_0, xv14_0, xf14_1, xv14_1, xp14_1, xf14_2, xv14_2, xp14_2, xf14_3, xv14_3, xp14_3, ya2_1, yw2_1, yv2_1, yp2_1, yn2_1, yl2_1, ya2_3, yw2_3, yv2_3, yp2_3, yn2_3, yl2_3, ya2_10, yw2_10, yv2_10, yp2_10, yn2_10, yl2_10, ya2_11, yw2_11, yv2_11, yp2_11, yn2_11, yl2_11, ya9, yw9, yv9, yp9, yn9, yl9, ya11, yw11, yv11, yp11, yn11, yl11, ya15, yw15, yv15, yp15, yn15, yl15, ya16, yw16, yv16, yp16, yn16, yl16, ok10, ok11, ok1i, xu_s, xu_n, ne_eq, Prod.mk.injEq, Nat.reduceEqDiff, false_and, and_false, not_false_eq_true, l1, l21, l23, l16, l30, l31, l32, l210, l211, l33, l34, ok, q, l5, c_isCus l5, x6, h2, a1, q1, q2, h3, l7, tm]
          · unfold LF
            simp only [xu_s, xu_n, md_A1, md_A2, pk_us, Nat.reduceEqDiff, if_true, if_false, ne_eq, Prod.mk.injEq, false_and, not_false_eq_true]
            exact ⟨y4, ⟨x0, x1, x2, x3, x4, x5, trivial, trivial, trivial, trivial, x10⟩, b12, b13, b14, b15, bD, b20, by rw [p0]; exact md_in0 bD (by decide), Or.inr m0, fD, fun h => absurd h n1⟩
    · rw [if_neg h2]
      refine xop_s (c1 := c) ?_ w R
      rw [e52]
      simp only [s52_0, s52_1, s52_2, s52_5, s52_5n, s52_6, s52_6n, s52_7n, s52_7, s52_10, s52_10n, s52_11, s52_14, s52_17, s52_18, s52_19, s52_20, s52_21, s52_24, s52_27, s52_27n, s52_28, s52_28n, s52_29, s52_30, s52_33, s52_36, s52_36n, s52_37, s52_38, s52_38n, s52_39, s52_39n, s52_40, s52_40n, s52_43, s52_46, s52_46n, s52_47n, s52_47, s52_50, s52_50n, s52_51, s52_54, s52_57, s52_57n, s52_58, s52_59, s52_62, s52_62n, s52_63, s52_64, s52_67, s52_67n, s52_68, s52_71, s52_72, s52_75, s52_75n, s52_76, s52_79, zl_n, zl_i, zl_r, zl_0, z10, z01, ez_bd_s, ez_bd_n, eq_self, true_or, or_true, if_true, if_false, zb_eq, zb_eq1, zb_em, zb_em2, ite_not, List.append_nil, List.cons_append, List.nil_append, reduceCtorEq, not_true_eq_false, not_false_eq_true, xo1, xa1, xf1_0, xv1_0, xp1_0, xf1_1, xv1_1, xf1_2, xv1_2, xp1_2, xf1_3, xv1_3, xf1_4, xv1_4, xf1_5, xv1_5, xp1_5, xf1_6, xv1_6, xp1_6, xf1_7, xv1_7, xf1_8, xv1_8, xf1_9, xv1_9, xf1_10, xv1_10, xf1_11, xv1_11, xf1_12, xv1_12, xf1_13, xv1_13, xf1_14, xv1_14, xp1_14, xo3, xa3, xf3_0, xv3_0, xp3_0, xf3_1, xv3_1, xf3_2, xv3_2, xp3_2, xo5, xa5, xf5_0, xv5_0, xp5_0, xf5_1, xv5_1, xp5_1, xf5_2, xv5_2, xp5_2, xf5_3, xv5_3, xp5_3, xf5_4, xv5_4, xp5_4, xf5_5, xv5_5, xp5_5, xf5_6, xv5_6, xp5_6, xf5_7, xv5_7, xp5_7, xf5_8, xv5_8, xp5_8, xf5_9, xv5_9, xp5_9, xf5_10, xv5_10, xp5_10, xf5_11, xv5_11, xp5_11, xf5_12, xv5_12, xp5_12, xo6, xa6, xf6_0, xv6_0, xp6_0, xf6_1, xv6_1, xp6_1, xf6_2, xv6_2, xp6_2, xo7, xa7, xf7_0, xv7_0, xp7_0, xf7_1, xv7_1, xp7_1, xf7_2, xv7_2, xp7_2, xf7_3, xv7_3, xp7_3, xf7_4, xv7_4, xf7_5, xv7_5, xo8, xa8, xf8_0, xv8_0, xp8_0, xf8_1, xv8_1, xo10, xa10, xf10_0, xv10_0, xp10_0, xf10_1, xv10_1, xp10_1, xf10_2, xv10_2, xp10_2, xf10_3, xv10_3, xf10_4, xv10_4, xo12, xa12, xf12_0, xv12_0, xf12_1, xv12_1, xp12_1, xf12_2, xv12_2, xp12_2, xf12_3, xv12_3, xp12_3, xf12_4, xv12_4, xo13, xa13, xf13_0, xv13_0, xf13_1, xv13_1, xp13_1, xo14, xa14, xf14_0, xv14_0, xf14_1, xv14_1, xp14_1, xf14_2, xv14_2, xp14_2, xf14_3, xv14_3, xp14_3, ya2_1, yw2_1, yv2_1, yp2_1, yn2_1, yl2_1, ya2_3, yw2_3, yv2_3, yp2_3, yn2_3, yl2_3, ya2_10, yw2_10, yv2_10, yp2_10, yn2_10, yl2_10, ya2_11, yw2_11, yv2_11, yp2_11, yn2_11, yl2_11, ya9, yw9, yv9, yp9, yn9, yl9, ya11, yw11, yv11, yp11, yn11, yl11, ya15, yw15, yv15, yp15, yn15, yl15, ya16, yw16, yv16, yp16, yn16, yl16, ok10, ok11, ok1i, xu_s, xu_n, ne_eq, Prod.mk.injEq, Nat.reduceEqDiff, false_and, and_false, not_false_eq_true, l1, l21, l23, l16, l30, l31, l32, l210, l211, l33, l34, ok, q, l5, c_isCus l5, x6, h2]
  · rw [if_neg h1]
    refine xop_s (c1 := c) ?_ w R
    rw [e52]
    simp only [s52_0, s52_1, s52_2, s52_5, s52_5n, s52_6, s52_6n, s52_7n, s52_7, s52_10, s52_10n, s52_11, s52_14, s52_17, s52_18, s52_19, s52_20, s52_21, s52_24, s52_27, s52_27n, s52_28, s52_28n, s52_29, s52_30, s52_33, s52_36, s52_36n, s52_37, s52_38, s52_38n, s52_39, s52_39n, s52_40, s52_40n, s52_43, s52_46, s52_46n, s52_47n, s52_47, s52_50, s52_50n, s52_51, s52_54, s52_57, s52_57n, s52_58, s52_59, s52_62, s52_62n, s52_63, s52_64, s52_67, s52_67n, s52_68, s52_71, s52_72, s52_75, s52_75n, s52_76, s52_79, zl_n, zl_i, zl_r, zl_0, z10, z01, ez_bd_s, ez_bd_n, eq_self, true_or, or_true, if_true, if_false, zb_eq, zb_eq1, zb_em, zb_em2, ite_not, List.append_nil, List.cons_append, List.nil_append, reduceCtorEq, not_true_eq_false, not_false_eq_true, xo1, xa1, xf1_0, xv1_0, xp1_0, xf1_1, xv1_1, xf1_2, xv1_2, xp1_2, xf1_3, xv1_3, xf1_4, xv1_4, xf1_5, xv1_5, xp1_5, xf1_6, xv1_6, xp1_6, xf1_7, xv1_7, xf1_8, xv1_8, xf1_9, xv1_9, xf1_10, xv1_10, xf1_11, xv1_11, xf1_12, xv1_12, xf1_13, xv1_13, xf1_14, xv1_14, xp1_14, xo3, xa3, xf3_0, xv3_0, xp3_0, xf3_1, xv3_1, xf3_2, xv3_2, xp3_2, xo5, xa5, xf5_0, xv5_0, xp5_0, xf5_1, xv5_1, xp5_1, xf5_2, xv5_2, xp5_2, xf5_3, xv5_3, xp5_3, xf5_4, xv5_4, xp5_4, xf5_5, xv5_5, xp5_5, xf5_6, xv5_6, xp5_6, xf5_7, xv5_7, xp5_7, xf5_8, xv5_8, xp5_8, xf5_9, xv5_9, xp5_9, xf5_10, xv5_10, xp5_10, xf5_11, xv5_11, xp5_11, xf5_12, xv5_12, xp5_12, xo6, xa6, xf6_0, xv6_0, xp6_0, xf6_1, xv6_1, xp6_1, xf6_2, xv6_2, xp6_2, xo7, xa7, xf7_0, xv7_0, xp7_0, xf7_1, xv7_1, xp7_1, xf7_2, xv7_2, xp7_2, xf7_3, xv7_3, xp7_3, xf7_4, xv7_4, xf7_5, xv7_5, xo8, xa8, xf8_0, xv8_0, xp8_0, xf8_1, xv8_1, xo10, xa10, xf10_0, xv10_0, xp10_0, xf10_1, xv10_1, xp10_1, xf10_2, xv10_2, xp10_2, xf10_3, xv10_3, xf10_4, xv10_4, xo12, xa12, xf12_0, xv12_0, xf12_1, xv12_1, xp12_1, xf12_2, xv12_2, xp12_2, xf12_3, xv12_3, xp12_3, xf12_4, xv12_4, xo13, xa13, xf13_0, xv13_0, xf13_1, xv13_1, xp13_1, xo14, xa14, xf14_0, xv14_0, xf14_1, xv14_1, xp14_1, xf14_2, xv14_2, xp14_2, xf14_3, xv14_3, xp14_3, ya2_1, yw2_1, yv2_1, yp2_1, yn2_1, yl2_1, ya2_3, yw2_3, yv2_3, yp2_3, yn2_3, yl2_3, ya2_10, yw2_10, yv2_10, yp2_10, yn2_10, yl2_10, ya2_11, yw2_11, yv2_11, yp2_11, yn2_11, yl2_11, ya9, yw9, yv9, yp9, yn9, yl9, ya11, yw11, yv11, yp11, yn11, yl11, ya15, yw15, yv15, yp15, yn15, yl15, ya16, yw16, yv16, yp16, yn16, yl16, ok10, ok11, ok1i, xu_s, xu_n, ne_eq, Prod.mk.injEq, Nat.reduceEqDiff, false_and, and_false, not_false_eq_true, l1, l21, l23, l16, l30, l31, l32, l210, l211, l33, l34, ok, c_lotAt_n w R h1]
theorem c_worth {k : Nat} {a : Int32} (w : xw h0 P c) (R : RR P c z) (hk : k < 4) (ha : 1 ≤ a ∧ a ≤ 100000) : ∃ v, v ≤ 100000000 ∧ pw z (nI k) a = nI v ∧ ez_ev g 84 [.ref (P.2.2.1 (1, 0, 0)), .int (nI k), .int a] (xh h0 P c) = some (some (.int (nI v)), xh h0 P c) := by
  obtain ⟨l1, l21, l23, l16, l30, l31, l32, l210, l211, l33, l34⟩ := w_lvs w R.1; have ok := w.1
  obtain ⟨⟨a1, a2, a3, a4, a5⟩, ⟨b1, b2, b3⟩, ⟨d1, d2, d3⟩, m0, m1, m7, m36⟩ := R.2.1; have r1 := R.2.2.1; have r2 := R.2.2.2.1; have r5 := R.2.2.2.2.1; have r3 := R.2.2.2.2.2.1; have r4 := R.2.2.2.2.2.2.1; have rv := R.2.2.2.2.2.2.2; have r0 := R.2.1
  obtain ⟨x, hx, rfl⟩ := nI_of2 (n := 100000) (by decide) (Int32.not_lt.mpr (Int32.le_trans (by decide) ha.1)) ha.2
  have p4 : md_in (nI k) 4 = true := md_inN hk (by decide)
  have c1 : (nI k).toNatClampNeg = k := nI_clamp (by omega)
  by_cases h0 : k = 0
  · subst h0
    refine ⟨x, by omega, ?_, ?_⟩
    · unfold pw
      rw [if_pos (by decide)]
    · rw [e84]
      have : nI x * 1 / 1 = nI x := by rw [Int32.mul_one, show (1 : Int32) = nI 1 from rfl, pk_div (by omega) (by decide) (by decide), Nat.div_one]
      simp only [s84_0, s84_1, s84_4, s84_5, s84_6, s84_7, s84_8, s84_11, s84_12, s84_15, s84_16, s84_17, s84_20, s84_21, s84_22, s84_23, s84_24, s84_25, zl_n, zl_i, zl_r, zl_0, z10, z01, ez_bd_s, ez_bd_n, eq_self, true_or, or_true, if_true, if_false, zb_eq, zb_eq1, zb_em, zb_em2, ite_not, List.append_nil, List.cons_append, List.nil_append, reduceCtorEq, not_true_eq_false, not_false_eq_true, xo1, xa1, xf1_0, xv1_0, xp1_0, xf1_1, xv1_1, xf1_2, xv1_2, xp1_2, xf1_3, xv1_3, xf1_4, xv1_4, xf1_5, xv1_5, xp1_5, xf1_6, xv1_6, xp1_6, xf1_7, xv1_7, xf1_8, xv1_8, xf1_9, xv1_9, xf1_10, xv1_10, xf1_11, xv1_11, xf1_12, xv1_12, xf1_13, xv1_13, xf1_14, xv1_14, xp1_14, xo3, xa3, xf3_0, xv3_0, xp3_0, xf3_1, xv3_1, xf3_2, xv3_2, xp3_2, xo5, xa5, xf5_0, xv5_0, xp5_0, xf5_1, xv5_1, xp5_1, xf5_2, xv5_2, xp5_2, xf5_3, xv5_3, xp5_3, xf5_4, xv5_4, xp5_4, xf5_5, xv5_5, xp5_5, xf5_6, xv5_6, xp5_6, xf5_7, xv5_7, xp5_7, xf5_8, xv5_8, xp5_8, xf5_9, xv5_9, xp5_9, xf5_10, xv5_10, xp5_10, xf5_11, xv5_11, xp5_11, xf5_12, xv5_12, xp5_12, xo6, xa6, xf6_0, xv6_0, xp6_0, xf6_1, xv6_1, xp6_1, xf6_2, xv6_2, xp6_2, xo7, xa7, xf7_0, xv7_0, xp7_0, xf7_1, xv7_1, xp7_1, xf7_2, xv7_2, xp7_2, xf7_3, xv7_3, xp7_3, xf7_4, xv7_4, xf7_5, xv7_5, xo8, xa8, xf8_0, xv8_0, xp8_0, xf8_1, xv8_1, xo10, xa10, xf10_0, xv10_0, xp10_0, xf10_1, xv10_1, xp10_1, xf10_2, xv10_2, xp10_2, xf10_3, xv10_3, xf10_4, xv10_4, xo12, xa12, xf12_0, xv12_0, xf12_1, xv12_1, xp12_1, xf12_2, xv12_2, xp12_2, xf12_3, xv12_3, xp12_3, xf12_4, xv12_4, xo13, xa13, xf13_0, xv13_0, xf13_1, xv13_1, xp13_1, xo14, xa14, xf14_0, xv14_0, xf14_1, xv14_1, xp14_1, xf14_2, xv14_2, xp14_2, xf14_3, xv14_3, xp14_3, ya2_1, yw2_1, yv2_1, yp2_1, yn2_1, yl2_1, ya2_3, yw2_3, yv2_3, yp2_3, yn2_3, yl2_3, ya2_10, yw2_10, yv2_10, yp2_10, yn2_10, yl2_10, ya2_11, yw2_11, yv2_11, yp2_11, yn2_11, yl2_11, ya9, yw9, yv9, yp9, yn9, yl9, ya11, yw11, yv11, yp11, yn11, yl11, ya15, yw15, yv15, yp15, yn15, yl15, ya16, yw16, yv16, yp16, yn16, yl16, ok10, ok11, ok1i, xu_s, xu_n, ne_eq, Prod.mk.injEq, Nat.reduceEqDiff, false_and, and_false, not_false_eq_true, l1, l21, l23, l16, l30, l31, l32, l210, l211, l33, l34, ok, p4, c1, d1, d2, this]
  · obtain ⟨u1, u2, u3⟩ := d3 k (by omega)
    obtain ⟨u4, u5⟩ := u3 hk
    obtain ⟨e4, i4⟩ := md_inE u4
    obtain ⟨e5, i5⟩ := md_inE u5
    have hk0 : ¬ nI k = 0 := nI_ne0 (by omega) (by omega)
    unfold pw
    rw [if_neg hk0, c1]
    by_cases h6 : z.2 24 k = 0
    · refine ⟨0, by omega, ?_, ?_⟩
      · rw [if_pos h6]; rfl
      · rw [e84]
        simp only [s84_0, s84_1, s84_4, s84_5, s84_6, s84_7, s84_8, s84_11, s84_12, s84_15, s84_16, s84_17, s84_20, s84_21, s84_22, s84_23, s84_24, s84_25, zl_n, zl_i, zl_r, zl_0, z10, z01, ez_bd_s, ez_bd_n, eq_self, true_or, or_true, if_true, if_false, zb_eq, zb_eq1, zb_em, zb_em2, ite_not, List.append_nil, List.cons_append, List.nil_append, reduceCtorEq, not_true_eq_false, not_false_eq_true, xo1, xa1, xf1_0, xv1_0, xp1_0, xf1_1, xv1_1, xf1_2, xv1_2, xp1_2, xf1_3, xv1_3, xf1_4, xv1_4, xf1_5, xv1_5, xp1_5, xf1_6, xv1_6, xp1_6, xf1_7, xv1_7, xf1_8, xv1_8, xf1_9, xv1_9, xf1_10, xv1_10, xf1_11, xv1_11, xf1_12, xv1_12, xf1_13, xv1_13, xf1_14, xv1_14, xp1_14, xo3, xa3, xf3_0, xv3_0, xp3_0, xf3_1, xv3_1, xf3_2, xv3_2, xp3_2, xo5, xa5, xf5_0, xv5_0, xp5_0, xf5_1, xv5_1, xp5_1, xf5_2, xv5_2, xp5_2, xf5_3, xv5_3, xp5_3, xf5_4, xv5_4, xp5_4, xf5_5, xv5_5, xp5_5, xf5_6, xv5_6, xp5_6, xf5_7, xv5_7, xp5_7, xf5_8, xv5_8, xp5_8, xf5_9, xv5_9, xp5_9, xf5_10, xv5_10, xp5_10, xf5_11, xv5_11, xp5_11, xf5_12, xv5_12, xp5_12, xo6, xa6, xf6_0, xv6_0, xp6_0, xf6_1, xv6_1, xp6_1, xf6_2, xv6_2, xp6_2, xo7, xa7, xf7_0, xv7_0, xp7_0, xf7_1, xv7_1, xp7_1, xf7_2, xv7_2, xp7_2, xf7_3, xv7_3, xp7_3, xf7_4, xv7_4, xf7_5, xv7_5, xo8, xa8, xf8_0, xv8_0, xp8_0, xf8_1, xv8_1, xo10, xa10, xf10_0, xv10_0, xp10_0, xf10_1, xv10_1, xp10_1, xf10_2, xv10_2, xp10_2, xf10_3, xv10_3, xf10_4, xv10_4, xo12, xa12, xf12_0, xv12_0, xf12_1, xv12_1, xp12_1, xf12_2, xv12_2, xp12_2, xf12_3, xv12_3, xp12_3, xf12_4, xv12_4, xo13, xa13, xf13_0, xv13_0, xf13_1, xv13_1, xp13_1, xo14, xa14, xf14_0, xv14_0, xf14_1, xv14_1, xp14_1, xf14_2, xv14_2, xp14_2, xf14_3, xv14_3, xp14_3, ya2_1, yw2_1, yv2_1, yp2_1, yn2_1, yl2_1, ya2_3, yw2_3, yv2_3, yp2_3, yn2_3, yl2_3, ya2_10, yw2_10, yv2_10, yp2_10, yn2_10, yl2_10, ya2_11, yw2_11, yv2_11, yp2_11, yn2_11, yl2_11, ya9, yw9, yv9, yp9, yn9, yl9, ya11, yw11, yv11, yp11, yn11, yl11, ya15, yw15, yv15, yp15, yn15, yl15, ya16, yw16, yv16, yp16, yn16, yl16, ok10, ok11, ok1i, xu_s, xu_n, ne_eq, Prod.mk.injEq, Nat.reduceEqDiff, false_and, and_false, not_false_eq_true, l1, l21, l23, l16, l30, l31, l32, l210, l211, l33, l34, ok, p4, c1, u2, h6, nI_0]
    · generalize (z.2 23 k).toNatClampNeg = U at e4 i4
      generalize (z.2 24 k).toNatClampNeg = V at e5 i5
      have hV : 0 < V := by
        refine Nat.pos_of_ne_zero fun e => h6 ?_
        rw [e5, e]
        rfl
      have hm : x * U ≤ 100000 * 1000 := Nat.mul_le_mul hx (by omega)
      have hd : x * U / V ≤ x * U := Nat.div_le_self _ _
      refine ⟨x * U / V, by omega, ?_, ?_⟩
      · rw [if_neg h6, e4, e5, nI_l (by omega), nI_l (by omega), nI_l (by omega), lN_mul, pk_lDiv (by omega) hV (by omega), lN_i]
      · have hV0 : ¬ nI V = 0 := nI_ne0 hV (by omega)
        rw [e84]
        simp only [s84_0, s84_1, s84_4, s84_5, s84_6, s84_7, s84_8, s84_11, s84_12, s84_15, s84_16, s84_17, s84_20, s84_21, s84_22, s84_23, s84_24, s84_25, zl_n, zl_i, zl_r, zl_0, z10, z01, ez_bd_s, ez_bd_n, eq_self, true_or, or_true, if_true, if_false, zb_eq, zb_eq1, zb_em, zb_em2, ite_not, List.append_nil, List.cons_append, List.nil_append, reduceCtorEq, not_true_eq_false, not_false_eq_true, xo1, xa1, xf1_0, xv1_0, xp1_0, xf1_1, xv1_1, xf1_2, xv1_2, xp1_2, xf1_3, xv1_3, xf1_4, xv1_4, xf1_5, xv1_5, xp1_5, xf1_6, xv1_6, xp1_6, xf1_7, xv1_7, xf1_8, xv1_8, xf1_9, xv1_9, xf1_10, xv1_10, xf1_11, xv1_11, xf1_12, xv1_12, xf1_13, xv1_13, xf1_14, xv1_14, xp1_14, xo3, xa3, xf3_0, xv3_0, xp3_0, xf3_1, xv3_1, xf3_2, xv3_2, xp3_2, xo5, xa5, xf5_0, xv5_0, xp5_0, xf5_1, xv5_1, xp5_1, xf5_2, xv5_2, xp5_2, xf5_3, xv5_3, xp5_3, xf5_4, xv5_4, xp5_4, xf5_5, xv5_5, xp5_5, xf5_6, xv5_6, xp5_6, xf5_7, xv5_7, xp5_7, xf5_8, xv5_8, xp5_8, xf5_9, xv5_9, xp5_9, xf5_10, xv5_10, xp5_10, xf5_11, xv5_11, xp5_11, xf5_12, xv5_12, xp5_12, xo6, xa6, xf6_0, xv6_0, xp6_0, xf6_1, xv6_1, xp6_1, xf6_2, xv6_2, xp6_2, xo7, xa7, xf7_0, xv7_0, xp7_0, xf7_1, xv7_1, xp7_1, xf7_2, xv7_2, xp7_2, xf7_3, xv7_3, xp7_3, xf7_4, xv7_4, xf7_5, xv7_5, xo8, xa8, xf8_0, xv8_0, xp8_0, xf8_1, xv8_1, xo10, xa10, xf10_0, xv10_0, xp10_0, xf10_1, xv10_1, xp10_1, xf10_2, xv10_2, xp10_2, xf10_3, xv10_3, xf10_4, xv10_4, xo12, xa12, xf12_0, xv12_0, xf12_1, xv12_1, xp12_1, xf12_2, xv12_2, xp12_2, xf12_3, xv12_3, xp12_3, xf12_4, xv12_4, xo13, xa13, xf13_0, xv13_0, xf13_1, xv13_1, xp13_1, xo14, xa14, xf14_0, xv14_0, xf14_1, xv14_1, xp14_1, xf14_2, xv14_2, xp14_2, xf14_3, xv14_3, xp14_3, ya2_1, yw2_1, yv2_1, yp2_1, yn2_1, yl2_1, ya2_3, yw2_3, yv2_3, yp2_3, yn2_3, yl2_3, ya2_10, yw2_10, yv2_10, yp2_10, yn2_10, yl2_10, ya2_11, yw2_11, yv2_11, yp2_11, yn2_11, yl2_11, ya9, yw9, yv9, yp9, yn9, yl9, ya11, yw11, yv11, yp11, yn11, yl11, ya15, yw15, yv15, yp15, yn15, yl15, ya16, yw16, yv16, yp16, yn16, yl16, ok10, ok11, ok1i, xu_s, xu_n, ne_eq, Prod.mk.injEq, Nat.reduceEqDiff, false_and, and_false, not_false_eq_true, l1, l21, l23, l16, l30, l31, l32, l210, l211, l33, l34, ok, p4, c1, u1, u2, e4, e5, hV0, nI_mul, pk_div (show x * U < 2 ^ 31 by omega) hV (show V < 2 ^ 31 by omega)]
theorem o_pay {l k a : Int32} (w : xw h0 P c) (R : RR P c z) : xop g 55 [.int l, .int k, .int a] h0 P c (pm_pay z l k a) := by
  obtain ⟨l1, l21, l23, l16, l30, l31, l32, l210, l211, l33, l34⟩ := w_lvs w R.1; have ok := w.1
  obtain ⟨⟨a1, a2, a3, a4, a5⟩, ⟨b1, b2, b3⟩, ⟨d1, d2, d3⟩, m0, m1, m7, m36⟩ := R.2.1; have r1 := R.2.2.1; have r2 := R.2.2.2.1; have r5 := R.2.2.2.2.1; have r3 := R.2.2.2.2.2.1; have r4 := R.2.2.2.2.2.2.1; have rv := R.2.2.2.2.2.2.2; have r0 := R.2.1
  obtain ⟨e, hb⟩ := md_inE r2.1
  unfold pm_pay
  by_cases h1 : 0 ≤ l ∧ l ≤ z.1 3 - 1
  · rw [if_pos h1]
    rw [e] at h1
    obtain ⟨j, hj, rfl⟩ := ix_p (by omega) h1
    obtain ⟨q, l5⟩ := c_lotAt (g := g) w R hj
    have c1 : (nI j).toNatClampNeg = j := nI_clamp (by omega)
    rw [c1]
    obtain ⟨y4, ⟨x0, x1, x2, x3, x4, x5, x6, x7, x8, x9, x10⟩, b12, b13, b14, b15, b17, b20, ble, b21, b22, b217⟩ := r2.2.2.1 j hj
    by_cases h2 : z.2 18 j = 1
    · rw [if_pos h2]
      by_cases h3 : 0 ≤ k ∧ k ≤ 3
      · rw [if_pos h3]
        by_cases h4 : 1 ≤ a ∧ a ≤ 100000
        · rw [if_pos h4]
          obtain ⟨i3, i4⟩ := h3
          obtain ⟨i, hi, rfl⟩ := nI_of2 (n := 3) (by decide) (Int32.not_lt.mpr i3) i4
          obtain ⟨v, hv, ew, q2⟩ := c_worth (g := g) w R (show i < 4 by omega) h4
          obtain ⟨e17, i17⟩ := md_inE b17
          obtain ⟨e20, i20⟩ := md_inE b20
          rw [ew]
          generalize hp : (z.2 20 j).toNatClampNeg = p at e20 i20
          generalize hd : (z.2 17 j).toNatClampNeg = d at e17 i17
          by_cases h5 : p + v < d
          · have ov : pov z j (nI v) = 0 := by
              unfold pov
              rw [if_neg]
              rw [e20, e17, nI_add]
              intro h
              rw [Int32.lt_iff_toInt_lt, Int32.toInt_sub, nI_toInt (by omega), nI_toInt (by omega), show (0 : Int32).toInt = 0 by decide, Int.bmod_eq_of_le (by omega) (by omega)] at h
              omega
            have s1 : z.2 20 j + (nI v - pov z j (nI v)) = nI (p + v) := by
              rw [ov, e20, Int32.sub_zero, nI_add]
            have ne : ¬ nI (p + v) = z.2 17 j := by
              rw [e17]
              intro h
              have := (nI_eq (by omega) (by omega)).mp h
              omega
            rw [s1, if_neg ne, ov]
            refine xop_s (c1 := xu c (5, j, 0) 10 (nI (p + v))) ?_ (xw_5 w) (RR_lot R hj (hc_u (by decide) (fun _ _ _ => rfl)) rfl (hz_u (by decide) (by decide) (fun _ _ _ => rfl)) ?_)
            · rw [e55]
              simp only [s55_0, s55_1, s55_2, s55_5, s55_5n, s55_7, s55_7n, s55_9n, s55_9, s55_12, s55_12n, s55_14, s55_17, s55_18, s55_21, s55_22, s55_23, s55_24, s55_27, s55_30, s55_31, s55_32, s55_34, s55_37, s55_40, s55_41, s55_42, s55_42n, s55_44, s55_47, s55_48, s55_49, s55_50, s55_53, s55_54, s55_56, s55_58, s55_58n, s55_60, s55_63, s55_66, s55_66n, s55_68, s55_70, s55_73, s55_74, s55_75, s55_75n, s55_77, s55_77n, s55_79, s55_82, s55_85, s55_85n, s55_87, s55_88, s55_91, s55_93, s55_93n, s55_95, s55_98, s55_99, zl_n, zl_i, zl_r, zl_0, z10, z01, ez_bd_s, ez_bd_n, eq_self, true_or, or_true, if_true, if_false, zb_eq, zb_eq1, zb_em, zb_em2, ite_not, List.append_nil, List.cons_append, List.nil_append, reduceCtorEq, not_true_eq_false, not_false_eq_true, xo1, xa1, xf1_0, xv1_0, xp1_0, xf1_1, xv1_1, xf1_2, xv1_2, xp1_2, xf1_3, xv1_3, xf1_4, xv1_4, xf1_5, xv1_5, xp1_5, xf1_6, xv1_6, xp1_6, xf1_7, xv1_7, xf1_8, xv1_8, xf1_9, xv1_9, xf1_10, xv1_10, xf1_11, xv1_11, xf1_12, xv1_12, xf1_13, xv1_13, xf1_14, xv1_14, xp1_14, xo3, xa3, xf3_0, xv3_0, xp3_0, xf3_1, xv3_1, xf3_2, xv3_2, xp3_2, xo5, xa5, xf5_0, xv5_0, xp5_0, xf5_1, xv5_1, xp5_1, xf5_2, xv5_2, xp5_2, xf5_3, xv5_3, xp5_3, xf5_4, xv5_4, xp5_4, xf5_5, xv5_5, xp5_5, xf5_6, xv5_6, xp5_6, xf5_7, xv5_7, xp5_7, xf5_8, xv5_8, xp5_8, xf5_9, xv5_9, xp5_9, xf5_10, xv5_10, xp5_10, xf5_11, xv5_11, xp5_11, xf5_12, xv5_12, xp5_12, xo6, xa6, xf6_0, xv6_0, xp6_0, xf6_1, xv6_1, xp6_1, xf6_2, xv6_2, xp6_2, xo7, xa7, xf7_0, xv7_0, xp7_0, xf7_1, xv7_1, xp7_1, xf7_2, xv7_2, xp7_2, xf7_3, xv7_3, xp7_3, xf7_4, xv7_4, xf7_5, xv7_5, xo8, xa8, xf8_0, xv8_0, xp8_0, xf8_1, xv8_1, xo10, xa10, xf10_0, xv10_0, xp10_0, xf10_1, xv10_1, xp10_1, xf10_2, xv10_2, xp10_2, xf10_3, xv10_3, xf10_4, xv10_4, xo12, xa12, xf12_0, xv12_0, xf12_1, xv12_1, xp12_1, xf12_2, xv12_2, xp12_2, xf12_3, xv12_3, xp12_3, xf12_4, xv12_4, xo13, xa13, xf13_0, xv13_0, xf13_1, xv13_1, xp13_1, xo14, xa14, xf14_0, xv14_0, xf14_1, xv14_1, xp14_1, xf14_2, xv14_2, xp14_2, xf14_3, xv14_3, xp14_3, ya2_1, yw2_1, yv2_1, yp2_1, yn2_1, yl2_1, ya2_3, yw2_3, yv2_3, yp2_3, yn2_3, yl2_3, ya2_10, yw2_10, yv2_10, yp2_10, yn2_10, yl2_10, ya2_11, yw2_11, yv2_11, yp2_11, yn2_11, yl2_11, ya9, yw9, yv9, yp9, yn9, yl9, ya11, yw11, yv11, yp11, yn11, yl11, ya15, yw15, yv15, yp15, yn15, yl15, ya16, yw16, yv16, yp16, yn16, yl16, ok10, ok11, ok1i, xu_s, xu_n, ne_eq, Prod.mk.injEq, Nat.reduceEqDiff, false_and, and_false, not_false_eq_true, l1, l21, l23, l16, l30, l31, l32, l210, l211, l33, l34, ok, q, l5, x8, h2, c_within, i3, i4, h4, and_self, q2, x10, x7, e20, e17, nI_add, nI_nleI h5 (show d < 2 ^ 31 by omega)]
            · unfold LF
              simp only [xu_s, xu_n, md_A1, md_A2, pk_us, Nat.reduceEqDiff, if_true, if_false, ne_eq, Prod.mk.injEq, false_and, not_false_eq_true]
              exact ⟨y4, ⟨x0, x1, x2, x3, x4, x5, x6, x7, x8, x9, trivial⟩, b12, b13, b14, b15, b17, md_inN (by omega) (by decide), by rw [e17]; exact nI_le (by omega) (by omega), b21, b22, b217⟩
          · have ov : pov z j (nI v) = nI (p + v - d) := by
              unfold pov
              have s0 : z.2 20 j + nI v - z.2 17 j = nI (p + v - d) := by
                rw [e20, e17, nI_add, show p + v = d + (p + v - d) by omega, nI_sb, Nat.add_sub_cancel_left]
              rw [s0]
              by_cases h6 : 0 < nI (p + v - d)
              · rw [if_pos h6]
              · rw [if_neg h6]
                have : p + v - d = 0 := by
                  refine Nat.eq_zero_of_not_pos fun h7 => h6 ?_
                  have := nI_lt (a := 0) h7 (by omega)
                  rw [nI_0] at this
                  exact this
                rw [this]
                rfl
            have s1 : z.2 20 j + (nI v - pov z j (nI v)) = z.2 17 j := by
              rw [ov, e20, e17, Int32.sub_eq_add_neg, ← Int32.add_assoc, nI_add, ← Int32.sub_eq_add_neg]
              conv => lhs; lhs; rw [show p + v = (p + v - d) + d by omega]
              exact nI_sb
            rw [s1, if_pos rfl, ov]
            refine xop_s (c1 := xu (xu c (5, j, 0) 10 (z.2 17 j)) (5, j, 0) 8 2) ?_ (xw_5 (xw_5 w)) (RR_lot R hj (hc_u (by decide) (hc_u (by decide) (fun _ _ _ => rfl))) rfl (hz_u (by decide) (by decide) (hz_u (by decide) (by decide) (fun _ _ _ => rfl))) ?_)
            · have s3 : nI (p + v) - nI d = nI (p + v - d) := by
                conv => lhs; lhs; rw [show p + v = d + (p + v - d) by omega]
                exact nI_sb
              rw [e55]
              simp only [s55_0, s55_1, s55_2, s55_5, s55_5n, s55_7, s55_7n, s55_9n, s55_9, s55_12, s55_12n, s55_14, s55_17, s55_18, s55_21, s55_22, s55_23, s55_24, s55_27, s55_30, s55_31, s55_32, s55_34, s55_37, s55_40, s55_41, s55_42, s55_42n, s55_44, s55_47, s55_48, s55_49, s55_50, s55_53, s55_54, s55_56, s55_58, s55_58n, s55_60, s55_63, s55_66, s55_66n, s55_68, s55_70, s55_73, s55_74, s55_75, s55_75n, s55_77, s55_77n, s55_79, s55_82, s55_85, s55_85n, s55_87, s55_88, s55_91, s55_93, s55_93n, s55_95, s55_98, s55_99, zl_n, zl_i, zl_r, zl_0, z10, z01, ez_bd_s, ez_bd_n, eq_self, true_or, or_true, if_true, if_false, zb_eq, zb_eq1, zb_em, zb_em2, ite_not, List.append_nil, List.cons_append, List.nil_append, reduceCtorEq, not_true_eq_false, not_false_eq_true, xo1, xa1, xf1_0, xv1_0, xp1_0, xf1_1, xv1_1, xf1_2, xv1_2, xp1_2, xf1_3, xv1_3, xf1_4, xv1_4, xf1_5, xv1_5, xp1_5, xf1_6, xv1_6, xp1_6, xf1_7, xv1_7, xf1_8, xv1_8, xf1_9, xv1_9, xf1_10, xv1_10, xf1_11, xv1_11, xf1_12, xv1_12, xf1_13, xv1_13, xf1_14, xv1_14, xp1_14, xo3, xa3, xf3_0, xv3_0, xp3_0, xf3_1, xv3_1, xf3_2, xv3_2, xp3_2, xo5, xa5, xf5_0, xv5_0, xp5_0, xf5_1, xv5_1, xp5_1, xf5_2, xv5_2, xp5_2, xf5_3, xv5_3, xp5_3, xf5_4, xv5_4, xp5_4, xf5_5, xv5_5, xp5_5, xf5_6, xv5_6, xp5_6, xf5_7, xv5_7, xp5_7, xf5_8, xv5_8, xp5_8, xf5_9, xv5_9, xp5_9, xf5_10, xv5_10, xp5_10, xf5_11, xv5_11, xp5_11, xf5_12, xv5_12, xp5_12, xo6, xa6, xf6_0, xv6_0, xp6_0, xf6_1, xv6_1, xp6_1, xf6_2, xv6_2, xp6_2, xo7, xa7, xf7_0, xv7_0, xp7_0, xf7_1, xv7_1, xp7_1, xf7_2, xv7_2, xp7_2, xf7_3, xv7_3, xp7_3, xf7_4, xv7_4, xf7_5, xv7_5, xo8, xa8, xf8_0, xv8_0, xp8_0, xf8_1, xv8_1, xo10, xa10, xf10_0, xv10_0, xp10_0, xf10_1, xv10_1, xp10_1, xf10_2, xv10_2, xp10_2, xf10_3, xv10_3, xf10_4, xv10_4, xo12, xa12, xf12_0, xv12_0, xf12_1, xv12_1, xp12_1, xf12_2, xv12_2, xp12_2, xf12_3, xv12_3, xp12_3, xf12_4, xv12_4, xo13, xa13, xf13_0, xv13_0, xf13_1, xv13_1, xp13_1, xo14, xa14, xf14_0, xv14_0, xf14_1, xv14_1, xp14_1, xf14_2, xv14_2, xp14_2, xf14_3, xv14_3, xp14_3, ya2_1, yw2_1, yv2_1, yp2_1, yn2_1, yl2_1, ya2_3, yw2_3, yv2_3, yp2_3, yn2_3, yl2_3, ya2_10, yw2_10, yv2_10, yp2_10, yn2_10, yl2_10, ya2_11, yw2_11, yv2_11, yp2_11, yn2_11, yl2_11, ya9, yw9, yv9, yp9, yn9, yl9, ya11, yw11, yv11, yp11, yn11, yl11, ya15, yw15, yv15, yp15, yn15, yl15, ya16, yw16, yv16, yp16, yn16, yl16, ok10, ok11, ok1i, xu_s, xu_n, ne_eq, Prod.mk.injEq, Nat.reduceEqDiff, false_and, and_false, not_false_eq_true, l1, l21, l23, l16, l30, l31, l32, l210, l211, l33, l34, ok, q, l5, x8, h2, c_within, i3, i4, h4, and_self, q2, x10, x7, e20, e17, nI_add, nI_leT (show d ≤ p + v by omega) (show p + v < 2 ^ 31 by omega), s3]
            · unfold LF
              simp only [xu_s, xu_n, md_A1, md_A2, pk_us, Nat.reduceEqDiff, if_true, if_false, ne_eq, Prod.mk.injEq, false_and, not_false_eq_true]
              exact ⟨y4, ⟨x0, x1, x2, x3, x4, x5, x6, x7, trivial, x9, trivial⟩, b12, b13, b14, b15, b17, b17, Int32.le_refl _, b21, b22, b217⟩
        · rw [if_neg h4]
          refine xop_s (c1 := c) ?_ w R
          rw [e55]
          simp only [s55_0, s55_1, s55_2, s55_5, s55_5n, s55_7, s55_7n, s55_9n, s55_9, s55_12, s55_12n, s55_14, s55_17, s55_18, s55_21, s55_22, s55_23, s55_24, s55_27, s55_30, s55_31, s55_32, s55_34, s55_37, s55_40, s55_41, s55_42, s55_42n, s55_44, s55_47, s55_48, s55_49, s55_50, s55_53, s55_54, s55_56, s55_58, s55_58n, s55_60, s55_63, s55_66, s55_66n, s55_68, s55_70, s55_73, s55_74, s55_75, s55_75n, s55_77, s55_77n, s55_79, s55_82, s55_85, s55_85n, s55_87, s55_88, s55_91, s55_93, s55_93n, s55_95, s55_98, s55_99, zl_n, zl_i, zl_r, zl_0, z10, z01, ez_bd_s, ez_bd_n, eq_self, true_or, or_true, if_true, if_false, zb_eq, zb_eq1, zb_em, zb_em2, ite_not, List.append_nil, List.cons_append, List.nil_append, reduceCtorEq, not_true_eq_false, not_false_eq_true, xo1, xa1, xf1_0, xv1_0, xp1_0, xf1_1, xv1_1, xf1_2, xv1_2, xp1_2, xf1_3, xv1_3, xf1_4, xv1_4, xf1_5, xv1_5, xp1_5, xf1_6, xv1_6, xp1_6, xf1_7, xv1_7, xf1_8, xv1_8, xf1_9, xv1_9, xf1_10, xv1_10, xf1_11, xv1_11, xf1_12, xv1_12, xf1_13, xv1_13, xf1_14, xv1_14, xp1_14, xo3, xa3, xf3_0, xv3_0, xp3_0, xf3_1, xv3_1, xf3_2, xv3_2, xp3_2, xo5, xa5, xf5_0, xv5_0, xp5_0, xf5_1, xv5_1, xp5_1, xf5_2, xv5_2, xp5_2, xf5_3, xv5_3, xp5_3, xf5_4, xv5_4, xp5_4, xf5_5, xv5_5, xp5_5, xf5_6, xv5_6, xp5_6, xf5_7, xv5_7, xp5_7, xf5_8, xv5_8, xp5_8, xf5_9, xv5_9, xp5_9, xf5_10, xv5_10, xp5_10, xf5_11, xv5_11, xp5_11, xf5_12, xv5_12, xp5_12, xo6, xa6, xf6_0, xv6_0, xp6_0, xf6_1, xv6_1, xp6_1, xf6_2, xv6_2, xp6_2, xo7, xa7, xf7_0, xv7_0, xp7_0, xf7_1, xv7_1, xp7_1, xf7_2, xv7_2, xp7_2, xf7_3, xv7_3, xp7_3, xf7_4, xv7_4, xf7_5, xv7_5, xo8, xa8, xf8_0, xv8_0, xp8_0, xf8_1, xv8_1, xo10, xa10, xf10_0, xv10_0, xp10_0, xf10_1, xv10_1, xp10_1, xf10_2, xv10_2, xp10_2, xf10_3, xv10_3, xf10_4, xv10_4, xo12, xa12, xf12_0, xv12_0, xf12_1, xv12_1, xp12_1, xf12_2, xv12_2, xp12_2, xf12_3, xv12_3, xp12_3, xf12_4, xv12_4, xo13, xa13, xf13_0, xv13_0, xf13_1, xv13_1, xp13_1, xo14, xa14, xf14_0, xv14_0, xf14_1, xv14_1, xp14_1, xf14_2, xv14_2, xp14_2, xf14_3, xv14_3, xp14_3, ya2_1, yw2_1, yv2_1, yp2_1, yn2_1, yl2_1, ya2_3, yw2_3, yv2_3, yp2_3, yn2_3, yl2_3, ya2_10, yw2_10, yv2_10, yp2_10, yn2_10, yl2_10, ya2_11, yw2_11, yv2_11, yp2_11, yn2_11, yl2_11, ya9, yw9, yv9, yp9, yn9, yl9, ya11, yw11, yv11, yp11, yn11, yl11, ya15, yw15, yv15, yp15, yn15, yl15, ya16, yw16, yv16, yp16, yn16, yl16, ok10, ok11, ok1i, xu_s, xu_n, ne_eq, Prod.mk.injEq, Nat.reduceEqDiff, false_and, and_false, not_false_eq_true, l1, l21, l23, l16, l30, l31, l32, l210, l211, l33, l34, ok, q, l5, x8, h2, c_within, h3, and_self]
          simp only [if_neg h4, zl_n, zl_i, zl_r, zl_0, z10, z01, ez_bd_s, ez_bd_n, eq_self, true_or, or_true, if_true, if_false, zb_eq, zb_eq1, zb_em, zb_em2, ite_not, List.append_nil, List.cons_append, List.nil_append, reduceCtorEq, not_true_eq_false, not_false_eq_true]
      · rw [if_neg h3]
        refine xop_s (c1 := c) ?_ w R
        rw [e55]
        simp only [s55_0, s55_1, s55_2, s55_5, s55_5n, s55_7, s55_7n, s55_9n, s55_9, s55_12, s55_12n, s55_14, s55_17, s55_18, s55_21, s55_22, s55_23, s55_24, s55_27, s55_30, s55_31, s55_32, s55_34, s55_37, s55_40, s55_41, s55_42, s55_42n, s55_44, s55_47, s55_48, s55_49, s55_50, s55_53, s55_54, s55_56, s55_58, s55_58n, s55_60, s55_63, s55_66, s55_66n, s55_68, s55_70, s55_73, s55_74, s55_75, s55_75n, s55_77, s55_77n, s55_79, s55_82, s55_85, s55_85n, s55_87, s55_88, s55_91, s55_93, s55_93n, s55_95, s55_98, s55_99, zl_n, zl_i, zl_r, zl_0, z10, z01, ez_bd_s, ez_bd_n, eq_self, true_or, or_true, if_true, if_false, zb_eq, zb_eq1, zb_em, zb_em2, ite_not, List.append_nil, List.cons_append, List.nil_append, reduceCtorEq, not_true_eq_false, not_false_eq_true, xo1, xa1, xf1_0, xv1_0, xp1_0, xf1_1, xv1_1, xf1_2, xv1_2, xp1_2, xf1_3, xv1_3, xf1_4, xv1_4, xf1_5, xv1_5, xp1_5, xf1_6, xv1_6, xp1_6, xf1_7, xv1_7, xf1_8, xv1_8, xf1_9, xv1_9, xf1_10, xv1_10, xf1_11, xv1_11, xf1_12, xv1_12, xf1_13, xv1_13, xf1_14, xv1_14, xp1_14, xo3, xa3, xf3_0, xv3_0, xp3_0, xf3_1, xv3_1, xf3_2, xv3_2, xp3_2, xo5, xa5, xf5_0, xv5_0, xp5_0, xf5_1, xv5_1, xp5_1, xf5_2, xv5_2, xp5_2, xf5_3, xv5_3, xp5_3, xf5_4, xv5_4, xp5_4, xf5_5, xv5_5, xp5_5, xf5_6, xv5_6, xp5_6, xf5_7, xv5_7, xp5_7, xf5_8, xv5_8, xp5_8, xf5_9, xv5_9, xp5_9, xf5_10, xv5_10, xp5_10, xf5_11, xv5_11, xp5_11, xf5_12, xv5_12, xp5_12, xo6, xa6, xf6_0, xv6_0, xp6_0, xf6_1, xv6_1, xp6_1, xf6_2, xv6_2, xp6_2, xo7, xa7, xf7_0, xv7_0, xp7_0, xf7_1, xv7_1, xp7_1, xf7_2, xv7_2, xp7_2, xf7_3, xv7_3, xp7_3, xf7_4, xv7_4, xf7_5, xv7_5, xo8, xa8, xf8_0, xv8_0, xp8_0, xf8_1, xv8_1, xo10, xa10, xf10_0, xv10_0, xp10_0, xf10_1, xv10_1, xp10_1, xf10_2, xv10_2, xp10_2, xf10_3, xv10_3, xf10_4, xv10_4, xo12, xa12, xf12_0, xv12_0, xf12_1, xv12_1, xp12_1, xf12_2, xv12_2, xp12_2, xf12_3, xv12_3, xp12_3, xf12_4, xv12_4, xo13, xa13, xf13_0, xv13_0, xf13_1, xv13_1, xp13_1, xo14, xa14, xf14_0, xv14_0, xf14_1, xv14_1, xp14_1, xf14_2, xv14_2, xp14_2, xf14_3, xv14_3, xp14_3, ya2_1, yw2_1, yv2_1, yp2_1, yn2_1, yl2_1, ya2_3, yw2_3, yv2_3, yp2_3, yn2_3, yl2_3, ya2_10, yw2_10, yv2_10, yp2_10, yn2_10, yl2_10, ya2_11, yw2_11, yv2_11, yp2_11, yn2_11, yl2_11, ya9, yw9, yv9, yp9, yn9, yl9, ya11, yw11, yv11, yp11, yn11, yl11, ya15, yw15, yv15, yp15, yn15, yl15, ya16, yw16, yv16, yp16, yn16, yl16, ok10, ok11, ok1i, xu_s, xu_n, ne_eq, Prod.mk.injEq, Nat.reduceEqDiff, false_and, and_false, not_false_eq_true, l1, l21, l23, l16, l30, l31, l32, l210, l211, l33, l34, ok, q, l5, x8, h2, c_within]
        simp only [if_neg h3, zl_n, zl_i, zl_r, zl_0, z10, z01, ez_bd_s, ez_bd_n, eq_self, true_or, or_true, if_true, if_false, zb_eq, zb_eq1, zb_em, zb_em2, ite_not, List.append_nil, List.cons_append, List.nil_append, reduceCtorEq, not_true_eq_false, not_false_eq_true]
    · rw [if_neg h2]
      refine xop_s (c1 := c) ?_ w R
      rw [e55]
      simp only [s55_0, s55_1, s55_2, s55_5, s55_5n, s55_7, s55_7n, s55_9n, s55_9, s55_12, s55_12n, s55_14, s55_17, s55_18, s55_21, s55_22, s55_23, s55_24, s55_27, s55_30, s55_31, s55_32, s55_34, s55_37, s55_40, s55_41, s55_42, s55_42n, s55_44, s55_47, s55_48, s55_49, s55_50, s55_53, s55_54, s55_56, s55_58, s55_58n, s55_60, s55_63, s55_66, s55_66n, s55_68, s55_70, s55_73, s55_74, s55_75, s55_75n, s55_77, s55_77n, s55_79, s55_82, s55_85, s55_85n, s55_87, s55_88, s55_91, s55_93, s55_93n, s55_95, s55_98, s55_99, zl_n, zl_i, zl_r, zl_0, z10, z01, ez_bd_s, ez_bd_n, eq_self, true_or, or_true, if_true, if_false, zb_eq, zb_eq1, zb_em, zb_em2, ite_not, List.append_nil, List.cons_append, List.nil_append, reduceCtorEq, not_true_eq_false, not_false_eq_true, xo1, xa1, xf1_0, xv1_0, xp1_0, xf1_1, xv1_1, xf1_2, xv1_2, xp1_2, xf1_3, xv1_3, xf1_4, xv1_4, xf1_5, xv1_5, xp1_5, xf1_6, xv1_6, xp1_6, xf1_7, xv1_7, xf1_8, xv1_8, xf1_9, xv1_9, xf1_10, xv1_10, xf1_11, xv1_11, xf1_12, xv1_12, xf1_13, xv1_13, xf1_14, xv1_14, xp1_14, xo3, xa3, xf3_0, xv3_0, xp3_0, xf3_1, xv3_1, xf3_2, xv3_2, xp3_2, xo5, xa5, xf5_0, xv5_0, xp5_0, xf5_1, xv5_1, xp5_1, xf5_2, xv5_2, xp5_2, xf5_3, xv5_3, xp5_3, xf5_4, xv5_4, xp5_4, xf5_5, xv5_5, xp5_5, xf5_6, xv5_6, xp5_6, xf5_7, xv5_7, xp5_7, xf5_8, xv5_8, xp5_8, xf5_9, xv5_9, xp5_9, xf5_10, xv5_10, xp5_10, xf5_11, xv5_11, xp5_11, xf5_12, xv5_12, xp5_12, xo6, xa6, xf6_0, xv6_0, xp6_0, xf6_1, xv6_1, xp6_1, xf6_2, xv6_2, xp6_2, xo7, xa7, xf7_0, xv7_0, xp7_0, xf7_1, xv7_1, xp7_1, xf7_2, xv7_2, xp7_2, xf7_3, xv7_3, xp7_3, xf7_4, xv7_4, xf7_5, xv7_5, xo8, xa8, xf8_0, xv8_0, xp8_0, xf8_1, xv8_1, xo10, xa10, xf10_0, xv10_0, xp10_0, xf10_1, xv10_1, xp10_1, xf10_2, xv10_2, xp10_2, xf10_3, xv10_3, xf10_4, xv10_4, xo12, xa12, xf12_0, xv12_0, xf12_1, xv12_1, xp12_1, xf12_2, xv12_2, xp12_2, xf12_3, xv12_3, xp12_3, xf12_4, xv12_4, xo13, xa13, xf13_0, xv13_0, xf13_1, xv13_1, xp13_1, xo14, xa14, xf14_0, xv14_0, xf14_1, xv14_1, xp14_1, xf14_2, xv14_2, xp14_2, xf14_3, xv14_3, xp14_3, ya2_1, yw2_1, yv2_1, yp2_1, yn2_1, yl2_1, ya2_3, yw2_3, yv2_3, yp2_3, yn2_3, yl2_3, ya2_10, yw2_10, yv2_10, yp2_10, yn2_10, yl2_10, ya2_11, yw2_11, yv2_11, yp2_11, yn2_11, yl2_11, ya9, yw9, yv9, yp9, yn9, yl9, ya11, yw11, yv11, yp11, yn11, yl11, ya15, yw15, yv15, yp15, yn15, yl15, ya16, yw16, yv16, yp16, yn16, yl16, ok10, ok11, ok1i, xu_s, xu_n, ne_eq, Prod.mk.injEq, Nat.reduceEqDiff, false_and, and_false, not_false_eq_true, l1, l21, l23, l16, l30, l31, l32, l210, l211, l33, l34, ok, q, l5, x8, h2]
  · rw [if_neg h1]
    refine xop_s (c1 := c) ?_ w R
    rw [e55]
    simp only [s55_0, s55_1, s55_2, s55_5, s55_5n, s55_7, s55_7n, s55_9n, s55_9, s55_12, s55_12n, s55_14, s55_17, s55_18, s55_21, s55_22, s55_23, s55_24, s55_27, s55_30, s55_31, s55_32, s55_34, s55_37, s55_40, s55_41, s55_42, s55_42n, s55_44, s55_47, s55_48, s55_49, s55_50, s55_53, s55_54, s55_56, s55_58, s55_58n, s55_60, s55_63, s55_66, s55_66n, s55_68, s55_70, s55_73, s55_74, s55_75, s55_75n, s55_77, s55_77n, s55_79, s55_82, s55_85, s55_85n, s55_87, s55_88, s55_91, s55_93, s55_93n, s55_95, s55_98, s55_99, zl_n, zl_i, zl_r, zl_0, z10, z01, ez_bd_s, ez_bd_n, eq_self, true_or, or_true, if_true, if_false, zb_eq, zb_eq1, zb_em, zb_em2, ite_not, List.append_nil, List.cons_append, List.nil_append, reduceCtorEq, not_true_eq_false, not_false_eq_true, xo1, xa1, xf1_0, xv1_0, xp1_0, xf1_1, xv1_1, xf1_2, xv1_2, xp1_2, xf1_3, xv1_3, xf1_4, xv1_4, xf1_5, xv1_5, xp1_5, xf1_6, xv1_6, xp1_6, xf1_7, xv1_7, xf1_8, xv1_8, xf1_9, xv1_9, xf1_10, xv1_10, xf1_11, xv1_11, xf1_12, xv1_12, xf1_13, xv1_13, xf1_14, xv1_14, xp1_14, xo3, xa3, xf3_0, xv3_0, xp3_0, xf3_1, xv3_1, xf3_2, xv3_2, xp3_2, xo5, xa5, xf5_0, xv5_0, xp5_0, xf5_1, xv5_1, xp5_1, xf5_2, xv5_2, xp5_2, xf5_3, xv5_3, xp5_3, xf5_4, xv5_4, xp5_4, xf5_5, xv5_5, xp5_5, xf5_6, xv5_6, xp5_6, xf5_7, xv5_7, xp5_7, xf5_8, xv5_8, xp5_8, xf5_9, xv5_9, xp5_9, xf5_10, xv5_10, xp5_10, xf5_11, xv5_11, xp5_11, xf5_12, xv5_12, xp5_12, xo6, xa6, xf6_0, xv6_0, xp6_0, xf6_1, xv6_1, xp6_1, xf6_2, xv6_2, xp6_2, xo7, xa7, xf7_0, xv7_0, xp7_0, xf7_1, xv7_1, xp7_1, xf7_2, xv7_2, xp7_2, xf7_3, xv7_3, xp7_3, xf7_4, xv7_4, xf7_5, xv7_5, xo8, xa8, xf8_0, xv8_0, xp8_0, xf8_1, xv8_1, xo10, xa10, xf10_0, xv10_0, xp10_0, xf10_1, xv10_1, xp10_1, xf10_2, xv10_2, xp10_2, xf10_3, xv10_3, xf10_4, xv10_4, xo12, xa12, xf12_0, xv12_0, xf12_1, xv12_1, xp12_1, xf12_2, xv12_2, xp12_2, xf12_3, xv12_3, xp12_3, xf12_4, xv12_4, xo13, xa13, xf13_0, xv13_0, xf13_1, xv13_1, xp13_1, xo14, xa14, xf14_0, xv14_0, xf14_1, xv14_1, xp14_1, xf14_2, xv14_2, xp14_2, xf14_3, xv14_3, xp14_3, ya2_1, yw2_1, yv2_1, yp2_1, yn2_1, yl2_1, ya2_3, yw2_3, yv2_3, yp2_3, yn2_3, yl2_3, ya2_10, yw2_10, yv2_10, yp2_10, yn2_10, yl2_10, ya2_11, yw2_11, yv2_11, yp2_11, yn2_11, yl2_11, ya9, yw9, yv9, yp9, yn9, yl9, ya11, yw11, yv11, yp11, yn11, yl11, ya15, yw15, yv15, yp15, yn15, yl15, ya16, yw16, yv16, yp16, yn16, yl16, ok10, ok11, ok1i, xu_s, xu_n, ne_eq, Prod.mk.injEq, Nat.reduceEqDiff, false_and, and_false, not_false_eq_true, l1, l21, l23, l16, l30, l31, l32, l210, l211, l33, l34, ok, c_lotAt_n w R h1]
/-- a byte more on the class's tape -/
def cf1 (c : xR → Nat → Int32) (b : Int32) : xR → Nat → Int32 := xu (xu c (16, 0, 0) (c (1, 0, 0) 5).toNatClampNeg b.toInt8.toInt32) (1, 0, 0) 5 (c (1, 0, 0) 5 + 1)
def cfour (c : xR → Nat → Int32) (v : Int32) : xR → Nat → Int32 := cf1 (cf1 (cf1 (cf1 c (v >>> (24 &&& 31))) (v >>> (16 &&& 31))) (v >>> (8 &&& 31))) (v >>> (0 &&& 31))
theorem cf1_t {b : Int32} : cf1 c b (1, 0, 0) 5 = c (1, 0, 0) 5 + 1 := id rfl
theorem xw_f1 {b : Int32} (w : xw h0 P c) : xw h0 P (cf1 c b) := xw_1 (xw_16 w)
theorem c_put {t : Nat} {v : Int32} (w : xw h0 P c) (l1 : lv P (1, 0, 0)) (l16 : lv P (16, 0, 0)) (ht : c (1, 0, 0) 5 = nI t) (h4 : t + 4 ≤ 600) : ez_ev g 75 [.ref (P.2.2.1 (1, 0, 0)), .int v] (xh h0 P c) = some (none, xh h0 P (cfour c v)) := by
  have ok := w.1
  have t1 : ∀ b, cf1 c b (1, 0, 0) 5 = nI (t + 1) := fun b => by rw [cf1_t, ht, nI_1]
  have t2 : ∀ b b2, cf1 (cf1 c b) b2 (1, 0, 0) 5 = nI (t + 2) := fun b b2 => by rw [cf1_t, t1, nI_1]
  have t3 : ∀ b b2 b3, cf1 (cf1 (cf1 c b) b2) b3 (1, 0, 0) 5 = nI (t + 3) := fun b b2 b3 => by rw [cf1_t, t2, nI_1]
  have step : ∀ (y : xR → Nat → Int32) (u : Nat) (s : Int32), y (1, 0, 0) 5 = nI u → u < 600 → ¬ s < 0 → ez_rn g 75 3 [some (.ref (P.2.2.1 (1, 0, 0))), some (.int v), some (.int s)] [] (xh h0 P y) = ez_rn g 75 3 [some (.ref (P.2.2.1 (1, 0, 0))), some (.int v), some (.int (s + (-8)))] [] (xh h0 P (cf1 y (v >>> (s &&& 31)))) := by
    intro y u s hy hu hs
    have p1 : md_in (nI u) 600 = true := md_inN hu (by decide)
    have p2 : (nI u).toNatClampNeg = u := nI_clamp (by omega)
    have fo : (v >>> (s &&& 31)).toInt8.toInt32.toInt8.toInt32 = (v >>> (s &&& 31)).toInt8.toInt32 := by simp
    have e1 : cf1 y (v >>> (s &&& 31)) = xu (xu y (16, 0, 0) u (v >>> (s &&& 31)).toInt8.toInt32) (1, 0, 0) 5 (nI (u + 1)) := by
      unfold cf1
      rw [hy, p2, nI_1]
    rw [e1, s75_3]
    simp only [s75_0, s75_2, s75_4, s75_7, s75_8, s75_11, s75_14, s75_17, s75_18, s75_21, s75_22, s75_25, s75_26, s75_27, s75_28, s75_29, s75_30, s75_31, s75_32, s75_35, s75_36, s75_37, s75_40, s75_43, s75_46, zl_n, zl_i, zl_r, zl_0, z10, z01, ez_bd_s, ez_bd_n, eq_self, true_or, or_true, if_true, if_false, zb_eq, zb_eq1, zb_em, zb_em2, ite_not, List.append_nil, List.cons_append, List.nil_append, reduceCtorEq, not_true_eq_false, not_false_eq_true, xo1, xa1, xf1_0, xv1_0, xp1_0, xf1_1, xv1_1, xf1_2, xv1_2, xp1_2, xf1_3, xv1_3, xf1_4, xv1_4, xf1_5, xv1_5, xp1_5, xf1_6, xv1_6, xp1_6, xf1_7, xv1_7, xf1_8, xv1_8, xf1_9, xv1_9, xf1_10, xv1_10, xf1_11, xv1_11, xf1_12, xv1_12, xf1_13, xv1_13, xf1_14, xv1_14, xp1_14, xo3, xa3, xf3_0, xv3_0, xp3_0, xf3_1, xv3_1, xf3_2, xv3_2, xp3_2, xo5, xa5, xf5_0, xv5_0, xp5_0, xf5_1, xv5_1, xp5_1, xf5_2, xv5_2, xp5_2, xf5_3, xv5_3, xp5_3, xf5_4, xv5_4, xp5_4, xf5_5, xv5_5, xp5_5, xf5_6, xv5_6, xp5_6, xf5_7, xv5_7, xp5_7, xf5_8, xv5_8, xp5_8, xf5_9, xv5_9, xp5_9, xf5_10, xv5_10, xp5_10, xf5_11, xv5_11, xp5_11, xf5_12, xv5_12, xp5_12, xo6, xa6, xf6_0, xv6_0, xp6_0, xf6_1, xv6_1, xp6_1, xf6_2, xv6_2, xp6_2, xo7, xa7, xf7_0, xv7_0, xp7_0, xf7_1, xv7_1, xp7_1, xf7_2, xv7_2, xp7_2, xf7_3, xv7_3, xp7_3, xf7_4, xv7_4, xf7_5, xv7_5, xo8, xa8, xf8_0, xv8_0, xp8_0, xf8_1, xv8_1, xo10, xa10, xf10_0, xv10_0, xp10_0, xf10_1, xv10_1, xp10_1, xf10_2, xv10_2, xp10_2, xf10_3, xv10_3, xf10_4, xv10_4, xo12, xa12, xf12_0, xv12_0, xf12_1, xv12_1, xp12_1, xf12_2, xv12_2, xp12_2, xf12_3, xv12_3, xp12_3, xf12_4, xv12_4, xo13, xa13, xf13_0, xv13_0, xf13_1, xv13_1, xp13_1, xo14, xa14, xf14_0, xv14_0, xf14_1, xv14_1, xp14_1, xf14_2, xv14_2, xp14_2, xf14_3, xv14_3, xp14_3, ya2_1, yw2_1, yv2_1, yp2_1, yn2_1, yl2_1, ya2_3, yw2_3, yv2_3, yp2_3, yn2_3, yl2_3, ya2_10, yw2_10, yv2_10, yp2_10, yn2_10, yl2_10, ya2_11, yw2_11, yv2_11, yp2_11, yn2_11, yl2_11, ya9, yw9, yv9, yp9, yn9, yl9, ya11, yw11, yv11, yp11, yn11, yl11, ya15, yw15, yv15, yp15, yn15, yl15, ya16, yw16, yv16, yp16, yn16, yl16, ok10, ok11, ok1i, xu_s, xu_n, ne_eq, Prod.mk.injEq, Nat.reduceEqDiff, false_and, and_false, not_false_eq_true, l1, l16, ok, hs, hy, show (600 ≤ nI u) = False from eq_false (nI_ge (b := 600) hu (by decide)), p1, p2, fo, nI_1]
  rw [e75]
  simp only [s75_0, s75_2, s75_4, s75_7, s75_8, s75_11, s75_14, s75_17, s75_18, s75_21, s75_22, s75_25, s75_26, s75_27, s75_28, s75_29, s75_30, s75_31, s75_32, s75_35, s75_36, s75_37, s75_40, s75_43, s75_46, zl_n, zl_i, zl_r, zl_0, z10, z01, ez_bd_s, ez_bd_n, eq_self, true_or, or_true, if_true, if_false, zb_eq, zb_eq1, zb_em, zb_em2, ite_not, List.append_nil, List.cons_append, List.nil_append, reduceCtorEq, not_true_eq_false, not_false_eq_true]
  rw [step c t 24 ht (by omega) (by decide), j24, step _ (t + 1) 16 (t1 _) (by omega) (by decide), j16, step _ (t + 2) 8 (t2 _ _) (by omega) (by decide), j8, step _ (t + 3) 0 (t3 _ _ _) (by omega) (by decide), j0, s75_3]
  simp only [s75_0, s75_2, s75_4, s75_7, s75_8, s75_11, s75_14, s75_17, s75_18, s75_21, s75_22, s75_25, s75_26, s75_27, s75_28, s75_29, s75_30, s75_31, s75_32, s75_35, s75_36, s75_37, s75_40, s75_43, s75_46, zl_n, zl_i, zl_r, zl_0, z10, z01, ez_bd_s, ez_bd_n, eq_self, true_or, or_true, if_true, if_false, zb_eq, zb_eq1, zb_em, zb_em2, ite_not, List.append_nil, List.cons_append, List.nil_append, reduceCtorEq, not_true_eq_false, not_false_eq_true, im8]
  rfl
theorem RR_f1 {b : Int32} {t : Nat} (R : RR P c z) (ht : z.1 36 = nI t) (h : t < 600) : RR P (cf1 c b) (pf1 z b) := by
  obtain ⟨⟨a1, a2, a3, a4, a5⟩, ⟨b1, b2, b3⟩, ⟨d1, d2, d3⟩, m0, m1, m7, m36⟩ := R.2.1; have r1 := R.2.2.1; have r2 := R.2.2.2.1; have r5 := R.2.2.2.2.1; have r3 := R.2.2.2.2.2.1; have r4 := R.2.2.2.2.2.2.1; have rv := R.2.2.2.2.2.2.2; have r0 := R.2.1
  unfold pf1
  refine ⟨R.1, ⟨⟨a1, a2, ?_, a4, a5⟩, ⟨b1, b2, ?_⟩, ⟨d1, d2, d3⟩, m0, m1, m7, ?_⟩, R1_cg r1 rfl rfl rfl (fun _ => rfl) rfl rfl rfl rfl, R2_cg r2 rfl rfl rfl (fun _ _ _ => rfl) (Nat.le_refl _) rfl (fun t h1 h2 => by (try simp only [md_I2]); (repeat rw [md_A2n (by omega)])), R5_cg r5 (fun _ _ _ => rfl) rfl rfl rfl (fun t h1 h2 => by (try simp only [md_I2]); (repeat rw [md_A2n (by omega)])), R3_cg r3 (fun _ _ _ => rfl) (fun _ _ _ => ⟨rfl, rfl⟩) (fun _ _ => rfl) (fun _ _ => rfl) (fun _ _ => rfl) (fun _ _ => rfl) rfl rfl rfl (fun t h1 h2 => by (try simp only [md_I2]); (repeat rw [md_A2n (by omega)])), R4_cg r4 (fun _ _ _ => rfl) (fun _ _ _ => ⟨rfl, rfl⟩) (fun _ _ => rfl) (fun _ _ => rfl) (fun _ _ => rfl) rfl (fun t h1 h2 => by (try simp only [md_I2]); (repeat rw [md_A2n (by omega)])), RV_cg rv rfl rfl rfl rfl rfl rfl rfl⟩
  · show c (1, 0, 0) 5 + 1 = z.1 36 + 1
    rw [a3]
  · show upd (c (16, 0, 0)) (c (1, 0, 0) 5).toNatClampNeg _ = upd (z.2 34) (z.1 36).toNatClampNeg _
    rw [b3, a3]
  · refine ⟨?_, fun i => ?_⟩
    · show md_in (z.1 36 + 1) 601 = true
      rw [ht, nI_1]
      exact md_inN (by omega) (by decide)
    · show (upd (z.2 34) (z.1 36).toNatClampNeg b.toInt8.toInt32 i).toInt8.toInt32 = upd (z.2 34) (z.1 36).toNatClampNeg b.toInt8.toInt32 i
      unfold upd
      split
      · simp
      · exact m36.2 i
theorem RR_four {v : Int32} {t : Nat} (R : RR P c z) (ht : z.1 36 = nI t) (h : t + 4 ≤ 600) : RR P (cfour c v) (pfour z v) := by
  have t1 : ∀ b, (pf1 z b).1 36 = nI (t + 1) := fun b => by rw [pf1_t, ht, nI_1]
  have t2 : ∀ b b2, (pf1 (pf1 z b) b2).1 36 = nI (t + 2) := fun b b2 => by rw [pf1_t, t1, nI_1]
  have t3 : ∀ b b2 b3, (pf1 (pf1 (pf1 z b) b2) b3).1 36 = nI (t + 3) := fun b b2 b3 => by rw [pf1_t, t2, nI_1]
  exact RR_f1 (RR_f1 (RR_f1 (RR_f1 R ht (by omega)) (t1 _) (by omega)) (t2 _ _) (by omega)) (t3 _ _ _) (by omega)
theorem xw_four {v : Int32} (w : xw h0 P c) : xw h0 P (cfour c v) := xw_f1 (xw_f1 (xw_f1 (xw_f1 w)))
theorem o_feed {a b d e f : Int32} (w : xw h0 P c) (R : RR P c z) : xop g 44 [.int a, .int b, .int d, .int e, .int f] h0 P c (pm_feed z a b d e f) := by
  obtain ⟨l1, l21, l23, l16, l30, l31, l32, l210, l211, l33, l34⟩ := w_lvs w R.1; have ok := w.1
  have m36 := R.2.1.2.2.2.2.2.2.1
  have a3 := R.2.1.1.2.2.1
  obtain ⟨et, ht⟩ := md_inE m36
  generalize (z.1 36).toNatClampNeg = t at et ht
  unfold pm_feed
  by_cases h1 : t ≤ 580
  · have h2 : z.1 36 + 20 ≤ 600 := by
      rw [et, show (20 : Int32) = nI 20 from rfl, nI_add]
      exact nI_le (b := 600) (by omega) (by decide)
    rw [if_pos h2]
    have u1 := pfour_t (v := a) et
    have u2 := pfour_t (v := b) u1
    have u3 := pfour_t (v := d) u2
    have u4 := pfour_t (v := e) u3
    have u5 := pfour_t (v := f) u4
    have R1 := RR_four (v := a) R et (by omega)
    have R2 := RR_four (v := b) R1 u1 (by omega)
    have R3 := RR_four (v := d) R2 u2 (by omega)
    have R4 := RR_four (v := e) R3 u3 (by omega)
    have R5 := RR_four (v := f) R4 u4 (by omega)
    have q1 := c_put (g := g) (v := a) w l1 l16 (R.2.1.1.2.2.1.trans et) (by omega)
    have q2 := c_put (g := g) (v := b) (xw_four w) l1 l16 (R1.2.1.1.2.2.1.trans u1) (by omega)
    have q3 := c_put (g := g) (v := d) (xw_four (xw_four w)) l1 l16 (R2.2.1.1.2.2.1.trans u2) (by omega)
    have q4 := c_put (g := g) (v := e) (xw_four (xw_four (xw_four w))) l1 l16 (R3.2.1.1.2.2.1.trans u3) (by omega)
    have q5 := c_put (g := g) (v := f) (xw_four (xw_four (xw_four (xw_four w)))) l1 l16 (R4.2.1.1.2.2.1.trans u4) (by omega)
    refine xop_s (c1 := cfour (cfour (cfour (cfour (cfour c a) b) d) e) f) ?_ (xw_four (xw_four (xw_four (xw_four (xw_four w))))) R5
    rw [e44]
    simp only [s44_0, s44_1, s44_4, s44_7, s44_10, s44_11, s44_12, s44_13, s44_14, s44_17, s44_18, s44_19, s44_22, s44_23, s44_24, s44_27, s44_28, s44_30, s44_33, s44_34, s44_36, s44_39, s44_40, s44_43, zl_n, zl_i, zl_r, zl_0, z10, z01, ez_bd_s, ez_bd_n, eq_self, true_or, or_true, if_true, if_false, zb_eq, zb_eq1, zb_em, zb_em2, ite_not, List.append_nil, List.cons_append, List.nil_append, reduceCtorEq, not_true_eq_false, not_false_eq_true, xo1, xa1, xf1_0, xv1_0, xp1_0, xf1_1, xv1_1, xf1_2, xv1_2, xp1_2, xf1_3, xv1_3, xf1_4, xv1_4, xf1_5, xv1_5, xp1_5, xf1_6, xv1_6, xp1_6, xf1_7, xv1_7, xf1_8, xv1_8, xf1_9, xv1_9, xf1_10, xv1_10, xf1_11, xv1_11, xf1_12, xv1_12, xf1_13, xv1_13, xf1_14, xv1_14, xp1_14, xo3, xa3, xf3_0, xv3_0, xp3_0, xf3_1, xv3_1, xf3_2, xv3_2, xp3_2, xo5, xa5, xf5_0, xv5_0, xp5_0, xf5_1, xv5_1, xp5_1, xf5_2, xv5_2, xp5_2, xf5_3, xv5_3, xp5_3, xf5_4, xv5_4, xp5_4, xf5_5, xv5_5, xp5_5, xf5_6, xv5_6, xp5_6, xf5_7, xv5_7, xp5_7, xf5_8, xv5_8, xp5_8, xf5_9, xv5_9, xp5_9, xf5_10, xv5_10, xp5_10, xf5_11, xv5_11, xp5_11, xf5_12, xv5_12, xp5_12, xo6, xa6, xf6_0, xv6_0, xp6_0, xf6_1, xv6_1, xp6_1, xf6_2, xv6_2, xp6_2, xo7, xa7, xf7_0, xv7_0, xp7_0, xf7_1, xv7_1, xp7_1, xf7_2, xv7_2, xp7_2, xf7_3, xv7_3, xp7_3, xf7_4, xv7_4, xf7_5, xv7_5, xo8, xa8, xf8_0, xv8_0, xp8_0, xf8_1, xv8_1, xo10, xa10, xf10_0, xv10_0, xp10_0, xf10_1, xv10_1, xp10_1, xf10_2, xv10_2, xp10_2, xf10_3, xv10_3, xf10_4, xv10_4, xo12, xa12, xf12_0, xv12_0, xf12_1, xv12_1, xp12_1, xf12_2, xv12_2, xp12_2, xf12_3, xv12_3, xp12_3, xf12_4, xv12_4, xo13, xa13, xf13_0, xv13_0, xf13_1, xv13_1, xp13_1, xo14, xa14, xf14_0, xv14_0, xf14_1, xv14_1, xp14_1, xf14_2, xv14_2, xp14_2, xf14_3, xv14_3, xp14_3, ya2_1, yw2_1, yv2_1, yp2_1, yn2_1, yl2_1, ya2_3, yw2_3, yv2_3, yp2_3, yn2_3, yl2_3, ya2_10, yw2_10, yv2_10, yp2_10, yn2_10, yl2_10, ya2_11, yw2_11, yv2_11, yp2_11, yn2_11, yl2_11, ya9, yw9, yv9, yp9, yn9, yl9, ya11, yw11, yv11, yp11, yn11, yl11, ya15, yw15, yv15, yp15, yn15, yl15, ya16, yw16, yv16, yp16, yn16, yl16, ok10, ok11, ok1i, xu_s, xu_n, ne_eq, Prod.mk.injEq, Nat.reduceEqDiff, false_and, and_false, not_false_eq_true, l1, l21, l23, l16, l30, l31, l32, l210, l211, l33, l34, ok, a3, et, show (nI t ≤ 580) = True from eq_true (nI_le (b := 580) h1 (by decide)), q1, q2, q3, q4, q5, R5.2.1.1.2.2.1]
  · have h2 : ¬ z.1 36 + 20 ≤ 600 := by
      rw [et, show (20 : Int32) = nI 20 from rfl, nI_add]
      exact nI_ge (a := 600) (by omega) (by omega)
    rw [if_neg h2]
    refine xop_s (c1 := c) ?_ w R
    rw [e44]
    simp only [s44_0, s44_1, s44_4, s44_7, s44_10, s44_11, s44_12, s44_13, s44_14, s44_17, s44_18, s44_19, s44_22, s44_23, s44_24, s44_27, s44_28, s44_30, s44_33, s44_34, s44_36, s44_39, s44_40, s44_43, zl_n, zl_i, zl_r, zl_0, z10, z01, ez_bd_s, ez_bd_n, eq_self, true_or, or_true, if_true, if_false, zb_eq, zb_eq1, zb_em, zb_em2, ite_not, List.append_nil, List.cons_append, List.nil_append, reduceCtorEq, not_true_eq_false, not_false_eq_true, xo1, xa1, xf1_0, xv1_0, xp1_0, xf1_1, xv1_1, xf1_2, xv1_2, xp1_2, xf1_3, xv1_3, xf1_4, xv1_4, xf1_5, xv1_5, xp1_5, xf1_6, xv1_6, xp1_6, xf1_7, xv1_7, xf1_8, xv1_8, xf1_9, xv1_9, xf1_10, xv1_10, xf1_11, xv1_11, xf1_12, xv1_12, xf1_13, xv1_13, xf1_14, xv1_14, xp1_14, xo3, xa3, xf3_0, xv3_0, xp3_0, xf3_1, xv3_1, xf3_2, xv3_2, xp3_2, xo5, xa5, xf5_0, xv5_0, xp5_0, xf5_1, xv5_1, xp5_1, xf5_2, xv5_2, xp5_2, xf5_3, xv5_3, xp5_3, xf5_4, xv5_4, xp5_4, xf5_5, xv5_5, xp5_5, xf5_6, xv5_6, xp5_6, xf5_7, xv5_7, xp5_7, xf5_8, xv5_8, xp5_8, xf5_9, xv5_9, xp5_9, xf5_10, xv5_10, xp5_10, xf5_11, xv5_11, xp5_11, xf5_12, xv5_12, xp5_12, xo6, xa6, xf6_0, xv6_0, xp6_0, xf6_1, xv6_1, xp6_1, xf6_2, xv6_2, xp6_2, xo7, xa7, xf7_0, xv7_0, xp7_0, xf7_1, xv7_1, xp7_1, xf7_2, xv7_2, xp7_2, xf7_3, xv7_3, xp7_3, xf7_4, xv7_4, xf7_5, xv7_5, xo8, xa8, xf8_0, xv8_0, xp8_0, xf8_1, xv8_1, xo10, xa10, xf10_0, xv10_0, xp10_0, xf10_1, xv10_1, xp10_1, xf10_2, xv10_2, xp10_2, xf10_3, xv10_3, xf10_4, xv10_4, xo12, xa12, xf12_0, xv12_0, xf12_1, xv12_1, xp12_1, xf12_2, xv12_2, xp12_2, xf12_3, xv12_3, xp12_3, xf12_4, xv12_4, xo13, xa13, xf13_0, xv13_0, xf13_1, xv13_1, xp13_1, xo14, xa14, xf14_0, xv14_0, xf14_1, xv14_1, xp14_1, xf14_2, xv14_2, xp14_2, xf14_3, xv14_3, xp14_3, ya2_1, yw2_1, yv2_1, yp2_1, yn2_1, yl2_1, ya2_3, yw2_3, yv2_3, yp2_3, yn2_3, yl2_3, ya2_10, yw2_10, yv2_10, yp2_10, yn2_10, yl2_10, ya2_11, yw2_11, yv2_11, yp2_11, yn2_11, yl2_11, ya9, yw9, yv9, yp9, yn9, yl9, ya11, yw11, yv11, yp11, yn11, yl11, ya15, yw15, yv15, yp15, yn15, yl15, ya16, yw16, yv16, yp16, yn16, yl16, ok10, ok11, ok1i, xu_s, xu_n, ne_eq, Prod.mk.injEq, Nat.reduceEqDiff, false_and, and_false, not_false_eq_true, l1, l21, l23, l16, l30, l31, l32, l210, l211, l33, l34, ok, a3, et, show (nI t ≤ 580) = False from eq_false (nI_ge (a := 580) (by omega) (by omega))]
end O5
