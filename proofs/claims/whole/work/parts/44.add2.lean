section AD3
variable {g : ez_G} {h h0 : ez_H} {P : xP} {c : xR → Nat → Int32} {L i n v : Nat}
theorem q_lgrow (w : xw h0 P c) (hg : g.1 = P.1) (hl : lv P (3, L, i)) (hs : lsz P c L i n) (hn : n < 250) (hc : P.2.2.2 (3, L, i) = n) : ∃ h1 P1, ez_ev g 150 [.ref (P.2.2.1 (3, L, i))] (xh h0 P c) = some (some (.ref (P1.2.2.1 (4, L, i))), xh h1 P1 c) ∧ xw h1 P1 c ∧ xgr h0 P h1 P1 L i ∧ lsz P1 c L i n ∧ n < P1.2.2.2 (3, L, i) ∧ lv P1 (4, L, i) ∧ lv P1 (3, L, i) := by
  have ok := w.1
  obtain ⟨s1, s2, s3, s4⟩ := hs
  have hn3 : P.2.2.1 (3, L, i) < h0.2.1 := by
    refine Nat.lt_of_not_le fun h => ?_
    have h5 := w.2.1 _ h
    rw [show P.2.1 (P.2.2.1 (3, L, i)) = (3, L, i) from hl] at h5
    exact absurd h5 (show ¬ 3 = 0 by decide)
  have hnw : ∀ e k, (ez_nw (xh h0 P c) e k).1 (P.2.2.1 (3, L, i)) = (xh h0 P c).1 (P.2.2.1 (3, L, i)) := fun e k => if_neg (by show ¬ P.2.2.1 (3, L, i) = h0.2.1; omega)
  have hu : ez_uF ((xh h0 P c).1 (P.2.2.1 (3, L, i))) 1 (.ref h0.2.1) = .inr (0, [.int (c (3, L, i) 0), .ref h0.2.1, .int (c (3, L, i) 2)]) := by
    rw [xh_at hl (show 3 ≠ 0 by decide)]
    rfl
  have main : ∀ k, k ≠ 0 → n < k → k ≤ 400 → (∀ r', xrd (4, L, i) r' (c (4, L, i)) → lv P r') → ez_ev g 149 [.ref (P.2.2.1 (3, L, i)), .int (nI (n + 1))] (xh h0 P c) = some (some (.ref h0.2.1), ez_hs (ez_nw (xh h0 P c) (.inl (4, k, .inr (.inr (.inr (.inr (xrf P L i (c (4, L, i)))))))) k) (P.2.2.1 (3, L, i)) (.inr (0, [.int (c (3, L, i) 0), .ref h0.2.1, .int (c (3, L, i) 2)]))) → ∃ h1 P1, ez_ev g 150 [.ref (P.2.2.1 (3, L, i))] (xh h0 P c) = some (some (.ref (P1.2.2.1 (4, L, i))), xh h1 P1 c) ∧ xw h1 P1 c ∧ xgr h0 P h1 P1 L i ∧ lsz P1 c L i n ∧ n < P1.2.2.2 (3, L, i) ∧ lv P1 (4, L, i) ∧ lv P1 (3, L, i) := by
    intro k hk hnk hk4 hel he
    obtain ⟨u1, u2, u3, u4⟩ := xw_gr (k := k) w hk hl hel
    rw [xh_gr ok w.2.1 hk hl] at he
    have ec : (pgr P L i h0.2.1 k).2.2.2 (3, L, i) = k := if_pos rfl
    refine ⟨hgr h0 P c L i k, pgr P L i h0.2.1 k, ?_, u1, u4 hk4, ⟨s1, by rw [ec]; omega, by rw [ec]; omega, s4⟩, by rw [ec]; exact hnk, u3, (u2 (3, L, i) (show 3 ≠ 0 by decide) (by intro e; cases e)).mpr hl⟩
    rw [e150]
    simp only [s150_0, s150_1, s150_2, s150_5, s150_6, s150_7, s150_10, zl_n, zl_i, zl_r, zl_0, z10, z01, ez_bd_s, ez_bd_n, eq_self, true_or, or_true, if_true, if_false, zb_eq, zb_eq1, zb_em, zb_em2, ite_not, List.append_nil, List.cons_append, List.nil_append, reduceCtorEq, not_true_eq_false, not_false_eq_true, xo1, xa1, xf1_0, xv1_0, xp1_0, xf1_1, xv1_1, xf1_2, xv1_2, xp1_2, xf1_3, xv1_3, xf1_4, xv1_4, xf1_5, xv1_5, xp1_5, xf1_6, xv1_6, xp1_6, xf1_7, xv1_7, xf1_8, xv1_8, xf1_9, xv1_9, xf1_10, xv1_10, xf1_11, xv1_11, xf1_12, xv1_12, xf1_13, xv1_13, xf1_14, xv1_14, xp1_14, xo3, xa3, xf3_0, xv3_0, xp3_0, xf3_1, xv3_1, xf3_2, xv3_2, xp3_2, xo5, xa5, xf5_0, xv5_0, xp5_0, xf5_1, xv5_1, xp5_1, xf5_2, xv5_2, xp5_2, xf5_3, xv5_3, xp5_3, xf5_4, xv5_4, xp5_4, xf5_5, xv5_5, xp5_5, xf5_6, xv5_6, xp5_6, xf5_7, xv5_7, xp5_7, xf5_8, xv5_8, xp5_8, xf5_9, xv5_9, xp5_9, xf5_10, xv5_10, xp5_10, xf5_11, xv5_11, xp5_11, xf5_12, xv5_12, xp5_12, xo6, xa6, xf6_0, xv6_0, xp6_0, xf6_1, xv6_1, xp6_1, xf6_2, xv6_2, xp6_2, xo7, xa7, xf7_0, xv7_0, xp7_0, xf7_1, xv7_1, xp7_1, xf7_2, xv7_2, xp7_2, xf7_3, xv7_3, xp7_3, xf7_4, xv7_4, xf7_5, xv7_5, xo8, xa8, xf8_0, xv8_0, xp8_0, xf8_1, xv8_1, xo10, xa10, xf10_0, xv10_0, xp10_0, xf10_1, xv10_1, xp10_1, xf10_2, xv10_2, xp10_2, xf10_3, xv10_3, xf10_4, xv10_4, xo12, xa12, xf12_0, xv12_0, xf12_1, xv12_1, xp12_1, xf12_2, xv12_2, xp12_2, xf12_3, xv12_3, xp12_3, xf12_4, xv12_4, xo13, xa13, xf13_0, xv13_0, xf13_1, xv13_1, xp13_1, xo14, xa14, xf14_0, xv14_0, xf14_1, xv14_1, xp14_1, xf14_2, xv14_2, xp14_2, xf14_3, xv14_3, xp14_3, ya2_1, yw2_1, yv2_1, yp2_1, yn2_1, yl2_1, ya2_3, yw2_3, yv2_3, yp2_3, yn2_3, yl2_3, ya2_10, yw2_10, yv2_10, yp2_10, yn2_10, yl2_10, ya2_11, yw2_11, yv2_11, yp2_11, yn2_11, yl2_11, ya9, yw9, yv9, yp9, yn9, yl9, ya11, yw11, yv11, yp11, yn11, yl11, ya15, yw15, yv15, yp15, yn15, yl15, ya16, yw16, yv16, yp16, yn16, yl16, ok10, ok11, ok1i, xu_s, xu_n, ne_eq, Prod.mk.injEq, Nat.reduceEqDiff, false_and, and_false, not_false_eq_true, hl, s1, nI_1, he]
    rw [show (pgr P L i h0.2.1 k).2.2.1 (4, L, i) = h0.2.1 from if_pos rfl]
  by_cases h0n : n = 0
  · subst h0n
    have hx : xrf P L i (c (4, L, i)) = fun _ => none := by
      funext q
      unfold xrf
      rw [if_pos (s4 q (Nat.zero_le _))]
    have hN : ez_isN ((xh h0 P c).1 P.1) = true ∧ ez_vN ((xh h0 P c).1 P.1) = 0 := by
      rw [xh_o w.2.2.2.2.1, w.2.2.2.1]
      exact ⟨rfl, rfl⟩
    refine main 10 (by decide) (by decide) (by decide) ?_ ?_
    · intro r' hr
      obtain ⟨q, h1, -⟩ := hr
      exact absurd (s4 q (Nat.zero_le _)) h1
    · rw [hx, e149]
      simp only [s149_0, s149_1, s149_4, s149_5, s149_6, s149_7, s149_10, s149_11, s149_14, s149_17, s149_20, s149_21, s149_22, s149_23, s149_24, s149_25, s149_26, s149_27, s149_30, s149_31, s149_32, s149_33, s149_36, s149_40, s149_41, s149_44, s149_45, s149_46, s149_48, s149_49, s149_52, s149_55, s149_56, s149_59, zl_n, zl_i, zl_r, zl_0, z10, z01, ez_bd_s, ez_bd_n, eq_self, true_or, or_true, if_true, if_false, zb_eq, zb_eq1, zb_em, zb_em2, ite_not, List.append_nil, List.cons_append, List.nil_append, reduceCtorEq, not_true_eq_false, not_false_eq_true, xo1, xa1, xf1_0, xv1_0, xp1_0, xf1_1, xv1_1, xf1_2, xv1_2, xp1_2, xf1_3, xv1_3, xf1_4, xv1_4, xf1_5, xv1_5, xp1_5, xf1_6, xv1_6, xp1_6, xf1_7, xv1_7, xf1_8, xv1_8, xf1_9, xv1_9, xf1_10, xv1_10, xf1_11, xv1_11, xf1_12, xv1_12, xf1_13, xv1_13, xf1_14, xv1_14, xp1_14, xo3, xa3, xf3_0, xv3_0, xp3_0, xf3_1, xv3_1, xf3_2, xv3_2, xp3_2, xo5, xa5, xf5_0, xv5_0, xp5_0, xf5_1, xv5_1, xp5_1, xf5_2, xv5_2, xp5_2, xf5_3, xv5_3, xp5_3, xf5_4, xv5_4, xp5_4, xf5_5, xv5_5, xp5_5, xf5_6, xv5_6, xp5_6, xf5_7, xv5_7, xp5_7, xf5_8, xv5_8, xp5_8, xf5_9, xv5_9, xp5_9, xf5_10, xv5_10, xp5_10, xf5_11, xv5_11, xp5_11, xf5_12, xv5_12, xp5_12, xo6, xa6, xf6_0, xv6_0, xp6_0, xf6_1, xv6_1, xp6_1, xf6_2, xv6_2, xp6_2, xo7, xa7, xf7_0, xv7_0, xp7_0, xf7_1, xv7_1, xp7_1, xf7_2, xv7_2, xp7_2, xf7_3, xv7_3, xp7_3, xf7_4, xv7_4, xf7_5, xv7_5, xo8, xa8, xf8_0, xv8_0, xp8_0, xf8_1, xv8_1, xo10, xa10, xf10_0, xv10_0, xp10_0, xf10_1, xv10_1, xp10_1, xf10_2, xv10_2, xp10_2, xf10_3, xv10_3, xf10_4, xv10_4, xo12, xa12, xf12_0, xv12_0, xf12_1, xv12_1, xp12_1, xf12_2, xv12_2, xp12_2, xf12_3, xv12_3, xp12_3, xf12_4, xv12_4, xo13, xa13, xf13_0, xv13_0, xf13_1, xv13_1, xp13_1, xo14, xa14, xf14_0, xv14_0, xf14_1, xv14_1, xp14_1, xf14_2, xv14_2, xp14_2, xf14_3, xv14_3, xp14_3, ya2_1, yw2_1, yv2_1, yp2_1, yn2_1, yl2_1, ya2_3, yw2_3, yv2_3, yp2_3, yn2_3, yl2_3, ya2_10, yw2_10, yv2_10, yp2_10, yn2_10, yl2_10, ya2_11, yw2_11, yv2_11, yp2_11, yn2_11, yl2_11, ya9, yw9, yv9, yp9, yn9, yl9, ya11, yw11, yv11, yp11, yn11, yl11, ya15, yw15, yv15, yp15, yn15, yl15, ya16, yw16, yv16, yp16, yn16, yl16, ok10, ok11, ok1i, xu_s, xu_n, ne_eq, Prod.mk.injEq, Nat.reduceEqDiff, false_and, and_false, not_false_eq_true, hl, hc, hN.1, hN.2, ofN, nI_0, hg, show ((0 : Int32) < 0) = False by decide, show (10 < nI (0 + 1)) = False by decide +kernel, show (10 < nI 1) = False by decide +kernel, show ((10 : Int32) < 0) = False by decide, show (10 : Int32).toNatClampNeg = 10 by decide +kernel, show ((10 : Nat) ≤ 1000000) = True by decide, hnw, xh_2, hu]
  · have l4 : lv P (4, L, i) := xw_4 w hl (by omega)
    have hN := n4 (h0 := h0) (c := c) l4
    rw [hc] at hN
    have hel : ∀ r', xrd (4, L, i) r' (c (4, L, i)) → lv P r' := fun r' hr => xw_cl w l4 hr (show 4 ≠ 0 by decide) (show 4 ≠ 3 by decide)
    have hk := newcap n (by omega) (by omega)
    have hmax : max 1 (n / 2) ≤ n := by omega
    have hmax1 : 1 ≤ max 1 (n / 2) := by omega
    refine main (n + max 1 (n / 2)) (by omega) (by omega) (by omega) hel ?_
    have c1 : (nI (n + max 1 (n / 2))).toNatClampNeg = n + max 1 (n / 2) := nI_clamp (by omega)
    have hl2 := q_newLen (g := g) (h := xh h0 P c) (a := nI n) (b := nI (n + 1) - nI n) (d := nI n >>> (1 &&& 31)) (by rw [hk]; exact nI_nle (by omega) (by omega)) (by rw [hk]; exact nI_nlt (a := 2147483639) (b := n + max 1 (n / 2)) (by omega) (by omega))
    rw [hk] at hl2
    have hks : ez_ks (xh h0 P c) (xrf P L i (c (4, L, i))) n := by
      intro q hq y hy
      unfold xrf at hy
      by_cases h1 : c (4, L, i) q = -1
      · rw [if_pos h1] at hy; cases hy
      · rw [if_neg h1] at hy
        cases hy
        exact xel_any (hel _ ⟨q, h1, rfl⟩)
    have h4' := xh4 (h0 := h0) (c := c) l4
    rw [hc] at h4'
    have q37 := fun (ls : ez_L) (r0 : Nat) => s149_37 (g := g) (r0 := r0) (ls := ls) (n := nI (n + max 1 (n / 2))) h4' (nI_pos (by omega)) (by rw [c1]; omega) (by rw [c1]; omega) hks
    have hcp : va_cpy (xrf P L i (c (4, L, i))) (fun _ => none) 0 0 n = xrf P L i (c (4, L, i)) := by
      funext q
      unfold va_cpy
      by_cases hq : 0 ≤ q ∧ q < 0 + n
      · rw [if_pos hq]
        congr 1
        omega
      · rw [if_neg hq]
        unfold xrf
        rw [if_pos (s4 q (by omega))]
    rw [hcp, c1] at q37
    have h01 : (0 < nI n) = True := eq_true (by have := nI_lt (a := 0) (b := n) (by omega) (by omega); rw [nI_0] at this; exact this)
    rw [e149]
    simp only [s149_0, s149_1, s149_4, s149_5, s149_6, s149_7, s149_10, s149_11, s149_14, s149_17, s149_20, s149_21, s149_22, s149_23, s149_24, s149_25, s149_26, s149_27, s149_30, s149_31, s149_32, s149_33, s149_36, s149_40, s149_41, s149_44, s149_45, s149_46, s149_48, s149_49, s149_52, s149_55, s149_56, s149_59, zl_n, zl_i, zl_r, zl_0, z10, z01, ez_bd_s, ez_bd_n, eq_self, true_or, or_true, if_true, if_false, zb_eq, zb_eq1, zb_em, zb_em2, ite_not, List.append_nil, List.cons_append, List.nil_append, reduceCtorEq, not_true_eq_false, not_false_eq_true, xo1, xa1, xf1_0, xv1_0, xp1_0, xf1_1, xv1_1, xf1_2, xv1_2, xp1_2, xf1_3, xv1_3, xf1_4, xv1_4, xf1_5, xv1_5, xp1_5, xf1_6, xv1_6, xp1_6, xf1_7, xv1_7, xf1_8, xv1_8, xf1_9, xv1_9, xf1_10, xv1_10, xf1_11, xv1_11, xf1_12, xv1_12, xf1_13, xv1_13, xf1_14, xv1_14, xp1_14, xo3, xa3, xf3_0, xv3_0, xp3_0, xf3_1, xv3_1, xf3_2, xv3_2, xp3_2, xo5, xa5, xf5_0, xv5_0, xp5_0, xf5_1, xv5_1, xp5_1, xf5_2, xv5_2, xp5_2, xf5_3, xv5_3, xp5_3, xf5_4, xv5_4, xp5_4, xf5_5, xv5_5, xp5_5, xf5_6, xv5_6, xp5_6, xf5_7, xv5_7, xp5_7, xf5_8, xv5_8, xp5_8, xf5_9, xv5_9, xp5_9, xf5_10, xv5_10, xp5_10, xf5_11, xv5_11, xp5_11, xf5_12, xv5_12, xp5_12, xo6, xa6, xf6_0, xv6_0, xp6_0, xf6_1, xv6_1, xp6_1, xf6_2, xv6_2, xp6_2, xo7, xa7, xf7_0, xv7_0, xp7_0, xf7_1, xv7_1, xp7_1, xf7_2, xv7_2, xp7_2, xf7_3, xv7_3, xp7_3, xf7_4, xv7_4, xf7_5, xv7_5, xo8, xa8, xf8_0, xv8_0, xp8_0, xf8_1, xv8_1, xo10, xa10, xf10_0, xv10_0, xp10_0, xf10_1, xv10_1, xp10_1, xf10_2, xv10_2, xp10_2, xf10_3, xv10_3, xf10_4, xv10_4, xo12, xa12, xf12_0, xv12_0, xf12_1, xv12_1, xp12_1, xf12_2, xv12_2, xp12_2, xf12_3, xv12_3, xp12_3, xf12_4, xv12_4, xo13, xa13, xf13_0, xv13_0, xf13_1, xv13_1, xp13_1, xo14, xa14, xf14_0, xv14_0, xf14_1, xv14_1, xp14_1, xf14_2, xv14_2, xp14_2, xf14_3, xv14_3, xp14_3, ya2_1, yw2_1, yv2_1, yp2_1, yn2_1, yl2_1, ya2_3, yw2_3, yv2_3, yp2_3, yn2_3, yl2_3, ya2_10, yw2_10, yv2_10, yp2_10, yn2_10, yl2_10, ya2_11, yw2_11, yv2_11, yp2_11, yn2_11, yl2_11, ya9, yw9, yv9, yp9, yn9, yl9, ya11, yw11, yv11, yp11, yn11, yl11, ya15, yw15, yv15, yp15, yn15, yl15, ya16, yw16, yv16, yp16, yn16, yl16, ok10, ok11, ok1i, xu_s, xu_n, ne_eq, Prod.mk.injEq, Nat.reduceEqDiff, false_and, and_false, not_false_eq_true, hl, hc, h0n, hN.1, hN.2, ofN, h01, hl2, q37, hnw, xh_2, hu]
theorem q_154 (w : xw h0 P c) (hg : g.1 = P.1) (hl : lv P (3, L, i)) (hs : lsz P c L i n) (hn : n < 250) (hv : v < 2 ^ 31) (hx : lv P (xel L i v)) : ∃ h1 P1, ez_ev g 154 [.ref (P.2.2.1 (3, L, i)), .ref (P.2.2.1 (xel L i v)), .ref (if P.2.2.2 (3, L, i) = 0 then P.1 else P.2.2.1 (4, L, i)), .int (nI n)] (xh h0 P c) = some (none, xh h1 P1 (xu (xu c (4, L, i) n (nI v)) (3, L, i) 2 (nI (n + 1)))) ∧ xw h1 P1 c ∧ xgr h0 P h1 P1 L i ∧ n < P1.2.2.2 (3, L, i) ∧ P1.2.2.2 (3, L, i) ≤ 1000 ∧ lv P1 (xel L i v) := by
  have hx4 : xel L i v ≠ (4, L, i) := by
    intro e
    have := (xel_4 (L := L) (i := i) (v := v)).1
    rw [e] at this
    exact this rfl
  by_cases hc : P.2.2.2 (3, L, i) = n
  · obtain ⟨h1, P1, e, w2, gr, s2, hk, l4, l3⟩ := q_lgrow w hg hl hs hn hc
    have lx := (gr.2.1 _ xel_4.2 hx4).mpr hx
    refine ⟨h1, P1, ?_, w2, gr, hk, s2.2.2.1, lx⟩
    have hN : ez_isN ((xh h0 P c).1 (if P.2.2.2 (3, L, i) = 0 then P.1 else P.2.2.1 (4, L, i))) = true ∧ ez_vN ((xh h0 P c).1 (if P.2.2.2 (3, L, i) = 0 then P.1 else P.2.2.1 (4, L, i))) = n := by
      by_cases h5 : P.2.2.2 (3, L, i) = 0
      · rw [if_pos h5, xh_o w.2.2.2.2.1, w.2.2.2.1, ← hc, h5]
        exact ⟨rfl, rfl⟩
      · rw [if_neg h5]
        have := n4 (h0 := h0) (c := c) (xw_4 w hl h5)
        rw [hc] at this
        exact this
    generalize (if P.2.2.2 (3, L, i) = 0 then P.1 else P.2.2.1 (4, L, i)) = A at hN ⊢
    have tail := lq_154 (g := g) w2 l3 l4 hk (by omega) hv lx
    rw [gr.1 (3, L, i) (by intro e; cases e), gr.1 _ hx4] at tail
    rw [e154]
    simp only [s154_0, s154_1, s154_1n, s154_2, s154_3, s154_6, s154_7, s154_10, s154_12, s154_13, s154_13n, s154_14, s154_15, s154_16, s154_17, s154_18, s154_19, s154_22, zl_n, zl_i, zl_r, zl_0, z10, z01, ez_bd_s, ez_bd_n, eq_self, true_or, or_true, if_true, if_false, zb_eq, zb_eq1, zb_em, zb_em2, ite_not, List.append_nil, List.cons_append, List.nil_append, reduceCtorEq, not_true_eq_false, not_false_eq_true, xo1, xa1, xf1_0, xv1_0, xp1_0, xf1_1, xv1_1, xf1_2, xv1_2, xp1_2, xf1_3, xv1_3, xf1_4, xv1_4, xf1_5, xv1_5, xp1_5, xf1_6, xv1_6, xp1_6, xf1_7, xv1_7, xf1_8, xv1_8, xf1_9, xv1_9, xf1_10, xv1_10, xf1_11, xv1_11, xf1_12, xv1_12, xf1_13, xv1_13, xf1_14, xv1_14, xp1_14, xo3, xa3, xf3_0, xv3_0, xp3_0, xf3_1, xv3_1, xf3_2, xv3_2, xp3_2, xo5, xa5, xf5_0, xv5_0, xp5_0, xf5_1, xv5_1, xp5_1, xf5_2, xv5_2, xp5_2, xf5_3, xv5_3, xp5_3, xf5_4, xv5_4, xp5_4, xf5_5, xv5_5, xp5_5, xf5_6, xv5_6, xp5_6, xf5_7, xv5_7, xp5_7, xf5_8, xv5_8, xp5_8, xf5_9, xv5_9, xp5_9, xf5_10, xv5_10, xp5_10, xf5_11, xv5_11, xp5_11, xf5_12, xv5_12, xp5_12, xo6, xa6, xf6_0, xv6_0, xp6_0, xf6_1, xv6_1, xp6_1, xf6_2, xv6_2, xp6_2, xo7, xa7, xf7_0, xv7_0, xp7_0, xf7_1, xv7_1, xp7_1, xf7_2, xv7_2, xp7_2, xf7_3, xv7_3, xp7_3, xf7_4, xv7_4, xf7_5, xv7_5, xo8, xa8, xf8_0, xv8_0, xp8_0, xf8_1, xv8_1, xo10, xa10, xf10_0, xv10_0, xp10_0, xf10_1, xv10_1, xp10_1, xf10_2, xv10_2, xp10_2, xf10_3, xv10_3, xf10_4, xv10_4, xo12, xa12, xf12_0, xv12_0, xf12_1, xv12_1, xp12_1, xf12_2, xv12_2, xp12_2, xf12_3, xv12_3, xp12_3, xf12_4, xv12_4, xo13, xa13, xf13_0, xv13_0, xf13_1, xv13_1, xp13_1, xo14, xa14, xf14_0, xv14_0, xf14_1, xv14_1, xp14_1, xf14_2, xv14_2, xp14_2, xf14_3, xv14_3, xp14_3, ya2_1, yw2_1, yv2_1, yp2_1, yn2_1, yl2_1, ya2_3, yw2_3, yv2_3, yp2_3, yn2_3, yl2_3, ya2_10, yw2_10, yv2_10, yp2_10, yn2_10, yl2_10, ya2_11, yw2_11, yv2_11, yp2_11, yn2_11, yl2_11, ya9, yw9, yv9, yp9, yn9, yl9, ya11, yw11, yv11, yp11, yn11, yl11, ya15, yw15, yv15, yp15, yn15, yl15, ya16, yw16, yv16, yp16, yn16, yl16, ok10, ok11, ok1i, xu_s, xu_n, ne_eq, Prod.mk.injEq, Nat.reduceEqDiff, false_and, and_false, not_false_eq_true, hl, hN.1, hN.2, ofN, e]
    exact tail
  · have h5 : P.2.2.2 (3, L, i) ≠ 0 := by have := hs.2.1; omega
    have l4 := xw_4 w hl h5
    have hk : n < P.2.2.2 (3, L, i) := by have := hs.2.1; omega
    refine ⟨h0, P, ?_, w, xgr_r, hk, hs.2.2.1, hx⟩
    have hN := n4 (h0 := h0) (c := c) l4
    have hne : (nI n = nI (P.2.2.2 (3, L, i))) = False := eq_false (fun e => hc ((nI_eq (by omega) (by have := hs.2.2.1; omega)).mp e).symm)
    have tail := lq_154 (g := g) w hl l4 hk (by omega) hv hx
    rw [if_neg h5, e154]
    simp only [s154_0, s154_1, s154_1n, s154_2, s154_3, s154_6, s154_7, s154_10, s154_12, s154_13, s154_13n, s154_14, s154_15, s154_16, s154_17, s154_18, s154_19, s154_22, zl_n, zl_i, zl_r, zl_0, z10, z01, ez_bd_s, ez_bd_n, eq_self, true_or, or_true, if_true, if_false, zb_eq, zb_eq1, zb_em, zb_em2, ite_not, List.append_nil, List.cons_append, List.nil_append, reduceCtorEq, not_true_eq_false, not_false_eq_true, hN.1, hN.2, ofN, hne]
    exact tail
/-- a thing more in a list -/
def xad (c : xR → Nat → Int32) (L i n v : Nat) : xR → Nat → Int32 := xu (xu (xu c (3, L, i) 0 (c (3, L, i) 0 + 1)) (4, L, i) n (nI v)) (3, L, i) 2 (nI (n + 1))
theorem xad_n {r : xR} (h3 : r ≠ (3, L, i)) (h4 : r ≠ (4, L, i)) : xad c L i n v r = c r := by
  unfold xad
  rw [xu_n h3, xu_n h4, xu_n h3]
theorem xad_4 : xad c L i n v (4, L, i) = upd (c (4, L, i)) n (nI v) := by
  unfold xad
  rw [xu_n (by intro e; cases e)]
  have : xu (xu c (3, L, i) 0 (c (3, L, i) 0 + 1)) (4, L, i) n (nI v) (4, L, i) = upd (xu c (3, L, i) 0 (c (3, L, i) 0 + 1) (4, L, i)) n (nI v) := if_pos rfl
  rw [this, xu_n (by intro e; cases e)]
theorem xad_32 : xad c L i n v (3, L, i) 2 = nI (n + 1) := by
  unfold xad
  rw [xu_s, if_pos rfl]
theorem q_add (w : xw h0 P c) (hg : g.1 = P.1) (hl : lv P (3, L, i)) (hs : lsz P c L i n) (hn : n < 250) (hv : v < 2 ^ 31) (hx : lv P (xel L i v)) : ∃ h1 P1, ez_ev g 155 [.ref (P.2.2.1 (3, L, i)), .ref (P.2.2.1 (xel L i v))] (xh h0 P c) = some (some (.int 1), xh h1 P1 (xad c L i n v)) ∧ xw h1 P1 (xad c L i n v) ∧ xgr h0 P h1 P1 L i ∧ lsz P1 (xad c L i n v) L i (n + 1) := by
  have ok := w.1
  have w1 : xw h0 P (xu c (3, L, i) 0 (c (3, L, i) 0 + 1)) := xw_u w (show 3 ≠ 4 by decide) (fun h => h.elim (fun h => absurd h (show ¬ 3 = 12 by decide)) (fun h => absurd h (show ¬ 3 = 13 by decide)))
  have e32 : xu c (3, L, i) 0 (c (3, L, i) 0 + 1) (3, L, i) 2 = nI n := by rw [xu_s, if_neg (by decide)]; exact hs.1
  have e4 : xu c (3, L, i) 0 (c (3, L, i) 0 + 1) (4, L, i) = c (4, L, i) := xu_n (by intro e; cases e)
  have s1 : lsz P (xu c (3, L, i) 0 (c (3, L, i) 0 + 1)) L i n := ⟨e32, hs.2.1, hs.2.2.1, by rw [e4]; exact hs.2.2.2⟩
  obtain ⟨h1, P1, e, w2, gr, hk, hk2, lx⟩ := q_154 w1 hg hl s1 hn hv hx
  refine ⟨h1, P1, ?_, ?_, gr, ⟨xad_32, hk, hk2, ?_⟩⟩
  · rw [e155]
    simp only [s155_0, s155_1, s155_2, s155_5, s155_6, s155_7, s155_10, s155_11, s155_11n, s155_12, s155_13, s155_16, s155_17, s155_20, s155_23, s155_24, zl_n, zl_i, zl_r, zl_0, z10, z01, ez_bd_s, ez_bd_n, eq_self, true_or, or_true, if_true, if_false, zb_eq, zb_eq1, zb_em, zb_em2, ite_not, List.append_nil, List.cons_append, List.nil_append, reduceCtorEq, not_true_eq_false, not_false_eq_true, xo1, xa1, xf1_0, xv1_0, xp1_0, xf1_1, xv1_1, xf1_2, xv1_2, xp1_2, xf1_3, xv1_3, xf1_4, xv1_4, xf1_5, xv1_5, xp1_5, xf1_6, xv1_6, xp1_6, xf1_7, xv1_7, xf1_8, xv1_8, xf1_9, xv1_9, xf1_10, xv1_10, xf1_11, xv1_11, xf1_12, xv1_12, xf1_13, xv1_13, xf1_14, xv1_14, xp1_14, xo3, xa3, xf3_0, xv3_0, xp3_0, xf3_1, xv3_1, xf3_2, xv3_2, xp3_2, xo5, xa5, xf5_0, xv5_0, xp5_0, xf5_1, xv5_1, xp5_1, xf5_2, xv5_2, xp5_2, xf5_3, xv5_3, xp5_3, xf5_4, xv5_4, xp5_4, xf5_5, xv5_5, xp5_5, xf5_6, xv5_6, xp5_6, xf5_7, xv5_7, xp5_7, xf5_8, xv5_8, xp5_8, xf5_9, xv5_9, xp5_9, xf5_10, xv5_10, xp5_10, xf5_11, xv5_11, xp5_11, xf5_12, xv5_12, xp5_12, xo6, xa6, xf6_0, xv6_0, xp6_0, xf6_1, xv6_1, xp6_1, xf6_2, xv6_2, xp6_2, xo7, xa7, xf7_0, xv7_0, xp7_0, xf7_1, xv7_1, xp7_1, xf7_2, xv7_2, xp7_2, xf7_3, xv7_3, xp7_3, xf7_4, xv7_4, xf7_5, xv7_5, xo8, xa8, xf8_0, xv8_0, xp8_0, xf8_1, xv8_1, xo10, xa10, xf10_0, xv10_0, xp10_0, xf10_1, xv10_1, xp10_1, xf10_2, xv10_2, xp10_2, xf10_3, xv10_3, xf10_4, xv10_4, xo12, xa12, xf12_0, xv12_0, xf12_1, xv12_1, xp12_1, xf12_2, xv12_2, xp12_2, xf12_3, xv12_3, xp12_3, xf12_4, xv12_4, xo13, xa13, xf13_0, xv13_0, xf13_1, xv13_1, xp13_1, xo14, xa14, xf14_0, xv14_0, xf14_1, xv14_1, xp14_1, xf14_2, xv14_2, xp14_2, xf14_3, xv14_3, xp14_3, ya2_1, yw2_1, yv2_1, yp2_1, yn2_1, yl2_1, ya2_3, yw2_3, yv2_3, yp2_3, yn2_3, yl2_3, ya2_10, yw2_10, yv2_10, yp2_10, yn2_10, yl2_10, ya2_11, yw2_11, yv2_11, yp2_11, yn2_11, yl2_11, ya9, yw9, yv9, yp9, yn9, yl9, ya11, yw11, yv11, yp11, yn11, yl11, ya15, yw15, yv15, yp15, yn15, yl15, ya16, yw16, yv16, yp16, yn16, yl16, ok10, ok11, ok1i, xu_s, xu_n, ne_eq, Prod.mk.injEq, Nat.reduceEqDiff, false_and, and_false, not_false_eq_true, hl, ok, e32, hs.1, Nat.reduceEqDiff, e]
    rfl
  · exact xw_u (xw_u4 w2 hv lx) (show 3 ≠ 4 by decide) (fun h => h.elim (fun h => absurd h (show ¬ 3 = 12 by decide)) (fun h => absurd h (show ¬ 3 = 13 by decide)))
  · intro j hj
    rw [xad_4]
    have : upd (c (4, L, i)) n (nI v) j = c (4, L, i) j := if_neg (by omega)
    rw [this]
    exact hs.2.2.2 j (by omega)
end AD3
