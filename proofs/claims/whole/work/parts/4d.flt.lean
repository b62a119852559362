section O7
variable {g : ez_G} {h h0 h2 : ez_H} {P P2 : xP} {c c2 : xR → Nat → Int32} {z : md_S}
theorem xh_dead {r : xR} {f : Nat → Int32} (w : xw h0 P c) (hr : r.1 ≠ 0) (hl : ¬ lv P r) : xh h0 P c = xh h0 P (xs c r f) ∧ xw h0 P (xs c r f) := by
  constructor
  · unfold xh
    refine Prod.ext (funext fun q => ?_) rfl
    dsimp only
    by_cases h1 : (P.2.1 q).1 = 0
    · rw [if_pos h1, if_pos h1]
    · rw [if_neg h1, if_neg h1]
      have : P.2.1 q ≠ r := fun e => hl (by unfold lv; rw [← e, w.1 q h1])
      rw [xs_n this]
  · obtain ⟨w1, w2, w3, w4⟩ := w
    refine ⟨w1, w2, fun r2 r' h0 hl2 hx ht => ?_, w4⟩
    rw [xs_n (fun e => hl (by rw [← e]; exact hl2))] at hx
    exact w3 r2 r' h0 hl2 hx ht
/-- a new list -/
def xnl (c : xR → Nat → Int32) (L i : Nat) : xR → Nat → Int32 := xs (xs c (4, L, i) (fun _ => -1)) (3, L, i) (fun _ => 0)
theorem xnl_n {L i : Nat} {r : xR} (h3 : r ≠ (3, L, i)) (h4 : r ≠ (4, L, i)) : xnl c L i r = c r := by
  unfold xnl
  rw [xs_n h3, xs_n h4]
theorem x_adl {L i a : Nat} (w : xw h0 P c) (hnl : ¬ lv P (3, L, i)) (h4 : ¬ lv P (4, L, i)) (ha : (P.2.1 a).1 = 0) (hal : a < h0.2.1) (hae : a ≠ P.1) (he : h0.1 a = some (.inr (0, [.int 0, .ref P.1, .int 0]))) : ∃ h1, xh h0 P c = xh h1 (pad P (3, L, i) a) (xnl c L i) ∧ xw h1 (pad P (3, L, i) a) (xnl c L i) ∧ h1.2 = h0.2 ∧ (∀ q, (P.2.1 q).1 = 0 → h1.1 q = h0.1 q) ∧ lsz (pad P (3, L, i) a) (xnl c L i) L i 0 := by
  obtain ⟨d1, d2⟩ := xh_dead (f := fun _ => -1) w (show (4, L, i).1 ≠ 0 from (by decide : 4 ≠ 0)) h4
  obtain ⟨h1, e1, w1, z1, o1⟩ := x_ad (r := (3, L, i)) (f := fun _ => 0) d2 (show 3 ≠ 0 by decide) (show 3 ≠ 4 by decide) hnl (fun _ => h4) ha hal hae (by
    rw [he]
    show _ = some (Sum.inr (0, [Value.int 0, Value.ref (if (pad P (3, L, i) a).2.2.2 (3, L, i) = 0 then P.1 else _), Value.int 0]))
    rw [pad_0, if_pos rfl]) (fun r' _ h3 => absurd rfl h3)
  refine ⟨h1, d1.trans e1, w1, z1, o1, ?_, ?_, ?_, fun j _ => ?_⟩
  · unfold xnl
    rw [xs_r]
    rfl
  · exact Nat.zero_le _
  · rw [pad_0]
    exact Nat.zero_le _
  · unfold xnl
    rw [xs_n (by rintro ⟨⟩), xs_r]
theorem cf_0 {f : Int32} : ∀ n, (∀ s, s < n → ¬ z.2 28 s = f) → cf z f n = 0
  | 0, _ => rfl
  | n + 1, h => by rw [cf, if_neg (h n (by omega)), cf_0 n (fun s hs => h s (by omega))]
theorem o_fleet (hg : g.1 = P.1) (w : xw h0 P c) (R : RR P c z) : xop g 58 [] h0 P c (pm_fleet z) := by
  obtain ⟨l1, l21, l23, l16, l30, l31, l32, l210, l211, l33, l34⟩ := w_lvs w R.1; have ok := w.1
  obtain ⟨⟨a1, a2, a3, a4, a5⟩, ⟨b1, b2, b3⟩, ⟨d1, d2, d3⟩, m0, m1, m7, m36⟩ := R.2.1; have r1 := R.2.2.1; have r2 := R.2.2.2.1; have r5 := R.2.2.2.2.1; have r3 := R.2.2.2.2.2.1; have r4 := R.2.2.2.2.2.2.1; have rv := R.2.2.2.2.2.2.2; have r0 := R.2.1
  obtain ⟨e, hb⟩ := md_inE r3.1.1
  unfold pm_fleet
  by_cases h4 : z.1 4 = 20
  · rw [if_pos h4]
    refine xop_s (c1 := c) ?_ w R
    have t2 : c (3, 3, 0) 2 = 20 := by rw [r3.1.2.2.1.1, ← e, h4]
    rw [e58]
    simp only [s58_0, s58_1, s58_4, s58_7, s58_9, s58_12, s58_13, s58_14, s58_15, s58_18, s58_21, s58_22, s58_23, s58_26, s58_29, s58_32, s58_35, s58_36, s58_37, s58_40, s58_43, s58_44, s58_45, zl_n, zl_i, zl_r, zl_0, z10, z01, ez_bd_s, ez_bd_n, eq_self, true_or, or_true, if_true, if_false, zb_eq, zb_eq1, zb_em, zb_em2, ite_not, List.append_nil, List.cons_append, List.nil_append, reduceCtorEq, not_true_eq_false, not_false_eq_true, xo1, xa1, xf1_0, xv1_0, xp1_0, xf1_1, xv1_1, xf1_2, xv1_2, xp1_2, xf1_3, xv1_3, xf1_4, xv1_4, xf1_5, xv1_5, xp1_5, xf1_6, xv1_6, xp1_6, xf1_7, xv1_7, xf1_8, xv1_8, xf1_9, xv1_9, xf1_10, xv1_10, xf1_11, xv1_11, xf1_12, xv1_12, xf1_13, xv1_13, xf1_14, xv1_14, xp1_14, xo3, xa3, xf3_0, xv3_0, xp3_0, xf3_1, xv3_1, xf3_2, xv3_2, xp3_2, xo5, xa5, xf5_0, xv5_0, xp5_0, xf5_1, xv5_1, xp5_1, xf5_2, xv5_2, xp5_2, xf5_3, xv5_3, xp5_3, xf5_4, xv5_4, xp5_4, xf5_5, xv5_5, xp5_5, xf5_6, xv5_6, xp5_6, xf5_7, xv5_7, xp5_7, xf5_8, xv5_8, xp5_8, xf5_9, xv5_9, xp5_9, xf5_10, xv5_10, xp5_10, xf5_11, xv5_11, xp5_11, xf5_12, xv5_12, xp5_12, xo6, xa6, xf6_0, xv6_0, xp6_0, xf6_1, xv6_1, xp6_1, xf6_2, xv6_2, xp6_2, xo7, xa7, xf7_0, xv7_0, xp7_0, xf7_1, xv7_1, xp7_1, xf7_2, xv7_2, xp7_2, xf7_3, xv7_3, xp7_3, xf7_4, xv7_4, xf7_5, xv7_5, xo8, xa8, xf8_0, xv8_0, xp8_0, xf8_1, xv8_1, xo10, xa10, xf10_0, xv10_0, xp10_0, xf10_1, xv10_1, xp10_1, xf10_2, xv10_2, xp10_2, xf10_3, xv10_3, xf10_4, xv10_4, xo12, xa12, xf12_0, xv12_0, xf12_1, xv12_1, xp12_1, xf12_2, xv12_2, xp12_2, xf12_3, xv12_3, xp12_3, xf12_4, xv12_4, xo13, xa13, xf13_0, xv13_0, xf13_1, xv13_1, xp13_1, xo14, xa14, xf14_0, xv14_0, xf14_1, xv14_1, xp14_1, xf14_2, xv14_2, xp14_2, xf14_3, xv14_3, xp14_3, ya2_1, yw2_1, yv2_1, yp2_1, yn2_1, yl2_1, ya2_3, yw2_3, yv2_3, yp2_3, yn2_3, yl2_3, ya2_10, yw2_10, yv2_10, yp2_10, yn2_10, yl2_10, ya2_11, yw2_11, yv2_11, yp2_11, yn2_11, yl2_11, ya9, yw9, yv9, yp9, yn9, yl9, ya11, yw11, yv11, yp11, yn11, yl11, ya15, yw15, yv15, yp15, yn15, yl15, ya16, yw16, yv16, yp16, yn16, yl16, ok10, ok11, ok1i, xu_s, xu_n, ne_eq, Prod.mk.injEq, Nat.reduceEqDiff, false_and, and_false, not_false_eq_true, l1, l21, l23, l16, l30, l31, l32, l210, l211, l33, l34, ok, q_size, t2, show ((20 : Int32) < 20) = False by decide]
  · rw [if_neg h4]
    have hn : (z.1 4).toNatClampNeg < 20 := by
      refine Nat.lt_of_le_of_ne (by omega) fun e5 => h4 ?_
      rw [e, e5]
      rfl
    obtain ⟨⟨v1, v2, v3, v4⟩, v5, v6, v7, v8, v9⟩ := r3
    have rvn := fun r h0 hl => (rv r h0 hl)
    generalize hN : (z.1 4).toNatClampNeg = n at e hb hn v3 v5 v6 v8
    have nl10 : ¬ lv P (10, n, 0) := fun hl => by
      have := (rv (10, n, 0) (show 10 ≠ 0 by decide) hl).2.2.1 (Or.inl rfl)
      rw [hN] at this
      exact absurd this (Nat.lt_irrefl _)
    have nl11 : ¬ lv P (11, n, 0) := fun hl => by
      have := (rv (11, n, 0) (show 11 ≠ 0 by decide) hl).2.2.1 (Or.inr rfl)
      rw [hN] at this
      exact absurd this (Nat.lt_irrefl _)
    have nl3 : ¬ lv P (3, 7, n) := fun hl => by
      have := ((rv (3, 7, n) (show 3 ≠ 0 by decide) hl).2.2.2.2.2.1 (Or.inl rfl)).1 rfl
      rw [hN] at this
      exact absurd this (Nat.lt_irrefl _)
    have nl4 : ¬ lv P (4, 7, n) := fun hl => by
      have := ((rv (4, 7, n) (show 4 ≠ 0 by decide) hl).2.2.2.2.2.1 (Or.inr rfl)).1 rfl
      rw [hN] at this
      exact absurd this (Nat.lt_irrefl _)
    have q0 := w.2.1 h0.2.1 (Nat.le_refl _)
    have q1 := w.2.1 (h0.2.1 + 1) (by omega)
    have q2 := w.2.1 (h0.2.1 + 1 + 1) (by omega)
    have hP : P.1 < h0.2.1 := w.2.2.2.2.2
    -- the three cells
    have eA : ez_nw (ez_nw (ez_nw (xh h0 P c) (.inr (2, [.int (nI n), .int 0, .int 0, .ref (h0.2.1 + 1), .ref (h0.2.1 + 1 + 1)])) 5) (.inr (0, [.int 0, .ref g.1, .int 0])) 3) (.inl (0, 20, .inl (fun _ => 0))) 20 = xh (ez_nw (ez_nw (ez_nw h0 (.inr (2, [.int (nI n), .int 0, .int 0, .ref (h0.2.1 + 1), .ref (h0.2.1 + 1 + 1)])) 5) (.inr (0, [.int 0, .ref g.1, .int 0])) 3) (.inl (0, 20, .inl (fun _ => 0))) 20) P c := by
      rw [xh_nw q0, xh_nw q1, xh_nw q2]
    generalize hA : ez_nw (ez_nw (ez_nw h0 (.inr (2, [.int (nI n), .int 0, .int 0, .ref (h0.2.1 + 1), .ref (h0.2.1 + 1 + 1)])) 5) (.inr (0, [.int 0, .ref g.1, .int 0])) 3) (.inl (0, 20, .inl (fun _ => 0))) 20 = hB at eA
    have wB : xw hB P c := by rw [← hA]; exact xw_nw (xw_nw (xw_nw w))
    have B0 : hB.1 h0.2.1 = some (.inr (2, [.int (nI n), .int 0, .int 0, .ref (h0.2.1 + 1), .ref (h0.2.1 + 1 + 1)])) := by
      rw [← hA]
      simp only [nw_c, nw_21, ne01, ne011, if_true, if_false]
    have B1 : hB.1 (h0.2.1 + 1) = some (.inr (0, [.int 0, .ref P.1, .int 0])) := by
      rw [← hA, hg]
      simp only [nw_c, nw_21, ne111, if_true, if_false]
    have B2 : hB.1 (h0.2.1 + 1 + 1) = some (.inl (0, 20, .inl (fun _ => 0))) := by
      rw [← hA]
      simp only [nw_c, nw_21, if_true]
    have Bo : ∀ q, q < h0.2.1 → hB.1 q = h0.1 q := fun q hq => by
      rw [← hA]
      simp only [nw_c, nw_21]
      rw [if_neg (by omega), if_neg (by omega), if_neg (by omega)]
    have Bn : hB.2.1 = h0.2.1 + 3 ∧ hB.2.2 = h0.2.2 + 28 := by rw [← hA]; exact ⟨rfl, rfl⟩
    -- their roles
    obtain ⟨h1, e1, w1, z1, o1, s1⟩ := x_adl (L := 7) (i := n) (a := h0.2.1 + 1) wB nl3 nl4 q1 (by omega) (by omega) B1
    have lp1 : ∀ r, r.1 ≠ 0 → r ≠ (3, 7, n) → (lv (pad P (3, 7, n) (h0.2.1 + 1)) r ↔ lv P r) := fun r u0 u1 => lv_pad q1 u0 u1
    obtain ⟨h2, e2, w2, z2, o2⟩ := x_ad (r := (11, n, 0)) (f := fun _ => 0) (a := h0.2.1 + 1 + 1) w1 (show 11 ≠ 0 by decide) (show 11 ≠ 4 by decide) (fun hl => nl11 ((lp1 _ (show 11 ≠ 0 by decide) (by rintro ⟨⟩)).mp hl)) (fun h => absurd h (show ¬ 11 = 3 by decide)) (pad_o (show 3 ≠ 0 by decide) (by omega) q2) (by rw [z1]; omega) (by show _ ≠ P.1; omega) (by rw [o1 _ q2, B2]; rfl) (fun r' hx => (show False from hx).elim)
    have lp2 : ∀ r, r.1 ≠ 0 → r ≠ (3, 7, n) → r ≠ (11, n, 0) → (lv (pad (pad P (3, 7, n) (h0.2.1 + 1)) (11, n, 0) (h0.2.1 + 1 + 1)) r ↔ lv P r) := fun r u0 u1 u2 => (lv_pad (pad_o (show 3 ≠ 0 by decide) (by omega) q2) u0 u2).trans (lp1 r u0 u1)
    have l37 : lv (pad (pad P (3, 7, n) (h0.2.1 + 1)) (11, n, 0) (h0.2.1 + 1 + 1)) (3, 7, n) := (lv_pad (pad_o (show 3 ≠ 0 by decide) (by omega) q2) (show 3 ≠ 0 by decide) (by rintro ⟨⟩)).mpr lv_pad_r
    obtain ⟨h3, e3, w3, z3, o3⟩ := x_ad (r := (10, n, 0)) (f := fun i => if i = 0 then nI n else 0) (a := h0.2.1) w2 (show 10 ≠ 0 by decide) (show 10 ≠ 4 by decide) (fun hl => nl10 ((lp2 _ (show 10 ≠ 0 by decide) (by rintro ⟨⟩) (by rintro ⟨⟩)).mp hl)) (fun h => absurd h (show ¬ 10 = 3 by decide)) (pad_o (show 11 ≠ 0 by decide) (by omega) (pad_o (show 3 ≠ 0 by decide) (by omega) q0)) (by rw [z2, z1]; omega) (by show _ ≠ P.1; omega) (by
      rw [o2 _ (pad_o (show 3 ≠ 0 by decide) (by omega) q0), o1 _ q0, B0]
      show _ = some (Sum.inr (2, [Value.int (nI n), Value.int 0, Value.int 0, Value.ref ((pad (pad (pad P (3, 7, n) (h0.2.1 + 1)) (11, n, 0) (h0.2.1 + 1 + 1)) (10, n, 0) h0.2.1).2.2.1 (3, 7, n)), Value.ref ((pad (pad (pad P (3, 7, n) (h0.2.1 + 1)) (11, n, 0) (h0.2.1 + 1 + 1)) (10, n, 0) h0.2.1).2.2.1 (11, n, 0))]))
      rw [pad_a (by rintro ⟨⟩), pad_a (by rintro ⟨⟩), pad_r, pad_a (by rintro ⟨⟩), pad_r]) (fun r' hx _ => by
      rcases hx with hx | hx
      · rw [hx]; exact l37
      · rw [hx]; exact lv_pad_r)
    have q0' : ((pad (pad P (3, 7, n) (h0.2.1 + 1)) (11, n, 0) (h0.2.1 + 1 + 1)).2.1 h0.2.1).1 = 0 := pad_o (show 11 ≠ 0 by decide) (by omega) (pad_o (show 3 ≠ 0 by decide) (by omega) q0)
    have pa : ∀ r, r ≠ (3, 7, n) → r ≠ (11, n, 0) → r ≠ (10, n, 0) → (pad (pad (pad P (3, 7, n) (h0.2.1 + 1)) (11, n, 0) (h0.2.1 + 1 + 1)) (10, n, 0) h0.2.1).2.2.1 r = P.2.2.1 r := fun r u1 u2 u3 => by rw [pad_a u3, pad_a u2, pad_a u1]
    have pc : ∀ r, r ≠ (3, 7, n) → r ≠ (11, n, 0) → r ≠ (10, n, 0) → (pad (pad (pad P (3, 7, n) (h0.2.1 + 1)) (11, n, 0) (h0.2.1 + 1 + 1)) (10, n, 0) h0.2.1).2.2.2 r = P.2.2.2 r := fun r u1 u2 u3 => by rw [pad_c u3, pad_c u2, pad_c u1]
    have pl : ∀ r, r.1 ≠ 0 → r ≠ (3, 7, n) → r ≠ (11, n, 0) → r ≠ (10, n, 0) → (lv (pad (pad (pad P (3, 7, n) (h0.2.1 + 1)) (11, n, 0) (h0.2.1 + 1 + 1)) (10, n, 0) h0.2.1) r ↔ lv P r) := fun r u0 u1 u2 u3 => (lv_pad q0' u0 u3).trans (lp2 r u0 u1 u2)
    have plr : lv (pad (pad (pad P (3, 7, n) (h0.2.1 + 1)) (11, n, 0) (h0.2.1 + 1 + 1)) (10, n, 0) h0.2.1) (10, n, 0) := lv_pad_r
    have pr : (pad (pad (pad P (3, 7, n) (h0.2.1 + 1)) (11, n, 0) (h0.2.1 + 1 + 1)) (10, n, 0) h0.2.1).2.2.1 (10, n, 0) = h0.2.1 := pad_r
    have s7 : lsz (pad (pad (pad P (3, 7, n) (h0.2.1 + 1)) (11, n, 0) (h0.2.1 + 1 + 1)) (10, n, 0) h0.2.1) (xs (xs (xnl c 7 n) (11, n, 0) fun _ => 0) (10, n, 0) fun i => if i = 0 then nI n else 0) 7 n 0 := lsz_cg s1 (by rw [pad_c (by rintro ⟨⟩), pad_c (by rintro ⟨⟩)]) rfl rfl
    have po : ∀ q, q < h0.2.1 → (P.2.1 q).1 = 0 → ((pad (pad (pad P (3, 7, n) (h0.2.1 + 1)) (11, n, 0) (h0.2.1 + 1 + 1)) (10, n, 0) h0.2.1).2.1 q).1 = 0 ∧ h3.1 q = h0.1 q := fun q hq h5 => by
      have u1 := pad_o (r := (3, 7, n)) (a := h0.2.1 + 1) (show 3 ≠ 0 by decide) (by omega) h5
      have u2 := pad_o (r := (11, n, 0)) (a := h0.2.1 + 1 + 1) (show 11 ≠ 0 by decide) (by omega) u1
      exact ⟨pad_o (show 10 ≠ 0 by decide) (by omega) u2, by rw [o3 _ u2, o2 _ u1, o1 _ h5, Bo q hq]⟩
    have eN : ez_nw (ez_nw (ez_nw (xh h0 P c) (.inr (2, [.int (nI n), .int 0, .int 0, .ref ((xh h0 P c).2.1 + 1), .ref ((xh h0 P c).2.1 + 1 + 1)])) 5) (.inr (0, [.int 0, .ref g.1, .int 0])) 3) (.inl (0, 20, .inl (fun _ => 0))) 20 = xh h3 (pad (pad (pad P (3, 7, n) (h0.2.1 + 1)) (11, n, 0) (h0.2.1 + 1 + 1)) (10, n, 0) h0.2.1) (xs (xs (xnl c 7 n) (11, n, 0) fun _ => 0) (10, n, 0) fun i => if i = 0 then nI n else 0) := eA.trans (e1.trans (e2.trans e3))
    have f1 : xfr h0 P h3 (pad (pad (pad P (3, 7, n) (h0.2.1 + 1)) (11, n, 0) (h0.2.1 + 1 + 1)) (10, n, 0) h0.2.1) 3 28 := by
      refine ⟨rfl, ?_, ?_, ?_, ?_, po⟩
      all_goals (rw [z3, z2, z1]; omega)
    generalize pad (pad (pad P (3, 7, n) (h0.2.1 + 1)) (11, n, 0) (h0.2.1 + 1 + 1)) (10, n, 0) h0.2.1 = P1 at *
    have hc1 : ∀ r, r ≠ (3, 7, n) → r ≠ (4, 7, n) → r ≠ (11, n, 0) → r ≠ (10, n, 0) → (xs (xs (xnl c 7 n) (11, n, 0) fun _ => 0) (10, n, 0) fun i => if i = 0 then nI n else 0) r = c r := fun r u1 u2 u3 u4 => by rw [xs_n u4, xs_n u3, xnl_n u1 u2]
    have hc10 : (xs (xs (xnl c 7 n) (11, n, 0) fun _ => 0) (10, n, 0) fun i => if i = 0 then nI n else 0) (10, n, 0) = fun i => if i = 0 then nI n else 0 := xs_r
    have hc11 : (xs (xs (xnl c 7 n) (11, n, 0) fun _ => 0) (10, n, 0) fun i => if i = 0 then nI n else 0) (11, n, 0) = fun _ => 0 := by rw [xs_n (by rintro ⟨⟩), xs_r]
    generalize (xs (xs (xnl c 7 n) (11, n, 0) fun _ => 0) (10, n, 0) fun i => if i = 0 then nI n else 0) = c1 at *
    have l33' : lv P1 (3, 3, 0) := (pl _ (show 3 ≠ 0 by decide) (by rintro ⟨⟩) (by rintro ⟨⟩) (by rintro ⟨⟩)).mpr l33
    obtain ⟨h4', P2, e4, w4, gr, s2⟩ := q_add (g := g) (L := 3) (i := 0) (n := n) (v := n) w3 (hg.trans f1.1.symm) l33' (lsz_cg v3 (pc _ (by rintro ⟨⟩) (by rintro ⟨⟩) (by rintro ⟨⟩)) (by rw [hc1 _ (by rintro ⟨⟩) (by rintro ⟨⟩) (by rintro ⟨⟩) (by rintro ⟨⟩)]) (hc1 _ (by rintro ⟨⟩) (by rintro ⟨⟩) (by rintro ⟨⟩) (by rintro ⟨⟩))) (by omega) (by omega) plr
    have e4 : ez_ev g 155 [.ref (P.2.2.1 (3, 3, 0)), .ref (xh h0 P c).2.1] (xh h3 P1 c1) = some (some (.int 1), xh h4' P2 (xad c1 3 0 n n)) := by
      rw [← pa (3, 3, 0) (by rintro ⟨⟩) (by rintro ⟨⟩) (by rintro ⟨⟩)]
      show ez_ev g 155 [_, .ref h0.2.1] _ = _
      rw [← pr]
      exact e4
    have t0 : ez_isO ((xh h3 P1 c1).1 (P.2.2.1 (3, 3, 0))) 0 = true := by
      rw [← pa (3, 3, 0) (by rintro ⟨⟩) (by rintro ⟨⟩) (by rintro ⟨⟩)]
      exact xo3 l33'
    have x4 : (xad c1 3 0 n n) (4, 3, 0) = upd (c (4, 3, 0)) n (nI n) := by rw [xad_4, hc1 _ (by rintro ⟨⟩) (by rintro ⟨⟩) (by rintro ⟨⟩) (by rintro ⟨⟩)]
    have x10 : (xad c1 3 0 n n) (10, n, 0) = fun i => if i = 0 then nI n else 0 := by rw [xad_n (by rintro ⟨⟩) (by rintro ⟨⟩), hc10]
    have x11 : (xad c1 3 0 n n) (11, n, 0) = fun _ => 0 := by rw [xad_n (by rintro ⟨⟩) (by rintro ⟨⟩), hc11]
    have x7 : lsz P2 (xad c1 3 0 n n) 7 n 0 := lsz_cg s7 (gr.2.2.1 _ (by rintro ⟨⟩)) (by rw [xad_n (by rintro ⟨⟩) (by rintro ⟨⟩)]) (xad_n (by rintro ⟨⟩) (by rintro ⟨⟩))
    have hc : ∀ r, r ≠ (3, 7, n) → r ≠ (4, 7, n) → r ≠ (11, n, 0) → r ≠ (10, n, 0) → r ≠ (3, 3, 0) → r ≠ (4, 3, 0) → (xad c1 3 0 n n) r = c r := fun r u1 u2 u3 u4 u5 u6 => by rw [xad_n u5 u6, hc1 r u1 u2 u3 u4]
    generalize xad c1 3 0 n n = c2 at *
    have hp : ∀ r, r ≠ (3, 7, n) → r ≠ (11, n, 0) → r ≠ (10, n, 0) → r ≠ (3, 3, 0) → P2.2.2.2 r = P.2.2.2 r := fun r u1 u2 u3 u4 => (gr.2.2.1 r u4).trans (pc r u1 u2 u3)
    have ea : ∀ r, r ≠ (3, 7, n) → r ≠ (11, n, 0) → r ≠ (10, n, 0) → r ≠ (4, 3, 0) → P2.2.2.1 r = P.2.2.1 r := fun r u1 u2 u3 u4 => (gr.1 r u4).trans (pa r u1 u2 u3)
    have el : ∀ r, r.1 ≠ 0 → r ≠ (3, 7, n) → r ≠ (11, n, 0) → r ≠ (10, n, 0) → r ≠ (4, 3, 0) → (lv P2 r ↔ lv P r) := fun r u0 u1 u2 u3 u4 => (gr.2.1 r u0 u4).trans (pl r u0 u1 u2 u3)
    have l1' : lv P2 (1, 0, 0) := (el _ (by decide) (by rintro ⟨⟩) (by rintro ⟨⟩) (by rintro ⟨⟩) (by rintro ⟨⟩)).mpr l1
    obtain ⟨t1, t2, t3, t4⟩ := tops_3 (g := g) w4 l1' (ea _ (by rintro ⟨⟩) (by rintro ⟨⟩) (by rintro ⟨⟩) (by rintro ⟨⟩)) (ea _ (by rintro ⟨⟩) (by rintro ⟨⟩) (by rintro ⟨⟩) (by rintro ⟨⟩))
    rw [s2.1] at t4
    have hz4 : (md_sI z 4 (z.1 4 + 1)).1 4 = nI (n + 1) := by
      show z.1 4 + 1 = _
      rw [e, nI_1]
    refine ⟨h4', P2, c2, ?_, w4, ⟨l1', R0_cg r0 (hc _ (by rintro ⟨⟩ <;> omega) (by rintro ⟨⟩ <;> omega) (by rintro ⟨⟩ <;> omega) (by rintro ⟨⟩ <;> omega) (by rintro ⟨⟩ <;> omega) (by rintro ⟨⟩ <;> omega)) (hc _ (by rintro ⟨⟩ <;> omega) (by rintro ⟨⟩ <;> omega) (by rintro ⟨⟩ <;> omega) (by rintro ⟨⟩ <;> omega) (by rintro ⟨⟩ <;> omega) (by rintro ⟨⟩ <;> omega)) (hc _ (by rintro ⟨⟩ <;> omega) (by rintro ⟨⟩ <;> omega) (by rintro ⟨⟩ <;> omega) (by rintro ⟨⟩ <;> omega) (by rintro ⟨⟩ <;> omega) (by rintro ⟨⟩ <;> omega)) (hc _ (by rintro ⟨⟩ <;> omega) (by rintro ⟨⟩ <;> omega) (by rintro ⟨⟩ <;> omega) (by rintro ⟨⟩ <;> omega) (by rintro ⟨⟩ <;> omega) (by rintro ⟨⟩ <;> omega)) (hc _ (by rintro ⟨⟩ <;> omega) (by rintro ⟨⟩ <;> omega) (by rintro ⟨⟩ <;> omega) (by rintro ⟨⟩ <;> omega) (by rintro ⟨⟩ <;> omega) (by rintro ⟨⟩ <;> omega)) (hc _ (by rintro ⟨⟩ <;> omega) (by rintro ⟨⟩ <;> omega) (by rintro ⟨⟩ <;> omega) (by rintro ⟨⟩ <;> omega) (by rintro ⟨⟩ <;> omega) (by rintro ⟨⟩ <;> omega)) rfl rfl rfl rfl rfl rfl rfl rfl rfl rfl, R1_cg r1 (hp _ (by rintro ⟨⟩ <;> omega) (by rintro ⟨⟩ <;> omega) (by rintro ⟨⟩ <;> omega) (by rintro ⟨⟩ <;> omega)) (by rw [hc _ (by rintro ⟨⟩ <;> omega) (by rintro ⟨⟩ <;> omega) (by rintro ⟨⟩ <;> omega) (by rintro ⟨⟩ <;> omega) (by rintro ⟨⟩ <;> omega) (by rintro ⟨⟩ <;> omega)]) (hc _ (by rintro ⟨⟩ <;> omega) (by rintro ⟨⟩ <;> omega) (by rintro ⟨⟩ <;> omega) (by rintro ⟨⟩ <;> omega) (by rintro ⟨⟩ <;> omega) (by rintro ⟨⟩ <;> omega)) (fun _ => (hc _ (by rintro ⟨⟩ <;> omega) (by rintro ⟨⟩ <;> omega) (by rintro ⟨⟩ <;> omega) (by rintro ⟨⟩ <;> omega) (by rintro ⟨⟩ <;> omega) (by rintro ⟨⟩ <;> omega))) rfl rfl rfl rfl, R2_cg r2 (hp _ (by rintro ⟨⟩ <;> omega) (by rintro ⟨⟩ <;> omega) (by rintro ⟨⟩ <;> omega) (by rintro ⟨⟩ <;> omega)) (by rw [hc _ (by rintro ⟨⟩ <;> omega) (by rintro ⟨⟩ <;> omega) (by rintro ⟨⟩ <;> omega) (by rintro ⟨⟩ <;> omega) (by rintro ⟨⟩ <;> omega) (by rintro ⟨⟩ <;> omega)]) (hc _ (by rintro ⟨⟩ <;> omega) (by rintro ⟨⟩ <;> omega) (by rintro ⟨⟩ <;> omega) (by rintro ⟨⟩ <;> omega) (by rintro ⟨⟩ <;> omega) (by rintro ⟨⟩ <;> omega)) (fun _ _ _ => (by rw [hc _ (by rintro ⟨⟩ <;> omega) (by rintro ⟨⟩ <;> omega) (by rintro ⟨⟩ <;> omega) (by rintro ⟨⟩ <;> omega) (by rintro ⟨⟩ <;> omega) (by rintro ⟨⟩ <;> omega)])) (Nat.le_refl _) rfl (fun t h1 h2 => by (try simp only [md_I2]); (repeat rw [md_A2n (by omega)])), R5_cg r5 (fun _ _ _ => (by rw [hc _ (by rintro ⟨⟩ <;> omega) (by rintro ⟨⟩ <;> omega) (by rintro ⟨⟩ <;> omega) (by rintro ⟨⟩ <;> omega) (by rintro ⟨⟩ <;> omega) (by rintro ⟨⟩ <;> omega)])) rfl rfl rfl (fun t h1 h2 => by (try simp only [md_I2]); (repeat rw [md_A2n (by omega)])), ?_, R4_cg r4 (fun _ _ _ => (hp _ (by rintro ⟨⟩ <;> omega) (by rintro ⟨⟩ <;> omega) (by rintro ⟨⟩ <;> omega) (by rintro ⟨⟩ <;> omega))) (fun _ _ _ => ⟨(by rw [hc _ (by rintro ⟨⟩ <;> omega) (by rintro ⟨⟩ <;> omega) (by rintro ⟨⟩ <;> omega) (by rintro ⟨⟩ <;> omega) (by rintro ⟨⟩ <;> omega) (by rintro ⟨⟩ <;> omega)]), (hc _ (by rintro ⟨⟩ <;> omega) (by rintro ⟨⟩ <;> omega) (by rintro ⟨⟩ <;> omega) (by rintro ⟨⟩ <;> omega) (by rintro ⟨⟩ <;> omega) (by rintro ⟨⟩ <;> omega))⟩) (fun _ _ => (hc _ (by rintro ⟨⟩ <;> omega) (by rintro ⟨⟩ <;> omega) (by rintro ⟨⟩ <;> omega) (by rintro ⟨⟩ <;> omega) (by rintro ⟨⟩ <;> omega) (by rintro ⟨⟩ <;> omega))) (fun _ _ => (hc _ (by rintro ⟨⟩ <;> omega) (by rintro ⟨⟩ <;> omega) (by rintro ⟨⟩ <;> omega) (by rintro ⟨⟩ <;> omega) (by rintro ⟨⟩ <;> omega) (by rintro ⟨⟩ <;> omega))) (fun _ _ => (hc _ (by rintro ⟨⟩ <;> omega) (by rintro ⟨⟩ <;> omega) (by rintro ⟨⟩ <;> omega) (by rintro ⟨⟩ <;> omega) (by rintro ⟨⟩ <;> omega) (by rintro ⟨⟩ <;> omega))) rfl (fun t h1 h2 => by (try simp only [md_I2]); (repeat rw [md_A2n (by omega)])), ?_⟩, ea _ (by rintro ⟨⟩) (by rintro ⟨⟩) (by rintro ⟨⟩) (by rintro ⟨⟩), xfr_w (xfr_t f1 gr.2.2.2) (by decide) (by decide)⟩
    · have tn : ∀ (E : ez_E) (k : Nat), ez_isF ((ez_nw (xh h0 P c) E k).1 (P.2.2.1 (1, 0, 0))) 9 12 = true ∧ ez_vF ((ez_nw (xh h0 P c) E k).1 (P.2.2.1 (1, 0, 0))) 12 = .ref (P.2.2.1 (3, 3, 0)) ∧ ez_isO ((ez_nw (xh h0 P c) E k).1 (P.2.2.1 (3, 3, 0))) 0 = true ∧ ez_ev g 151 [.ref (P.2.2.1 (3, 3, 0))] (ez_nw (xh h0 P c) E k) = some (some (.int (nI n)), ez_nw (xh h0 P c) E k) := fun E k => by
        rw [xh_nw q0, ← v3.1]
        exact tops_3 (xw_nw w) l1 rfl rfl
      rw [e58]
      simp only [s58_0, s58_1, s58_4, s58_7, s58_9, s58_12, s58_13, s58_14, s58_15, s58_18, s58_21, s58_22, s58_23, s58_26, s58_29, s58_32, s58_35, s58_36, s58_37, s58_40, s58_43, s58_44, s58_45, zl_n, zl_i, zl_r, zl_0, z10, z01, ez_bd_s, ez_bd_n, eq_self, true_or, or_true, if_true, if_false, zb_eq, zb_eq1, zb_em, zb_em2, ite_not, List.append_nil, List.cons_append, List.nil_append, reduceCtorEq, not_true_eq_false, not_false_eq_true, xo1, xa1, xf1_0, xv1_0, xp1_0, xf1_1, xv1_1, xf1_2, xv1_2, xp1_2, xf1_3, xv1_3, xf1_4, xv1_4, xf1_5, xv1_5, xp1_5, xf1_6, xv1_6, xp1_6, xf1_7, xv1_7, xf1_8, xv1_8, xf1_9, xv1_9, xf1_10, xv1_10, xf1_11, xv1_11, xf1_12, xv1_12, xf1_13, xv1_13, xf1_14, xv1_14, xp1_14, xo3, xa3, xf3_0, xv3_0, xp3_0, xf3_1, xv3_1, xf3_2, xv3_2, xp3_2, xo5, xa5, xf5_0, xv5_0, xp5_0, xf5_1, xv5_1, xp5_1, xf5_2, xv5_2, xp5_2, xf5_3, xv5_3, xp5_3, xf5_4, xv5_4, xp5_4, xf5_5, xv5_5, xp5_5, xf5_6, xv5_6, xp5_6, xf5_7, xv5_7, xp5_7, xf5_8, xv5_8, xp5_8, xf5_9, xv5_9, xp5_9, xf5_10, xv5_10, xp5_10, xf5_11, xv5_11, xp5_11, xf5_12, xv5_12, xp5_12, xo6, xa6, xf6_0, xv6_0, xp6_0, xf6_1, xv6_1, xp6_1, xf6_2, xv6_2, xp6_2, xo7, xa7, xf7_0, xv7_0, xp7_0, xf7_1, xv7_1, xp7_1, xf7_2, xv7_2, xp7_2, xf7_3, xv7_3, xp7_3, xf7_4, xv7_4, xf7_5, xv7_5, xo8, xa8, xf8_0, xv8_0, xp8_0, xf8_1, xv8_1, xo10, xa10, xf10_0, xv10_0, xp10_0, xf10_1, xv10_1, xp10_1, xf10_2, xv10_2, xp10_2, xf10_3, xv10_3, xf10_4, xv10_4, xo12, xa12, xf12_0, xv12_0, xf12_1, xv12_1, xp12_1, xf12_2, xv12_2, xp12_2, xf12_3, xv12_3, xp12_3, xf12_4, xv12_4, xo13, xa13, xf13_0, xv13_0, xf13_1, xv13_1, xp13_1, xo14, xa14, xf14_0, xv14_0, xf14_1, xv14_1, xp14_1, xf14_2, xv14_2, xp14_2, xf14_3, xv14_3, xp14_3, ya2_1, yw2_1, yv2_1, yp2_1, yn2_1, yl2_1, ya2_3, yw2_3, yv2_3, yp2_3, yn2_3, yl2_3, ya2_10, yw2_10, yv2_10, yp2_10, yn2_10, yl2_10, ya2_11, yw2_11, yv2_11, yp2_11, yn2_11, yl2_11, ya9, yw9, yv9, yp9, yn9, yl9, ya11, yw11, yv11, yp11, yn11, yl11, ya15, yw15, yv15, yp15, yn15, yl15, ya16, yw16, yv16, yp16, yn16, yl16, ok10, ok11, ok1i, xu_s, xu_n, ne_eq, Prod.mk.injEq, Nat.reduceEqDiff, false_and, and_false, not_false_eq_true, l1, l21, l23, l16, l30, l31, l32, l210, l211, l33, l34, ok, q_size, v3.1, show (nI n < 20) = True from eq_true (nI_lt (b := 20) hn (by decide)), (tn _ _).1, (tn _ _).2.1, (tn _ _).2.2.1, (tn _ _).2.2.2, c_fleetInit, eN, e4, t0, t1, t2, t3, t4, e, nI_1, nI_pred]
    · have g1 : ∀ f j, cf (md_sI z 4 (z.1 4 + 1)) f j = cf z f j := fun f j => cf_cg (z1 := md_sI z 4 (z.1 4 + 1)) (z := z) rfl j
      have g2 : ∀ f j, cn (md_sI z 4 (z.1 4 + 1)) f j = cn z f j := fun f j => cn_cg (z1 := md_sI z 4 (z.1 4 + 1)) (z := z) rfl j
      show R3 P2 c2 (md_sI z 4 (z.1 4 + 1))
      unfold R3
      simp only [g1, g2]
      refine ⟨⟨by rw [hz4]; exact md_inN (by omega) (by decide), v2, by rw [hz4, nI_clamp (by omega)]; exact s2, lsz_cg v4 (hp _ (by rintro ⟨⟩) (by rintro ⟨⟩) (by rintro ⟨⟩) (by rintro ⟨⟩)) (by rw [hc _ (by rintro ⟨⟩) (by rintro ⟨⟩) (by rintro ⟨⟩) (by rintro ⟨⟩) (by rintro ⟨⟩) (by rintro ⟨⟩)]) (hc _ (by rintro ⟨⟩) (by rintro ⟨⟩) (by rintro ⟨⟩) (by rintro ⟨⟩) (by rintro ⟨⟩) (by rintro ⟨⟩))⟩, fun f hf => ?_, fun s hs => ?_, fun j hj => ?_, fun f hf => ?_, v9⟩
      · rw [hz4, nI_clamp (by omega)] at hf
        show c2 (4, 3, 0) f = nI f ∧ c2 (10, f, 0) 0 = nI f ∧ c2 (10, f, 0) 1 = z.2 25 f ∧ c2 (10, f, 0) 2 = z.2 26 f ∧ lsz P2 c2 7 f (cf z (nI f) (z.1 5).toNatClampNeg) ∧ (∀ m, m < 20 → c2 (11, f, 0) m = z.2 27 (20 * f + m)) ∧ (z.2 26 f = 0 → ∀ m, m < 20 → z.2 27 (20 * f + m) = 0)
        rw [x4]
        by_cases ef : f = n
        · subst ef
          obtain ⟨y1, y2, y3⟩ := v8 f (Nat.le_refl _)
          have hcf : cf z (nI f) (z.1 5).toNatClampNeg = 0 := cf_0 _ fun s hs h5 => by
            obtain ⟨-, -, -, -, -, -, -, y8, -⟩ := v6 s hs
            obtain ⟨y9, y10⟩ := md_inE y8
            rw [h5, nI_clamp (by omega)] at y10
            exact absurd y10 (Nat.lt_irrefl _)
          rw [hcf, x10, x11, y1, y2]
          exact ⟨pk_us, rfl, rfl, rfl, x7, fun m hm => (y3 m hm).symm, fun _ => y3⟩
        · obtain ⟨y1, y2, y3, y4, y5, y6⟩ := v5 f (by omega)
          have u1 : upd (c (4, 3, 0)) n (nI n) f = c (4, 3, 0) f := if_neg ef
          rw [u1, hc (10, f, 0) (by rintro ⟨⟩) (by rintro ⟨⟩) (by rintro ⟨⟩) (by rintro ⟨⟩; exact ef rfl) (by rintro ⟨⟩) (by rintro ⟨⟩), hc (11, f, 0) (by rintro ⟨⟩) (by rintro ⟨⟩) (by rintro ⟨⟩; exact ef rfl) (by rintro ⟨⟩) (by rintro ⟨⟩) (by rintro ⟨⟩)]
          exact ⟨y1, y2, y3, y4, lsz_cg y5 (hp _ (by rintro ⟨⟩; exact ef rfl) (by rintro ⟨⟩) (by rintro ⟨⟩) (by rintro ⟨⟩)) (by rw [hc _ (by rintro ⟨⟩; exact ef rfl) (by rintro ⟨⟩) (by rintro ⟨⟩) (by rintro ⟨⟩) (by rintro ⟨⟩) (by rintro ⟨⟩)]) (hc _ (by rintro ⟨⟩) (by rintro ⟨⟩; exact ef rfl) (by rintro ⟨⟩) (by rintro ⟨⟩) (by rintro ⟨⟩) (by rintro ⟨⟩)), y6⟩
      · obtain ⟨y1, y2, y3, y4, y5, y6, y7, y8, y9⟩ := v6 s hs
        have hfl := (md_inE y8).2
        show c2 (4, 4, 0) s = _ ∧ c2 (12, s, 0) 0 = _ ∧ c2 (12, s, 0) 1 = _ ∧ c2 (12, s, 0) 2 = _ ∧ c2 (12, s, 0) 3 = _ ∧ lsz P2 c2 8 s _ ∧ c2 (4, 7, (z.2 28 s).toNatClampNeg) _ = _ ∧ md_in (z.2 28 s) (z.1 4 + 1).toNatClampNeg = true ∧ _
        rw [hc (4, 4, 0) (by rintro ⟨⟩) (by rintro ⟨⟩) (by rintro ⟨⟩) (by rintro ⟨⟩) (by rintro ⟨⟩) (by rintro ⟨⟩), hc (12, s, 0) (by rintro ⟨⟩) (by rintro ⟨⟩) (by rintro ⟨⟩) (by rintro ⟨⟩) (by rintro ⟨⟩) (by rintro ⟨⟩), hc (4, 7, (z.2 28 s).toNatClampNeg) (by rintro ⟨⟩) (by intro h5; have := congrArg (fun x => x.2.2) h5; have h6 : (z.2 28 s).toNatClampNeg = n := this; omega) (by rintro ⟨⟩) (by rintro ⟨⟩) (by rintro ⟨⟩) (by rintro ⟨⟩)]
        refine ⟨y1, y2, y3, y4, y5, lsz_cg y6 (hp _ (by rintro ⟨⟩) (by rintro ⟨⟩) (by rintro ⟨⟩) (by rintro ⟨⟩)) (by rw [hc _ (by rintro ⟨⟩) (by rintro ⟨⟩) (by rintro ⟨⟩) (by rintro ⟨⟩) (by rintro ⟨⟩) (by rintro ⟨⟩)]) (hc _ (by rintro ⟨⟩) (by rintro ⟨⟩) (by rintro ⟨⟩) (by rintro ⟨⟩) (by rintro ⟨⟩) (by rintro ⟨⟩)), y7, md_inM y8 ?_, y9⟩
        rw [e, nI_1, nI_clamp (by omega)]
        omega
      · show c2 (4, 8, (z.2 31 j).toNatClampNeg) _ = _ ∧ c2 (13, _, _) 0 = _ ∧ c2 (13, _, _) 1 = _
        rw [hc (4, 8, _) (by rintro ⟨⟩) (by rintro ⟨⟩) (by rintro ⟨⟩) (by rintro ⟨⟩) (by rintro ⟨⟩) (by rintro ⟨⟩), hc (13, _, _) (by rintro ⟨⟩) (by rintro ⟨⟩) (by rintro ⟨⟩) (by rintro ⟨⟩) (by rintro ⟨⟩) (by rintro ⟨⟩)]
        exact v7 j hj
      · rw [hz4, nI_clamp (by omega)] at hf
        exact v8 f (by omega)
    · intro r u0 hl
      have hN1 : n < (z.1 4 + 1).toNatClampNeg := by
        rw [e, nI_1, nI_clamp (by omega)]
        omega
      by_cases u1 : r = (4, 3, 0)
      · rw [u1]; exact (bd34 (by decide)).2
      · by_cases u2 : r = (3, 7, n)
        · rw [u2]; exact (bd37 hN1).1
        · by_cases u3 : r = (11, n, 0)
          · rw [u3]; exact bd11 hN1
          · by_cases u4 : r = (10, n, 0)
            · rw [u4]; exact bd10 hN1
            · refine bd_m (rv r u0 ((el r u0 u2 u3 u4 u1).mp hl)) (Nat.le_refl _) (Nat.le_refl _) ?_ (Nat.le_refl _) (Nat.le_refl _) (fun s => cn_le rfl rfl)
              show _ ≤ (z.1 4 + 1).toNatClampNeg
              omega
end O7
