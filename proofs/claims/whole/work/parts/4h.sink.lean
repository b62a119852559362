section OB
variable {g : ez_G} {h h0 h2 : ez_H} {P P2 : xP} {c c2 : xR → Nat → Int32} {z Z : md_S}
theorem RR_sink {i : Nat} (R : RR P c z) (hi : i < (z.1 5).toNatClampNeg) (hlost : z.2 30 i = 0) (hsail : ¬ z.2 25 (z.2 28 i).toNatClampNeg = 0) (z1 : Z.1 = z.1) (Za : ∀ t, t ≠ 18 → t ≠ 30 → Z.2 t = z.2 t) (Z30 : Z.2 30 = upd (z.2 30) i 1) (h8 : ∀ l, l < (z.1 3).toNatClampNeg → c2 (5, l, 0) 8 = Z.2 18 l) (h18 : ∀ l, (z.1 3).toNatClampNeg ≤ l → Z.2 18 l = 0) (h12 : ∀ l, l < (z.1 3).toNatClampNeg → c2 (5, l, 0) 12 = c (5, l, 0) 12 + l_sum (lo z i l) (z.1 6).toNatClampNeg) (h5 : ∀ l t, t ≠ 8 → t ≠ 12 → c2 (5, l, 0) t = c (5, l, 0) t) (hc : ∀ r, r.1 ≠ 5 → r ≠ (12, i, 0) → c2 r = c r) (hs : ∀ t, t ≠ 3 → c2 (12, i, 0) t = c (12, i, 0) t) (hs3 : c2 (12, i, 0) 3 = 1) : RR P c2 Z := by
  obtain ⟨⟨a1, a2, a3, a4, a5⟩, ⟨b1, b2, b3⟩, ⟨d1, d2, d3⟩, m0, m1, m7, m36⟩ := R.2.1; have r1 := R.2.2.1; have r2 := R.2.2.2.1; have r5 := R.2.2.2.2.1; have r3 := R.2.2.2.2.2.1; have r4 := R.2.2.2.2.2.2.1; have rv := R.2.2.2.2.2.2.2; have r0 := R.2.1
  obtain ⟨⟨v1, v2, v3, v4⟩, v5, v6, v7, v8, v9⟩ := r3
  have hb5 := (md_inE v2).2
  have hb3 := (md_inE r2.1).2
  refine ⟨R.1, R0_cg r0 (hc _ (show 1 ≠ 5 by decide) (by rintro ⟨⟩)) (hc _ (show 2 ≠ 5 by decide) (by rintro ⟨⟩)) (hc _ (show 2 ≠ 5 by decide) (by rintro ⟨⟩)) (hc _ (show 16 ≠ 5 by decide) (by rintro ⟨⟩)) (hc _ (show 2 ≠ 5 by decide) (by rintro ⟨⟩)) (hc _ (show 2 ≠ 5 by decide) (by rintro ⟨⟩)) (by rw [z1]) (by rw [z1]) (by rw [z1]) (by rw [z1]) (by rw [z1]) (Za _ (by decide) (by decide)) (Za _ (by decide) (by decide)) (Za _ (by decide) (by decide)) (Za _ (by decide) (by decide)) (Za _ (by decide) (by decide)), R1_cg r1 rfl (by rw [hc _ (show 3 ≠ 5 by decide) (by rintro ⟨⟩)]) (hc _ (show 4 ≠ 5 by decide) (by rintro ⟨⟩)) (fun _ => hc _ (show 6 ≠ 5 by decide) (by rintro ⟨⟩)) (by rw [z1]) (Za _ (by decide) (by decide)) (Za _ (by decide) (by decide)) (Za _ (by decide) (by decide)), ?_, ?_, ?_, R4_cg r4 (fun _ _ _ => rfl) (fun _ _ _ => ⟨by rw [hc _ (show 3 ≠ 5 by decide) (by rintro ⟨⟩)], hc _ (show 4 ≠ 5 by decide) (by rintro ⟨⟩)⟩) (fun _ _ => hc _ (show 7 ≠ 5 by decide) (by rintro ⟨⟩)) (fun _ _ => hc _ (show 8 ≠ 5 by decide) (by rintro ⟨⟩)) (fun _ _ => hc _ (show 9 ≠ 5 by decide) (by rintro ⟨⟩)) (by rw [z1]) (fun t u1 u2 => Za t (by omega) (by omega)), RV_cg rv (by rw [z1]) (by rw [z1]) (by rw [z1]) (by rw [z1]) (by rw [z1]) (by rw [z1]) (Za _ (by decide) (by decide))⟩
  · obtain ⟨u1, u2, u3, u4⟩ := r2
    unfold R2
    rw [z1]
    refine ⟨u1, lsz_cg u2 rfl (by rw [hc _ (show 3 ≠ 5 by decide) (by rintro ⟨⟩)]) (hc _ (show 4 ≠ 5 by decide) (by rintro ⟨⟩)), fun j hj => ?_, fun j hj => ?_⟩
    · obtain ⟨y4, ⟨x0, x1, x2, x3, x4, x5, x6, x7, x8, x9, x10⟩, b12⟩ := u3 j hj
      unfold LF
      rw [z1, hc (4, 2, 0) (show 4 ≠ 5 by decide) (by rintro ⟨⟩), h5 _ 0 (by decide) (by decide), h5 _ 1 (by decide) (by decide), h5 _ 2 (by decide) (by decide), h5 _ 3 (by decide) (by decide), h5 _ 4 (by decide) (by decide), h5 _ 5 (by decide) (by decide), h5 _ 6 (by decide) (by decide), h5 _ 7 (by decide) (by decide), h5 _ 9 (by decide) (by decide), h5 _ 10 (by decide) (by decide), h8 j hj, Za 12 (by decide) (by decide), Za 13 (by decide) (by decide), Za 14 (by decide) (by decide), Za 15 (by decide) (by decide), Za 16 (by decide) (by decide), Za 17 (by decide) (by decide), Za 19 (by decide) (by decide), Za 20 (by decide) (by decide), Za 21 (by decide) (by decide), Za 22 (by decide) (by decide)]
      exact ⟨y4, ⟨x0, x1, x2, x3, x4, x5, x6, x7, rfl, x9, x10⟩, b12⟩
    · rw [Za 17 (by decide) (by decide), Za 20 (by decide) (by decide)]
      obtain ⟨w1, w2, w3⟩ := u4 j hj
      exact ⟨w1, h18 j hj, w3⟩
  · unfold R5
    rw [z1, Za 31 (by decide) (by decide), Za 32 (by decide) (by decide), Za 33 (by decide) (by decide)]
    refine ⟨fun l hl => ?_, r5.2⟩
    obtain ⟨i1, i2⟩ := r5.1 l hl
    have e0 : pl_ld Z (nI l) 0 = pl_ld z (nI l) 0 := by
      funext j
      unfold pl_ld
      rw [Za 32 (by decide) (by decide), Za 33 (by decide) (by decide), if_pos rfl, if_pos rfl]
    have e1 : l_sum (pl_ld Z (nI l) 1) (z.1 6).toNatClampNeg = l_sum (fun j => pl_ld z (nI l) 1 j + lo z i l j) (z.1 6).toNatClampNeg := l_sum_cg _ fun j hj => by
      obtain ⟨k1, k2, k3⟩ := r5.2.2 j hj
      obtain ⟨es, hs'⟩ := md_inE k1
      unfold pl_ld lo
      rw [Z30, Za 31 (by decide) (by decide), Za 32 (by decide) (by decide), Za 33 (by decide) (by decide), if_neg (show ¬ (1 : Int32) = 0 by decide), if_neg (show ¬ (1 : Int32) = 0 by decide)]
      by_cases w1 : z.2 32 j = nI l
      · rw [if_pos w1, if_pos w1, if_pos w1]
        unfold upd
        by_cases w2 : (z.2 31 j).toNatClampNeg = i
        · have w3 : z.2 31 j = nI i := by rw [es, w2]
          rw [if_pos w2, if_pos w3, w2, hlost, if_pos rfl, if_neg (show ¬ (1 : Int32) = 0 by decide), Int32.zero_add]
        · rw [if_neg w2, if_neg (show ¬ z.2 31 j = nI i from fun w3 => w2 (by rw [w3, nI_clamp (by omega)])), Int32.add_zero]
      · rw [if_neg w1, if_neg w1, if_neg w1, ite_self, Int32.add_zero]
    rw [e0, h5 _ 11 (by decide) (by decide), h12 l hl, i2, e1, l_sum_ad]
    exact ⟨i1, rfl⟩
  · have hcr : ∀ r, r.1 ≠ 5 → r ≠ (12, i, 0) → c2 r = c r := hc
    unfold R3
    rw [z1]
    simp only [cf_cg (z1 := Z) (z := z) (Za 28 (by decide) (by decide)), cn_cg (z1 := Z) (z := z) (Za 31 (by decide) (by decide)), pl_in_cg (z1 := Z) (z := z) (fun t h1 h2 => Za t (by omega) (by omega)), Z30, Za 25 (by decide) (by decide), Za 26 (by decide) (by decide), Za 27 (by decide) (by decide), Za 28 (by decide) (by decide), Za 29 (by decide) (by decide), Za 31 (by decide) (by decide), Za 32 (by decide) (by decide), Za 33 (by decide) (by decide)]
    have ls : ∀ {L i' n}, lsz P c L i' n → lsz P c2 L i' n := fun h => lsz_cg h rfl (by rw [hc _ (show 3 ≠ 5 by decide) (by rintro ⟨⟩)]) (hc _ (show 4 ≠ 5 by decide) (by rintro ⟨⟩))
    refine ⟨⟨v1, v2, ls v3, ls v4⟩, fun f hf => ?_, fun s hs' => ?_, fun j hj => ?_, v8, fun s hs' => ?_⟩
    · obtain ⟨i1, i2, i3, i4, i5, i6⟩ := v5 f hf
      rw [hc (4, 3, 0) (show 4 ≠ 5 by decide) (by rintro ⟨⟩), hc (10, f, 0) (show 10 ≠ 5 by decide) (by rintro ⟨⟩), hc (11, f, 0) (show 11 ≠ 5 by decide) (by rintro ⟨⟩)]
      exact ⟨i1, i2, i3, i4, ls i5, i6⟩
    · obtain ⟨i1, i2, i3, i4, i5, i6, i7, i8, i9, i10, i11, i12⟩ := v6 s hs'
      have hk : ∀ t, t ≠ 3 → c2 (12, s, 0) t = c (12, s, 0) t := fun t ht => by
        by_cases es : s = i
        · subst es; exact hs t ht
        · rw [hc _ (show 12 ≠ 5 by decide) (by rintro ⟨⟩; exact es rfl)]
      rw [hc (4, 4, 0) (show 4 ≠ 5 by decide) (by rintro ⟨⟩), hc (4, 7, _) (show 4 ≠ 5 by decide) (by rintro ⟨⟩), hk 0 (by decide), hk 1 (by decide), hk 2 (by decide)]
      refine ⟨i1, i2, i3, i4, ?_, ls i6, i7, i8, i9, i10, i11, ?_⟩
      · unfold upd
        by_cases es : s = i
        · subst es
          rw [if_pos rfl]
          exact hs3
        · rw [if_neg es, hc _ (show 12 ≠ 5 by decide) (by rintro ⟨⟩; exact es rfl)]
          exact i5
      · unfold upd
        by_cases es : s = i
        · subst es
          exact fun h => absurd h hsail
        · rw [if_neg es]
          exact i12
    · rw [hc (4, 8, _) (show 4 ≠ 5 by decide) (by rintro ⟨⟩), hc (13, _, _) (show 13 ≠ 5 by decide) (by rintro ⟨⟩)]
      exact v7 j hj
    · unfold upd
      rw [if_neg (by omega)]
      exact v9 s hs'
theorem o_sink {s : Int32} (w : xw h0 P c) (R : RR P c z) : xop g 62 [.int s] h0 P c (pm_sink z s) := by
  obtain ⟨l1, l21, l23, l16, l30, l31, l32, l210, l211, l33, l34⟩ := w_lvs w R.1; have ok := w.1
  obtain ⟨⟨a1, a2, a3, a4, a5⟩, ⟨b1, b2, b3⟩, ⟨d1, d2, d3⟩, m0, m1, m7, m36⟩ := R.2.1; have r1 := R.2.2.1; have r2 := R.2.2.2.1; have r5 := R.2.2.2.2.1; have r3 := R.2.2.2.2.2.1; have r4 := R.2.2.2.2.2.2.1; have rv := R.2.2.2.2.2.2.2; have r0 := R.2.1
  obtain ⟨⟨v1, v2, v3, v4⟩, v5, v6, v7, v8, v9⟩ := r3
  obtain ⟨ez5, hb5⟩ := md_inE v2
  obtain ⟨ez6, hb6⟩ := md_inE r5.2.1
  have hb4 := (md_inE v1).2
  have hb3 := (md_inE r2.1).2
  unfold pm_sink
  by_cases h1 : 0 ≤ s ∧ s ≤ z.1 5 - 1
  · rw [if_pos h1]
    have h1' := h1
    rw [ez5] at h1'
    obtain ⟨i, hi, rfl⟩ := ix_p (by omega) h1'
    obtain ⟨q, l12⟩ := c_shipAt (g := g) w R hi
    have c1 : (nI i).toNatClampNeg = i := nI_clamp (by omega)
    rw [c1]
    obtain ⟨y1, y2, y3, y4, y5, y6, y7, y8, y9, y10, y11, y12⟩ := v6 i hi
    obtain ⟨ef, hf⟩ := md_inE y8
    obtain ⟨-, -, g25, g26, -⟩ := v5 _ hf
    have hF : (c (12, i, 0) 0).toNatClampNeg = (z.2 28 i).toNatClampNeg := by rw [y2]
    have l10 : lv P (10, (c (12, i, 0) 0).toNatClampNeg, 0) := xw_cl w l12 (Or.inl rfl) (show 12 ≠ 0 by decide) (show 12 ≠ 3 by decide)
    rw [hF] at l10
    by_cases h2 : z.2 25 (z.2 28 i).toNatClampNeg = 0
    · rw [if_pos h2]
      refine xop_s (c1 := c) ?_ w R
      rw [e62]
      simp only [s62_0, s62_1, s62_2, s62_5, s62_5n, s62_6, s62_6n, s62_7n, s62_7, s62_10, s62_10n, s62_11, s62_14, s62_17, s62_20, s62_20n, s62_21, s62_24, s62_27, s62_27n, s62_28, s62_31, s62_34, s62_37, s62_38, s62_39, s62_40, s62_41, s62_44, s62_47, s62_47n, s62_48, s62_48n, s62_49, s62_49n, s62_50n, s62_50, s62_53, s62_53n, s62_54, s62_57, s62_60, s62_61, s62_64, s62_65, s62_68, zl_n, zl_i, zl_r, zl_0, z10, z01, ez_bd_s, ez_bd_n, eq_self, true_or, or_true, if_true, if_false, zb_eq, zb_eq1, zb_em, zb_em2, ite_not, List.append_nil, List.cons_append, List.nil_append, reduceCtorEq, not_true_eq_false, not_false_eq_true, xo1, xa1, xf1_0, xv1_0, xp1_0, xf1_1, xv1_1, xf1_2, xv1_2, xp1_2, xf1_3, xv1_3, xf1_4, xv1_4, xf1_5, xv1_5, xp1_5, xf1_6, xv1_6, xp1_6, xf1_7, xv1_7, xf1_8, xv1_8, xf1_9, xv1_9, xf1_10, xv1_10, xf1_11, xv1_11, xf1_12, xv1_12, xf1_13, xv1_13, xf1_14, xv1_14, xp1_14, xo3, xa3, xf3_0, xv3_0, xp3_0, xf3_1, xv3_1, xf3_2, xv3_2, xp3_2, xo5, xa5, xf5_0, xv5_0, xp5_0, xf5_1, xv5_1, xp5_1, xf5_2, xv5_2, xp5_2, xf5_3, xv5_3, xp5_3, xf5_4, xv5_4, xp5_4, xf5_5, xv5_5, xp5_5, xf5_6, xv5_6, xp5_6, xf5_7, xv5_7, xp5_7, xf5_8, xv5_8, xp5_8, xf5_9, xv5_9, xp5_9, xf5_10, xv5_10, xp5_10, xf5_11, xv5_11, xp5_11, xf5_12, xv5_12, xp5_12, xo6, xa6, xf6_0, xv6_0, xp6_0, xf6_1, xv6_1, xp6_1, xf6_2, xv6_2, xp6_2, xo7, xa7, xf7_0, xv7_0, xp7_0, xf7_1, xv7_1, xp7_1, xf7_2, xv7_2, xp7_2, xf7_3, xv7_3, xp7_3, xf7_4, xv7_4, xf7_5, xv7_5, xo8, xa8, xf8_0, xv8_0, xp8_0, xf8_1, xv8_1, xo10, xa10, xf10_0, xv10_0, xp10_0, xf10_1, xv10_1, xp10_1, xf10_2, xv10_2, xp10_2, xf10_3, xv10_3, xf10_4, xv10_4, xo12, xa12, xf12_0, xv12_0, xf12_1, xv12_1, xp12_1, xf12_2, xv12_2, xp12_2, xf12_3, xv12_3, xp12_3, xf12_4, xv12_4, xo13, xa13, xf13_0, xv13_0, xf13_1, xv13_1, xp13_1, xo14, xa14, xf14_0, xv14_0, xf14_1, xv14_1, xp14_1, xf14_2, xv14_2, xp14_2, xf14_3, xv14_3, xp14_3, ya2_1, yw2_1, yv2_1, yp2_1, yn2_1, yl2_1, ya2_3, yw2_3, yv2_3, yp2_3, yn2_3, yl2_3, ya2_10, yw2_10, yv2_10, yp2_10, yn2_10, yl2_10, ya2_11, yw2_11, yv2_11, yp2_11, yn2_11, yl2_11, ya9, yw9, yv9, yp9, yn9, yl9, ya11, yw11, yv11, yp11, yn11, yl11, ya15, yw15, yv15, yp15, yn15, yl15, ya16, yw16, yv16, yp16, yn16, yl16, ok10, ok11, ok1i, xu_s, xu_n, ne_eq, Prod.mk.injEq, Nat.reduceEqDiff, false_and, and_false, not_false_eq_true, l1, l21, l23, l16, l30, l31, l32, l210, l211, l33, l34, ok, q, l12, hF, l10, g25, h2]
    · rw [if_neg h2]
      by_cases h3 : z.2 30 i = 0
      · rw [if_pos h3]
        by_cases h4 : z.2 26 (z.2 28 i).toNatClampNeg = 0
        · rw [if_pos h4, vb1]
          have hcn := cn_leq (z := z) (f := nI i) (z.1 6).toNatClampNeg
          have hm : ∀ m, m < cn z (nI i) (z.1 6).toNatClampNeg → c (4, 8, i) m = nI m := fun m hm => by
            obtain ⟨j, u1, u2, u3⟩ := cn_ex _ hm
            have := (v7 j u1).1
            rw [u2, c1, u3] at this
            exact this
          have hq := fun e => c_goDown (g := g) (e := e) w l12 y6 (by omega) hm
          have hrel := fun (e : Int32) => gd_rel (c := xu c (12, i, 0) 3 1) (z := z) (z1 := md_sA z 30 i 1) (i := i) (e := e) (N3 := (z.1 3).toNatClampNeg) (by omega) (md_A2n (by decide)) (md_A2n (by decide)) (z.1 6).toNatClampNeg (fun k hk => ⟨(r5.2.2 k hk).2.1, fun u2 => by
            have := (v7 k hk).2
            rw [u2, c1] at this
            rw [xu_n (by rintro ⟨⟩)]
            exact this⟩)
          generalize hK : cn z (nI i) (z.1 6).toNatClampNeg = K at *
          have x5 : ∀ l, xu c (12, i, 0) 3 1 (5, l, 0) = c (5, l, 0) := fun l => xu_n (by rintro ⟨⟩)
          have main : ∀ (e : Int32) (W : md_S × Int32), W.1.1 = z.1 → (∀ t, t ≠ 18 → W.1.2 t = (md_sA z 30 i 1).2 t) → (∀ l, l < (z.1 3).toNatClampNeg → (gd (xu c (12, i, 0) 3 1) i e K).1 (5, l, 0) 8 = W.1.2 18 l) → (∀ l, (z.1 3).toNatClampNeg ≤ l → W.1.2 18 l = 0) → (gd (xu c (12, i, 0) 3 1) i e K).2 = W.2 → ez_ev g 62 [.ref (P.2.2.1 (1, 0, 0)), .int (nI i)] (xh h0 P c) = some (some (.int (gd (xu c (12, i, 0) 3 1) i e K).2), xh h0 P (gd (xu c (12, i, 0) 3 1) i e K).1) → xop g 62 [.int (nI i)] h0 P c W := by
            intro e W w1 w2 w3 w4 w5 hev
            obtain ⟨g1, g2, -, -⟩ := hrel e
            rw [w5] at hev
            refine xop_s (c1 := (gd (xu c (12, i, 0) 3 1) i e K).1) hev (xw_gd (xw_12 w (by decide)) K) (RR_sink R hi h3 h2 w1 (fun t u1 u2 => by rw [w2 t u1, md_A2n u2]) (by rw [w2 30 (by decide), md_A2, if_pos rfl]) w3 w4 (fun l hl => by rw [g1 l hl, x5]) (fun l t u1 u2 => by rw [g2 l t u1 u2, x5]) (fun r u1 u2 => by rw [gd_n u1, xu_n u2]) (fun t ht => by rw [gd_n (show 12 ≠ 5 by decide), xu_t ht]) (by rw [gd_n (show 12 ≠ 5 by decide), xu_s, if_pos rfl]))
          have u18 : ∀ l, l < (z.1 3).toNatClampNeg → c (5, l, 0) 8 = z.2 18 l := fun l hl => (r2.2.2.1 l hl).2.1.2.2.2.2.2.2.2.2.1
          have m0' : md_in (z.1 0) 3001 = true := m0
          have none : xop g 62 [.int (nI i)] h0 P c (md_sA z 30 i 1, 0) ∨ ¬ ez_ev g 62 [.ref (P.2.2.1 (1, 0, 0)), .int (nI i)] (xh h0 P c) = some (some (.int (gd (xu c (12, i, 0) 3 1) i 0 K).2), xh h0 P (gd (xu c (12, i, 0) 3 1) i 0 K).1) := by
            by_cases hev : ez_ev g 62 [.ref (P.2.2.1 (1, 0, 0)), .int (nI i)] (xh h0 P c) = some (some (.int (gd (xu c (12, i, 0) 3 1) i 0 K).2), xh h0 P (gd (xu c (12, i, 0) 3 1) i 0 K).1)
            · obtain ⟨-, -, g3, -⟩ := hrel 0
              refine Or.inl (main 0 (md_sA z 30 i 1, 0) rfl (fun _ _ => rfl) (fun l hl => ?_) (fun l hl => ?_) (g3 rfl).2 hev)
              · rw [(g3 rfl).1 l, x5, u18 l hl]
                rfl
              · exact (r2.2.2.2 l hl).2.1
            · exact Or.inr hev
          rcases c_inForce (g := g) (day := z.1 0) w R with ⟨e3, q2⟩ | ⟨t, ht, e3, q2, l7⟩
          · rw [pf_in m0, e3]
            have hpl : ¬ plast z (-1) 3 = 1 := by unfold plast; rw [if_pos rfl]; decide
            rw [if_neg hpl]
            refine none.resolve_right (fun hne => hne ?_)
            rw [e62]
            simp only [s62_0, s62_1, s62_2, s62_5, s62_5n, s62_6, s62_6n, s62_7n, s62_7, s62_10, s62_10n, s62_11, s62_14, s62_17, s62_20, s62_20n, s62_21, s62_24, s62_27, s62_27n, s62_28, s62_31, s62_34, s62_37, s62_38, s62_39, s62_40, s62_41, s62_44, s62_47, s62_47n, s62_48, s62_48n, s62_49, s62_49n, s62_50n, s62_50, s62_53, s62_53n, s62_54, s62_57, s62_60, s62_61, s62_64, s62_65, s62_68, zl_n, zl_i, zl_r, zl_0, z10, z01, ez_bd_s, ez_bd_n, eq_self, true_or, or_true, if_true, if_false, zb_eq, zb_eq1, zb_em, zb_em2, ite_not, List.append_nil, List.cons_append, List.nil_append, reduceCtorEq, not_true_eq_false, not_false_eq_true, xo1, xa1, xf1_0, xv1_0, xp1_0, xf1_1, xv1_1, xf1_2, xv1_2, xp1_2, xf1_3, xv1_3, xf1_4, xv1_4, xf1_5, xv1_5, xp1_5, xf1_6, xv1_6, xp1_6, xf1_7, xv1_7, xf1_8, xv1_8, xf1_9, xv1_9, xf1_10, xv1_10, xf1_11, xv1_11, xf1_12, xv1_12, xf1_13, xv1_13, xf1_14, xv1_14, xp1_14, xo3, xa3, xf3_0, xv3_0, xp3_0, xf3_1, xv3_1, xf3_2, xv3_2, xp3_2, xo5, xa5, xf5_0, xv5_0, xp5_0, xf5_1, xv5_1, xp5_1, xf5_2, xv5_2, xp5_2, xf5_3, xv5_3, xp5_3, xf5_4, xv5_4, xp5_4, xf5_5, xv5_5, xp5_5, xf5_6, xv5_6, xp5_6, xf5_7, xv5_7, xp5_7, xf5_8, xv5_8, xp5_8, xf5_9, xv5_9, xp5_9, xf5_10, xv5_10, xp5_10, xf5_11, xv5_11, xp5_11, xf5_12, xv5_12, xp5_12, xo6, xa6, xf6_0, xv6_0, xp6_0, xf6_1, xv6_1, xp6_1, xf6_2, xv6_2, xp6_2, xo7, xa7, xf7_0, xv7_0, xp7_0, xf7_1, xv7_1, xp7_1, xf7_2, xv7_2, xp7_2, xf7_3, xv7_3, xp7_3, xf7_4, xv7_4, xf7_5, xv7_5, xo8, xa8, xf8_0, xv8_0, xp8_0, xf8_1, xv8_1, xo10, xa10, xf10_0, xv10_0, xp10_0, xf10_1, xv10_1, xp10_1, xf10_2, xv10_2, xp10_2, xf10_3, xv10_3, xf10_4, xv10_4, xo12, xa12, xf12_0, xv12_0, xf12_1, xv12_1, xp12_1, xf12_2, xv12_2, xp12_2, xf12_3, xv12_3, xp12_3, xf12_4, xv12_4, xo13, xa13, xf13_0, xv13_0, xf13_1, xv13_1, xp13_1, xo14, xa14, xf14_0, xv14_0, xf14_1, xv14_1, xp14_1, xf14_2, xv14_2, xp14_2, xf14_3, xv14_3, xp14_3, ya2_1, yw2_1, yv2_1, yp2_1, yn2_1, yl2_1, ya2_3, yw2_3, yv2_3, yp2_3, yn2_3, yl2_3, ya2_10, yw2_10, yv2_10, yp2_10, yn2_10, yl2_10, ya2_11, yw2_11, yv2_11, yp2_11, yn2_11, yl2_11, ya9, yw9, yv9, yp9, yn9, yl9, ya11, yw11, yv11, yp11, yn11, yl11, ya15, yw15, yv15, yp15, yn15, yl15, ya16, yw16, yv16, yp16, yn16, yl16, ok10, ok11, ok1i, xu_s, xu_n, ne_eq, Prod.mk.injEq, Nat.reduceEqDiff, false_and, and_false, not_false_eq_true, l1, l21, l23, l16, l30, l31, l32, l210, l211, l33, l34, ok, q, l12, hF, l10, g25, g26, y5, h2, h3, h4, a1, q2, hq]
          · rw [pf_in m0, e3]
            have ht20 := (md_inE r4.1.1).2
            obtain ⟨-, -, -, -, rs⟩ := r4.2.1 t ht
            have hpl : plast z (nI t) 3 = c (7, t, 0) 3 := by
              unfold plast
              rw [if_neg (by rw [nI_nm1 (by omega)]; exact id), nI_clamp (by omega)]
              exact rs.2.1.symm
            rw [hpl]
            have b3 : c (7, t, 0) 3 = 0 ∨ c (7, t, 0) 3 = 1 := by
              rw [rs.2.1]
              exact pv3 rs _ (Nat.le_refl _)
            rcases b3 with b3 | b3
            · rw [b3, if_neg (by decide)]
              refine none.resolve_right (fun hne => hne ?_)
              rw [e62]
              simp only [s62_0, s62_1, s62_2, s62_5, s62_5n, s62_6, s62_6n, s62_7n, s62_7, s62_10, s62_10n, s62_11, s62_14, s62_17, s62_20, s62_20n, s62_21, s62_24, s62_27, s62_27n, s62_28, s62_31, s62_34, s62_37, s62_38, s62_39, s62_40, s62_41, s62_44, s62_47, s62_47n, s62_48, s62_48n, s62_49, s62_49n, s62_50n, s62_50, s62_53, s62_53n, s62_54, s62_57, s62_60, s62_61, s62_64, s62_65, s62_68, zl_n, zl_i, zl_r, zl_0, z10, z01, ez_bd_s, ez_bd_n, eq_self, true_or, or_true, if_true, if_false, zb_eq, zb_eq1, zb_em, zb_em2, ite_not, List.append_nil, List.cons_append, List.nil_append, reduceCtorEq, not_true_eq_false, not_false_eq_true, xo1, xa1, xf1_0, xv1_0, xp1_0, xf1_1, xv1_1, xf1_2, xv1_2, xp1_2, xf1_3, xv1_3, xf1_4, xv1_4, xf1_5, xv1_5, xp1_5, xf1_6, xv1_6, xp1_6, xf1_7, xv1_7, xf1_8, xv1_8, xf1_9, xv1_9, xf1_10, xv1_10, xf1_11, xv1_11, xf1_12, xv1_12, xf1_13, xv1_13, xf1_14, xv1_14, xp1_14, xo3, xa3, xf3_0, xv3_0, xp3_0, xf3_1, xv3_1, xf3_2, xv3_2, xp3_2, xo5, xa5, xf5_0, xv5_0, xp5_0, xf5_1, xv5_1, xp5_1, xf5_2, xv5_2, xp5_2, xf5_3, xv5_3, xp5_3, xf5_4, xv5_4, xp5_4, xf5_5, xv5_5, xp5_5, xf5_6, xv5_6, xp5_6, xf5_7, xv5_7, xp5_7, xf5_8, xv5_8, xp5_8, xf5_9, xv5_9, xp5_9, xf5_10, xv5_10, xp5_10, xf5_11, xv5_11, xp5_11, xf5_12, xv5_12, xp5_12, xo6, xa6, xf6_0, xv6_0, xp6_0, xf6_1, xv6_1, xp6_1, xf6_2, xv6_2, xp6_2, xo7, xa7, xf7_0, xv7_0, xp7_0, xf7_1, xv7_1, xp7_1, xf7_2, xv7_2, xp7_2, xf7_3, xv7_3, xp7_3, xf7_4, xv7_4, xf7_5, xv7_5, xo8, xa8, xf8_0, xv8_0, xp8_0, xf8_1, xv8_1, xo10, xa10, xf10_0, xv10_0, xp10_0, xf10_1, xv10_1, xp10_1, xf10_2, xv10_2, xp10_2, xf10_3, xv10_3, xf10_4, xv10_4, xo12, xa12, xf12_0, xv12_0, xf12_1, xv12_1, xp12_1, xf12_2, xv12_2, xp12_2, xf12_3, xv12_3, xp12_3, xf12_4, xv12_4, xo13, xa13, xf13_0, xv13_0, xf13_1, xv13_1, xp13_1, xo14, xa14, xf14_0, xv14_0, xf14_1, xv14_1, xp14_1, xf14_2, xv14_2, xp14_2, xf14_3, xv14_3, xp14_3, ya2_1, yw2_1, yv2_1, yp2_1, yn2_1, yl2_1, ya2_3, yw2_3, yv2_3, yp2_3, yn2_3, yl2_3, ya2_10, yw2_10, yv2_10, yp2_10, yn2_10, yl2_10, ya2_11, yw2_11, yv2_11, yp2_11, yn2_11, yl2_11, ya9, yw9, yv9, yp9, yn9, yl9, ya11, yw11, yv11, yp11, yn11, yl11, ya15, yw15, yv15, yp15, yn15, yl15, ya16, yw16, yv16, yp16, yn16, yl16, ok10, ok11, ok1i, xu_s, xu_n, ne_eq, Prod.mk.injEq, Nat.reduceEqDiff, false_and, and_false, not_false_eq_true, l1, l21, l23, l16, l30, l31, l32, l210, l211, l33, l34, ok, q, l12, hF, l10, g25, g26, y5, h2, h3, h4, a1, q2, l7, b3, hq]
            · rw [b3, if_pos rfl]
              obtain ⟨-, -, -, g4⟩ := hrel 1
              obtain ⟨g5, g6⟩ := g4 (by decide) (fun l hl => by rw [x5, u18 l hl]; rfl)
              refine main 1 (psk (md_sA z 30 i 1) (nI i) (z.1 6).toNatClampNeg) (psk_I _) (fun t ht => psk_A ht _) g5 (fun l hl => ?_) g6 ?_
              · rw [psk_18 _ (fun j hj e5 => by
                  have := (md_inE (r5.2.2 j hj).2.1).2
                  have e6 : (z.2 32 j).toNatClampNeg = l := e5
                  omega)]
                exact (r2.2.2.2 l hl).2.1
              · rw [e62]
                simp only [s62_0, s62_1, s62_2, s62_5, s62_5n, s62_6, s62_6n, s62_7n, s62_7, s62_10, s62_10n, s62_11, s62_14, s62_17, s62_20, s62_20n, s62_21, s62_24, s62_27, s62_27n, s62_28, s62_31, s62_34, s62_37, s62_38, s62_39, s62_40, s62_41, s62_44, s62_47, s62_47n, s62_48, s62_48n, s62_49, s62_49n, s62_50n, s62_50, s62_53, s62_53n, s62_54, s62_57, s62_60, s62_61, s62_64, s62_65, s62_68, zl_n, zl_i, zl_r, zl_0, z10, z01, ez_bd_s, ez_bd_n, eq_self, true_or, or_true, if_true, if_false, zb_eq, zb_eq1, zb_em, zb_em2, ite_not, List.append_nil, List.cons_append, List.nil_append, reduceCtorEq, not_true_eq_false, not_false_eq_true, xo1, xa1, xf1_0, xv1_0, xp1_0, xf1_1, xv1_1, xf1_2, xv1_2, xp1_2, xf1_3, xv1_3, xf1_4, xv1_4, xf1_5, xv1_5, xp1_5, xf1_6, xv1_6, xp1_6, xf1_7, xv1_7, xf1_8, xv1_8, xf1_9, xv1_9, xf1_10, xv1_10, xf1_11, xv1_11, xf1_12, xv1_12, xf1_13, xv1_13, xf1_14, xv1_14, xp1_14, xo3, xa3, xf3_0, xv3_0, xp3_0, xf3_1, xv3_1, xf3_2, xv3_2, xp3_2, xo5, xa5, xf5_0, xv5_0, xp5_0, xf5_1, xv5_1, xp5_1, xf5_2, xv5_2, xp5_2, xf5_3, xv5_3, xp5_3, xf5_4, xv5_4, xp5_4, xf5_5, xv5_5, xp5_5, xf5_6, xv5_6, xp5_6, xf5_7, xv5_7, xp5_7, xf5_8, xv5_8, xp5_8, xf5_9, xv5_9, xp5_9, xf5_10, xv5_10, xp5_10, xf5_11, xv5_11, xp5_11, xf5_12, xv5_12, xp5_12, xo6, xa6, xf6_0, xv6_0, xp6_0, xf6_1, xv6_1, xp6_1, xf6_2, xv6_2, xp6_2, xo7, xa7, xf7_0, xv7_0, xp7_0, xf7_1, xv7_1, xp7_1, xf7_2, xv7_2, xp7_2, xf7_3, xv7_3, xp7_3, xf7_4, xv7_4, xf7_5, xv7_5, xo8, xa8, xf8_0, xv8_0, xp8_0, xf8_1, xv8_1, xo10, xa10, xf10_0, xv10_0, xp10_0, xf10_1, xv10_1, xp10_1, xf10_2, xv10_2, xp10_2, xf10_3, xv10_3, xf10_4, xv10_4, xo12, xa12, xf12_0, xv12_0, xf12_1, xv12_1, xp12_1, xf12_2, xv12_2, xp12_2, xf12_3, xv12_3, xp12_3, xf12_4, xv12_4, xo13, xa13, xf13_0, xv13_0, xf13_1, xv13_1, xp13_1, xo14, xa14, xf14_0, xv14_0, xf14_1, xv14_1, xp14_1, xf14_2, xv14_2, xp14_2, xf14_3, xv14_3, xp14_3, ya2_1, yw2_1, yv2_1, yp2_1, yn2_1, yl2_1, ya2_3, yw2_3, yv2_3, yp2_3, yn2_3, yl2_3, ya2_10, yw2_10, yv2_10, yp2_10, yn2_10, yl2_10, ya2_11, yw2_11, yv2_11, yp2_11, yn2_11, yl2_11, ya9, yw9, yv9, yp9, yn9, yl9, ya11, yw11, yv11, yp11, yn11, yl11, ya15, yw15, yv15, yp15, yn15, yl15, ya16, yw16, yv16, yp16, yn16, yl16, ok10, ok11, ok1i, xu_s, xu_n, ne_eq, Prod.mk.injEq, Nat.reduceEqDiff, false_and, and_false, not_false_eq_true, l1, l21, l23, l16, l30, l31, l32, l210, l211, l33, l34, ok, q, l12, hF, l10, g25, g26, y5, h2, h3, h4, a1, q2, l7, b3, hq]
        · rw [if_neg h4]
          refine xop_s (c1 := c) ?_ w R
          rw [e62]
          simp only [s62_0, s62_1, s62_2, s62_5, s62_5n, s62_6, s62_6n, s62_7n, s62_7, s62_10, s62_10n, s62_11, s62_14, s62_17, s62_20, s62_20n, s62_21, s62_24, s62_27, s62_27n, s62_28, s62_31, s62_34, s62_37, s62_38, s62_39, s62_40, s62_41, s62_44, s62_47, s62_47n, s62_48, s62_48n, s62_49, s62_49n, s62_50n, s62_50, s62_53, s62_53n, s62_54, s62_57, s62_60, s62_61, s62_64, s62_65, s62_68, zl_n, zl_i, zl_r, zl_0, z10, z01, ez_bd_s, ez_bd_n, eq_self, true_or, or_true, if_true, if_false, zb_eq, zb_eq1, zb_em, zb_em2, ite_not, List.append_nil, List.cons_append, List.nil_append, reduceCtorEq, not_true_eq_false, not_false_eq_true, xo1, xa1, xf1_0, xv1_0, xp1_0, xf1_1, xv1_1, xf1_2, xv1_2, xp1_2, xf1_3, xv1_3, xf1_4, xv1_4, xf1_5, xv1_5, xp1_5, xf1_6, xv1_6, xp1_6, xf1_7, xv1_7, xf1_8, xv1_8, xf1_9, xv1_9, xf1_10, xv1_10, xf1_11, xv1_11, xf1_12, xv1_12, xf1_13, xv1_13, xf1_14, xv1_14, xp1_14, xo3, xa3, xf3_0, xv3_0, xp3_0, xf3_1, xv3_1, xf3_2, xv3_2, xp3_2, xo5, xa5, xf5_0, xv5_0, xp5_0, xf5_1, xv5_1, xp5_1, xf5_2, xv5_2, xp5_2, xf5_3, xv5_3, xp5_3, xf5_4, xv5_4, xp5_4, xf5_5, xv5_5, xp5_5, xf5_6, xv5_6, xp5_6, xf5_7, xv5_7, xp5_7, xf5_8, xv5_8, xp5_8, xf5_9, xv5_9, xp5_9, xf5_10, xv5_10, xp5_10, xf5_11, xv5_11, xp5_11, xf5_12, xv5_12, xp5_12, xo6, xa6, xf6_0, xv6_0, xp6_0, xf6_1, xv6_1, xp6_1, xf6_2, xv6_2, xp6_2, xo7, xa7, xf7_0, xv7_0, xp7_0, xf7_1, xv7_1, xp7_1, xf7_2, xv7_2, xp7_2, xf7_3, xv7_3, xp7_3, xf7_4, xv7_4, xf7_5, xv7_5, xo8, xa8, xf8_0, xv8_0, xp8_0, xf8_1, xv8_1, xo10, xa10, xf10_0, xv10_0, xp10_0, xf10_1, xv10_1, xp10_1, xf10_2, xv10_2, xp10_2, xf10_3, xv10_3, xf10_4, xv10_4, xo12, xa12, xf12_0, xv12_0, xf12_1, xv12_1, xp12_1, xf12_2, xv12_2, xp12_2, xf12_3, xv12_3, xp12_3, xf12_4, xv12_4, xo13, xa13, xf13_0, xv13_0, xf13_1, xv13_1, xp13_1, xo14, xa14, xf14_0, xv14_0, xf14_1, xv14_1, xp14_1, xf14_2, xv14_2, xp14_2, xf14_3, xv14_3, xp14_3, ya2_1, yw2_1, yv2_1, yp2_1, yn2_1, yl2_1, ya2_3, yw2_3, yv2_3, yp2_3, yn2_3, yl2_3, ya2_10, yw2_10, yv2_10, yp2_10, yn2_10, yl2_10, ya2_11, yw2_11, yv2_11, yp2_11, yn2_11, yl2_11, ya9, yw9, yv9, yp9, yn9, yl9, ya11, yw11, yv11, yp11, yn11, yl11, ya15, yw15, yv15, yp15, yn15, yl15, ya16, yw16, yv16, yp16, yn16, yl16, ok10, ok11, ok1i, xu_s, xu_n, ne_eq, Prod.mk.injEq, Nat.reduceEqDiff, false_and, and_false, not_false_eq_true, l1, l21, l23, l16, l30, l31, l32, l210, l211, l33, l34, ok, q, l12, hF, l10, g25, g26, y5, h2, h3, h4]
      · rw [if_neg h3]
        refine xop_s (c1 := c) ?_ w R
        rw [e62]
        simp only [s62_0, s62_1, s62_2, s62_5, s62_5n, s62_6, s62_6n, s62_7n, s62_7, s62_10, s62_10n, s62_11, s62_14, s62_17, s62_20, s62_20n, s62_21, s62_24, s62_27, s62_27n, s62_28, s62_31, s62_34, s62_37, s62_38, s62_39, s62_40, s62_41, s62_44, s62_47, s62_47n, s62_48, s62_48n, s62_49, s62_49n, s62_50n, s62_50, s62_53, s62_53n, s62_54, s62_57, s62_60, s62_61, s62_64, s62_65, s62_68, zl_n, zl_i, zl_r, zl_0, z10, z01, ez_bd_s, ez_bd_n, eq_self, true_or, or_true, if_true, if_false, zb_eq, zb_eq1, zb_em, zb_em2, ite_not, List.append_nil, List.cons_append, List.nil_append, reduceCtorEq, not_true_eq_false, not_false_eq_true, xo1, xa1, xf1_0, xv1_0, xp1_0, xf1_1, xv1_1, xf1_2, xv1_2, xp1_2, xf1_3, xv1_3, xf1_4, xv1_4, xf1_5, xv1_5, xp1_5, xf1_6, xv1_6, xp1_6, xf1_7, xv1_7, xf1_8, xv1_8, xf1_9, xv1_9, xf1_10, xv1_10, xf1_11, xv1_11, xf1_12, xv1_12, xf1_13, xv1_13, xf1_14, xv1_14, xp1_14, xo3, xa3, xf3_0, xv3_0, xp3_0, xf3_1, xv3_1, xf3_2, xv3_2, xp3_2, xo5, xa5, xf5_0, xv5_0, xp5_0, xf5_1, xv5_1, xp5_1, xf5_2, xv5_2, xp5_2, xf5_3, xv5_3, xp5_3, xf5_4, xv5_4, xp5_4, xf5_5, xv5_5, xp5_5, xf5_6, xv5_6, xp5_6, xf5_7, xv5_7, xp5_7, xf5_8, xv5_8, xp5_8, xf5_9, xv5_9, xp5_9, xf5_10, xv5_10, xp5_10, xf5_11, xv5_11, xp5_11, xf5_12, xv5_12, xp5_12, xo6, xa6, xf6_0, xv6_0, xp6_0, xf6_1, xv6_1, xp6_1, xf6_2, xv6_2, xp6_2, xo7, xa7, xf7_0, xv7_0, xp7_0, xf7_1, xv7_1, xp7_1, xf7_2, xv7_2, xp7_2, xf7_3, xv7_3, xp7_3, xf7_4, xv7_4, xf7_5, xv7_5, xo8, xa8, xf8_0, xv8_0, xp8_0, xf8_1, xv8_1, xo10, xa10, xf10_0, xv10_0, xp10_0, xf10_1, xv10_1, xp10_1, xf10_2, xv10_2, xp10_2, xf10_3, xv10_3, xf10_4, xv10_4, xo12, xa12, xf12_0, xv12_0, xf12_1, xv12_1, xp12_1, xf12_2, xv12_2, xp12_2, xf12_3, xv12_3, xp12_3, xf12_4, xv12_4, xo13, xa13, xf13_0, xv13_0, xf13_1, xv13_1, xp13_1, xo14, xa14, xf14_0, xv14_0, xf14_1, xv14_1, xp14_1, xf14_2, xv14_2, xp14_2, xf14_3, xv14_3, xp14_3, ya2_1, yw2_1, yv2_1, yp2_1, yn2_1, yl2_1, ya2_3, yw2_3, yv2_3, yp2_3, yn2_3, yl2_3, ya2_10, yw2_10, yv2_10, yp2_10, yn2_10, yl2_10, ya2_11, yw2_11, yv2_11, yp2_11, yn2_11, yl2_11, ya9, yw9, yv9, yp9, yn9, yl9, ya11, yw11, yv11, yp11, yn11, yl11, ya15, yw15, yv15, yp15, yn15, yl15, ya16, yw16, yv16, yp16, yn16, yl16, ok10, ok11, ok1i, xu_s, xu_n, ne_eq, Prod.mk.injEq, Nat.reduceEqDiff, false_and, and_false, not_false_eq_true, l1, l21, l23, l16, l30, l31, l32, l210, l211, l33, l34, ok, q, l12, hF, l10, g25, y5, h2, h3]
  · rw [if_neg h1]
    refine xop_s (c1 := c) ?_ w R
    rw [e62]
    simp only [s62_0, s62_1, s62_2, s62_5, s62_5n, s62_6, s62_6n, s62_7n, s62_7, s62_10, s62_10n, s62_11, s62_14, s62_17, s62_20, s62_20n, s62_21, s62_24, s62_27, s62_27n, s62_28, s62_31, s62_34, s62_37, s62_38, s62_39, s62_40, s62_41, s62_44, s62_47, s62_47n, s62_48, s62_48n, s62_49, s62_49n, s62_50n, s62_50, s62_53, s62_53n, s62_54, s62_57, s62_60, s62_61, s62_64, s62_65, s62_68, zl_n, zl_i, zl_r, zl_0, z10, z01, ez_bd_s, ez_bd_n, eq_self, true_or, or_true, if_true, if_false, zb_eq, zb_eq1, zb_em, zb_em2, ite_not, List.append_nil, List.cons_append, List.nil_append, reduceCtorEq, not_true_eq_false, not_false_eq_true, xo1, xa1, xf1_0, xv1_0, xp1_0, xf1_1, xv1_1, xf1_2, xv1_2, xp1_2, xf1_3, xv1_3, xf1_4, xv1_4, xf1_5, xv1_5, xp1_5, xf1_6, xv1_6, xp1_6, xf1_7, xv1_7, xf1_8, xv1_8, xf1_9, xv1_9, xf1_10, xv1_10, xf1_11, xv1_11, xf1_12, xv1_12, xf1_13, xv1_13, xf1_14, xv1_14, xp1_14, xo3, xa3, xf3_0, xv3_0, xp3_0, xf3_1, xv3_1, xf3_2, xv3_2, xp3_2, xo5, xa5, xf5_0, xv5_0, xp5_0, xf5_1, xv5_1, xp5_1, xf5_2, xv5_2, xp5_2, xf5_3, xv5_3, xp5_3, xf5_4, xv5_4, xp5_4, xf5_5, xv5_5, xp5_5, xf5_6, xv5_6, xp5_6, xf5_7, xv5_7, xp5_7, xf5_8, xv5_8, xp5_8, xf5_9, xv5_9, xp5_9, xf5_10, xv5_10, xp5_10, xf5_11, xv5_11, xp5_11, xf5_12, xv5_12, xp5_12, xo6, xa6, xf6_0, xv6_0, xp6_0, xf6_1, xv6_1, xp6_1, xf6_2, xv6_2, xp6_2, xo7, xa7, xf7_0, xv7_0, xp7_0, xf7_1, xv7_1, xp7_1, xf7_2, xv7_2, xp7_2, xf7_3, xv7_3, xp7_3, xf7_4, xv7_4, xf7_5, xv7_5, xo8, xa8, xf8_0, xv8_0, xp8_0, xf8_1, xv8_1, xo10, xa10, xf10_0, xv10_0, xp10_0, xf10_1, xv10_1, xp10_1, xf10_2, xv10_2, xp10_2, xf10_3, xv10_3, xf10_4, xv10_4, xo12, xa12, xf12_0, xv12_0, xf12_1, xv12_1, xp12_1, xf12_2, xv12_2, xp12_2, xf12_3, xv12_3, xp12_3, xf12_4, xv12_4, xo13, xa13, xf13_0, xv13_0, xf13_1, xv13_1, xp13_1, xo14, xa14, xf14_0, xv14_0, xf14_1, xv14_1, xp14_1, xf14_2, xv14_2, xp14_2, xf14_3, xv14_3, xp14_3, ya2_1, yw2_1, yv2_1, yp2_1, yn2_1, yl2_1, ya2_3, yw2_3, yv2_3, yp2_3, yn2_3, yl2_3, ya2_10, yw2_10, yv2_10, yp2_10, yn2_10, yl2_10, ya2_11, yw2_11, yv2_11, yp2_11, yn2_11, yl2_11, ya9, yw9, yv9, yp9, yn9, yl9, ya11, yw11, yv11, yp11, yn11, yl11, ya15, yw15, yv15, yp15, yn15, yl15, ya16, yw16, yv16, yp16, yn16, yl16, ok10, ok11, ok1i, xu_s, xu_n, ne_eq, Prod.mk.injEq, Nat.reduceEqDiff, false_and, and_false, not_false_eq_true, l1, l21, l23, l16, l30, l31, l32, l210, l211, l33, l34, ok, c_shipAt_n w R h1]
end OB
