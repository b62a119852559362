section RT
variable {g : ez_G} {h h0 h2 : ez_H} {P P1 : xP} {c c1 : xR → Nat → Int32} {z z' Z : md_S} {S m t n N : Nat}
theorem c_readS (hg : g.1 = P.1) (X : xst g P h0) (w : xw h0 P c) (l14 : lv P (14, 0, 0)) (l7 : lv P (7, S, 0)) (l16 : lv P (16, 0, 0)) (hN : N ≤ 600) (Z37 : Z.1 37 = nI N) (Z38 : Z.1 38 = 0) (Z35 : ∀ i, i < N → Z.2 35 i = c (16, 0, 0) i) (Z41 : Z.2 41 S = 0) (c14 : c (14, 0, 0) = fun i => if i = 1 then nI N else 0) (c72 : c (7, S, 0) 2 = 0) (c73 : c (7, S, 0) 3 = 0) (s5 : lsz P c 5 S 0) (s6 : lsz P c 6 S 0) (n89 : ∀ κ, ¬ (lv P (8, S, κ) ∨ lv P (9, S, κ))) : ∃ v h1 P1 c1, ez_ev g 19 [.ref (P.2.2.1 (14, 0, 0)), .ref (P.2.2.1 (7, S, 0))] (xh h0 P c) = some (some (.int v), xh h1 P1 c1) ∧ xw h1 P1 c1 ∧ FR S h0 P c h1 P1 c1 48 6480 ∧ (((alp S 17 (pm_bl Z)).2 = 0 ∧ v = 0 ∧ c1 (14, 0, 0) 2 = (alp S 17 (pm_bl Z)).1.1 38) ∨ ((alp S 17 (pm_bl Z)).2 = 1 ∧ v = 1 ∧ ∃ N, N ≤ 16 ∧ (alp S 17 (pm_bl Z)).1.2 41 S = nI N ∧ RS P1 c1 (alp S 17 (pm_bl Z)).1 S N ∧ NL P1 (alp S 17 (pm_bl Z)).1 S N)) := by
  have d1 : c (14, 0, 0) 1 = nI N := by rw [c14]; rfl
  have d3 : c (14, 0, 0) 3 = nI 0 := by rw [c14]; rfl
  have q1 := c_next (g := g) (h0 := h0) l14 l16 w.1 d1 hN d3 (Nat.zero_le _)
  have ezs : zs Z = sk (c (16, 0, 0)) (N - 0) 0 := by
    unfold zs
    rw [Z37, Z38, nI_clamp (by omega), show (0 : Int32).toNatClampNeg = 0 by decide]
    exact sk_cg _ _ fun q _ hq => Z35 q (by omega)
  rw [← ezs] at q1
  have w1 : xw h0 P (xu (xu c (14, 0, 0) 2 (nI (zs Z))) (14, 0, 0) 3 (nI (tE (c (16, 0, 0)) N (zs Z)))) := xw_14 (xw_14 w)
  have f1 : ∀ r, r ≠ (14, 0, 0) → xu (xu c (14, 0, 0) 2 (nI (zs Z))) (14, 0, 0) 3 (nI (tE (c (16, 0, 0)) N (zs Z))) r = c r := fun r u => by rw [xu_n u, xu_n u]
  have r0 : RD (xu (xu c (14, 0, 0) 2 (nI (zs Z))) (14, 0, 0) 3 (nI (tE (c (16, 0, 0)) N (zs Z)))) Z := by
    refine ⟨⟨?_, ?_, ?_⟩, ?_, ?_, ?_, ?_⟩
    · rw [Z37]; exact md_inN (by omega) (by decide)
    · rw [Z38]; decide
    · rw [Z38]; exact Nat.zero_le _
    · rw [xu_t (by decide), xu_t (by decide), d1, Z37]
    · rw [xu_t (by decide), xu_s, if_pos rfl]
    · rw [xu_s, if_pos rfl, f1 _ (by rintro ⟨⟩), Z37, nI_clamp (by omega)]
    · rw [Z37, nI_clamp (by omega), f1 _ (by rintro ⟨⟩)]
      exact Z35
  generalize xu (xu c (14, 0, 0) 2 (nI (zs Z))) (14, 0, 0) 3 (nI (tE (c (16, 0, 0)) N (zs Z))) = c1 at *
  have r1 : RD c1 (pm_bl Z) := RD_st r0 rfl rfl rfl
  have z1 : zs (pm_bl Z) = zs Z := RD_z r0 rfl rfl rfl
  obtain ⟨v, h2, P2, c2, q2, w2, F2, res⟩ := lc_stat (g := g) (t := S) 16 0 rfl h0 P c1 (pm_bl Z) hg X w1 l14 l7 r1 (by rw [z1]; rfl) (show Z.2 41 S = nI 0 from Z41) ⟨by rw [f1 _ (by rintro ⟨⟩)]; exact c72, by rw [f1 _ (by rintro ⟨⟩)]; exact c73, lsz_cg s5 rfl (by rw [f1 _ (by rintro ⟨⟩)]) (f1 _ (by rintro ⟨⟩)), lsz_cg s6 rfl (by rw [f1 _ (by rintro ⟨⟩)]) (f1 _ (by rintro ⟨⟩)), fun s hs => absurd hs (by omega)⟩ (fun κ hκ => absurd hκ (n89 κ)) none
  refine ⟨v, h2, P2, c2, ?_, w2, FR_w (FR_t (FR_c (c1 := c1) (fun r' hr => f1 r' (niT hr iT14))) F2) (by decide) (by decide), res⟩
  rw [e19]
  simp only [s19_0, s19_1, s19_4, s19_5, s19_7, s19_9, s19_12, s19_13, s19_16, s19_17, s19_20, s19_23, s19_24, s19_26, s19_29, s19_32, s19_33, s19_33n, s19_34, s19_37, s19_40, s19_41, s19_43, s19_46, s19_49, s19_50, s19_50n, s19_51, s19_54, s19_57, s19_58, s19_60, s19_63, s19_66, s19_67, s19_67n, s19_68, s19_71, s19_74, s19_75, s19_77, s19_80, s19_83, s19_84, s19_84n, s19_85, s19_88, s19_91, s19_92, s19_95, s19_96, s19_97, s19_98, s19_101, s19_102, s19_103, s19_106, s19_109, s19_110, s19_113, s19_114, s19_117, s19_120, s19_121, s19_124, s19_125, zl_n, zl_i, zl_r, zl_0, z10, z01, ez_bd_s, ez_bd_n, eq_self, true_or, or_true, if_true, if_false, zb_eq, zb_eq1, zb_em, zb_em2, ite_not, List.append_nil, List.cons_append, List.nil_append, reduceCtorEq, not_true_eq_false, not_false_eq_true, xo1, xa1, xf1_0, xv1_0, xp1_0, xf1_1, xv1_1, xf1_2, xv1_2, xp1_2, xf1_3, xv1_3, xf1_4, xv1_4, xf1_5, xv1_5, xp1_5, xf1_6, xv1_6, xp1_6, xf1_7, xv1_7, xf1_8, xv1_8, xf1_9, xv1_9, xf1_10, xv1_10, xf1_11, xv1_11, xf1_12, xv1_12, xf1_13, xv1_13, xf1_14, xv1_14, xp1_14, xo3, xa3, xf3_0, xv3_0, xp3_0, xf3_1, xv3_1, xf3_2, xv3_2, xp3_2, xo5, xa5, xf5_0, xv5_0, xp5_0, xf5_1, xv5_1, xp5_1, xf5_2, xv5_2, xp5_2, xf5_3, xv5_3, xp5_3, xf5_4, xv5_4, xp5_4, xf5_5, xv5_5, xp5_5, xf5_6, xv5_6, xp5_6, xf5_7, xv5_7, xp5_7, xf5_8, xv5_8, xp5_8, xf5_9, xv5_9, xp5_9, xf5_10, xv5_10, xp5_10, xf5_11, xv5_11, xp5_11, xf5_12, xv5_12, xp5_12, xo6, xa6, xf6_0, xv6_0, xp6_0, xf6_1, xv6_1, xp6_1, xf6_2, xv6_2, xp6_2, xo7, xa7, xf7_0, xv7_0, xp7_0, xf7_1, xv7_1, xp7_1, xf7_2, xv7_2, xp7_2, xf7_3, xv7_3, xp7_3, xf7_4, xv7_4, xf7_5, xv7_5, xo8, xa8, xf8_0, xv8_0, xp8_0, xf8_1, xv8_1, xo10, xa10, xf10_0, xv10_0, xp10_0, xf10_1, xv10_1, xp10_1, xf10_2, xv10_2, xp10_2, xf10_3, xv10_3, xf10_4, xv10_4, xo12, xa12, xf12_0, xv12_0, xf12_1, xv12_1, xp12_1, xf12_2, xv12_2, xp12_2, xf12_3, xv12_3, xp12_3, xf12_4, xv12_4, xo13, xa13, xf13_0, xv13_0, xf13_1, xv13_1, xp13_1, xo14, xa14, xf14_0, xv14_0, xf14_1, xv14_1, xp14_1, xf14_2, xv14_2, xp14_2, xf14_3, xv14_3, xp14_3, ya2_1, yw2_1, yv2_1, yp2_1, yn2_1, yl2_1, ya2_3, yw2_3, yv2_3, yp2_3, yn2_3, yl2_3, ya2_10, yw2_10, yv2_10, yp2_10, yn2_10, yl2_10, ya2_11, yw2_11, yv2_11, yp2_11, yn2_11, yl2_11, ya9, yw9, yv9, yp9, yn9, yl9, ya11, yw11, yv11, yp11, yn11, yl11, ya15, yw15, yv15, yp15, yn15, yl15, ya16, yw16, yv16, yp16, yn16, yl16, ok10, ok11, ok1i, xu_s, xu_n, ne_eq, Prod.mk.injEq, Nat.reduceEqDiff, false_and, and_false, not_false_eq_true, l14, w.1, q1]
  exact q2
theorem ck_S {w : Int32} (ht : t ≠ S) (a : kS z z' S) : ∀ q, q ≤ 16 → ck z' w t q = ck z w t q
  | 0, _ => rfl
  | q + 1, h => by rw [ck, ck, ck_S ht a q (by omega), a.2.2.2.1 44 (16 * t + q) (by omega) (by omega) (by omega)]
theorem pv_S {w : Int32} (ht : t ≠ S) (a : kS z z' S) : ∀ q, q ≤ 16 → pv z' w t q = pv z w t q
  | 0, _ => rfl
  | q + 1, h => by rw [pv, pv, pv_S ht a q (by omega), a.2.2.2.1 44 (16 * t + q) (by omega) (by omega) (by omega), a.2.2.2.1 45 (16 * t + q) (by omega) (by omega) (by omega)]
theorem RC_S {f : Nat → Int32} {s m : Nat} (ht : t ≠ S) (a : kS z z' S) (hs : s < 16) (hm : m ≤ 3) (r : RC f z (16 * t + s) m) : RC f z' (16 * t + s) m := by
  intro so mn sh h1 h2 h3
  rw [r so mn sh h1 h2 h3]
  have e : ∀ q, q < m → (cnd z (16 * t + s) so mn sh q ↔ cnd z' (16 * t + s) so mn sh q) := fun q hq => by
    unfold cnd
    rw [a.2.2.2.2 47 _ (Or.inl rfl) (by omega), a.2.2.2.2 48 _ (Or.inr rfl) (by omega)]
  exact ⟨fun h q hq => (e q hq).mp (h q hq), fun h q hq => (e q hq).mpr (h q hq)⟩
/-- the other statutes stay as they are -/
theorem RS_S (ht : t ≠ S) (hn : n ≤ 16) (a : kS z z' S) (r : RS P c z t n) (hp : ∀ L, L = 5 ∨ L = 6 → P1.2.2.2 (3, L, t) = P.2.2.2 (3, L, t)) (h3 : ∀ L, L = 5 ∨ L = 6 → c1 (3, L, t) = c (3, L, t) ∧ c1 (4, L, t) = c (4, L, t)) (h7 : c1 (7, t, 0) = c (7, t, 0)) (h8 : ∀ j, c1 (8, t, j) = c (8, t, j) ∧ c1 (9, t, j) = c (9, t, j)) : RS P1 c1 z' t n := by
  obtain ⟨u1, u2, u3, u4, u5⟩ := r
  unfold RS
  rw [pv_S ht a n hn, pv_S ht a n hn, ck_S ht a n hn, ck_S ht a n hn, h7]
  refine ⟨u1, u2, lsz_cg u3 (hp 5 (by omega)) (by rw [(h3 5 (by omega)).1]) (h3 5 (by omega)).2, lsz_cg u4 (hp 6 (by omega)) (by rw [(h3 6 (by omega)).1]) (h3 6 (by omega)).2, fun s hs => ?_⟩
  obtain ⟨⟨v0, v0'⟩, v1, v2⟩ := u5 s hs
  have hm : (z.2 46 (16 * t + s)).toNatClampNeg ≤ 3 := by have := (md_inE v0).2; omega
  rw [a.2.2.2.1 44 (16 * t + s) (by omega) (by omega) (by omega), a.2.2.2.1 45 (16 * t + s) (by omega) (by omega) (by omega), a.2.2.2.1 46 (16 * t + s) (by omega) (by omega) (by omega), ck_S ht a s (by omega), ck_S ht a s (by omega), (h3 5 (by omega)).2, (h3 6 (by omega)).2]
  refine ⟨⟨v0, v0'⟩, fun hk => ?_, fun hk => ?_⟩
  · obtain ⟨x1, x2, x3, x4⟩ := v1 hk
    rw [(h8 _).1, (h8 _).2]
    exact ⟨x1, x2, x3, RC_S ht a (by omega) hm x4⟩
  · obtain ⟨x1, x2⟩ := v2 hk
    rw [(h8 _).2]
    exact ⟨x1, RC_S ht a (by omega) hm x2⟩
end RT
