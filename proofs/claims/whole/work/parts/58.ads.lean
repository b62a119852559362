section AS
variable {g : ez_G} {h h0 h2 h3 : ez_H} {P P3 : xP} {c c3 : xR → Nat → Int32} {z z' Z : md_S} {S m t n N K : Nat}
def d14 (r : xR) : Bool := r.1 == 14
theorem d14_f {r : xR} : d14 r = false ↔ ¬ r.1 = 14 := by
  unfold d14
  rw [beq_eq_false_iff_ne]
theorem d14_w {f : Nat → Int32} : ∀ r r', xrd r r' f → d14 r' = false := by
  intro r r' hx
  rw [d14_f]
  obtain ⟨k, i, j⟩ := r
  unfold xrd at hx
  split at hx
  · rcases hx with rfl | rfl | rfl | rfl | rfl | rfl | rfl | rfl | rfl | rfl <;> (dsimp only; omega)
  · subst hx; dsimp only; omega
  · obtain ⟨q, hq, rfl⟩ := hx
    unfold xel
    split <;> (dsimp only; omega)
  · rcases hx with rfl | rfl <;> (dsimp only; omega)
  · subst hx; dsimp only; omega
  · rcases hx with rfl | rfl <;> (dsimp only; omega)
  · rcases hx with rfl | rfl <;> (dsimp only; omega)
  · subst hx; dsimp only; omega
  · subst hx; dsimp only; omega
  · exact hx.elim
theorem a_succ (hg : g.1 = P.1) (w3 : xw h3 P3 c3) (R : RR P c z) (hS : S < 20) (eS : z.1 40 = nI S) (fr : ∀ r, ¬ inS S r → c3 r = c r ∧ P3.2.2.1 r = P.2.2.1 r ∧ P3.2.2.2 r = P.2.2.2 r) (lv3 : ∀ r, r.1 ≠ 0 → ¬ inS S r → (lv P3 r ↔ lv P r)) (l14 : lv P3 (14, 0, 0)) (l7 : lv P3 (7, S, 0)) (x3 : xfr h0 P h3 P3 52 6496) (c70 : c3 (7, S, 0) 0 = z.1 0) (c71 : c3 (7, S, 0) 1 = 0) (hK : K ≤ 16) (e41 : (pm_al z (nI N)).1.2 41 S = nI K) (rsS : RS P3 c3 (pm_al z (nI N)).1 S K) : ∃ h5 P5 c5, ez_rn g 45 62 [some (.ref (P3.2.2.1 (1, 0, 0))), some (.int (nI N)), some (.ref (P3.2.2.1 (7, S, 0))), some (.ref (P3.2.2.1 (14, 0, 0))), some (.int 1)] [] (xh h3 P3 c3) = some (some (.int (z.1 40 + 1 - 1)), xh h5 P5 c5) ∧ xw h5 P5 c5 ∧ RR P5 c5 (md_sI (md_sA (md_sI (pm_al z (nI N)).1 39 (-1)) 42 (z.1 40).toNatClampNeg (z.1 0)) 40 (z.1 40 + 1)) ∧ P5.2.2.1 (1, 0, 0) = P.2.2.1 (1, 0, 0) ∧ xfr h0 P h5 P5 1000 12000 := by
  have ok := w3.1
  have i1 : ¬ inS S (1, 0, 0) := by unfold inS; dsimp only; omega
  have i40 : ¬ inS S (4, 0, 0) := by unfold inS; dsimp only; omega
  have i30 : ¬ inS S (3, 0, 0) := by unfold inS; dsimp only; omega
  have l1 : lv P3 (1, 0, 0) := (lv3 _ (show 1 ≠ 0 by decide) i1).mpr R.1
  have l30 : lv P3 (3, 0, 0) := (w_lvs w3 l1).2.2.2.2.1
  have kc : (z.1 40).toNatClampNeg = S := by rw [eS, nI_clamp (by omega)]
  obtain ⟨⟨u1, u2⟩, u3, u4⟩ := R.2.2.2.2.2.2.1
  have rv := R.2.2.2.2.2.2.2
  rw [kc] at u2 u3 u4 ⊢
  obtain ⟨z1, z36, z2, z41, k, z44⟩ := az (N := N) eS hS
  generalize (pm_al z (nI N)).1 = A at *
  generalize pm_bl (pm_z2 z (nI N)) = B at *
  have w4 : xw h3 P3 (xu (xu c3 (1, 0, 0) 5 0) (1, 0, 0) 6 (-1)) := xw_1 (xw_1 w3)
  have s0 : lsz P3 (xu (xu c3 (1, 0, 0) 5 0) (1, 0, 0) 6 (-1)) 0 0 S := lsz_cg u2 (fr _ i30).2.2 (by rw [xu_n (by rintro ⟨⟩), xu_n (by rintro ⟨⟩), (fr _ i30).1]) (by rw [xu_n (by rintro ⟨⟩), xu_n (by rintro ⟨⟩), (fr _ i40).1])
  obtain ⟨h4, P4, e4, w5, gr, s4⟩ := q_add (g := g) (L := 0) (i := 0) (n := S) (v := S) w4 (hg.trans x3.1.symm) l30 s0 (by omega) (by omega) l7
  have e4 : ez_ev g 155 [.ref (P3.2.2.1 (3, 0, 0)), .ref (P3.2.2.1 (7, S, 0))] (xh h3 P3 (xu (xu c3 (1, 0, 0) 5 0) (1, 0, 0) 6 (-1))) = some (some (.int 1), xh h4 P4 (xad (xu (xu c3 (1, 0, 0) 5 0) (1, 0, 0) 6 (-1)) 0 0 S S)) := e4
  have hc3 : ∀ r, r ≠ (1, 0, 0) → r ≠ (3, 0, 0) → r ≠ (4, 0, 0) → xad (xu (xu c3 (1, 0, 0) 5 0) (1, 0, 0) 6 (-1)) 0 0 S S r = c3 r := fun r v1 v2 v3 => by rw [xad_n v2 v3, xu_n v1, xu_n v1]
  have h40 : xad (xu (xu c3 (1, 0, 0) 5 0) (1, 0, 0) 6 (-1)) 0 0 S S (4, 0, 0) = upd (c (4, 0, 0)) S (nI S) := by rw [xad_4, xu_n (by rintro ⟨⟩), xu_n (by rintro ⟨⟩), (fr _ i40).1]
  have h1 : ∀ s, s ≠ 5 → s ≠ 6 → xad (xu (xu c3 (1, 0, 0) 5 0) (1, 0, 0) 6 (-1)) 0 0 S S (1, 0, 0) s = c (1, 0, 0) s := fun s v1 v2 => by rw [xad_n (by rintro ⟨⟩) (by rintro ⟨⟩), xu_t v2, xu_t v1, (fr _ i1).1]
  have h15 : xad (xu (xu c3 (1, 0, 0) 5 0) (1, 0, 0) 6 (-1)) 0 0 S S (1, 0, 0) 5 = 0 := by rw [xad_n (by rintro ⟨⟩) (by rintro ⟨⟩), xu_t (by decide), xu_s, if_pos rfl]
  have h16 : xad (xu (xu c3 (1, 0, 0) 5 0) (1, 0, 0) 6 (-1)) 0 0 S S (1, 0, 0) 6 = -1 := by rw [xad_n (by rintro ⟨⟩) (by rintro ⟨⟩), xu_s, if_pos rfl]
  generalize xad (xu (xu c3 (1, 0, 0) 5 0) (1, 0, 0) 6 (-1)) 0 0 S S = c5 at *
  have l1' : lv P4 (1, 0, 0) := (gr.2.1 _ (show 1 ≠ 0 by decide) (by rintro ⟨⟩)).mpr l1
  have l30' : lv P4 (3, 0, 0) := (gr.2.1 _ (show 3 ≠ 0 by decide) (by rintro ⟨⟩)).mpr l30
  have t1 : ez_isF ((xh h4 P4 c5).1 (P3.2.2.1 (1, 0, 0))) 9 7 = true ∧ ez_vF ((xh h4 P4 c5).1 (P3.2.2.1 (1, 0, 0))) 7 = .ref (P3.2.2.1 (3, 0, 0)) ∧ ez_isO ((xh h4 P4 c5).1 (P3.2.2.1 (3, 0, 0))) 0 = true ∧ ez_ev g 151 [.ref (P3.2.2.1 (3, 0, 0))] (xh h4 P4 c5) = some (some (.int (nI (S + 1))), xh h4 P4 c5) := by
    rw [← gr.1 (1, 0, 0) (by rintro ⟨⟩), ← gr.1 (3, 0, 0) (by rintro ⟨⟩), ← s4.1]
    exact ⟨xf1_7 l1', xv1_7 l1', xo3 l30', q_size l30'⟩
  obtain ⟨t1, t2, t3, t4⟩ := t1
  have run : ez_rn g 45 62 [some (.ref (P3.2.2.1 (1, 0, 0))), some (.int (nI N)), some (.ref (P3.2.2.1 (7, S, 0))), some (.ref (P3.2.2.1 (14, 0, 0))), some (.int 1)] [] (xh h3 P3 c3) = some (some (.int (z.1 40 + 1 - 1)), xh h4 P4 c5) := by
    rw [s45_62, eS]
    simp only [s45_0, s45_1, s45_4, s45_5, s45_6, s45_9, s45_12, s45_14, s45_15, s45_16, s45_19, s45_22, s45_24, s45_27, s45_29, s45_30, s45_33, s45_34, s45_35, s45_38, s45_41, s45_42, s45_45, s45_46, s45_47, s45_50, s45_51, s45_54, s45_55, s45_56, s45_57, s45_60, s45_62, s45_63, s45_64, s45_67, s45_69, s45_72, s45_73, s45_74, s45_77, s45_80, s45_81, s45_82, s45_83, s45_84, s45_87, s45_88, s45_91, s45_92, s45_95, s45_96, s45_97, s45_100, s45_103, s45_104, s45_105, zl_n, zl_i, zl_r, zl_0, z10, z01, ez_bd_s, ez_bd_n, eq_self, true_or, or_true, if_true, if_false, zb_eq, zb_eq1, zb_em, zb_em2, ite_not, List.append_nil, List.cons_append, List.nil_append, reduceCtorEq, not_true_eq_false, not_false_eq_true, xo1, xa1, xf1_0, xv1_0, xp1_0, xf1_1, xv1_1, xf1_2, xv1_2, xp1_2, xf1_3, xv1_3, xf1_4, xv1_4, xf1_5, xv1_5, xp1_5, xf1_6, xv1_6, xp1_6, xf1_7, xv1_7, xf1_8, xv1_8, xf1_9, xv1_9, xf1_10, xv1_10, xf1_11, xv1_11, xf1_12, xv1_12, xf1_13, xv1_13, xf1_14, xv1_14, xp1_14, xo3, xa3, xf3_0, xv3_0, xp3_0, xf3_1, xv3_1, xf3_2, xv3_2, xp3_2, xo5, xa5, xf5_0, xv5_0, xp5_0, xf5_1, xv5_1, xp5_1, xf5_2, xv5_2, xp5_2, xf5_3, xv5_3, xp5_3, xf5_4, xv5_4, xp5_4, xf5_5, xv5_5, xp5_5, xf5_6, xv5_6, xp5_6, xf5_7, xv5_7, xp5_7, xf5_8, xv5_8, xp5_8, xf5_9, xv5_9, xp5_9, xf5_10, xv5_10, xp5_10, xf5_11, xv5_11, xp5_11, xf5_12, xv5_12, xp5_12, xo6, xa6, xf6_0, xv6_0, xp6_0, xf6_1, xv6_1, xp6_1, xf6_2, xv6_2, xp6_2, xo7, xa7, xf7_0, xv7_0, xp7_0, xf7_1, xv7_1, xp7_1, xf7_2, xv7_2, xp7_2, xf7_3, xv7_3, xp7_3, xf7_4, xv7_4, xf7_5, xv7_5, xo8, xa8, xf8_0, xv8_0, xp8_0, xf8_1, xv8_1, xo10, xa10, xf10_0, xv10_0, xp10_0, xf10_1, xv10_1, xp10_1, xf10_2, xv10_2, xp10_2, xf10_3, xv10_3, xf10_4, xv10_4, xo12, xa12, xf12_0, xv12_0, xf12_1, xv12_1, xp12_1, xf12_2, xv12_2, xp12_2, xf12_3, xv12_3, xp12_3, xf12_4, xv12_4, xo13, xa13, xf13_0, xv13_0, xf13_1, xv13_1, xp13_1, xo14, xa14, xf14_0, xv14_0, xf14_1, xv14_1, xp14_1, xf14_2, xv14_2, xp14_2, xf14_3, xv14_3, xp14_3, ya2_1, yw2_1, yv2_1, yp2_1, yn2_1, yl2_1, ya2_3, yw2_3, yv2_3, yp2_3, yn2_3, yl2_3, ya2_10, yw2_10, yv2_10, yp2_10, yn2_10, yl2_10, ya2_11, yw2_11, yv2_11, yp2_11, yn2_11, yl2_11, ya9, yw9, yv9, yp9, yn9, yl9, ya11, yw11, yv11, yp11, yn11, yl11, ya15, yw15, yv15, yp15, yn15, yl15, ya16, yw16, yv16, yp16, yn16, yl16, ok10, ok11, ok1i, xu_s, xu_n, ne_eq, Prod.mk.injEq, Nat.reduceEqDiff, false_and, and_false, not_false_eq_true, l1, l14, l30, ok, e4, t1, t2, t3, t4, nI_1, nI_pred]
  have hc : ∀ r, ¬ inS S r → r ≠ (1, 0, 0) → r ≠ (3, 0, 0) → r ≠ (4, 0, 0) → c5 r = c r := fun r v1 v2 v3 v4 => by rw [hc3 r v2 v3 v4, (fr r v1).1]
  have hp : ∀ r, ¬ inS S r → r ≠ (3, 0, 0) → (pdr P4 d14).2.2.2 r = P.2.2.2 r := fun r v1 v2 => (gr.2.2.1 r v2).trans (fr r v1).2.2
  have yy : ∀ s, s ≠ 39 → s ≠ 40 → (md_sI (md_sA (md_sI A 39 (-1)) 42 S (z.1 0)) 40 (z.1 40 + 1)).1 s = A.1 s := fun s v1 v2 => by
    show (if s = 40 then _ else if s = 39 then _ else A.1 s) = _
    rw [if_neg v2, if_neg v1]
  have y40 : (md_sI (md_sA (md_sI A 39 (-1)) 42 S (z.1 0)) 40 (z.1 40 + 1)).1 40 = nI (S + 1) := by
    show (if 40 = 40 then z.1 40 + 1 else (md_sA (md_sI A 39 (-1)) 42 S (z.1 0)).1 40) = _
    rw [if_pos rfl, eS, nI_1]
  have y39 : (-1 : Int32) = (md_sI (md_sA (md_sI A 39 (-1)) 42 S (z.1 0)) 40 (z.1 40 + 1)).1 39 := by
    show _ = (if 39 = 40 then z.1 40 + 1 else if 39 = 39 then (-1 : Int32) else A.1 39)
    rw [if_neg (by decide), if_pos rfl]
  have yv : ∀ s, s < 36 → (md_sI (md_sA (md_sI A 39 (-1)) 42 S (z.1 0)) 40 (z.1 40 + 1)).1 s = z.1 s := fun s hs => by rw [yy s (by omega) (by omega), z1 s (by omega) (by omega) (by omega) (by omega) (by omega)]
  have a2 : ∀ s, s ≠ 42 → (md_sI (md_sA (md_sI A 39 (-1)) 42 S (z.1 0)) 40 (z.1 40 + 1)).2 s = A.2 s := fun s hs => md_A2n hs
  have a42 : (md_sI (md_sA (md_sI A 39 (-1)) 42 S (z.1 0)) 40 (z.1 40 + 1)).2 42 = upd (z.2 42) S (z.1 0) := by
    show (md_sA (md_sI A 39 (-1)) 42 S (z.1 0)).2 42 = _
    rw [md_A2, if_pos rfl]
    show upd (A.2 42) S (z.1 0) = _
    rw [z2 42 (by decide) (by decide) (by decide)]
  have y36 : (md_sI (md_sA (md_sI A 39 (-1)) 42 S (z.1 0)) 40 (z.1 40 + 1)).1 36 = 0 := by rw [yy 36 (by decide) (by decide), z36]
  generalize md_sI (md_sA (md_sI A 39 (-1)) 42 S (z.1 0)) 40 (z.1 40 + 1) = V at *
  obtain ⟨r0, r1, r2, r5, r3⟩ := a_R03 (P5 := pdr P4 d14) (c5 := c5) (z' := V) R hc hp h1 h15 (h16.trans y39) yv y36 (fun s hs => by rw [a2 s (by omega), z2 s (by omega) (by omega) (by omega)])
  refine ⟨hdr h4 P4 c5 d14, pdr P4 d14, c5, by rw [run, xh_dr (S := d14)], xw_dr w5 (fun r r' _ _ _ hx _ => d14_w r r' hx), ⟨(lv_dr (show 1 ≠ 0 by decide)).mpr ⟨l1', rfl⟩, r0, r1, r2, r5, r3, ⟨⟨by rw [y40]; exact md_inN (by omega) (by decide), ?_⟩, ?_, ?_⟩, ?_⟩, (gr.1 _ (by rintro ⟨⟩)).trans (fr _ i1).2.1, xfr_w (xfr_t (xfr_t x3 gr.2.2.2) xfr_dr) (a := 52 + 1 + 0) (b := 6496 + 400 + 0) (by decide) (by decide)⟩
  · rw [y40, nI_clamp (by omega)]
    exact s4
  · intro t ht
    rw [y40, nI_clamp (by omega)] at ht
    rw [h40, a42, a2 43 (by decide), a2 41 (by decide), z2 43 (by decide) (by decide) (by decide)]
    by_cases et : t = S
    · subst et
      rw [hc3 _ (by rintro ⟨⟩) (by rintro ⟨⟩) (by rintro ⟨⟩), pk_us, pk_us, c70, c71, u4 t (Nat.le_refl _), e41, nI_clamp (by omega)]
      exact ⟨rfl, rfl, rfl, md_inN (by omega) (by decide), RS_cg rsS (fun L hL => gr.2.2.1 _ (by rintro ⟨⟩ <;> omega)) (fun L hL => ⟨by rw [hc3 _ (by rintro ⟨⟩) (by rintro ⟨⟩ <;> omega) (by rintro ⟨⟩)], hc3 _ (by rintro ⟨⟩) (by rintro ⟨⟩) (by rintro ⟨⟩ <;> omega)⟩) ⟨by rw [hc3 _ (by rintro ⟨⟩) (by rintro ⟨⟩) (by rintro ⟨⟩)], by rw [hc3 _ (by rintro ⟨⟩) (by rintro ⟨⟩) (by rintro ⟨⟩)]⟩ (fun j => ⟨hc3 _ (by rintro ⟨⟩) (by rintro ⟨⟩) (by rintro ⟨⟩), hc3 _ (by rintro ⟨⟩) (by rintro ⟨⟩) (by rintro ⟨⟩)⟩) (fun s v1 v2 => a2 s (by omega))⟩
    · obtain ⟨v1, v2, v3, v4, v5⟩ := u3 t (by omega)
      have i7 : ¬ inS S (7, t, 0) := by unfold inS; dsimp only; omega
      have hK' := (md_inE v4).2
      rw [hc _ i7 (by rintro ⟨⟩) (by rintro ⟨⟩) (by rintro ⟨⟩), z41 t et, show upd (c (4, 0, 0)) S (nI S) t = c (4, 0, 0) t from if_neg et, show upd (z.2 42) S (z.1 0) t = z.2 42 t from if_neg et]
      refine ⟨v1, v2, v3, v4, ?_⟩
      have rs1 : RS P c B t (z.2 41 t).toNatClampNeg := RS_cg v5 (fun _ _ => rfl) (fun _ _ => ⟨rfl, rfl⟩) ⟨rfl, rfl⟩ (fun _ => ⟨rfl, rfl⟩) z44
      have rs2 : RS (pdr P4 d14) c5 A t (z.2 41 t).toNatClampNeg := RS_S et (by omega) k rs1 (fun L hL => hp _ (by unfold inS; dsimp only; omega) (by rintro ⟨⟩ <;> omega)) (fun L hL => ⟨hc _ (by unfold inS; dsimp only; omega) (by rintro ⟨⟩) (by rintro ⟨⟩ <;> omega) (by rintro ⟨⟩), hc _ (by unfold inS; dsimp only; omega) (by rintro ⟨⟩) (by rintro ⟨⟩) (by rintro ⟨⟩ <;> omega)⟩) (hc _ i7 (by rintro ⟨⟩) (by rintro ⟨⟩) (by rintro ⟨⟩)) (fun j => ⟨hc _ (by unfold inS; dsimp only; omega) (by rintro ⟨⟩) (by rintro ⟨⟩) (by rintro ⟨⟩), hc _ (by unfold inS; dsimp only; omega) (by rintro ⟨⟩) (by rintro ⟨⟩) (by rintro ⟨⟩)⟩)
      exact RS_cg rs2 (fun _ _ => rfl) (fun _ _ => ⟨rfl, rfl⟩) ⟨rfl, rfl⟩ (fun _ => ⟨rfl, rfl⟩) (fun s v1 v2 => a2 s (by omega))
  · intro t ht
    rw [y40, nI_clamp (by omega)] at ht
    rw [a2 43 (by decide), z2 43 (by decide) (by decide) (by decide)]
    exact u4 t (by omega)
  · intro r v0 hl
    obtain ⟨v1, v2⟩ := (lv_dr v0).mp hl
    have v2 := d14_f.mp v2
    have hS1 : S < (V.1 40).toNatClampNeg := by rw [y40, nI_clamp (by omega)]; omega
    by_cases e4' : r = (4, 0, 0)
    · rw [e4']; exact (bd34 (by decide)).2
    · have v3 := (gr.2.1 r v0 e4').mp v1
      by_cases hi : inS S r
      · obtain ⟨k1, k2, k3⟩ := r
        unfold inS at hi
        dsimp only at hi v2
        unfold bd
        dsimp only
        omega
      · refine bd_m (rv r v0 ((lv3 r v0 hi).mp v3)) (by rw [yv 2 (by decide)]; exact Nat.le_refl _) (by rw [yv 3 (by decide)]; exact Nat.le_refl _) (by rw [yv 4 (by decide)]; exact Nat.le_refl _) (by rw [yv 5 (by decide)]; exact Nat.le_refl _) (by omega) (fun s => cn_le (by rw [a2 31 (by decide), z2 31 (by decide) (by decide) (by decide)]) (yv 6 (by decide)))
end AS
