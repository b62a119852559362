section CD
variable {g : ez_G} {h h0 h1 h2 : ez_H} {P P1 : xP} {c c1 cc : xR → Nat → Int32} {z z' y Y : md_S} {t n κ k L : Nat} {v : Int32}
theorem cv_w (h : ¬ pm_cv y = -1) : ∃ j, (j = 1 ∨ j = 2 ∨ j = 3) ∧ pm_wv y = lN (wN (wb j) (wl j)) := by
  unfold pm_cv at h
  by_cases e1 : pm_wv y = 1936683636
  · exact ⟨1, by omega, e1.trans cW1⟩
  · rw [if_neg e1] at h
    by_cases e2 : pm_wv y = 7168366
    · exact ⟨2, by omega, e2.trans cW2⟩
    · rw [if_neg e2] at h
      by_cases e3 : pm_wv y = 495672980069
      · exact ⟨3, by omega, e3.trans cW3⟩
      · rw [if_neg e3] at h
        exact absurd rfl h
theorem cv_fin (r : RD c y) (h : ¬ pm_cv y = -1) : (pm_fin y).2 = 0 := by
  obtain ⟨j, hj, e⟩ := cv_w h
  have tk := (tok_iff r (show j < 11 by omega) (show j ≠ 5 by omega) rfl).mpr e
  obtain ⟨N, s, hN, hs, eN, -, es, -, -, -⟩ := RD_f r
  have hl := lcode j (by omega) (by omega)
  have b0 := tk.2 0 (by omega)
  have hb := hl.2 0 (by omega)
  rw [es, eN] at tk
  have hte := (tE_le (N := N) (F := c (16, 0, 0)) hs).2
  have y35 : y.2 35 s = nI (wb j 0) := by
    rw [r.2.2.2.2 s (by rw [eN]; omega), ← b0, es]
    rfl
  rcases fin_01 (y := y) with h5 | h5
  · exact h5
  · exfalso
    unfold pm_fin at h5
    have e38 : (pm_bl y).1 38 = nI s := by rw [← es]; rfl
    have e35 : (pm_bl y).2 35 = y.2 35 := rfl
    rw [e38, e35, nI_clamp (by omega), y35] at h5
    have ne : ¬ nI (wb j 0) = 59 := fun e => by
      have := (nI_eq (a := wb j 0) (b := 59) (by omega) (by decide)).mp e
      omega
    rw [if_neg ne] at h5
    split at h5
    · exact absurd (show (0 : Int32) = 1 from h5) (by decide)
    · exact absurd (show (0 : Int32) = 1 from h5) (by decide)
theorem cv_is (h : ¬ pm_cv y = -1) : (pm_tk y 26995).2 = 0 := by
  unfold pm_tk
  have : ¬ pm_wv y = 26995 := fun e => h (by
    unfold pm_cv
    rw [e]
    decide)
  rw [if_neg this]
theorem RC_0 : RC F3 y k 0 := by
  intro so mn sh _ _ _
  refine ⟨fun _ q hq => absurd hq (by omega), fun _ => ⟨Or.inl ?_, Or.inl ?_, Or.inl ?_⟩⟩
  all_goals decide
theorem c_conds (X : xst g P h0) (w : xw h0 P c) (l14 : lv P (14, 0, 0)) (l8 : lv P (8, t, κ)) (l9 : lv P (9, t, κ)) (r : RD c y) (e9 : c (9, t, κ) = F3) : ∃ c' v, ez_ev g 24 [.ref (P.2.2.1 (14, 0, 0)), .ref (P.2.2.1 (8, t, κ))] (xh h0 P c) = some (some (.int v), xh h0 P c') ∧ xw h0 P c' ∧ (∀ r, r ≠ (14, 0, 0) → r ≠ (9, t, κ) → c' r = c r) ∧ (((pm_tc y k).2 = 1 ∧ v = 1 ∧ RD c' (pm_tc y k).1 ∧ ∃ n', n' ≤ 3 ∧ (pm_tc y k).1.2 46 k = nI n' ∧ RC (c' (9, t, κ)) (pm_tc y k).1 k n') ∨ ((pm_tc y k).2 = 0 ∧ v = 0 ∧ c' (14, 0, 0) 2 = (pm_tc y k).1.1 38) ∨ ((pm_tc y k).2 = 0 ∧ v = 1 ∧ RD c' (pm_tc y k).1 ∧ (pm_tc y k).1.1 38 = nI (zs (pm_tc y k).1) ∧ ¬ pm_cv (pm_tc y k).1 = -1)) := by
  obtain ⟨c', v, q, w', f, res⟩ := lc_conds (hk := 0) (k := k) (g := g) X l14 l8 l9 3 0 rfl c (md_sA y 46 k 0) w (RD_cg r rfl rfl (md_A2n (by decide))) (by rw [md_A2, if_pos rfl, pk_us]; rfl) (by rw [e9]; exact RC_0) none none
  refine ⟨c', v, ?_, w', f, res⟩
  rw [e24]
  simp only [s24_0, s24_1, s24_3, s24_4, s24_7, s24_8, s24_10, s24_13, s24_16, s24_17, s24_20, s24_21, s24_23, s24_26, s24_29, s24_30, s24_33, s24_34, s24_36, s24_39, s24_42, s24_43, s24_46, s24_47, s24_48, s24_49, s24_50, s24_53, s24_54, s24_55, s24_56, s24_59, s24_61, s24_63, s24_64, s24_67, s24_68, s24_69, s24_69n, s24_70, s24_71, s24_73, s24_76, s24_79, s24_82, s24_83, zl_n, zl_i, zl_r, zl_0, z10, z01, ez_bd_s, ez_bd_n, eq_self, true_or, or_true, if_true, if_false, zb_eq, zb_eq1, zb_em, zb_em2, ite_not, List.append_nil, List.cons_append, List.nil_append, reduceCtorEq, not_true_eq_false, not_false_eq_true]
  exact q
/-- the frames of a clause made and of a list grown -/
theorem FR_cl {a b : Nat} (hc : ∀ r, r ≠ (8, t, κ) → r ≠ (9, t, κ) → c1 r = c r) (f : ∀ r, r ≠ (8, t, κ) → r ≠ (9, t, κ) → P1.2.2.1 r = P.2.2.1 r ∧ P1.2.2.2 r = P.2.2.2 r ∧ (r.1 ≠ 0 → (lv P1 r ↔ lv P r))) (x : xfr h0 P h1 P1 a b) : FR t h0 P c h1 P1 c1 a b := by
  refine ⟨fun r hr => ⟨hc r (nin hr in8) (nin hr in9), (f r (nin hr in8) (nin hr in9)).1, (f r (nin hr in8) (nin hr in9)).2.1⟩, fun r u0 hr => (f r (nin hr in8) (nin hr in9)).2.2 u0, ⟨(f _ (by rintro ⟨⟩) (by rintro ⟨⟩)).1, (f _ (by rintro ⟨⟩) (by rintro ⟨⟩)).1, fun s _ _ => by rw [hc _ (by rintro ⟨⟩) (by rintro ⟨⟩)]⟩, ((f _ (by rintro ⟨⟩) (by rintro ⟨⟩)).2.2 (show 14 ≠ 0 by decide)).mpr, ((f _ (by rintro ⟨⟩) (by rintro ⟨⟩)).2.2 (show 7 ≠ 0 by decide)).mpr, x⟩
theorem FR_gr (hL : inS t (3, L, t) ∧ inS t (4, L, t)) (hc : ∀ r, r ≠ (3, L, t) → r ≠ (4, L, t) → c1 r = c r) (x : xgr h0 P h1 P1 L t) : FR t h0 P c h1 P1 c1 1 400 := by
  obtain ⟨x1, x2, x3, x4⟩ := x
  refine ⟨fun r hr => ⟨hc r (nin hr hL.1) (nin hr hL.2), x1 r (nin hr hL.2), x3 r (nin hr hL.1)⟩, fun r u0 hr => x2 r u0 (nin hr hL.2), ⟨x1 _ (by rintro ⟨⟩), x1 _ (by rintro ⟨⟩), fun s _ _ => by rw [hc _ (by rintro ⟨⟩) (by rintro ⟨⟩)]⟩, (x2 (14, 0, 0) (show 14 ≠ 0 by decide) (by rintro ⟨⟩)).mpr, (x2 (7, t, 0) (show 7 ≠ 0 by decide) (by rintro ⟨⟩)).mpr, x4⟩
end CD
