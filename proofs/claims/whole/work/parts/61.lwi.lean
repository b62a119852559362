section LW
variable {g : ez_G} {h h1 h2 h0 H H' : ez_H} {P : xP} {c : xR → Nat → Int32} {z : md_S} {a n m x N N' k k' q : Nat} {f : Nat → Int32} {as : List Value} {y : md_S × Int32}
theorem mh_out (hq : ¬ (m ≤ q ∧ q ≤ m + 39)) : (md_h H m z).1 q = H.1 q := by
  show (if q = m then _ else if m < q ∧ q ≤ m + 39 then _ else H.1 q) = _
  rw [if_neg (by omega), if_neg (by omega)]
theorem mh_in (hq : m ≤ q ∧ q ≤ m + 39) : (md_h H m z).1 q = (md_h H' m z).1 q := by
  show (if q = m then _ else if m < q ∧ q ≤ m + 39 then _ else H.1 q) = if q = m then _ else if m < q ∧ q ≤ m + 39 then _ else H'.1 q
  by_cases e : q = m
  · rw [if_pos e, if_pos e]
  · rw [if_neg e, if_neg e, if_pos (by omega), if_pos (by omega)]
theorem mh_fx (hq : ∀ q, m ≤ q ∧ q ≤ m + 39 → H.1 q = (md_h H' m z).1 q) : H = md_h H m z := by
  refine Prod.ext (funext fun q => ?_) rfl
  by_cases e : m ≤ q ∧ q ≤ m + 39
  · rw [hq q e]
    exact mh_in e
  · rw [mh_out e]
theorem mh_xh (hm : ∀ q, m ≤ q ∧ q ≤ m + 39 → (P.2.1 q).1 = 0) : md_h (xh H P c) m z = xh (md_h H m z) P c := by
  refine Prod.ext (funext fun q => ?_) rfl
  by_cases e : m ≤ q ∧ q ≤ m + 39
  · rw [xh_o (hm q e)]
    exact mh_in e
  · rw [mh_out e]
    by_cases e2 : (P.2.1 q).1 = 0
    · rw [xh_o e2, xh_o e2, mh_out e]
    · unfold xh
      dsimp only
      rw [if_neg e2, if_neg e2]
/-- between two calls -/
def LI (g : ez_G) (a n : Nat) (f : Nat → Int32) (m x N N' : Nat) (z : md_S) (h : ez_H) : Prop := ∃ h0 P c, h = xh h0 P c ∧ xw h0 P c ∧ RR P c z ∧ g.1 = P.1 ∧ xst g P h0 ∧ P.2.2.1 (1, 0, 0) = x ∧ (∀ q, m ≤ q ∧ q ≤ m + 39 → (P.2.1 q).1 = 0) ∧ h0 = md_h h0 m z ∧ m + 39 < h0.2.1 ∧ (P.2.1 a).1 = 0 ∧ h0.1 a = some (.inl (10, n, .inl f)) ∧ a < m ∧ g.1 < m ∧ (∀ j, j < 11 → g.2.2.2 j < m) ∧ h0.2.1 ≤ N ∧ h0.2.2 ≤ N'
theorem LI_a (L : LI g a n f m x N N' z h) : h.1 a = some (.inl (10, n, .inl f)) ∧ h.2.1 ≤ N ∧ h.2.2 ≤ N' := by
  obtain ⟨h0, P, c, rfl, -, -, -, -, -, -, -, -, ha, ha2, -, -, -, hN, hN'⟩ := L
  exact ⟨by rw [xh_o ha, ha2], hN, hN'⟩
theorem LI_st (L : LI g a n f m x N N' z h) (o : ∀ (h0 : ez_H) (P : xP) (c : xR → Nat → Int32), g.1 = P.1 → xst g P h0 → xw h0 P c → RR P c z → xop g k as h0 P c y) (q : ∀ (P : xP) (c : xR → Nat → Int32), RR P c z → ∀ H : ez_H, ez_ev g k' (.ref m :: as) (md_h H m z) = some (some (.int y.2), md_h H m y.1)) : ∃ h1 h2, ez_ev g k (.ref x :: as) h = some (some (.int y.2), h1) ∧ ez_ev g k' (.ref m :: as) h1 = some (some (.int y.2), h2) ∧ ez_isO (h.1 x) 9 = true ∧ ez_isO (h1.1 m) 10 = true ∧ h.1 a = some (.inl (10, n, .inl f)) ∧ h1.1 a = some (.inl (10, n, .inl f)) ∧ LI g a n f m x (N + 1000) (N' + 12000) y.1 h2 := by
  obtain ⟨h0, P, c, rfl, w, R, hg, X, hx, hm, hf, hm3, ha, ha2, ha3, hg2, hs, hN, hN'⟩ := L
  obtain ⟨h1, P1, c1, e, w1, R1, p1, f1⟩ := o h0 P c hg X w R
  have X1 := xst_f X f1
  obtain ⟨F1, F2, F3, F4, F5, F6⟩ := f1
  have k1 : ∀ q, m ≤ q ∧ q ≤ m + 39 → (P1.2.1 q).1 = 0 ∧ h1.1 q = h0.1 q := fun q hq => F6 q (by omega) (hm q hq)
  have E2 : xh h1 P1 c1 = md_h (xh h1 P1 c1) m z := mh_fx (H' := h0) (fun q hq => by rw [xh_o (k1 q hq).1, (k1 q hq).2, ← hf])
  have q1 := q P c R (xh h1 P1 c1)
  rw [← E2] at q1
  have ka := F6 a (by omega) ha
  rw [hx] at e
  refine ⟨_, _, e, q1, by rw [← hx]; exact xo1 R.1, by rw [E2, md_h0]; rfl, by rw [xh_o ha, ha2], by rw [xh_o ka.1, ka.2, ha2], md_h h1 m y.1, P1, c1, mh_xh (fun q hq => (k1 q hq).1), ?_, R1, hg.trans F1.symm, ?_, p1.trans hx, fun q hq => (k1 q hq).1, mh_fx (H' := h1) (fun q hq => rfl), Nat.lt_of_lt_of_le hm3 F2, ka.1, ?_, ha3, hg2, hs, Nat.le_trans F3 (by omega), Nat.le_trans F5 (by omega)⟩
  · obtain ⟨w1, w2, w3, w4, w5⟩ := w1
    exact ⟨w1, w2, w3, by rw [mh_out (by rw [F1, ← hg]; omega), w4], w5⟩
  · obtain ⟨x1, x2⟩ := X1
    refine ⟨x1, fun j hj => ?_⟩
    obtain ⟨y1, y2, y3, y4⟩ := x2 j hj
    have := hs j hj
    exact ⟨y1, y2, y3, by rw [mh_out (by omega)]; exact y4⟩
  · rw [mh_out (by omega), ka.2, ha2]
/-- the call's numbers -/
def LA (h : ez_H) (a : Nat) (v u1 u2 u3 u4 u5 : Int32) : Prop := (ez_isA (h.1 a) 0 (v + 1) = true ∧ ez_vA (h.1 a) (v + 1) = u1) ∧ (ez_isA (h.1 a) 0 (v + 2) = true ∧ ez_vA (h.1 a) (v + 2) = u2) ∧ (ez_isA (h.1 a) 0 (v + 3) = true ∧ ez_vA (h.1 a) (v + 3) = u3) ∧ (ez_isA (h.1 a) 0 (v + 4) = true ∧ ez_vA (h.1 a) (v + 4) = u4) ∧ ez_isA (h.1 a) 0 (v + 5) = true ∧ ez_vA (h.1 a) (v + 5) = u5
theorem LA_i {i j : Nat} (ha : h.1 a = some (.inl (10, n, .inl f))) (hi : i + j < n) (hn : n ≤ 3072) : ez_isA (h.1 a) 0 (nI i + nI j) = true ∧ ez_vA (h.1 a) (nI i + nI j) = f (i + j) := by
  rw [ha, nI_add]
  constructor
  · show ((10 == 0 || 10 == 0 + 10) && (decide (¬ nI (i + j) < 0) && decide ((nI (i + j)).toNatClampNeg < n))) = true
    have := md_inN hi (by omega)
    unfold md_in at this
    rw [this]
    rfl
  · show f (nI (i + j)).toNatClampNeg = _
    rw [nI_clamp (by omega)]
theorem LA_o {i : Nat} (ha : h.1 a = some (.inl (10, n, .inl f))) (hi : i + 6 ≤ n) (hn : n ≤ 3072) : LA h a (nI i) (f (i + 1)) (f (i + 2)) (f (i + 3)) (f (i + 4)) (f (i + 5)) := ⟨LA_i (j := 1) ha (by omega) hn, LA_i (j := 2) ha (by omega) hn, LA_i (j := 3) ha (by omega) hn, LA_i (j := 4) ha (by omega) hn, LA_i (j := 5) ha (by omega) hn⟩
end LW
