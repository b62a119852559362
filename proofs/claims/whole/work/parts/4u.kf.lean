section KF
variable {g : ez_G} {h h0 h2 : ez_H} {P P1 : xP} {c c1 : xR → Nat → Int32} {z z' z'' : md_S} {k t n κ : Nat}
/-- a statement's reading changes only what is the statement's -/
def kf (z z' : md_S) (k : Nat) : Prop := (∀ s, s ≠ 38 → s ≠ 49 → s ≠ 50 → z'.1 s = z.1 s) ∧ (∀ s, s < 44 ∨ 48 < s → z'.2 s = z.2 s) ∧ (∀ s i, 44 ≤ s → s ≤ 46 → i ≠ k → z'.2 s i = z.2 s i) ∧ ∀ s i, s = 47 ∨ s = 48 → i < 3 * k ∨ 3 * k + 3 ≤ i → z'.2 s i = z.2 s i
theorem kf_r : kf z z k := ⟨fun _ _ _ _ => rfl, fun _ _ => rfl, fun _ _ _ _ _ => rfl, fun _ _ _ _ => rfl⟩
theorem kf_t (a : kf z z' k) (b : kf z' z'' k) : kf z z'' k := ⟨fun s h1 h2 h3 => (b.1 s h1 h2 h3).trans (a.1 s h1 h2 h3), fun s h => (b.2.1 s h).trans (a.2.1 s h), fun s i h1 h2 h3 => (b.2.2.1 s i h1 h2 h3).trans (a.2.2.1 s i h1 h2 h3), fun s i h1 h2 => (b.2.2.2 s i h1 h2).trans (a.2.2.2 s i h1 h2)⟩
theorem kf_ar (f : md_fr z z') (e : z'.2 = z.2) : kf z z' k := ⟨f.1, f.2, fun _ _ _ _ _ => by rw [e], fun _ _ _ _ => by rw [e]⟩
theorem kf_A {s : Nat} {v : Int32} (hs : 44 ≤ s ∧ s ≤ 46) : kf z (md_sA z s k v) k := by
  refine ⟨fun _ _ _ _ => rfl, fun q h => md_A2n (by omega), fun q i h1 h2 h3 => ?_, fun q i h1 _ => by rw [md_A2n (by omega)]⟩
  rw [md_A2]
  split
  · next e =>
    subst e
    unfold upd
    rw [if_neg h3]
  · rfl
theorem tk_2 {w : Int64} : (pm_tk z w).1.2 = z.2 := by
  unfold pm_tk
  split <;> rfl
theorem tn_22 : (pm_tn z).1.2 = z.2 := by
  unfold pm_tn
  repeat' split
  all_goals rfl
theorem kf_tk {w : Int64} : kf z (pm_tk z w).1 k := kf_ar fr_tk tk_2
theorem kf_tn : kf z (pm_tn z).1 k := kf_ar fr_tn tn_22
theorem kf_wd : kf z (pm_wd z) k := kf_ar fr_wd rfl
theorem kf_nx : kf z (pm_nx z) k := kf_ar (fr_tr fr_wd (fr_I (by omega))) rfl
theorem kf_cn {w : Int32} (h : (z.2 46 k).toNatClampNeg < 3) : kf z (pm_cn z k w) k := by
  have e1 : kf z (md_sA (md_sA z 47 (3 * k + (z.2 46 k).toNatClampNeg) w) 48 (3 * k + (z.2 46 k).toNatClampNeg) (z.1 50)) k := by
    refine ⟨fun _ _ _ _ => rfl, fun q hq => by rw [md_A2n (by omega), md_A2n (by omega)], fun q i h1 h2 _ => by rw [md_A2n (by omega), md_A2n (by omega)], fun q i h1 h2 => ?_⟩
    rcases h1 with rfl | rfl
    · rw [md_A2n (by decide), md_A2, if_pos rfl]
      unfold upd
      rw [if_neg (by omega)]
    · rw [md_A2, if_pos rfl, md_A2n (by decide)]
      unfold upd
      rw [if_neg (by omega)]
  exact kf_t e1 (kf_A (by omega))
theorem kf_tcl : ∀ d z q, q + d = 4 → q ≤ 3 → z.2 46 k = nI q → kf z (tcl k d z).1 k
  | 0, _, _, _, _, _ => kf_r
  | d + 1, z, q, hq, h3, h46 => by
    rw [tcl]
    by_cases e1 : pm_cv z = -1
    · rw [if_pos e1]; exact kf_wd
    · rw [if_neg e1]
      by_cases e2 : z.2 46 k = 3
      · rw [if_pos e2]; exact kf_wd
      · rw [if_neg e2]
        have k1 : kf z (pm_tn (pm_nx z)).1 k := kf_t kf_nx kf_tn
        by_cases e3 : (pm_tn (pm_nx z)).2 = 0
        · rw [if_pos e3]; exact k1
        · rw [if_neg e3]
          have q3 : q ≠ 3 := fun e => e2 (by rw [h46, e]; rfl)
          have y46 : (pm_tn (pm_nx z)).1.2 46 k = nI q := by rw [tn_2]; exact h46
          have hc : ((pm_tn (pm_nx z)).1.2 46 k).toNatClampNeg < 3 := by rw [y46, nI_clamp (by omega)]; omega
          refine kf_t (kf_t k1 (kf_cn hc)) (kf_tcl d _ (q + 1) (by omega) (by omega) ?_)
          unfold pm_cn
          rw [md_A2, if_pos rfl, pk_us, y46, nI_1]
theorem kf_tc : kf z (pm_tc z k).1 k := kf_t (kf_A (by omega)) (kf_tcl 4 _ 0 rfl (by omega) (by rw [md_A2, if_pos rfl, pk_us]; rfl))
theorem fin_2 : (pm_fin z).1.2 = z.2 := by
  unfold pm_fin
  repeat' split
  all_goals rfl
theorem kf_fin : kf z (pm_fin z).1 k := by
  refine kf_ar ?_ fin_2
  unfold pm_fin
  repeat' split
  · exact fr_bl
  · exact fr_tr fr_bl (fr_I (by omega))
  · exact fr_bl
theorem ck_k {w : Int32} (a : kf z z' (16 * t + n)) : ∀ q, q ≤ n → ck z' w t q = ck z w t q
  | 0, _ => rfl
  | q + 1, h => by rw [ck, ck, ck_k a q (by omega), a.2.2.1 44 (16 * t + q) (by omega) (by omega) (by omega)]
theorem pv_k {w : Int32} (a : kf z z' (16 * t + n)) : ∀ q, q ≤ n → pv z' w t q = pv z w t q
  | 0, _ => rfl
  | q + 1, h => by rw [pv, pv, pv_k a q (by omega), a.2.2.1 44 (16 * t + q) (by omega) (by omega) (by omega), a.2.2.1 45 (16 * t + q) (by omega) (by omega) (by omega)]
theorem RC_k {f : Nat → Int32} {s m : Nat} (a : kf z z' (16 * t + n)) (hs : s < n) (hm : m ≤ 3) (r : RC f z (16 * t + s) m) : RC f z' (16 * t + s) m := by
  intro so mn sh h1 h2 h3
  rw [r so mn sh h1 h2 h3]
  have e : ∀ q, q < m → (cnd z (16 * t + s) so mn sh q ↔ cnd z' (16 * t + s) so mn sh q) := fun q hq => by
    unfold cnd
    rw [a.2.2.2 47 _ (Or.inl rfl) (by omega), a.2.2.2 48 _ (Or.inr rfl) (by omega)]
  exact ⟨fun h q hq => (e q hq).mp (h q hq), fun h q hq => (e q hq).mpr (h q hq)⟩
/-- the statements before stay as they are -/
theorem RS_k (a : kf z z' (16 * t + n)) (r : RS P c z t n) (hp : ∀ L, L = 5 ∨ L = 6 → P1.2.2.2 (3, L, t) = P.2.2.2 (3, L, t)) (h3 : ∀ L, L = 5 ∨ L = 6 → c1 (3, L, t) 2 = c (3, L, t) 2 ∧ c1 (4, L, t) = c (4, L, t)) (h7 : c1 (7, t, 0) 2 = c (7, t, 0) 2 ∧ c1 (7, t, 0) 3 = c (7, t, 0) 3) (h8 : ∀ j, j % 2 = 0 ∧ j / 2 < ck z 0 t n ∨ j % 2 = 1 ∧ j / 2 < ck z 1 t n → c1 (8, t, j) = c (8, t, j) ∧ c1 (9, t, j) = c (9, t, j)) : RS P1 c1 z' t n := by
  obtain ⟨u1, u2, u3, u4, u5⟩ := r
  unfold RS
  rw [pv_k a n (Nat.le_refl _), pv_k a n (Nat.le_refl _), ck_k a n (Nat.le_refl _), ck_k a n (Nat.le_refl _), h7.1, h7.2]
  refine ⟨u1, u2, lsz_cg u3 (hp 5 (by omega)) (h3 5 (by omega)).1 (h3 5 (by omega)).2, lsz_cg u4 (hp 6 (by omega)) (h3 6 (by omega)).1 (h3 6 (by omega)).2, fun s hs => ?_⟩
  obtain ⟨⟨v0, v0'⟩, v1, v2⟩ := u5 s hs
  have hm : (z.2 46 (16 * t + s)).toNatClampNeg ≤ 3 := by have := (md_inE v0).2; omega
  rw [a.2.2.1 44 (16 * t + s) (by omega) (by omega) (by omega), a.2.2.1 45 (16 * t + s) (by omega) (by omega) (by omega), a.2.2.1 46 (16 * t + s) (by omega) (by omega) (by omega), ck_k a s (by omega), ck_k a s (by omega), (h3 5 (by omega)).2, (h3 6 (by omega)).2]
  refine ⟨⟨v0, v0'⟩, fun hk => ?_, fun hk => ?_⟩
  · obtain ⟨x1, x2, x3, x4⟩ := v1 hk
    have hlt : ck z 0 t s < ck z 0 t n := by
      have := ck_mono (z := z) (w := 0) (t := t) (s := s + 1) (n - (s + 1))
      rw [show s + 1 + (n - (s + 1)) = n by omega, ck, if_pos hk] at this
      omega
    obtain ⟨y1, y2⟩ := h8 (2 * ck z 0 t s) (Or.inl ⟨by omega, by omega⟩)
    rw [y1, y2]
    exact ⟨x1, x2, x3, RC_k a hs hm x4⟩
  · obtain ⟨x1, x2⟩ := v2 hk
    have hlt : ck z 1 t s < ck z 1 t n := by
      have := ck_mono (z := z) (w := 1) (t := t) (s := s + 1) (n - (s + 1))
      rw [show s + 1 + (n - (s + 1)) = n by omega, ck, if_pos hk] at this
      omega
    obtain ⟨y1, y2⟩ := h8 (2 * ck z 1 t s + 1) (Or.inr ⟨by omega, by omega⟩)
    rw [y2]
    exact ⟨x1, RC_k a hs hm x2⟩
/-- what is the statute's that is being read -/
def inS (t : Nat) (r : xR) : Prop := r.1 = 14 ∨ (r.1 = 7 ∧ r.2.1 = t) ∨ ((r.1 = 3 ∨ r.1 = 4) ∧ (r.2.1 = 5 ∨ r.2.1 = 6) ∧ r.2.2 = t) ∨ ((r.1 = 8 ∨ r.1 = 9) ∧ r.2.1 = t)
def FR (t : Nat) (h0 : ez_H) (P : xP) (c : xR → Nat → Int32) (h1 : ez_H) (P1 : xP) (c1 : xR → Nat → Int32) (a b : Nat) : Prop := (∀ r, ¬ inS t r → c1 r = c r ∧ P1.2.2.1 r = P.2.2.1 r ∧ P1.2.2.2 r = P.2.2.2 r) ∧ (∀ r, r.1 ≠ 0 → ¬ inS t r → (lv P1 r ↔ lv P r)) ∧ (P1.2.2.1 (14, 0, 0) = P.2.2.1 (14, 0, 0) ∧ P1.2.2.1 (7, t, 0) = P.2.2.1 (7, t, 0) ∧ ∀ s, s ≠ 2 → s ≠ 3 → c1 (7, t, 0) s = c (7, t, 0) s) ∧ (lv P (14, 0, 0) → lv P1 (14, 0, 0)) ∧ (lv P (7, t, 0) → lv P1 (7, t, 0)) ∧ xfr h0 P h1 P1 a b
theorem FR_t {h1 h2 : ez_H} {P2 : xP} {c2 : xR → Nat → Int32} {a b a' b' : Nat} (x : FR t h0 P c h1 P1 c1 a b) (y : FR t h1 P1 c1 h2 P2 c2 a' b') : FR t h0 P c h2 P2 c2 (a + a') (b + b') := by
  obtain ⟨x1, x2, ⟨x3, x4, x8⟩, x5, x6, x7⟩ := x
  obtain ⟨y1, y2, ⟨y3, y4, y8⟩, y5, y6, y7⟩ := y
  exact ⟨fun r h => ⟨(y1 r h).1.trans (x1 r h).1, (y1 r h).2.1.trans (x1 r h).2.1, (y1 r h).2.2.trans (x1 r h).2.2⟩, fun r h0 h => (y2 r h0 h).trans (x2 r h0 h), ⟨y3.trans x3, y4.trans x4, fun s u v => (y8 s u v).trans (x8 s u v)⟩, fun h => y5 (x5 h), fun h => y6 (x6 h), xfr_t x7 y7⟩
theorem FR_w {h1 : ez_H} {a b a' b' : Nat} (x : FR t h0 P c h1 P1 c1 a b) (ha : a ≤ a') (hb : b ≤ b') : FR t h0 P c h1 P1 c1 a' b' := ⟨x.1, x.2.1, x.2.2.1, x.2.2.2.1, x.2.2.2.2.1, xfr_w x.2.2.2.2.2 ha hb⟩
/-- only cells have changed -/
theorem FR_c7 (h : ∀ r, ¬ inS t r → c1 r = c r) (h7 : ∀ s, s ≠ 2 → s ≠ 3 → c1 (7, t, 0) s = c (7, t, 0) s) : FR t h0 P c h0 P c1 0 0 := ⟨fun r hr => ⟨h r hr, rfl, rfl⟩, fun _ _ _ => Iff.rfl, ⟨rfl, rfl, h7⟩, id, id, xfr_r⟩
/-- only the reader's and clauses' cells have changed -/
def inT (t : Nat) (r : xR) : Prop := r.1 = 14 ∨ ((r.1 = 8 ∨ r.1 = 9) ∧ r.2.1 = t)
theorem FR_c (h : ∀ r, ¬ inT t r → c1 r = c r) : FR t h0 P c h0 P c1 0 0 := FR_c7 (fun r hr => h r (fun e => hr (e.elim Or.inl (fun e => Or.inr (Or.inr (Or.inr e)))))) (fun s _ _ => by rw [h (7, t, 0) (by unfold inT; dsimp only; omega)])
theorem iT14 : inT t (14, 0, 0) := Or.inl rfl
theorem iT9 : inT t (9, t, κ) := Or.inr ⟨Or.inr rfl, rfl⟩
theorem iT8 : inT t (8, t, κ) := Or.inr ⟨Or.inl rfl, rfl⟩
theorem niT {r r' : xR} (h : ¬ inT t r) (hr : inT t r') : r ≠ r' := fun e => h (by rw [e]; exact hr)
theorem in14 : inS t (14, 0, 0) := Or.inl rfl
theorem in9 : inS t (9, t, κ) := Or.inr (Or.inr (Or.inr ⟨Or.inr rfl, rfl⟩))
theorem in8 : inS t (8, t, κ) := Or.inr (Or.inr (Or.inr ⟨Or.inl rfl, rfl⟩))
theorem in7 : inS t (7, t, 0) := Or.inr (Or.inl ⟨rfl, rfl⟩)
theorem in35 : inS t (3, 5, t) ∧ inS t (4, 5, t) := ⟨Or.inr (Or.inr (Or.inl ⟨Or.inl rfl, Or.inl rfl, rfl⟩)), Or.inr (Or.inr (Or.inl ⟨Or.inr rfl, Or.inl rfl, rfl⟩))⟩
theorem in36 : inS t (3, 6, t) ∧ inS t (4, 6, t) := ⟨Or.inr (Or.inr (Or.inl ⟨Or.inl rfl, Or.inr rfl, rfl⟩)), Or.inr (Or.inr (Or.inl ⟨Or.inr rfl, Or.inr rfl, rfl⟩))⟩
theorem nin {r r' : xR} (h : ¬ inS t r) (hr : inS t r') : r ≠ r' := fun e => h (by rw [e]; exact hr)
/-- a clause is made -/
def F3 : Nat → Int32 := upd (upd (upd (fun _ => 0) 0 (-1)) 1 (-1)) 2 (-1)
theorem c_clInit {m : Nat} : ez_ev g 0 [.ref h.2.1] (ez_nw h (.inr (1, [.int 0, .null])) m) = some (none, ez_nw (ez_nw h (.inr (1, [.int 0, .ref (h.2.1 + 1)])) m) (.inl (0, 3, .inl F3)) 3) := by
  have w0 : ∀ f, ez_isW (some (.inl (0, 3, .inl f))) 0 0 = true := fun f => (show (0 == 0 && md_in 0 3) = true by decide)
  have w1 : ∀ f, ez_isW (some (.inl (0, 3, .inl f))) 0 1 = true := fun f => (show (0 == 0 && md_in 1 3) = true by decide)
  have w2 : ∀ f, ez_isW (some (.inl (0, 3, .inl f))) 0 2 = true := fun f => (show (0 == 0 && md_in 2 3) = true by decide)
  have u0 : ∀ f v, ez_uA (some (.inl (0, 3, .inl f))) 0 v = .inl (0, 3, .inl (upd f 0 v)) := fun f v => rfl
  have u1 : ∀ f v, ez_uA (some (.inl (0, 3, .inl f))) 1 v = .inl (0, 3, .inl (upd f 1 v)) := fun f v => rfl
  have u2 : ∀ f v, ez_uA (some (.inl (0, 3, .inl f))) 2 v = .inl (0, 3, .inl (upd f 2 v)) := fun f v => rfl
  rw [e0]
  simp only [s0_0, s0_1, s0_4, s0_5, s0_6, s0_8, s0_9, s0_10, s0_11, s0_12, s0_13, s0_14, s0_15, s0_16, s0_17, s0_18, s0_19, s0_20, s0_23, zl_n, zl_i, zl_r, zl_0, z10, z01, ez_bd_s, ez_bd_n, eq_self, true_or, or_true, if_true, if_false, zb_eq, zb_eq1, zb_em, zb_em2, ite_not, List.append_nil, List.cons_append, List.nil_append, reduceCtorEq, not_true_eq_false, not_false_eq_true, nw_c, nw_21, hs_c, hs_21, isF_c, uF_c, beq_self_eq_true, Bool.true_and, List.length_cons, List.length_nil, Nat.reduceAdd, Nat.reduceLT, decide_true, List.set, ne01, ne10, w0, w1, w2, u0, u1, u2]
  refine congrArg (fun x => some (none, x)) (Prod.ext (funext fun q => ?_) rfl)
  simp only [hs_c, nw_c, nw_21, hs_21]
  by_cases h1 : q = h.2.1
  · subst h1
    simp only [if_true, ne01, if_false]
  · by_cases h2 : q = h.2.1 + 1
    · subst h2
      simp only [if_true, ne10, if_false]
      rfl
    · simp only [h1, h2, if_false]
theorem x_clause (w : xw h0 P c) (n8 : ¬ lv P (8, t, κ)) (n9 : ¬ lv P (9, t, κ)) : ∃ h1 P1, ez_nw (ez_nw (xh h0 P c) (.inr (1, [.int 0, .ref ((xh h0 P c).2.1 + 1)])) 2) (.inl (0, 3, .inl F3)) 3 = xh h1 P1 (xs (xs c (9, t, κ) F3) (8, t, κ) (fun _ => 0)) ∧ xw h1 P1 (xs (xs c (9, t, κ) F3) (8, t, κ) (fun _ => 0)) ∧ lv P1 (8, t, κ) ∧ lv P1 (9, t, κ) ∧ P1.2.2.1 (8, t, κ) = (xh h0 P c).2.1 ∧ (∀ r, r ≠ (8, t, κ) → r ≠ (9, t, κ) → P1.2.2.1 r = P.2.2.1 r ∧ P1.2.2.2 r = P.2.2.2 r ∧ (r.1 ≠ 0 → (lv P1 r ↔ lv P r))) ∧ xfr h0 P h1 P1 2 5 := by
  have q0 := w.2.1 h0.2.1 (Nat.le_refl _)
  have q1 := w.2.1 (h0.2.1 + 1) (by omega)
  have hP : P.1 < h0.2.1 := w.2.2.2.2.2
  have eA : ez_nw (ez_nw (xh h0 P c) (.inr (1, [.int 0, .ref (h0.2.1 + 1)])) 2) (.inl (0, 3, .inl F3)) 3 = xh (ez_nw (ez_nw h0 (.inr (1, [.int 0, .ref (h0.2.1 + 1)])) 2) (.inl (0, 3, .inl F3)) 3) P c := by rw [xh_nw q0, xh_nw q1]
  generalize hA : ez_nw (ez_nw h0 (.inr (1, [.int 0, .ref (h0.2.1 + 1)])) 2) (.inl (0, 3, .inl F3)) 3 = hB at eA
  have wB : xw hB P c := by rw [← hA]; exact xw_nw (xw_nw w)
  have B0 : hB.1 h0.2.1 = some (.inr (1, [.int 0, .ref (h0.2.1 + 1)])) := by
    rw [← hA]
    simp only [nw_c, nw_21, ne01, if_true, if_false]
  have B1 : hB.1 (h0.2.1 + 1) = some (.inl (0, 3, .inl F3)) := by
    rw [← hA]
    simp only [nw_c, nw_21, if_true]
  have Bo : ∀ q, q < h0.2.1 → hB.1 q = h0.1 q := fun q hq => by
    rw [← hA]
    simp only [nw_c, nw_21]
    rw [if_neg (by omega), if_neg (by omega)]
  have Bn : hB.2.1 = h0.2.1 + 2 ∧ hB.2.2 = h0.2.2 + 5 := by rw [← hA]; exact ⟨rfl, rfl⟩
  obtain ⟨h1, e1, w1, z1, o1⟩ := x_ad (r := (9, t, κ)) (f := F3) (a := h0.2.1 + 1) wB (show 9 ≠ 0 by decide) (show 9 ≠ 4 by decide) n9 (fun h => absurd h (show ¬ 9 = 3 by decide)) q1 (by omega) (by omega) (by rw [B1]; rfl) (fun r' hx => (show False from hx).elim)
  have q0' : ((pad P (9, t, κ) (h0.2.1 + 1)).2.1 h0.2.1).1 = 0 := pad_o (show 9 ≠ 0 by decide) (by omega) q0
  obtain ⟨h3, e3, w3, z3, o3⟩ := x_ad (r := (8, t, κ)) (f := fun _ => 0) (a := h0.2.1) w1 (show 8 ≠ 0 by decide) (show 8 ≠ 4 by decide) (fun hl => n8 ((lv_pad q1 (show 8 ≠ 0 by decide) (by rintro ⟨⟩)).mp hl)) (fun h => absurd h (show ¬ 8 = 3 by decide)) q0' (by rw [z1]; omega) (by show _ ≠ P.1; omega) (by
    rw [o1 _ q0, B0]
    show _ = some (Sum.inr (1, [Value.int 0, Value.ref ((pad (pad P (9, t, κ) (h0.2.1 + 1)) (8, t, κ) h0.2.1).2.2.1 (9, t, κ))]))
    rw [pad_a (by rintro ⟨⟩), pad_r]) (fun r' hx _ => by
    have hx : r' = (9, t, κ) := hx
    rw [hx]
    exact lv_pad_r)
  refine ⟨h3, pad (pad P (9, t, κ) (h0.2.1 + 1)) (8, t, κ) h0.2.1, eA.trans (e1.trans e3), w3, lv_pad_r, (lv_pad q0' (show 9 ≠ 0 by decide) (by rintro ⟨⟩)).mpr lv_pad_r, pad_r, fun r u1 u2 => ⟨by rw [pad_a u1, pad_a u2], by rw [pad_c u1, pad_c u2], fun u0 => (lv_pad q0' u0 u1).trans (lv_pad q1 u0 u2)⟩, rfl, ?_, ?_, ?_, ?_, fun q hq h5 => ?_⟩
  · rw [z3, z1]; omega
  · rw [z3, z1]; omega
  · rw [z3, z1]; omega
  · rw [z3, z1]; omega
  · have u1 := pad_o (r := (9, t, κ)) (a := h0.2.1 + 1) (show 9 ≠ 0 by decide) (by omega) h5
    exact ⟨pad_o (show 8 ≠ 0 by decide) (by omega) u1, by rw [o3 _ u1, o1 _ h5, Bo q hq]⟩
end KF
