section NS
variable {g : ez_G} {h h0 h2 : ez_H} {P P1 : xP} {c c1 : xR → Nat → Int32} {z : md_S} {S m : Nat}
theorem c_statInit {x : Int32} : ez_ev g 37 [.ref h.2.1, .int x] (ez_nw h (.inr (8, [.int 0, .int 0, .int 0, .int 0, .null, .null])) m) = some (none, ez_nw (ez_nw (ez_nw h (.inr (8, [.int x, .int 0, .int 0, .int 0, .ref (h.2.1 + 1), .ref (h.2.1 + 1 + 1)])) m) (.inr (0, [.int 0, .ref g.1, .int 0])) 3) (.inr (0, [.int 0, .ref g.1, .int 0])) 3) := by
  rw [e37]
  simp only [s37_0, s37_1, s37_4, s37_5, s37_8, s37_9, s37_12, s37_15, s37_16, s37_19, s37_20, s37_23, s37_26, s37_27, s37_28, s37_31, zl_n, zl_i, zl_r, zl_0, z10, z01, ez_bd_s, ez_bd_n, eq_self, true_or, or_true, if_true, if_false, zb_eq, zb_eq1, zb_em, zb_em2, ite_not, List.append_nil, List.cons_append, List.nil_append, reduceCtorEq, not_true_eq_false, not_false_eq_true, c_listInit, nw_c, nw_21, hs_c, hs_21, isF_c, uF_c, beq_self_eq_true, Bool.true_and, List.length_cons, List.length_nil, Nat.reduceAdd, Nat.reduceLT, decide_true, List.set, ne01, ne10, ne011, ne111]
  refine congrArg (fun x => some (none, x)) (Prod.ext (funext fun q => ?_) rfl)
  simp only [hs_c, nw_c, nw_21, hs_21]
  by_cases h1 : q = h.2.1
  · subst h1
    simp only [if_true, ne01, ne011, if_false]
  · by_cases h2 : q = h.2.1 + 1
    · subst h2
      simp only [if_true, ne10, ne111, if_false]
    · by_cases h3 : q = h.2.1 + 1 + 1
      · subst h3
        simp only [h1, h2, if_true, if_false]
      · simp only [h1, h2, h3, if_false]
theorem c_rdInit {x : Nat} {n : Int32} {f : Nat → Int32} (hx : h.1 x = some (.inl (1, 600, .inl f))) (hne : (x = h.2.1) = False) (hn : ((600 : Int32) < n) = False) : ez_ev g 18 [.ref h.2.1, .ref x, .int n] (ez_nw h (.inr (6, [.null, .int 0, .int 0, .int 0])) m) = some (none, ez_nw h (.inr (6, [.ref x, .int n, .int 0, .int 0])) m) := by
  have i1 : ez_isN (some (.inl (1, 600, .inl f))) = true := rfl
  have i2 : ez_vN (some (.inl (1, 600, .inl f))) = 600 := rfl
  have hn' : (Int32.ofNat 600 < n) = False := hn
  rw [e18]
  simp only [s18_0, s18_1, s18_4, s18_5, s18_5n, s18_6, s18_9, s18_10, s18_11, s18_11n, s18_12, s18_13, s18_16, s18_19, zl_n, zl_i, zl_r, zl_0, z10, z01, ez_bd_s, ez_bd_n, eq_self, true_or, or_true, if_true, if_false, zb_eq, zb_eq1, zb_em, zb_em2, ite_not, List.append_nil, List.cons_append, List.nil_append, reduceCtorEq, not_true_eq_false, not_false_eq_true, nw_c, nw_21, hs_c, hs_21, isF_c, uF_c, beq_self_eq_true, Bool.true_and, List.length_cons, List.length_nil, Nat.reduceAdd, Nat.reduceLT, decide_true, List.set, hs_hs, hs_nw, hne, hx, i1, i2, hn']
theorem x_stat {d : Int32} (hg : g.1 = P.1) (w : xw h0 P c) (n7 : ¬ lv P (7, S, 0)) (n35 : ¬ lv P (3, 5, S)) (n45 : ¬ lv P (4, 5, S)) (n36 : ¬ lv P (3, 6, S)) (n46 : ¬ lv P (4, 6, S)) : ∃ h1 P1 c1, ez_nw (ez_nw (ez_nw (xh h0 P c) (.inr (8, [.int d, .int 0, .int 0, .int 0, .ref ((xh h0 P c).2.1 + 1), .ref ((xh h0 P c).2.1 + 1 + 1)])) 6) (.inr (0, [.int 0, .ref g.1, .int 0])) 3) (.inr (0, [.int 0, .ref g.1, .int 0])) 3 = xh h1 P1 c1 ∧ xw h1 P1 c1 ∧ lv P1 (7, S, 0) ∧ P1.2.2.1 (7, S, 0) = (xh h0 P c).2.1 ∧ c1 (7, S, 0) = (fun i => if i = 0 then d else 0) ∧ lsz P1 c1 5 S 0 ∧ lsz P1 c1 6 S 0 ∧ (∀ r, r ≠ (7, S, 0) → r ≠ (3, 5, S) → r ≠ (3, 6, S) → P1.2.2.1 r = P.2.2.1 r ∧ P1.2.2.2 r = P.2.2.2 r ∧ (r.1 ≠ 0 → (lv P1 r ↔ lv P r))) ∧ (∀ r, r ≠ (7, S, 0) → r ≠ (3, 5, S) → r ≠ (4, 5, S) → r ≠ (3, 6, S) → r ≠ (4, 6, S) → c1 r = c r) ∧ xfr h0 P h1 P1 3 12 := by
  have q0 := w.2.1 h0.2.1 (Nat.le_refl _)
  have q1 := w.2.1 (h0.2.1 + 1) (by omega)
  have q2 := w.2.1 (h0.2.1 + 1 + 1) (by omega)
  have hP : P.1 < h0.2.1 := w.2.2.2.2.2
  have eA : ez_nw (ez_nw (ez_nw (xh h0 P c) (.inr (8, [.int d, .int 0, .int 0, .int 0, .ref (h0.2.1 + 1), .ref (h0.2.1 + 1 + 1)])) 6) (.inr (0, [.int 0, .ref g.1, .int 0])) 3) (.inr (0, [.int 0, .ref g.1, .int 0])) 3 = xh (ez_nw (ez_nw (ez_nw h0 (.inr (8, [.int d, .int 0, .int 0, .int 0, .ref (h0.2.1 + 1), .ref (h0.2.1 + 1 + 1)])) 6) (.inr (0, [.int 0, .ref g.1, .int 0])) 3) (.inr (0, [.int 0, .ref g.1, .int 0])) 3) P c := by rw [xh_nw q0, xh_nw q1, xh_nw q2]
  generalize hA : ez_nw (ez_nw (ez_nw h0 (.inr (8, [.int d, .int 0, .int 0, .int 0, .ref (h0.2.1 + 1), .ref (h0.2.1 + 1 + 1)])) 6) (.inr (0, [.int 0, .ref g.1, .int 0])) 3) (.inr (0, [.int 0, .ref g.1, .int 0])) 3 = hB at eA
  have wB : xw hB P c := by rw [← hA]; exact xw_nw (xw_nw (xw_nw w))
  have B0 : hB.1 h0.2.1 = some (.inr (8, [.int d, .int 0, .int 0, .int 0, .ref (h0.2.1 + 1), .ref (h0.2.1 + 1 + 1)])) := by
    rw [← hA]
    simp only [nw_c, nw_21, ne01, ne011, if_true, if_false]
  have B1 : hB.1 (h0.2.1 + 1) = some (.inr (0, [.int 0, .ref P.1, .int 0])) := by
    rw [← hA, hg]
    simp only [nw_c, nw_21, ne111, if_true, if_false]
  have B2 : hB.1 (h0.2.1 + 1 + 1) = some (.inr (0, [.int 0, .ref P.1, .int 0])) := by
    rw [← hA, hg]
    simp only [nw_c, nw_21, if_true]
  have Bo : ∀ q, q < h0.2.1 → hB.1 q = h0.1 q := fun q hq => by
    rw [← hA]
    simp only [nw_c, nw_21]
    rw [if_neg (by omega), if_neg (by omega), if_neg (by omega)]
  have Bn : hB.2.1 = h0.2.1 + 3 ∧ hB.2.2 = h0.2.2 + 12 := by rw [← hA]; exact ⟨rfl, rfl⟩
  obtain ⟨h1, e1, w1, z1, o1, s1⟩ := x_adl (L := 5) (i := S) (a := h0.2.1 + 1) wB n35 n45 q1 (by omega) (by omega) B1
  have lp1 : ∀ r, r.1 ≠ 0 → r ≠ (3, 5, S) → (lv (pad P (3, 5, S) (h0.2.1 + 1)) r ↔ lv P r) := fun r u0 u1 => lv_pad q1 u0 u1
  have q2' : ((pad P (3, 5, S) (h0.2.1 + 1)).2.1 (h0.2.1 + 1 + 1)).1 = 0 := pad_o (show 3 ≠ 0 by decide) (by omega) q2
  have q0' : ((pad P (3, 5, S) (h0.2.1 + 1)).2.1 h0.2.1).1 = 0 := pad_o (show 3 ≠ 0 by decide) (by omega) q0
  have l35 : lv (pad P (3, 5, S) (h0.2.1 + 1)) (3, 5, S) := lv_pad_r
  have a35 : (pad P (3, 5, S) (h0.2.1 + 1)).2.2.1 (3, 5, S) = h0.2.1 + 1 := pad_r
  have pa1 : ∀ r, r ≠ (3, 5, S) → (pad P (3, 5, S) (h0.2.1 + 1)).2.2.1 r = P.2.2.1 r ∧ (pad P (3, 5, S) (h0.2.1 + 1)).2.2.2 r = P.2.2.2 r := fun r u => ⟨pad_a u, pad_c u⟩
  have hc1 : ∀ r, r ≠ (3, 5, S) → r ≠ (4, 5, S) → xnl c 5 S r = c r := fun r u1 u2 => xnl_n u1 u2
  have po1 : ∀ q, q < h0.2.1 → (P.2.1 q).1 = 0 → ((pad P (3, 5, S) (h0.2.1 + 1)).2.1 q).1 = 0 ∧ h1.1 q = h0.1 q := fun q hq h5 => ⟨pad_o (show 3 ≠ 0 by decide) (by omega) h5, by rw [o1 _ h5, Bo q hq]⟩
  have b0 : h1.1 h0.2.1 = some (.inr (8, [.int d, .int 0, .int 0, .int 0, .ref (h0.2.1 + 1), .ref (h0.2.1 + 1 + 1)])) := by rw [o1 _ q0, B0]
  have b2 : h1.1 (h0.2.1 + 1 + 1) = some (.inr (0, [.int 0, .ref P.1, .int 0])) := by rw [o1 _ q2, B2]
  have pe1 : (pad P (3, 5, S) (h0.2.1 + 1)).1 = P.1 := rfl
  generalize pad P (3, 5, S) (h0.2.1 + 1) = P1 at *
  generalize xnl c 5 S = c1 at *
  obtain ⟨h2, e2, w2, z2, o2, s2⟩ := x_adl (L := 6) (i := S) (a := h0.2.1 + 1 + 1) w1 (fun hl => n36 ((lp1 _ (show 3 ≠ 0 by decide) (by rintro ⟨⟩)).mp hl)) (fun hl => n46 ((lp1 _ (show 4 ≠ 0 by decide) (by rintro ⟨⟩)).mp hl)) q2' (by rw [z1]; omega) (by rw [pe1]; omega) (by rw [b2, pe1])
  have lp2 : ∀ r, r.1 ≠ 0 → r ≠ (3, 6, S) → (lv (pad P1 (3, 6, S) (h0.2.1 + 1 + 1)) r ↔ lv P1 r) := fun r u0 u1 => lv_pad q2' u0 u1
  have q0'' : ((pad P1 (3, 6, S) (h0.2.1 + 1 + 1)).2.1 h0.2.1).1 = 0 := pad_o (show 3 ≠ 0 by decide) (by omega) q0'
  have l36 : lv (pad P1 (3, 6, S) (h0.2.1 + 1 + 1)) (3, 6, S) := lv_pad_r
  have a36 : (pad P1 (3, 6, S) (h0.2.1 + 1 + 1)).2.2.1 (3, 6, S) = h0.2.1 + 1 + 1 := pad_r
  have pa2 : ∀ r, r ≠ (3, 6, S) → (pad P1 (3, 6, S) (h0.2.1 + 1 + 1)).2.2.1 r = P1.2.2.1 r ∧ (pad P1 (3, 6, S) (h0.2.1 + 1 + 1)).2.2.2 r = P1.2.2.2 r := fun r u => ⟨pad_a u, pad_c u⟩
  have hc2 : ∀ r, r ≠ (3, 6, S) → r ≠ (4, 6, S) → xnl c1 6 S r = c1 r := fun r u1 u2 => xnl_n u1 u2
  have po2 : ∀ q, q < h0.2.1 → (P1.2.1 q).1 = 0 → ((pad P1 (3, 6, S) (h0.2.1 + 1 + 1)).2.1 q).1 = 0 ∧ h2.1 q = h1.1 q := fun q hq h5 => ⟨pad_o (show 3 ≠ 0 by decide) (by omega) h5, by rw [o2 _ h5]⟩
  have b02 : h2.1 h0.2.1 = some (.inr (8, [.int d, .int 0, .int 0, .int 0, .ref (h0.2.1 + 1), .ref (h0.2.1 + 1 + 1)])) := by rw [o2 _ q0', b0]
  have pe2 : (pad P1 (3, 6, S) (h0.2.1 + 1 + 1)).1 = P.1 := pe1
  generalize pad P1 (3, 6, S) (h0.2.1 + 1 + 1) = P2 at *
  generalize xnl c1 6 S = c2 at *
  have l35' : lv P2 (3, 5, S) := (lp2 _ (show 3 ≠ 0 by decide) (by rintro ⟨⟩)).mpr l35
  obtain ⟨h3, e3, w3, z3, o3⟩ := x_ad (r := (7, S, 0)) (f := fun i => if i = 0 then d else 0) (a := h0.2.1) w2 (show 7 ≠ 0 by decide) (show 7 ≠ 4 by decide) (fun hl => n7 ((lp1 _ (show 7 ≠ 0 by decide) (by rintro ⟨⟩)).mp ((lp2 _ (show 7 ≠ 0 by decide) (by rintro ⟨⟩)).mp hl))) (fun h => absurd h (show ¬ 7 = 3 by decide)) q0'' (by rw [z2, z1]; omega) (by rw [pe2]; omega) (by
    rw [b02]
    show _ = some (Sum.inr (8, [Value.int d, Value.int 0, Value.int 0, Value.int 0, Value.ref ((pad P2 (7, S, 0) h0.2.1).2.2.1 (3, 5, S)), Value.ref ((pad P2 (7, S, 0) h0.2.1).2.2.1 (3, 6, S))]))
    rw [pad_a (by rintro ⟨⟩), pad_a (by rintro ⟨⟩), a36, (pa2 _ (by rintro ⟨⟩)).1, a35]) (fun r' hx _ => by
    rcases hx with hx | hx
    · rw [hx]; exact l35'
    · rw [hx]; exact l36)
  refine ⟨h3, pad P2 (7, S, 0) h0.2.1, xs c2 (7, S, 0) fun i => if i = 0 then d else 0, eA.trans (e1.trans (e2.trans e3)), w3, lv_pad_r, pad_r, xs_r, ?_, ?_, fun r u1 u2 u3 => ⟨by rw [pad_a u1, (pa2 r u3).1, (pa1 r u2).1], by rw [pad_c u1, (pa2 r u3).2, (pa1 r u2).2], fun u0 => (lv_pad q0'' u0 u1).trans ((lp2 r u0 u3).trans (lp1 r u0 u2))⟩, fun r u1 u2 u3 u4 u5 => by rw [xs_n u1, hc2 r u4 u5, hc1 r u2 u3], pe2, ?_, ?_, ?_, ?_, fun q hq h5 => ?_⟩
  · exact lsz_cg s1 (by rw [pad_c (by rintro ⟨⟩), (pa2 _ (by rintro ⟨⟩)).2]) (by rw [xs_n (by rintro ⟨⟩), hc2 _ (by rintro ⟨⟩) (by rintro ⟨⟩)]) (by rw [xs_n (by rintro ⟨⟩), hc2 _ (by rintro ⟨⟩) (by rintro ⟨⟩)])
  · exact lsz_cg s2 (by rw [pad_c (by rintro ⟨⟩)]) (by rw [xs_n (by rintro ⟨⟩)]) (by rw [xs_n (by rintro ⟨⟩)])
  · rw [z3, z2, z1]; omega
  · rw [z3, z2, z1]; omega
  · rw [z3, z2, z1]; omega
  · rw [z3, z2, z1]; omega
  · obtain ⟨u1, v1⟩ := po1 q hq h5
    obtain ⟨u2, v2⟩ := po2 q hq u1
    exact ⟨pad_o (show 7 ≠ 0 by decide) (by omega) u2, by rw [o3 _ u2, v2, v1]⟩
theorem x_reader {n : Int32} (w : xw h0 P c) (l16 : lv P (16, 0, 0)) (n14 : ¬ lv P (14, 0, 0)) : ∃ h1, ez_nw (xh h0 P c) (.inr (6, [.ref (P.2.2.1 (16, 0, 0)), .int n, .int 0, .int 0])) 4 = xh h1 (pad P (14, 0, 0) h0.2.1) (xs c (14, 0, 0) (fun i => if i = 1 then n else 0)) ∧ xw h1 (pad P (14, 0, 0) h0.2.1) (xs c (14, 0, 0) (fun i => if i = 1 then n else 0)) ∧ xfr h0 P h1 (pad P (14, 0, 0) h0.2.1) 1 4 := by
  refine x_new1 w (show 14 ≠ 0 by decide) (show 14 ≠ 4 by decide) n14 (fun h => absurd h (show ¬ 14 = 3 by decide)) ?_ (fun r' hx _ => by
    have hx : r' = (16, 0, 0) := hx
    rw [hx]
    exact l16)
  show some (Sum.inr (6, [Value.ref ((pad P (14, 0, 0) h0.2.1).2.2.1 (16, 0, 0)), Value.int n, Value.int 0, Value.int 0])) = _
  rw [pad_a (by rintro ⟨⟩)]
end NS
