section NW
variable {g : ez_G} {h h0 : ez_H} {P : xP} {c : xR → Nat → Int32} {r : xR} {a n : Nat} {f : Nat → Int32} {e E : ez_E}
theorem nw_c {q : Nat} : (ez_nw h e n).1 q = if q = h.2.1 then some e else h.1 q := id rfl
theorem nw_21 : (ez_nw h e n).2.1 = h.2.1 + 1 := id rfl
theorem nw_22 : (ez_nw h e n).2.2 = h.2.2 + n := id rfl
theorem hs_c {q : Nat} : (ez_hs h a e).1 q = if q = a then some e else h.1 q := id rfl
theorem hs_21 : (ez_hs h a e).2 = h.2 := id rfl
theorem hs_hs : ez_hs (ez_hs h a e) a E = ez_hs h a E := by
  refine Prod.ext (funext fun q => ?_) rfl
  rw [hs_c, hs_c, hs_c]
  split <;> rfl
theorem hs_nw : ez_hs (ez_nw h e n) h.2.1 E = ez_nw h E n := by
  refine Prod.ext (funext fun q => ?_) rfl
  rw [hs_c, nw_c, nw_c]
  split <;> rfl
theorem hs_nw' (ha : a ≠ h.2.1) : ez_hs (ez_nw h e n) a E = ez_nw (ez_hs h a E) e n := by
  refine Prod.ext (funext fun q => ?_) rfl
  rw [hs_c, nw_c, nw_c, hs_c, hs_21]
  by_cases h1 : q = a
  · subst h1
    rw [if_pos rfl, if_neg ha, if_pos rfl]
  · rw [if_neg h1, if_neg h1]
theorem isF_c {c' ci sl : Nat} {fs : List Value} : ez_isF (some (.inr (c', fs))) ci sl = (c' == ci && decide (sl < fs.length)) := id rfl
theorem uF_c {c' sl : Nat} {fs : List Value} {v : Value} : ez_uF (some (.inr (c', fs))) sl v = .inr (c', fs.set sl v) := id rfl
theorem ne01 {x : Nat} : (x = x + 1) = False := eq_false (by omega)
theorem ne10 {x : Nat} : (x + 1 = x) = False := eq_false (by omega)
theorem ne02 {x : Nat} : (x = x + 2) = False := eq_false (by omega)
theorem ne20 {x : Nat} : (x + 2 = x) = False := eq_false (by omega)
theorem ne12 {x : Nat} : (x + 1 = x + 2) = False := eq_false (by omega)
theorem ne21 {x : Nat} : (x + 2 = x + 1) = False := eq_false (by omega)
theorem ne011 {x : Nat} : (x = x + 1 + 1) = False := eq_false (by omega)
theorem ne111 {x : Nat} : (x + 1 = x + 1 + 1) = False := eq_false (by omega)
theorem xh_nw (hq : (P.2.1 h0.2.1).1 = 0) : ez_nw (xh h0 P c) e n = xh (ez_nw h0 e n) P c := by
  refine Prod.ext (funext fun q => ?_) rfl
  rw [nw_c]
  unfold xh
  dsimp only
  rw [nw_c]
  by_cases h1 : q = h0.2.1
  · subst h1
    rw [if_pos rfl, if_pos hq, if_pos rfl]
  · rw [if_neg h1, if_neg h1]
theorem xw_nw (w : xw h0 P c) : xw (ez_nw h0 e n) P c := by
  obtain ⟨w1, w2, w3, w4, w5, w6⟩ := w
  refine ⟨w1, fun q hq => w2 q ?_, w3, ?_, w5, ?_⟩
  · rw [nw_21] at hq
    omega
  · rw [nw_c, if_neg (by omega)]
    exact w4
  · rw [nw_21]
    omega
theorem pad_o {q : Nat} (hr : r.1 ≠ 0) (hq : q ≠ a) (h : (P.2.1 q).1 = 0) : ((pad P r a).2.1 q).1 = 0 := by
  show (if q = a then r else if P.2.1 q = r then (0, 0, 0) else P.2.1 q).1 = 0
  rw [if_neg hq, if_neg (fun e => hr (by rw [← e]; exact h))]
  exact h
/-- a new cell gets its role -/
theorem x_ad (w : xw h0 P c) (hr : r.1 ≠ 0) (hr4 : r.1 ≠ 4) (hnl : ¬ lv P r) (h4 : r.1 = 3 → ¬ lv P (4, r.2)) (ha : (P.2.1 a).1 = 0) (hal : a < h0.2.1) (hae : a ≠ P.1) (he : h0.1 a = ce (pad P r a) r f) (hf : ∀ r', xrd r r' f → r.1 ≠ 3 → lv P r') : ∃ h1, xh h0 P c = xh h1 (pad P r a) (xs c r f) ∧ xw h1 (pad P r a) (xs c r f) ∧ h1.2 = h0.2 ∧ ∀ q, (P.2.1 q).1 = 0 → h1.1 q = h0.1 q := by
  have hn : ∀ r2, r2.1 ≠ 0 → r2 ≠ r → lv P r2 → xct P r2 → ¬ xrd r2 r (c r2) := fun r2 h5 _ hl ht hx => hnl (w.2.2.1 r2 r h5 hl hx ht)
  refine ⟨had h0 P c r, xh_ad w hr hr4 ha he hn h4, xw_ad w hr hr4 ha hal hae hn (fun r' hx h3 => ⟨fun e => hnl (by rw [← e]; exact hf r' hx h3), hf r' hx h3⟩), rfl, fun q hq => ?_⟩
  show (if P.2.1 q = r then ce P r (c r) else h0.1 q) = _
  rw [if_neg (fun e => hr (by rw [← e]; exact hq))]
theorem xs_n {r' : xR} (h : r' ≠ r) : xs c r f r' = c r' := if_neg h
theorem xs_r : xs c r f r = f := if_pos rfl
theorem x_new1 (w : xw h0 P c) (hr : r.1 ≠ 0) (hr4 : r.1 ≠ 4) (hnl : ¬ lv P r) (h4 : r.1 = 3 → ¬ lv P (4, r.2)) (he : ce (pad P r h0.2.1) r f = some E) (hf : ∀ r', xrd r r' f → r.1 ≠ 3 → lv P r') : ∃ h1, ez_nw (xh h0 P c) E n = xh h1 (pad P r h0.2.1) (xs c r f) ∧ xw h1 (pad P r h0.2.1) (xs c r f) ∧ xfr h0 P h1 (pad P r h0.2.1) 1 n := by
  have hq := w.2.1 h0.2.1 (Nat.le_refl _)
  have hP : P.1 < h0.2.1 := w.2.2.2.2.2
  obtain ⟨h1, e1, w1, z1, o1⟩ := x_ad (h0 := ez_nw h0 E n) (f := f) (xw_nw w) hr hr4 hnl h4 hq (by rw [nw_21]; omega) (by omega) (by rw [nw_c, if_pos rfl, he]) hf
  refine ⟨h1, ?_, w1, rfl, ?_, ?_, ?_, ?_, fun q hq1 h5 => ⟨pad_o hr (by omega) h5, ?_⟩⟩
  · rw [xh_nw hq, e1]
  · rw [z1, nw_21]; omega
  · rw [z1, nw_21]; omega
  · rw [z1, nw_22]; omega
  · rw [z1, nw_22]; omega
  · rw [o1 q h5, nw_c, if_neg (by omega)]
theorem c_listInit (ha : h.1 a = some (.inr (0, [.int 0, .null, .int 0]))) : ez_ev g 148 [.ref a] h = some (none, ez_hs h a (.inr (0, [.int 0, .ref g.1, .int 0]))) := by
  have q1 : ez_ev g 146 [.ref a] h = some (none, h) := by
    rw [e146]
    simp only [s146_0, s146_1, s146_4, zl_n, zl_i, zl_r, zl_0, z10, z01, ez_bd_s, ez_bd_n, eq_self, true_or, or_true, if_true, if_false, zb_eq, zb_eq1, zb_em, zb_em2, ite_not, List.append_nil, List.cons_append, List.nil_append, reduceCtorEq, not_true_eq_false, not_false_eq_true]
  have q2 : ez_ev g 147 [.ref a] h = some (none, ez_hs h a (.inr (0, [.int 0, .null, .int 0]))) := by
    rw [e147]
    have hF : ez_isF (h.1 a) 0 0 = true := by rw [ha]; rfl
    simp only [s147_0, s147_1, s147_4, s147_5, s147_6, s147_9, zl_n, zl_i, zl_r, zl_0, z10, z01, ez_bd_s, ez_bd_n, eq_self, true_or, or_true, if_true, if_false, zb_eq, zb_eq1, zb_em, zb_em2, ite_not, List.append_nil, List.cons_append, List.nil_append, reduceCtorEq, not_true_eq_false, not_false_eq_true, q1, hF]
    rw [ha]
    rfl
  have hF : ez_isF ((ez_hs h a (.inr (0, [.int 0, .null, .int 0]))).1 a) 0 1 = true := by rw [hs_c, if_pos rfl]; rfl
  have hU : ez_uF ((ez_hs h a (.inr (0, [.int 0, .null, .int 0]))).1 a) 1 (.ref g.1) = .inr (0, [.int 0, .ref g.1, .int 0]) := by rw [hs_c, if_pos rfl]; rfl
  rw [e148]
  simp only [s148_0, s148_1, s148_4, s148_5, s148_8, s148_11, zl_n, zl_i, zl_r, zl_0, z10, z01, ez_bd_s, ez_bd_n, eq_self, true_or, or_true, if_true, if_false, zb_eq, zb_eq1, zb_em, zb_em2, ite_not, List.append_nil, List.cons_append, List.nil_append, reduceCtorEq, not_true_eq_false, not_false_eq_true, q2, hF, hU, hs_hs]
theorem c_licInit {x y k : Int32} : ez_ev g 10 [.ref h.2.1, .int x, .int y, .int k] (ez_nw h (.inr (3, [.int 0, .int 0, .int 0])) n) = some (none, ez_nw h (.inr (3, [.int x, .int y, .int k])) n) := by
  rw [e10]
  simp only [s10_0, s10_1, s10_4, s10_5, s10_6, s10_9, s10_10, s10_11, s10_14, s10_15, s10_16, s10_19, zl_n, zl_i, zl_r, zl_0, z10, z01, ez_bd_s, ez_bd_n, eq_self, true_or, or_true, if_true, if_false, zb_eq, zb_eq1, zb_em, zb_em2, ite_not, List.append_nil, List.cons_append, List.nil_append, reduceCtorEq, not_true_eq_false, not_false_eq_true, nw_c, hs_c, isF_c, uF_c, beq_self_eq_true, Bool.true_and, List.length_cons, List.length_nil, Nat.reduceAdd, Nat.reduceLT, decide_true, List.set, hs_hs, hs_nw]
theorem c_lotInit {x y s k d : Int32} : ez_ev g 13 [.ref h.2.1, .int x, .int y, .int s, .int k, .int d] (ez_nw h (.inr (5, [.int 0, .int 0, .int 0, .int 0, .int 0, .int 0, .int 0, .int 0, .int 0, .int 0, .int 0, .int 0, .int 0])) n) = some (none, ez_nw h (.inr (5, [.int x, .int y, .int s, .int k, .int d, .int 0, .int (-1), .int 0, .int 0, .int (-1), .int 0, .int 0, .int 0])) n) := by
  rw [e13]
  simp only [s13_0, s13_1, s13_4, s13_5, s13_6, s13_9, s13_10, s13_11, s13_14, s13_15, s13_16, s13_19, s13_20, s13_21, s13_24, s13_25, s13_26, s13_29, s13_30, s13_31, s13_34, s13_35, s13_37, s13_40, s13_41, s13_43, s13_46, zl_n, zl_i, zl_r, zl_0, z10, z01, ez_bd_s, ez_bd_n, eq_self, true_or, or_true, if_true, if_false, zb_eq, zb_eq1, zb_em, zb_em2, ite_not, List.append_nil, List.cons_append, List.nil_append, reduceCtorEq, not_true_eq_false, not_false_eq_true, nw_c, hs_c, isF_c, uF_c, beq_self_eq_true, Bool.true_and, List.length_cons, List.length_nil, Nat.reduceAdd, Nat.reduceLT, decide_true, List.set, hs_hs, hs_nw]
theorem c_loadInit {x : Nat} {k : Int32} : ez_ev g 12 [.ref h.2.1, .ref x, .int k] (ez_nw h (.inr (4, [.null, .int 0])) n) = some (none, ez_nw h (.inr (4, [.ref x, .int k])) n) := by
  rw [e12]
  simp only [s12_0, s12_1, s12_4, s12_5, s12_5n, s12_6, s12_9, s12_10, s12_11, s12_14, zl_n, zl_i, zl_r, zl_0, z10, z01, ez_bd_s, ez_bd_n, eq_self, true_or, or_true, if_true, if_false, zb_eq, zb_eq1, zb_em, zb_em2, ite_not, List.append_nil, List.cons_append, List.nil_append, reduceCtorEq, not_true_eq_false, not_false_eq_true, nw_c, hs_c, isF_c, uF_c, beq_self_eq_true, Bool.true_and, List.length_cons, List.length_nil, Nat.reduceAdd, Nat.reduceLT, decide_true, List.set, hs_hs, hs_nw]
theorem c_fleetInit {x : Int32} : ez_ev g 4 [.ref h.2.1, .int x] (ez_nw h (.inr (2, [.int 0, .int 0, .int 0, .null, .null])) n) = some (none, ez_nw (ez_nw (ez_nw h (.inr (2, [.int x, .int 0, .int 0, .ref (h.2.1 + 1), .ref (h.2.1 + 1 + 1)])) n) (.inr (0, [.int 0, .ref g.1, .int 0])) 3) (.inl (0, 20, .inl (fun _ => 0))) 20) := by
  rw [e4]
  simp only [s4_0, s4_1, s4_4, s4_5, s4_8, s4_9, s4_12, s4_15, s4_16, s4_18, s4_20, s4_23, s4_24, s4_25, s4_28, zl_n, zl_i, zl_r, zl_0, z10, z01, ez_bd_s, ez_bd_n, eq_self, true_or, or_true, if_true, if_false, zb_eq, zb_eq1, zb_em, zb_em2, ite_not, List.append_nil, List.cons_append, List.nil_append, reduceCtorEq, not_true_eq_false, not_false_eq_true, c_listInit, nw_c, nw_21, hs_c, hs_21, isF_c, uF_c, beq_self_eq_true, Bool.true_and, List.length_cons, List.length_nil, Nat.reduceAdd, Nat.reduceLT, decide_true, List.set, ne01, ne10, ne011, ne111]
  refine congrArg (fun x => some (none, x)) (Prod.ext (funext fun q => ?_) rfl)
  simp only [hs_c, nw_c, nw_21, hs_21]
  by_cases h1 : q = h.2.1
  · subst h1
    simp only [if_true, ne01, ne011, if_false]
  · by_cases h2 : q = h.2.1 + 1
    · subst h2
      simp only [if_true, ne10, ne111, if_false]
    · simp only [h1, h2, if_false]
theorem c_shipInit {x : Nat} {k : Int32} : ez_ev g 32 [.ref h.2.1, .ref x, .int k] (ez_nw h (.inr (7, [.null, .int 0, .int 0, .int 0, .null])) n) = some (none, ez_nw (ez_nw h (.inr (7, [.ref x, .int k, .int 0, .int 0, .ref (h.2.1 + 1)])) n) (.inr (0, [.int 0, .ref g.1, .int 0])) 3) := by
  rw [e32]
  simp only [s32_0, s32_1, s32_4, s32_5, s32_8, s32_9, s32_12, s32_15, s32_16, s32_16n, s32_17, s32_20, s32_21, s32_22, s32_25, zl_n, zl_i, zl_r, zl_0, z10, z01, ez_bd_s, ez_bd_n, eq_self, true_or, or_true, if_true, if_false, zb_eq, zb_eq1, zb_em, zb_em2, ite_not, List.append_nil, List.cons_append, List.nil_append, reduceCtorEq, not_true_eq_false, not_false_eq_true, c_listInit, nw_c, nw_21, hs_c, hs_21, isF_c, uF_c, beq_self_eq_true, Bool.true_and, List.length_cons, List.length_nil, Nat.reduceAdd, Nat.reduceLT, decide_true, List.set, ne01, ne10]
  refine congrArg (fun x => some (none, x)) (Prod.ext (funext fun q => ?_) rfl)
  simp only [hs_c, nw_c, nw_21, hs_21]
  by_cases h1 : q = h.2.1
  · subst h1
    simp only [if_true, ne01, if_false]
  · by_cases h2 : q = h.2.1 + 1
    · subst h2
      simp only [if_true, ne10, if_false]
    · simp only [h1, h2, if_false]
end NW
section BD
variable {z z1 : md_S} {i j n : Nat}
theorem bd_m {r : xR} (h : bd z r) (z2 : (z.1 2).toNatClampNeg ≤ (z1.1 2).toNatClampNeg) (z3 : (z.1 3).toNatClampNeg ≤ (z1.1 3).toNatClampNeg) (z4 : (z.1 4).toNatClampNeg ≤ (z1.1 4).toNatClampNeg) (z5 : (z.1 5).toNatClampNeg ≤ (z1.1 5).toNatClampNeg) (z40 : (z.1 40).toNatClampNeg ≤ (z1.1 40).toNatClampNeg) (hc : ∀ s, cn z s (z.1 6).toNatClampNeg ≤ cn z1 s (z1.1 6).toNatClampNeg) : bd z1 r := by
  obtain ⟨h1, h2, h3, h4, h5, h6, h7, h8⟩ := h
  refine ⟨fun e => by have := h1 e; omega, fun e => by have := h2 e; omega, fun e => by have := h3 e; omega, fun e => by have := h4 e; omega, fun e => by have := h5 e; have := hc (nI r.2.1); omega, fun e => ?_, fun e => by have := h7 e; omega, h8⟩
  obtain ⟨u1, u2, u3⟩ := h6 e
  exact ⟨fun e => by have := u1 e; omega, fun e => by have := u2 e; omega, fun e => by have := u3 e; omega⟩
theorem bd5 (h : n < (z.1 3).toNatClampNeg) : bd z (5, n, i) := by unfold bd; simp; omega
theorem bd6 (h : n < (z.1 2).toNatClampNeg) : bd z (6, n, i) := by unfold bd; simp; omega
theorem bd10 (h : n < (z.1 4).toNatClampNeg) : bd z (10, n, i) := by unfold bd; simp; omega
theorem bd11 (h : n < (z.1 4).toNatClampNeg) : bd z (11, n, i) := by unfold bd; simp; omega
theorem bd12 (h : n < (z.1 5).toNatClampNeg) : bd z (12, n, i) := by unfold bd; simp; omega
theorem bd13 (h : i < cn z (nI n) (z.1 6).toNatClampNeg) : bd z (13, n, i) := by unfold bd; simp; omega
theorem bd37 (h : n < (z.1 4).toNatClampNeg) : bd z (3, 7, n) ∧ bd z (4, 7, n) := by unfold bd; simp; omega
theorem bd38 (h : n < (z.1 5).toNatClampNeg) : bd z (3, 8, n) ∧ bd z (4, 8, n) := by unfold bd; simp; omega
theorem bd35 (h : n < (z.1 40).toNatClampNeg) : (bd z (3, 5, n) ∧ bd z (4, 5, n)) ∧ bd z (3, 6, n) ∧ bd z (4, 6, n) := by unfold bd; simp; omega
theorem bd7 (h : n < (z.1 40).toNatClampNeg) : bd z (7, n, i) ∧ bd z (8, n, i) ∧ bd z (9, n, i) := by unfold bd; simp; omega
theorem bd34 {L : Nat} (h : L < 5) : bd z (3, L, i) ∧ bd z (4, L, i) := by
  have : L ≠ 5 ∧ L ≠ 6 ∧ L ≠ 7 ∧ L ≠ 8 := by omega
  unfold bd
  simp [this]
end BD
