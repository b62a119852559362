section OE
variable {g : ez_G} {h h0 h2 : ez_H} {P P2 : xP} {c c' c2 : xR → Nat → Int32} {z Z : md_S} {a b : Nat} {f : Nat → Int32} {r : Nat → Int64}
/-! Arrays that have no role. -/
def hI (h0 : ez_H) (a : Nat) (f : Nat → Int32) : ez_H := ez_hs h0 a (.inl (0, 20, .inl f))
def hJ (h0 : ez_H) (a : Nat) (r : Nat → Int64) : ez_H := ez_hs h0 a (.inl (3, 20, .inr (.inl r)))
theorem hI_at (ha : (P.2.1 a).1 = 0) : (xh (hI h0 a f) P c).1 a = some (.inl (0, 20, .inl f)) := by
  rw [xh_o ha]
  exact if_pos rfl
theorem hJ_at (ha : (P.2.1 a).1 = 0) : (xh (hJ h0 a r) P c).1 a = some (.inl (3, 20, .inr (.inl r))) := by
  rw [xh_o ha]
  exact if_pos rfl
theorem hI_a {q : Int32} (ha : (P.2.1 a).1 = 0) : ez_isA ((xh (hI h0 a f) P c).1 a) 0 q = md_in q 20 := by rw [hI_at ha]; rfl
theorem hI_w {q : Int32} (ha : (P.2.1 a).1 = 0) : ez_isW ((xh (hI h0 a f) P c).1 a) 0 q = md_in q 20 := by rw [hI_at ha]; rfl
theorem hI_v {q : Int32} (ha : (P.2.1 a).1 = 0) : ez_vA ((xh (hI h0 a f) P c).1 a) q = f q.toNatClampNeg := by rw [hI_at ha]; rfl
theorem hI_n (ha : (P.2.1 a).1 = 0) : ez_isN ((xh (hI h0 a f) P c).1 a) = true := by rw [hI_at ha]; rfl
theorem hI_l (ha : (P.2.1 a).1 = 0) : ez_vN ((xh (hI h0 a f) P c).1 a) = 20 := by rw [hI_at ha]; rfl
theorem hI_u {q x : Int32} (ha : (P.2.1 a).1 = 0) : ez_hs (xh (hI h0 a f) P c) a (ez_uA ((xh (hI h0 a f) P c).1 a) q x) = xh (hI h0 a (upd f q.toNatClampNeg x)) P c := by
  rw [xh_out ha, hI_at ha]
  unfold hI
  rw [hs_hs]
  rfl
theorem hJ_a {q : Int32} (ha : (P.2.1 a).1 = 0) : ez_isL ((xh (hJ h0 a r) P c).1 a) q = md_in q 20 := by rw [hJ_at ha]; rfl
theorem hJ_v {q : Int32} (ha : (P.2.1 a).1 = 0) : ez_vL ((xh (hJ h0 a r) P c).1 a) q = r q.toNatClampNeg := by rw [hJ_at ha]; rfl
theorem hJ_n (ha : (P.2.1 a).1 = 0) : ez_isN ((xh (hJ h0 a r) P c).1 a) = true := by rw [hJ_at ha]; rfl
theorem hJ_l (ha : (P.2.1 a).1 = 0) : ez_vN ((xh (hJ h0 a r) P c).1 a) = 20 := by rw [hJ_at ha]; rfl
theorem hJ_u {q : Int32} {x : Int64} (ha : (P.2.1 a).1 = 0) : ez_hs (xh (hJ h0 a r) P c) a (ez_uL ((xh (hJ h0 a r) P c).1 a) q x) = xh (hJ h0 a (vp_updL r q.toNatClampNeg x)) P c := by
  rw [xh_out ha, hJ_at ha]
  unfold hJ
  rw [hs_hs]
  rfl
theorem xw_hs {e : ez_E} (w : xw h0 P c) (hae : a ≠ P.1) : xw (ez_hs h0 a e) P c := by
  obtain ⟨w1, w2, w3, w4, w5, w6⟩ := w
  refine ⟨w1, w2, w3, ?_, w5, w6⟩
  rw [hs_c, if_neg (fun e => hae e.symm)]
  exact w4
theorem hs_id {e : ez_E} (he : h.1 a = some e) : ez_hs h a e = h := by
  refine Prod.ext (funext fun q => ?_) rfl
  rw [hs_c]
  split
  · next hq => rw [hq, he]
  · rfl
/-- what a ship's loadings are worth -/
def aw (c : xR → Nat → Int32) (s : Nat) (f : Nat → Int32) : Nat → Nat → Int32
  | 0 => f
  | k + 1 => upd (aw c s f k) (c (5, gl c s k, 0) 0).toNatClampNeg (aw c s f k (c (5, gl c s k, 0) 0).toNatClampNeg + c (13, s, k) 1 * (4 - c (5, gl c s k, 0) 2))
theorem lc_addWorth {s n : Nat} (w : xw h0 P c) (l12 : lv P (12, s, 0)) (hs : lsz P c 8 s n) (hn : n ≤ 200) (hm : ∀ m, m < n → c (4, 8, s) m = nI m) (hme : ∀ m, m < n → md_in (c (5, gl c s m, 0) 0) 20 = true) (ha : (P.2.1 a).1 = 0) (hae : a ≠ P.1) : ∀ d j, j + d = n → ∀ x3 x4, ez_nl x3 = true → ez_rn g 35 2 [some (.ref (P.2.2.1 (12, s, 0))), some (.ref a), some (.int (nI j)), x3, x4] [] (xh (hI h0 a (aw c s f j)) P c) = some (none, xh (hI h0 a (aw c s f n)) P c) := by
  have l38 : lv P (3, 8, s) := xw_cl w l12 (Or.inr rfl) (show 12 ≠ 0 by decide) (show 12 ≠ 3 by decide)
  intro d
  induction d with
  | zero =>
    intro j hj x3 x4 h3
    obtain rfl : j = n := by omega
    rw [s35_2]
    simp only [s35_0, s35_1, s35_3, s35_4, s35_7, s35_10, s35_13, s35_14, s35_17, s35_18, s35_21, s35_24, s35_25, s35_26, s35_29, s35_31, s35_33, s35_36, s35_37, s35_37n, s35_38, s35_39, s35_40, s35_41, s35_44, s35_47, s35_47n, s35_48, s35_50, s35_53, s35_54, s35_55, s35_56, s35_59, s35_60, s35_62, s35_65, s35_66, s35_67, s35_68, s35_69, s35_72, s35_75, zl_n, zl_i, zl_r, zl_0, z10, z01, ez_bd_s, ez_bd_n, eq_self, true_or, or_true, if_true, if_false, zb_eq, zb_eq1, zb_em, zb_em2, ite_not, List.append_nil, List.cons_append, List.nil_append, reduceCtorEq, not_true_eq_false, not_false_eq_true, xo1, xa1, xf1_0, xv1_0, xp1_0, xf1_1, xv1_1, xf1_2, xv1_2, xp1_2, xf1_3, xv1_3, xf1_4, xv1_4, xf1_5, xv1_5, xp1_5, xf1_6, xv1_6, xp1_6, xf1_7, xv1_7, xf1_8, xv1_8, xf1_9, xv1_9, xf1_10, xv1_10, xf1_11, xv1_11, xf1_12, xv1_12, xf1_13, xv1_13, xf1_14, xv1_14, xp1_14, xo3, xa3, xf3_0, xv3_0, xp3_0, xf3_1, xv3_1, xf3_2, xv3_2, xp3_2, xo5, xa5, xf5_0, xv5_0, xp5_0, xf5_1, xv5_1, xp5_1, xf5_2, xv5_2, xp5_2, xf5_3, xv5_3, xp5_3, xf5_4, xv5_4, xp5_4, xf5_5, xv5_5, xp5_5, xf5_6, xv5_6, xp5_6, xf5_7, xv5_7, xp5_7, xf5_8, xv5_8, xp5_8, xf5_9, xv5_9, xp5_9, xf5_10, xv5_10, xp5_10, xf5_11, xv5_11, xp5_11, xf5_12, xv5_12, xp5_12, xo6, xa6, xf6_0, xv6_0, xp6_0, xf6_1, xv6_1, xp6_1, xf6_2, xv6_2, xp6_2, xo7, xa7, xf7_0, xv7_0, xp7_0, xf7_1, xv7_1, xp7_1, xf7_2, xv7_2, xp7_2, xf7_3, xv7_3, xp7_3, xf7_4, xv7_4, xf7_5, xv7_5, xo8, xa8, xf8_0, xv8_0, xp8_0, xf8_1, xv8_1, xo10, xa10, xf10_0, xv10_0, xp10_0, xf10_1, xv10_1, xp10_1, xf10_2, xv10_2, xp10_2, xf10_3, xv10_3, xf10_4, xv10_4, xo12, xa12, xf12_0, xv12_0, xf12_1, xv12_1, xp12_1, xf12_2, xv12_2, xp12_2, xf12_3, xv12_3, xp12_3, xf12_4, xv12_4, xo13, xa13, xf13_0, xv13_0, xf13_1, xv13_1, xp13_1, xo14, xa14, xf14_0, xv14_0, xf14_1, xv14_1, xp14_1, xf14_2, xv14_2, xp14_2, xf14_3, xv14_3, xp14_3, ya2_1, yw2_1, yv2_1, yp2_1, yn2_1, yl2_1, ya2_3, yw2_3, yv2_3, yp2_3, yn2_3, yl2_3, ya2_10, yw2_10, yv2_10, yp2_10, yn2_10, yl2_10, ya2_11, yw2_11, yv2_11, yp2_11, yn2_11, yl2_11, ya9, yw9, yv9, yp9, yn9, yl9, ya11, yw11, yv11, yp11, yn11, yl11, ya15, yw15, yv15, yp15, yn15, yl15, ya16, yw16, yv16, yp16, yn16, yl16, ok10, ok11, ok1i, xu_s, xu_n, ne_eq, Prod.mk.injEq, Nat.reduceEqDiff, false_and, and_false, not_false_eq_true, l12, l38, q_size, hs.1, nI_leT (Nat.le_refl j) (by omega)]
  | succ d ih =>
    intro j hj x3 x4 h3
    have w' : xw (hI h0 a (aw c s f j)) P c := xw_hs w hae
    obtain ⟨q, l13⟩ := g_get (g := g) (v := j) w' l38 hs (show j < n by omega) (by omega) (hm j (by omega))
    have q : ez_ev g 153 [.ref (P.2.2.1 (3, 8, s)), .int (nI j)] (xh (hI h0 a (aw c s f j)) P c) = some (some (.ref (P.2.2.1 (13, s, j))), xh (hI h0 a (aw c s f j)) P c) := q
    have l13 : lv P (13, s, j) := l13
    have l5 : lv P (5, gl c s j, 0) := xw_cl w l13 rfl (show 13 ≠ 0 by decide) (show 13 ≠ 3 by decide)
    have hgl : (c (13, s, j) 0).toNatClampNeg = gl c s j := rfl
    have hme := hme j (by omega)
    obtain ⟨em, hlt⟩ := md_inE hme
    have hw1 : (0 ≤ c (5, gl c s j, 0) 0 ∧ c (5, gl c s j, 0) 0 ≤ nI 20 - 1) = True := eq_true (by rw [em]; exact ix_t hlt (by decide))
    have hx := ih (j + 1) (by omega) (some (.ref (P.2.2.1 (13, s, j)))) (some (.ref (P.2.2.1 (5, gl c s j, 0)))) zl_r
    rw [aw] at hx
    rw [s35_2]
    simp only [s35_0, s35_1, s35_3, s35_4, s35_7, s35_10, s35_13, s35_14, s35_17, s35_18, s35_21, s35_24, s35_25, s35_26, s35_29, s35_31, s35_33, s35_36, s35_37, s35_37n, s35_38, s35_39, s35_40, s35_41, s35_44, s35_47, s35_47n, s35_48, s35_50, s35_53, s35_54, s35_55, s35_56, s35_59, s35_60, s35_62, s35_65, s35_66, s35_67, s35_68, s35_69, s35_72, s35_75, zl_n, zl_i, zl_r, zl_0, z10, z01, ez_bd_s, ez_bd_n, eq_self, true_or, or_true, if_true, if_false, zb_eq, zb_eq1, zb_em, zb_em2, ite_not, List.append_nil, List.cons_append, List.nil_append, reduceCtorEq, not_true_eq_false, not_false_eq_true, xo1, xa1, xf1_0, xv1_0, xp1_0, xf1_1, xv1_1, xf1_2, xv1_2, xp1_2, xf1_3, xv1_3, xf1_4, xv1_4, xf1_5, xv1_5, xp1_5, xf1_6, xv1_6, xp1_6, xf1_7, xv1_7, xf1_8, xv1_8, xf1_9, xv1_9, xf1_10, xv1_10, xf1_11, xv1_11, xf1_12, xv1_12, xf1_13, xv1_13, xf1_14, xv1_14, xp1_14, xo3, xa3, xf3_0, xv3_0, xp3_0, xf3_1, xv3_1, xf3_2, xv3_2, xp3_2, xo5, xa5, xf5_0, xv5_0, xp5_0, xf5_1, xv5_1, xp5_1, xf5_2, xv5_2, xp5_2, xf5_3, xv5_3, xp5_3, xf5_4, xv5_4, xp5_4, xf5_5, xv5_5, xp5_5, xf5_6, xv5_6, xp5_6, xf5_7, xv5_7, xp5_7, xf5_8, xv5_8, xp5_8, xf5_9, xv5_9, xp5_9, xf5_10, xv5_10, xp5_10, xf5_11, xv5_11, xp5_11, xf5_12, xv5_12, xp5_12, xo6, xa6, xf6_0, xv6_0, xp6_0, xf6_1, xv6_1, xp6_1, xf6_2, xv6_2, xp6_2, xo7, xa7, xf7_0, xv7_0, xp7_0, xf7_1, xv7_1, xp7_1, xf7_2, xv7_2, xp7_2, xf7_3, xv7_3, xp7_3, xf7_4, xv7_4, xf7_5, xv7_5, xo8, xa8, xf8_0, xv8_0, xp8_0, xf8_1, xv8_1, xo10, xa10, xf10_0, xv10_0, xp10_0, xf10_1, xv10_1, xp10_1, xf10_2, xv10_2, xp10_2, xf10_3, xv10_3, xf10_4, xv10_4, xo12, xa12, xf12_0, xv12_0, xf12_1, xv12_1, xp12_1, xf12_2, xv12_2, xp12_2, xf12_3, xv12_3, xp12_3, xf12_4, xv12_4, xo13, xa13, xf13_0, xv13_0, xf13_1, xv13_1, xp13_1, xo14, xa14, xf14_0, xv14_0, xf14_1, xv14_1, xp14_1, xf14_2, xv14_2, xp14_2, xf14_3, xv14_3, xp14_3, ya2_1, yw2_1, yv2_1, yp2_1, yn2_1, yl2_1, ya2_3, yw2_3, yv2_3, yp2_3, yn2_3, yl2_3, ya2_10, yw2_10, yv2_10, yp2_10, yn2_10, yl2_10, ya2_11, yw2_11, yv2_11, yp2_11, yn2_11, yl2_11, ya9, yw9, yv9, yp9, yn9, yl9, ya11, yw11, yv11, yp11, yn11, yl11, ya15, yw15, yv15, yp15, yn15, yl15, ya16, yw16, yv16, yp16, yn16, yl16, ok10, ok11, ok1i, xu_s, xu_n, ne_eq, Prod.mk.injEq, Nat.reduceEqDiff, false_and, and_false, not_false_eq_true, l12, l38, l13, l5, q_size, hs.1, nI_nleI (show j < n by omega) (by omega), q, hgl, h3, hI_n ha, hI_l ha, ofN, c_within, hw1, hI_a ha, hI_w ha, hI_v ha, hI_u ha, hme, nI_1]
    exact hx
theorem c_addWorth {s n : Nat} (w : xw h0 P c) (l12 : lv P (12, s, 0)) (hs : lsz P c 8 s n) (hn : n ≤ 200) (hm : ∀ m, m < n → c (4, 8, s) m = nI m) (hme : ∀ m, m < n → md_in (c (5, gl c s m, 0) 0) 20 = true) (ha : (P.2.1 a).1 = 0) (hae : a ≠ P.1) : ez_ev g 35 [.ref (P.2.2.1 (12, s, 0)), .ref a] (xh (hI h0 a f) P c) = some (none, xh (hI h0 a (aw c s f n)) P c) := by
  have lp := lc_addWorth (g := g) (f := f) w l12 hs hn hm hme ha hae _ 0 (Nat.zero_add _) none none zl_n
  rw [aw, nI_0] at lp
  rw [e35, ← lp]
  simp only [s35_0, s35_1, s35_3, s35_4, s35_7, s35_10, s35_13, s35_14, s35_17, s35_18, s35_21, s35_24, s35_25, s35_26, s35_29, s35_31, s35_33, s35_36, s35_37, s35_37n, s35_38, s35_39, s35_40, s35_41, s35_44, s35_47, s35_47n, s35_48, s35_50, s35_53, s35_54, s35_55, s35_56, s35_59, s35_60, s35_62, s35_65, s35_66, s35_67, s35_68, s35_69, s35_72, s35_75, zl_n, zl_i, zl_r, zl_0, z10, z01, ez_bd_s, ez_bd_n, eq_self, true_or, or_true, if_true, if_false, zb_eq, zb_eq1, zb_em, zb_em2, ite_not, List.append_nil, List.cons_append, List.nil_append, reduceCtorEq, not_true_eq_false, not_false_eq_true]
/-- a member's number -/
def ms (c : xR → Nat → Int32) (k m : Nat) : Nat := (c (4, 7, k) m).toNatClampNeg
def wm (c : xR → Nat → Int32) (k : Nat) : Nat → Nat → Int32
  | 0 => fun _ => 0
  | m + 1 => if c (12, ms c k m, 0) 3 = 0 then aw c (ms c k m) (wm c k m) (c (3, 8, ms c k m) 2).toNatClampNeg else wm c k m
theorem lc_worth {k n : Nat} (w : xw h0 P c) (l10 : lv P (10, k, 0)) (hs : lsz P c 7 k n) (hn : n ≤ 40) (hm : ∀ m, m < n → ms c k m < 40 ∧ c (4, 7, k) m = nI (ms c k m) ∧ ∃ K, K ≤ 200 ∧ lsz P c 8 (ms c k m) K ∧ (∀ j, j < K → c (4, 8, ms c k m) j = nI j) ∧ ∀ j, j < K → md_in (c (5, gl c (ms c k m) j, 0) 0) 20 = true) (ha : (P.2.1 a).1 = 0) (hae : a ≠ P.1) : ∀ d j, j + d = n → ∀ x3, ez_rn g 7 7 [some (.ref (P.2.2.1 (10, k, 0))), some (.ref a), some (.int (nI j)), x3] [] (xh (hI h0 a (wm c k j)) P c) = some (some (.ref a), xh (hI h0 a (wm c k n)) P c) := by
  have l37 : lv P (3, 7, k) := xw_cl w l10 (Or.inl rfl) (show 10 ≠ 0 by decide) (show 10 ≠ 3 by decide)
  intro d
  induction d with
  | zero =>
    intro j hj x3
    obtain rfl : j = n := by omega
    rw [s7_7]
    simp only [s7_0, s7_2, s7_4, s7_5, s7_6, s7_8, s7_9, s7_12, s7_15, s7_18, s7_19, s7_22, s7_23, s7_26, s7_29, s7_30, s7_31, s7_34, s7_37, s7_38, s7_39, s7_42, s7_45, s7_48, s7_49, zl_n, zl_i, zl_r, zl_0, z10, z01, ez_bd_s, ez_bd_n, eq_self, true_or, or_true, if_true, if_false, zb_eq, zb_eq1, zb_em, zb_em2, ite_not, List.append_nil, List.cons_append, List.nil_append, reduceCtorEq, not_true_eq_false, not_false_eq_true, xo1, xa1, xf1_0, xv1_0, xp1_0, xf1_1, xv1_1, xf1_2, xv1_2, xp1_2, xf1_3, xv1_3, xf1_4, xv1_4, xf1_5, xv1_5, xp1_5, xf1_6, xv1_6, xp1_6, xf1_7, xv1_7, xf1_8, xv1_8, xf1_9, xv1_9, xf1_10, xv1_10, xf1_11, xv1_11, xf1_12, xv1_12, xf1_13, xv1_13, xf1_14, xv1_14, xp1_14, xo3, xa3, xf3_0, xv3_0, xp3_0, xf3_1, xv3_1, xf3_2, xv3_2, xp3_2, xo5, xa5, xf5_0, xv5_0, xp5_0, xf5_1, xv5_1, xp5_1, xf5_2, xv5_2, xp5_2, xf5_3, xv5_3, xp5_3, xf5_4, xv5_4, xp5_4, xf5_5, xv5_5, xp5_5, xf5_6, xv5_6, xp5_6, xf5_7, xv5_7, xp5_7, xf5_8, xv5_8, xp5_8, xf5_9, xv5_9, xp5_9, xf5_10, xv5_10, xp5_10, xf5_11, xv5_11, xp5_11, xf5_12, xv5_12, xp5_12, xo6, xa6, xf6_0, xv6_0, xp6_0, xf6_1, xv6_1, xp6_1, xf6_2, xv6_2, xp6_2, xo7, xa7, xf7_0, xv7_0, xp7_0, xf7_1, xv7_1, xp7_1, xf7_2, xv7_2, xp7_2, xf7_3, xv7_3, xp7_3, xf7_4, xv7_4, xf7_5, xv7_5, xo8, xa8, xf8_0, xv8_0, xp8_0, xf8_1, xv8_1, xo10, xa10, xf10_0, xv10_0, xp10_0, xf10_1, xv10_1, xp10_1, xf10_2, xv10_2, xp10_2, xf10_3, xv10_3, xf10_4, xv10_4, xo12, xa12, xf12_0, xv12_0, xf12_1, xv12_1, xp12_1, xf12_2, xv12_2, xp12_2, xf12_3, xv12_3, xp12_3, xf12_4, xv12_4, xo13, xa13, xf13_0, xv13_0, xf13_1, xv13_1, xp13_1, xo14, xa14, xf14_0, xv14_0, xf14_1, xv14_1, xp14_1, xf14_2, xv14_2, xp14_2, xf14_3, xv14_3, xp14_3, ya2_1, yw2_1, yv2_1, yp2_1, yn2_1, yl2_1, ya2_3, yw2_3, yv2_3, yp2_3, yn2_3, yl2_3, ya2_10, yw2_10, yv2_10, yp2_10, yn2_10, yl2_10, ya2_11, yw2_11, yv2_11, yp2_11, yn2_11, yl2_11, ya9, yw9, yv9, yp9, yn9, yl9, ya11, yw11, yv11, yp11, yn11, yl11, ya15, yw15, yv15, yp15, yn15, yl15, ya16, yw16, yv16, yp16, yn16, yl16, ok10, ok11, ok1i, xu_s, xu_n, ne_eq, Prod.mk.injEq, Nat.reduceEqDiff, false_and, and_false, not_false_eq_true, l10, l37, q_size, hs.1, nI_leT (Nat.le_refl j) (by omega)]
  | succ d ih =>
    intro j hj x3
    obtain ⟨h1, e1, K, hK, sK, mK, meK⟩ := hm j (by omega)
    have w' : xw (hI h0 a (wm c k j)) P c := xw_hs w hae
    obtain ⟨q, l12⟩ := g_get (g := g) w' l37 hs (show j < n by omega) (show ms c k j < 2 ^ 31 by omega) e1
    have q : ez_ev g 153 [.ref (P.2.2.1 (3, 7, k)), .int (nI j)] (xh (hI h0 a (wm c k j)) P c) = some (some (.ref (P.2.2.1 (12, ms c k j, 0))), xh (hI h0 a (wm c k j)) P c) := q
    have l12 : lv P (12, ms c k j, 0) := l12
    have qa := c_addWorth (g := g) (f := wm c k j) w l12 sK hK mK meK ha hae
    have hx := ih (j + 1) (by omega)
    rw [wm, sK.1, nI_clamp (by omega)] at hx
    rw [s7_7]
    simp only [s7_0, s7_2, s7_4, s7_5, s7_6, s7_8, s7_9, s7_12, s7_15, s7_18, s7_19, s7_22, s7_23, s7_26, s7_29, s7_30, s7_31, s7_34, s7_37, s7_38, s7_39, s7_42, s7_45, s7_48, s7_49, zl_n, zl_i, zl_r, zl_0, z10, z01, ez_bd_s, ez_bd_n, eq_self, true_or, or_true, if_true, if_false, zb_eq, zb_eq1, zb_em, zb_em2, ite_not, List.append_nil, List.cons_append, List.nil_append, reduceCtorEq, not_true_eq_false, not_false_eq_true, xo1, xa1, xf1_0, xv1_0, xp1_0, xf1_1, xv1_1, xf1_2, xv1_2, xp1_2, xf1_3, xv1_3, xf1_4, xv1_4, xf1_5, xv1_5, xp1_5, xf1_6, xv1_6, xp1_6, xf1_7, xv1_7, xf1_8, xv1_8, xf1_9, xv1_9, xf1_10, xv1_10, xf1_11, xv1_11, xf1_12, xv1_12, xf1_13, xv1_13, xf1_14, xv1_14, xp1_14, xo3, xa3, xf3_0, xv3_0, xp3_0, xf3_1, xv3_1, xf3_2, xv3_2, xp3_2, xo5, xa5, xf5_0, xv5_0, xp5_0, xf5_1, xv5_1, xp5_1, xf5_2, xv5_2, xp5_2, xf5_3, xv5_3, xp5_3, xf5_4, xv5_4, xp5_4, xf5_5, xv5_5, xp5_5, xf5_6, xv5_6, xp5_6, xf5_7, xv5_7, xp5_7, xf5_8, xv5_8, xp5_8, xf5_9, xv5_9, xp5_9, xf5_10, xv5_10, xp5_10, xf5_11, xv5_11, xp5_11, xf5_12, xv5_12, xp5_12, xo6, xa6, xf6_0, xv6_0, xp6_0, xf6_1, xv6_1, xp6_1, xf6_2, xv6_2, xp6_2, xo7, xa7, xf7_0, xv7_0, xp7_0, xf7_1, xv7_1, xp7_1, xf7_2, xv7_2, xp7_2, xf7_3, xv7_3, xp7_3, xf7_4, xv7_4, xf7_5, xv7_5, xo8, xa8, xf8_0, xv8_0, xp8_0, xf8_1, xv8_1, xo10, xa10, xf10_0, xv10_0, xp10_0, xf10_1, xv10_1, xp10_1, xf10_2, xv10_2, xp10_2, xf10_3, xv10_3, xf10_4, xv10_4, xo12, xa12, xf12_0, xv12_0, xf12_1, xv12_1, xp12_1, xf12_2, xv12_2, xp12_2, xf12_3, xv12_3, xp12_3, xf12_4, xv12_4, xo13, xa13, xf13_0, xv13_0, xf13_1, xv13_1, xp13_1, xo14, xa14, xf14_0, xv14_0, xf14_1, xv14_1, xp14_1, xf14_2, xv14_2, xp14_2, xf14_3, xv14_3, xp14_3, ya2_1, yw2_1, yv2_1, yp2_1, yn2_1, yl2_1, ya2_3, yw2_3, yv2_3, yp2_3, yn2_3, yl2_3, ya2_10, yw2_10, yv2_10, yp2_10, yn2_10, yl2_10, ya2_11, yw2_11, yv2_11, yp2_11, yn2_11, yl2_11, ya9, yw9, yv9, yp9, yn9, yl9, ya11, yw11, yv11, yp11, yn11, yl11, ya15, yw15, yv15, yp15, yn15, yl15, ya16, yw16, yv16, yp16, yn16, yl16, ok10, ok11, ok1i, xu_s, xu_n, ne_eq, Prod.mk.injEq, Nat.reduceEqDiff, false_and, and_false, not_false_eq_true, l10, l37, l12, q_size, hs.1, nI_nleI (show j < n by omega) (by omega), q, qa, nI_1]
    by_cases e2 : c (12, ms c k j, 0) 3 = 0
    · rw [if_pos e2] at hx ⊢
      exact hx _
    · rw [if_neg e2] at hx ⊢
      exact hx _
theorem c_worthM {k n : Nat} (w : xw h0 P c) (l10 : lv P (10, k, 0)) (hs : lsz P c 7 k n) (hn : n ≤ 40) (hm : ∀ m, m < n → ms c k m < 40 ∧ c (4, 7, k) m = nI (ms c k m) ∧ ∃ K, K ≤ 200 ∧ lsz P c 8 (ms c k m) K ∧ (∀ j, j < K → c (4, 8, ms c k m) j = nI j) ∧ ∀ j, j < K → md_in (c (5, gl c (ms c k m) j, 0) 0) 20 = true) : ez_ev g 7 [.ref (P.2.2.1 (10, k, 0))] (xh h0 P c) = some (some (.ref h0.2.1), xh (hI (ez_nw h0 (.inl (0, 20, .inl fun _ => 0)) 20) h0.2.1 (wm c k n)) P c) := by
  have ha := w.2.1 h0.2.1 (Nat.le_refl _)
  have hP : P.1 < h0.2.1 := w.2.2.2.2.2
  have lp := lc_worth (g := g) (a := h0.2.1) (xw_nw (e := .inl (0, 20, .inl fun _ => 0)) (n := 20) w) l10 hs hn hm ha (by omega) _ 0 (Nat.zero_add _) none
  rw [wm, nI_0] at lp
  have e0 : hI (ez_nw h0 (.inl (0, 20, .inl fun _ => 0)) 20) h0.2.1 (fun _ => 0) = ez_nw h0 (.inl (0, 20, .inl fun _ => 0)) 20 := hs_id (if_pos rfl)
  rw [e0] at lp
  rw [e7, ← lp]
  simp only [s7_0, s7_2, s7_4, s7_5, s7_6, s7_8, s7_9, s7_12, s7_15, s7_18, s7_19, s7_22, s7_23, s7_26, s7_29, s7_30, s7_31, s7_34, s7_37, s7_38, s7_39, s7_42, s7_45, s7_48, s7_49, zl_n, zl_i, zl_r, zl_0, z10, z01, ez_bd_s, ez_bd_n, eq_self, true_or, or_true, if_true, if_false, zb_eq, zb_eq1, zb_em, zb_em2, ite_not, List.append_nil, List.cons_append, List.nil_append, reduceCtorEq, not_true_eq_false, not_false_eq_true, xh_nw ha, xh_2]
/-- the greatest of the rests -/
def gB (r : Nat → Int64) : Nat → Nat
  | 0 => 0
  | m + 1 => if m = 0 then 0 else if lg_cmp (r m) (r (gB r m)) ≤ 0 then gB r m else m
theorem gB_le : ∀ m, gB r m ≤ m
  | 0 => Nat.le_refl _
  | m + 1 => by
    have := gB_le m
    rw [gB]
    repeat' split
    all_goals omega
theorem gB_lt {m : Nat} (h : 0 < m) : gB r m < m := by
  cases m with
  | zero => omega
  | succ m =>
    have := gB_le (r := r) m
    rw [gB]
    repeat' split
    all_goals omega
theorem lc_greatest (ha : (P.2.1 a).1 = 0) : ∀ d m, m + d = 20 → 1 ≤ m → ez_rn g 9 4 [some (.ref a), some (.int (nI (gB r m))), some (.int (nI m))] [] (xh (hJ h0 a r) P c) = some (some (.int (nI (gB r 20))), xh (hJ h0 a r) P c) := by
  intro d
  induction d with
  | zero =>
    intro m hm _
    obtain rfl : m = 20 := by omega
    rw [s9_4]
    simp only [s9_0, s9_1, s9_2, s9_3, s9_5, s9_5n, s9_6, s9_7, s9_10, s9_10n, s9_11, s9_12, s9_13, s9_13n, s9_14, s9_15, s9_16, s9_17, s9_20, s9_21, s9_22, s9_25, s9_28, s9_29, zl_n, zl_i, zl_r, zl_0, z10, z01, ez_bd_s, ez_bd_n, eq_self, true_or, or_true, if_true, if_false, zb_eq, zb_eq1, zb_em, zb_em2, ite_not, List.append_nil, List.cons_append, List.nil_append, reduceCtorEq, not_true_eq_false, not_false_eq_true, hJ_n ha, hJ_l ha, ofN, nI_leT (show 20 ≤ 20 by decide) (by decide)]
  | succ d ih =>
    intro m hm h1
    have hx := ih (m + 1) (by omega) (by omega)
    rw [gB, if_neg (by omega)] at hx
    have hg := gB_lt (r := r) (show 0 < m by omega)
    have p1 : md_in (nI m) 20 = true := md_inN (by omega) (by decide)
    have p2 : md_in (nI (gB r m)) 20 = true := md_inN (by omega) (by decide)
    have q1 : (nI m).toNatClampNeg = m := nI_clamp (by omega)
    have q2 : (nI (gB r m)).toNatClampNeg = gB r m := nI_clamp (by omega)
    rw [s9_4]
    simp only [s9_0, s9_1, s9_2, s9_3, s9_5, s9_5n, s9_6, s9_7, s9_10, s9_10n, s9_11, s9_12, s9_13, s9_13n, s9_14, s9_15, s9_16, s9_17, s9_20, s9_21, s9_22, s9_25, s9_28, s9_29, zl_n, zl_i, zl_r, zl_0, z10, z01, ez_bd_s, ez_bd_n, eq_self, true_or, or_true, if_true, if_false, zb_eq, zb_eq1, zb_em, zb_em2, ite_not, List.append_nil, List.cons_append, List.nil_append, reduceCtorEq, not_true_eq_false, not_false_eq_true, hJ_n ha, hJ_l ha, ofN, nI_nleI (show m < 20 by omega) (by decide), hJ_a ha, hJ_v ha, p1, p2, q1, q2, nI_1]
    by_cases e1 : lg_cmp (r m) (r (gB r m)) ≤ 0
    · rw [if_pos e1] at hx ⊢
      exact hx
    · rw [if_neg e1] at hx ⊢
      exact hx
theorem c_greatest (ha : (P.2.1 a).1 = 0) : ez_ev g 9 [.ref a] (xh (hJ h0 a r) P c) = some (some (.int (nI (gB r 20))), xh (hJ h0 a r) P c) := by
  have lp := lc_greatest (g := g) (h0 := h0) (c := c) (r := r) ha 19 1 rfl (Nat.le_refl _)
  rw [gB, if_pos rfl, nI_0, show nI 1 = 1 from rfl] at lp
  rw [e9, ← lp]
  simp only [s9_0, s9_1, s9_2, s9_3, s9_5, s9_5n, s9_6, s9_7, s9_10, s9_10n, s9_11, s9_12, s9_13, s9_13n, s9_14, s9_15, s9_16, s9_17, s9_20, s9_21, s9_22, s9_25, s9_28, s9_29, zl_n, zl_i, zl_r, zl_0, z10, z01, ez_bd_s, ez_bd_n, eq_self, true_or, or_true, if_true, if_false, zb_eq, zb_eq1, zb_em, zb_em2, ite_not, List.append_nil, List.cons_append, List.nil_append, reduceCtorEq, not_true_eq_false, not_false_eq_true]
/-- coins are handed out -/
def ho (c : xR → Nat → Int32) (k : Nat) (r : Nat → Int64) : Nat → (xR → Nat → Int32) × (Nat → Int64)
  | 0 => (c, r)
  | t + 1 => (xu (ho c k r t).1 (11, k, 0) (gB (ho c k r t).2 20) ((ho c k r t).1 (11, k, 0) (gB (ho c k r t).2 20) + 1), vp_updL (ho c k r t).2 (gB (ho c k r t).2 20) (-1))
theorem lc_handOut {k L : Nat} (ok : xok P) (l10 : lv P (10, k, 0)) (l11 : lv P (11, k, 0)) (ha : (P.2.1 a).1 = 0) (hL : L ≤ 20) : ∀ d t, t + d = L → ∀ x4, ez_rn g 8 2 [some (.ref (P.2.2.1 (10, k, 0))), some (.int (nI L)), some (.ref a), some (.int (nI t)), x4] [] (xh (hJ h0 a (ho c k r t).2) P (ho c k r t).1) = some (none, xh (hJ h0 a (ho c k r L).2) P (ho c k r L).1) := by
  intro d
  induction d with
  | zero =>
    intro t ht x4
    obtain rfl : t = L := by omega
    rw [s8_2]
    simp only [s8_0, s8_1, s8_3, s8_4, s8_7, s8_8, s8_10, s8_13, s8_13n, s8_14, s8_17, s8_19, s8_20, s8_23, s8_25, s8_26, s8_27, s8_28, s8_29, s8_30, s8_30n, s8_31, s8_33, s8_36, s8_37, s8_40, s8_43, zl_n, zl_i, zl_r, zl_0, z10, z01, ez_bd_s, ez_bd_n, eq_self, true_or, or_true, if_true, if_false, zb_eq, zb_eq1, zb_em, zb_em2, ite_not, List.append_nil, List.cons_append, List.nil_append, reduceCtorEq, not_true_eq_false, not_false_eq_true, nI_leT (Nat.le_refl t) (by omega)]
  | succ d ih =>
    intro t ht x4
    have hx := ih (t + 1) (by omega)
    rw [ho] at hx
    have hg := gB_lt (r := (ho c k r t).2) (show 0 < 20 by decide)
    have p2 : md_in (nI (gB (ho c k r t).2 20)) 20 = true := md_inN (by omega) (by decide)
    have q2 : (nI (gB (ho c k r t).2 20)).toNatClampNeg = gB (ho c k r t).2 20 := nI_clamp (by omega)
    have qg := c_greatest (g := g) (h0 := h0) (P := P) (c := (ho c k r t).1) (r := (ho c k r t).2) ha
    rw [s8_2]
    simp only [s8_0, s8_1, s8_3, s8_4, s8_7, s8_8, s8_10, s8_13, s8_13n, s8_14, s8_17, s8_19, s8_20, s8_23, s8_25, s8_26, s8_27, s8_28, s8_29, s8_30, s8_30n, s8_31, s8_33, s8_36, s8_37, s8_40, s8_43, zl_n, zl_i, zl_r, zl_0, z10, z01, ez_bd_s, ez_bd_n, eq_self, true_or, or_true, if_true, if_false, zb_eq, zb_eq1, zb_em, zb_em2, ite_not, List.append_nil, List.cons_append, List.nil_append, reduceCtorEq, not_true_eq_false, not_false_eq_true, xo1, xa1, xf1_0, xv1_0, xp1_0, xf1_1, xv1_1, xf1_2, xv1_2, xp1_2, xf1_3, xv1_3, xf1_4, xv1_4, xf1_5, xv1_5, xp1_5, xf1_6, xv1_6, xp1_6, xf1_7, xv1_7, xf1_8, xv1_8, xf1_9, xv1_9, xf1_10, xv1_10, xf1_11, xv1_11, xf1_12, xv1_12, xf1_13, xv1_13, xf1_14, xv1_14, xp1_14, xo3, xa3, xf3_0, xv3_0, xp3_0, xf3_1, xv3_1, xf3_2, xv3_2, xp3_2, xo5, xa5, xf5_0, xv5_0, xp5_0, xf5_1, xv5_1, xp5_1, xf5_2, xv5_2, xp5_2, xf5_3, xv5_3, xp5_3, xf5_4, xv5_4, xp5_4, xf5_5, xv5_5, xp5_5, xf5_6, xv5_6, xp5_6, xf5_7, xv5_7, xp5_7, xf5_8, xv5_8, xp5_8, xf5_9, xv5_9, xp5_9, xf5_10, xv5_10, xp5_10, xf5_11, xv5_11, xp5_11, xf5_12, xv5_12, xp5_12, xo6, xa6, xf6_0, xv6_0, xp6_0, xf6_1, xv6_1, xp6_1, xf6_2, xv6_2, xp6_2, xo7, xa7, xf7_0, xv7_0, xp7_0, xf7_1, xv7_1, xp7_1, xf7_2, xv7_2, xp7_2, xf7_3, xv7_3, xp7_3, xf7_4, xv7_4, xf7_5, xv7_5, xo8, xa8, xf8_0, xv8_0, xp8_0, xf8_1, xv8_1, xo10, xa10, xf10_0, xv10_0, xp10_0, xf10_1, xv10_1, xp10_1, xf10_2, xv10_2, xp10_2, xf10_3, xv10_3, xf10_4, xv10_4, xo12, xa12, xf12_0, xv12_0, xf12_1, xv12_1, xp12_1, xf12_2, xv12_2, xp12_2, xf12_3, xv12_3, xp12_3, xf12_4, xv12_4, xo13, xa13, xf13_0, xv13_0, xf13_1, xv13_1, xp13_1, xo14, xa14, xf14_0, xv14_0, xf14_1, xv14_1, xp14_1, xf14_2, xv14_2, xp14_2, xf14_3, xv14_3, xp14_3, ya2_1, yw2_1, yv2_1, yp2_1, yn2_1, yl2_1, ya2_3, yw2_3, yv2_3, yp2_3, yn2_3, yl2_3, ya2_10, yw2_10, yv2_10, yp2_10, yn2_10, yl2_10, ya2_11, yw2_11, yv2_11, yp2_11, yn2_11, yl2_11, ya9, yw9, yv9, yp9, yn9, yl9, ya11, yw11, yv11, yp11, yn11, yl11, ya15, yw15, yv15, yp15, yn15, yl15, ya16, yw16, yv16, yp16, yn16, yl16, ok10, ok11, ok1i, xu_s, xu_n, ne_eq, Prod.mk.injEq, Nat.reduceEqDiff, false_and, and_false, not_false_eq_true, l10, l11, ok, nI_nleI (show t < L by omega) (by omega), show (20 ≤ nI t) = False from eq_false (nI_ge (b := 20) (by omega) (by decide)), qg, p2, q2, hJ_a ha, hJ_u ha, nI_1]
    exact hx _
theorem c_handOut {k L : Nat} (ok : xok P) (l10 : lv P (10, k, 0)) (l11 : lv P (11, k, 0)) (ha : (P.2.1 a).1 = 0) (hL : L ≤ 20) : ez_ev g 8 [.ref (P.2.2.1 (10, k, 0)), .int (nI L), .ref a] (xh (hJ h0 a r) P c) = some (none, xh (hJ h0 a (ho c k r L).2) P (ho c k r L).1) := by
  have lp := lc_handOut (g := g) (h0 := h0) (c := c) (r := r) ok l10 l11 ha hL L 0 (Nat.zero_add _) none
  rw [ho, nI_0] at lp
  rw [e8, ← lp]
  simp only [s8_0, s8_1, s8_3, s8_4, s8_7, s8_8, s8_10, s8_13, s8_13n, s8_14, s8_17, s8_19, s8_20, s8_23, s8_25, s8_26, s8_27, s8_28, s8_29, s8_30, s8_30n, s8_31, s8_33, s8_36, s8_37, s8_40, s8_43, zl_n, zl_i, zl_r, zl_0, z10, z01, ez_bd_s, ez_bd_n, eq_self, true_or, or_true, if_true, if_false, zb_eq, zb_eq1, zb_em, zb_em2, ite_not, List.append_nil, List.cons_append, List.nil_append, reduceCtorEq, not_true_eq_false, not_false_eq_true]
def la (f : Nat → Int32) : Nat → Int64
  | 0 => 0
  | m + 1 => la f m + (f m).toInt64
def sq (C : Int32) (f : Nat → Int32) (al : Int64) (m : Nat) : Int32 := (C.toInt64 * (f m).toInt64 / al).toInt32
def sr (C : Int32) (f : Nat → Int32) (al : Int64) (m : Nat) : Int64 := C.toInt64 * (f m).toInt64 - C.toInt64 * (f m).toInt64 / al * al
def ps (c : xR → Nat → Int32) (k : Nat) (C : Int32) (f : Nat → Int32) (al : Int64) : Nat → xR → Nat → Int32
  | 0 => c
  | m + 1 => xu (ps c k C f al m) (11, k, 0) m (sq C f al m)
def rs (C : Int32) (f : Nat → Int32) (al : Int64) : Nat → Nat → Int64
  | 0 => fun _ => 0
  | m + 1 => vp_updL (rs C f al m) m (sr C f al m)
def ov (C : Int32) (f : Nat → Int32) (al : Int64) : Nat → Int32
  | 0 => C
  | m + 1 => ov C f al m - sq C f al m
end OE
