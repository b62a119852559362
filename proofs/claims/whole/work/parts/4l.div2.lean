section OF
variable {g : ez_G} {h h0 h2 : ez_H} {P P2 : xP} {c c' c2 : xR → Nat → Int32} {z Z : md_S} {a b k : Nat} {f : Nat → Int32} {r : Nat → Int64}
theorem lc_all {C : Int32} (ha : (P.2.1 a).1 = 0) : ∀ d m, m + d = 20 → ez_rn g 6 10 [some (.ref (P.2.2.1 (10, k, 0))), some (.int C), some (.ref a), some (.long (la f m)), none, some (.int (nI m)), none, none, none, none] [] (xh (hI h0 a f) P c) = ez_rn g 6 31 [some (.ref (P.2.2.1 (10, k, 0))), some (.int C), some (.ref a), some (.long (la f 20)), none, some (.int (nI 20)), none, none, none, none] [] (xh (hI h0 a f) P c) := by
  intro d
  induction d with
  | zero =>
    intro m hm
    obtain rfl : m = 20 := by omega
    rw [s6_10]
    simp only [s6_0, s6_1, s6_4, s6_5, s6_6, s6_7, s6_8, s6_12, s6_14, s6_17, s6_18, s6_19, s6_21, s6_22, s6_23, s6_24, s6_25, s6_28, s6_32, s6_33, s6_34, s6_37, s6_38, s6_39, s6_41, s6_43, s6_45, s6_46, s6_48, s6_49, s6_51, s6_53, s6_55, s6_58, s6_59, s6_60, s6_61, s6_63, s6_64, s6_65, s6_66, s6_68, s6_69, s6_72, s6_74, s6_76, s6_77, s6_78, s6_79, s6_80, s6_82, s6_84, s6_86, s6_87, s6_88, s6_89, s6_91, s6_92, s6_95, s6_97, s6_98, s6_99, s6_101, s6_104, s6_107, s6_108, s6_110, s6_112, s6_115, s6_116, zl_n, zl_i, zl_r, zl_0, z10, z01, ez_bd_s, ez_bd_n, eq_self, true_or, or_true, if_true, if_false, zb_eq, zb_eq1, zb_em, zb_em2, ite_not, List.append_nil, List.cons_append, List.nil_append, reduceCtorEq, not_true_eq_false, not_false_eq_true, show (20 ≤ nI 20) = True from eq_true (nI_le (a := 20) (b := 20) (by decide) (by decide))]
  | succ d ih =>
    intro m hm
    have hx := ih (m + 1) (by omega)
    rw [la] at hx
    have p1 : md_in (nI m) 20 = true := md_inN (by omega) (by decide)
    have q1 : (nI m).toNatClampNeg = m := nI_clamp (by omega)
    rw [s6_10]
    simp only [s6_0, s6_1, s6_4, s6_5, s6_6, s6_7, s6_8, s6_12, s6_14, s6_17, s6_18, s6_19, s6_21, s6_22, s6_23, s6_24, s6_25, s6_28, s6_32, s6_33, s6_34, s6_37, s6_38, s6_39, s6_41, s6_43, s6_45, s6_46, s6_48, s6_49, s6_51, s6_53, s6_55, s6_58, s6_59, s6_60, s6_61, s6_63, s6_64, s6_65, s6_66, s6_68, s6_69, s6_72, s6_74, s6_76, s6_77, s6_78, s6_79, s6_80, s6_82, s6_84, s6_86, s6_87, s6_88, s6_89, s6_91, s6_92, s6_95, s6_97, s6_98, s6_99, s6_101, s6_104, s6_107, s6_108, s6_110, s6_112, s6_115, s6_116, zl_n, zl_i, zl_r, zl_0, z10, z01, ez_bd_s, ez_bd_n, eq_self, true_or, or_true, if_true, if_false, zb_eq, zb_eq1, zb_em, zb_em2, ite_not, List.append_nil, List.cons_append, List.nil_append, reduceCtorEq, not_true_eq_false, not_false_eq_true, show (20 ≤ nI m) = False from eq_false (nI_ge (b := 20) (by omega) (by decide)), hI_a ha, hI_v ha, p1, q1, nI_1]
    exact hx
theorem ps_n {C : Int32} {al : Int64} {r' : xR} (hr : r' ≠ (11, k, 0)) : ∀ m, ps c k C f al m r' = c r'
  | 0 => rfl
  | m + 1 => by rw [ps, xu_n hr, ps_n hr m]
theorem lc_shares {C : Int32} {al : Int64} (ok : xok P) (l10 : lv P (10, k, 0)) (l11 : lv P (11, k, 0)) (ha : (P.2.1 a).1 = 0) (hb : (P.2.1 b).1 = 0) (hab : a ≠ b) (hf : h0.1 a = some (.inl (0, 20, .inl f))) (hal : ¬ al = 0) : ∀ d m, m + d = 20 → ∀ x8 x9, ez_rn g 6 51 [some (.ref (P.2.2.1 (10, k, 0))), some (.int C), some (.ref a), some (.long al), none, some (.ref b), some (.int (ov C f al m)), some (.int (nI m)), x8, x9] [] (xh (hJ h0 b (rs C f al m)) P (ps c k C f al m)) = ez_bd g 6 115 [some (.ref (P.2.2.1 (10, k, 0))), some (.int C), some (.ref a), some (.long al), none, some (.ref b), some (.int (ov C f al 20)), some (.int (nI 20)), (if d = 0 then x8 else some (.long (C.toInt64 * (f 19).toInt64))), (if d = 0 then x9 else none)] [] (ez_ev g 8 [.ref (P.2.2.1 (10, k, 0)), .int (ov C f al 20), .ref b] (xh (hJ h0 b (rs C f al 20)) P (ps c k C f al 20))) := by
  intro d
  induction d with
  | zero =>
    intro m hm x8 x9
    obtain rfl : m = 20 := by omega
    rw [s6_51]
    simp only [s6_0, s6_1, s6_4, s6_5, s6_6, s6_7, s6_8, s6_10, s6_12, s6_14, s6_17, s6_18, s6_19, s6_21, s6_22, s6_23, s6_24, s6_25, s6_28, s6_31, s6_32, s6_33, s6_34, s6_37, s6_38, s6_39, s6_41, s6_43, s6_45, s6_46, s6_48, s6_49, s6_53, s6_55, s6_58, s6_59, s6_60, s6_61, s6_63, s6_64, s6_65, s6_66, s6_68, s6_69, s6_72, s6_74, s6_76, s6_77, s6_78, s6_79, s6_80, s6_82, s6_84, s6_86, s6_87, s6_88, s6_89, s6_91, s6_92, s6_95, s6_97, s6_98, s6_99, s6_101, s6_104, s6_107, s6_108, s6_110, s6_112, s6_116, zl_n, zl_i, zl_r, zl_0, z10, z01, ez_bd_s, ez_bd_n, eq_self, true_or, or_true, if_true, if_false, zb_eq, zb_eq1, zb_em, zb_em2, ite_not, List.append_nil, List.cons_append, List.nil_append, reduceCtorEq, not_true_eq_false, not_false_eq_true, xo1, xa1, xf1_0, xv1_0, xp1_0, xf1_1, xv1_1, xf1_2, xv1_2, xp1_2, xf1_3, xv1_3, xf1_4, xv1_4, xf1_5, xv1_5, xp1_5, xf1_6, xv1_6, xp1_6, xf1_7, xv1_7, xf1_8, xv1_8, xf1_9, xv1_9, xf1_10, xv1_10, xf1_11, xv1_11, xf1_12, xv1_12, xf1_13, xv1_13, xf1_14, xv1_14, xp1_14, xo3, xa3, xf3_0, xv3_0, xp3_0, xf3_1, xv3_1, xf3_2, xv3_2, xp3_2, xo5, xa5, xf5_0, xv5_0, xp5_0, xf5_1, xv5_1, xp5_1, xf5_2, xv5_2, xp5_2, xf5_3, xv5_3, xp5_3, xf5_4, xv5_4, xp5_4, xf5_5, xv5_5, xp5_5, xf5_6, xv5_6, xp5_6, xf5_7, xv5_7, xp5_7, xf5_8, xv5_8, xp5_8, xf5_9, xv5_9, xp5_9, xf5_10, xv5_10, xp5_10, xf5_11, xv5_11, xp5_11, xf5_12, xv5_12, xp5_12, xo6, xa6, xf6_0, xv6_0, xp6_0, xf6_1, xv6_1, xp6_1, xf6_2, xv6_2, xp6_2, xo7, xa7, xf7_0, xv7_0, xp7_0, xf7_1, xv7_1, xp7_1, xf7_2, xv7_2, xp7_2, xf7_3, xv7_3, xp7_3, xf7_4, xv7_4, xf7_5, xv7_5, xo8, xa8, xf8_0, xv8_0, xp8_0, xf8_1, xv8_1, xo10, xa10, xf10_0, xv10_0, xp10_0, xf10_1, xv10_1, xp10_1, xf10_2, xv10_2, xp10_2, xf10_3, xv10_3, xf10_4, xv10_4, xo12, xa12, xf12_0, xv12_0, xf12_1, xv12_1, xp12_1, xf12_2, xv12_2, xp12_2, xf12_3, xv12_3, xp12_3, xf12_4, xv12_4, xo13, xa13, xf13_0, xv13_0, xf13_1, xv13_1, xp13_1, xo14, xa14, xf14_0, xv14_0, xf14_1, xv14_1, xp14_1, xf14_2, xv14_2, xp14_2, xf14_3, xv14_3, xp14_3, ya2_1, yw2_1, yv2_1, yp2_1, yn2_1, yl2_1, ya2_3, yw2_3, yv2_3, yp2_3, yn2_3, yl2_3, ya2_10, yw2_10, yv2_10, yp2_10, yn2_10, yl2_10, ya2_11, yw2_11, yv2_11, yp2_11, yn2_11, yl2_11, ya9, yw9, yv9, yp9, yn9, yl9, ya11, yw11, yv11, yp11, yn11, yl11, ya15, yw15, yv15, yp15, yn15, yl15, ya16, yw16, yv16, yp16, yn16, yl16, ok10, ok11, ok1i, xu_s, xu_n, ne_eq, Prod.mk.injEq, Nat.reduceEqDiff, false_and, and_false, not_false_eq_true, l10, show (20 ≤ nI 20) = True from eq_true (nI_le (a := 20) (b := 20) (by decide) (by decide))]
  | succ d ih =>
    intro m hm x8 x9
    have hat : (xh (hJ h0 b (rs C f al m)) P (ps c k C f al m)).1 a = some (.inl (0, 20, .inl f)) := by
      rw [xh_o ha]
      show (if a = b then _ else h0.1 a) = _
      rw [if_neg hab, hf]
    have ia : ∀ q, ez_isA ((xh (hJ h0 b (rs C f al m)) P (ps c k C f al m)).1 a) 0 q = md_in q 20 := fun q => by rw [hat]; rfl
    have iv : ∀ q, ez_vA ((xh (hJ h0 b (rs C f al m)) P (ps c k C f al m)).1 a) q = f q.toNatClampNeg := fun q => by rw [hat]; rfl
    have hx := ih (m + 1) (by omega) (some (.long (C.toInt64 * (f m).toInt64))) none
    rw [rs, ps, ov] at hx
    have p1 : md_in (nI m) 20 = true := md_inN (by omega) (by decide)
    have q1 : (nI m).toNatClampNeg = m := nI_clamp (by omega)
    have s1 : (C.toInt64 * (f m).toInt64 / al).toInt32 = sq C f al m := rfl
    have s2 : C.toInt64 * (f m).toInt64 - C.toInt64 * (f m).toInt64 / al * al = sr C f al m := rfl
    rw [s6_51]
    simp only [s6_0, s6_1, s6_4, s6_5, s6_6, s6_7, s6_8, s6_10, s6_12, s6_14, s6_17, s6_18, s6_19, s6_21, s6_22, s6_23, s6_24, s6_25, s6_28, s6_31, s6_32, s6_33, s6_34, s6_37, s6_38, s6_39, s6_41, s6_43, s6_45, s6_46, s6_48, s6_49, s6_53, s6_55, s6_58, s6_59, s6_60, s6_61, s6_63, s6_64, s6_65, s6_66, s6_68, s6_69, s6_72, s6_74, s6_76, s6_77, s6_78, s6_79, s6_80, s6_82, s6_84, s6_86, s6_87, s6_88, s6_89, s6_91, s6_92, s6_95, s6_97, s6_98, s6_99, s6_101, s6_104, s6_107, s6_108, s6_110, s6_112, s6_116, zl_n, zl_i, zl_r, zl_0, z10, z01, ez_bd_s, ez_bd_n, eq_self, true_or, or_true, if_true, if_false, zb_eq, zb_eq1, zb_em, zb_em2, ite_not, List.append_nil, List.cons_append, List.nil_append, reduceCtorEq, not_true_eq_false, not_false_eq_true, xo1, xa1, xf1_0, xv1_0, xp1_0, xf1_1, xv1_1, xf1_2, xv1_2, xp1_2, xf1_3, xv1_3, xf1_4, xv1_4, xf1_5, xv1_5, xp1_5, xf1_6, xv1_6, xp1_6, xf1_7, xv1_7, xf1_8, xv1_8, xf1_9, xv1_9, xf1_10, xv1_10, xf1_11, xv1_11, xf1_12, xv1_12, xf1_13, xv1_13, xf1_14, xv1_14, xp1_14, xo3, xa3, xf3_0, xv3_0, xp3_0, xf3_1, xv3_1, xf3_2, xv3_2, xp3_2, xo5, xa5, xf5_0, xv5_0, xp5_0, xf5_1, xv5_1, xp5_1, xf5_2, xv5_2, xp5_2, xf5_3, xv5_3, xp5_3, xf5_4, xv5_4, xp5_4, xf5_5, xv5_5, xp5_5, xf5_6, xv5_6, xp5_6, xf5_7, xv5_7, xp5_7, xf5_8, xv5_8, xp5_8, xf5_9, xv5_9, xp5_9, xf5_10, xv5_10, xp5_10, xf5_11, xv5_11, xp5_11, xf5_12, xv5_12, xp5_12, xo6, xa6, xf6_0, xv6_0, xp6_0, xf6_1, xv6_1, xp6_1, xf6_2, xv6_2, xp6_2, xo7, xa7, xf7_0, xv7_0, xp7_0, xf7_1, xv7_1, xp7_1, xf7_2, xv7_2, xp7_2, xf7_3, xv7_3, xp7_3, xf7_4, xv7_4, xf7_5, xv7_5, xo8, xa8, xf8_0, xv8_0, xp8_0, xf8_1, xv8_1, xo10, xa10, xf10_0, xv10_0, xp10_0, xf10_1, xv10_1, xp10_1, xf10_2, xv10_2, xp10_2, xf10_3, xv10_3, xf10_4, xv10_4, xo12, xa12, xf12_0, xv12_0, xf12_1, xv12_1, xp12_1, xf12_2, xv12_2, xp12_2, xf12_3, xv12_3, xp12_3, xf12_4, xv12_4, xo13, xa13, xf13_0, xv13_0, xf13_1, xv13_1, xp13_1, xo14, xa14, xf14_0, xv14_0, xf14_1, xv14_1, xp14_1, xf14_2, xv14_2, xp14_2, xf14_3, xv14_3, xp14_3, ya2_1, yw2_1, yv2_1, yp2_1, yn2_1, yl2_1, ya2_3, yw2_3, yv2_3, yp2_3, yn2_3, yl2_3, ya2_10, yw2_10, yv2_10, yp2_10, yn2_10, yl2_10, ya2_11, yw2_11, yv2_11, yp2_11, yn2_11, yl2_11, ya9, yw9, yv9, yp9, yn9, yl9, ya11, yw11, yv11, yp11, yn11, yl11, ya15, yw15, yv15, yp15, yn15, yl15, ya16, yw16, yv16, yp16, yn16, yl16, ok10, ok11, ok1i, xu_s, xu_n, ne_eq, Prod.mk.injEq, Nat.reduceEqDiff, false_and, and_false, not_false_eq_true, l10, l11, ok, show (20 ≤ nI m) = False from eq_false (nI_ge (b := 20) (by omega) (by decide)), ia, iv, hJ_a hb, hJ_u hb, p1, q1, hal, s1, s2, nI_1]
    rw [hx]
    have e8 : (if d = 0 then some (Value.long (C.toInt64 * (f m).toInt64)) else some (Value.long (C.toInt64 * (f 19).toInt64))) = some (Value.long (C.toInt64 * (f 19).toInt64)) := by
      split
      · next h0 => rw [show m = 19 by omega]
      · rfl
    rw [e8, ite_self]
theorem c_divide {n L : Nat} {C : Int32} (w : xw h0 P c) (l10 : lv P (10, k, 0)) (hs : lsz P c 7 k n) (hn : n ≤ 40) (hm : ∀ m, m < n → ms c k m < 40 ∧ c (4, 7, k) m = nI (ms c k m) ∧ ∃ K, K ≤ 200 ∧ lsz P c 8 (ms c k m) K ∧ (∀ j, j < K → c (4, 8, ms c k m) j = nI j) ∧ ∀ j, j < K → md_in (c (5, gl c (ms c k m) j, 0) 0) 20 = true) : (lg_cmp (la (wm c k n) 20) 0 ≤ 0 → ∃ h1, ez_ev g 6 [.ref (P.2.2.1 (10, k, 0)), .int C] (xh h0 P c) = some (some (.int 0), xh h1 P c) ∧ xw h1 P c ∧ xfr h0 P h1 P 2 40) ∧ (¬ lg_cmp (la (wm c k n) 20) 0 ≤ 0 → ¬ la (wm c k n) 20 = 0 → ov C (wm c k n) (la (wm c k n) 20) 20 = nI L → L ≤ 20 → ∃ h1, ez_ev g 6 [.ref (P.2.2.1 (10, k, 0)), .int C] (xh h0 P c) = some (some (.int C), xh h1 P (ho (ps c k C (wm c k n) (la (wm c k n) 20) 20) k (rs C (wm c k n) (la (wm c k n) 20) 20) L).1) ∧ (∀ c', xcl P c' → xw h1 P c') ∧ xfr h0 P h1 P 2 40) := by
  have ha := w.2.1 h0.2.1 (Nat.le_refl _)
  have hb := w.2.1 (h0.2.1 + 1) (by omega)
  have hP : P.1 < h0.2.1 := w.2.2.2.2.2
  have l11 : lv P (11, k, 0) := xw_cl w l10 (Or.inr rfl) (show 10 ≠ 0 by decide) (show 10 ≠ 3 by decide)
  have q1 := c_worthM (g := g) w l10 hs hn hm
  have wA : xw (hI (ez_nw h0 (.inl (0, 20, .inl fun _ => 0)) 20) h0.2.1 (wm c k n)) P c := xw_hs (xw_nw w) (by omega)
  have A21 : (hI (ez_nw h0 (.inl (0, 20, .inl fun _ => 0)) 20) h0.2.1 (wm c k n)).2.1 = h0.2.1 + 1 := rfl
  have A22 : (hI (ez_nw h0 (.inl (0, 20, .inl fun _ => 0)) 20) h0.2.1 (wm c k n)).2.2 = h0.2.2 + 20 := rfl
  have Aa : (hI (ez_nw h0 (.inl (0, 20, .inl fun _ => 0)) 20) h0.2.1 (wm c k n)).1 h0.2.1 = some (.inl (0, 20, .inl (wm c k n))) := if_pos rfl
  have Ao : ∀ q, q < h0.2.1 → (hI (ez_nw h0 (.inl (0, 20, .inl fun _ => 0)) 20) h0.2.1 (wm c k n)).1 q = h0.1 q := fun q hq => by
    show (if q = h0.2.1 then _ else (ez_nw h0 _ 20).1 q) = _
    rw [if_neg (by omega), nw_c, if_neg (by omega)]
  have la1 := lc_all (g := g) (h0 := ez_nw h0 (.inl (0, 20, .inl fun _ => 0)) 20) (P := P) (c := c) (k := k) (a := h0.2.1) (f := wm c k n) (C := C) ha 20 0 rfl
  rw [la, nI_0] at la1
  have start : ez_ev g 6 [.ref (P.2.2.1 (10, k, 0)), .int C] (xh h0 P c) = ez_rn g 6 31 [some (.ref (P.2.2.1 (10, k, 0))), some (.int C), some (.ref h0.2.1), some (.long (la (wm c k n) 20)), none, some (.int (nI 20)), none, none, none, none] [] (xh (hI (ez_nw h0 (.inl (0, 20, .inl fun _ => 0)) 20) h0.2.1 (wm c k n)) P c) := by
    rw [e6]
    simp only [s6_0, s6_1, s6_4, s6_5, s6_6, s6_7, s6_8, s6_12, s6_14, s6_17, s6_18, s6_19, s6_21, s6_22, s6_23, s6_24, s6_25, s6_28, s6_32, s6_33, s6_34, s6_37, s6_38, s6_39, s6_41, s6_43, s6_45, s6_46, s6_48, s6_49, s6_51, s6_53, s6_55, s6_58, s6_59, s6_60, s6_61, s6_63, s6_64, s6_65, s6_66, s6_68, s6_69, s6_72, s6_74, s6_76, s6_77, s6_78, s6_79, s6_80, s6_82, s6_84, s6_86, s6_87, s6_88, s6_89, s6_91, s6_92, s6_95, s6_97, s6_98, s6_99, s6_101, s6_104, s6_107, s6_108, s6_110, s6_112, s6_115, s6_116, zl_n, zl_i, zl_r, zl_0, z10, z01, ez_bd_s, ez_bd_n, eq_self, true_or, or_true, if_true, if_false, zb_eq, zb_eq1, zb_em, zb_em2, ite_not, List.append_nil, List.cons_append, List.nil_append, reduceCtorEq, not_true_eq_false, not_false_eq_true, xo1, xa1, xf1_0, xv1_0, xp1_0, xf1_1, xv1_1, xf1_2, xv1_2, xp1_2, xf1_3, xv1_3, xf1_4, xv1_4, xf1_5, xv1_5, xp1_5, xf1_6, xv1_6, xp1_6, xf1_7, xv1_7, xf1_8, xv1_8, xf1_9, xv1_9, xf1_10, xv1_10, xf1_11, xv1_11, xf1_12, xv1_12, xf1_13, xv1_13, xf1_14, xv1_14, xp1_14, xo3, xa3, xf3_0, xv3_0, xp3_0, xf3_1, xv3_1, xf3_2, xv3_2, xp3_2, xo5, xa5, xf5_0, xv5_0, xp5_0, xf5_1, xv5_1, xp5_1, xf5_2, xv5_2, xp5_2, xf5_3, xv5_3, xp5_3, xf5_4, xv5_4, xp5_4, xf5_5, xv5_5, xp5_5, xf5_6, xv5_6, xp5_6, xf5_7, xv5_7, xp5_7, xf5_8, xv5_8, xp5_8, xf5_9, xv5_9, xp5_9, xf5_10, xv5_10, xp5_10, xf5_11, xv5_11, xp5_11, xf5_12, xv5_12, xp5_12, xo6, xa6, xf6_0, xv6_0, xp6_0, xf6_1, xv6_1, xp6_1, xf6_2, xv6_2, xp6_2, xo7, xa7, xf7_0, xv7_0, xp7_0, xf7_1, xv7_1, xp7_1, xf7_2, xv7_2, xp7_2, xf7_3, xv7_3, xp7_3, xf7_4, xv7_4, xf7_5, xv7_5, xo8, xa8, xf8_0, xv8_0, xp8_0, xf8_1, xv8_1, xo10, xa10, xf10_0, xv10_0, xp10_0, xf10_1, xv10_1, xp10_1, xf10_2, xv10_2, xp10_2, xf10_3, xv10_3, xf10_4, xv10_4, xo12, xa12, xf12_0, xv12_0, xf12_1, xv12_1, xp12_1, xf12_2, xv12_2, xp12_2, xf12_3, xv12_3, xp12_3, xf12_4, xv12_4, xo13, xa13, xf13_0, xv13_0, xf13_1, xv13_1, xp13_1, xo14, xa14, xf14_0, xv14_0, xf14_1, xv14_1, xp14_1, xf14_2, xv14_2, xp14_2, xf14_3, xv14_3, xp14_3, ya2_1, yw2_1, yv2_1, yp2_1, yn2_1, yl2_1, ya2_3, yw2_3, yv2_3, yp2_3, yn2_3, yl2_3, ya2_10, yw2_10, yv2_10, yp2_10, yn2_10, yl2_10, ya2_11, yw2_11, yv2_11, yp2_11, yn2_11, yl2_11, ya9, yw9, yv9, yp9, yn9, yl9, ya11, yw11, yv11, yp11, yn11, yl11, ya15, yw15, yv15, yp15, yn15, yl15, ya16, yw16, yv16, yp16, yn16, yl16, ok10, ok11, ok1i, xu_s, xu_n, ne_eq, Prod.mk.injEq, Nat.reduceEqDiff, false_and, and_false, not_false_eq_true, l10, q1]
    exact la1
  generalize hI (ez_nw h0 (.inl (0, 20, .inl fun _ => 0)) 20) h0.2.1 (wm c k n) = hA at *
  constructor
  · intro hle
    refine ⟨hA, ?_, wA, rfl, by omega, by omega, by omega, by omega, fun q hq h5 => ⟨h5, Ao q hq⟩⟩
    rw [start]
    simp only [s6_0, s6_1, s6_4, s6_5, s6_6, s6_7, s6_8, s6_10, s6_12, s6_14, s6_17, s6_18, s6_19, s6_21, s6_22, s6_23, s6_24, s6_25, s6_28, s6_31, s6_32, s6_33, s6_34, s6_37, s6_38, s6_39, s6_41, s6_43, s6_45, s6_46, s6_48, s6_49, s6_51, s6_53, s6_55, s6_58, s6_59, s6_60, s6_61, s6_63, s6_64, s6_65, s6_66, s6_68, s6_69, s6_72, s6_74, s6_76, s6_77, s6_78, s6_79, s6_80, s6_82, s6_84, s6_86, s6_87, s6_88, s6_89, s6_91, s6_92, s6_95, s6_97, s6_98, s6_99, s6_101, s6_104, s6_107, s6_108, s6_110, s6_112, s6_115, s6_116, zl_n, zl_i, zl_r, zl_0, z10, z01, ez_bd_s, ez_bd_n, eq_self, true_or, or_true, if_true, if_false, zb_eq, zb_eq1, zb_em, zb_em2, ite_not, List.append_nil, List.cons_append, List.nil_append, reduceCtorEq, not_true_eq_false, not_false_eq_true, show (0 < lg_cmp (la (wm c k n) 20) 0) = False from eq_false (Int32.not_lt.mpr hle)]
  · intro hgt hal hov hL
    have gt : (0 < lg_cmp (la (wm c k n) 20) 0) = True := eq_true (Int32.not_le.mp hgt)
    have hb' : (P.2.1 hA.2.1).1 = 0 := by rw [A21]; exact hb
    have e0 : hJ (ez_nw hA (.inl (3, 20, .inr (.inl fun _ => 0))) 20) hA.2.1 (fun _ => 0) = ez_nw hA (.inl (3, 20, .inr (.inl fun _ => 0))) 20 := hs_id (if_pos rfl)
    have sh := lc_shares (g := g) (h0 := ez_nw hA (.inl (3, 20, .inr (.inl fun _ => 0))) 20) (c := c) (C := C) (al := la (wm c k n) 20) (f := wm c k n) (a := h0.2.1) (b := hA.2.1) w.1 l10 l11 ha hb' (by omega) (by rw [nw_c, if_neg (by omega)]; exact Aa) hal 20 0 rfl none none
    rw [rs, ps, ov, nI_0, e0, hov] at sh
    have qh := c_handOut (g := g) (h0 := ez_nw hA (.inl (3, 20, .inr (.inl fun _ => 0))) 20) (c := ps c k C (wm c k n) (la (wm c k n) 20) 20) (r := rs C (wm c k n) (la (wm c k n) 20) 20) (a := hA.2.1) w.1 l10 l11 hb' hL
    refine ⟨hJ (ez_nw hA (.inl (3, 20, .inr (.inl fun _ => 0))) 20) hA.2.1 (ho (ps c k C (wm c k n) (la (wm c k n) 20) 20) k (rs C (wm c k n) (la (wm c k n) 20) 20) L).2, ?_, fun c' hc' => xw_hs (xw_nw ⟨wA.1, wA.2.1, hc', wA.2.2.2⟩) (by omega), rfl, ?_, ?_, ?_, ?_, fun q hq h5 => ⟨h5, ?_⟩⟩
    · rw [start]
      simp only [s6_0, s6_1, s6_4, s6_5, s6_6, s6_7, s6_8, s6_10, s6_12, s6_14, s6_17, s6_18, s6_19, s6_21, s6_22, s6_23, s6_24, s6_25, s6_28, s6_31, s6_32, s6_33, s6_34, s6_37, s6_38, s6_39, s6_41, s6_43, s6_45, s6_46, s6_48, s6_49, s6_53, s6_55, s6_58, s6_59, s6_60, s6_61, s6_63, s6_64, s6_65, s6_66, s6_68, s6_69, s6_72, s6_74, s6_76, s6_77, s6_78, s6_79, s6_80, s6_82, s6_84, s6_86, s6_87, s6_88, s6_89, s6_91, s6_92, s6_95, s6_97, s6_98, s6_99, s6_101, s6_104, s6_107, s6_108, s6_110, s6_112, s6_116, zl_n, zl_i, zl_r, zl_0, z10, z01, ez_bd_s, ez_bd_n, eq_self, true_or, or_true, if_true, if_false, zb_eq, zb_eq1, zb_em, zb_em2, ite_not, List.append_nil, List.cons_append, List.nil_append, reduceCtorEq, not_true_eq_false, not_false_eq_true, gt, xh_nw hb', xh_2]
      rw [sh, qh]
      simp only [s6_0, s6_1, s6_4, s6_5, s6_6, s6_7, s6_8, s6_10, s6_12, s6_14, s6_17, s6_18, s6_19, s6_21, s6_22, s6_23, s6_24, s6_25, s6_28, s6_31, s6_32, s6_33, s6_34, s6_37, s6_38, s6_39, s6_41, s6_43, s6_45, s6_46, s6_48, s6_49, s6_53, s6_55, s6_58, s6_59, s6_60, s6_61, s6_63, s6_64, s6_65, s6_66, s6_68, s6_69, s6_72, s6_74, s6_76, s6_77, s6_78, s6_79, s6_80, s6_82, s6_84, s6_86, s6_87, s6_88, s6_89, s6_91, s6_92, s6_95, s6_97, s6_98, s6_99, s6_101, s6_104, s6_107, s6_108, s6_110, s6_112, s6_115, s6_116, zl_n, zl_i, zl_r, zl_0, z10, z01, ez_bd_s, ez_bd_n, eq_self, true_or, or_true, if_true, if_false, zb_eq, zb_eq1, zb_em, zb_em2, ite_not, List.append_nil, List.cons_append, List.nil_append, reduceCtorEq, not_true_eq_false, not_false_eq_true]
    · show h0.2.1 ≤ hA.2.1 + 1
      omega
    · show hA.2.1 + 1 ≤ h0.2.1 + 2
      omega
    · show h0.2.2 ≤ hA.2.2 + 20
      omega
    · show hA.2.2 + 20 ≤ h0.2.2 + 40
      omega
    · show (if q = hA.2.1 then _ else (ez_nw hA _ 20).1 q) = _
      rw [if_neg (by omega), nw_c, if_neg (by omega)]
      exact Ao q hq
end OF
