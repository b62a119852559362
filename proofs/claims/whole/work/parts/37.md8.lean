section M8
variable {g : ez_G} {h0 : ez_H} {m : Nat} {z : md_S}
theorem md_sI2 {s : Nat} {a b : Int32} : md_sI (md_sI z s a) s b = md_sI z s b := by
  unfold md_sI
  dsimp only
  rw [bx_uu]
theorem md_sIs {s : Nat} {v : Int32} (h : z.1 s = v) : md_sI z s v = z := by
  subst h
  unfold md_sI
  refine Prod.ext ?_ rfl
  funext t
  show va_up z.1 s (z.1 s) t = z.1 t
  unfold va_up
  split
  · next e => rw [e]
  · rfl
theorem nI_sb {a b : Nat} : nI (a + b) - nI a = nI b := by
  rw [← nI_add, Int32.add_comm, Int32.add_sub_cancel]
/-- behind the blanks -/
def sk (f : Nat → Int32) : Nat → Nat → Nat
  | 0, i => i
  | d + 1, i => if f i = 32 then sk f d (i + 1) else if f i = 10 then sk f d (i + 1) else i
theorem sk_le {f : Nat → Int32} : ∀ d i, i ≤ sk f d i ∧ sk f d i ≤ i + d
  | 0, i => ⟨Nat.le_refl _, Nat.le_refl _⟩
  | d + 1, i => by
    have := sk_le (f := f) d (i + 1)
    rw [sk]
    repeat' split
    all_goals omega
def zs (z : md_S) : Nat := sk (z.2 35) ((z.1 37).toNatClampNeg - (z.1 38).toNatClampNeg) (z.1 38).toNatClampNeg
/-- a place in the text -/
def md_p (z : md_S) : Prop := md_in (z.1 37) 601 = true ∧ md_in (z.1 38) 601 = true ∧ (z.1 38).toNatClampNeg ≤ (z.1 37).toNatClampNeg
theorem zs_le (h : md_p z) : (z.1 38).toNatClampNeg ≤ zs z ∧ zs z ≤ (z.1 37).toNatClampNeg := by
  have := sk_le (f := z.2 35) ((z.1 37).toNatClampNeg - (z.1 38).toNatClampNeg) (z.1 38).toNatClampNeg
  have h3 := h.2.2
  unfold zs
  omega
theorem zs_600 (h : md_p z) : zs z ≤ 600 ∧ (z.1 37).toNatClampNeg ≤ 600 := by
  have := zs_le h
  have := (md_inE h.1).2
  omega
theorem lp_blanks {n : Nat} (hn : z.1 37 = nI n) (hn2 : n ≤ 600) : ∀ d i, i + d = n → ez_rn g 101 0 [some (.ref m)] [] (md_h h0 m (md_sI z 38 (nI i))) = some (none, md_h h0 m (md_sI z 38 (nI (sk (z.2 35) d i)))) := by
  intro d
  induction d with
  | zero =>
    intro i hi
    obtain rfl : i = n := by omega
    rw [s101_0]
    simp only [s101_1, s101_4, s101_5, s101_8, s101_11, s101_12, s101_15, s101_16, s101_19, s101_20, s101_22, s101_25, s101_26, s101_29, s101_30, s101_33, s101_34, s101_36, s101_39, s101_40, s101_41, s101_44, s101_45, s101_46, s101_49, s101_52, zl_n, zl_i, zl_r, zl_0, z10, z01, ez_bd_s, ez_bd_n, eq_self, true_or, or_true, if_true, if_false, zb_eq, zb_eq1, zb_em, zb_em2, ite_not, List.append_nil, List.cons_append, List.nil_append, reduceCtorEq, not_true_eq_false, not_false_eq_true, md_I1, Nat.reduceEqDiff, hn, nI_leT (Nat.le_refl i) (by omega), sk]
  | succ d ih =>
    intro i hi
    have c1 : (nI i).toNatClampNeg = i := nI_clamp (by omega)
    have c2 : md_in (nI i) 600 = true := md_inN (by omega) (by omega)
    have hx := ih (i + 1) (by omega)
    rw [s101_0]
    simp only [s101_1, s101_4, s101_5, s101_8, s101_11, s101_12, s101_15, s101_16, s101_19, s101_20, s101_22, s101_25, s101_26, s101_29, s101_30, s101_33, s101_34, s101_36, s101_39, s101_40, s101_41, s101_44, s101_45, s101_46, s101_49, s101_52, zl_n, zl_i, zl_r, zl_0, z10, z01, ez_bd_s, ez_bd_n, eq_self, true_or, or_true, if_true, if_false, zb_eq, zb_eq1, zb_em, zb_em2, ite_not, List.append_nil, List.cons_append, List.nil_append, reduceCtorEq, not_true_eq_false, not_false_eq_true, md_I1, md_I2, Nat.reduceEqDiff, hn, nI_nleI (show i < n by omega) (by omega), c1, c2, nI_1, md_sI2, sk]
    repeat' split
    all_goals first | exact hx | rfl
def pm_bl (z : md_S) : md_S := md_sI z 38 (nI (zs z))
theorem q_blanks (h : md_p z) : ez_ev g 101 [.ref m] (md_h h0 m z) = some (none, md_h h0 m (pm_bl z)) := by
  obtain ⟨e1, h1⟩ := md_inE h.1
  obtain ⟨e2, h2⟩ := md_inE h.2.1
  have h3 := h.2.2
  have := lp_blanks (g := g) (h0 := h0) (m := m) (z := z) e1 (by omega) ((z.1 37).toNatClampNeg - (z.1 38).toNatClampNeg) (z.1 38).toNatClampNeg (by omega)
  rw [← e2, md_sIs rfl] at this
  rw [e101]
  exact this
theorem md_p_sI {s : Nat} {v : Int32} (hs : s ≠ 37) (hs2 : s ≠ 38) (h : md_p z) : md_p (md_sI z s v) := by
  unfold md_p at *
  rw [md_AI1 (fun e => hs e.symm), md_AI1 (fun e => hs2 e.symm)]
  exact h
theorem md_p_at {i : Nat} (hi : i ≤ (z.1 37).toNatClampNeg) (h : md_p z) : md_p (md_sI z 38 (nI i)) := by
  have h1 := (md_inE h.1).2
  refine ⟨h.1, ?_, ?_⟩
  · show md_in (nI i) 601 = true
    exact md_inN (by omega) (by omega)
  · show (nI i).toNatClampNeg ≤ (z.1 37).toNatClampNeg
    rw [nI_clamp (by omega)]
    exact hi
theorem md_p_bl (h : md_p z) : md_p (pm_bl z) := md_p_at (zs_le h).2 h
/-- behind the letters -/
def lte (f : Nat → Int32) : Nat → Nat → Nat
  | 0, i => i
  | d + 1, i => if f i < 97 then i else if 122 < f i then i else lte f d (i + 1)
theorem lte_le {f : Nat → Int32} : ∀ d i, i ≤ lte f d i ∧ lte f d i ≤ i + d
  | 0, i => ⟨Nat.le_refl _, Nat.le_refl _⟩
  | d + 1, i => by
    have := lte_le (f := f) d (i + 1)
    rw [lte]
    repeat' split
    all_goals omega
/-- the letters as a number -/
def wv (f : Nat → Int32) (s : Nat) : Nat → Int64
  | 0 => 0
  | j + 1 => if 7 ≤ j then 0 else wv f s j <<< ((8 : Int32).toInt64 &&& 63) ||| (f (s + j)).toInt64
theorem nI_ge7 {j : Nat} (h : j < 2 ^ 31) : ((7 : Int32) ≤ nI j) = (7 ≤ j) := propext (nI_leI (a := 7) (by omega) h)
theorem nI_le7 {j : Nat} (h : j < 2 ^ 31) : (nI j ≤ (7 : Int32)) = (j ≤ 7) := propext (nI_leI (b := 7) h (by omega))
theorem nI_ge3 {j : Nat} (h : j < 2 ^ 31) : ((3 : Int32) ≤ nI j) = (3 ≤ j) := propext (nI_leI (a := 3) (by omega) h)
theorem nI_le3 {j : Nat} (h : j < 2 ^ 31) : (nI j ≤ (3 : Int32)) = (j ≤ 3) := propext (nI_leI (b := 3) h (by omega))
theorem lp_word {n s : Nat} (hn : z.1 37 = nI n) (hs : z.1 38 = nI s) (hn2 : n ≤ 600) : ∀ d j, s + j + d = n → ez_rn g 102 14 [some (.ref m), some (.long (wv (z.2 35) s j)), none] [] (md_h h0 m (md_sI z 49 (nI (s + j)))) = ez_rn g 102 100 [some (.ref m), some (.long (wv (z.2 35) s (lte (z.2 35) d (s + j) - s))), none] [] (md_h h0 m (md_sI z 49 (nI (lte (z.2 35) d (s + j))))) := by
  intro d
  induction d with
  | zero =>
    intro j hj
    rw [s102_14]
    simp only [s102_0, s102_1, s102_4, s102_5, s102_6, s102_9, s102_12, s102_13, s102_15, s102_18, s102_19, s102_22, s102_25, s102_26, s102_29, s102_30, s102_33, s102_34, s102_36, s102_39, s102_40, s102_43, s102_44, s102_47, s102_48, s102_50, s102_53, s102_54, s102_57, s102_58, s102_61, s102_62, s102_64, s102_67, s102_68, s102_70, s102_71, s102_72, s102_75, s102_76, s102_79, s102_80, s102_81, s102_82, s102_85, s102_86, s102_87, s102_88, s102_89, s102_92, s102_93, s102_94, s102_97, s102_101, s102_104, s102_105, s102_108, s102_109, s102_111, s102_114, s102_115, s102_118, s102_119, zl_n, zl_i, zl_r, zl_0, z10, z01, ez_bd_s, ez_bd_n, eq_self, true_or, or_true, if_true, if_false, zb_eq, zb_eq1, zb_em, zb_em2, ite_not, List.append_nil, List.cons_append, List.nil_append, reduceCtorEq, not_true_eq_false, not_false_eq_true, md_I1, Nat.reduceEqDiff, hn, nI_leT (show n ≤ s + j by omega) (show s + j < 2 ^ 31 by omega), lte, Nat.add_sub_cancel_left]
  | succ d ih =>
    intro j hj
    have c1 : (nI (s + j)).toNatClampNeg = s + j := nI_clamp (by omega)
    have c2 : md_in (nI (s + j)) 600 = true := md_inN (by omega) (by omega)
    have hx := ih (j + 1) (by omega)
    rw [wv, ← Nat.add_assoc] at hx
    rw [s102_14]
    simp only [s102_0, s102_1, s102_4, s102_5, s102_6, s102_9, s102_12, s102_13, s102_15, s102_18, s102_19, s102_22, s102_25, s102_26, s102_29, s102_30, s102_33, s102_34, s102_36, s102_39, s102_40, s102_43, s102_44, s102_47, s102_48, s102_50, s102_53, s102_54, s102_57, s102_58, s102_61, s102_62, s102_64, s102_67, s102_68, s102_70, s102_71, s102_72, s102_75, s102_76, s102_79, s102_80, s102_81, s102_82, s102_85, s102_86, s102_87, s102_88, s102_89, s102_92, s102_93, s102_94, s102_97, s102_101, s102_104, s102_105, s102_108, s102_109, s102_111, s102_114, s102_115, s102_118, s102_119, zl_n, zl_i, zl_r, zl_0, z10, z01, ez_bd_s, ez_bd_n, eq_self, true_or, or_true, if_true, if_false, zb_eq, zb_eq1, zb_em, zb_em2, ite_not, List.append_nil, List.cons_append, List.nil_append, reduceCtorEq, not_true_eq_false, not_false_eq_true, md_I1, md_I2, Nat.reduceEqDiff, hn, hs, nI_nleI (show s + j < n by omega) (by omega), c1, c2, nI_1, md_sI2, lte, nI_sb, nI_ge7 (show j < 2 ^ 31 by omega)]
    by_cases e1 : z.2 35 (s + j) < 97
    · simp only [if_pos e1, Nat.add_sub_cancel_left]
    · by_cases e2 : 122 < z.2 35 (s + j)
      · simp only [if_neg e1, if_pos e2, Nat.add_sub_cancel_left]
      · simp only [if_neg e1, if_neg e2]
        revert hx
        repeat' split
        all_goals exact id
def ze (z : md_S) : Nat := lte (z.2 35) ((z.1 37).toNatClampNeg - zs z) (zs z)
theorem ze_le (h : md_p z) : zs z ≤ ze z ∧ ze z ≤ (z.1 37).toNatClampNeg := by
  have := lte_le (f := z.2 35) ((z.1 37).toNatClampNeg - zs z) (zs z)
  have h3 := zs_le h
  unfold ze
  omega
def pm_wd (z : md_S) : md_S := md_sI (pm_bl z) 49 (nI (ze z))
def pm_wv (z : md_S) : Int64 := if ze z - zs z ≤ 7 then wv (z.2 35) (zs z) (ze z - zs z) else 0
theorem q_word (h : md_p z) : ez_ev g 102 [.ref m] (md_h h0 m z) = some (some (.long (pm_wv z)), md_h h0 m (pm_wd z)) := by
  obtain ⟨e1, h1⟩ := md_inE h.1
  have h3 := zs_le h
  have h4 := ze_le h
  have lp := lp_word (g := g) (h0 := h0) (m := m) (z := pm_bl z) e1 rfl (by omega) ((z.1 37).toNatClampNeg - zs z) 0 (by omega)
  rw [Nat.add_zero] at lp
  have c1 : nI (ze z) - nI (zs z) = nI (ze z - zs z) := by
    have : ze z = zs z + (ze z - zs z) := by omega
    rw [this, nI_sb, Nat.add_sub_cancel_left]
  rw [e102]
  simp only [s102_0, s102_1, s102_4, s102_5, s102_6, s102_9, s102_12, s102_13, s102_15, s102_18, s102_19, s102_22, s102_25, s102_26, s102_29, s102_30, s102_33, s102_34, s102_36, s102_39, s102_40, s102_43, s102_44, s102_47, s102_48, s102_50, s102_53, s102_54, s102_57, s102_58, s102_61, s102_62, s102_64, s102_67, s102_68, s102_70, s102_71, s102_72, s102_75, s102_76, s102_79, s102_80, s102_81, s102_82, s102_85, s102_86, s102_87, s102_88, s102_89, s102_92, s102_93, s102_94, s102_97, s102_100, s102_101, s102_104, s102_105, s102_108, s102_109, s102_111, s102_114, s102_115, s102_118, s102_119, zl_n, zl_i, zl_r, zl_0, z10, z01, ez_bd_s, ez_bd_n, eq_self, true_or, or_true, if_true, if_false, zb_eq, zb_eq1, zb_em, zb_em2, ite_not, List.append_nil, List.cons_append, List.nil_append, reduceCtorEq, not_true_eq_false, not_false_eq_true, q_blanks h, show ∀ y : md_S, (pm_bl y).1 38 = nI (zs y) from fun _ => rfl]
  rw [wv] at lp
  rw [lp, show (pm_bl z).2 = z.2 from rfl]
  show ez_rn g 102 100 [some (.ref m), some (.long (wv (z.2 35) (zs z) (ze z - zs z))), none] [] (md_h h0 m (pm_wd z)) = _
  simp only [s102_0, s102_1, s102_4, s102_5, s102_6, s102_9, s102_12, s102_13, s102_15, s102_18, s102_19, s102_22, s102_25, s102_26, s102_29, s102_30, s102_33, s102_34, s102_36, s102_39, s102_40, s102_43, s102_44, s102_47, s102_48, s102_50, s102_53, s102_54, s102_57, s102_58, s102_61, s102_62, s102_64, s102_67, s102_68, s102_70, s102_71, s102_72, s102_75, s102_76, s102_79, s102_80, s102_81, s102_82, s102_85, s102_86, s102_87, s102_88, s102_89, s102_92, s102_93, s102_94, s102_97, s102_100, s102_101, s102_104, s102_105, s102_108, s102_109, s102_111, s102_114, s102_115, s102_118, s102_119, zl_n, zl_i, zl_r, zl_0, z10, z01, ez_bd_s, ez_bd_n, eq_self, true_or, or_true, if_true, if_false, zb_eq, zb_eq1, zb_em, zb_em2, ite_not, List.append_nil, List.cons_append, List.nil_append, reduceCtorEq, not_true_eq_false, not_false_eq_true, show (pm_wd z).1 49 = nI (ze z) from rfl, show (pm_wd z).1 38 = nI (zs z) from rfl, c1, nI_le7 (show ze z - zs z < 2 ^ 31 by omega)]
  unfold pm_wv
  split <;> rfl
theorem md_p_wd (h : md_p z) : md_p (pm_wd z) := md_p_sI (by omega) (by omega) (md_p_bl h)
theorem lg0 {a b : Int64} : (lg_cmp a b = 0) = (a = b) := by
  unfold lg_cmp
  by_cases h : a = b
  · subst h
    simp [Int64.lt_irrefl]
  · simp only [h, if_false, eq_iff_iff, iff_false]
    split <;> decide
def pm_tk (z : md_S) (w : Int64) : md_S × Int32 := if pm_wv z = w then (md_sI (pm_wd z) 38 (nI (ze z)), 1) else (pm_wd z, 0)
theorem q_takes {w : Int64} (h : md_p z) : ez_ev g 103 [.ref m, .long w] (md_h h0 m z) = some (some (.int (pm_tk z w).2), md_h h0 m (pm_tk z w).1) := by
  rw [e103]
  unfold pm_tk
  simp only [s103_0, s103_1, s103_4, s103_5, s103_6, s103_9, s103_10, s103_11, s103_12, s103_13, s103_16, s103_19, s103_20, zl_n, zl_i, zl_r, zl_0, z10, z01, ez_bd_s, ez_bd_n, eq_self, true_or, or_true, if_true, if_false, zb_eq, zb_eq1, zb_em, zb_em2, ite_not, List.append_nil, List.cons_append, List.nil_append, reduceCtorEq, not_true_eq_false, not_false_eq_true, q_word h, lg0]
  split <;> rfl
theorem md_p_tk {w : Int64} (h : md_p z) : md_p (pm_tk z w).1 := by
  unfold pm_tk
  split
  · exact md_p_at (ze_le h).2 (md_p_wd h)
  · exact md_p_wd h
/-- behind the digits -/
def dte (f : Nat → Int32) : Nat → Nat → Nat
  | 0, i => i
  | d + 1, i => if f i < 48 then i else if 57 < f i then i else dte f d (i + 1)
theorem dte_le {f : Nat → Int32} : ∀ d i, i ≤ dte f d i ∧ dte f d i ≤ i + d
  | 0, i => ⟨Nat.le_refl _, Nat.le_refl _⟩
  | d + 1, i => by
    have := dte_le (f := f) d (i + 1)
    rw [dte]
    repeat' split
    all_goals omega
def nv (f : Nat → Int32) (s : Nat) : Nat → Int32
  | 0 => 0
  | j + 1 => if 3 ≤ j then nv f s j else 10 * nv f s j + f (s + j) - 48
theorem lp_number {n s : Nat} (hn : z.1 37 = nI n) (hs : z.1 38 = nI s) (hn2 : n ≤ 600) : ∀ d j, s + j + d = n → ez_rn g 104 14 [some (.ref m), some (.int (nI (s + j)))] [] (md_h h0 m (md_sI z 50 (nv (z.2 35) s j))) = ez_rn g 104 81 [some (.ref m), some (.int (nI (dte (z.2 35) d (s + j))))] [] (md_h h0 m (md_sI z 50 (nv (z.2 35) s (dte (z.2 35) d (s + j) - s)))) := by
  intro d
  induction d with
  | zero =>
    intro j hj
    rw [s104_14]
    simp only [s104_0, s104_1, s104_4, s104_5, s104_8, s104_9, s104_10, s104_11, s104_15, s104_16, s104_19, s104_22, s104_23, s104_26, s104_27, s104_28, s104_30, s104_33, s104_34, s104_37, s104_38, s104_39, s104_41, s104_44, s104_45, s104_46, s104_49, s104_50, s104_51, s104_54, s104_55, s104_57, s104_58, s104_61, s104_62, s104_63, s104_66, s104_67, s104_68, s104_69, s104_71, s104_72, s104_75, s104_78, s104_82, s104_83, s104_86, s104_89, s104_90, s104_91, s104_94, s104_95, s104_96, s104_99, s104_100, s104_101, s104_102, s104_103, s104_106, s104_107, zl_n, zl_i, zl_r, zl_0, z10, z01, ez_bd_s, ez_bd_n, eq_self, true_or, or_true, if_true, if_false, zb_eq, zb_eq1, zb_em, zb_em2, ite_not, List.append_nil, List.cons_append, List.nil_append, reduceCtorEq, not_true_eq_false, not_false_eq_true, md_I1, Nat.reduceEqDiff, hn, nI_leT (show n ≤ s + j by omega) (show s + j < 2 ^ 31 by omega), dte, Nat.add_sub_cancel_left]
  | succ d ih =>
    intro j hj
    have c1 : (nI (s + j)).toNatClampNeg = s + j := nI_clamp (by omega)
    have c2 : md_in (nI (s + j)) 600 = true := md_inN (by omega) (by omega)
    have hx := ih (j + 1) (by omega)
    rw [nv, ← Nat.add_assoc] at hx
    rw [s104_14]
    simp only [s104_0, s104_1, s104_4, s104_5, s104_8, s104_9, s104_10, s104_11, s104_15, s104_16, s104_19, s104_22, s104_23, s104_26, s104_27, s104_28, s104_30, s104_33, s104_34, s104_37, s104_38, s104_39, s104_41, s104_44, s104_45, s104_46, s104_49, s104_50, s104_51, s104_54, s104_55, s104_57, s104_58, s104_61, s104_62, s104_63, s104_66, s104_67, s104_68, s104_69, s104_71, s104_72, s104_75, s104_78, s104_82, s104_83, s104_86, s104_89, s104_90, s104_91, s104_94, s104_95, s104_96, s104_99, s104_100, s104_101, s104_102, s104_103, s104_106, s104_107, zl_n, zl_i, zl_r, zl_0, z10, z01, ez_bd_s, ez_bd_n, eq_self, true_or, or_true, if_true, if_false, zb_eq, zb_eq1, zb_em, zb_em2, ite_not, List.append_nil, List.cons_append, List.nil_append, reduceCtorEq, not_true_eq_false, not_false_eq_true, md_I1, md_I2, Nat.reduceEqDiff, hn, hs, nI_nleI (show s + j < n by omega) (by omega), c1, c2, nI_1, md_sI2, dte, nI_sb, nI_ge3 (show j < 2 ^ 31 by omega)]
    by_cases e1 : z.2 35 (s + j) < 48
    · simp only [if_pos e1, Nat.add_sub_cancel_left]
    · by_cases e2 : 57 < z.2 35 (s + j)
      · simp only [if_neg e1, if_pos e2, Nat.add_sub_cancel_left]
      · simp only [if_neg e1, if_neg e2]
        revert hx
        repeat' split
        all_goals exact id
def zd (z : md_S) : Nat := dte (z.2 35) ((z.1 37).toNatClampNeg - zs z) (zs z)
theorem zd_le (h : md_p z) : zs z ≤ zd z ∧ zd z ≤ (z.1 37).toNatClampNeg := by
  have := dte_le (f := z.2 35) ((z.1 37).toNatClampNeg - zs z) (zs z)
  have h3 := zs_le h
  unfold zd
  omega
def pm_nn (z : md_S) : md_S := md_sI (pm_bl z) 50 (nv (z.2 35) (zs z) (zd z - zs z))
def pm_tn (z : md_S) : md_S × Int32 := if zd z = zs z then (pm_nn z, 0) else if zd z - zs z ≤ 3 then (md_sI (pm_nn z) 38 (nI (zd z)), 1) else (pm_nn z, 0)
theorem q_takesNumber (h : md_p z) : ez_ev g 104 [.ref m] (md_h h0 m z) = some (some (.int (pm_tn z).2), md_h h0 m (pm_tn z).1) := by
  obtain ⟨e1, h1⟩ := md_inE h.1
  have h3 := zs_le h
  have h4 := zd_le h
  have lp := lp_number (g := g) (h0 := h0) (m := m) (z := pm_bl z) e1 rfl (by omega) ((z.1 37).toNatClampNeg - zs z) 0 (by omega)
  rw [Nat.add_zero] at lp
  have c1 : nI (zd z) - nI (zs z) = nI (zd z - zs z) := by
    have : zd z = zs z + (zd z - zs z) := by omega
    rw [this, nI_sb, Nat.add_sub_cancel_left]
  have c2 : (nI (zd z) = nI (zs z)) = (zd z = zs z) := propext (nI_eq (by omega) (by omega))
  rw [e104]
  simp only [s104_0, s104_1, s104_4, s104_5, s104_8, s104_9, s104_10, s104_11, s104_15, s104_16, s104_19, s104_22, s104_23, s104_26, s104_27, s104_28, s104_30, s104_33, s104_34, s104_37, s104_38, s104_39, s104_41, s104_44, s104_45, s104_46, s104_49, s104_50, s104_51, s104_54, s104_55, s104_57, s104_58, s104_61, s104_62, s104_63, s104_66, s104_67, s104_68, s104_69, s104_71, s104_72, s104_75, s104_78, s104_81, s104_82, s104_83, s104_86, s104_89, s104_90, s104_91, s104_94, s104_95, s104_96, s104_99, s104_100, s104_101, s104_102, s104_103, s104_106, s104_107, zl_n, zl_i, zl_r, zl_0, z10, z01, ez_bd_s, ez_bd_n, eq_self, true_or, or_true, if_true, if_false, zb_eq, zb_eq1, zb_em, zb_em2, ite_not, List.append_nil, List.cons_append, List.nil_append, reduceCtorEq, not_true_eq_false, not_false_eq_true, q_blanks h, show ∀ y : md_S, (pm_bl y).1 38 = nI (zs y) from fun _ => rfl]
  rw [nv] at lp
  rw [lp, show (pm_bl z).2 = z.2 from rfl]
  show ez_rn g 104 81 [some (.ref m), some (.int (nI (zd z)))] [] (md_h h0 m (pm_nn z)) = _
  simp only [s104_0, s104_1, s104_4, s104_5, s104_8, s104_9, s104_10, s104_11, s104_15, s104_16, s104_19, s104_22, s104_23, s104_26, s104_27, s104_28, s104_30, s104_33, s104_34, s104_37, s104_38, s104_39, s104_41, s104_44, s104_45, s104_46, s104_49, s104_50, s104_51, s104_54, s104_55, s104_57, s104_58, s104_61, s104_62, s104_63, s104_66, s104_67, s104_68, s104_69, s104_71, s104_72, s104_75, s104_78, s104_81, s104_82, s104_83, s104_86, s104_89, s104_90, s104_91, s104_94, s104_95, s104_96, s104_99, s104_100, s104_101, s104_102, s104_103, s104_106, s104_107, zl_n, zl_i, zl_r, zl_0, z10, z01, ez_bd_s, ez_bd_n, eq_self, true_or, or_true, if_true, if_false, zb_eq, zb_eq1, zb_em, zb_em2, ite_not, List.append_nil, List.cons_append, List.nil_append, reduceCtorEq, not_true_eq_false, not_false_eq_true, show (pm_nn z).1 38 = nI (zs z) from rfl, c1, c2, nI_le3 (show zd z - zs z < 2 ^ 31 by omega)]
  unfold pm_tn
  repeat' split
  all_goals rfl
theorem md_p_nn (h : md_p z) : md_p (pm_nn z) := md_p_sI (by omega) (by omega) (md_p_bl h)
theorem md_p_tn (h : md_p z) : md_p (pm_tn z).1 := by
  unfold pm_tn
  repeat' split
  · exact md_p_nn h
  · exact md_p_at (zd_le h).2 (md_p_nn h)
  · exact md_p_nn h
def pm_cv (z : md_S) : Int32 := if pm_wv z = 1936683636 then 0 else if pm_wv z = 7168366 then 1 else if pm_wv z = 495672980069 then 2 else -1
theorem q_cond (h : md_p z) : ez_ev g 105 [.ref m] (md_h h0 m z) = some (some (.int (pm_cv z)), md_h h0 m (pm_wd z)) := by
  rw [e105]
  simp only [s105_0, s105_1, s105_4, s105_5, s105_6, s105_9, s105_10, s105_13, s105_14, s105_17, s105_18, s105_21, s105_22, s105_25, s105_26, s105_29, s105_30, s105_33, s105_34, s105_37, s105_38, s105_41, s105_42, zl_n, zl_i, zl_r, zl_0, z10, z01, ez_bd_s, ez_bd_n, eq_self, true_or, or_true, if_true, if_false, zb_eq, zb_eq1, zb_em, zb_em2, ite_not, List.append_nil, List.cons_append, List.nil_append, reduceCtorEq, not_true_eq_false, not_false_eq_true, q_word h, lg0]
  unfold pm_cv
  repeat' split
  all_goals rfl
end M8
