theorem nI_mul (a b : Nat) : nI a * nI b = nI (a * b) := by
  unfold nI
  exact (Int32.ofNat_mul a b).symm
theorem nI_m3 (a : Nat) : (3 : Int32) * nI a = nI (3 * a) := nI_mul 3 a
theorem nI_m4 (a : Nat) : (4 : Int32) * nI a = nI (4 * a) := nI_mul 4 a
theorem nI_m16 (a : Nat) : (16 : Int32) * nI a = nI (16 * a) := nI_mul 16 a
theorem nI_m20 (a : Nat) : (20 : Int32) * nI a = nI (20 * a) := nI_mul 20 a
theorem md_inE {v : Int32} {n : Nat} (h : md_in v n = true) : v = nI v.toNatClampNeg ∧ v.toNatClampNeg < n := by
  unfold md_in at h
  rw [Bool.and_eq_true, decide_eq_true_eq, decide_eq_true_eq] at h
  obtain ⟨j, hj, e⟩ := nI_of h.1
  refine ⟨?_, h.2⟩
  rw [e, nI_clamp hj]
theorem md_inX {v : Int32} {n : Nat} (hn : n ≤ 2 ^ 31) (h : md_in v n = true) : ∃ j, j < n ∧ v = nI j ∧ v.toNatClampNeg = j := by
  obtain ⟨h1, h2⟩ := md_inE h
  exact ⟨_, h2, h1, rfl⟩
section M3
variable {g : ez_G} {h0 : ez_H} {m : Nat} {z : md_S}
/-- does a statement's CONDS hold -/
def phv (z : md_S) (a sh so : Int32) (k : Nat) : Int32 := if z.2 47 k = 0 then so else if z.2 47 k = 1 then z.2 7 a.toNatClampNeg else sh
def ph (z : md_S) (a sh so : Int32) (s : Nat) : Nat → Int32
  | 0 => 1
  | j + 1 => if ph z a sh so s j = 0 then 0 else if phv z a sh so (3 * s + j) = z.2 48 (3 * s + j) then 1 else 0
theorem ph01 {a sh so : Int32} {s : Nat} : ∀ j, ph z a sh so s j = 0 ∨ ph z a sh so s j = 1
  | 0 => Or.inr rfl
  | j + 1 => by
    rw [ph]
    repeat' split
    all_goals first | exact Or.inl rfl | exact Or.inr rfl
def phold (z : md_S) (s : Nat) (a sh so : Int32) : Int32 := ph z a sh so s (z.2 46 s).toNatClampNeg
theorem lp_holds {s n : Nat} {a sh so : Int32} (hs : s < 336) (hn : z.2 46 s = nI n) (hn2 : n ≤ 3) (ha : md_in a 20 = true) : ∀ d j, j + d = n → ∀ x7, ez_rn g 112 8 [some (.ref m), some (.int (nI s)), some (.int a), some (.int sh), some (.int so), some (.int (ph z a sh so s j)), some (.int (nI (3 * s + j))), x7] [] (md_h h0 m z) = some (some (.int (ph z a sh so s n)), md_h h0 m z) := by
  have c0 : (nI s).toNatClampNeg = s := nI_clamp (by omega)
  have c9 : md_in (nI s) 336 = true := md_inN hs (by omega)
  intro d
  induction d with
  | zero =>
    intro j hj x7
    obtain rfl : j = n := by omega
    have h01 := ph01 (z := z) (a := a) (sh := sh) (so := so) (s := s) j
    rw [s112_8]
    simp only [s112_0, s112_1, s112_3, s112_4, s112_5, s112_6, s112_10, s112_11, s112_12, s112_13, s112_14, s112_17, s112_18, s112_19, s112_20, s112_23, s112_24, s112_27, s112_29, s112_30, s112_33, s112_35, s112_38, s112_39, s112_42, s112_44, s112_45, s112_46, s112_49, s112_50, s112_53, s112_54, s112_55, s112_58, s112_59, s112_61, s112_63, s112_66, s112_68, s112_69, s112_72, s112_74, s112_75, s112_78, s112_79, s112_82, s112_83, s112_85, s112_88, s112_91, s112_93, zl_n, zl_i, zl_r, zl_0, z10, z01, ez_bd_s, ez_bd_n, eq_self, true_or, or_true, if_true, if_false, zb_eq, zb_eq1, zb_em, zb_em2, ite_not, List.append_nil, List.cons_append, List.nil_append, reduceCtorEq, not_true_eq_false, not_false_eq_true, nI_m3, c0, c9, hn, nI_add, nI_leT (Nat.le_refl (3 * s + j)) (by omega), h01]
  | succ d ih =>
    intro j hj x7
    have c1 : (nI (3 * s + j)).toNatClampNeg = 3 * s + j := nI_clamp (by omega)
    have c2 : md_in (nI (3 * s + j)) 1008 = true := md_inN (by omega) (by omega)
    have hx := ih (j + 1) (by omega)
    rw [ph, phv] at hx
    rw [s112_8]
    simp only [s112_0, s112_1, s112_3, s112_4, s112_5, s112_6, s112_10, s112_11, s112_12, s112_13, s112_14, s112_17, s112_18, s112_19, s112_20, s112_23, s112_24, s112_27, s112_29, s112_30, s112_33, s112_35, s112_38, s112_39, s112_42, s112_44, s112_45, s112_46, s112_49, s112_50, s112_53, s112_54, s112_55, s112_58, s112_59, s112_61, s112_63, s112_66, s112_68, s112_69, s112_72, s112_74, s112_75, s112_78, s112_79, s112_82, s112_83, s112_85, s112_88, s112_91, s112_93, zl_n, zl_i, zl_r, zl_0, z10, z01, ez_bd_s, ez_bd_n, eq_self, true_or, or_true, if_true, if_false, zb_eq, zb_eq1, zb_em, zb_em2, ite_not, List.append_nil, List.cons_append, List.nil_append, reduceCtorEq, not_true_eq_false, not_false_eq_true, nI_m3, c0, c9, hn, nI_add, nI_nleI (show 3 * s + j < 3 * s + n by omega) (by omega), c1, c2, ha, nI_1]
    by_cases e0 : z.2 47 (3 * s + j) = 0
    · simp only [if_pos e0] at hx ⊢
      revert hx
      repeat' split
      all_goals (intro hx; exact hx _)
    · simp only [if_neg e0] at hx ⊢
      by_cases e1 : z.2 47 (3 * s + j) = 1
      · simp only [if_pos e1] at hx ⊢
        revert hx
        repeat' split
        all_goals (intro hx; exact hx _)
      · simp only [if_neg e1] at hx ⊢
        revert hx
        repeat' split
        all_goals (intro hx; exact hx _)
theorem q_holds {s : Nat} {a sh so : Int32} (hs : s < 336) (hn : md_in (z.2 46 s) 4 = true) (ha : md_in a 20 = true) : ez_ev g 112 [.ref m, .int (nI s), .int a, .int sh, .int so] (md_h h0 m z) = some (some (.int (phold z s a sh so)), md_h h0 m z) := by
  obtain ⟨e, h4⟩ := md_inE hn
  unfold phold
  rw [e112, ← lp_holds (g := g) (h0 := h0) (m := m) hs e (by omega) ha _ 0 (Nat.zero_add _) none]
  simp only [s112_0, s112_1, s112_3, s112_4, s112_5, s112_6, s112_10, s112_11, s112_12, s112_13, s112_14, s112_17, s112_18, s112_19, s112_20, s112_23, s112_24, s112_27, s112_29, s112_30, s112_33, s112_35, s112_38, s112_39, s112_42, s112_44, s112_45, s112_46, s112_49, s112_50, s112_53, s112_54, s112_55, s112_58, s112_59, s112_61, s112_63, s112_66, s112_68, s112_69, s112_72, s112_74, s112_75, s112_78, s112_79, s112_82, s112_83, s112_85, s112_88, s112_91, s112_93, zl_n, zl_i, zl_r, zl_0, z10, z01, ez_bd_s, ez_bd_n, eq_self, true_or, or_true, if_true, if_false, zb_eq, zb_eq1, zb_em, zb_em2, ite_not, List.append_nil, List.cons_append, List.nil_append, reduceCtorEq, not_true_eq_false, not_false_eq_true, ph, nI_m3, Nat.add_zero]
theorem phold01 {s : Nat} {a sh so : Int32} : phold z s a sh so = 0 ∨ phold z s a sh so = 1 := ph01 _
/-- the DUTY of a lot by a statute -/
def pdf (z : md_S) (l t : Nat) : Nat → Nat → Int32
  | 0, _ => 0
  | d + 1, j => if z.2 44 (16 * t + j) = 0 then (if phold z (16 * t + j) (z.2 12 l) (z.2 13 l) (z.2 14 l) = 0 then pdf z l t d (j + 1) else z.2 15 l * z.2 45 (16 * t + j)) else pdf z l t d (j + 1)
theorem lp_dutyBy {t n l : Nat} (ht : t < 21) (hl : l < 150) (hn : z.2 41 t = nI n) (hn2 : n ≤ 16) (ha : md_in (z.2 12 l) 20 = true) (hc : ∀ s, s < n → md_in (z.2 46 (16 * t + s)) 4 = true) : ∀ d j, j + d = n → ez_rn g 113 12 [some (.ref m), some (.int (nI t)), some (.int (nI l)), some (.int (nI (16 * t + j)))] [] (md_h h0 m z) = some (some (.int (pdf z l t d j)), md_h h0 m z) := by
  have c0 : (nI t).toNatClampNeg = t := nI_clamp (by omega)
  have c9 : md_in (nI t) 21 = true := md_inN (by omega) (by omega)
  have c3 : (nI l).toNatClampNeg = l := nI_clamp (by omega)
  have c4 : md_in (nI l) 150 = true := md_inN (by omega) (by omega)
  intro d
  induction d with
  | zero =>
    intro j hj
    obtain rfl : j = n := by omega
    rw [s113_12]
    simp only [s113_0, s113_1, s113_2, s113_5, s113_6, s113_7, s113_9, s113_10, s113_11, s113_13, s113_15, s113_16, s113_17, s113_18, s113_21, s113_22, s113_23, s113_24, s113_27, s113_28, s113_31, s113_32, s113_33, s113_36, s113_37, s113_38, s113_39, s113_42, s113_43, s113_44, s113_45, s113_48, s113_49, s113_50, s113_51, s113_54, s113_55, s113_56, s113_59, s113_62, s113_63, s113_66, s113_67, s113_68, s113_69, s113_72, s113_73, s113_74, s113_75, s113_76, s113_79, s113_82, s113_83, zl_n, zl_i, zl_r, zl_0, z10, z01, ez_bd_s, ez_bd_n, eq_self, true_or, or_true, if_true, if_false, zb_eq, zb_eq1, zb_em, zb_em2, ite_not, List.append_nil, List.cons_append, List.nil_append, reduceCtorEq, not_true_eq_false, not_false_eq_true, nI_m16, c0, c9, hn, nI_add, nI_leT (Nat.le_refl (16 * t + j)) (by omega), pdf]
  | succ d ih =>
    intro j hj
    have c1 : (nI (16 * t + j)).toNatClampNeg = 16 * t + j := nI_clamp (by omega)
    have c2 : md_in (nI (16 * t + j)) 336 = true := md_inN (by omega) (by omega)
    have hx := ih (j + 1) (by omega)
    have hq := q_holds (g := g) (h0 := h0) (m := m) (z := z) (s := 16 * t + j) (a := z.2 12 l) (sh := z.2 13 l) (so := z.2 14 l) (by omega) (hc j (by omega)) ha
    rw [s113_12]
    simp only [s113_0, s113_1, s113_2, s113_5, s113_6, s113_7, s113_9, s113_10, s113_11, s113_13, s113_15, s113_16, s113_17, s113_18, s113_21, s113_22, s113_23, s113_24, s113_27, s113_28, s113_31, s113_32, s113_33, s113_36, s113_37, s113_38, s113_39, s113_42, s113_43, s113_44, s113_45, s113_48, s113_49, s113_50, s113_51, s113_54, s113_55, s113_56, s113_59, s113_62, s113_63, s113_66, s113_67, s113_68, s113_69, s113_72, s113_73, s113_74, s113_75, s113_76, s113_79, s113_82, s113_83, zl_n, zl_i, zl_r, zl_0, z10, z01, ez_bd_s, ez_bd_n, eq_self, true_or, or_true, if_true, if_false, zb_eq, zb_eq1, zb_em, zb_em2, ite_not, List.append_nil, List.cons_append, List.nil_append, reduceCtorEq, not_true_eq_false, not_false_eq_true, nI_m16, c0, c9, c3, c4, hn, nI_add, nI_nleI (show 16 * t + j < 16 * t + n by omega) (by omega), c1, c2, hq, nI_1, pdf]
    repeat' split
    all_goals first | exact hx | rfl
def pduty (z : md_S) (st : Int32) (l : Nat) : Int32 := if st = -1 then 0 else pdf z l st.toNatClampNeg (z.2 41 st.toNatClampNeg).toNatClampNeg 0
/-- statements and their CONDS are few -/
def md_st (z : md_S) (t : Nat) : Prop := md_in (z.2 41 t) 17 = true ∧ ∀ s, s < (z.2 41 t).toNatClampNeg → md_in (z.2 46 (16 * t + s)) 4 = true
theorem nI_nm1 {t : Nat} (h : t < 2 ^ 31) : (nI t = -1) = False := eq_false (fun e => absurd (nI_pos h) (by rw [e]; decide))
theorem q_dutyBy {st : Int32} {l : Nat} (hl : l < 150) (hs : st = -1 ∨ ∃ t, t < 21 ∧ st = nI t ∧ md_st z t) (ha : md_in (z.2 12 l) 20 = true) : ez_ev g 113 [.ref m, .int st, .int (nI l)] (md_h h0 m z) = some (some (.int (pduty z st l)), md_h h0 m z) := by
  rw [e113]
  rcases hs with rfl | ⟨t, ht, rfl, h1, h2⟩
  · simp only [s113_0, s113_1, s113_2, s113_5, s113_6, s113_7, s113_9, s113_10, s113_11, s113_13, s113_15, s113_16, s113_17, s113_18, s113_21, s113_22, s113_23, s113_24, s113_27, s113_28, s113_31, s113_32, s113_33, s113_36, s113_37, s113_38, s113_39, s113_42, s113_43, s113_44, s113_45, s113_48, s113_49, s113_50, s113_51, s113_54, s113_55, s113_56, s113_59, s113_62, s113_63, s113_66, s113_67, s113_68, s113_69, s113_72, s113_73, s113_74, s113_75, s113_76, s113_79, s113_82, s113_83, zl_n, zl_i, zl_r, zl_0, z10, z01, ez_bd_s, ez_bd_n, eq_self, true_or, or_true, if_true, if_false, zb_eq, zb_eq1, zb_em, zb_em2, ite_not, List.append_nil, List.cons_append, List.nil_append, reduceCtorEq, not_true_eq_false, not_false_eq_true, pduty]
  · obtain ⟨e, h3⟩ := md_inE h1
    unfold pduty
    rw [nI_clamp (by omega), if_neg (by rw [nI_nm1 (by omega)]; exact id), ← lp_dutyBy (g := g) (h0 := h0) (m := m) ht hl e (by omega) ha h2 _ 0 (Nat.zero_add _)]
    simp only [s113_0, s113_1, s113_2, s113_5, s113_6, s113_7, s113_9, s113_10, s113_11, s113_13, s113_15, s113_16, s113_17, s113_18, s113_21, s113_22, s113_23, s113_24, s113_27, s113_28, s113_31, s113_32, s113_33, s113_36, s113_37, s113_38, s113_39, s113_42, s113_43, s113_44, s113_45, s113_48, s113_49, s113_50, s113_51, s113_54, s113_55, s113_56, s113_59, s113_62, s113_63, s113_66, s113_67, s113_68, s113_69, s113_72, s113_73, s113_74, s113_75, s113_76, s113_79, s113_82, s113_83, zl_n, zl_i, zl_r, zl_0, z10, z01, ez_bd_s, ez_bd_n, eq_self, true_or, or_true, if_true, if_false, zb_eq, zb_eq1, zb_em, zb_em2, ite_not, List.append_nil, List.cons_append, List.nil_append, reduceCtorEq, not_true_eq_false, not_false_eq_true, nI_nm1 (show t < 2 ^ 31 by omega), nI_m16, Nat.add_zero]
/-- is wool forbidden -/
def pb (z : md_S) (a sh so : Int32) (t : Nat) : Nat → Int32
  | 0 => 0
  | j + 1 => if pb z a sh so t j = 0 then (if z.2 44 (16 * t + j) = 1 then (if phold z (16 * t + j) a sh so = 0 then 0 else 1) else 0) else 1
theorem pb01 {a sh so : Int32} {t : Nat} : ∀ j, pb z a sh so t j = 0 ∨ pb z a sh so t j = 1
  | 0 => Or.inl rfl
  | j + 1 => by
    rw [pb]
    repeat' split
    all_goals first | exact Or.inl rfl | exact Or.inr rfl
theorem lp_isForbidden {t n : Nat} {a sh so : Int32} (ht : t < 21) (hn : z.2 41 t = nI n) (hn2 : n ≤ 16) (ha : md_in a 20 = true) (hc : ∀ s, s < n → md_in (z.2 46 (16 * t + s)) 4 = true) : ∀ d j, j + d = n → ez_rn g 114 16 [some (.ref m), some (.int (nI t)), some (.int a), some (.int sh), some (.int so), some (.int (pb z a sh so t j)), some (.int (nI (16 * t + j)))] [] (md_h h0 m z) = some (some (.int (pb z a sh so t n)), md_h h0 m z) := by
  have c0 : (nI t).toNatClampNeg = t := nI_clamp (by omega)
  have c9 : md_in (nI t) 21 = true := md_inN (by omega) (by omega)
  intro d
  induction d with
  | zero =>
    intro j hj
    obtain rfl : j = n := by omega
    have h01 := pb01 (z := z) (a := a) (sh := sh) (so := so) (t := t) j
    rw [s114_16]
    simp only [s114_0, s114_1, s114_3, s114_4, s114_5, s114_8, s114_9, s114_10, s114_12, s114_13, s114_14, s114_18, s114_20, s114_21, s114_22, s114_23, s114_26, s114_27, s114_28, s114_29, s114_32, s114_34, s114_37, s114_38, s114_41, s114_43, s114_44, s114_45, s114_48, s114_49, s114_51, s114_52, s114_53, s114_55, s114_58, s114_61, s114_62, s114_65, s114_66, s114_68, s114_71, s114_74, s114_76, zl_n, zl_i, zl_r, zl_0, z10, z01, ez_bd_s, ez_bd_n, eq_self, true_or, or_true, if_true, if_false, zb_eq, zb_eq1, zb_em, zb_em2, ite_not, List.append_nil, List.cons_append, List.nil_append, reduceCtorEq, not_true_eq_false, not_false_eq_true, nI_m16, c0, c9, hn, nI_add, nI_leT (Nat.le_refl (16 * t + j)) (by omega), h01]
  | succ d ih =>
    intro j hj
    have c1 : (nI (16 * t + j)).toNatClampNeg = 16 * t + j := nI_clamp (by omega)
    have c2 : md_in (nI (16 * t + j)) 336 = true := md_inN (by omega) (by omega)
    have hx := ih (j + 1) (by omega)
    have hq := q_holds (g := g) (h0 := h0) (m := m) (z := z) (s := 16 * t + j) (a := a) (sh := sh) (so := so) (by omega) (hc j (by omega)) ha
    rw [pb] at hx
    rw [s114_16]
    simp only [s114_0, s114_1, s114_3, s114_4, s114_5, s114_8, s114_9, s114_10, s114_12, s114_13, s114_14, s114_18, s114_20, s114_21, s114_22, s114_23, s114_26, s114_27, s114_28, s114_29, s114_32, s114_34, s114_37, s114_38, s114_41, s114_43, s114_44, s114_45, s114_48, s114_49, s114_51, s114_52, s114_53, s114_55, s114_58, s114_61, s114_62, s114_65, s114_66, s114_68, s114_71, s114_74, s114_76, zl_n, zl_i, zl_r, zl_0, z10, z01, ez_bd_s, ez_bd_n, eq_self, true_or, or_true, if_true, if_false, zb_eq, zb_eq1, zb_em, zb_em2, ite_not, List.append_nil, List.cons_append, List.nil_append, reduceCtorEq, not_true_eq_false, not_false_eq_true, nI_m16, c0, c9, hn, nI_add, nI_nleI (show 16 * t + j < 16 * t + n by omega) (by omega), c1, c2, hq, nI_1]
    revert hx
    repeat' split
    all_goals exact id
def pbar (z : md_S) (st a sh so : Int32) : Int32 := if st = -1 then 0 else pb z a sh so st.toNatClampNeg (z.2 41 st.toNatClampNeg).toNatClampNeg
theorem pbar01 {st a sh so : Int32} : pbar z st a sh so = 0 ∨ pbar z st a sh so = 1 := by
  unfold pbar
  split
  · exact Or.inl rfl
  · exact pb01 _
theorem q_isForbidden {st a sh so : Int32} (hs : st = -1 ∨ ∃ t, t < 21 ∧ st = nI t ∧ md_st z t) (ha : md_in a 20 = true) : ez_ev g 114 [.ref m, .int st, .int a, .int sh, .int so] (md_h h0 m z) = some (some (.int (pbar z st a sh so)), md_h h0 m z) := by
  rw [e114]
  rcases hs with rfl | ⟨t, ht, rfl, h1, h2⟩
  · simp only [s114_0, s114_1, s114_3, s114_4, s114_5, s114_8, s114_9, s114_10, s114_12, s114_13, s114_14, s114_18, s114_20, s114_21, s114_22, s114_23, s114_26, s114_27, s114_28, s114_29, s114_32, s114_34, s114_37, s114_38, s114_41, s114_43, s114_44, s114_45, s114_48, s114_49, s114_51, s114_52, s114_53, s114_55, s114_58, s114_61, s114_62, s114_65, s114_66, s114_68, s114_71, s114_74, s114_76, zl_n, zl_i, zl_r, zl_0, z10, z01, ez_bd_s, ez_bd_n, eq_self, true_or, or_true, if_true, if_false, zb_eq, zb_eq1, zb_em, zb_em2, ite_not, List.append_nil, List.cons_append, List.nil_append, reduceCtorEq, not_true_eq_false, not_false_eq_true, pbar]
  · obtain ⟨e, h3⟩ := md_inE h1
    unfold pbar
    rw [nI_clamp (by omega), if_neg (by rw [nI_nm1 (by omega)]; exact id), ← lp_isForbidden (g := g) (h0 := h0) (m := m) ht e (by omega) ha h2 _ 0 (Nat.zero_add _)]
    simp only [s114_0, s114_1, s114_3, s114_4, s114_5, s114_8, s114_9, s114_10, s114_12, s114_13, s114_14, s114_18, s114_20, s114_21, s114_22, s114_23, s114_26, s114_27, s114_28, s114_29, s114_32, s114_34, s114_37, s114_38, s114_41, s114_43, s114_44, s114_45, s114_48, s114_49, s114_51, s114_52, s114_53, s114_55, s114_58, s114_61, s114_62, s114_65, s114_66, s114_68, s114_71, s114_74, s114_76, zl_n, zl_i, zl_r, zl_0, z10, z01, ez_bd_s, ez_bd_n, eq_self, true_or, or_true, if_true, if_false, zb_eq, zb_eq1, zb_em, zb_em2, ite_not, List.append_nil, List.cons_append, List.nil_append, reduceCtorEq, not_true_eq_false, not_false_eq_true, nI_nm1 (show t < 2 ^ 31 by omega), nI_m16, Nat.add_zero, pb]
/-- the last TERM or LOST of a statute -/
def pv (z : md_S) (w : Int32) (t : Nat) : Nat → Int32
  | 0 => 0
  | j + 1 => if z.2 44 (16 * t + j) = w then z.2 45 (16 * t + j) else pv z w t j
theorem lp_lastOf {t n : Nat} {w : Int32} (ht : t < 21) (hn : z.2 41 t = nI n) (hn2 : n ≤ 16) : ∀ d j, j + d = n → ez_rn g 115 14 [some (.ref m), some (.int w), some (.int (nI t)), some (.int (pv z w t j)), some (.int (nI j))] [] (md_h h0 m z) = some (some (.int (pv z w t n)), md_h h0 m z) := by
  have c0 : (nI t).toNatClampNeg = t := nI_clamp (by omega)
  have c9 : md_in (nI t) 21 = true := md_inN (by omega) (by omega)
  have c8 := nI_nm1 (show t < 2 ^ 31 by omega)
  intro d
  induction d with
  | zero =>
    intro j hj
    obtain rfl : j = n := by omega
    rw [s115_14]
    simp only [s115_0, s115_1, s115_2, s115_5, s115_8, s115_9, s115_10, s115_11, s115_12, s115_15, s115_16, s115_19, s115_21, s115_22, s115_25, s115_26, s115_27, s115_30, s115_31, s115_34, s115_36, s115_37, s115_38, s115_40, s115_41, s115_42, s115_43, s115_46, s115_47, s115_50, s115_52, s115_53, s115_54, s115_56, s115_57, s115_58, s115_59, s115_62, s115_65, s115_66, zl_n, zl_i, zl_r, zl_0, z10, z01, ez_bd_s, ez_bd_n, eq_self, true_or, or_true, if_true, if_false, zb_eq, zb_eq1, zb_em, zb_em2, ite_not, List.append_nil, List.cons_append, List.nil_append, reduceCtorEq, not_true_eq_false, not_false_eq_true, nI_m16, c0, c9, c8, hn, nI_add, nI_leT (Nat.le_refl j) (by omega)]
  | succ d ih =>
    intro j hj
    have c1 : (nI (16 * t + j)).toNatClampNeg = 16 * t + j := nI_clamp (by omega)
    have c2 : md_in (nI (16 * t + j)) 336 = true := md_inN (by omega) (by omega)
    have hx := ih (j + 1) (by omega)
    rw [pv] at hx
    rw [s115_14]
    simp only [s115_0, s115_1, s115_2, s115_5, s115_8, s115_9, s115_10, s115_11, s115_12, s115_15, s115_16, s115_19, s115_21, s115_22, s115_25, s115_26, s115_27, s115_30, s115_31, s115_34, s115_36, s115_37, s115_38, s115_40, s115_41, s115_42, s115_43, s115_46, s115_47, s115_50, s115_52, s115_53, s115_54, s115_56, s115_57, s115_58, s115_59, s115_62, s115_65, s115_66, zl_n, zl_i, zl_r, zl_0, z10, z01, ez_bd_s, ez_bd_n, eq_self, true_or, or_true, if_true, if_false, zb_eq, zb_eq1, zb_em, zb_em2, ite_not, List.append_nil, List.cons_append, List.nil_append, reduceCtorEq, not_true_eq_false, not_false_eq_true, nI_m16, c0, c9, c8, hn, nI_add, nI_nleI (show j < n by omega) (by omega), c1, c2, nI_1]
    revert hx
    repeat' split
    all_goals exact id
/-- what is in force on a day -/
def pfd (z : md_S) (day : Int32) : Int32 := if 0 ≤ day ∧ day ≤ 3000 then pf z day (z.1 40).toNatClampNeg else -1
theorem pf_r {day : Int32} : ∀ n, pf z day n = -1 ∨ ∃ t, t < n ∧ pf z day n = nI t
  | 0 => Or.inl rfl
  | n + 1 => by
    rw [pf]
    have := pf_r (day := day) n
    have h2 : pf z day n = -1 ∨ ∃ t, t < n + 1 ∧ pf z day n = nI t := by
      rcases this with h | ⟨t, h3, h4⟩
      · exact Or.inl h
      · exact Or.inr ⟨t, by omega, h4⟩
    repeat' split
    · exact h2
    · exact Or.inr ⟨n, by omega, rfl⟩
    · exact h2
/-- all statutes are well -/
def md_sts (z : md_S) : Prop := md_in (z.1 40) 21 = true ∧ ∀ t, t < (z.1 40).toNatClampNeg → md_st z t
theorem pfd_r {day : Int32} (h : md_sts z) : pfd z day = -1 ∨ ∃ t, t < 21 ∧ pfd z day = nI t ∧ md_st z t := by
  unfold pfd
  have h2 := (md_inE h.1).2
  split
  · rcases pf_r (z := z) (day := day) (z.1 40).toNatClampNeg with e | ⟨t, h3, e⟩
    · exact Or.inl e
    · exact Or.inr ⟨t, by omega, e, h.2 t h3⟩
  · exact Or.inl rfl
theorem q_force' {day : Int32} (h : md_sts z) : ez_ev g 111 [.ref m, .int day] (md_h h0 m z) = some (some (.int (pfd z day)), md_h h0 m z) := by
  obtain ⟨e, h2⟩ := md_inE h.1
  exact q_force e (by omega)
def plast (z : md_S) (st w : Int32) : Int32 := if st = -1 then 0 else pv z w st.toNatClampNeg (z.2 41 st.toNatClampNeg).toNatClampNeg
theorem q_lastOf {w : Int32} (h : md_sts z) : ez_ev g 115 [.ref m, .int w] (md_h h0 m z) = some (some (.int (plast z (pfd z (z.1 0)) w)), md_h h0 m z) := by
  rw [e115]
  have hf := fun day => q_force' (g := g) (h0 := h0) (m := m) (day := day) h
  rcases pfd_r (day := z.1 0) h with e | ⟨t, ht, e, h1, h2⟩
  · simp only [s115_0, s115_1, s115_2, s115_5, s115_8, s115_9, s115_10, s115_11, s115_12, s115_15, s115_16, s115_19, s115_21, s115_22, s115_25, s115_26, s115_27, s115_30, s115_31, s115_34, s115_36, s115_37, s115_38, s115_40, s115_41, s115_42, s115_43, s115_46, s115_47, s115_50, s115_52, s115_53, s115_54, s115_56, s115_57, s115_58, s115_59, s115_62, s115_65, s115_66, zl_n, zl_i, zl_r, zl_0, z10, z01, ez_bd_s, ez_bd_n, eq_self, true_or, or_true, if_true, if_false, zb_eq, zb_eq1, zb_em, zb_em2, ite_not, List.append_nil, List.cons_append, List.nil_append, reduceCtorEq, not_true_eq_false, not_false_eq_true, hf, e, plast]
    rw [s115_14]
    simp only [s115_0, s115_1, s115_2, s115_5, s115_8, s115_9, s115_10, s115_11, s115_12, s115_15, s115_16, s115_19, s115_21, s115_22, s115_25, s115_26, s115_27, s115_30, s115_31, s115_34, s115_36, s115_37, s115_38, s115_40, s115_41, s115_42, s115_43, s115_46, s115_47, s115_50, s115_52, s115_53, s115_54, s115_56, s115_57, s115_58, s115_59, s115_62, s115_65, s115_66, zl_n, zl_i, zl_r, zl_0, z10, z01, ez_bd_s, ez_bd_n, eq_self, true_or, or_true, if_true, if_false, zb_eq, zb_eq1, zb_em, zb_em2, ite_not, List.append_nil, List.cons_append, List.nil_append, reduceCtorEq, not_true_eq_false, not_false_eq_true]
  · obtain ⟨e3, h3⟩ := md_inE h1
    rw [e]
    unfold plast
    rw [nI_clamp (by omega), if_neg (by rw [nI_nm1 (by omega)]; exact id), ← lp_lastOf (g := g) (h0 := h0) (m := m) ht e3 (by omega) _ 0 (Nat.zero_add _)]
    simp only [s115_0, s115_1, s115_2, s115_5, s115_8, s115_9, s115_10, s115_11, s115_12, s115_15, s115_16, s115_19, s115_21, s115_22, s115_25, s115_26, s115_27, s115_30, s115_31, s115_34, s115_36, s115_37, s115_38, s115_40, s115_41, s115_42, s115_43, s115_46, s115_47, s115_50, s115_52, s115_53, s115_54, s115_56, s115_57, s115_58, s115_59, s115_62, s115_65, s115_66, zl_n, zl_i, zl_r, zl_0, z10, z01, ez_bd_s, ez_bd_n, eq_self, true_or, or_true, if_true, if_false, zb_eq, zb_eq1, zb_em, zb_em2, ite_not, List.append_nil, List.cons_append, List.nil_append, reduceCtorEq, not_true_eq_false, not_false_eq_true, hf, e, pv, nI_0]
end M3
