section M4
variable {g : ez_G} {h0 : ez_H} {m : Nat} {z : md_S}
/-- a byte more on the tape -/
def pf1 (z : md_S) (b : Int32) : md_S := md_sI (md_sA z 34 (z.1 36).toNatClampNeg b.toInt8.toInt32) 36 (z.1 36 + 1)
def pfour (z : md_S) (v : Int32) : md_S := pf1 (pf1 (pf1 (pf1 z (v >>> (24 &&& 31))) (v >>> (16 &&& 31))) (v >>> (8 &&& 31))) (v >>> (0 &&& 31))
theorem pf1_t {b : Int32} : (pf1 z b).1 36 = z.1 36 + 1 := id rfl
theorem i24 : ((24 : Int32) < 0) = False := by decide
theorem i16 : ((16 : Int32) < 0) = False := by decide
theorem i8 : ((8 : Int32) < 0) = False := by decide
theorem i0 : ((0 : Int32) < 0) = False := by decide
theorem im8 : ((-8 : Int32) < 0) = True := by decide
theorem j24 : (24 : Int32) + (-8) = 16 := by decide
theorem j16 : (16 : Int32) + (-8) = 8 := by decide
theorem j8 : (8 : Int32) + (-8) = 0 := by decide
theorem j0 : (0 : Int32) + (-8) = -8 := by decide
theorem md_AI1 {s t : Nat} {v : Int32} (h : t ≠ s) : (md_sI z s v).1 t = z.1 t := if_neg h
theorem q_four {t : Nat} {v : Int32} (ht : z.1 36 = nI t) (h4 : t + 4 ≤ 600) : ez_ev g 100 [.ref m, .int v] (md_h h0 m z) = some (none, md_h h0 m (pfour z v)) := by
  have a0 : md_in (z.1 36) 600 = true := by rw [ht]; exact md_inN (by omega) (by omega)
  have a1 : ∀ b, md_in ((pf1 z b).1 36) 600 = true := fun b => by rw [pf1_t, ht, nI_1]; exact md_inN (by omega) (by omega)
  have a2 : ∀ b c, md_in ((pf1 (pf1 z b) c).1 36) 600 = true := fun b c => by rw [pf1_t, pf1_t, ht, nI_1, nI_1]; exact md_inN (by omega) (by omega)
  have a3 : ∀ b c d, md_in ((pf1 (pf1 (pf1 z b) c) d).1 36) 600 = true := fun b c d => by rw [pf1_t, pf1_t, pf1_t, ht, nI_1, nI_1, nI_1]; exact md_inN (by omega) (by omega)
  have fo : ∀ (y : md_S) (b : Int32), md_sI (md_sA y 34 (y.1 36).toNatClampNeg b.toInt8.toInt32.toInt8.toInt32) 36 (y.1 36 + 1) = pf1 y b := by
    intro y b
    unfold pf1
    rw [show b.toInt8.toInt32.toInt8.toInt32 = b.toInt8.toInt32 by simp]
  rw [e100]
  simp only [s100_0, s100_2, s100_3, s100_4, s100_7, s100_8, s100_11, s100_12, s100_15, s100_16, s100_17, s100_18, s100_19, s100_20, s100_21, s100_22, s100_25, s100_26, s100_27, s100_30, s100_33, s100_36, zl_n, zl_i, zl_r, zl_0, z10, z01, ez_bd_s, ez_bd_n, eq_self, true_or, or_true, if_true, if_false, zb_eq, zb_eq1, zb_em, zb_em2, ite_not, List.append_nil, List.cons_append, List.nil_append, reduceCtorEq, not_true_eq_false, not_false_eq_true, md_A1, i24, i16, i8, i0, im8, j24, j16, j8, j0, a0, fo, a1, a2, a3]
  rfl
theorem pfour_t {v : Int32} {t : Nat} (ht : z.1 36 = nI t) : (pfour z v).1 36 = nI (t + 4) := by
  unfold pfour
  rw [pf1_t, pf1_t, pf1_t, pf1_t, ht, nI_1, nI_1, nI_1, nI_1]
def pm_feed (z : md_S) (a b c d e : Int32) : md_S × Int32 := if z.1 36 + 20 ≤ 600 then (pfour (pfour (pfour (pfour (pfour z a) b) c) d) e, (pfour (pfour (pfour (pfour (pfour z a) b) c) d) e).1 36) else (z, -1)
theorem q_feed {a b c d e : Int32} {t : Nat} (ht : z.1 36 = nI t) (h4 : t ≤ 600) : ez_ev g 99 [.ref m, .int a, .int b, .int c, .int d, .int e] (md_h h0 m z) = some (some (.int (pm_feed z a b c d e).2), md_h h0 m (pm_feed z a b c d e).1) := by
  rw [e99]
  unfold pm_feed
  by_cases h1 : z.1 36 + 20 ≤ 600
  · have h2 : t + 20 ≤ 600 := by
      rw [ht, show (20 : Int32) = nI 20 from rfl, nI_add, show (600 : Int32) = nI 600 from rfl] at h1
      exact (nI_leI (by omega) (by omega)).mp h1
    have t1 := pfour_t (v := a) ht
    have t2 := pfour_t (v := b) t1
    have t3 := pfour_t (v := c) t2
    have t4 := pfour_t (v := d) t3
    have q0 := q_four (g := g) (h0 := h0) (m := m) (v := a) ht (by omega)
    have q1 := q_four (g := g) (h0 := h0) (m := m) (v := b) t1 (by omega)
    have q2 := q_four (g := g) (h0 := h0) (m := m) (v := c) t2 (by omega)
    have q3 := q_four (g := g) (h0 := h0) (m := m) (v := d) t3 (by omega)
    have q4 := q_four (g := g) (h0 := h0) (m := m) (v := e) t4 (by omega)
    simp only [s99_0, s99_1, s99_4, s99_6, s99_7, s99_10, s99_13, s99_14, s99_15, s99_16, s99_17, s99_20, s99_21, s99_22, s99_25, s99_26, s99_27, s99_30, s99_31, s99_33, s99_36, s99_37, s99_39, s99_42, s99_43, s99_46, zl_n, zl_i, zl_r, zl_0, z10, z01, ez_bd_s, ez_bd_n, eq_self, true_or, or_true, if_true, if_false, zb_eq, zb_eq1, zb_em, zb_em2, ite_not, List.append_nil, List.cons_append, List.nil_append, reduceCtorEq, not_true_eq_false, not_false_eq_true, h1, q0, q1, q2, q3, q4]
  · simp only [s99_0, s99_1, s99_4, s99_6, s99_7, s99_10, s99_13, s99_14, s99_15, s99_16, s99_17, s99_20, s99_21, s99_22, s99_25, s99_26, s99_27, s99_30, s99_31, s99_33, s99_36, s99_37, s99_39, s99_42, s99_43, s99_46, zl_n, zl_i, zl_r, zl_0, z10, z01, ez_bd_s, ez_bd_n, eq_self, true_or, or_true, if_true, if_false, zb_eq, zb_eq1, zb_em, zb_em2, ite_not, List.append_nil, List.cons_append, List.nil_append, reduceCtorEq, not_true_eq_false, not_false_eq_true, h1]
theorem md_A2n {s t i : Nat} {v : Int32} (h : t ≠ s) : (md_sA z s i v).2 t = z.2 t := by rw [md_A2, if_neg h]
theorem pf_A {s i : Nat} {v day : Int32} (h1 : s ≠ 43) (h2 : s ≠ 42) : ∀ n, pf (md_sA z s i v) day n = pf z day n
  | 0 => rfl
  | n + 1 => by
    rw [pf, pf, pf_A h1 h2 n, md_A2n (t := 43) (fun e => h1 e.symm), md_A2n (t := 42) (fun e => h2 e.symm)]
theorem pfd_A {s i : Nat} {v day : Int32} (h1 : s ≠ 43) (h2 : s ≠ 42) : pfd (md_sA z s i v) day = pfd z day := by
  unfold pfd
  rw [pf_A h1 h2]
  rfl
theorem ph_A {s i : Nat} {v a sh so : Int32} {k : Nat} (h1 : s < 46 ∧ s ≠ 7) : ∀ j, ph (md_sA z s i v) a sh so k j = ph z a sh so k j
  | 0 => rfl
  | j + 1 => by
    rw [ph, ph, ph_A h1 j, phv, phv, md_A2n (t := 47) (by omega), md_A2n (t := 7) (by omega), md_A2n (t := 48) (by omega)]
theorem phold_A {s i : Nat} {v a sh so : Int32} {k : Nat} (h1 : s < 41 ∧ s ≠ 7) : phold (md_sA z s i v) k a sh so = phold z k a sh so := by
  unfold phold
  rw [ph_A (by omega), md_A2n (t := 46) (by omega)]
theorem pdf_A {s i : Nat} {v : Int32} {l t : Nat} (h1 : s < 41 ∧ 15 < s) : ∀ d j, pdf (md_sA z s i v) l t d j = pdf z l t d j
  | 0, _ => rfl
  | d + 1, j => by
    rw [pdf, pdf, pdf_A h1 d, phold_A (by omega)]
    rw [md_A2n (t := 44) (by omega), md_A2n (t := 45) (by omega), md_A2n (t := 12) (by omega), md_A2n (t := 13) (by omega), md_A2n (t := 14) (by omega), md_A2n (t := 15) (by omega)]
theorem pduty_A {s i : Nat} {v st : Int32} {l : Nat} (h1 : s < 41 ∧ 15 < s) : pduty (md_sA z s i v) st l = pduty z st l := by
  unfold pduty
  rw [pdf_A h1, md_A2n (t := 41) (by omega)]
theorem pv_A {s i : Nat} {v w : Int32} {t : Nat} (h1 : s < 41) : ∀ j, pv (md_sA z s i v) w t j = pv z w t j
  | 0 => rfl
  | j + 1 => by
    rw [pv, pv, pv_A h1 j]
    rw [md_A2n (t := 44) (by omega), md_A2n (t := 45) (by omega)]
theorem plast_A {s i : Nat} {v w st : Int32} (h1 : s < 41) : plast (md_sA z s i v) st w = plast z st w := by
  unfold plast
  rw [pv_A h1, md_A2n (t := 41) (by omega)]
theorem md_sts_A {s i : Nat} {v : Int32} (h1 : s < 41) (h : md_sts z) : md_sts (md_sA z s i v) := by
  unfold md_sts md_st at *
  rw [md_A1, md_A2n (t := 41) (by omega), md_A2n (t := 46) (by omega)]
  exact h
def pm_over (z : md_S) (l : Int32) : Int32 := if 0 ≤ l ∧ l ≤ z.1 3 - 1 then (if z.2 21 l.toNatClampNeg = -1 then 0 else (if z.2 22 l.toNatClampNeg = 0 then pduty z (pfd z (z.2 21 l.toNatClampNeg)) l.toNatClampNeg - z.2 17 l.toNatClampNeg else 0)) else 0
theorem q_over {l : Int32} (h : md_sts z) (hl : 0 ≤ l ∧ l ≤ z.1 3 - 1 → md_in l 150 = true ∧ md_in (z.2 12 l.toNatClampNeg) 20 = true) : ez_ev g 128 [.ref m, .int l] (md_h h0 m z) = some (some (.int (pm_over z l)), md_h h0 m z) := by
  rw [e128]
  unfold pm_over
  by_cases h1 : 0 ≤ l ∧ l ≤ z.1 3 - 1
  · obtain ⟨h2, h3⟩ := hl h1
    obtain ⟨e, h4⟩ := md_inE h2
    have q1 := q_dutyBy (g := g) (h0 := h0) (m := m) h4 (pfd_r (day := z.2 21 l.toNatClampNeg) h) h3
    rw [← e] at q1
    simp only [s128_0, s128_1, s128_2, s128_5, s128_8, s128_9, s128_12, s128_13, s128_14, s128_15, s128_18, s128_19, s128_22, s128_23, s128_24, s128_27, s128_28, s128_29, s128_30, s128_33, s128_34, s128_35, s128_38, s128_39, s128_42, s128_43, s128_46, s128_47, s128_48, s128_49, s128_52, s128_53, zl_n, zl_i, zl_r, zl_0, z10, z01, ez_bd_s, ez_bd_n, eq_self, true_or, or_true, if_true, if_false, zb_eq, zb_eq1, zb_em, zb_em2, ite_not, List.append_nil, List.cons_append, List.nil_append, reduceCtorEq, not_true_eq_false, not_false_eq_true, q_isLot, h2, fun day => q_force' (g := g) (h0 := h0) (m := m) (day := day) h, q1]
    simp only [if_pos h1]
    repeat' split
    all_goals rfl
  · simp only [s128_0, s128_1, s128_2, s128_5, s128_8, s128_9, s128_12, s128_13, s128_14, s128_15, s128_18, s128_19, s128_22, s128_23, s128_24, s128_27, s128_28, s128_29, s128_30, s128_33, s128_34, s128_35, s128_38, s128_39, s128_42, s128_43, s128_46, s128_47, s128_48, s128_49, s128_52, s128_53, zl_n, zl_i, zl_r, zl_0, z10, z01, ez_bd_s, ez_bd_n, eq_self, true_or, or_true, if_true, if_false, zb_eq, zb_eq1, zb_em, zb_em2, ite_not, List.append_nil, List.cons_append, List.nil_append, reduceCtorEq, not_true_eq_false, not_false_eq_true, q_isLot]
    simp only [if_neg h1]
def pcd (z : md_S) (l : Nat) : Int32 := if z.2 22 l = 0 then pduty z (pfd z (z.1 0)) l else 0
def pm_custom (z : md_S) (l : Int32) : md_S × Int32 := if 0 ≤ l ∧ l ≤ z.1 3 - 1 then (if z.2 21 l.toNatClampNeg = -1 then ((if pcd z l.toNatClampNeg ≤ 0 then md_sA (md_sA z 21 l.toNatClampNeg (z.1 0)) 17 l.toNatClampNeg (pcd z l.toNatClampNeg) else md_sA (md_sA (md_sA (md_sA z 21 l.toNatClampNeg (z.1 0)) 17 l.toNatClampNeg (pcd z l.toNatClampNeg)) 18 l.toNatClampNeg 1) 19 l.toNatClampNeg (z.1 0 + plast z (pfd z (z.1 0)) 2)), pcd z l.toNatClampNeg) else (z, -1)) else (z, -1)
theorem q_custom {l : Int32} (h : md_sts z) (hl : 0 ≤ l ∧ l ≤ z.1 3 - 1 → md_in l 150 = true ∧ md_in (z.2 12 l.toNatClampNeg) 20 = true) : ez_ev g 119 [.ref m, .int l] (md_h h0 m z) = some (some (.int (pm_custom z l).2), md_h h0 m (pm_custom z l).1) := by
  rw [e119]
  unfold pm_custom
  by_cases h1 : 0 ≤ l ∧ l ≤ z.1 3 - 1
  · obtain ⟨h2, h3⟩ := hl h1
    obtain ⟨e, h4⟩ := md_inE h2
    generalize l.toNatClampNeg = j at e h4 h3 ⊢
    subst e
    have c1 : (nI j).toNatClampNeg = j := nI_clamp (by omega)
    rw [if_pos h1]
    by_cases h5 : z.2 21 j = -1
    · rw [if_pos h5]
      have hz1 : md_sts (md_sA z 21 j (z.1 0)) := md_sts_A (by omega) h
      have hq1 : ∀ v, md_sts (md_sA (md_sA (md_sA z 21 j (z.1 0)) 17 j v) 18 j 1) := fun v => md_sts_A (by omega) (md_sts_A (by omega) hz1)
      have q0 := fun day => q_force' (g := g) (h0 := h0) (m := m) (day := day) hz1
      have q1 := q_dutyBy (g := g) (h0 := h0) (m := m) (l := j) h4 (pfd_r (day := z.1 0) hz1) (by rw [md_A2, if_neg (by omega)]; exact h3)
      have q2 := fun v w => q_lastOf (g := g) (h0 := h0) (m := m) (w := w) (hq1 v)
      rw [pduty_A (by omega), pfd_A (by omega) (by omega)] at q1
      simp only [pfd_A (show 21 ≠ 43 by omega) (show 21 ≠ 42 by omega)] at q0
      simp only [pfd_A (show 21 ≠ 43 by omega) (show 21 ≠ 42 by omega), pfd_A (show 17 ≠ 43 by omega) (show 17 ≠ 42 by omega), pfd_A (show 18 ≠ 43 by omega) (show 18 ≠ 42 by omega), plast_A (show 21 < 41 by omega), plast_A (show 17 < 41 by omega), plast_A (show 18 < 41 by omega), md_A1] at q2
      simp only [s119_0, s119_1, s119_2, s119_5, s119_8, s119_9, s119_12, s119_13, s119_14, s119_15, s119_18, s119_19, s119_20, s119_21, s119_24, s119_25, s119_26, s119_29, s119_30, s119_31, s119_34, s119_35, s119_36, s119_39, s119_40, s119_41, s119_44, s119_45, s119_48, s119_49, s119_50, s119_51, s119_54, s119_57, s119_58, s119_61, s119_62, s119_63, s119_66, s119_67, s119_68, s119_71, s119_72, s119_75, s119_76, s119_77, s119_78, s119_79, s119_82, s119_83, s119_84, s119_87, s119_88, s119_89, s119_92, s119_93, s119_94, s119_95, s119_98, s119_99, s119_100, zl_n, zl_i, zl_r, zl_0, z10, z01, ez_bd_s, ez_bd_n, eq_self, true_or, or_true, if_true, if_false, zb_eq, zb_eq1, zb_em, zb_em2, ite_not, List.append_nil, List.cons_append, List.nil_append, reduceCtorEq, not_true_eq_false, not_false_eq_true, q_isLot, h1, c1, h2, h5, and_self]
      unfold pcd
      by_cases h6 : z.2 22 j = 0
      · simp only [s119_0, s119_1, s119_2, s119_5, s119_8, s119_9, s119_12, s119_13, s119_14, s119_15, s119_18, s119_19, s119_20, s119_21, s119_24, s119_25, s119_26, s119_29, s119_30, s119_31, s119_34, s119_35, s119_36, s119_39, s119_40, s119_41, s119_44, s119_45, s119_48, s119_49, s119_50, s119_51, s119_54, s119_57, s119_58, s119_61, s119_62, s119_63, s119_66, s119_67, s119_68, s119_71, s119_72, s119_75, s119_76, s119_77, s119_78, s119_79, s119_82, s119_83, s119_84, s119_87, s119_88, s119_89, s119_92, s119_93, s119_94, s119_95, s119_98, s119_99, s119_100, zl_n, zl_i, zl_r, zl_0, z10, z01, ez_bd_s, ez_bd_n, eq_self, true_or, or_true, if_true, if_false, zb_eq, zb_eq1, zb_em, zb_em2, ite_not, List.append_nil, List.cons_append, List.nil_append, reduceCtorEq, not_true_eq_false, not_false_eq_true, h2, c1, h6, md_A1, md_A2, q0, q1, q2, Nat.reduceEqDiff, pk_us]
        split <;> rfl
      · simp only [s119_0, s119_1, s119_2, s119_5, s119_8, s119_9, s119_12, s119_13, s119_14, s119_15, s119_18, s119_19, s119_20, s119_21, s119_24, s119_25, s119_26, s119_29, s119_30, s119_31, s119_34, s119_35, s119_36, s119_39, s119_40, s119_41, s119_44, s119_45, s119_48, s119_49, s119_50, s119_51, s119_54, s119_57, s119_58, s119_61, s119_62, s119_63, s119_66, s119_67, s119_68, s119_71, s119_72, s119_75, s119_76, s119_77, s119_78, s119_79, s119_82, s119_83, s119_84, s119_87, s119_88, s119_89, s119_92, s119_93, s119_94, s119_95, s119_98, s119_99, s119_100, zl_n, zl_i, zl_r, zl_0, z10, z01, ez_bd_s, ez_bd_n, eq_self, true_or, or_true, if_true, if_false, zb_eq, zb_eq1, zb_em, zb_em2, ite_not, List.append_nil, List.cons_append, List.nil_append, reduceCtorEq, not_true_eq_false, not_false_eq_true, h2, c1, h6, md_A1, md_A2, q0, q1, q2, Nat.reduceEqDiff, pk_us]
        rfl
    · rw [if_neg h5]
      simp only [s119_0, s119_1, s119_2, s119_5, s119_8, s119_9, s119_12, s119_13, s119_14, s119_15, s119_18, s119_19, s119_20, s119_21, s119_24, s119_25, s119_26, s119_29, s119_30, s119_31, s119_34, s119_35, s119_36, s119_39, s119_40, s119_41, s119_44, s119_45, s119_48, s119_49, s119_50, s119_51, s119_54, s119_57, s119_58, s119_61, s119_62, s119_63, s119_66, s119_67, s119_68, s119_71, s119_72, s119_75, s119_76, s119_77, s119_78, s119_79, s119_82, s119_83, s119_84, s119_87, s119_88, s119_89, s119_92, s119_93, s119_94, s119_95, s119_98, s119_99, s119_100, zl_n, zl_i, zl_r, zl_0, z10, z01, ez_bd_s, ez_bd_n, eq_self, true_or, or_true, if_true, if_false, zb_eq, zb_eq1, zb_em, zb_em2, ite_not, List.append_nil, List.cons_append, List.nil_append, reduceCtorEq, not_true_eq_false, not_false_eq_true, q_isLot, h1, c1, h2, h5, and_self]
  · simp only [s119_0, s119_1, s119_2, s119_5, s119_8, s119_9, s119_12, s119_13, s119_14, s119_15, s119_18, s119_19, s119_20, s119_21, s119_24, s119_25, s119_26, s119_29, s119_30, s119_31, s119_34, s119_35, s119_36, s119_39, s119_40, s119_41, s119_44, s119_45, s119_48, s119_49, s119_50, s119_51, s119_54, s119_57, s119_58, s119_61, s119_62, s119_63, s119_66, s119_67, s119_68, s119_71, s119_72, s119_75, s119_76, s119_77, s119_78, s119_79, s119_82, s119_83, s119_84, s119_87, s119_88, s119_89, s119_92, s119_93, s119_94, s119_95, s119_98, s119_99, s119_100, zl_n, zl_i, zl_r, zl_0, z10, z01, ez_bd_s, ez_bd_n, eq_self, true_or, or_true, if_true, if_false, zb_eq, zb_eq1, zb_em, zb_em2, ite_not, List.append_nil, List.cons_append, List.nil_append, reduceCtorEq, not_true_eq_false, not_false_eq_true, q_isLot]
    simp only [if_neg h1]
end M4
