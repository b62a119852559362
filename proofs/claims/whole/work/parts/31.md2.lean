section M2
variable {g : ez_G} {h0 : ez_H} {m : Nat} {z : md_S}
theorem q_one {b : Int32} : ez_ev g 126 [.int b] (md_h h0 m z) = some (some (.int (if b = 0 then 0 else 1)), md_h h0 m z) := by
  rw [e126]
  simp only [s126_0, s126_1, s126_4, s126_5, s126_8, s126_9, zl_n, zl_i, zl_r, zl_0, z10, z01, ez_bd_s, ez_bd_n, eq_self, true_or, or_true, if_true, if_false, zb_eq, zb_eq1, zb_em, zb_em2, ite_not, List.append_nil, List.cons_append, List.nil_append, reduceCtorEq, not_true_eq_false, not_false_eq_true]
  split <;> rfl
theorem q_isLate {l : Int32} (h : md_in l 150 = true) : ez_ev g 125 [.ref m, .int l] (md_h h0 m z) = some (some (.int (if z.2 18 l.toNatClampNeg = 1 ∧ z.2 19 l.toNatClampNeg < z.1 0 then 1 else 0)), md_h h0 m z) := by
  rw [e125]
  simp only [s125_0, s125_1, s125_4, s125_5, s125_6, s125_7, s125_10, s125_11, s125_14, s125_15, s125_18, s125_19, s125_20, s125_23, s125_24, s125_27, s125_28, zl_n, zl_i, zl_r, zl_0, z10, z01, ez_bd_s, ez_bd_n, eq_self, true_or, or_true, if_true, if_false, zb_eq, zb_eq1, zb_em, zb_em2, ite_not, List.append_nil, List.cons_append, List.nil_append, reduceCtorEq, not_true_eq_false, not_false_eq_true, h]
  by_cases h1 : z.2 18 l.toNatClampNeg = 1
  · rw [if_pos h1]
    by_cases h2 : z.1 0 ≤ z.2 19 l.toNatClampNeg
    · rw [if_pos h2, if_neg (fun q => absurd q.2 (Int32.not_lt.mpr h2))]
    · rw [if_neg h2, if_pos ⟨h1, Int32.not_le.mp h2⟩]
  · rw [if_neg h1, if_neg (fun q => h1 q.1)]
def ph0 (l : Int32) : Int32 := 1000 * l + (37 * l + 11 - (37 * l + 11) / 997 * 997)
def ph1 (l : Int32) : Int32 := 1000 * l + (53 * l + 29 - (53 * l + 29) / 997 * 997)
theorem z997 : ((997 : Int32) = 0) = False := by decide
theorem q_halfOf {l w : Int32} : ez_ev g 120 [.int l, .int w] (md_h h0 m z) = some (some (.int (if w = 0 then ph0 l else ph1 l)), md_h h0 m z) := by
  rw [e120]
  simp only [s120_0, s120_3, s120_4, s120_5, s120_6, s120_9, s120_11, s120_12, s120_13, s120_15, s120_16, s120_19, s120_21, s120_22, s120_23, s120_25, s120_26, s120_29, s120_30, s120_31, zl_n, zl_i, zl_r, zl_0, z10, z01, ez_bd_s, ez_bd_n, eq_self, true_or, or_true, if_true, if_false, zb_eq, zb_eq1, zb_em, zb_em2, ite_not, List.append_nil, List.cons_append, List.nil_append, reduceCtorEq, not_true_eq_false, not_false_eq_true, z997]
  split <;> rfl
def pm_half (z : md_S) (l w : Int32) : Int32 := if 0 ≤ l ∧ l ≤ z.1 3 - 1 then (if z.2 21 l.toNatClampNeg = -1 then -1 else (if 0 ≤ w ∧ w ≤ 1 then (if w = 0 then ph0 l else ph1 l) else -1)) else -1
theorem q_half {l w : Int32} (h : 0 ≤ l ∧ l ≤ z.1 3 - 1 → md_in l 150 = true) : ez_ev g 121 [.ref m, .int l, .int w] (md_h h0 m z) = some (some (.int (pm_half z l w)), md_h h0 m z) := by
  rw [e121]
  unfold pm_half
  by_cases h1 : 0 ≤ l ∧ l ≤ z.1 3 - 1
  · have h2 := h h1
    simp only [s121_0, s121_1, s121_2, s121_5, s121_8, s121_9, s121_12, s121_13, s121_14, s121_15, s121_18, s121_19, s121_20, s121_21, s121_24, s121_27, s121_28, s121_29, s121_32, s121_35, s121_36, zl_n, zl_i, zl_r, zl_0, z10, z01, ez_bd_s, ez_bd_n, eq_self, true_or, or_true, if_true, if_false, zb_eq, zb_eq1, zb_em, zb_em2, ite_not, List.append_nil, List.cons_append, List.nil_append, reduceCtorEq, not_true_eq_false, not_false_eq_true, q_isLot, q_isIn, q_halfOf, h2]
    simp only [if_pos h1]
    repeat' split
    all_goals rfl
  · simp only [s121_0, s121_1, s121_2, s121_5, s121_8, s121_9, s121_12, s121_13, s121_14, s121_15, s121_18, s121_19, s121_20, s121_21, s121_24, s121_27, s121_28, s121_29, s121_32, s121_35, s121_36, zl_n, zl_i, zl_r, zl_0, z10, z01, ez_bd_s, ez_bd_n, eq_self, true_or, or_true, if_true, if_false, zb_eq, zb_eq1, zb_em, zb_em2, ite_not, List.append_nil, List.cons_append, List.nil_append, reduceCtorEq, not_true_eq_false, not_false_eq_true, q_isLot, q_isIn, q_halfOf]
    simp only [if_neg h1]
def pm_rate (z : md_S) (k u l : Int32) : md_S × Int32 := if 1 ≤ k ∧ k ≤ 3 then (if 1 ≤ u ∧ u ≤ 1000 then (if 1 ≤ l ∧ l ≤ 1000 then (md_sA (md_sA z 23 k.toNatClampNeg u) 24 k.toNatClampNeg l, 1) else (z, 0)) else (z, 0)) else (z, 0)
theorem q_rate {k u l : Int32} (h : 1 ≤ k ∧ k ≤ 3 → md_in k 4 = true) : ez_ev g 122 [.ref m, .int k, .int u, .int l] (md_h h0 m z) = some (some (.int (pm_rate z k u l).2), md_h h0 m (pm_rate z k u l).1) := by
  rw [e122]
  unfold pm_rate
  by_cases h1 : 1 ≤ k ∧ k ≤ 3
  · have h2 := h h1
    simp only [s122_0, s122_1, s122_2, s122_3, s122_6, s122_9, s122_10, s122_11, s122_14, s122_17, s122_20, s122_21, s122_22, s122_25, s122_28, s122_31, s122_32, s122_33, s122_34, s122_37, s122_38, s122_39, s122_40, s122_41, s122_44, s122_45, s122_46, s122_47, s122_48, zl_n, zl_i, zl_r, zl_0, z10, z01, ez_bd_s, ez_bd_n, eq_self, true_or, or_true, if_true, if_false, zb_eq, zb_eq1, zb_em, zb_em2, ite_not, List.append_nil, List.cons_append, List.nil_append, reduceCtorEq, not_true_eq_false, not_false_eq_true, q_isIn, h2]
    simp only [if_pos h1]
    repeat' split
    all_goals rfl
  · simp only [s122_0, s122_1, s122_2, s122_3, s122_6, s122_9, s122_10, s122_11, s122_14, s122_17, s122_20, s122_21, s122_22, s122_25, s122_28, s122_31, s122_32, s122_33, s122_34, s122_37, s122_38, s122_39, s122_40, s122_41, s122_44, s122_45, s122_46, s122_47, s122_48, zl_n, zl_i, zl_r, zl_0, z10, z01, ez_bd_s, ez_bd_n, eq_self, true_or, or_true, if_true, if_false, zb_eq, zb_eq1, zb_em, zb_em2, ite_not, List.append_nil, List.cons_append, List.nil_append, reduceCtorEq, not_true_eq_false, not_false_eq_true, q_isIn]
    simp only [if_neg h1]
def pm_fleet (z : md_S) : md_S × Int32 := if z.1 4 = 20 then (z, -1) else (md_sI z 4 (z.1 4 + 1), z.1 4 + 1 - 1)
theorem q_fleet : ez_ev g 129 [.ref m] (md_h h0 m z) = some (some (.int (pm_fleet z).2), md_h h0 m (pm_fleet z).1) := by
  rw [e129]
  unfold pm_fleet
  simp only [s129_0, s129_1, s129_4, s129_6, s129_9, s129_10, s129_11, s129_12, s129_13, s129_16, s129_17, s129_18, s129_21, s129_22, s129_25, s129_26, s129_27, zl_n, zl_i, zl_r, zl_0, z10, z01, ez_bd_s, ez_bd_n, eq_self, true_or, or_true, if_true, if_false, zb_eq, zb_eq1, zb_em, zb_em2, ite_not, List.append_nil, List.cons_append, List.nil_append, reduceCtorEq, not_true_eq_false, not_false_eq_true, md_I1]
  split <;> rfl
def pm_part (z : md_S) (f a : Int32) : Int32 := if 0 ≤ f ∧ f ≤ z.1 4 - 1 then (if 0 ≤ a ∧ a ≤ z.1 1 - 1 then z.2 27 (20 * f + a).toNatClampNeg else -1) else -1
theorem q_part {f a : Int32} (h : 0 ≤ f ∧ f ≤ z.1 4 - 1 → 0 ≤ a ∧ a ≤ z.1 1 - 1 → md_in (20 * f + a) 400 = true) : ez_ev g 136 [.ref m, .int f, .int a] (md_h h0 m z) = some (some (.int (pm_part z f a)), md_h h0 m z) := by
  rw [e136]
  unfold pm_part
  by_cases h1 : 0 ≤ f ∧ f ≤ z.1 4 - 1
  · by_cases h3 : 0 ≤ a ∧ a ≤ z.1 1 - 1
    · have h2 := h h1 h3
      simp only [s136_0, s136_1, s136_2, s136_5, s136_8, s136_9, s136_10, s136_13, s136_16, s136_17, s136_20, s136_22, s136_23, s136_24, s136_25, s136_26, s136_27, s136_30, s136_31, zl_n, zl_i, zl_r, zl_0, z10, z01, ez_bd_s, ez_bd_n, eq_self, true_or, or_true, if_true, if_false, zb_eq, zb_eq1, zb_em, zb_em2, ite_not, List.append_nil, List.cons_append, List.nil_append, reduceCtorEq, not_true_eq_false, not_false_eq_true, q_isFleet, q_isMerchant, h2]
      simp only [if_pos h1, if_pos h3]
    · simp only [s136_0, s136_1, s136_2, s136_5, s136_8, s136_9, s136_10, s136_13, s136_16, s136_17, s136_20, s136_22, s136_23, s136_24, s136_25, s136_26, s136_27, s136_30, s136_31, zl_n, zl_i, zl_r, zl_0, z10, z01, ez_bd_s, ez_bd_n, eq_self, true_or, or_true, if_true, if_false, zb_eq, zb_eq1, zb_em, zb_em2, ite_not, List.append_nil, List.cons_append, List.nil_append, reduceCtorEq, not_true_eq_false, not_false_eq_true, q_isFleet, q_isMerchant]
      simp only [if_pos h1, if_neg h3]
  · simp only [s136_0, s136_1, s136_2, s136_5, s136_8, s136_9, s136_10, s136_13, s136_16, s136_17, s136_20, s136_22, s136_23, s136_24, s136_25, s136_26, s136_27, s136_30, s136_31, zl_n, zl_i, zl_r, zl_0, z10, z01, ez_bd_s, ez_bd_n, eq_self, true_or, or_true, if_true, if_false, zb_eq, zb_eq1, zb_em, zb_em2, ite_not, List.append_nil, List.cons_append, List.nil_append, reduceCtorEq, not_true_eq_false, not_false_eq_true, q_isFleet, q_isMerchant]
    simp only [if_neg h1]
def pm_left (z : md_S) (l : Int32) : Int32 := if 0 ≤ l ∧ l ≤ z.1 2 - 1 then z.2 11 l.toNatClampNeg else -1
theorem q_left {l : Int32} (h : 0 ≤ l ∧ l ≤ z.1 2 - 1 → md_in l 40 = true) : ez_ev g 117 [.ref m, .int l] (md_h h0 m z) = some (some (.int (pm_left z l)), md_h h0 m z) := by
  rw [e117]
  unfold pm_left
  by_cases h1 : 0 ≤ l ∧ l ≤ z.1 2 - 1
  · have h2 := h h1
    simp only [s117_0, s117_1, s117_2, s117_3, s117_6, s117_7, s117_8, s117_11, s117_14, s117_15, s117_18, s117_19, s117_20, s117_23, s117_24, zl_n, zl_i, zl_r, zl_0, z10, z01, ez_bd_s, ez_bd_n, eq_self, true_or, or_true, if_true, if_false, zb_eq, zb_eq1, zb_em, zb_em2, ite_not, List.append_nil, List.cons_append, List.nil_append, reduceCtorEq, not_true_eq_false, not_false_eq_true, q_isIn, h2]
    simp only [if_pos h1]
  · simp only [s117_0, s117_1, s117_2, s117_3, s117_6, s117_7, s117_8, s117_11, s117_14, s117_15, s117_18, s117_19, s117_20, s117_23, s117_24, zl_n, zl_i, zl_r, zl_0, z10, z01, ez_bd_s, ez_bd_n, eq_self, true_or, or_true, if_true, if_false, zb_eq, zb_eq1, zb_em, zb_em2, ite_not, List.append_nil, List.cons_append, List.nil_append, reduceCtorEq, not_true_eq_false, not_false_eq_true, q_isIn]
    simp only [if_neg h1]
def pm_licence (z : md_S) (a b s : Int32) : md_S × Int32 := if 0 ≤ a ∧ a ≤ z.1 1 - 1 then (if 0 ≤ b ∧ b ≤ 3 then (if 1 ≤ s ∧ s ≤ 500 then (if z.1 2 = 40 then (z, -1) else (md_sI (md_sA (md_sA (md_sA z 9 (z.1 2).toNatClampNeg a) 10 (z.1 2).toNatClampNeg b) 11 (z.1 2).toNatClampNeg s) 2 (z.1 2 + 1), z.1 2 + 1 - 1)) else (z, -1)) else (z, -1)) else (z, -1)
theorem q_licence {a b s : Int32} (h : z.1 2 = 40 ∨ md_in (z.1 2) 40 = true) : ez_ev g 116 [.ref m, .int a, .int b, .int s] (md_h h0 m z) = some (some (.int (pm_licence z a b s).2), md_h h0 m (pm_licence z a b s).1) := by
  rw [e116]
  unfold pm_licence
  by_cases h1 : z.1 2 = 40
  · simp only [s116_0, s116_1, s116_2, s116_5, s116_8, s116_9, s116_10, s116_11, s116_14, s116_17, s116_18, s116_19, s116_22, s116_25, s116_28, s116_29, s116_32, s116_34, s116_37, s116_38, s116_39, s116_40, s116_43, s116_44, s116_47, s116_48, s116_49, s116_50, s116_53, s116_54, s116_57, s116_58, s116_59, s116_60, s116_63, s116_64, s116_67, s116_68, s116_69, s116_70, s116_71, s116_74, s116_75, s116_76, s116_79, s116_80, s116_83, s116_84, s116_85, zl_n, zl_i, zl_r, zl_0, z10, z01, ez_bd_s, ez_bd_n, eq_self, true_or, or_true, if_true, if_false, zb_eq, zb_eq1, zb_em, zb_em2, ite_not, List.append_nil, List.cons_append, List.nil_append, reduceCtorEq, not_true_eq_false, not_false_eq_true, q_isIn, q_isMerchant, h1]
    repeat' split
    all_goals rfl
  · have h2 : md_in (z.1 2) 40 = true := h.resolve_left h1
    simp only [s116_0, s116_1, s116_2, s116_5, s116_8, s116_9, s116_10, s116_11, s116_14, s116_17, s116_18, s116_19, s116_22, s116_25, s116_28, s116_29, s116_32, s116_34, s116_37, s116_38, s116_39, s116_40, s116_43, s116_44, s116_47, s116_48, s116_49, s116_50, s116_53, s116_54, s116_57, s116_58, s116_59, s116_60, s116_63, s116_64, s116_67, s116_68, s116_69, s116_70, s116_71, s116_74, s116_75, s116_76, s116_79, s116_80, s116_83, s116_84, s116_85, zl_n, zl_i, zl_r, zl_0, z10, z01, ez_bd_s, ez_bd_n, eq_self, true_or, or_true, if_true, if_false, zb_eq, zb_eq1, zb_em, zb_em2, ite_not, List.append_nil, List.cons_append, List.nil_append, reduceCtorEq, not_true_eq_false, not_false_eq_true, q_isIn, q_isMerchant, h1, h2, md_A1, md_I1]
    repeat' split
    all_goals rfl
def pm_ship (z : md_S) (f r : Int32) : md_S × Int32 := if 0 ≤ f ∧ f ≤ z.1 4 - 1 then (if z.2 25 f.toNatClampNeg = 0 then (if 1 ≤ r ∧ r ≤ 500 then (if z.1 5 = 40 then (z, -1) else (md_sI (md_sA (md_sA z 28 (z.1 5).toNatClampNeg f) 29 (z.1 5).toNatClampNeg r) 5 (z.1 5 + 1), z.1 5 + 1 - 1)) else (z, -1)) else (z, -1)) else (z, -1)
theorem q_ship {f r : Int32} (h : z.1 5 = 40 ∨ md_in (z.1 5) 40 = true) (hf : 0 ≤ f ∧ f ≤ z.1 4 - 1 → md_in f 20 = true) : ez_ev g 130 [.ref m, .int f, .int r] (md_h h0 m z) = some (some (.int (pm_ship z f r).2), md_h h0 m (pm_ship z f r).1) := by
  rw [e130]
  unfold pm_ship
  by_cases h3 : 0 ≤ f ∧ f ≤ z.1 4 - 1
  · have h4 := hf h3
    by_cases h1 : z.1 5 = 40
    · simp only [s130_0, s130_1, s130_2, s130_5, s130_8, s130_9, s130_12, s130_13, s130_14, s130_17, s130_18, s130_19, s130_22, s130_25, s130_28, s130_29, s130_32, s130_34, s130_37, s130_38, s130_39, s130_40, s130_43, s130_44, s130_47, s130_48, s130_49, s130_50, s130_53, s130_54, s130_57, s130_58, s130_59, s130_60, s130_61, s130_64, s130_65, s130_66, s130_69, s130_70, s130_73, s130_74, s130_75, zl_n, zl_i, zl_r, zl_0, z10, z01, ez_bd_s, ez_bd_n, eq_self, true_or, or_true, if_true, if_false, zb_eq, zb_eq1, zb_em, zb_em2, ite_not, List.append_nil, List.cons_append, List.nil_append, reduceCtorEq, not_true_eq_false, not_false_eq_true, q_isIn, q_isFleet, h1, h4]
      simp only [if_pos h3]
      repeat' split
      all_goals rfl
    · have h2 : md_in (z.1 5) 40 = true := h.resolve_left h1
      simp only [s130_0, s130_1, s130_2, s130_5, s130_8, s130_9, s130_12, s130_13, s130_14, s130_17, s130_18, s130_19, s130_22, s130_25, s130_28, s130_29, s130_32, s130_34, s130_37, s130_38, s130_39, s130_40, s130_43, s130_44, s130_47, s130_48, s130_49, s130_50, s130_53, s130_54, s130_57, s130_58, s130_59, s130_60, s130_61, s130_64, s130_65, s130_66, s130_69, s130_70, s130_73, s130_74, s130_75, zl_n, zl_i, zl_r, zl_0, z10, z01, ez_bd_s, ez_bd_n, eq_self, true_or, or_true, if_true, if_false, zb_eq, zb_eq1, zb_em, zb_em2, ite_not, List.append_nil, List.cons_append, List.nil_append, reduceCtorEq, not_true_eq_false, not_false_eq_true, q_isIn, q_isFleet, h1, h2, h4, md_A1, md_I1]
      simp only [if_pos h3]
      repeat' split
      all_goals rfl
  · simp only [s130_0, s130_1, s130_2, s130_5, s130_8, s130_9, s130_12, s130_13, s130_14, s130_17, s130_18, s130_19, s130_22, s130_25, s130_28, s130_29, s130_32, s130_34, s130_37, s130_38, s130_39, s130_40, s130_43, s130_44, s130_47, s130_48, s130_49, s130_50, s130_53, s130_54, s130_57, s130_58, s130_59, s130_60, s130_61, s130_64, s130_65, s130_66, s130_69, s130_70, s130_73, s130_74, s130_75, zl_n, zl_i, zl_r, zl_0, z10, z01, ez_bd_s, ez_bd_n, eq_self, true_or, or_true, if_true, if_false, zb_eq, zb_eq1, zb_em, zb_em2, ite_not, List.append_nil, List.cons_append, List.nil_append, reduceCtorEq, not_true_eq_false, not_false_eq_true, q_isIn, q_isFleet]
    simp only [if_neg h3]
/-- sacks of loadings that are of a kind -/
def pl_in (z : md_S) (s : Int32) (j : Nat) : Int32 := if z.2 31 j = s then z.2 33 j else 0
theorem lp_sacksIn {n : Nat} {s : Int32} (hn : z.1 6 = nI n) (hn2 : n ≤ 200) : ∀ d j, j + d = n → ez_rn g 131 4 [some (.ref m), some (.int s), some (.int (l_sum (pl_in z s) j)), some (.int (nI j))] [] (md_h h0 m z) = some (some (.int (l_sum (pl_in z s) n)), md_h h0 m z) := by
  intro d
  induction d with
  | zero =>
    intro j hj
    obtain rfl : j = n := by omega
    rw [s131_4]
    simp only [s131_0, s131_1, s131_2, s131_3, s131_5, s131_6, s131_9, s131_12, s131_13, s131_14, s131_17, s131_18, s131_19, s131_20, s131_23, s131_24, s131_27, s131_28, s131_29, s131_32, s131_33, s131_34, s131_35, s131_38, s131_41, s131_42, zl_n, zl_i, zl_r, zl_0, z10, z01, ez_bd_s, ez_bd_n, eq_self, true_or, or_true, if_true, if_false, zb_eq, zb_eq1, zb_em, zb_em2, ite_not, List.append_nil, List.cons_append, List.nil_append, reduceCtorEq, not_true_eq_false, not_false_eq_true, hn, nI_leT (Nat.le_refl j) (by omega)]
  | succ d ih =>
    intro j hj
    have c1 : (nI j).toNatClampNeg = j := nI_clamp (by omega)
    have c2 : md_in (nI j) 200 = true := md_inN (by omega) (by omega)
    have hx := ih (j + 1) (by omega)
    rw [s131_4]
    simp only [s131_0, s131_1, s131_2, s131_3, s131_5, s131_6, s131_9, s131_12, s131_13, s131_14, s131_17, s131_18, s131_19, s131_20, s131_23, s131_24, s131_27, s131_28, s131_29, s131_32, s131_33, s131_34, s131_35, s131_38, s131_41, s131_42, zl_n, zl_i, zl_r, zl_0, z10, z01, ez_bd_s, ez_bd_n, eq_self, true_or, or_true, if_true, if_false, zb_eq, zb_eq1, zb_em, zb_em2, ite_not, List.append_nil, List.cons_append, List.nil_append, reduceCtorEq, not_true_eq_false, not_false_eq_true, hn, nI_nleI (show j < n by omega) (by omega), c1, c2, nI_1]
    rw [l_sum, pl_in] at hx
    split
    · next h1 => rw [if_pos h1] at hx; exact hx
    · next h1 => rw [if_neg h1] at hx; exact hx
theorem q_sacksIn {n : Nat} {s : Int32} (hn : z.1 6 = nI n) (hn2 : n ≤ 200) : ez_ev g 131 [.ref m, .int s] (md_h h0 m z) = some (some (.int (l_sum (pl_in z s) n)), md_h h0 m z) := by
  rw [e131, ← lp_sacksIn (g := g) (h0 := h0) (m := m) hn hn2 n 0 (by omega)]
  simp only [s131_0, s131_1, s131_2, s131_3, s131_5, s131_6, s131_9, s131_12, s131_13, s131_14, s131_17, s131_18, s131_19, s131_20, s131_23, s131_24, s131_27, s131_28, s131_29, s131_32, s131_33, s131_34, s131_35, s131_38, s131_41, s131_42, zl_n, zl_i, zl_r, zl_0, z10, z01, ez_bd_s, ez_bd_n, eq_self, true_or, or_true, if_true, if_false, zb_eq, zb_eq1, zb_em, zb_em2, ite_not, List.append_nil, List.cons_append, List.nil_append, reduceCtorEq, not_true_eq_false, not_false_eq_true, l_sum, nI_0]
def pl_ld (z : md_S) (l q : Int32) (j : Nat) : Int32 := if z.2 32 j = l then (if q = 0 then z.2 33 j else (if z.2 30 (z.2 31 j).toNatClampNeg = 0 then 0 else z.2 33 j)) else 0
theorem lp_loaded {n : Nat} {l q : Int32} (hn : z.1 6 = nI n) (hn2 : n ≤ 200) (hs : ∀ j, j < n → md_in (z.2 31 j) 40 = true) : ∀ d j, j + d = n → ez_rn g 124 5 [some (.ref m), some (.int l), some (.int q), some (.int (l_sum (pl_ld z l q) j)), some (.int (nI j))] [] (md_h h0 m z) = some (some (.int (l_sum (pl_ld z l q) n)), md_h h0 m z) := by
  intro d
  induction d with
  | zero =>
    intro j hj
    obtain rfl : j = n := by omega
    rw [s124_5]
    simp only [s124_0, s124_1, s124_2, s124_3, s124_7, s124_8, s124_11, s124_14, s124_15, s124_16, s124_19, s124_21, s124_22, s124_23, s124_26, s124_27, s124_30, s124_31, s124_34, s124_35, s124_38, s124_40, s124_41, s124_42, s124_45, s124_46, s124_49, s124_51, s124_52, s124_55, s124_56, s124_57, s124_58, s124_61, s124_64, s124_65, zl_n, zl_i, zl_r, zl_0, z10, z01, ez_bd_s, ez_bd_n, eq_self, true_or, or_true, if_true, if_false, zb_eq, zb_eq1, zb_em, zb_em2, ite_not, List.append_nil, List.cons_append, List.nil_append, reduceCtorEq, not_true_eq_false, not_false_eq_true, hn, nI_leT (Nat.le_refl j) (by omega)]
  | succ d ih =>
    intro j hj
    have c1 : (nI j).toNatClampNeg = j := nI_clamp (by omega)
    have c2 : md_in (nI j) 200 = true := md_inN (by omega) (by omega)
    have c3 := hs j (by omega)
    have hx := ih (j + 1) (by omega)
    rw [s124_5]
    simp only [s124_0, s124_1, s124_2, s124_3, s124_7, s124_8, s124_11, s124_14, s124_15, s124_16, s124_19, s124_21, s124_22, s124_23, s124_26, s124_27, s124_30, s124_31, s124_34, s124_35, s124_38, s124_40, s124_41, s124_42, s124_45, s124_46, s124_49, s124_51, s124_52, s124_55, s124_56, s124_57, s124_58, s124_61, s124_64, s124_65, zl_n, zl_i, zl_r, zl_0, z10, z01, ez_bd_s, ez_bd_n, eq_self, true_or, or_true, if_true, if_false, zb_eq, zb_eq1, zb_em, zb_em2, ite_not, List.append_nil, List.cons_append, List.nil_append, reduceCtorEq, not_true_eq_false, not_false_eq_true, hn, nI_nleI (show j < n by omega) (by omega), c1, c2, c3, nI_1]
    rw [l_sum, pl_ld] at hx
    split
    · next h1 =>
      rw [if_pos h1] at hx
      split
      · next h2 => rw [if_pos h2] at hx; exact hx
      · next h2 =>
        rw [if_neg h2] at hx
        split
        · next h3 => rw [if_pos h3] at hx; exact hx
        · next h3 => rw [if_neg h3] at hx; exact hx
    · next h1 => rw [if_neg h1] at hx; exact hx
theorem q_loaded {n : Nat} {l q : Int32} (hn : z.1 6 = nI n) (hn2 : n ≤ 200) (hs : ∀ j, j < n → md_in (z.2 31 j) 40 = true) : ez_ev g 124 [.ref m, .int l, .int q] (md_h h0 m z) = some (some (.int (l_sum (pl_ld z l q) n)), md_h h0 m z) := by
  rw [e124, ← lp_loaded (g := g) (h0 := h0) (m := m) hn hn2 hs n 0 (by omega)]
  simp only [s124_0, s124_1, s124_2, s124_3, s124_7, s124_8, s124_11, s124_14, s124_15, s124_16, s124_19, s124_21, s124_22, s124_23, s124_26, s124_27, s124_30, s124_31, s124_34, s124_35, s124_38, s124_40, s124_41, s124_42, s124_45, s124_46, s124_49, s124_51, s124_52, s124_55, s124_56, s124_57, s124_58, s124_61, s124_64, s124_65, zl_n, zl_i, zl_r, zl_0, z10, z01, ez_bd_s, ez_bd_n, eq_self, true_or, or_true, if_true, if_false, zb_eq, zb_eq1, zb_em, zb_em2, ite_not, List.append_nil, List.cons_append, List.nil_append, reduceCtorEq, not_true_eq_false, not_false_eq_true, l_sum, nI_0]
end M2
