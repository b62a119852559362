section M5
variable {g : ez_G} {h0 : ez_H} {m : Nat} {z : md_S}
theorem tg_d {x : Int32} {lo : Int} {ts : List Nat} {d : Nat} (hlo : lo = 0) (h : ∀ i, i < ts.length → x ≠ nI i) : ez_tgt x lo ts d = d := by
  subst hlo
  unfold ez_tgt
  split
  · rfl
  · next h1 =>
    rw [List.getD_eq_getElem?_getD]
    have h2 : ¬ x < 0 := by
      intro h3
      rw [Int32.lt_iff_toInt_lt] at h3
      exact h1 h3
    obtain ⟨j, hj, e⟩ := nI_of h2
    have h3 : ts.length ≤ (x.toInt - 0).toNat := by
      rw [e, nI_toInt hj]
      refine Nat.le_of_not_lt fun h4 => h j (by omega) e
    rw [List.getElem?_eq_none h3]
    rfl
theorem z64 {x : Int32} (h : ¬ x = 0) : ¬ x.toInt64 = 0 := by
  intro e
  apply h
  have := congrArg Int64.toInt32 e
  simpa using this
def pw (z : md_S) (k c : Int32) : Int32 := if k = 0 then c else if z.2 24 k.toNatClampNeg = 0 then 0 else (c.toInt64 * (z.2 23 k.toNatClampNeg).toInt64 / (z.2 24 k.toNatClampNeg).toInt64).toInt32
def pov (z : md_S) (l : Nat) (w : Int32) : Int32 := if 0 < z.2 20 l + w - z.2 17 l then z.2 20 l + w - z.2 17 l else 0
theorem pov_f {l : Nat} {w : Int32} : (if 0 < z.2 20 l + w - z.2 17 l then z.2 20 l + w - z.2 17 l else 0) = pov z l w := id rfl
def pm_pay (z : md_S) (l k c : Int32) : md_S × Int32 := if 0 ≤ l ∧ l ≤ z.1 3 - 1 then (if z.2 18 l.toNatClampNeg = 1 then (if 0 ≤ k ∧ k ≤ 3 then (if 1 ≤ c ∧ c ≤ 100000 then ((if z.2 20 l.toNatClampNeg + (pw z k c - pov z l.toNatClampNeg (pw z k c)) = z.2 17 l.toNatClampNeg then md_sA (md_sA z 20 l.toNatClampNeg (z.2 20 l.toNatClampNeg + (pw z k c - pov z l.toNatClampNeg (pw z k c)))) 18 l.toNatClampNeg 2 else md_sA z 20 l.toNatClampNeg (z.2 20 l.toNatClampNeg + (pw z k c - pov z l.toNatClampNeg (pw z k c)))), pov z l.toNatClampNeg (pw z k c)) else (z, -1)) else (z, -1)) else (z, -1)) else (z, -1)
theorem q_pay {l k c : Int32} (hl : 0 ≤ l ∧ l ≤ z.1 3 - 1 → md_in l 150 = true) (hk : 0 ≤ k ∧ k ≤ 3 → md_in k 4 = true) : ez_ev g 123 [.ref m, .int l, .int k, .int c] (md_h h0 m z) = some (some (.int (pm_pay z l k c).2), md_h h0 m (pm_pay z l k c).1) := by
  rw [e123]
  unfold pm_pay
  by_cases h1 : 0 ≤ l ∧ l ≤ z.1 3 - 1
  · have h2 := hl h1
    by_cases h3 : 0 ≤ k ∧ k ≤ 3
    · have h4 := hk h3
      unfold pw
      by_cases h5 : k = 0
      · simp only [s123_0, s123_1, s123_2, s123_5, s123_8, s123_9, s123_12, s123_13, s123_14, s123_15, s123_18, s123_19, s123_20, s123_21, s123_24, s123_27, s123_28, s123_29, s123_32, s123_35, s123_38, s123_39, s123_40, s123_41, s123_44, s123_45, s123_48, s123_49, s123_52, s123_53, s123_54, s123_57, s123_58, s123_61, s123_62, s123_63, s123_64, s123_67, s123_68, s123_69, s123_70, s123_71, s123_72, s123_75, s123_76, s123_77, s123_78, s123_79, s123_80, s123_82, s123_83, s123_84, s123_87, s123_88, s123_89, s123_91, s123_92, s123_93, s123_96, s123_97, s123_98, s123_99, s123_102, s123_104, s123_105, s123_108, s123_109, s123_110, s123_111, s123_113, s123_115, s123_116, s123_117, s123_118, s123_119, s123_122, s123_123, s123_124, s123_125, s123_128, s123_129, s123_130, s123_133, s123_134, s123_137, s123_138, s123_139, s123_140, s123_142, zl_n, zl_i, zl_r, zl_0, z10, z01, ez_bd_s, ez_bd_n, eq_self, true_or, or_true, if_true, if_false, zb_eq, zb_eq1, zb_em, zb_em2, ite_not, List.append_nil, List.cons_append, List.nil_append, reduceCtorEq, not_true_eq_false, not_false_eq_true, q_isLot, q_isIn, h2, h4, h5, md_A2, Nat.reduceEqDiff, pk_us, pov_f]
        simp only [if_pos h1, if_pos (show (0 : Int32) ≤ 0 ∧ (0 : Int32) ≤ 3 by decide)]
        repeat' split
        all_goals rfl
      · by_cases h6 : z.2 24 k.toNatClampNeg = 0
        · simp only [s123_0, s123_1, s123_2, s123_5, s123_8, s123_9, s123_12, s123_13, s123_14, s123_15, s123_18, s123_19, s123_20, s123_21, s123_24, s123_27, s123_28, s123_29, s123_32, s123_35, s123_38, s123_39, s123_40, s123_41, s123_44, s123_45, s123_48, s123_49, s123_52, s123_53, s123_54, s123_57, s123_58, s123_61, s123_62, s123_63, s123_64, s123_67, s123_68, s123_69, s123_70, s123_71, s123_72, s123_75, s123_76, s123_77, s123_78, s123_79, s123_80, s123_82, s123_83, s123_84, s123_87, s123_88, s123_89, s123_91, s123_92, s123_93, s123_96, s123_97, s123_98, s123_99, s123_102, s123_104, s123_105, s123_108, s123_109, s123_110, s123_111, s123_113, s123_115, s123_116, s123_117, s123_118, s123_119, s123_122, s123_123, s123_124, s123_125, s123_128, s123_129, s123_130, s123_133, s123_134, s123_137, s123_138, s123_139, s123_140, s123_142, zl_n, zl_i, zl_r, zl_0, z10, z01, ez_bd_s, ez_bd_n, eq_self, true_or, or_true, if_true, if_false, zb_eq, zb_eq1, zb_em, zb_em2, ite_not, List.append_nil, List.cons_append, List.nil_append, reduceCtorEq, not_true_eq_false, not_false_eq_true, q_isLot, q_isIn, h2, h4, h5, h6, md_A2, Nat.reduceEqDiff, pk_us, pov_f]
          simp only [if_pos h1, if_pos h3]
          repeat' split
          all_goals rfl
        · have h7 := z64 h6
          simp only [s123_0, s123_1, s123_2, s123_5, s123_8, s123_9, s123_12, s123_13, s123_14, s123_15, s123_18, s123_19, s123_20, s123_21, s123_24, s123_27, s123_28, s123_29, s123_32, s123_35, s123_38, s123_39, s123_40, s123_41, s123_44, s123_45, s123_48, s123_49, s123_52, s123_53, s123_54, s123_57, s123_58, s123_61, s123_62, s123_63, s123_64, s123_67, s123_68, s123_69, s123_70, s123_71, s123_72, s123_75, s123_76, s123_77, s123_78, s123_79, s123_80, s123_82, s123_83, s123_84, s123_87, s123_88, s123_89, s123_91, s123_92, s123_93, s123_96, s123_97, s123_98, s123_99, s123_102, s123_104, s123_105, s123_108, s123_109, s123_110, s123_111, s123_113, s123_115, s123_116, s123_117, s123_118, s123_119, s123_122, s123_123, s123_124, s123_125, s123_128, s123_129, s123_130, s123_133, s123_134, s123_137, s123_138, s123_139, s123_140, s123_142, zl_n, zl_i, zl_r, zl_0, z10, z01, ez_bd_s, ez_bd_n, eq_self, true_or, or_true, if_true, if_false, zb_eq, zb_eq1, zb_em, zb_em2, ite_not, List.append_nil, List.cons_append, List.nil_append, reduceCtorEq, not_true_eq_false, not_false_eq_true, q_isLot, q_isIn, h2, h4, h5, h6, h7, md_A2, Nat.reduceEqDiff, pk_us, pov_f]
          simp only [if_pos h1, if_pos h3]
          repeat' split
          all_goals rfl
    · simp only [s123_0, s123_1, s123_2, s123_5, s123_8, s123_9, s123_12, s123_13, s123_14, s123_15, s123_18, s123_19, s123_20, s123_21, s123_24, s123_27, s123_28, s123_29, s123_32, s123_35, s123_38, s123_39, s123_40, s123_41, s123_44, s123_45, s123_48, s123_49, s123_52, s123_53, s123_54, s123_57, s123_58, s123_61, s123_62, s123_63, s123_64, s123_67, s123_68, s123_69, s123_70, s123_71, s123_72, s123_75, s123_76, s123_77, s123_78, s123_79, s123_80, s123_82, s123_83, s123_84, s123_87, s123_88, s123_89, s123_91, s123_92, s123_93, s123_96, s123_97, s123_98, s123_99, s123_102, s123_104, s123_105, s123_108, s123_109, s123_110, s123_111, s123_113, s123_115, s123_116, s123_117, s123_118, s123_119, s123_122, s123_123, s123_124, s123_125, s123_128, s123_129, s123_130, s123_133, s123_134, s123_137, s123_138, s123_139, s123_140, s123_142, zl_n, zl_i, zl_r, zl_0, z10, z01, ez_bd_s, ez_bd_n, eq_self, true_or, or_true, if_true, if_false, zb_eq, zb_eq1, zb_em, zb_em2, ite_not, List.append_nil, List.cons_append, List.nil_append, reduceCtorEq, not_true_eq_false, not_false_eq_true, q_isLot, q_isIn, h2]
      simp only [if_pos h1, if_neg h3]
      split <;> rfl
  · simp only [s123_0, s123_1, s123_2, s123_5, s123_8, s123_9, s123_12, s123_13, s123_14, s123_15, s123_18, s123_19, s123_20, s123_21, s123_24, s123_27, s123_28, s123_29, s123_32, s123_35, s123_38, s123_39, s123_40, s123_41, s123_44, s123_45, s123_48, s123_49, s123_52, s123_53, s123_54, s123_57, s123_58, s123_61, s123_62, s123_63, s123_64, s123_67, s123_68, s123_69, s123_70, s123_71, s123_72, s123_75, s123_76, s123_77, s123_78, s123_79, s123_80, s123_82, s123_83, s123_84, s123_87, s123_88, s123_89, s123_91, s123_92, s123_93, s123_96, s123_97, s123_98, s123_99, s123_102, s123_104, s123_105, s123_108, s123_109, s123_110, s123_111, s123_113, s123_115, s123_116, s123_117, s123_118, s123_119, s123_122, s123_123, s123_124, s123_125, s123_128, s123_129, s123_130, s123_133, s123_134, s123_137, s123_138, s123_139, s123_140, s123_142, zl_n, zl_i, zl_r, zl_0, z10, z01, ez_bd_s, ez_bd_n, eq_self, true_or, or_true, if_true, if_false, zb_eq, zb_eq1, zb_em, zb_em2, ite_not, List.append_nil, List.cons_append, List.nil_append, reduceCtorEq, not_true_eq_false, not_false_eq_true, q_isLot, q_isIn]
    simp only [if_neg h1]
def pone (b : Int32) : Int32 := if b = 0 then 0 else 1
def pm_lot (z : md_S) (l w : Int32) : Int32 := if 0 ≤ l ∧ l ≤ z.1 3 - 1 then (if w = 0 then z.2 12 l.toNatClampNeg else if w = 1 then z.2 13 l.toNatClampNeg else if w = 2 then z.2 14 l.toNatClampNeg else if w = 3 then z.2 15 l.toNatClampNeg else if w = 4 then z.2 16 l.toNatClampNeg else if w = 5 then pone (z.2 22 l.toNatClampNeg) else if w = 6 then (if z.2 21 l.toNatClampNeg = -1 then 0 else 1) else if w = 7 then z.2 17 l.toNatClampNeg else if w = 8 then z.2 18 l.toNatClampNeg else if w = 9 then z.2 19 l.toNatClampNeg else if w = 10 then z.2 20 l.toNatClampNeg else if w = 11 then (if z.2 18 l.toNatClampNeg = 1 ∧ z.2 19 l.toNatClampNeg < z.1 0 then 1 else 0) else if w = 12 then l_sum (pl_ld z l 0) (z.1 6).toNatClampNeg else if w = 13 then l_sum (pl_ld z l 1) (z.1 6).toNatClampNeg else if w = 14 then z.2 21 l.toNatClampNeg else -1) else -1
/-- the loadings are well -/
def md_lds (z : md_S) : Prop := md_in (z.1 6) 201 = true ∧ ∀ j, j < (z.1 6).toNatClampNeg → md_in (z.2 31 j) 40 = true
theorem q_loaded' {l q : Int32} (h : md_lds z) : ez_ev g 124 [.ref m, .int l, .int q] (md_h h0 m z) = some (some (.int (l_sum (pl_ld z l q) (z.1 6).toNatClampNeg)), md_h h0 m z) := by
  obtain ⟨e, h2⟩ := md_inE h.1
  exact q_loaded e (by omega) h.2
theorem q_sacksIn' {s : Int32} (h : md_in (z.1 6) 201 = true) : ez_ev g 131 [.ref m, .int s] (md_h h0 m z) = some (some (.int (l_sum (pl_in z s) (z.1 6).toNatClampNeg)), md_h h0 m z) := by
  obtain ⟨e, h2⟩ := md_inE h
  exact q_sacksIn e (by omega)
theorem zio {c : Prop} {i : Decidable c} : (if (@ite _ c i (1 : Int32) 0) = 0 then (0 : Int32) else 1) = @ite _ c i 1 0 := by
  by_cases h : c
  · simp [h]
  · simp [h]
theorem q_lot {l w : Int32} (h : md_lds z) (hl : 0 ≤ l ∧ l ≤ z.1 3 - 1 → md_in l 150 = true) : ez_ev g 127 [.ref m, .int l, .int w] (md_h h0 m z) = some (some (.int (pm_lot z l w)), md_h h0 m z) := by
  rw [e127]
  unfold pm_lot
  by_cases h1 : 0 ≤ l ∧ l ≤ z.1 3 - 1
  · have h2 := hl h1
    have q1 := fun q => q_loaded' (g := g) (h0 := h0) (m := m) (l := l) (q := q) h
    have q2 := q_isLate (g := g) (h0 := h0) (m := m) (z := z) h2
    rw [if_pos h1]
    simp only [s127_0, s127_1, s127_2, s127_5, s127_8, s127_9, s127_10, s127_84, s127_85, s127_88, s127_89, s127_90, s127_91, s127_92, s127_95, s127_96, s127_97, s127_98, s127_99, s127_102, s127_103, s127_104, s127_105, s127_106, s127_109, s127_110, s127_111, s127_112, s127_113, s127_116, s127_117, s127_118, s127_119, s127_120, s127_123, s127_124, s127_125, s127_128, s127_129, s127_130, s127_133, s127_134, s127_135, s127_136, s127_139, s127_140, s127_143, s127_144, s127_147, s127_148, s127_149, s127_152, s127_153, s127_154, s127_155, s127_156, s127_159, s127_160, s127_161, s127_162, s127_163, s127_166, s127_167, s127_168, s127_169, s127_170, s127_173, s127_174, s127_175, s127_176, s127_177, s127_178, s127_181, s127_184, s127_185, s127_186, s127_187, s127_188, s127_191, s127_192, s127_193, s127_194, s127_195, s127_198, s127_199, s127_200, s127_203, s127_204, s127_205, s127_206, s127_207, zl_n, zl_i, zl_r, zl_0, z10, z01, ez_bd_s, ez_bd_n, eq_self, true_or, or_true, if_true, if_false, zb_eq, zb_eq1, zb_em, zb_em2, ite_not, List.append_nil, List.cons_append, List.nil_append, reduceCtorEq, not_true_eq_false, not_false_eq_true, q_isLot, h1, and_self]
    rw [s127_11]
    by_cases w0 : w = 0
    · subst w0
      rw [(show ez_tgt 0 0 [84, 91, 98, 105, 112, 119, 129, 148, 155, 162, 169, 176, 185, 192, 199] 206 = 84 by decide +kernel), if_pos rfl]
      simp only [s127_0, s127_1, s127_2, s127_5, s127_8, s127_9, s127_10, s127_84, s127_85, s127_88, s127_89, s127_90, s127_91, s127_92, s127_95, s127_96, s127_97, s127_98, s127_99, s127_102, s127_103, s127_104, s127_105, s127_106, s127_109, s127_110, s127_111, s127_112, s127_113, s127_116, s127_117, s127_118, s127_119, s127_120, s127_123, s127_124, s127_125, s127_128, s127_129, s127_130, s127_133, s127_134, s127_135, s127_136, s127_139, s127_140, s127_143, s127_144, s127_147, s127_148, s127_149, s127_152, s127_153, s127_154, s127_155, s127_156, s127_159, s127_160, s127_161, s127_162, s127_163, s127_166, s127_167, s127_168, s127_169, s127_170, s127_173, s127_174, s127_175, s127_176, s127_177, s127_178, s127_181, s127_184, s127_185, s127_186, s127_187, s127_188, s127_191, s127_192, s127_193, s127_194, s127_195, s127_198, s127_199, s127_200, s127_203, s127_204, s127_205, s127_206, s127_207, zl_n, zl_i, zl_r, zl_0, z10, z01, ez_bd_s, ez_bd_n, eq_self, true_or, or_true, if_true, if_false, zb_eq, zb_eq1, zb_em, zb_em2, ite_not, List.append_nil, List.cons_append, List.nil_append, reduceCtorEq, not_true_eq_false, not_false_eq_true, h2, q1, q2, q_one, zio]
    rw [if_neg w0]
    by_cases w1 : w = 1
    · subst w1
      rw [(show ez_tgt 1 0 [84, 91, 98, 105, 112, 119, 129, 148, 155, 162, 169, 176, 185, 192, 199] 206 = 91 by decide +kernel), if_pos rfl]
      simp only [s127_0, s127_1, s127_2, s127_5, s127_8, s127_9, s127_10, s127_84, s127_85, s127_88, s127_89, s127_90, s127_91, s127_92, s127_95, s127_96, s127_97, s127_98, s127_99, s127_102, s127_103, s127_104, s127_105, s127_106, s127_109, s127_110, s127_111, s127_112, s127_113, s127_116, s127_117, s127_118, s127_119, s127_120, s127_123, s127_124, s127_125, s127_128, s127_129, s127_130, s127_133, s127_134, s127_135, s127_136, s127_139, s127_140, s127_143, s127_144, s127_147, s127_148, s127_149, s127_152, s127_153, s127_154, s127_155, s127_156, s127_159, s127_160, s127_161, s127_162, s127_163, s127_166, s127_167, s127_168, s127_169, s127_170, s127_173, s127_174, s127_175, s127_176, s127_177, s127_178, s127_181, s127_184, s127_185, s127_186, s127_187, s127_188, s127_191, s127_192, s127_193, s127_194, s127_195, s127_198, s127_199, s127_200, s127_203, s127_204, s127_205, s127_206, s127_207, zl_n, zl_i, zl_r, zl_0, z10, z01, ez_bd_s, ez_bd_n, eq_self, true_or, or_true, if_true, if_false, zb_eq, zb_eq1, zb_em, zb_em2, ite_not, List.append_nil, List.cons_append, List.nil_append, reduceCtorEq, not_true_eq_false, not_false_eq_true, h2, q1, q2, q_one, zio]
    rw [if_neg w1]
    by_cases w2 : w = 2
    · subst w2
      rw [(show ez_tgt 2 0 [84, 91, 98, 105, 112, 119, 129, 148, 155, 162, 169, 176, 185, 192, 199] 206 = 98 by decide +kernel), if_pos rfl]
      simp only [s127_0, s127_1, s127_2, s127_5, s127_8, s127_9, s127_10, s127_84, s127_85, s127_88, s127_89, s127_90, s127_91, s127_92, s127_95, s127_96, s127_97, s127_98, s127_99, s127_102, s127_103, s127_104, s127_105, s127_106, s127_109, s127_110, s127_111, s127_112, s127_113, s127_116, s127_117, s127_118, s127_119, s127_120, s127_123, s127_124, s127_125, s127_128, s127_129, s127_130, s127_133, s127_134, s127_135, s127_136, s127_139, s127_140, s127_143, s127_144, s127_147, s127_148, s127_149, s127_152, s127_153, s127_154, s127_155, s127_156, s127_159, s127_160, s127_161, s127_162, s127_163, s127_166, s127_167, s127_168, s127_169, s127_170, s127_173, s127_174, s127_175, s127_176, s127_177, s127_178, s127_181, s127_184, s127_185, s127_186, s127_187, s127_188, s127_191, s127_192, s127_193, s127_194, s127_195, s127_198, s127_199, s127_200, s127_203, s127_204, s127_205, s127_206, s127_207, zl_n, zl_i, zl_r, zl_0, z10, z01, ez_bd_s, ez_bd_n, eq_self, true_or, or_true, if_true, if_false, zb_eq, zb_eq1, zb_em, zb_em2, ite_not, List.append_nil, List.cons_append, List.nil_append, reduceCtorEq, not_true_eq_false, not_false_eq_true, h2, q1, q2, q_one, zio]
    rw [if_neg w2]
    by_cases w3 : w = 3
    · subst w3
      rw [(show ez_tgt 3 0 [84, 91, 98, 105, 112, 119, 129, 148, 155, 162, 169, 176, 185, 192, 199] 206 = 105 by decide +kernel), if_pos rfl]
      simp only [s127_0, s127_1, s127_2, s127_5, s127_8, s127_9, s127_10, s127_84, s127_85, s127_88, s127_89, s127_90, s127_91, s127_92, s127_95, s127_96, s127_97, s127_98, s127_99, s127_102, s127_103, s127_104, s127_105, s127_106, s127_109, s127_110, s127_111, s127_112, s127_113, s127_116, s127_117, s127_118, s127_119, s127_120, s127_123, s127_124, s127_125, s127_128, s127_129, s127_130, s127_133, s127_134, s127_135, s127_136, s127_139, s127_140, s127_143, s127_144, s127_147, s127_148, s127_149, s127_152, s127_153, s127_154, s127_155, s127_156, s127_159, s127_160, s127_161, s127_162, s127_163, s127_166, s127_167, s127_168, s127_169, s127_170, s127_173, s127_174, s127_175, s127_176, s127_177, s127_178, s127_181, s127_184, s127_185, s127_186, s127_187, s127_188, s127_191, s127_192, s127_193, s127_194, s127_195, s127_198, s127_199, s127_200, s127_203, s127_204, s127_205, s127_206, s127_207, zl_n, zl_i, zl_r, zl_0, z10, z01, ez_bd_s, ez_bd_n, eq_self, true_or, or_true, if_true, if_false, zb_eq, zb_eq1, zb_em, zb_em2, ite_not, List.append_nil, List.cons_append, List.nil_append, reduceCtorEq, not_true_eq_false, not_false_eq_true, h2, q1, q2, q_one, zio]
    rw [if_neg w3]
    by_cases w4 : w = 4
    · subst w4
      rw [(show ez_tgt 4 0 [84, 91, 98, 105, 112, 119, 129, 148, 155, 162, 169, 176, 185, 192, 199] 206 = 112 by decide +kernel), if_pos rfl]
      simp only [s127_0, s127_1, s127_2, s127_5, s127_8, s127_9, s127_10, s127_84, s127_85, s127_88, s127_89, s127_90, s127_91, s127_92, s127_95, s127_96, s127_97, s127_98, s127_99, s127_102, s127_103, s127_104, s127_105, s127_106, s127_109, s127_110, s127_111, s127_112, s127_113, s127_116, s127_117, s127_118, s127_119, s127_120, s127_123, s127_124, s127_125, s127_128, s127_129, s127_130, s127_133, s127_134, s127_135, s127_136, s127_139, s127_140, s127_143, s127_144, s127_147, s127_148, s127_149, s127_152, s127_153, s127_154, s127_155, s127_156, s127_159, s127_160, s127_161, s127_162, s127_163, s127_166, s127_167, s127_168, s127_169, s127_170, s127_173, s127_174, s127_175, s127_176, s127_177, s127_178, s127_181, s127_184, s127_185, s127_186, s127_187, s127_188, s127_191, s127_192, s127_193, s127_194, s127_195, s127_198, s127_199, s127_200, s127_203, s127_204, s127_205, s127_206, s127_207, zl_n, zl_i, zl_r, zl_0, z10, z01, ez_bd_s, ez_bd_n, eq_self, true_or, or_true, if_true, if_false, zb_eq, zb_eq1, zb_em, zb_em2, ite_not, List.append_nil, List.cons_append, List.nil_append, reduceCtorEq, not_true_eq_false, not_false_eq_true, h2, q1, q2, q_one, zio]
    rw [if_neg w4]
    by_cases w5 : w = 5
    · subst w5
      rw [(show ez_tgt 5 0 [84, 91, 98, 105, 112, 119, 129, 148, 155, 162, 169, 176, 185, 192, 199] 206 = 119 by decide +kernel), if_pos rfl]
      simp only [s127_0, s127_1, s127_2, s127_5, s127_8, s127_9, s127_10, s127_84, s127_85, s127_88, s127_89, s127_90, s127_91, s127_92, s127_95, s127_96, s127_97, s127_98, s127_99, s127_102, s127_103, s127_104, s127_105, s127_106, s127_109, s127_110, s127_111, s127_112, s127_113, s127_116, s127_117, s127_118, s127_119, s127_120, s127_123, s127_124, s127_125, s127_128, s127_129, s127_130, s127_133, s127_134, s127_135, s127_136, s127_139, s127_140, s127_143, s127_144, s127_147, s127_148, s127_149, s127_152, s127_153, s127_154, s127_155, s127_156, s127_159, s127_160, s127_161, s127_162, s127_163, s127_166, s127_167, s127_168, s127_169, s127_170, s127_173, s127_174, s127_175, s127_176, s127_177, s127_178, s127_181, s127_184, s127_185, s127_186, s127_187, s127_188, s127_191, s127_192, s127_193, s127_194, s127_195, s127_198, s127_199, s127_200, s127_203, s127_204, s127_205, s127_206, s127_207, zl_n, zl_i, zl_r, zl_0, z10, z01, ez_bd_s, ez_bd_n, eq_self, true_or, or_true, if_true, if_false, zb_eq, zb_eq1, zb_em, zb_em2, ite_not, List.append_nil, List.cons_append, List.nil_append, reduceCtorEq, not_true_eq_false, not_false_eq_true, h2, q1, q2, q_one, zio]
      first | rfl | (split <;> rfl)
    rw [if_neg w5]
    by_cases w6 : w = 6
    · subst w6
      rw [(show ez_tgt 6 0 [84, 91, 98, 105, 112, 119, 129, 148, 155, 162, 169, 176, 185, 192, 199] 206 = 129 by decide +kernel), if_pos rfl]
      simp only [s127_0, s127_1, s127_2, s127_5, s127_8, s127_9, s127_10, s127_84, s127_85, s127_88, s127_89, s127_90, s127_91, s127_92, s127_95, s127_96, s127_97, s127_98, s127_99, s127_102, s127_103, s127_104, s127_105, s127_106, s127_109, s127_110, s127_111, s127_112, s127_113, s127_116, s127_117, s127_118, s127_119, s127_120, s127_123, s127_124, s127_125, s127_128, s127_129, s127_130, s127_133, s127_134, s127_135, s127_136, s127_139, s127_140, s127_143, s127_144, s127_147, s127_148, s127_149, s127_152, s127_153, s127_154, s127_155, s127_156, s127_159, s127_160, s127_161, s127_162, s127_163, s127_166, s127_167, s127_168, s127_169, s127_170, s127_173, s127_174, s127_175, s127_176, s127_177, s127_178, s127_181, s127_184, s127_185, s127_186, s127_187, s127_188, s127_191, s127_192, s127_193, s127_194, s127_195, s127_198, s127_199, s127_200, s127_203, s127_204, s127_205, s127_206, s127_207, zl_n, zl_i, zl_r, zl_0, z10, z01, ez_bd_s, ez_bd_n, eq_self, true_or, or_true, if_true, if_false, zb_eq, zb_eq1, zb_em, zb_em2, ite_not, List.append_nil, List.cons_append, List.nil_append, reduceCtorEq, not_true_eq_false, not_false_eq_true, h2, q1, q2, q_one, zio]
      first | rfl | (split <;> rfl)
    rw [if_neg w6]
    by_cases w7 : w = 7
    · subst w7
      rw [(show ez_tgt 7 0 [84, 91, 98, 105, 112, 119, 129, 148, 155, 162, 169, 176, 185, 192, 199] 206 = 148 by decide +kernel), if_pos rfl]
      simp only [s127_0, s127_1, s127_2, s127_5, s127_8, s127_9, s127_10, s127_84, s127_85, s127_88, s127_89, s127_90, s127_91, s127_92, s127_95, s127_96, s127_97, s127_98, s127_99, s127_102, s127_103, s127_104, s127_105, s127_106, s127_109, s127_110, s127_111, s127_112, s127_113, s127_116, s127_117, s127_118, s127_119, s127_120, s127_123, s127_124, s127_125, s127_128, s127_129, s127_130, s127_133, s127_134, s127_135, s127_136, s127_139, s127_140, s127_143, s127_144, s127_147, s127_148, s127_149, s127_152, s127_153, s127_154, s127_155, s127_156, s127_159, s127_160, s127_161, s127_162, s127_163, s127_166, s127_167, s127_168, s127_169, s127_170, s127_173, s127_174, s127_175, s127_176, s127_177, s127_178, s127_181, s127_184, s127_185, s127_186, s127_187, s127_188, s127_191, s127_192, s127_193, s127_194, s127_195, s127_198, s127_199, s127_200, s127_203, s127_204, s127_205, s127_206, s127_207, zl_n, zl_i, zl_r, zl_0, z10, z01, ez_bd_s, ez_bd_n, eq_self, true_or, or_true, if_true, if_false, zb_eq, zb_eq1, zb_em, zb_em2, ite_not, List.append_nil, List.cons_append, List.nil_append, reduceCtorEq, not_true_eq_false, not_false_eq_true, h2, q1, q2, q_one, zio]
    rw [if_neg w7]
    by_cases w8 : w = 8
    · subst w8
      rw [(show ez_tgt 8 0 [84, 91, 98, 105, 112, 119, 129, 148, 155, 162, 169, 176, 185, 192, 199] 206 = 155 by decide +kernel), if_pos rfl]
      simp only [s127_0, s127_1, s127_2, s127_5, s127_8, s127_9, s127_10, s127_84, s127_85, s127_88, s127_89, s127_90, s127_91, s127_92, s127_95, s127_96, s127_97, s127_98, s127_99, s127_102, s127_103, s127_104, s127_105, s127_106, s127_109, s127_110, s127_111, s127_112, s127_113, s127_116, s127_117, s127_118, s127_119, s127_120, s127_123, s127_124, s127_125, s127_128, s127_129, s127_130, s127_133, s127_134, s127_135, s127_136, s127_139, s127_140, s127_143, s127_144, s127_147, s127_148, s127_149, s127_152, s127_153, s127_154, s127_155, s127_156, s127_159, s127_160, s127_161, s127_162, s127_163, s127_166, s127_167, s127_168, s127_169, s127_170, s127_173, s127_174, s127_175, s127_176, s127_177, s127_178, s127_181, s127_184, s127_185, s127_186, s127_187, s127_188, s127_191, s127_192, s127_193, s127_194, s127_195, s127_198, s127_199, s127_200, s127_203, s127_204, s127_205, s127_206, s127_207, zl_n, zl_i, zl_r, zl_0, z10, z01, ez_bd_s, ez_bd_n, eq_self, true_or, or_true, if_true, if_false, zb_eq, zb_eq1, zb_em, zb_em2, ite_not, List.append_nil, List.cons_append, List.nil_append, reduceCtorEq, not_true_eq_false, not_false_eq_true, h2, q1, q2, q_one, zio]
    rw [if_neg w8]
    by_cases w9 : w = 9
    · subst w9
      rw [(show ez_tgt 9 0 [84, 91, 98, 105, 112, 119, 129, 148, 155, 162, 169, 176, 185, 192, 199] 206 = 162 by decide +kernel), if_pos rfl]
      simp only [s127_0, s127_1, s127_2, s127_5, s127_8, s127_9, s127_10, s127_84, s127_85, s127_88, s127_89, s127_90, s127_91, s127_92, s127_95, s127_96, s127_97, s127_98, s127_99, s127_102, s127_103, s127_104, s127_105, s127_106, s127_109, s127_110, s127_111, s127_112, s127_113, s127_116, s127_117, s127_118, s127_119, s127_120, s127_123, s127_124, s127_125, s127_128, s127_129, s127_130, s127_133, s127_134, s127_135, s127_136, s127_139, s127_140, s127_143, s127_144, s127_147, s127_148, s127_149, s127_152, s127_153, s127_154, s127_155, s127_156, s127_159, s127_160, s127_161, s127_162, s127_163, s127_166, s127_167, s127_168, s127_169, s127_170, s127_173, s127_174, s127_175, s127_176, s127_177, s127_178, s127_181, s127_184, s127_185, s127_186, s127_187, s127_188, s127_191, s127_192, s127_193, s127_194, s127_195, s127_198, s127_199, s127_200, s127_203, s127_204, s127_205, s127_206, s127_207, zl_n, zl_i, zl_r, zl_0, z10, z01, ez_bd_s, ez_bd_n, eq_self, true_or, or_true, if_true, if_false, zb_eq, zb_eq1, zb_em, zb_em2, ite_not, List.append_nil, List.cons_append, List.nil_append, reduceCtorEq, not_true_eq_false, not_false_eq_true, h2, q1, q2, q_one, zio]
    rw [if_neg w9]
    by_cases w10 : w = 10
    · subst w10
      rw [(show ez_tgt 10 0 [84, 91, 98, 105, 112, 119, 129, 148, 155, 162, 169, 176, 185, 192, 199] 206 = 169 by decide +kernel), if_pos rfl]
      simp only [s127_0, s127_1, s127_2, s127_5, s127_8, s127_9, s127_10, s127_84, s127_85, s127_88, s127_89, s127_90, s127_91, s127_92, s127_95, s127_96, s127_97, s127_98, s127_99, s127_102, s127_103, s127_104, s127_105, s127_106, s127_109, s127_110, s127_111, s127_112, s127_113, s127_116, s127_117, s127_118, s127_119, s127_120, s127_123, s127_124, s127_125, s127_128, s127_129, s127_130, s127_133, s127_134, s127_135, s127_136, s127_139, s127_140, s127_143, s127_144, s127_147, s127_148, s127_149, s127_152, s127_153, s127_154, s127_155, s127_156, s127_159, s127_160, s127_161, s127_162, s127_163, s127_166, s127_167, s127_168, s127_169, s127_170, s127_173, s127_174, s127_175, s127_176, s127_177, s127_178, s127_181, s127_184, s127_185, s127_186, s127_187, s127_188, s127_191, s127_192, s127_193, s127_194, s127_195, s127_198, s127_199, s127_200, s127_203, s127_204, s127_205, s127_206, s127_207, zl_n, zl_i, zl_r, zl_0, z10, z01, ez_bd_s, ez_bd_n, eq_self, true_or, or_true, if_true, if_false, zb_eq, zb_eq1, zb_em, zb_em2, ite_not, List.append_nil, List.cons_append, List.nil_append, reduceCtorEq, not_true_eq_false, not_false_eq_true, h2, q1, q2, q_one, zio]
    rw [if_neg w10]
    by_cases w11 : w = 11
    · subst w11
      rw [(show ez_tgt 11 0 [84, 91, 98, 105, 112, 119, 129, 148, 155, 162, 169, 176, 185, 192, 199] 206 = 176 by decide +kernel), if_pos rfl]
      simp only [s127_0, s127_1, s127_2, s127_5, s127_8, s127_9, s127_10, s127_84, s127_85, s127_88, s127_89, s127_90, s127_91, s127_92, s127_95, s127_96, s127_97, s127_98, s127_99, s127_102, s127_103, s127_104, s127_105, s127_106, s127_109, s127_110, s127_111, s127_112, s127_113, s127_116, s127_117, s127_118, s127_119, s127_120, s127_123, s127_124, s127_125, s127_128, s127_129, s127_130, s127_133, s127_134, s127_135, s127_136, s127_139, s127_140, s127_143, s127_144, s127_147, s127_148, s127_149, s127_152, s127_153, s127_154, s127_155, s127_156, s127_159, s127_160, s127_161, s127_162, s127_163, s127_166, s127_167, s127_168, s127_169, s127_170, s127_173, s127_174, s127_175, s127_176, s127_177, s127_178, s127_181, s127_184, s127_185, s127_186, s127_187, s127_188, s127_191, s127_192, s127_193, s127_194, s127_195, s127_198, s127_199, s127_200, s127_203, s127_204, s127_205, s127_206, s127_207, zl_n, zl_i, zl_r, zl_0, z10, z01, ez_bd_s, ez_bd_n, eq_self, true_or, or_true, if_true, if_false, zb_eq, zb_eq1, zb_em, zb_em2, ite_not, List.append_nil, List.cons_append, List.nil_append, reduceCtorEq, not_true_eq_false, not_false_eq_true, h2, q1, q2, q_one, zio]
    rw [if_neg w11]
    by_cases w12 : w = 12
    · subst w12
      rw [(show ez_tgt 12 0 [84, 91, 98, 105, 112, 119, 129, 148, 155, 162, 169, 176, 185, 192, 199] 206 = 185 by decide +kernel), if_pos rfl]
      simp only [s127_0, s127_1, s127_2, s127_5, s127_8, s127_9, s127_10, s127_84, s127_85, s127_88, s127_89, s127_90, s127_91, s127_92, s127_95, s127_96, s127_97, s127_98, s127_99, s127_102, s127_103, s127_104, s127_105, s127_106, s127_109, s127_110, s127_111, s127_112, s127_113, s127_116, s127_117, s127_118, s127_119, s127_120, s127_123, s127_124, s127_125, s127_128, s127_129, s127_130, s127_133, s127_134, s127_135, s127_136, s127_139, s127_140, s127_143, s127_144, s127_147, s127_148, s127_149, s127_152, s127_153, s127_154, s127_155, s127_156, s127_159, s127_160, s127_161, s127_162, s127_163, s127_166, s127_167, s127_168, s127_169, s127_170, s127_173, s127_174, s127_175, s127_176, s127_177, s127_178, s127_181, s127_184, s127_185, s127_186, s127_187, s127_188, s127_191, s127_192, s127_193, s127_194, s127_195, s127_198, s127_199, s127_200, s127_203, s127_204, s127_205, s127_206, s127_207, zl_n, zl_i, zl_r, zl_0, z10, z01, ez_bd_s, ez_bd_n, eq_self, true_or, or_true, if_true, if_false, zb_eq, zb_eq1, zb_em, zb_em2, ite_not, List.append_nil, List.cons_append, List.nil_append, reduceCtorEq, not_true_eq_false, not_false_eq_true, h2, q1, q2, q_one, zio]
    rw [if_neg w12]
    by_cases w13 : w = 13
    · subst w13
      rw [(show ez_tgt 13 0 [84, 91, 98, 105, 112, 119, 129, 148, 155, 162, 169, 176, 185, 192, 199] 206 = 192 by decide +kernel), if_pos rfl]
      simp only [s127_0, s127_1, s127_2, s127_5, s127_8, s127_9, s127_10, s127_84, s127_85, s127_88, s127_89, s127_90, s127_91, s127_92, s127_95, s127_96, s127_97, s127_98, s127_99, s127_102, s127_103, s127_104, s127_105, s127_106, s127_109, s127_110, s127_111, s127_112, s127_113, s127_116, s127_117, s127_118, s127_119, s127_120, s127_123, s127_124, s127_125, s127_128, s127_129, s127_130, s127_133, s127_134, s127_135, s127_136, s127_139, s127_140, s127_143, s127_144, s127_147, s127_148, s127_149, s127_152, s127_153, s127_154, s127_155, s127_156, s127_159, s127_160, s127_161, s127_162, s127_163, s127_166, s127_167, s127_168, s127_169, s127_170, s127_173, s127_174, s127_175, s127_176, s127_177, s127_178, s127_181, s127_184, s127_185, s127_186, s127_187, s127_188, s127_191, s127_192, s127_193, s127_194, s127_195, s127_198, s127_199, s127_200, s127_203, s127_204, s127_205, s127_206, s127_207, zl_n, zl_i, zl_r, zl_0, z10, z01, ez_bd_s, ez_bd_n, eq_self, true_or, or_true, if_true, if_false, zb_eq, zb_eq1, zb_em, zb_em2, ite_not, List.append_nil, List.cons_append, List.nil_append, reduceCtorEq, not_true_eq_false, not_false_eq_true, h2, q1, q2, q_one, zio]
    rw [if_neg w13]
    by_cases w14 : w = 14
    · subst w14
      rw [(show ez_tgt 14 0 [84, 91, 98, 105, 112, 119, 129, 148, 155, 162, 169, 176, 185, 192, 199] 206 = 199 by decide +kernel), if_pos rfl]
      simp only [s127_0, s127_1, s127_2, s127_5, s127_8, s127_9, s127_10, s127_84, s127_85, s127_88, s127_89, s127_90, s127_91, s127_92, s127_95, s127_96, s127_97, s127_98, s127_99, s127_102, s127_103, s127_104, s127_105, s127_106, s127_109, s127_110, s127_111, s127_112, s127_113, s127_116, s127_117, s127_118, s127_119, s127_120, s127_123, s127_124, s127_125, s127_128, s127_129, s127_130, s127_133, s127_134, s127_135, s127_136, s127_139, s127_140, s127_143, s127_144, s127_147, s127_148, s127_149, s127_152, s127_153, s127_154, s127_155, s127_156, s127_159, s127_160, s127_161, s127_162, s127_163, s127_166, s127_167, s127_168, s127_169, s127_170, s127_173, s127_174, s127_175, s127_176, s127_177, s127_178, s127_181, s127_184, s127_185, s127_186, s127_187, s127_188, s127_191, s127_192, s127_193, s127_194, s127_195, s127_198, s127_199, s127_200, s127_203, s127_204, s127_205, s127_206, s127_207, zl_n, zl_i, zl_r, zl_0, z10, z01, ez_bd_s, ez_bd_n, eq_self, true_or, or_true, if_true, if_false, zb_eq, zb_eq1, zb_em, zb_em2, ite_not, List.append_nil, List.cons_append, List.nil_append, reduceCtorEq, not_true_eq_false, not_false_eq_true, h2, q1, q2, q_one, zio]
    rw [if_neg w14]
    have hd : ∀ i, i < 15 → w ≠ nI i := by
      intro i hi
      have : i = 0 ∨ i = 1 ∨ i = 2 ∨ i = 3 ∨ i = 4 ∨ i = 5 ∨ i = 6 ∨ i = 7 ∨ i = 8 ∨ i = 9 ∨ i = 10 ∨ i = 11 ∨ i = 12 ∨ i = 13 ∨ i = 14 := by omega
      rcases this with rfl | rfl | rfl | rfl | rfl | rfl | rfl | rfl | rfl | rfl | rfl | rfl | rfl | rfl | rfl
      all_goals assumption
    rw [(tg_d (lo := 0) (ts := [84, 91, 98, 105, 112, 119, 129, 148, 155, 162, 169, 176, 185, 192, 199]) (d := 206) rfl hd)]
    simp only [s127_0, s127_1, s127_2, s127_5, s127_8, s127_9, s127_10, s127_84, s127_85, s127_88, s127_89, s127_90, s127_91, s127_92, s127_95, s127_96, s127_97, s127_98, s127_99, s127_102, s127_103, s127_104, s127_105, s127_106, s127_109, s127_110, s127_111, s127_112, s127_113, s127_116, s127_117, s127_118, s127_119, s127_120, s127_123, s127_124, s127_125, s127_128, s127_129, s127_130, s127_133, s127_134, s127_135, s127_136, s127_139, s127_140, s127_143, s127_144, s127_147, s127_148, s127_149, s127_152, s127_153, s127_154, s127_155, s127_156, s127_159, s127_160, s127_161, s127_162, s127_163, s127_166, s127_167, s127_168, s127_169, s127_170, s127_173, s127_174, s127_175, s127_176, s127_177, s127_178, s127_181, s127_184, s127_185, s127_186, s127_187, s127_188, s127_191, s127_192, s127_193, s127_194, s127_195, s127_198, s127_199, s127_200, s127_203, s127_204, s127_205, s127_206, s127_207, zl_n, zl_i, zl_r, zl_0, z10, z01, ez_bd_s, ez_bd_n, eq_self, true_or, or_true, if_true, if_false, zb_eq, zb_eq1, zb_em, zb_em2, ite_not, List.append_nil, List.cons_append, List.nil_append, reduceCtorEq, not_true_eq_false, not_false_eq_true]
  · simp only [s127_0, s127_1, s127_2, s127_5, s127_8, s127_9, s127_10, s127_84, s127_85, s127_88, s127_89, s127_90, s127_91, s127_92, s127_95, s127_96, s127_97, s127_98, s127_99, s127_102, s127_103, s127_104, s127_105, s127_106, s127_109, s127_110, s127_111, s127_112, s127_113, s127_116, s127_117, s127_118, s127_119, s127_120, s127_123, s127_124, s127_125, s127_128, s127_129, s127_130, s127_133, s127_134, s127_135, s127_136, s127_139, s127_140, s127_143, s127_144, s127_147, s127_148, s127_149, s127_152, s127_153, s127_154, s127_155, s127_156, s127_159, s127_160, s127_161, s127_162, s127_163, s127_166, s127_167, s127_168, s127_169, s127_170, s127_173, s127_174, s127_175, s127_176, s127_177, s127_178, s127_181, s127_184, s127_185, s127_186, s127_187, s127_188, s127_191, s127_192, s127_193, s127_194, s127_195, s127_198, s127_199, s127_200, s127_203, s127_204, s127_205, s127_206, s127_207, zl_n, zl_i, zl_r, zl_0, z10, z01, ez_bd_s, ez_bd_n, eq_self, true_or, or_true, if_true, if_false, zb_eq, zb_eq1, zb_em, zb_em2, ite_not, List.append_nil, List.cons_append, List.nil_append, reduceCtorEq, not_true_eq_false, not_false_eq_true, q_isLot]
    simp only [if_neg h1]
def pm_shipOf (z : md_S) (s w : Int32) : Int32 := if 0 ≤ s ∧ s ≤ z.1 5 - 1 then (if w = 0 then z.2 28 s.toNatClampNeg else if w = 1 then z.2 29 s.toNatClampNeg else if w = 2 then l_sum (pl_in z s) (z.1 6).toNatClampNeg else if w = 3 then pone (z.2 30 s.toNatClampNeg) else if w = 4 then pone (z.2 25 (z.2 28 s.toNatClampNeg).toNatClampNeg) else -1) else -1
theorem q_shipOf {s w : Int32} (h : md_in (z.1 6) 201 = true) (hl : 0 ≤ s ∧ s ≤ z.1 5 - 1 → md_in s 40 = true ∧ md_in (z.2 28 s.toNatClampNeg) 20 = true) : ez_ev g 137 [.ref m, .int s, .int w] (md_h h0 m z) = some (some (.int (pm_shipOf z s w)), md_h h0 m z) := by
  rw [e137]
  unfold pm_shipOf
  by_cases h1 : 0 ≤ s ∧ s ≤ z.1 5 - 1
  · obtain ⟨h2, h3⟩ := hl h1
    have q1 := fun q => q_sacksIn' (g := g) (h0 := h0) (m := m) (s := q) h
    rw [if_pos h1]
    simp only [s137_0, s137_1, s137_2, s137_5, s137_8, s137_9, s137_10, s137_44, s137_45, s137_48, s137_49, s137_50, s137_51, s137_52, s137_55, s137_56, s137_57, s137_58, s137_59, s137_60, s137_63, s137_64, s137_65, s137_68, s137_69, s137_70, s137_73, s137_74, s137_75, s137_78, s137_79, s137_82, s137_83, s137_84, s137_85, s137_88, s137_89, s137_90, zl_n, zl_i, zl_r, zl_0, z10, z01, ez_bd_s, ez_bd_n, eq_self, true_or, or_true, if_true, if_false, zb_eq, zb_eq1, zb_em, zb_em2, ite_not, List.append_nil, List.cons_append, List.nil_append, reduceCtorEq, not_true_eq_false, not_false_eq_true, q_isShip, h1, and_self]
    rw [s137_11]
    by_cases w0 : w = 0
    · subst w0
      rw [(show ez_tgt 0 0 [44, 51, 58, 64, 74] 89 = 44 by decide +kernel), if_pos rfl]
      simp only [s137_0, s137_1, s137_2, s137_5, s137_8, s137_9, s137_10, s137_44, s137_45, s137_48, s137_49, s137_50, s137_51, s137_52, s137_55, s137_56, s137_57, s137_58, s137_59, s137_60, s137_63, s137_64, s137_65, s137_68, s137_69, s137_70, s137_73, s137_74, s137_75, s137_78, s137_79, s137_82, s137_83, s137_84, s137_85, s137_88, s137_89, s137_90, zl_n, zl_i, zl_r, zl_0, z10, z01, ez_bd_s, ez_bd_n, eq_self, true_or, or_true, if_true, if_false, zb_eq, zb_eq1, zb_em, zb_em2, ite_not, List.append_nil, List.cons_append, List.nil_append, reduceCtorEq, not_true_eq_false, not_false_eq_true, h2, h3, q1, q_one, zio]
    rw [if_neg w0]
    by_cases w1 : w = 1
    · subst w1
      rw [(show ez_tgt 1 0 [44, 51, 58, 64, 74] 89 = 51 by decide +kernel), if_pos rfl]
      simp only [s137_0, s137_1, s137_2, s137_5, s137_8, s137_9, s137_10, s137_44, s137_45, s137_48, s137_49, s137_50, s137_51, s137_52, s137_55, s137_56, s137_57, s137_58, s137_59, s137_60, s137_63, s137_64, s137_65, s137_68, s137_69, s137_70, s137_73, s137_74, s137_75, s137_78, s137_79, s137_82, s137_83, s137_84, s137_85, s137_88, s137_89, s137_90, zl_n, zl_i, zl_r, zl_0, z10, z01, ez_bd_s, ez_bd_n, eq_self, true_or, or_true, if_true, if_false, zb_eq, zb_eq1, zb_em, zb_em2, ite_not, List.append_nil, List.cons_append, List.nil_append, reduceCtorEq, not_true_eq_false, not_false_eq_true, h2, h3, q1, q_one, zio]
    rw [if_neg w1]
    by_cases w2 : w = 2
    · subst w2
      rw [(show ez_tgt 2 0 [44, 51, 58, 64, 74] 89 = 58 by decide +kernel), if_pos rfl]
      simp only [s137_0, s137_1, s137_2, s137_5, s137_8, s137_9, s137_10, s137_44, s137_45, s137_48, s137_49, s137_50, s137_51, s137_52, s137_55, s137_56, s137_57, s137_58, s137_59, s137_60, s137_63, s137_64, s137_65, s137_68, s137_69, s137_70, s137_73, s137_74, s137_75, s137_78, s137_79, s137_82, s137_83, s137_84, s137_85, s137_88, s137_89, s137_90, zl_n, zl_i, zl_r, zl_0, z10, z01, ez_bd_s, ez_bd_n, eq_self, true_or, or_true, if_true, if_false, zb_eq, zb_eq1, zb_em, zb_em2, ite_not, List.append_nil, List.cons_append, List.nil_append, reduceCtorEq, not_true_eq_false, not_false_eq_true, h2, h3, q1, q_one, zio]
    rw [if_neg w2]
    by_cases w3 : w = 3
    · subst w3
      rw [(show ez_tgt 3 0 [44, 51, 58, 64, 74] 89 = 64 by decide +kernel), if_pos rfl]
      simp only [s137_0, s137_1, s137_2, s137_5, s137_8, s137_9, s137_10, s137_44, s137_45, s137_48, s137_49, s137_50, s137_51, s137_52, s137_55, s137_56, s137_57, s137_58, s137_59, s137_60, s137_63, s137_64, s137_65, s137_68, s137_69, s137_70, s137_73, s137_74, s137_75, s137_78, s137_79, s137_82, s137_83, s137_84, s137_85, s137_88, s137_89, s137_90, zl_n, zl_i, zl_r, zl_0, z10, z01, ez_bd_s, ez_bd_n, eq_self, true_or, or_true, if_true, if_false, zb_eq, zb_eq1, zb_em, zb_em2, ite_not, List.append_nil, List.cons_append, List.nil_append, reduceCtorEq, not_true_eq_false, not_false_eq_true, h2, h3, q1, q_one, zio]
      first | rfl | (split <;> rfl)
    rw [if_neg w3]
    by_cases w4 : w = 4
    · subst w4
      rw [(show ez_tgt 4 0 [44, 51, 58, 64, 74] 89 = 74 by decide +kernel), if_pos rfl]
      simp only [s137_0, s137_1, s137_2, s137_5, s137_8, s137_9, s137_10, s137_44, s137_45, s137_48, s137_49, s137_50, s137_51, s137_52, s137_55, s137_56, s137_57, s137_58, s137_59, s137_60, s137_63, s137_64, s137_65, s137_68, s137_69, s137_70, s137_73, s137_74, s137_75, s137_78, s137_79, s137_82, s137_83, s137_84, s137_85, s137_88, s137_89, s137_90, zl_n, zl_i, zl_r, zl_0, z10, z01, ez_bd_s, ez_bd_n, eq_self, true_or, or_true, if_true, if_false, zb_eq, zb_eq1, zb_em, zb_em2, ite_not, List.append_nil, List.cons_append, List.nil_append, reduceCtorEq, not_true_eq_false, not_false_eq_true, h2, h3, q1, q_one, zio]
      first | rfl | (split <;> rfl)
    rw [if_neg w4]
    have hd : ∀ i, i < 5 → w ≠ nI i := by
      intro i hi
      have : i = 0 ∨ i = 1 ∨ i = 2 ∨ i = 3 ∨ i = 4 := by omega
      rcases this with rfl | rfl | rfl | rfl | rfl
      all_goals assumption
    rw [(tg_d (lo := 0) (ts := [44, 51, 58, 64, 74]) (d := 89) rfl hd)]
    simp only [s137_0, s137_1, s137_2, s137_5, s137_8, s137_9, s137_10, s137_44, s137_45, s137_48, s137_49, s137_50, s137_51, s137_52, s137_55, s137_56, s137_57, s137_58, s137_59, s137_60, s137_63, s137_64, s137_65, s137_68, s137_69, s137_70, s137_73, s137_74, s137_75, s137_78, s137_79, s137_82, s137_83, s137_84, s137_85, s137_88, s137_89, s137_90, zl_n, zl_i, zl_r, zl_0, z10, z01, ez_bd_s, ez_bd_n, eq_self, true_or, or_true, if_true, if_false, zb_eq, zb_eq1, zb_em, zb_em2, ite_not, List.append_nil, List.cons_append, List.nil_append, reduceCtorEq, not_true_eq_false, not_false_eq_true]
  · simp only [s137_0, s137_1, s137_2, s137_5, s137_8, s137_9, s137_10, s137_44, s137_45, s137_48, s137_49, s137_50, s137_51, s137_52, s137_55, s137_56, s137_57, s137_58, s137_59, s137_60, s137_63, s137_64, s137_65, s137_68, s137_69, s137_70, s137_73, s137_74, s137_75, s137_78, s137_79, s137_82, s137_83, s137_84, s137_85, s137_88, s137_89, s137_90, zl_n, zl_i, zl_r, zl_0, z10, z01, ez_bd_s, ez_bd_n, eq_self, true_or, or_true, if_true, if_false, zb_eq, zb_eq1, zb_em, zb_em2, ite_not, List.append_nil, List.cons_append, List.nil_append, reduceCtorEq, not_true_eq_false, not_false_eq_true, q_isShip]
    simp only [if_neg h1]
end M5
