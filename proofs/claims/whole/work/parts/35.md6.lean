section M6
variable {g : ez_G} {h0 : ez_H} {m : Nat} {z : md_S}
def ps_t (z : md_S) (sh so : Int32) (x : Nat → Int32) (j : Nat) : Int32 := if z.2 13 j = sh then (if z.2 14 j = so then x j else 0) else 0
def ps_c (z : md_S) (j : Nat) : Int32 := if z.2 21 j = -1 then 0 else z.2 15 j
def ps_l (z : md_S) (q : Int32) (j : Nat) : Int32 := l_sum (pl_ld z (nI j) q) (z.1 6).toNatClampNeg
theorem lp_sum {n : Nat} {sh so w : Int32} (h : md_lds z) (hn : z.1 3 = nI n) (hn2 : n ≤ 150) : ∀ d j, j + d = n → ez_rn g 138 37 [some (.ref m), some (.int sh), some (.int so), some (.int w), some (.int (l_sum (ps_t z sh so (z.2 15)) j)), some (.int (l_sum (ps_t z sh so (ps_c z)) j)), some (.int (l_sum (ps_t z sh so (ps_l z 0)) j)), some (.int (l_sum (ps_t z sh so (ps_l z 1)) j)), some (.int (nI j))] [] (md_h h0 m z) = ez_rn g 138 140 [some (.ref m), some (.int sh), some (.int so), some (.int w), some (.int (l_sum (ps_t z sh so (z.2 15)) n)), some (.int (l_sum (ps_t z sh so (ps_c z)) n)), some (.int (l_sum (ps_t z sh so (ps_l z 0)) n)), some (.int (l_sum (ps_t z sh so (ps_l z 1)) n)), some (.int (nI n))] [] (md_h h0 m z) := by
  intro d
  induction d with
  | zero =>
    intro j hj
    obtain rfl : j = n := by omega
    rw [s138_37]
    simp only [s138_0, s138_1, s138_2, s138_5, s138_8, s138_9, s138_10, s138_12, s138_15, s138_18, s138_21, s138_22, s138_23, s138_25, s138_26, s138_28, s138_29, s138_31, s138_32, s138_34, s138_35, s138_39, s138_40, s138_43, s138_46, s138_47, s138_50, s138_52, s138_53, s138_54, s138_57, s138_58, s138_61, s138_63, s138_64, s138_65, s138_68, s138_71, s138_73, s138_74, s138_77, s138_79, s138_80, s138_81, s138_83, s138_85, s138_86, s138_89, s138_91, s138_92, s138_93, s138_96, s138_97, s138_100, s138_102, s138_103, s138_106, s138_107, s138_108, s138_110, s138_112, s138_113, s138_115, s138_116, s138_119, s138_120, s138_122, s138_124, s138_125, s138_127, s138_128, s138_131, s138_132, s138_134, s138_137, s138_141, s138_144, s138_145, s138_146, s138_147, s138_148, s138_149, s138_150, s138_152, s138_153, s138_156, s138_158, s138_161, s138_162, s138_163, s138_166, s138_168, s138_171, s138_172, s138_173, s138_176, s138_178, s138_181, s138_182, s138_183, s138_186, s138_188, s138_191, s138_192, s138_193, s138_196, s138_198, s138_201, s138_202, s138_203, s138_206, s138_208, s138_210, s138_211, s138_214, s138_216, s138_218, s138_219, zl_n, zl_i, zl_r, zl_0, z10, z01, ez_bd_s, ez_bd_n, eq_self, true_or, or_true, if_true, if_false, zb_eq, zb_eq1, zb_em, zb_em2, ite_not, List.append_nil, List.cons_append, List.nil_append, reduceCtorEq, not_true_eq_false, not_false_eq_true, hn, nI_leT (Nat.le_refl j) (by omega)]
  | succ d ih =>
    intro j hj
    have c1 : (nI j).toNatClampNeg = j := nI_clamp (by omega)
    have c2 : md_in (nI j) 150 = true := md_inN (by omega) (by omega)
    have hx := ih (j + 1) (by omega)
    have q1 := fun q => q_loaded' (g := g) (h0 := h0) (m := m) (l := nI j) (q := q) h
    simp only [l_sum, ps_t, ps_c, ps_l] at hx
    rw [s138_37]
    simp only [s138_0, s138_1, s138_2, s138_5, s138_8, s138_9, s138_10, s138_12, s138_15, s138_18, s138_21, s138_22, s138_23, s138_25, s138_26, s138_28, s138_29, s138_31, s138_32, s138_34, s138_35, s138_39, s138_40, s138_43, s138_46, s138_47, s138_50, s138_52, s138_53, s138_54, s138_57, s138_58, s138_61, s138_63, s138_64, s138_65, s138_68, s138_71, s138_73, s138_74, s138_77, s138_79, s138_80, s138_81, s138_83, s138_85, s138_86, s138_89, s138_91, s138_92, s138_93, s138_96, s138_97, s138_100, s138_102, s138_103, s138_106, s138_107, s138_108, s138_110, s138_112, s138_113, s138_115, s138_116, s138_119, s138_120, s138_122, s138_124, s138_125, s138_127, s138_128, s138_131, s138_132, s138_134, s138_137, s138_141, s138_144, s138_145, s138_146, s138_147, s138_148, s138_149, s138_150, s138_152, s138_153, s138_156, s138_158, s138_161, s138_162, s138_163, s138_166, s138_168, s138_171, s138_172, s138_173, s138_176, s138_178, s138_181, s138_182, s138_183, s138_186, s138_188, s138_191, s138_192, s138_193, s138_196, s138_198, s138_201, s138_202, s138_203, s138_206, s138_208, s138_210, s138_211, s138_214, s138_216, s138_218, s138_219, zl_n, zl_i, zl_r, zl_0, z10, z01, ez_bd_s, ez_bd_n, eq_self, true_or, or_true, if_true, if_false, zb_eq, zb_eq1, zb_em, zb_em2, ite_not, List.append_nil, List.cons_append, List.nil_append, reduceCtorEq, not_true_eq_false, not_false_eq_true, hn, nI_nleI (show j < n by omega) (by omega), c1, c2, nI_1, q1]
    by_cases e1 : z.2 13 j = sh
    · by_cases e2 : z.2 14 j = so
      · by_cases e3 : z.2 21 j = -1
        · simp only [if_pos e1, if_pos e2, if_pos e3] at hx ⊢
          exact hx
        · simp only [if_pos e1, if_pos e2, if_neg e3] at hx ⊢
          exact hx
      · simp only [if_pos e1, if_neg e2, Int32.add_zero] at hx ⊢
        exact hx
    · simp only [if_neg e1, Int32.add_zero] at hx ⊢
      exact hx
def pm_sum (z : md_S) (sh so w : Int32) : Int32 := if (0 ≤ sh ∧ sh ≤ 7) ∧ 0 ≤ so ∧ so ≤ 3 then (if 0 ≤ w ∧ w ≤ 6 then (if w = 0 then z.2 8 (4 * sh + so).toNatClampNeg else if w = 1 then l_sum (ps_t z sh so (z.2 15)) (z.1 3).toNatClampNeg else if w = 2 then l_sum (ps_t z sh so (ps_c z)) (z.1 3).toNatClampNeg else if w = 3 then l_sum (ps_t z sh so (ps_l z 0)) (z.1 3).toNatClampNeg else if w = 4 then l_sum (ps_t z sh so (ps_l z 1)) (z.1 3).toNatClampNeg else if w = 5 then z.2 8 (4 * sh + so).toNatClampNeg - l_sum (ps_t z sh so (z.2 15)) (z.1 3).toNatClampNeg else l_sum (ps_t z sh so (z.2 15)) (z.1 3).toNatClampNeg - l_sum (ps_t z sh so (ps_c z)) (z.1 3).toNatClampNeg) else -100000) else -100000
theorem q_sum {sh so w : Int32} (h : md_lds z) (hn : md_in (z.1 3) 151 = true) (hw : (0 ≤ sh ∧ sh ≤ 7) ∧ 0 ≤ so ∧ so ≤ 3 → md_in (4 * sh + so) 32 = true) : ez_ev g 138 [.ref m, .int sh, .int so, .int w] (md_h h0 m z) = some (some (.int (pm_sum z sh so w)), md_h h0 m z) := by
  obtain ⟨e, h2⟩ := md_inE hn
  have lp := lp_sum (g := g) (h0 := h0) (m := m) (sh := sh) (so := so) (w := w) h e (by omega) _ 0 (Nat.zero_add _)
  simp only [l_sum, nI_0] at lp
  rw [e138]
  unfold pm_sum
  by_cases h1 : (0 ≤ sh ∧ sh ≤ 7) ∧ 0 ≤ so ∧ so ≤ 3
  · have h3 := hw h1
    by_cases h4 : 0 ≤ w ∧ w ≤ 6
    · simp only [s138_0, s138_1, s138_2, s138_5, s138_8, s138_9, s138_10, s138_12, s138_15, s138_18, s138_21, s138_22, s138_23, s138_25, s138_26, s138_28, s138_29, s138_31, s138_32, s138_34, s138_35, s138_39, s138_40, s138_43, s138_46, s138_47, s138_50, s138_52, s138_53, s138_54, s138_57, s138_58, s138_61, s138_63, s138_64, s138_65, s138_68, s138_71, s138_73, s138_74, s138_77, s138_79, s138_80, s138_81, s138_83, s138_85, s138_86, s138_89, s138_91, s138_92, s138_93, s138_96, s138_97, s138_100, s138_102, s138_103, s138_106, s138_107, s138_108, s138_110, s138_112, s138_113, s138_115, s138_116, s138_119, s138_120, s138_122, s138_124, s138_125, s138_127, s138_128, s138_131, s138_132, s138_134, s138_137, s138_140, s138_141, s138_144, s138_145, s138_146, s138_147, s138_148, s138_149, s138_150, s138_152, s138_153, s138_156, s138_158, s138_161, s138_162, s138_163, s138_166, s138_168, s138_171, s138_172, s138_173, s138_176, s138_178, s138_181, s138_182, s138_183, s138_186, s138_188, s138_191, s138_192, s138_193, s138_196, s138_198, s138_201, s138_202, s138_203, s138_206, s138_208, s138_210, s138_211, s138_214, s138_216, s138_218, s138_219, zl_n, zl_i, zl_r, zl_0, z10, z01, ez_bd_s, ez_bd_n, eq_self, true_or, or_true, if_true, if_false, zb_eq, zb_eq1, zb_em, zb_em2, ite_not, List.append_nil, List.cons_append, List.nil_append, reduceCtorEq, not_true_eq_false, not_false_eq_true, q_isWool, q_isIn, h1, h4, and_self, lp, h3]
      repeat' split
      all_goals rfl
    · rw [if_pos h1, if_neg h4]
      simp only [s138_0, s138_1, s138_2, s138_5, s138_8, s138_9, s138_10, s138_12, s138_15, s138_18, s138_21, s138_22, s138_23, s138_25, s138_26, s138_28, s138_29, s138_31, s138_32, s138_34, s138_35, s138_39, s138_40, s138_43, s138_46, s138_47, s138_50, s138_52, s138_53, s138_54, s138_57, s138_58, s138_61, s138_63, s138_64, s138_65, s138_68, s138_71, s138_73, s138_74, s138_77, s138_79, s138_80, s138_81, s138_83, s138_85, s138_86, s138_89, s138_91, s138_92, s138_93, s138_96, s138_97, s138_100, s138_102, s138_103, s138_106, s138_107, s138_108, s138_110, s138_112, s138_113, s138_115, s138_116, s138_119, s138_120, s138_122, s138_124, s138_125, s138_127, s138_128, s138_131, s138_132, s138_134, s138_137, s138_140, s138_141, s138_144, s138_145, s138_146, s138_147, s138_148, s138_149, s138_150, s138_152, s138_153, s138_156, s138_158, s138_161, s138_162, s138_163, s138_166, s138_168, s138_171, s138_172, s138_173, s138_176, s138_178, s138_181, s138_182, s138_183, s138_186, s138_188, s138_191, s138_192, s138_193, s138_196, s138_198, s138_201, s138_202, s138_203, s138_206, s138_208, s138_210, s138_211, s138_214, s138_216, s138_218, s138_219, zl_n, zl_i, zl_r, zl_0, z10, z01, ez_bd_s, ez_bd_n, eq_self, true_or, or_true, if_true, if_false, zb_eq, zb_eq1, zb_em, zb_em2, ite_not, List.append_nil, List.cons_append, List.nil_append, reduceCtorEq, not_true_eq_false, not_false_eq_true, q_isWool, q_isIn]
      rw [if_pos h1, if_neg h4]
  · simp only [s138_0, s138_1, s138_2, s138_5, s138_8, s138_9, s138_10, s138_12, s138_15, s138_18, s138_21, s138_22, s138_23, s138_25, s138_26, s138_28, s138_29, s138_31, s138_32, s138_34, s138_35, s138_39, s138_40, s138_43, s138_46, s138_47, s138_50, s138_52, s138_53, s138_54, s138_57, s138_58, s138_61, s138_63, s138_64, s138_65, s138_68, s138_71, s138_73, s138_74, s138_77, s138_79, s138_80, s138_81, s138_83, s138_85, s138_86, s138_89, s138_91, s138_92, s138_93, s138_96, s138_97, s138_100, s138_102, s138_103, s138_106, s138_107, s138_108, s138_110, s138_112, s138_113, s138_115, s138_116, s138_119, s138_120, s138_122, s138_124, s138_125, s138_127, s138_128, s138_131, s138_132, s138_134, s138_137, s138_140, s138_141, s138_144, s138_145, s138_146, s138_147, s138_148, s138_149, s138_150, s138_152, s138_153, s138_156, s138_158, s138_161, s138_162, s138_163, s138_166, s138_168, s138_171, s138_172, s138_173, s138_176, s138_178, s138_181, s138_182, s138_183, s138_186, s138_188, s138_191, s138_192, s138_193, s138_196, s138_198, s138_201, s138_202, s138_203, s138_206, s138_208, s138_210, s138_211, s138_214, s138_216, s138_218, s138_219, zl_n, zl_i, zl_r, zl_0, z10, z01, ez_bd_s, ez_bd_n, eq_self, true_or, or_true, if_true, if_false, zb_eq, zb_eq1, zb_em, zb_em2, ite_not, List.append_nil, List.cons_append, List.nil_append, reduceCtorEq, not_true_eq_false, not_false_eq_true, q_isWool, q_isIn]
    simp only [if_neg h1]
def pc_o (z : md_S) (j : Nat) : Int32 := if z.2 18 j = 1 then 1 else 0
def pc_l (z : md_S) (j : Nat) : Int32 := if z.2 18 j = 1 ∧ z.2 19 j < z.1 0 then 1 else 0
theorem lp_count1 {n : Nat} {w : Int32} (hn : z.1 3 = nI n) (hn2 : n ≤ 150) : ∀ d j, j + d = n → ez_rn g 139 102 [some (.ref m), some (.int w), some (.int (l_sum (pc_o z) j)), some (.int (nI j))] [] (md_h h0 m z) = some (some (.int (l_sum (pc_o z) n)), md_h h0 m z) := by
  intro d
  induction d with
  | zero =>
    intro j hj
    obtain rfl : j = n := by omega
    rw [s139_102]
    simp only [s139_0, s139_1, s139_2, s139_3, s139_60, s139_61, s139_64, s139_65, s139_66, s139_69, s139_70, s139_71, s139_74, s139_75, s139_76, s139_79, s139_80, s139_81, s139_84, s139_85, s139_86, s139_89, s139_90, s139_91, s139_94, s139_95, s139_96, s139_99, s139_100, s139_101, s139_103, s139_104, s139_107, s139_110, s139_111, s139_112, s139_115, s139_116, s139_117, s139_118, s139_121, s139_122, s139_125, s139_126, s139_129, s139_130, s139_131, s139_134, s139_137, s139_138, s139_139, s139_140, s139_141, s139_142, s139_143, s139_146, s139_149, s139_150, s139_151, s139_152, s139_155, s139_158, s139_159, s139_160, s139_163, s139_166, s139_167, s139_168, s139_169, s139_170, s139_171, s139_172, s139_175, s139_178, s139_179, s139_180, s139_183, s139_184, s139_185, s139_186, s139_187, s139_190, s139_193, s139_194, s139_195, s139_196, zl_n, zl_i, zl_r, zl_0, z10, z01, ez_bd_s, ez_bd_n, eq_self, true_or, or_true, if_true, if_false, zb_eq, zb_eq1, zb_em, zb_em2, ite_not, List.append_nil, List.cons_append, List.nil_append, reduceCtorEq, not_true_eq_false, not_false_eq_true, hn, nI_leT (Nat.le_refl j) (by omega)]
  | succ d ih =>
    intro j hj
    have c1 : (nI j).toNatClampNeg = j := nI_clamp (by omega)
    have c2 : md_in (nI j) 150 = true := md_inN (by omega) (by omega)
    have hx := ih (j + 1) (by omega)
    simp only [l_sum, pc_o, pc_l] at hx
    rw [s139_102]
    simp only [s139_0, s139_1, s139_2, s139_3, s139_60, s139_61, s139_64, s139_65, s139_66, s139_69, s139_70, s139_71, s139_74, s139_75, s139_76, s139_79, s139_80, s139_81, s139_84, s139_85, s139_86, s139_89, s139_90, s139_91, s139_94, s139_95, s139_96, s139_99, s139_100, s139_101, s139_103, s139_104, s139_107, s139_110, s139_111, s139_112, s139_115, s139_116, s139_117, s139_118, s139_121, s139_122, s139_125, s139_126, s139_129, s139_130, s139_131, s139_134, s139_137, s139_138, s139_139, s139_140, s139_141, s139_142, s139_143, s139_146, s139_149, s139_150, s139_151, s139_152, s139_155, s139_158, s139_159, s139_160, s139_163, s139_166, s139_167, s139_168, s139_169, s139_170, s139_171, s139_172, s139_175, s139_178, s139_179, s139_180, s139_183, s139_184, s139_185, s139_186, s139_187, s139_190, s139_193, s139_194, s139_195, s139_196, zl_n, zl_i, zl_r, zl_0, z10, z01, ez_bd_s, ez_bd_n, eq_self, true_or, or_true, if_true, if_false, zb_eq, zb_eq1, zb_em, zb_em2, ite_not, List.append_nil, List.cons_append, List.nil_append, reduceCtorEq, not_true_eq_false, not_false_eq_true, hn, nI_nleI (show j < n by omega) (by omega), q_one, zio, c1, c2, nI_1]
    revert hx
    repeat' split
    all_goals exact id
theorem lp_count2 {n : Nat} {w : Int32} (hn : z.1 3 = nI n) (hn2 : n ≤ 150) : ∀ d j, j + d = n → ez_rn g 139 141 [some (.ref m), some (.int w), some (.int (l_sum (pc_l z) j)), some (.int (nI j))] [] (md_h h0 m z) = some (some (.int (l_sum (pc_l z) n)), md_h h0 m z) := by
  intro d
  induction d with
  | zero =>
    intro j hj
    obtain rfl : j = n := by omega
    rw [s139_141]
    simp only [s139_0, s139_1, s139_2, s139_3, s139_60, s139_61, s139_64, s139_65, s139_66, s139_69, s139_70, s139_71, s139_74, s139_75, s139_76, s139_79, s139_80, s139_81, s139_84, s139_85, s139_86, s139_89, s139_90, s139_91, s139_94, s139_95, s139_96, s139_99, s139_100, s139_101, s139_102, s139_103, s139_104, s139_107, s139_110, s139_111, s139_112, s139_115, s139_116, s139_117, s139_118, s139_121, s139_122, s139_125, s139_126, s139_129, s139_130, s139_131, s139_134, s139_137, s139_138, s139_139, s139_140, s139_142, s139_143, s139_146, s139_149, s139_150, s139_151, s139_152, s139_155, s139_158, s139_159, s139_160, s139_163, s139_166, s139_167, s139_168, s139_169, s139_170, s139_171, s139_172, s139_175, s139_178, s139_179, s139_180, s139_183, s139_184, s139_185, s139_186, s139_187, s139_190, s139_193, s139_194, s139_195, s139_196, zl_n, zl_i, zl_r, zl_0, z10, z01, ez_bd_s, ez_bd_n, eq_self, true_or, or_true, if_true, if_false, zb_eq, zb_eq1, zb_em, zb_em2, ite_not, List.append_nil, List.cons_append, List.nil_append, reduceCtorEq, not_true_eq_false, not_false_eq_true, hn, nI_leT (Nat.le_refl j) (by omega)]
  | succ d ih =>
    intro j hj
    have c1 : (nI j).toNatClampNeg = j := nI_clamp (by omega)
    have c2 : md_in (nI j) 150 = true := md_inN (by omega) (by omega)
    have hx := ih (j + 1) (by omega)
    simp only [l_sum, pc_o, pc_l] at hx
    rw [s139_141]
    simp only [s139_0, s139_1, s139_2, s139_3, s139_60, s139_61, s139_64, s139_65, s139_66, s139_69, s139_70, s139_71, s139_74, s139_75, s139_76, s139_79, s139_80, s139_81, s139_84, s139_85, s139_86, s139_89, s139_90, s139_91, s139_94, s139_95, s139_96, s139_99, s139_100, s139_101, s139_102, s139_103, s139_104, s139_107, s139_110, s139_111, s139_112, s139_115, s139_116, s139_117, s139_118, s139_121, s139_122, s139_125, s139_126, s139_129, s139_130, s139_131, s139_134, s139_137, s139_138, s139_139, s139_140, s139_142, s139_143, s139_146, s139_149, s139_150, s139_151, s139_152, s139_155, s139_158, s139_159, s139_160, s139_163, s139_166, s139_167, s139_168, s139_169, s139_170, s139_171, s139_172, s139_175, s139_178, s139_179, s139_180, s139_183, s139_184, s139_185, s139_186, s139_187, s139_190, s139_193, s139_194, s139_195, s139_196, zl_n, zl_i, zl_r, zl_0, z10, z01, ez_bd_s, ez_bd_n, eq_self, true_or, or_true, if_true, if_false, zb_eq, zb_eq1, zb_em, zb_em2, ite_not, List.append_nil, List.cons_append, List.nil_append, reduceCtorEq, not_true_eq_false, not_false_eq_true, hn, nI_nleI (show j < n by omega) (by omega), q_isLate, q_one, zio, c1, c2, nI_1]
    revert hx
    repeat' split
    all_goals exact id
theorem lp_count3 {n : Nat} {w : Int32} (hn : z.1 3 = nI n) (hn2 : n ≤ 150) : ∀ d j, j + d = n → ez_rn g 139 170 [some (.ref m), some (.int w), some (.int (l_sum (z.2 20) j)), some (.int (nI j))] [] (md_h h0 m z) = some (some (.int (l_sum (z.2 20) n)), md_h h0 m z) := by
  intro d
  induction d with
  | zero =>
    intro j hj
    obtain rfl : j = n := by omega
    rw [s139_170]
    simp only [s139_0, s139_1, s139_2, s139_3, s139_60, s139_61, s139_64, s139_65, s139_66, s139_69, s139_70, s139_71, s139_74, s139_75, s139_76, s139_79, s139_80, s139_81, s139_84, s139_85, s139_86, s139_89, s139_90, s139_91, s139_94, s139_95, s139_96, s139_99, s139_100, s139_101, s139_102, s139_103, s139_104, s139_107, s139_110, s139_111, s139_112, s139_115, s139_116, s139_117, s139_118, s139_121, s139_122, s139_125, s139_126, s139_129, s139_130, s139_131, s139_134, s139_137, s139_138, s139_139, s139_140, s139_141, s139_142, s139_143, s139_146, s139_149, s139_150, s139_151, s139_152, s139_155, s139_158, s139_159, s139_160, s139_163, s139_166, s139_167, s139_168, s139_169, s139_171, s139_172, s139_175, s139_178, s139_179, s139_180, s139_183, s139_184, s139_185, s139_186, s139_187, s139_190, s139_193, s139_194, s139_195, s139_196, zl_n, zl_i, zl_r, zl_0, z10, z01, ez_bd_s, ez_bd_n, eq_self, true_or, or_true, if_true, if_false, zb_eq, zb_eq1, zb_em, zb_em2, ite_not, List.append_nil, List.cons_append, List.nil_append, reduceCtorEq, not_true_eq_false, not_false_eq_true, hn, nI_leT (Nat.le_refl j) (by omega)]
  | succ d ih =>
    intro j hj
    have c1 : (nI j).toNatClampNeg = j := nI_clamp (by omega)
    have c2 : md_in (nI j) 150 = true := md_inN (by omega) (by omega)
    have hx := ih (j + 1) (by omega)
    simp only [l_sum, pc_o, pc_l] at hx
    rw [s139_170]
    simp only [s139_0, s139_1, s139_2, s139_3, s139_60, s139_61, s139_64, s139_65, s139_66, s139_69, s139_70, s139_71, s139_74, s139_75, s139_76, s139_79, s139_80, s139_81, s139_84, s139_85, s139_86, s139_89, s139_90, s139_91, s139_94, s139_95, s139_96, s139_99, s139_100, s139_101, s139_102, s139_103, s139_104, s139_107, s139_110, s139_111, s139_112, s139_115, s139_116, s139_117, s139_118, s139_121, s139_122, s139_125, s139_126, s139_129, s139_130, s139_131, s139_134, s139_137, s139_138, s139_139, s139_140, s139_141, s139_142, s139_143, s139_146, s139_149, s139_150, s139_151, s139_152, s139_155, s139_158, s139_159, s139_160, s139_163, s139_166, s139_167, s139_168, s139_169, s139_171, s139_172, s139_175, s139_178, s139_179, s139_180, s139_183, s139_184, s139_185, s139_186, s139_187, s139_190, s139_193, s139_194, s139_195, s139_196, zl_n, zl_i, zl_r, zl_0, z10, z01, ez_bd_s, ez_bd_n, eq_self, true_or, or_true, if_true, if_false, zb_eq, zb_eq1, zb_em, zb_em2, ite_not, List.append_nil, List.cons_append, List.nil_append, reduceCtorEq, not_true_eq_false, not_false_eq_true, hn, nI_nleI (show j < n by omega) (by omega), c1, c2, nI_1]
    revert hx
    repeat' split
    all_goals exact id
def pm_count (z : md_S) (w : Int32) : Int32 := if w = 0 then z.1 0 else if w = 1 then z.1 1 else if w = 2 then z.1 40 else if w = 3 then z.1 2 else if w = 4 then z.1 3 else if w = 5 then z.1 4 else if w = 6 then z.1 5 else if w = 7 then z.1 36 else if w = 8 then l_sum (pc_o z) (z.1 3).toNatClampNeg else if w = 9 then l_sum (pc_l z) (z.1 3).toNatClampNeg else if w = 10 then l_sum (z.2 20) (z.1 3).toNatClampNeg else -1
theorem q_count {w : Int32} (hn : md_in (z.1 3) 151 = true) : ez_ev g 139 [.ref m, .int w] (md_h h0 m z) = some (some (.int (pm_count z w)), md_h h0 m z) := by
  obtain ⟨e, h2⟩ := md_inE hn
  have l1 := lp_count1 (g := g) (h0 := h0) (m := m) (w := w) e (by omega) _ 0 (Nat.zero_add _)
  have l2 := lp_count2 (g := g) (h0 := h0) (m := m) (w := w) e (by omega) _ 0 (Nat.zero_add _)
  have l3 := lp_count3 (g := g) (h0 := h0) (m := m) (w := w) e (by omega) _ 0 (Nat.zero_add _)
  simp only [l_sum, nI_0] at l1 l2 l3
  rw [e139]
  unfold pm_count
  simp only [s139_0, s139_1, s139_2, s139_60, s139_61, s139_64, s139_65, s139_66, s139_69, s139_70, s139_71, s139_74, s139_75, s139_76, s139_79, s139_80, s139_81, s139_84, s139_85, s139_86, s139_89, s139_90, s139_91, s139_94, s139_95, s139_96, s139_99, s139_100, s139_101, s139_102, s139_103, s139_104, s139_107, s139_110, s139_111, s139_112, s139_115, s139_116, s139_117, s139_118, s139_121, s139_122, s139_125, s139_126, s139_129, s139_130, s139_131, s139_134, s139_137, s139_138, s139_139, s139_140, s139_141, s139_142, s139_143, s139_146, s139_149, s139_150, s139_151, s139_152, s139_155, s139_158, s139_159, s139_160, s139_163, s139_166, s139_167, s139_168, s139_169, s139_170, s139_171, s139_172, s139_175, s139_178, s139_179, s139_180, s139_183, s139_184, s139_185, s139_186, s139_187, s139_190, s139_193, s139_194, s139_195, s139_196, zl_n, zl_i, zl_r, zl_0, z10, z01, ez_bd_s, ez_bd_n, eq_self, true_or, or_true, if_true, if_false, zb_eq, zb_eq1, zb_em, zb_em2, ite_not, List.append_nil, List.cons_append, List.nil_append, reduceCtorEq, not_true_eq_false, not_false_eq_true]
  rw [s139_3]
  by_cases w0 : w = 0
  · subst w0
    rw [(show ez_tgt 0 0 [60, 65, 70, 75, 80, 85, 90, 95, 100, 139, 168] 195 = 60 by decide +kernel), if_pos rfl]
    simp only [s139_0, s139_1, s139_2, s139_60, s139_61, s139_64, s139_65, s139_66, s139_69, s139_70, s139_71, s139_74, s139_75, s139_76, s139_79, s139_80, s139_81, s139_84, s139_85, s139_86, s139_89, s139_90, s139_91, s139_94, s139_95, s139_96, s139_99, s139_100, s139_101, s139_103, s139_104, s139_107, s139_110, s139_111, s139_112, s139_115, s139_116, s139_117, s139_118, s139_121, s139_122, s139_125, s139_126, s139_129, s139_130, s139_131, s139_134, s139_137, s139_138, s139_139, s139_140, s139_142, s139_143, s139_146, s139_149, s139_150, s139_151, s139_152, s139_155, s139_158, s139_159, s139_160, s139_163, s139_166, s139_167, s139_168, s139_169, s139_171, s139_172, s139_175, s139_178, s139_179, s139_180, s139_183, s139_184, s139_185, s139_186, s139_187, s139_190, s139_193, s139_194, s139_195, s139_196, zl_n, zl_i, zl_r, zl_0, z10, z01, ez_bd_s, ez_bd_n, eq_self, true_or, or_true, if_true, if_false, zb_eq, zb_eq1, zb_em, zb_em2, ite_not, List.append_nil, List.cons_append, List.nil_append, reduceCtorEq, not_true_eq_false, not_false_eq_true, l1, l2, l3]
  rw [if_neg w0]
  by_cases w1 : w = 1
  · subst w1
    rw [(show ez_tgt 1 0 [60, 65, 70, 75, 80, 85, 90, 95, 100, 139, 168] 195 = 65 by decide +kernel), if_pos rfl]
    simp only [s139_0, s139_1, s139_2, s139_60, s139_61, s139_64, s139_65, s139_66, s139_69, s139_70, s139_71, s139_74, s139_75, s139_76, s139_79, s139_80, s139_81, s139_84, s139_85, s139_86, s139_89, s139_90, s139_91, s139_94, s139_95, s139_96, s139_99, s139_100, s139_101, s139_103, s139_104, s139_107, s139_110, s139_111, s139_112, s139_115, s139_116, s139_117, s139_118, s139_121, s139_122, s139_125, s139_126, s139_129, s139_130, s139_131, s139_134, s139_137, s139_138, s139_139, s139_140, s139_142, s139_143, s139_146, s139_149, s139_150, s139_151, s139_152, s139_155, s139_158, s139_159, s139_160, s139_163, s139_166, s139_167, s139_168, s139_169, s139_171, s139_172, s139_175, s139_178, s139_179, s139_180, s139_183, s139_184, s139_185, s139_186, s139_187, s139_190, s139_193, s139_194, s139_195, s139_196, zl_n, zl_i, zl_r, zl_0, z10, z01, ez_bd_s, ez_bd_n, eq_self, true_or, or_true, if_true, if_false, zb_eq, zb_eq1, zb_em, zb_em2, ite_not, List.append_nil, List.cons_append, List.nil_append, reduceCtorEq, not_true_eq_false, not_false_eq_true, l1, l2, l3]
  rw [if_neg w1]
  by_cases w2 : w = 2
  · subst w2
    rw [(show ez_tgt 2 0 [60, 65, 70, 75, 80, 85, 90, 95, 100, 139, 168] 195 = 70 by decide +kernel), if_pos rfl]
    simp only [s139_0, s139_1, s139_2, s139_60, s139_61, s139_64, s139_65, s139_66, s139_69, s139_70, s139_71, s139_74, s139_75, s139_76, s139_79, s139_80, s139_81, s139_84, s139_85, s139_86, s139_89, s139_90, s139_91, s139_94, s139_95, s139_96, s139_99, s139_100, s139_101, s139_103, s139_104, s139_107, s139_110, s139_111, s139_112, s139_115, s139_116, s139_117, s139_118, s139_121, s139_122, s139_125, s139_126, s139_129, s139_130, s139_131, s139_134, s139_137, s139_138, s139_139, s139_140, s139_142, s139_143, s139_146, s139_149, s139_150, s139_151, s139_152, s139_155, s139_158, s139_159, s139_160, s139_163, s139_166, s139_167, s139_168, s139_169, s139_171, s139_172, s139_175, s139_178, s139_179, s139_180, s139_183, s139_184, s139_185, s139_186, s139_187, s139_190, s139_193, s139_194, s139_195, s139_196, zl_n, zl_i, zl_r, zl_0, z10, z01, ez_bd_s, ez_bd_n, eq_self, true_or, or_true, if_true, if_false, zb_eq, zb_eq1, zb_em, zb_em2, ite_not, List.append_nil, List.cons_append, List.nil_append, reduceCtorEq, not_true_eq_false, not_false_eq_true, l1, l2, l3]
  rw [if_neg w2]
  by_cases w3 : w = 3
  · subst w3
    rw [(show ez_tgt 3 0 [60, 65, 70, 75, 80, 85, 90, 95, 100, 139, 168] 195 = 75 by decide +kernel), if_pos rfl]
    simp only [s139_0, s139_1, s139_2, s139_60, s139_61, s139_64, s139_65, s139_66, s139_69, s139_70, s139_71, s139_74, s139_75, s139_76, s139_79, s139_80, s139_81, s139_84, s139_85, s139_86, s139_89, s139_90, s139_91, s139_94, s139_95, s139_96, s139_99, s139_100, s139_101, s139_103, s139_104, s139_107, s139_110, s139_111, s139_112, s139_115, s139_116, s139_117, s139_118, s139_121, s139_122, s139_125, s139_126, s139_129, s139_130, s139_131, s139_134, s139_137, s139_138, s139_139, s139_140, s139_142, s139_143, s139_146, s139_149, s139_150, s139_151, s139_152, s139_155, s139_158, s139_159, s139_160, s139_163, s139_166, s139_167, s139_168, s139_169, s139_171, s139_172, s139_175, s139_178, s139_179, s139_180, s139_183, s139_184, s139_185, s139_186, s139_187, s139_190, s139_193, s139_194, s139_195, s139_196, zl_n, zl_i, zl_r, zl_0, z10, z01, ez_bd_s, ez_bd_n, eq_self, true_or, or_true, if_true, if_false, zb_eq, zb_eq1, zb_em, zb_em2, ite_not, List.append_nil, List.cons_append, List.nil_append, reduceCtorEq, not_true_eq_false, not_false_eq_true, l1, l2, l3]
  rw [if_neg w3]
  by_cases w4 : w = 4
  · subst w4
    rw [(show ez_tgt 4 0 [60, 65, 70, 75, 80, 85, 90, 95, 100, 139, 168] 195 = 80 by decide +kernel), if_pos rfl]
    simp only [s139_0, s139_1, s139_2, s139_60, s139_61, s139_64, s139_65, s139_66, s139_69, s139_70, s139_71, s139_74, s139_75, s139_76, s139_79, s139_80, s139_81, s139_84, s139_85, s139_86, s139_89, s139_90, s139_91, s139_94, s139_95, s139_96, s139_99, s139_100, s139_101, s139_103, s139_104, s139_107, s139_110, s139_111, s139_112, s139_115, s139_116, s139_117, s139_118, s139_121, s139_122, s139_125, s139_126, s139_129, s139_130, s139_131, s139_134, s139_137, s139_138, s139_139, s139_140, s139_142, s139_143, s139_146, s139_149, s139_150, s139_151, s139_152, s139_155, s139_158, s139_159, s139_160, s139_163, s139_166, s139_167, s139_168, s139_169, s139_171, s139_172, s139_175, s139_178, s139_179, s139_180, s139_183, s139_184, s139_185, s139_186, s139_187, s139_190, s139_193, s139_194, s139_195, s139_196, zl_n, zl_i, zl_r, zl_0, z10, z01, ez_bd_s, ez_bd_n, eq_self, true_or, or_true, if_true, if_false, zb_eq, zb_eq1, zb_em, zb_em2, ite_not, List.append_nil, List.cons_append, List.nil_append, reduceCtorEq, not_true_eq_false, not_false_eq_true, l1, l2, l3]
  rw [if_neg w4]
  by_cases w5 : w = 5
  · subst w5
    rw [(show ez_tgt 5 0 [60, 65, 70, 75, 80, 85, 90, 95, 100, 139, 168] 195 = 85 by decide +kernel), if_pos rfl]
    simp only [s139_0, s139_1, s139_2, s139_60, s139_61, s139_64, s139_65, s139_66, s139_69, s139_70, s139_71, s139_74, s139_75, s139_76, s139_79, s139_80, s139_81, s139_84, s139_85, s139_86, s139_89, s139_90, s139_91, s139_94, s139_95, s139_96, s139_99, s139_100, s139_101, s139_103, s139_104, s139_107, s139_110, s139_111, s139_112, s139_115, s139_116, s139_117, s139_118, s139_121, s139_122, s139_125, s139_126, s139_129, s139_130, s139_131, s139_134, s139_137, s139_138, s139_139, s139_140, s139_142, s139_143, s139_146, s139_149, s139_150, s139_151, s139_152, s139_155, s139_158, s139_159, s139_160, s139_163, s139_166, s139_167, s139_168, s139_169, s139_171, s139_172, s139_175, s139_178, s139_179, s139_180, s139_183, s139_184, s139_185, s139_186, s139_187, s139_190, s139_193, s139_194, s139_195, s139_196, zl_n, zl_i, zl_r, zl_0, z10, z01, ez_bd_s, ez_bd_n, eq_self, true_or, or_true, if_true, if_false, zb_eq, zb_eq1, zb_em, zb_em2, ite_not, List.append_nil, List.cons_append, List.nil_append, reduceCtorEq, not_true_eq_false, not_false_eq_true, l1, l2, l3]
  rw [if_neg w5]
  by_cases w6 : w = 6
  · subst w6
    rw [(show ez_tgt 6 0 [60, 65, 70, 75, 80, 85, 90, 95, 100, 139, 168] 195 = 90 by decide +kernel), if_pos rfl]
    simp only [s139_0, s139_1, s139_2, s139_60, s139_61, s139_64, s139_65, s139_66, s139_69, s139_70, s139_71, s139_74, s139_75, s139_76, s139_79, s139_80, s139_81, s139_84, s139_85, s139_86, s139_89, s139_90, s139_91, s139_94, s139_95, s139_96, s139_99, s139_100, s139_101, s139_103, s139_104, s139_107, s139_110, s139_111, s139_112, s139_115, s139_116, s139_117, s139_118, s139_121, s139_122, s139_125, s139_126, s139_129, s139_130, s139_131, s139_134, s139_137, s139_138, s139_139, s139_140, s139_142, s139_143, s139_146, s139_149, s139_150, s139_151, s139_152, s139_155, s139_158, s139_159, s139_160, s139_163, s139_166, s139_167, s139_168, s139_169, s139_171, s139_172, s139_175, s139_178, s139_179, s139_180, s139_183, s139_184, s139_185, s139_186, s139_187, s139_190, s139_193, s139_194, s139_195, s139_196, zl_n, zl_i, zl_r, zl_0, z10, z01, ez_bd_s, ez_bd_n, eq_self, true_or, or_true, if_true, if_false, zb_eq, zb_eq1, zb_em, zb_em2, ite_not, List.append_nil, List.cons_append, List.nil_append, reduceCtorEq, not_true_eq_false, not_false_eq_true, l1, l2, l3]
  rw [if_neg w6]
  by_cases w7 : w = 7
  · subst w7
    rw [(show ez_tgt 7 0 [60, 65, 70, 75, 80, 85, 90, 95, 100, 139, 168] 195 = 95 by decide +kernel), if_pos rfl]
    simp only [s139_0, s139_1, s139_2, s139_60, s139_61, s139_64, s139_65, s139_66, s139_69, s139_70, s139_71, s139_74, s139_75, s139_76, s139_79, s139_80, s139_81, s139_84, s139_85, s139_86, s139_89, s139_90, s139_91, s139_94, s139_95, s139_96, s139_99, s139_100, s139_101, s139_103, s139_104, s139_107, s139_110, s139_111, s139_112, s139_115, s139_116, s139_117, s139_118, s139_121, s139_122, s139_125, s139_126, s139_129, s139_130, s139_131, s139_134, s139_137, s139_138, s139_139, s139_140, s139_142, s139_143, s139_146, s139_149, s139_150, s139_151, s139_152, s139_155, s139_158, s139_159, s139_160, s139_163, s139_166, s139_167, s139_168, s139_169, s139_171, s139_172, s139_175, s139_178, s139_179, s139_180, s139_183, s139_184, s139_185, s139_186, s139_187, s139_190, s139_193, s139_194, s139_195, s139_196, zl_n, zl_i, zl_r, zl_0, z10, z01, ez_bd_s, ez_bd_n, eq_self, true_or, or_true, if_true, if_false, zb_eq, zb_eq1, zb_em, zb_em2, ite_not, List.append_nil, List.cons_append, List.nil_append, reduceCtorEq, not_true_eq_false, not_false_eq_true, l1, l2, l3]
  rw [if_neg w7]
  by_cases w8 : w = 8
  · subst w8
    rw [(show ez_tgt 8 0 [60, 65, 70, 75, 80, 85, 90, 95, 100, 139, 168] 195 = 100 by decide +kernel), if_pos rfl]
    simp only [s139_0, s139_1, s139_2, s139_60, s139_61, s139_64, s139_65, s139_66, s139_69, s139_70, s139_71, s139_74, s139_75, s139_76, s139_79, s139_80, s139_81, s139_84, s139_85, s139_86, s139_89, s139_90, s139_91, s139_94, s139_95, s139_96, s139_99, s139_100, s139_101, s139_103, s139_104, s139_107, s139_110, s139_111, s139_112, s139_115, s139_116, s139_117, s139_118, s139_121, s139_122, s139_125, s139_126, s139_129, s139_130, s139_131, s139_134, s139_137, s139_138, s139_139, s139_140, s139_142, s139_143, s139_146, s139_149, s139_150, s139_151, s139_152, s139_155, s139_158, s139_159, s139_160, s139_163, s139_166, s139_167, s139_168, s139_169, s139_171, s139_172, s139_175, s139_178, s139_179, s139_180, s139_183, s139_184, s139_185, s139_186, s139_187, s139_190, s139_193, s139_194, s139_195, s139_196, zl_n, zl_i, zl_r, zl_0, z10, z01, ez_bd_s, ez_bd_n, eq_self, true_or, or_true, if_true, if_false, zb_eq, zb_eq1, zb_em, zb_em2, ite_not, List.append_nil, List.cons_append, List.nil_append, reduceCtorEq, not_true_eq_false, not_false_eq_true, l1, l2, l3]
  rw [if_neg w8]
  by_cases w9 : w = 9
  · subst w9
    rw [(show ez_tgt 9 0 [60, 65, 70, 75, 80, 85, 90, 95, 100, 139, 168] 195 = 139 by decide +kernel), if_pos rfl]
    simp only [s139_0, s139_1, s139_2, s139_60, s139_61, s139_64, s139_65, s139_66, s139_69, s139_70, s139_71, s139_74, s139_75, s139_76, s139_79, s139_80, s139_81, s139_84, s139_85, s139_86, s139_89, s139_90, s139_91, s139_94, s139_95, s139_96, s139_99, s139_100, s139_101, s139_103, s139_104, s139_107, s139_110, s139_111, s139_112, s139_115, s139_116, s139_117, s139_118, s139_121, s139_122, s139_125, s139_126, s139_129, s139_130, s139_131, s139_134, s139_137, s139_138, s139_139, s139_140, s139_142, s139_143, s139_146, s139_149, s139_150, s139_151, s139_152, s139_155, s139_158, s139_159, s139_160, s139_163, s139_166, s139_167, s139_168, s139_169, s139_171, s139_172, s139_175, s139_178, s139_179, s139_180, s139_183, s139_184, s139_185, s139_186, s139_187, s139_190, s139_193, s139_194, s139_195, s139_196, zl_n, zl_i, zl_r, zl_0, z10, z01, ez_bd_s, ez_bd_n, eq_self, true_or, or_true, if_true, if_false, zb_eq, zb_eq1, zb_em, zb_em2, ite_not, List.append_nil, List.cons_append, List.nil_append, reduceCtorEq, not_true_eq_false, not_false_eq_true, l1, l2, l3]
  rw [if_neg w9]
  by_cases w10 : w = 10
  · subst w10
    rw [(show ez_tgt 10 0 [60, 65, 70, 75, 80, 85, 90, 95, 100, 139, 168] 195 = 168 by decide +kernel), if_pos rfl]
    simp only [s139_0, s139_1, s139_2, s139_60, s139_61, s139_64, s139_65, s139_66, s139_69, s139_70, s139_71, s139_74, s139_75, s139_76, s139_79, s139_80, s139_81, s139_84, s139_85, s139_86, s139_89, s139_90, s139_91, s139_94, s139_95, s139_96, s139_99, s139_100, s139_101, s139_103, s139_104, s139_107, s139_110, s139_111, s139_112, s139_115, s139_116, s139_117, s139_118, s139_121, s139_122, s139_125, s139_126, s139_129, s139_130, s139_131, s139_134, s139_137, s139_138, s139_139, s139_140, s139_142, s139_143, s139_146, s139_149, s139_150, s139_151, s139_152, s139_155, s139_158, s139_159, s139_160, s139_163, s139_166, s139_167, s139_168, s139_169, s139_171, s139_172, s139_175, s139_178, s139_179, s139_180, s139_183, s139_184, s139_185, s139_186, s139_187, s139_190, s139_193, s139_194, s139_195, s139_196, zl_n, zl_i, zl_r, zl_0, z10, z01, ez_bd_s, ez_bd_n, eq_self, true_or, or_true, if_true, if_false, zb_eq, zb_eq1, zb_em, zb_em2, ite_not, List.append_nil, List.cons_append, List.nil_append, reduceCtorEq, not_true_eq_false, not_false_eq_true, l1, l2, l3]
  rw [if_neg w10]
  have hd : ∀ i, i < 11 → w ≠ nI i := by
    intro i hi
    have : i = 0 ∨ i = 1 ∨ i = 2 ∨ i = 3 ∨ i = 4 ∨ i = 5 ∨ i = 6 ∨ i = 7 ∨ i = 8 ∨ i = 9 ∨ i = 10 := by omega
    rcases this with rfl | rfl | rfl | rfl | rfl | rfl | rfl | rfl | rfl | rfl | rfl
    all_goals assumption
  rw [(tg_d (lo := 0) (ts := [60, 65, 70, 75, 80, 85, 90, 95, 100, 139, 168]) (d := 195) rfl hd)]
  simp only [s139_0, s139_1, s139_2, s139_60, s139_61, s139_64, s139_65, s139_66, s139_69, s139_70, s139_71, s139_74, s139_75, s139_76, s139_79, s139_80, s139_81, s139_84, s139_85, s139_86, s139_89, s139_90, s139_91, s139_94, s139_95, s139_96, s139_99, s139_100, s139_101, s139_102, s139_103, s139_104, s139_107, s139_110, s139_111, s139_112, s139_115, s139_116, s139_117, s139_118, s139_121, s139_122, s139_125, s139_126, s139_129, s139_130, s139_131, s139_134, s139_137, s139_138, s139_139, s139_140, s139_141, s139_142, s139_143, s139_146, s139_149, s139_150, s139_151, s139_152, s139_155, s139_158, s139_159, s139_160, s139_163, s139_166, s139_167, s139_168, s139_169, s139_170, s139_171, s139_172, s139_175, s139_178, s139_179, s139_180, s139_183, s139_184, s139_185, s139_186, s139_187, s139_190, s139_193, s139_194, s139_195, s139_196, zl_n, zl_i, zl_r, zl_0, z10, z01, ez_bd_s, ez_bd_n, eq_self, true_or, or_true, if_true, if_false, zb_eq, zb_eq1, zb_em, zb_em2, ite_not, List.append_nil, List.cons_append, List.nil_append, reduceCtorEq, not_true_eq_false, not_false_eq_true]
def psl (z : md_S) (f : Int32) (j : Nat) : Int32 := if z.2 28 j = f then l_sum (pl_in z (nI j)) (z.1 6).toNatClampNeg else 0
theorem lp_sail {n : Nat} {f : Int32} (h : md_in (z.1 6) 201 = true) (hn : z.1 5 = nI n) (hn2 : n ≤ 40) : ∀ d j, j + d = n → ez_rn g 133 30 [some (.ref m), some (.int f), some (.int (l_sum (psl z f) j)), some (.int (nI j))] [] (md_h h0 m z) = some (some (.int (l_sum (psl z f) n)), md_h h0 m z) := by
  intro d
  induction d with
  | zero =>
    intro j hj
    obtain rfl : j = n := by omega
    rw [s133_30]
    simp only [s133_0, s133_1, s133_2, s133_5, s133_8, s133_9, s133_12, s133_13, s133_14, s133_17, s133_18, s133_19, s133_20, s133_23, s133_24, s133_25, s133_26, s133_27, s133_28, s133_29, s133_31, s133_32, s133_35, s133_38, s133_39, s133_40, s133_43, s133_44, s133_45, s133_46, s133_49, s133_50, s133_51, s133_54, s133_57, s133_58, s133_59, s133_60, s133_63, s133_66, s133_67, zl_n, zl_i, zl_r, zl_0, z10, z01, ez_bd_s, ez_bd_n, eq_self, true_or, or_true, if_true, if_false, zb_eq, zb_eq1, zb_em, zb_em2, ite_not, List.append_nil, List.cons_append, List.nil_append, reduceCtorEq, not_true_eq_false, not_false_eq_true, hn, nI_leT (Nat.le_refl j) (by omega)]
  | succ d ih =>
    intro j hj
    have c1 : (nI j).toNatClampNeg = j := nI_clamp (by omega)
    have c2 : md_in (nI j) 40 = true := md_inN (by omega) (by omega)
    have hx := ih (j + 1) (by omega)
    have q1 := fun q => q_sacksIn' (g := g) (h0 := h0) (m := m) (s := q) h
    simp only [l_sum, psl] at hx
    rw [s133_30]
    simp only [s133_0, s133_1, s133_2, s133_5, s133_8, s133_9, s133_12, s133_13, s133_14, s133_17, s133_18, s133_19, s133_20, s133_23, s133_24, s133_25, s133_26, s133_27, s133_28, s133_29, s133_31, s133_32, s133_35, s133_38, s133_39, s133_40, s133_43, s133_44, s133_45, s133_46, s133_49, s133_50, s133_51, s133_54, s133_57, s133_58, s133_59, s133_60, s133_63, s133_66, s133_67, zl_n, zl_i, zl_r, zl_0, z10, z01, ez_bd_s, ez_bd_n, eq_self, true_or, or_true, if_true, if_false, zb_eq, zb_eq1, zb_em, zb_em2, ite_not, List.append_nil, List.cons_append, List.nil_append, reduceCtorEq, not_true_eq_false, not_false_eq_true, hn, nI_nleI (show j < n by omega) (by omega), c1, c2, nI_1, q1]
    revert hx
    repeat' split
    all_goals exact id
theorem pl_in_A {s i : Nat} {v q : Int32} (h1 : s < 31) : pl_in (md_sA z s i v) q = pl_in z q := by
  funext j
  unfold pl_in
  rw [md_A2n (t := 31) (by omega), md_A2n (t := 33) (by omega)]
theorem psl_A {s i : Nat} {v f : Int32} (h1 : s < 28) : psl (md_sA z s i v) f = psl z f := by
  funext j
  unfold psl
  rw [md_A2n (t := 28) (by omega), pl_in_A (by omega), md_A1]
def pm_sail (z : md_S) (f : Int32) : md_S × Int32 := if 0 ≤ f ∧ f ≤ z.1 4 - 1 then (if z.2 25 f.toNatClampNeg = 0 then (md_sA z 25 f.toNatClampNeg (vp_nar .boolean 1), l_sum (psl z f) (z.1 5).toNatClampNeg) else (z, -1)) else (z, -1)
theorem q_sail {f : Int32} (h : md_in (z.1 6) 201 = true) (hn : md_in (z.1 5) 41 = true) (hf : 0 ≤ f ∧ f ≤ z.1 4 - 1 → md_in f 20 = true) : ez_ev g 133 [.ref m, .int f] (md_h h0 m z) = some (some (.int (pm_sail z f).2), md_h h0 m (pm_sail z f).1) := by
  obtain ⟨e, h2⟩ := md_inE hn
  rw [e133]
  unfold pm_sail
  by_cases h1 : 0 ≤ f ∧ f ≤ z.1 4 - 1
  · have h3 := hf h1
    have lp := lp_sail (g := g) (h0 := h0) (m := m) (z := md_sA z 25 f.toNatClampNeg (vp_nar .boolean 1)) (f := f) h e (by omega) _ 0 (Nat.zero_add _)
    simp only [l_sum, nI_0, psl_A (show 25 < 28 by omega)] at lp
    simp only [s133_0, s133_1, s133_2, s133_5, s133_8, s133_9, s133_12, s133_13, s133_14, s133_17, s133_18, s133_19, s133_20, s133_23, s133_24, s133_25, s133_26, s133_27, s133_28, s133_29, s133_31, s133_32, s133_35, s133_38, s133_39, s133_40, s133_43, s133_44, s133_45, s133_46, s133_49, s133_50, s133_51, s133_54, s133_57, s133_58, s133_59, s133_60, s133_63, s133_66, s133_67, zl_n, zl_i, zl_r, zl_0, z10, z01, ez_bd_s, ez_bd_n, eq_self, true_or, or_true, if_true, if_false, zb_eq, zb_eq1, zb_em, zb_em2, ite_not, List.append_nil, List.cons_append, List.nil_append, reduceCtorEq, not_true_eq_false, not_false_eq_true, q_isFleet, h3, lp]
    simp only [if_pos h1]
    split <;> rfl
  · simp only [s133_0, s133_1, s133_2, s133_5, s133_8, s133_9, s133_12, s133_13, s133_14, s133_17, s133_18, s133_19, s133_20, s133_23, s133_24, s133_25, s133_26, s133_27, s133_28, s133_29, s133_31, s133_32, s133_35, s133_38, s133_39, s133_40, s133_43, s133_44, s133_45, s133_46, s133_49, s133_50, s133_51, s133_54, s133_57, s133_58, s133_59, s133_60, s133_63, s133_66, s133_67, zl_n, zl_i, zl_r, zl_0, z10, z01, ez_bd_s, ez_bd_n, eq_self, true_or, or_true, if_true, if_false, zb_eq, zb_eq1, zb_em, zb_em2, ite_not, List.append_nil, List.cons_append, List.nil_append, reduceCtorEq, not_true_eq_false, not_false_eq_true, q_isFleet]
    simp only [if_neg h1]
/-- BONDS that end with a ship -/
def psk (z : md_S) (s : Int32) : Nat → md_S × Int32
  | 0 => (z, 0)
  | j + 1 => if z.2 31 j = s then (if (psk z s j).1.2 18 (z.2 32 j).toNatClampNeg = 1 then (md_sA (psk z s j).1 18 (z.2 32 j).toNatClampNeg 3, (psk z s j).2 + 1) else psk z s j) else psk z s j
theorem psk_I {s : Int32} : ∀ j, (psk z s j).1.1 = z.1
  | 0 => rfl
  | j + 1 => by
    rw [psk]
    repeat' split
    all_goals exact psk_I j
theorem psk_A {s : Int32} {t : Nat} (ht : t ≠ 18) : ∀ j, (psk z s j).1.2 t = z.2 t
  | 0 => rfl
  | j + 1 => by
    rw [psk]
    repeat' split
    · rw [md_A2n ht]
      exact psk_A ht j
    · exact psk_A ht j
    · exact psk_A ht j
theorem lp_sink {n : Nat} {s : Int32} (hn : z.1 6 = nI n) (hn2 : n ≤ 200) (hl : ∀ j, j < n → md_in (z.2 32 j) 150 = true) : ∀ d j, j + d = n → ∀ x5, ez_rn g 134 74 [some (.ref m), some (.int s), some (.int (psk z s j).2), some (.int 1), some (.int (nI j)), x5] [] (md_h h0 m (psk z s j).1) = some (some (.int (psk z s n).2), md_h h0 m (psk z s n).1) := by
  intro d
  induction d with
  | zero =>
    intro j hj x5
    obtain rfl : j = n := by omega
    rw [s134_74]
    simp only [s134_0, s134_1, s134_2, s134_5, s134_8, s134_9, s134_12, s134_13, s134_16, s134_17, s134_18, s134_19, s134_22, s134_23, s134_26, s134_27, s134_28, s134_31, s134_32, s134_35, s134_36, s134_39, s134_40, s134_41, s134_42, s134_45, s134_46, s134_47, s134_48, s134_51, s134_52, s134_53, s134_54, s134_55, s134_56, s134_57, s134_58, s134_61, s134_62, s134_65, s134_66, s134_69, s134_70, s134_71, s134_72, s134_76, s134_77, s134_80, s134_83, s134_84, s134_87, s134_88, s134_91, s134_93, s134_94, s134_96, s134_97, s134_100, s134_102, s134_103, s134_104, s134_107, s134_108, s134_111, s134_113, s134_114, s134_115, s134_118, s134_121, s134_122, s134_125, s134_127, s134_128, s134_129, s134_132, s134_135, s134_138, s134_139, zl_n, zl_i, zl_r, zl_0, z10, z01, ez_bd_s, ez_bd_n, eq_self, true_or, or_true, if_true, if_false, zb_eq, zb_eq1, zb_em, zb_em2, ite_not, List.append_nil, List.cons_append, List.nil_append, reduceCtorEq, not_true_eq_false, not_false_eq_true, psk_I, hn, nI_leT (Nat.le_refl j) (by omega)]
  | succ d ih =>
    intro j hj x5
    have c1 : (nI j).toNatClampNeg = j := nI_clamp (by omega)
    have c2 : md_in (nI j) 200 = true := md_inN (by omega) (by omega)
    have c3 := hl j (by omega)
    have hx := ih (j + 1) (by omega)
    rw [psk] at hx
    rw [s134_74]
    simp only [s134_0, s134_1, s134_2, s134_5, s134_8, s134_9, s134_12, s134_13, s134_16, s134_17, s134_18, s134_19, s134_22, s134_23, s134_26, s134_27, s134_28, s134_31, s134_32, s134_35, s134_36, s134_39, s134_40, s134_41, s134_42, s134_45, s134_46, s134_47, s134_48, s134_51, s134_52, s134_53, s134_54, s134_55, s134_56, s134_57, s134_58, s134_61, s134_62, s134_65, s134_66, s134_69, s134_70, s134_71, s134_72, s134_76, s134_77, s134_80, s134_83, s134_84, s134_87, s134_88, s134_91, s134_93, s134_94, s134_96, s134_97, s134_100, s134_102, s134_103, s134_104, s134_107, s134_108, s134_111, s134_113, s134_114, s134_115, s134_118, s134_121, s134_122, s134_125, s134_127, s134_128, s134_129, s134_132, s134_135, s134_138, s134_139, zl_n, zl_i, zl_r, zl_0, z10, z01, ez_bd_s, ez_bd_n, eq_self, true_or, or_true, if_true, if_false, zb_eq, zb_eq1, zb_em, zb_em2, ite_not, List.append_nil, List.cons_append, List.nil_append, reduceCtorEq, not_true_eq_false, not_false_eq_true, psk_I, psk_A (show 31 ≠ 18 by omega), psk_A (show 32 ≠ 18 by omega), hn, nI_nleI (show j < n by omega) (by omega), c1, c2, c3, nI_1]
    revert hx
    repeat' split
    all_goals (intro hx; exact hx _)
theorem md_A20 {s i : Nat} {v : Int32} : (md_sA z s i v).1 = z.1 := id rfl
def pm_sink (z : md_S) (s : Int32) : md_S × Int32 := if 0 ≤ s ∧ s ≤ z.1 5 - 1 then (if z.2 25 (z.2 28 s.toNatClampNeg).toNatClampNeg = 0 then (z, -1) else (if z.2 30 s.toNatClampNeg = 0 then (if z.2 26 (z.2 28 s.toNatClampNeg).toNatClampNeg = 0 then (if plast z (pfd z (z.1 0)) 3 = 1 then psk (md_sA z 30 s.toNatClampNeg (vp_nar .boolean 1)) s (z.1 6).toNatClampNeg else (md_sA z 30 s.toNatClampNeg (vp_nar .boolean 1), 0)) else (z, -1)) else (z, -1))) else (z, -1)
theorem q_sink {s : Int32} (hs : md_sts z) (h : md_in (z.1 6) 201 = true) (hf : 0 ≤ s ∧ s ≤ z.1 5 - 1 → md_in s 40 = true ∧ md_in (z.2 28 s.toNatClampNeg) 20 = true) (hl : ∀ j, j < (z.1 6).toNatClampNeg → md_in (z.2 32 j) 150 = true) : ez_ev g 134 [.ref m, .int s] (md_h h0 m z) = some (some (.int (pm_sink z s).2), md_h h0 m (pm_sink z s).1) := by
  obtain ⟨e, h2⟩ := md_inE h
  rw [e134]
  unfold pm_sink
  by_cases h1 : 0 ≤ s ∧ s ≤ z.1 5 - 1
  · obtain ⟨h3, h4⟩ := hf h1
    have hz : md_sts (md_sA z 30 s.toNatClampNeg (vp_nar .boolean 1)) := md_sts_A (by omega) hs
    have q2 := fun w => q_lastOf (g := g) (h0 := h0) (m := m) (w := w) hz
    simp only [pfd_A (show 30 ≠ 43 by omega) (show 30 ≠ 42 by omega), plast_A (show 30 < 41 by omega), md_A1] at q2
    have lp := lp_sink (g := g) (h0 := h0) (m := m) (z := md_sA z 30 s.toNatClampNeg (vp_nar .boolean 1)) (s := s) e (by omega) (by rw [md_A2n (t := 32) (by omega)]; exact hl) _ 0 (Nat.zero_add _)
    simp only [psk, nI_0] at lp
    by_cases h5 : plast z (pfd z (z.1 0)) 3 = 1
    · simp only [s134_0, s134_1, s134_2, s134_5, s134_8, s134_9, s134_12, s134_13, s134_16, s134_17, s134_18, s134_19, s134_22, s134_23, s134_26, s134_27, s134_28, s134_31, s134_32, s134_35, s134_36, s134_39, s134_40, s134_41, s134_42, s134_45, s134_46, s134_47, s134_48, s134_51, s134_52, s134_53, s134_54, s134_55, s134_56, s134_57, s134_58, s134_61, s134_62, s134_65, s134_66, s134_69, s134_70, s134_71, s134_72, s134_76, s134_77, s134_80, s134_83, s134_84, s134_87, s134_88, s134_91, s134_93, s134_94, s134_96, s134_97, s134_100, s134_102, s134_103, s134_104, s134_107, s134_108, s134_111, s134_113, s134_114, s134_115, s134_118, s134_121, s134_122, s134_125, s134_127, s134_128, s134_129, s134_132, s134_135, s134_138, s134_139, zl_n, zl_i, zl_r, zl_0, z10, z01, ez_bd_s, ez_bd_n, eq_self, true_or, or_true, if_true, if_false, zb_eq, zb_eq1, zb_em, zb_em2, ite_not, List.append_nil, List.cons_append, List.nil_append, reduceCtorEq, not_true_eq_false, not_false_eq_true, q_isShip, h3, h4, q2, h5, lp]
      simp only [if_pos h1]
      repeat' split
      all_goals rfl
    · have lq : ∀ x5, ez_rn g 134 74 [some (.ref m), some (.int s), some (.int 0), some (.int 0), some (.int 0), x5] [] (md_h h0 m (md_sA z 30 s.toNatClampNeg (vp_nar .boolean 1))) = some (some (.int 0), md_h h0 m (md_sA z 30 s.toNatClampNeg (vp_nar .boolean 1))) := by
        intro x5
        rw [s134_74]
        simp only [s134_0, s134_1, s134_2, s134_5, s134_8, s134_9, s134_12, s134_13, s134_16, s134_17, s134_18, s134_19, s134_22, s134_23, s134_26, s134_27, s134_28, s134_31, s134_32, s134_35, s134_36, s134_39, s134_40, s134_41, s134_42, s134_45, s134_46, s134_47, s134_48, s134_51, s134_52, s134_53, s134_54, s134_55, s134_56, s134_57, s134_58, s134_61, s134_62, s134_65, s134_66, s134_69, s134_70, s134_71, s134_72, s134_76, s134_77, s134_80, s134_83, s134_84, s134_87, s134_88, s134_91, s134_93, s134_94, s134_96, s134_97, s134_100, s134_102, s134_103, s134_104, s134_107, s134_108, s134_111, s134_113, s134_114, s134_115, s134_118, s134_121, s134_122, s134_125, s134_127, s134_128, s134_129, s134_132, s134_135, s134_138, s134_139, zl_n, zl_i, zl_r, zl_0, z10, z01, ez_bd_s, ez_bd_n, eq_self, true_or, or_true, if_true, if_false, zb_eq, zb_eq1, zb_em, zb_em2, ite_not, List.append_nil, List.cons_append, List.nil_append, reduceCtorEq, not_true_eq_false, not_false_eq_true, ite_self]
      simp only [s134_0, s134_1, s134_2, s134_5, s134_8, s134_9, s134_12, s134_13, s134_16, s134_17, s134_18, s134_19, s134_22, s134_23, s134_26, s134_27, s134_28, s134_31, s134_32, s134_35, s134_36, s134_39, s134_40, s134_41, s134_42, s134_45, s134_46, s134_47, s134_48, s134_51, s134_52, s134_53, s134_54, s134_55, s134_56, s134_57, s134_58, s134_61, s134_62, s134_65, s134_66, s134_69, s134_70, s134_71, s134_72, s134_76, s134_77, s134_80, s134_83, s134_84, s134_87, s134_88, s134_91, s134_93, s134_94, s134_96, s134_97, s134_100, s134_102, s134_103, s134_104, s134_107, s134_108, s134_111, s134_113, s134_114, s134_115, s134_118, s134_121, s134_122, s134_125, s134_127, s134_128, s134_129, s134_132, s134_135, s134_138, s134_139, zl_n, zl_i, zl_r, zl_0, z10, z01, ez_bd_s, ez_bd_n, eq_self, true_or, or_true, if_true, if_false, zb_eq, zb_eq1, zb_em, zb_em2, ite_not, List.append_nil, List.cons_append, List.nil_append, reduceCtorEq, not_true_eq_false, not_false_eq_true, q_isShip, h3, h4, q2, h5, lq]
      simp only [if_pos h1]
      repeat' split
      all_goals rfl
  · simp only [s134_0, s134_1, s134_2, s134_5, s134_8, s134_9, s134_12, s134_13, s134_16, s134_17, s134_18, s134_19, s134_22, s134_23, s134_26, s134_27, s134_28, s134_31, s134_32, s134_35, s134_36, s134_39, s134_40, s134_41, s134_42, s134_45, s134_46, s134_47, s134_48, s134_51, s134_52, s134_53, s134_54, s134_55, s134_56, s134_57, s134_58, s134_61, s134_62, s134_65, s134_66, s134_69, s134_70, s134_71, s134_72, s134_76, s134_77, s134_80, s134_83, s134_84, s134_87, s134_88, s134_91, s134_93, s134_94, s134_96, s134_97, s134_100, s134_102, s134_103, s134_104, s134_107, s134_108, s134_111, s134_113, s134_114, s134_115, s134_118, s134_121, s134_122, s134_125, s134_127, s134_128, s134_129, s134_132, s134_135, s134_138, s134_139, zl_n, zl_i, zl_r, zl_0, z10, z01, ez_bd_s, ez_bd_n, eq_self, true_or, or_true, if_true, if_false, zb_eq, zb_eq1, zb_em, zb_em2, ite_not, List.append_nil, List.cons_append, List.nil_append, reduceCtorEq, not_true_eq_false, not_false_eq_true, q_isShip]
    simp only [if_neg h1]
end M6
