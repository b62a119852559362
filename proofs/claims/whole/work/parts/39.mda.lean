section M10
variable {g : ez_G} {h0 : ez_H} {m : Nat} {z y : md_S}
def pcp (z : md_S) : Nat → md_S
  | 0 => z
  | j + 1 => md_sA (pcp z j) 35 j (z.2 34 j).toInt8.toInt32
theorem pcp_I : ∀ j, (pcp z j).1 = z.1
  | 0 => rfl
  | j + 1 => by
    rw [pcp, md_A1]
    exact pcp_I j
theorem pcp_A {t : Nat} (ht : t ≠ 35) : ∀ j, (pcp z j).2 t = z.2 t
  | 0 => rfl
  | j + 1 => by
    rw [pcp, md_A2n ht]
    exact pcp_A ht j
theorem pcp_T {i : Nat} : ∀ j, (pcp z j).2 35 i = if i < j then (z.2 34 i).toInt8.toInt32 else z.2 35 i
  | 0 => by
    rw [if_neg (by omega)]
    rfl
  | j + 1 => by
    rw [pcp, md_A2, if_pos rfl]
    unfold upd
    have ih := pcp_T (i := i) j
    by_cases h : i = j
    · subst h
      rw [if_pos rfl, if_pos (by omega)]
    · rw [if_neg h, ih]
      by_cases h2 : i < j
      · rw [if_pos h2, if_pos (by omega)]
      · rw [if_neg h2, if_neg (by omega)]
theorem lp_copy {n : Nat} (hn2 : n ≤ 600) : ∀ d j, j + d = n → ez_rn g 108 29 [some (.ref m), some (.int (nI n)), some (.int (nI j))] [] (md_h h0 m (pcp z j)) = ez_rn g 108 52 [some (.ref m), some (.int (nI n)), some (.int (nI n))] [] (md_h h0 m (pcp z n)) := by
  intro d
  induction d with
  | zero =>
    intro j hj
    obtain rfl : j = n := by omega
    rw [s108_29]
    simp only [s108_0, s108_1, s108_2, s108_3, s108_6, s108_9, s108_12, s108_14, s108_15, s108_16, s108_19, s108_21, s108_24, s108_26, s108_27, s108_28, s108_30, s108_31, s108_34, s108_35, s108_38, s108_39, s108_40, s108_43, s108_44, s108_45, s108_46, s108_49, s108_53, s108_54, s108_57, s108_58, s108_59, s108_62, s108_63, s108_64, s108_67, s108_68, s108_71, s108_72, s108_75, s108_76, s108_77, s108_78, s108_79, s108_80, s108_84, s108_87, s108_88, s108_91, s108_92, s108_95, s108_98, s108_99, s108_102, s108_103, s108_106, s108_107, s108_109, s108_112, s108_113, s108_115, s108_116, s108_119, s108_120, s108_121, s108_124, s108_125, s108_128, s108_129, s108_130, s108_133, s108_136, s108_137, s108_140, s108_141, s108_142, s108_143, s108_146, s108_149, s108_150, s108_153, s108_154, s108_157, s108_158, s108_159, s108_160, s108_161, s108_162, s108_163, s108_166, s108_169, s108_170, s108_171, s108_174, s108_175, s108_178, s108_179, s108_182, s108_185, s108_186, s108_189, s108_190, s108_191, s108_192, s108_195, s108_196, s108_199, s108_200, s108_203, s108_204, s108_205, s108_206, s108_209, s108_210, s108_211, s108_214, s108_215, s108_218, s108_219, s108_220, zl_n, zl_i, zl_r, zl_0, z10, z01, ez_bd_s, ez_bd_n, eq_self, true_or, or_true, if_true, if_false, zb_eq, zb_eq1, zb_em, zb_em2, ite_not, List.append_nil, List.cons_append, List.nil_append, reduceCtorEq, not_true_eq_false, not_false_eq_true, nI_leT (Nat.le_refl j) (by omega)]
  | succ d ih =>
    intro j hj
    have c1 : (nI j).toNatClampNeg = j := nI_clamp (by omega)
    have c2 : md_in (nI j) 600 = true := md_inN (by omega) (by omega)
    have hx := ih (j + 1) (by omega)
    rw [pcp] at hx
    rw [s108_29]
    simp only [s108_0, s108_1, s108_2, s108_3, s108_6, s108_9, s108_12, s108_14, s108_15, s108_16, s108_19, s108_21, s108_24, s108_26, s108_27, s108_28, s108_30, s108_31, s108_34, s108_35, s108_38, s108_39, s108_40, s108_43, s108_44, s108_45, s108_46, s108_49, s108_53, s108_54, s108_57, s108_58, s108_59, s108_62, s108_63, s108_64, s108_67, s108_68, s108_71, s108_72, s108_75, s108_76, s108_77, s108_78, s108_79, s108_80, s108_84, s108_87, s108_88, s108_91, s108_92, s108_95, s108_98, s108_99, s108_102, s108_103, s108_106, s108_107, s108_109, s108_112, s108_113, s108_115, s108_116, s108_119, s108_120, s108_121, s108_124, s108_125, s108_128, s108_129, s108_130, s108_133, s108_136, s108_137, s108_140, s108_141, s108_142, s108_143, s108_146, s108_149, s108_150, s108_153, s108_154, s108_157, s108_158, s108_159, s108_160, s108_161, s108_162, s108_163, s108_166, s108_169, s108_170, s108_171, s108_174, s108_175, s108_178, s108_179, s108_182, s108_185, s108_186, s108_189, s108_190, s108_191, s108_192, s108_195, s108_196, s108_199, s108_200, s108_203, s108_204, s108_205, s108_206, s108_209, s108_210, s108_211, s108_214, s108_215, s108_218, s108_219, s108_220, zl_n, zl_i, zl_r, zl_0, z10, z01, ez_bd_s, ez_bd_n, eq_self, true_or, or_true, if_true, if_false, zb_eq, zb_eq1, zb_em, zb_em2, ite_not, List.append_nil, List.cons_append, List.nil_append, reduceCtorEq, not_true_eq_false, not_false_eq_true, nI_nleI (show j < n by omega) (by omega), c1, c2, nI_1, pcp_A (show 34 ≠ 35 by omega)]
    exact hx
/-- statement upon statement -/
def alp (S : Nat) : Nat → md_S → md_S × Int32
  | 0, z => (z, 0)
  | d + 1, z => if z.1 37 ≤ z.1 38 then (z, 1) else if 16 ≤ z.2 41 S then (z, 0) else if (pm_st z (16 * S + (z.2 41 S).toNatClampNeg)).2 = 0 then ((pm_st z (16 * S + (z.2 41 S).toNatClampNeg)).1, 0) else alp S d (pm_bl (md_sA (pm_st z (16 * S + (z.2 41 S).toNatClampNeg)).1 41 S (z.2 41 S + 1)))
theorem lp_adopt {S : Nat} {n : Int32} (hS : S < 20) : ∀ d k z, k + d = 17 → z.2 41 S = nI k → k ≤ 16 → z.1 40 = nI S → md_p z → ez_rn g 108 83 [some (.ref m), some (.int n), some (.int 1)] [] (md_h h0 m z) = ez_rn g 108 169 [some (.ref m), some (.int n), some (.int (alp S d z).2)] [] (md_h h0 m (alp S d z).1) := by
  have c0 : (nI S).toNatClampNeg = S := nI_clamp (by omega)
  have c9 : md_in (nI S) 21 = true := md_inN (by omega) (by omega)
  have r0 : ∀ y, ez_rn g 108 83 [some (.ref m), some (.int n), some (.int 0)] [] (md_h h0 m y) = ez_rn g 108 169 [some (.ref m), some (.int n), some (.int 0)] [] (md_h h0 m y) := by
    intro y
    rw [s108_83]
    simp only [s108_0, s108_1, s108_2, s108_3, s108_6, s108_9, s108_12, s108_14, s108_15, s108_16, s108_19, s108_21, s108_24, s108_26, s108_27, s108_28, s108_30, s108_31, s108_34, s108_35, s108_38, s108_39, s108_40, s108_43, s108_44, s108_45, s108_46, s108_49, s108_52, s108_53, s108_54, s108_57, s108_58, s108_59, s108_62, s108_63, s108_64, s108_67, s108_68, s108_71, s108_72, s108_75, s108_76, s108_77, s108_78, s108_79, s108_80, s108_84, s108_87, s108_88, s108_91, s108_92, s108_95, s108_98, s108_99, s108_102, s108_103, s108_106, s108_107, s108_109, s108_112, s108_113, s108_115, s108_116, s108_119, s108_120, s108_121, s108_124, s108_125, s108_128, s108_129, s108_130, s108_133, s108_136, s108_137, s108_140, s108_141, s108_142, s108_143, s108_146, s108_149, s108_150, s108_153, s108_154, s108_157, s108_158, s108_159, s108_160, s108_161, s108_162, s108_163, s108_166, s108_170, s108_171, s108_174, s108_175, s108_178, s108_179, s108_182, s108_185, s108_186, s108_189, s108_190, s108_191, s108_192, s108_195, s108_196, s108_199, s108_200, s108_203, s108_204, s108_205, s108_206, s108_209, s108_210, s108_211, s108_214, s108_215, s108_218, s108_219, s108_220, zl_n, zl_i, zl_r, zl_0, z10, z01, ez_bd_s, ez_bd_n, eq_self, true_or, or_true, if_true, if_false, zb_eq, zb_eq1, zb_em, zb_em2, ite_not, List.append_nil, List.cons_append, List.nil_append, reduceCtorEq, not_true_eq_false, not_false_eq_true]
  intro d
  induction d with
  | zero =>
    intro k z hk h41 h16
    omega
  | succ d ih =>
    intro k z hk h41 h16 h40 hp
    have c1 : (nI k).toNatClampNeg = k := nI_clamp (by omega)
    rw [alp, s108_83]
    by_cases e1 : z.1 37 ≤ z.1 38
    · rw [if_pos e1]
      simp only [s108_0, s108_1, s108_2, s108_3, s108_6, s108_9, s108_12, s108_14, s108_15, s108_16, s108_19, s108_21, s108_24, s108_26, s108_27, s108_28, s108_30, s108_31, s108_34, s108_35, s108_38, s108_39, s108_40, s108_43, s108_44, s108_45, s108_46, s108_49, s108_52, s108_53, s108_54, s108_57, s108_58, s108_59, s108_62, s108_63, s108_64, s108_67, s108_68, s108_71, s108_72, s108_75, s108_76, s108_77, s108_78, s108_79, s108_80, s108_84, s108_87, s108_88, s108_91, s108_92, s108_95, s108_98, s108_99, s108_102, s108_103, s108_106, s108_107, s108_109, s108_112, s108_113, s108_115, s108_116, s108_119, s108_120, s108_121, s108_124, s108_125, s108_128, s108_129, s108_130, s108_133, s108_136, s108_137, s108_140, s108_141, s108_142, s108_143, s108_146, s108_149, s108_150, s108_153, s108_154, s108_157, s108_158, s108_159, s108_160, s108_161, s108_162, s108_163, s108_166, s108_170, s108_171, s108_174, s108_175, s108_178, s108_179, s108_182, s108_185, s108_186, s108_189, s108_190, s108_191, s108_192, s108_195, s108_196, s108_199, s108_200, s108_203, s108_204, s108_205, s108_206, s108_209, s108_210, s108_211, s108_214, s108_215, s108_218, s108_219, s108_220, zl_n, zl_i, zl_r, zl_0, z10, z01, ez_bd_s, ez_bd_n, eq_self, true_or, or_true, if_true, if_false, zb_eq, zb_eq1, zb_em, zb_em2, ite_not, List.append_nil, List.cons_append, List.nil_append, reduceCtorEq, not_true_eq_false, not_false_eq_true, e1]
    · rw [if_neg e1]
      by_cases e2 : 16 ≤ z.2 41 S
      · rw [if_pos e2]
        simp only [s108_0, s108_1, s108_2, s108_3, s108_6, s108_9, s108_12, s108_14, s108_15, s108_16, s108_19, s108_21, s108_24, s108_26, s108_27, s108_28, s108_30, s108_31, s108_34, s108_35, s108_38, s108_39, s108_40, s108_43, s108_44, s108_45, s108_46, s108_49, s108_52, s108_53, s108_54, s108_57, s108_58, s108_59, s108_62, s108_63, s108_64, s108_67, s108_68, s108_71, s108_72, s108_75, s108_76, s108_77, s108_78, s108_79, s108_80, s108_84, s108_87, s108_88, s108_91, s108_92, s108_95, s108_98, s108_99, s108_102, s108_103, s108_106, s108_107, s108_109, s108_112, s108_113, s108_115, s108_116, s108_119, s108_120, s108_121, s108_124, s108_125, s108_128, s108_129, s108_130, s108_133, s108_136, s108_137, s108_140, s108_141, s108_142, s108_143, s108_146, s108_149, s108_150, s108_153, s108_154, s108_157, s108_158, s108_159, s108_160, s108_161, s108_162, s108_163, s108_166, s108_170, s108_171, s108_174, s108_175, s108_178, s108_179, s108_182, s108_185, s108_186, s108_189, s108_190, s108_191, s108_192, s108_195, s108_196, s108_199, s108_200, s108_203, s108_204, s108_205, s108_206, s108_209, s108_210, s108_211, s108_214, s108_215, s108_218, s108_219, s108_220, zl_n, zl_i, zl_r, zl_0, z10, z01, ez_bd_s, ez_bd_n, eq_self, true_or, or_true, if_true, if_false, zb_eq, zb_eq1, zb_em, zb_em2, ite_not, List.append_nil, List.cons_append, List.nil_append, reduceCtorEq, not_true_eq_false, not_false_eq_true, e1, h40, c0, c9, e2, r0]
      · rw [if_neg e2]
        have hk16 : k < 16 := by
          refine Nat.lt_of_not_le fun h => e2 ?_
          rw [h41]
          exact nI_le (a := 16) h (by omega)
        have q1 := q_statement (g := g) (h0 := h0) (m := m) (k := 16 * S + k) (by omega) hp
        rw [h41, c1]
        have fr := fr_st (z := z) (k := 16 * S + k)
        have pp := md_p_st (k := 16 * S + k) hp
        generalize hy : pm_st z (16 * S + k) = t at *
        by_cases e3 : t.2 = 0
        · rw [if_pos e3]
          simp only [s108_0, s108_1, s108_2, s108_3, s108_6, s108_9, s108_12, s108_14, s108_15, s108_16, s108_19, s108_21, s108_24, s108_26, s108_27, s108_28, s108_30, s108_31, s108_34, s108_35, s108_38, s108_39, s108_40, s108_43, s108_44, s108_45, s108_46, s108_49, s108_52, s108_53, s108_54, s108_57, s108_58, s108_59, s108_62, s108_63, s108_64, s108_67, s108_68, s108_71, s108_72, s108_75, s108_76, s108_77, s108_78, s108_79, s108_80, s108_84, s108_87, s108_88, s108_91, s108_92, s108_95, s108_98, s108_99, s108_102, s108_103, s108_106, s108_107, s108_109, s108_112, s108_113, s108_115, s108_116, s108_119, s108_120, s108_121, s108_124, s108_125, s108_128, s108_129, s108_130, s108_133, s108_136, s108_137, s108_140, s108_141, s108_142, s108_143, s108_146, s108_149, s108_150, s108_153, s108_154, s108_157, s108_158, s108_159, s108_160, s108_161, s108_162, s108_163, s108_166, s108_170, s108_171, s108_174, s108_175, s108_178, s108_179, s108_182, s108_185, s108_186, s108_189, s108_190, s108_191, s108_192, s108_195, s108_196, s108_199, s108_200, s108_203, s108_204, s108_205, s108_206, s108_209, s108_210, s108_211, s108_214, s108_215, s108_218, s108_219, s108_220, zl_n, zl_i, zl_r, zl_0, z10, z01, ez_bd_s, ez_bd_n, eq_self, true_or, or_true, if_true, if_false, zb_eq, zb_eq1, zb_em, zb_em2, ite_not, List.append_nil, List.cons_append, List.nil_append, reduceCtorEq, not_true_eq_false, not_false_eq_true, e1, h40, c0, c9, e2, h41, nI_m16, nI_add, q1, e3, r0]
          rw [h41] at e2
          simp only [s108_0, s108_1, s108_2, s108_3, s108_6, s108_9, s108_12, s108_14, s108_15, s108_16, s108_19, s108_21, s108_24, s108_26, s108_27, s108_28, s108_30, s108_31, s108_34, s108_35, s108_38, s108_39, s108_40, s108_43, s108_44, s108_45, s108_46, s108_49, s108_52, s108_53, s108_54, s108_57, s108_58, s108_59, s108_62, s108_63, s108_64, s108_67, s108_68, s108_71, s108_72, s108_75, s108_76, s108_77, s108_78, s108_79, s108_80, s108_84, s108_87, s108_88, s108_91, s108_92, s108_95, s108_98, s108_99, s108_102, s108_103, s108_106, s108_107, s108_109, s108_112, s108_113, s108_115, s108_116, s108_119, s108_120, s108_121, s108_124, s108_125, s108_128, s108_129, s108_130, s108_133, s108_136, s108_137, s108_140, s108_141, s108_142, s108_143, s108_146, s108_149, s108_150, s108_153, s108_154, s108_157, s108_158, s108_159, s108_160, s108_161, s108_162, s108_163, s108_166, s108_170, s108_171, s108_174, s108_175, s108_178, s108_179, s108_182, s108_185, s108_186, s108_189, s108_190, s108_191, s108_192, s108_195, s108_196, s108_199, s108_200, s108_203, s108_204, s108_205, s108_206, s108_209, s108_210, s108_211, s108_214, s108_215, s108_218, s108_219, s108_220, zl_n, zl_i, zl_r, zl_0, z10, z01, ez_bd_s, ez_bd_n, eq_self, true_or, or_true, if_true, if_false, zb_eq, zb_eq1, zb_em, zb_em2, ite_not, List.append_nil, List.cons_append, List.nil_append, reduceCtorEq, not_true_eq_false, not_false_eq_true, e2, q1, e3, r0]
        · rw [if_neg e3]
          have g40 : t.1.1 40 = nI S := (fr.1 40 (by omega) (by omega) (by omega)).trans h40
          have g41 : t.1.2 41 S = nI k := (congrFun (fr.2 41 (by omega)) S).trans h41
          have pq : md_p (md_sA t.1 41 S (nI k + 1)) := md_p_A pp
          have hx := ih (k + 1) (pm_bl (md_sA t.1 41 S (nI k + 1))) (by omega) (by
            show upd (t.1.2 41) S (nI k + 1) S = _
            rw [pk_us, nI_1]) (by omega) g40 (md_p_bl pq)
          rw [h41] at e2
          simp only [s108_0, s108_1, s108_2, s108_3, s108_6, s108_9, s108_12, s108_14, s108_15, s108_16, s108_19, s108_21, s108_24, s108_26, s108_27, s108_28, s108_30, s108_31, s108_34, s108_35, s108_38, s108_39, s108_40, s108_43, s108_44, s108_45, s108_46, s108_49, s108_52, s108_53, s108_54, s108_57, s108_58, s108_59, s108_62, s108_63, s108_64, s108_67, s108_68, s108_71, s108_72, s108_75, s108_76, s108_77, s108_78, s108_79, s108_80, s108_84, s108_87, s108_88, s108_91, s108_92, s108_95, s108_98, s108_99, s108_102, s108_103, s108_106, s108_107, s108_109, s108_112, s108_113, s108_115, s108_116, s108_119, s108_120, s108_121, s108_124, s108_125, s108_128, s108_129, s108_130, s108_133, s108_136, s108_137, s108_140, s108_141, s108_142, s108_143, s108_146, s108_149, s108_150, s108_153, s108_154, s108_157, s108_158, s108_159, s108_160, s108_161, s108_162, s108_163, s108_166, s108_170, s108_171, s108_174, s108_175, s108_178, s108_179, s108_182, s108_185, s108_186, s108_189, s108_190, s108_191, s108_192, s108_195, s108_196, s108_199, s108_200, s108_203, s108_204, s108_205, s108_206, s108_209, s108_210, s108_211, s108_214, s108_215, s108_218, s108_219, s108_220, zl_n, zl_i, zl_r, zl_0, z10, z01, ez_bd_s, ez_bd_n, eq_self, true_or, or_true, if_true, if_false, zb_eq, zb_eq1, zb_em, zb_em2, ite_not, List.append_nil, List.cons_append, List.nil_append, reduceCtorEq, not_true_eq_false, not_false_eq_true, e1, h40, c0, c9, e2, h41, nI_m16, nI_add, q1, e3, g40, g41, q_blanks pq]
          exact hx
def pm_z2 (z : md_S) (n : Int32) : md_S := md_sA (md_sI (md_sI (md_sI (pcp z n.toNatClampNeg) 37 n) 36 0) 38 0) 41 (z.1 40).toNatClampNeg 0
def pm_al (z : md_S) (n : Int32) : md_S × Int32 := alp (z.1 40).toNatClampNeg 17 (pm_bl (pm_z2 z n))
def pm_adopt (z : md_S) (n : Int32) : md_S × Int32 := if 0 ≤ n ∧ n ≤ z.1 36 then (if z.1 40 = 20 then (z, -3) else (if (pm_al z n).2 = 0 then (md_sI (pm_al z n).1 39 ((pm_al z n).1.1 38), -1) else (md_sI (md_sA (md_sI (pm_al z n).1 39 (-1)) 42 (z.1 40).toNatClampNeg (z.1 0)) 40 (z.1 40 + 1), z.1 40 + 1 - 1))) else (z, -2)
theorem fr_alp {S : Nat} : ∀ d z, (∀ t, t ≠ 38 → t ≠ 49 → t ≠ 50 → (alp S d z).1.1 t = z.1 t) ∧ ∀ t, t ≠ 41 → t < 44 ∨ 48 < t → (alp S d z).1.2 t = z.2 t
  | 0, z => ⟨fun _ _ _ _ => rfl, fun _ _ _ => rfl⟩
  | d + 1, z => by
    have fr := fr_st (z := z) (k := 16 * S + (z.2 41 S).toNatClampNeg)
    rw [alp]
    repeat' split
    all_goals try dsimp only
    · exact ⟨fun _ _ _ _ => rfl, fun _ _ _ => rfl⟩
    · exact ⟨fun _ _ _ _ => rfl, fun _ _ _ => rfl⟩
    · exact ⟨fr.1, fun t _ h => fr.2 t h⟩
    · have ih := fr_alp (S := S) d (pm_bl (md_sA (pm_st z (16 * S + (z.2 41 S).toNatClampNeg)).1 41 S (z.2 41 S + 1)))
      refine ⟨fun t h1 h2 h3 => (ih.1 t h1 h2 h3).trans ?_, fun t h1 h2 => (ih.2 t h1 h2).trans ?_⟩
      · rw [fr_bl.1 t h1 h2 h3, md_A1]
        exact fr.1 t h1 h2 h3
      · rw [fr_bl.2 t h2, md_A2n h1]
        exact fr.2 t h2
theorem q_adopt {n : Int32} (ht : md_in (z.1 36) 601 = true) (hS : z.1 40 = 20 ∨ md_in (z.1 40) 20 = true) : ez_ev g 108 [.ref m, .int n] (md_h h0 m z) = some (some (.int (pm_adopt z n).2), md_h h0 m (pm_adopt z n).1) := by
  rw [e108]
  unfold pm_adopt
  by_cases h1 : 0 ≤ n ∧ n ≤ z.1 36
  · rw [if_pos h1]
    by_cases h2 : z.1 40 = 20
    · rw [if_pos h2]
      simp only [s108_0, s108_1, s108_2, s108_3, s108_6, s108_9, s108_12, s108_14, s108_15, s108_16, s108_19, s108_21, s108_24, s108_26, s108_27, s108_28, s108_30, s108_31, s108_34, s108_35, s108_38, s108_39, s108_40, s108_43, s108_44, s108_45, s108_46, s108_49, s108_52, s108_53, s108_54, s108_57, s108_58, s108_59, s108_62, s108_63, s108_64, s108_67, s108_68, s108_71, s108_72, s108_75, s108_76, s108_77, s108_78, s108_79, s108_80, s108_84, s108_87, s108_88, s108_91, s108_92, s108_95, s108_98, s108_99, s108_102, s108_103, s108_106, s108_107, s108_109, s108_112, s108_113, s108_115, s108_116, s108_119, s108_120, s108_121, s108_124, s108_125, s108_128, s108_129, s108_130, s108_133, s108_136, s108_137, s108_140, s108_141, s108_142, s108_143, s108_146, s108_149, s108_150, s108_153, s108_154, s108_157, s108_158, s108_159, s108_160, s108_161, s108_162, s108_163, s108_166, s108_169, s108_170, s108_171, s108_174, s108_175, s108_178, s108_179, s108_182, s108_185, s108_186, s108_189, s108_190, s108_191, s108_192, s108_195, s108_196, s108_199, s108_200, s108_203, s108_204, s108_205, s108_206, s108_209, s108_210, s108_211, s108_214, s108_215, s108_218, s108_219, s108_220, zl_n, zl_i, zl_r, zl_0, z10, z01, ez_bd_s, ez_bd_n, eq_self, true_or, or_true, if_true, if_false, zb_eq, zb_eq1, zb_em, zb_em2, ite_not, List.append_nil, List.cons_append, List.nil_append, reduceCtorEq, not_true_eq_false, not_false_eq_true, q_isIn, h1, and_self, h2]
    · rw [if_neg h2]
      have h3 := hS.resolve_left h2
      obtain ⟨e3, h4⟩ := md_inE h3
      obtain ⟨e5, h5⟩ := md_inE ht
      obtain ⟨j, hj, rfl⟩ := nI_of (x := n) (Int32.not_lt.mpr h1.1)
      have hj6 : j ≤ (z.1 36).toNatClampNeg := by
        have := h1.2
        rw [e5] at this
        exact (nI_leI hj (by omega)).mp this
      have c1 : (nI j).toNatClampNeg = j := nI_clamp hj
      have c9 : md_in (z.1 40) 21 = true := by rw [e3]; exact md_inN (by omega) (by omega)
      have lp := lp_copy (g := g) (h0 := h0) (m := m) (z := z) (n := j) (by omega) j 0 (Nat.zero_add _)
      rw [pcp, nI_0] at lp
      have p2 : md_p (pm_z2 z (nI j)) := by
        refine ⟨?_, ?_, ?_⟩
        · show md_in (nI j) 601 = true
          exact md_inN (by omega) (by omega)
        · show md_in 0 601 = true
          decide
        · exact Nat.zero_le _
      have i2 : ∀ t, t ≠ 36 → t ≠ 37 → t ≠ 38 → (pm_bl (pm_z2 z (nI j))).1 t = z.1 t := by
        intro t t1 t2 t3
        unfold pm_bl pm_z2
        rw [md_AI1 t3, md_A1, md_AI1 t3, md_AI1 t1, md_AI1 t2, pcp_I]
      have l2 := lp_adopt (g := g) (h0 := h0) (m := m) (n := nI j) h4 17 0 (pm_bl (pm_z2 z (nI j))) rfl (by
        show upd ((pcp z (nI j).toNatClampNeg).2 41) (z.1 40).toNatClampNeg 0 (z.1 40).toNatClampNeg = _
        rw [pk_us]
        rfl) (by omega) (by rw [i2 40 (by omega) (by omega) (by omega)]; exact e3) (md_p_bl p2)
      have fz := fr_alp (S := (z.1 40).toNatClampNeg) 17 (pm_bl (pm_z2 z (nI j)))
      have f40 : (pm_al z (nI j)).1.1 40 = z.1 40 := by
        unfold pm_al
        rw [fz.1 40 (by omega) (by omega) (by omega)]
        exact i2 40 (by omega) (by omega) (by omega)
      have f0 : (pm_al z (nI j)).1.1 0 = z.1 0 := by
        unfold pm_al
        rw [fz.1 0 (by omega) (by omega) (by omega)]
        exact i2 0 (by omega) (by omega) (by omega)
      have qb := q_blanks (g := g) (h0 := h0) (m := m) p2
      rw [show alp (z.1 40).toNatClampNeg 17 (pm_bl (pm_z2 z (nI j))) = pm_al z (nI j) from rfl] at l2
      unfold pm_z2 at qb l2
      rw [c1] at qb l2
      simp only [s108_0, s108_1, s108_2, s108_3, s108_6, s108_9, s108_12, s108_14, s108_15, s108_16, s108_19, s108_21, s108_24, s108_26, s108_27, s108_28, s108_30, s108_31, s108_34, s108_35, s108_38, s108_39, s108_40, s108_43, s108_44, s108_45, s108_46, s108_49, s108_52, s108_53, s108_54, s108_57, s108_58, s108_59, s108_62, s108_63, s108_64, s108_67, s108_68, s108_71, s108_72, s108_75, s108_76, s108_77, s108_78, s108_79, s108_80, s108_84, s108_87, s108_88, s108_91, s108_92, s108_95, s108_98, s108_99, s108_102, s108_103, s108_106, s108_107, s108_109, s108_112, s108_113, s108_115, s108_116, s108_119, s108_120, s108_121, s108_124, s108_125, s108_128, s108_129, s108_130, s108_133, s108_136, s108_137, s108_140, s108_141, s108_142, s108_143, s108_146, s108_149, s108_150, s108_153, s108_154, s108_157, s108_158, s108_159, s108_160, s108_161, s108_162, s108_163, s108_166, s108_170, s108_171, s108_174, s108_175, s108_178, s108_179, s108_182, s108_185, s108_186, s108_189, s108_190, s108_191, s108_192, s108_195, s108_196, s108_199, s108_200, s108_203, s108_204, s108_205, s108_206, s108_209, s108_210, s108_211, s108_214, s108_215, s108_218, s108_219, s108_220, zl_n, zl_i, zl_r, zl_0, z10, z01, ez_bd_s, ez_bd_n, eq_self, true_or, or_true, if_true, if_false, zb_eq, zb_eq1, zb_em, zb_em2, ite_not, List.append_nil, List.cons_append, List.nil_append, reduceCtorEq, not_true_eq_false, not_false_eq_true, q_isIn, h1, and_self, h2, lp, md_I1, md_I2, md_A1, pcp_I, Nat.reduceEqDiff, c9, qb, l2]
      by_cases h6 : (pm_al z (nI j)).2 = 0
      · rw [h6, if_pos rfl]
        simp only [s108_0, s108_1, s108_2, s108_3, s108_6, s108_9, s108_12, s108_14, s108_15, s108_16, s108_19, s108_21, s108_24, s108_26, s108_27, s108_28, s108_30, s108_31, s108_34, s108_35, s108_38, s108_39, s108_40, s108_43, s108_44, s108_45, s108_46, s108_49, s108_52, s108_53, s108_54, s108_57, s108_58, s108_59, s108_62, s108_63, s108_64, s108_67, s108_68, s108_71, s108_72, s108_75, s108_76, s108_77, s108_78, s108_79, s108_80, s108_84, s108_87, s108_88, s108_91, s108_92, s108_95, s108_98, s108_99, s108_102, s108_103, s108_106, s108_107, s108_109, s108_112, s108_113, s108_115, s108_116, s108_119, s108_120, s108_121, s108_124, s108_125, s108_128, s108_129, s108_130, s108_133, s108_136, s108_137, s108_140, s108_141, s108_142, s108_143, s108_146, s108_149, s108_150, s108_153, s108_154, s108_157, s108_158, s108_159, s108_160, s108_161, s108_162, s108_163, s108_166, s108_169, s108_170, s108_171, s108_174, s108_175, s108_178, s108_179, s108_182, s108_185, s108_186, s108_189, s108_190, s108_191, s108_192, s108_195, s108_196, s108_199, s108_200, s108_203, s108_204, s108_205, s108_206, s108_209, s108_210, s108_211, s108_214, s108_215, s108_218, s108_219, s108_220, zl_n, zl_i, zl_r, zl_0, z10, z01, ez_bd_s, ez_bd_n, eq_self, true_or, or_true, if_true, if_false, zb_eq, zb_eq1, zb_em, zb_em2, ite_not, List.append_nil, List.cons_append, List.nil_append, reduceCtorEq, not_true_eq_false, not_false_eq_true]
      · rw [if_neg h6]
        simp only [s108_0, s108_1, s108_2, s108_3, s108_6, s108_9, s108_12, s108_14, s108_15, s108_16, s108_19, s108_21, s108_24, s108_26, s108_27, s108_28, s108_30, s108_31, s108_34, s108_35, s108_38, s108_39, s108_40, s108_43, s108_44, s108_45, s108_46, s108_49, s108_52, s108_53, s108_54, s108_57, s108_58, s108_59, s108_62, s108_63, s108_64, s108_67, s108_68, s108_71, s108_72, s108_75, s108_76, s108_77, s108_78, s108_79, s108_80, s108_84, s108_87, s108_88, s108_91, s108_92, s108_95, s108_98, s108_99, s108_102, s108_103, s108_106, s108_107, s108_109, s108_112, s108_113, s108_115, s108_116, s108_119, s108_120, s108_121, s108_124, s108_125, s108_128, s108_129, s108_130, s108_133, s108_136, s108_137, s108_140, s108_141, s108_142, s108_143, s108_146, s108_149, s108_150, s108_153, s108_154, s108_157, s108_158, s108_159, s108_160, s108_161, s108_162, s108_163, s108_166, s108_169, s108_170, s108_171, s108_174, s108_175, s108_178, s108_179, s108_182, s108_185, s108_186, s108_189, s108_190, s108_191, s108_192, s108_195, s108_196, s108_199, s108_200, s108_203, s108_204, s108_205, s108_206, s108_209, s108_210, s108_211, s108_214, s108_215, s108_218, s108_219, s108_220, zl_n, zl_i, zl_r, zl_0, z10, z01, ez_bd_s, ez_bd_n, eq_self, true_or, or_true, if_true, if_false, zb_eq, zb_eq1, zb_em, zb_em2, ite_not, List.append_nil, List.cons_append, List.nil_append, reduceCtorEq, not_true_eq_false, not_false_eq_true, h6, md_I1, md_I2, md_A1, f40, f0, Nat.reduceEqDiff, c9]
  · simp only [s108_0, s108_1, s108_2, s108_3, s108_6, s108_9, s108_12, s108_14, s108_15, s108_16, s108_19, s108_21, s108_24, s108_26, s108_27, s108_28, s108_30, s108_31, s108_34, s108_35, s108_38, s108_39, s108_40, s108_43, s108_44, s108_45, s108_46, s108_49, s108_52, s108_53, s108_54, s108_57, s108_58, s108_59, s108_62, s108_63, s108_64, s108_67, s108_68, s108_71, s108_72, s108_75, s108_76, s108_77, s108_78, s108_79, s108_80, s108_84, s108_87, s108_88, s108_91, s108_92, s108_95, s108_98, s108_99, s108_102, s108_103, s108_106, s108_107, s108_109, s108_112, s108_113, s108_115, s108_116, s108_119, s108_120, s108_121, s108_124, s108_125, s108_128, s108_129, s108_130, s108_133, s108_136, s108_137, s108_140, s108_141, s108_142, s108_143, s108_146, s108_149, s108_150, s108_153, s108_154, s108_157, s108_158, s108_159, s108_160, s108_161, s108_162, s108_163, s108_166, s108_169, s108_170, s108_171, s108_174, s108_175, s108_178, s108_179, s108_182, s108_185, s108_186, s108_189, s108_190, s108_191, s108_192, s108_195, s108_196, s108_199, s108_200, s108_203, s108_204, s108_205, s108_206, s108_209, s108_210, s108_211, s108_214, s108_215, s108_218, s108_219, s108_220, zl_n, zl_i, zl_r, zl_0, z10, z01, ez_bd_s, ez_bd_n, eq_self, true_or, or_true, if_true, if_false, zb_eq, zb_eq1, zb_em, zb_em2, ite_not, List.append_nil, List.cons_append, List.nil_append, reduceCtorEq, not_true_eq_false, not_false_eq_true, q_isIn]
    simp only [if_neg h1]
end M10
