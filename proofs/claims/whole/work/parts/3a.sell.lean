section M11
variable {g : ez_G} {h0 : ez_H} {m : Nat} {z y : md_S}
theorem md_sA2 {s i : Nat} {a b : Int32} : md_sA (md_sA z s i a) s i b = md_sA z s i b := by
  unfold md_sA
  dsimp only
  refine Prod.ext rfl ?_
  funext t
  show va_up (va_up z.2 s (upd (z.2 s) i a)) s (upd (va_up z.2 s (upd (z.2 s) i a) s) i b) t = va_up z.2 s (upd (z.2 s) i b) t
  rw [va_up_self]
  by_cases h : t = s
  · subst h
    rw [va_up_self, va_up_self]
    funext j
    unfold upd
    split <;> rfl
  · rw [va_up_ne _ _ h, va_up_ne _ _ h, va_up_ne _ _ h]
theorem md_sAs {s i : Nat} {v : Int32} (h : z.2 s i = v) : md_sA z s i v = z := by
  subst h
  refine Prod.ext rfl ?_
  funext t
  show va_up z.2 s (upd (z.2 s) i (z.2 s i)) t = z.2 t
  by_cases h : t = s
  · subst h
    rw [va_up_self]
    funext j
    unfold upd
    split
    · next e => rw [e]
    · rfl
  · rw [va_up_ne _ _ h]
/-- what a loading is worth to a merchant -/
def pwt (z : md_S) (f a : Int32) (j : Nat) : Int32 := if z.2 28 (z.2 31 j).toNatClampNeg = f then (if z.2 30 (z.2 31 j).toNatClampNeg = 0 then (if z.2 12 (z.2 32 j).toNatClampNeg = a then z.2 33 j * (4 - z.2 14 (z.2 32 j).toNatClampNeg) else 0) else 0) else 0
/-- ships and lots of the loadings are there -/
def md_ldx (z : md_S) : Prop := md_in (z.1 6) 201 = true ∧ ∀ j, j < (z.1 6).toNatClampNeg → md_in (z.2 31 j) 40 = true ∧ md_in (z.2 32 j) 150 = true
def md_y (z y : md_S) : Prop := y.1 = z.1 ∧ ∀ t, t < 51 → y.2 t = z.2 t
theorem md_y_A {s i : Nat} {v : Int32} (hs : 51 ≤ s) (h : md_y z y) : md_y z (md_sA y s i v) := ⟨h.1, fun t ht => (md_A2n (by omega)).trans (h.2 t ht)⟩
theorem lp_sell1 {n i : Nat} {f c : Int32} {al : Int64} {x7 : Option Value} (hy : md_y z y) (hi : i < 20) (hn : z.1 6 = nI n) (hn2 : n ≤ 200) (hl : ∀ j, j < n → md_in (z.2 31 j) 40 = true ∧ md_in (z.2 32 j) 150 = true) : ∀ d j, j + d = n → ez_rn g 135 79 [some (.ref m), some (.int f), some (.int c), some (.long al), none, some (.int (nI i)), some (.int (nI j)), x7] [] (md_h h0 m (md_sA y 51 i (l_sum (pwt z f (nI i)) j))) = ez_rn g 135 174 [some (.ref m), some (.int f), some (.int c), some (.long al), none, some (.int (nI i)), some (.int (nI n)), x7] [] (md_h h0 m (md_sA y 51 i (l_sum (pwt z f (nI i)) n))) := by
  have a1 : y.1 6 = nI n := by rw [hy.1]; exact hn
  have c3 : (nI i).toNatClampNeg = i := nI_clamp (by omega)
  have c4 : md_in (nI i) 20 = true := md_inN (by omega) (by omega)
  have a28 := hy.2 28 (by omega)
  have a31 := hy.2 31 (by omega)
  have a30 := hy.2 30 (by omega)
  have a12 := hy.2 12 (by omega)
  have a32 := hy.2 32 (by omega)
  have a33 := hy.2 33 (by omega)
  have a14 := hy.2 14 (by omega)
  intro d
  induction d with
  | zero =>
    intro j hj
    obtain rfl : j = n := by omega
    rw [s135_79]
    simp only [s135_0, s135_1, s135_2, s135_5, s135_8, s135_9, s135_12, s135_13, s135_14, s135_17, s135_18, s135_21, s135_22, s135_23, s135_26, s135_27, s135_28, s135_31, s135_34, s135_37, s135_38, s135_39, s135_40, s135_43, s135_44, s135_45, s135_46, s135_47, s135_48, s135_49, s135_53, s135_54, s135_57, s135_60, s135_61, s135_64, s135_66, s135_67, s135_68, s135_69, s135_72, s135_74, s135_75, s135_76, s135_77, s135_81, s135_82, s135_85, s135_88, s135_89, s135_92, s135_93, s135_96, s135_98, s135_99, s135_100, s135_101, s135_104, s135_105, s135_108, s135_109, s135_112, s135_114, s135_115, s135_116, s135_119, s135_120, s135_123, s135_124, s135_127, s135_129, s135_130, s135_131, s135_133, s135_136, s135_137, s135_140, s135_142, s135_143, s135_144, s135_145, s135_148, s135_150, s135_151, s135_152, s135_153, s135_156, s135_157, s135_160, s135_162, s135_163, s135_164, s135_165, s135_166, s135_167, s135_168, s135_171, s135_175, s135_176, s135_179, s135_181, s135_182, s135_183, s135_184, s135_185, s135_188, s135_191, s135_192, s135_193, s135_194, s135_197, s135_198, s135_199, s135_200, s135_202, s135_203, s135_207, s135_208, s135_211, s135_214, s135_215, s135_218, s135_220, s135_221, s135_222, s135_224, s135_225, s135_226, s135_227, s135_228, s135_231, s135_233, s135_234, s135_235, s135_236, s135_237, s135_238, s135_239, s135_240, s135_242, s135_243, s135_246, s135_248, s135_249, s135_250, s135_252, s135_253, s135_254, s135_255, s135_257, s135_260, s135_265, s135_268, s135_269, s135_271, s135_272, s135_276, s135_277, s135_280, s135_283, s135_284, s135_287, s135_289, s135_290, s135_293, s135_295, s135_296, s135_299, s135_300, s135_301, s135_302, s135_305, s135_307, s135_308, s135_309, s135_310, s135_311, s135_312, s135_313, s135_314, s135_315, s135_318, s135_320, s135_321, s135_322, s135_323, s135_324, s135_325, s135_326, s135_329, s135_331, s135_333, s135_336, s135_339, s135_340, s135_343, s135_345, s135_346, s135_347, s135_348, s135_351, s135_353, s135_354, s135_355, s135_357, s135_358, s135_359, s135_360, s135_361, s135_362, s135_363, s135_366, s135_369, s135_370, zl_n, zl_i, zl_r, zl_0, z10, z01, ez_bd_s, ez_bd_n, eq_self, true_or, or_true, if_true, if_false, zb_eq, zb_eq1, zb_em, zb_em2, ite_not, List.append_nil, List.cons_append, List.nil_append, reduceCtorEq, not_true_eq_false, not_false_eq_true, md_A1, a1, nI_leT (Nat.le_refl j) (by omega)]
  | succ d ih =>
    intro j hj
    have c1 : (nI j).toNatClampNeg = j := nI_clamp (by omega)
    have c2 : md_in (nI j) 200 = true := md_inN (by omega) (by omega)
    obtain ⟨c5, c6⟩ := hl j (by omega)
    have hx := ih (j + 1) (by omega)
    rw [l_sum, pwt] at hx
    rw [s135_79]
    simp only [s135_0, s135_1, s135_2, s135_5, s135_8, s135_9, s135_12, s135_13, s135_14, s135_17, s135_18, s135_21, s135_22, s135_23, s135_26, s135_27, s135_28, s135_31, s135_34, s135_37, s135_38, s135_39, s135_40, s135_43, s135_44, s135_45, s135_46, s135_47, s135_48, s135_49, s135_53, s135_54, s135_57, s135_60, s135_61, s135_64, s135_66, s135_67, s135_68, s135_69, s135_72, s135_74, s135_75, s135_76, s135_77, s135_81, s135_82, s135_85, s135_88, s135_89, s135_92, s135_93, s135_96, s135_98, s135_99, s135_100, s135_101, s135_104, s135_105, s135_108, s135_109, s135_112, s135_114, s135_115, s135_116, s135_119, s135_120, s135_123, s135_124, s135_127, s135_129, s135_130, s135_131, s135_133, s135_136, s135_137, s135_140, s135_142, s135_143, s135_144, s135_145, s135_148, s135_150, s135_151, s135_152, s135_153, s135_156, s135_157, s135_160, s135_162, s135_163, s135_164, s135_165, s135_166, s135_167, s135_168, s135_171, s135_175, s135_176, s135_179, s135_181, s135_182, s135_183, s135_184, s135_185, s135_188, s135_191, s135_192, s135_193, s135_194, s135_197, s135_198, s135_199, s135_200, s135_202, s135_203, s135_207, s135_208, s135_211, s135_214, s135_215, s135_218, s135_220, s135_221, s135_222, s135_224, s135_225, s135_226, s135_227, s135_228, s135_231, s135_233, s135_234, s135_235, s135_236, s135_237, s135_238, s135_239, s135_240, s135_242, s135_243, s135_246, s135_248, s135_249, s135_250, s135_252, s135_253, s135_254, s135_255, s135_257, s135_260, s135_265, s135_268, s135_269, s135_271, s135_272, s135_276, s135_277, s135_280, s135_283, s135_284, s135_287, s135_289, s135_290, s135_293, s135_295, s135_296, s135_299, s135_300, s135_301, s135_302, s135_305, s135_307, s135_308, s135_309, s135_310, s135_311, s135_312, s135_313, s135_314, s135_315, s135_318, s135_320, s135_321, s135_322, s135_323, s135_324, s135_325, s135_326, s135_329, s135_331, s135_333, s135_336, s135_339, s135_340, s135_343, s135_345, s135_346, s135_347, s135_348, s135_351, s135_353, s135_354, s135_355, s135_357, s135_358, s135_359, s135_360, s135_361, s135_362, s135_363, s135_366, s135_369, s135_370, zl_n, zl_i, zl_r, zl_0, z10, z01, ez_bd_s, ez_bd_n, eq_self, true_or, or_true, if_true, if_false, zb_eq, zb_eq1, zb_em, zb_em2, ite_not, List.append_nil, List.cons_append, List.nil_append, reduceCtorEq, not_true_eq_false, not_false_eq_true, md_A1, md_A2, Nat.reduceEqDiff, a1, a28, a31, a30, a12, a32, a33, a14, nI_nleI (show j < n by omega) (by omega), c1, c2, c3, c4, c5, c6, nI_1, pk_us, md_sA2]
    by_cases e1 : z.2 28 (z.2 31 j).toNatClampNeg = f
    · by_cases e2 : z.2 30 (z.2 31 j).toNatClampNeg = 0
      · by_cases e3 : z.2 12 (z.2 32 j).toNatClampNeg = nI i
        · simp only [if_pos e1, if_pos e2, if_pos e3] at hx ⊢
          exact hx
        · simp only [if_pos e1, if_pos e2, if_neg e3, Int32.add_zero] at hx ⊢
          exact hx
      · simp only [if_pos e1, if_neg e2, Int32.add_zero] at hx ⊢
        exact hx
    · simp only [if_neg e1, Int32.add_zero] at hx ⊢
      exact hx
/-- what the merchants' wool is worth -/
def pws (z : md_S) (f : Int32) : Nat → md_S
  | 0 => z
  | i + 1 => md_sA (md_sA (md_sA (pws z f i) 51 i 0) 52 i (vp_nar .boolean 0)) 51 i (l_sum (pwt z f (nI i)) (z.1 6).toNatClampNeg)
def pal (z : md_S) (f : Int32) : Nat → Int64
  | 0 => 0
  | i + 1 => pal z f i + (l_sum (pwt z f (nI i)) (z.1 6).toNatClampNeg).toInt64
theorem pws_y {f : Int32} : ∀ i, md_y z (pws z f i)
  | 0 => ⟨rfl, fun _ _ => rfl⟩
  | i + 1 => by
    rw [pws]
    exact md_y_A (by omega) (md_y_A (by omega) (md_y_A (by omega) (pws_y i)))
theorem lp_sell2 {n : Nat} {f c : Int32} {x7 : Option Value} (hn : z.1 1 = nI n) (hn2 : n ≤ 20) (hl : md_ldx z) : ∀ d i, i + d = n → ∀ x6, ez_nl x6 = true → ∃ y6, ez_nl y6 = true ∧ ez_rn g 135 51 [some (.ref m), some (.int f), some (.int c), some (.long (pal z f i)), none, some (.int (nI i)), x6, x7] [] (md_h h0 m (pws z f i)) = ez_rn g 135 191 [some (.ref m), some (.int f), some (.int c), some (.long (pal z f n)), none, some (.int (nI n)), y6, x7] [] (md_h h0 m (pws z f n)) := by
  obtain ⟨e6, h6⟩ := md_inE hl.1
  have a1 : ∀ i, (pws z f i).1 1 = nI n := fun i => by rw [(pws_y i).1]; exact hn
  intro d
  induction d with
  | zero =>
    intro i hi x6 h6
    obtain rfl : i = n := by omega
    refine ⟨x6, h6, ?_⟩
    rw [s135_51]
    simp only [s135_0, s135_1, s135_2, s135_5, s135_8, s135_9, s135_12, s135_13, s135_14, s135_17, s135_18, s135_21, s135_22, s135_23, s135_26, s135_27, s135_28, s135_31, s135_34, s135_37, s135_38, s135_39, s135_40, s135_43, s135_44, s135_45, s135_46, s135_47, s135_48, s135_49, s135_53, s135_54, s135_57, s135_60, s135_61, s135_64, s135_66, s135_67, s135_68, s135_69, s135_72, s135_74, s135_75, s135_76, s135_77, s135_81, s135_82, s135_85, s135_88, s135_89, s135_92, s135_93, s135_96, s135_98, s135_99, s135_100, s135_101, s135_104, s135_105, s135_108, s135_109, s135_112, s135_114, s135_115, s135_116, s135_119, s135_120, s135_123, s135_124, s135_127, s135_129, s135_130, s135_131, s135_133, s135_136, s135_137, s135_140, s135_142, s135_143, s135_144, s135_145, s135_148, s135_150, s135_151, s135_152, s135_153, s135_156, s135_157, s135_160, s135_162, s135_163, s135_164, s135_165, s135_166, s135_167, s135_168, s135_171, s135_174, s135_175, s135_176, s135_179, s135_181, s135_182, s135_183, s135_184, s135_185, s135_188, s135_192, s135_193, s135_194, s135_197, s135_198, s135_199, s135_200, s135_202, s135_203, s135_207, s135_208, s135_211, s135_214, s135_215, s135_218, s135_220, s135_221, s135_222, s135_224, s135_225, s135_226, s135_227, s135_228, s135_231, s135_233, s135_234, s135_235, s135_236, s135_237, s135_238, s135_239, s135_240, s135_242, s135_243, s135_246, s135_248, s135_249, s135_250, s135_252, s135_253, s135_254, s135_255, s135_257, s135_260, s135_265, s135_268, s135_269, s135_271, s135_272, s135_276, s135_277, s135_280, s135_283, s135_284, s135_287, s135_289, s135_290, s135_293, s135_295, s135_296, s135_299, s135_300, s135_301, s135_302, s135_305, s135_307, s135_308, s135_309, s135_310, s135_311, s135_312, s135_313, s135_314, s135_315, s135_318, s135_320, s135_321, s135_322, s135_323, s135_324, s135_325, s135_326, s135_329, s135_331, s135_333, s135_336, s135_339, s135_340, s135_343, s135_345, s135_346, s135_347, s135_348, s135_351, s135_353, s135_354, s135_355, s135_357, s135_358, s135_359, s135_360, s135_361, s135_362, s135_363, s135_366, s135_369, s135_370, zl_n, zl_i, zl_r, zl_0, z10, z01, ez_bd_s, ez_bd_n, eq_self, true_or, or_true, if_true, if_false, zb_eq, zb_eq1, zb_em, zb_em2, ite_not, List.append_nil, List.cons_append, List.nil_append, reduceCtorEq, not_true_eq_false, not_false_eq_true, a1, nI_leT (Nat.le_refl i) (by omega)]
  | succ d ih =>
    intro i hi x6 h66
    have c1 : (nI i).toNatClampNeg = i := nI_clamp (by omega)
    have c2 : md_in (nI i) 20 = true := md_inN (by omega) (by omega)
    obtain ⟨y6, hy6, hx⟩ := ih (i + 1) (by omega) (some (.int (nI (z.1 6).toNatClampNeg))) zl_i
    refine ⟨y6, hy6, ?_⟩
    have hyy : md_y z (md_sA (md_sA (pws z f i) 51 i 0) 52 i (vp_nar .boolean 0)) := md_y_A (by omega) (md_y_A (by omega) (pws_y i))
    have lp := lp_sell1 (g := g) (h0 := h0) (m := m) (z := z) (f := f) (c := c) (al := pal z f i) (x7 := x7) hyy (show i < 20 by omega) e6 (by omega) hl.2 _ 0 (Nat.zero_add _)
    rw [l_sum, nI_0, md_sAs (by rw [md_A2n (by omega), md_A2, if_pos rfl, pk_us])] at lp
    rw [s135_51]
    simp only [s135_0, s135_1, s135_2, s135_5, s135_8, s135_9, s135_12, s135_13, s135_14, s135_17, s135_18, s135_21, s135_22, s135_23, s135_26, s135_27, s135_28, s135_31, s135_34, s135_37, s135_38, s135_39, s135_40, s135_43, s135_44, s135_45, s135_46, s135_47, s135_48, s135_49, s135_53, s135_54, s135_57, s135_60, s135_61, s135_64, s135_66, s135_67, s135_68, s135_69, s135_72, s135_74, s135_75, s135_76, s135_77, s135_81, s135_82, s135_85, s135_88, s135_89, s135_92, s135_93, s135_96, s135_98, s135_99, s135_100, s135_101, s135_104, s135_105, s135_108, s135_109, s135_112, s135_114, s135_115, s135_116, s135_119, s135_120, s135_123, s135_124, s135_127, s135_129, s135_130, s135_131, s135_133, s135_136, s135_137, s135_140, s135_142, s135_143, s135_144, s135_145, s135_148, s135_150, s135_151, s135_152, s135_153, s135_156, s135_157, s135_160, s135_162, s135_163, s135_164, s135_165, s135_166, s135_167, s135_168, s135_171, s135_174, s135_175, s135_176, s135_179, s135_181, s135_182, s135_183, s135_184, s135_185, s135_188, s135_192, s135_193, s135_194, s135_197, s135_198, s135_199, s135_200, s135_202, s135_203, s135_207, s135_208, s135_211, s135_214, s135_215, s135_218, s135_220, s135_221, s135_222, s135_224, s135_225, s135_226, s135_227, s135_228, s135_231, s135_233, s135_234, s135_235, s135_236, s135_237, s135_238, s135_239, s135_240, s135_242, s135_243, s135_246, s135_248, s135_249, s135_250, s135_252, s135_253, s135_254, s135_255, s135_257, s135_260, s135_265, s135_268, s135_269, s135_271, s135_272, s135_276, s135_277, s135_280, s135_283, s135_284, s135_287, s135_289, s135_290, s135_293, s135_295, s135_296, s135_299, s135_300, s135_301, s135_302, s135_305, s135_307, s135_308, s135_309, s135_310, s135_311, s135_312, s135_313, s135_314, s135_315, s135_318, s135_320, s135_321, s135_322, s135_323, s135_324, s135_325, s135_326, s135_329, s135_331, s135_333, s135_336, s135_339, s135_340, s135_343, s135_345, s135_346, s135_347, s135_348, s135_351, s135_353, s135_354, s135_355, s135_357, s135_358, s135_359, s135_360, s135_361, s135_362, s135_363, s135_366, s135_369, s135_370, zl_n, zl_i, zl_r, zl_0, z10, z01, ez_bd_s, ez_bd_n, eq_self, true_or, or_true, if_true, if_false, zb_eq, zb_eq1, zb_em, zb_em2, ite_not, List.append_nil, List.cons_append, List.nil_append, reduceCtorEq, not_true_eq_false, not_false_eq_true, h66, a1, nI_nleI (show i < n by omega) (by omega), c1, c2, lp, md_A1, md_A2, pk_us, nI_1]
    rw [pws, pal] at hx
    exact hx
/-- the coins are parted -/
def pq (y : md_S) (c : Int32) (al : Int64) (i : Nat) : Int32 := (c.toInt64 * (y.2 51 i).toInt64 / al).toInt32
def pps (y : md_S) (f : Nat) (c : Int32) (al : Int64) : Nat → md_S
  | 0 => y
  | i + 1 => md_sA (pps y f c al i) 27 (20 * f + i) (pq y c al i)
def plf (y : md_S) (c : Int32) (al : Int64) : Nat → Int32
  | 0 => c
  | i + 1 => plf y c al i - pq y c al i
theorem pps_I {f : Nat} {c : Int32} {al : Int64} : ∀ i, (pps y f c al i).1 = y.1
  | 0 => rfl
  | i + 1 => by
    rw [pps, md_A1]
    exact pps_I i
theorem pps_A {f t : Nat} {c : Int32} {al : Int64} (ht : t ≠ 27) : ∀ i, (pps y f c al i).2 t = y.2 t
  | 0 => rfl
  | i + 1 => by
    rw [pps, md_A2n ht]
    exact pps_A ht i
theorem lp_sell3 {n f : Nat} {c : Int32} {al : Int64} {x7 : Option Value} (hal : ¬ al = 0) (hf : f < 20) (hn : y.1 1 = nI n) (hn2 : n ≤ 20) : ∀ d i, i + d = n → ez_rn g 135 205 [some (.ref m), some (.int (nI f)), some (.int c), some (.long al), none, some (.int (plf y c al i)), some (.int (nI i)), x7] [] (md_h h0 m (pps y f c al i)) = ez_rn g 135 263 [some (.ref m), some (.int (nI f)), some (.int c), some (.long al), none, some (.int (plf y c al n)), some (.int (nI n)), x7] [] (md_h h0 m (pps y f c al n)) := by
  intro d
  induction d with
  | zero =>
    intro i hi
    obtain rfl : i = n := by omega
    rw [s135_205]
    simp only [s135_0, s135_1, s135_2, s135_5, s135_8, s135_9, s135_12, s135_13, s135_14, s135_17, s135_18, s135_21, s135_22, s135_23, s135_26, s135_27, s135_28, s135_31, s135_34, s135_37, s135_38, s135_39, s135_40, s135_43, s135_44, s135_45, s135_46, s135_47, s135_48, s135_49, s135_53, s135_54, s135_57, s135_60, s135_61, s135_64, s135_66, s135_67, s135_68, s135_69, s135_72, s135_74, s135_75, s135_76, s135_77, s135_81, s135_82, s135_85, s135_88, s135_89, s135_92, s135_93, s135_96, s135_98, s135_99, s135_100, s135_101, s135_104, s135_105, s135_108, s135_109, s135_112, s135_114, s135_115, s135_116, s135_119, s135_120, s135_123, s135_124, s135_127, s135_129, s135_130, s135_131, s135_133, s135_136, s135_137, s135_140, s135_142, s135_143, s135_144, s135_145, s135_148, s135_150, s135_151, s135_152, s135_153, s135_156, s135_157, s135_160, s135_162, s135_163, s135_164, s135_165, s135_166, s135_167, s135_168, s135_171, s135_174, s135_175, s135_176, s135_179, s135_181, s135_182, s135_183, s135_184, s135_185, s135_188, s135_191, s135_192, s135_193, s135_194, s135_197, s135_198, s135_199, s135_200, s135_202, s135_203, s135_207, s135_208, s135_211, s135_214, s135_215, s135_218, s135_220, s135_221, s135_222, s135_224, s135_225, s135_226, s135_227, s135_228, s135_231, s135_233, s135_234, s135_235, s135_236, s135_237, s135_238, s135_239, s135_240, s135_242, s135_243, s135_246, s135_248, s135_249, s135_250, s135_252, s135_253, s135_254, s135_255, s135_257, s135_260, s135_265, s135_268, s135_269, s135_271, s135_272, s135_276, s135_277, s135_280, s135_283, s135_284, s135_287, s135_289, s135_290, s135_293, s135_295, s135_296, s135_299, s135_300, s135_301, s135_302, s135_305, s135_307, s135_308, s135_309, s135_310, s135_311, s135_312, s135_313, s135_314, s135_315, s135_318, s135_320, s135_321, s135_322, s135_323, s135_324, s135_325, s135_326, s135_329, s135_331, s135_333, s135_336, s135_339, s135_340, s135_343, s135_345, s135_346, s135_347, s135_348, s135_351, s135_353, s135_354, s135_355, s135_357, s135_358, s135_359, s135_360, s135_361, s135_362, s135_363, s135_366, s135_369, s135_370, zl_n, zl_i, zl_r, zl_0, z10, z01, ez_bd_s, ez_bd_n, eq_self, true_or, or_true, if_true, if_false, zb_eq, zb_eq1, zb_em, zb_em2, ite_not, List.append_nil, List.cons_append, List.nil_append, reduceCtorEq, not_true_eq_false, not_false_eq_true, pps_I, hn, nI_leT (Nat.le_refl i) (by omega)]
  | succ d ih =>
    intro i hi
    have c1 : (nI i).toNatClampNeg = i := nI_clamp (by omega)
    have c2 : md_in (nI i) 20 = true := md_inN (by omega) (by omega)
    have c3 : md_in (nI (20 * f + i)) 400 = true := md_inN (by omega) (by omega)
    have c4 : (nI (20 * f + i)).toNatClampNeg = 20 * f + i := nI_clamp (by omega)
    have hx := ih (i + 1) (by omega)
    rw [pps, plf, pq] at hx
    rw [s135_205]
    simp only [s135_0, s135_1, s135_2, s135_5, s135_8, s135_9, s135_12, s135_13, s135_14, s135_17, s135_18, s135_21, s135_22, s135_23, s135_26, s135_27, s135_28, s135_31, s135_34, s135_37, s135_38, s135_39, s135_40, s135_43, s135_44, s135_45, s135_46, s135_47, s135_48, s135_49, s135_53, s135_54, s135_57, s135_60, s135_61, s135_64, s135_66, s135_67, s135_68, s135_69, s135_72, s135_74, s135_75, s135_76, s135_77, s135_81, s135_82, s135_85, s135_88, s135_89, s135_92, s135_93, s135_96, s135_98, s135_99, s135_100, s135_101, s135_104, s135_105, s135_108, s135_109, s135_112, s135_114, s135_115, s135_116, s135_119, s135_120, s135_123, s135_124, s135_127, s135_129, s135_130, s135_131, s135_133, s135_136, s135_137, s135_140, s135_142, s135_143, s135_144, s135_145, s135_148, s135_150, s135_151, s135_152, s135_153, s135_156, s135_157, s135_160, s135_162, s135_163, s135_164, s135_165, s135_166, s135_167, s135_168, s135_171, s135_174, s135_175, s135_176, s135_179, s135_181, s135_182, s135_183, s135_184, s135_185, s135_188, s135_191, s135_192, s135_193, s135_194, s135_197, s135_198, s135_199, s135_200, s135_202, s135_203, s135_207, s135_208, s135_211, s135_214, s135_215, s135_218, s135_220, s135_221, s135_222, s135_224, s135_225, s135_226, s135_227, s135_228, s135_231, s135_233, s135_234, s135_235, s135_236, s135_237, s135_238, s135_239, s135_240, s135_242, s135_243, s135_246, s135_248, s135_249, s135_250, s135_252, s135_253, s135_254, s135_255, s135_257, s135_260, s135_265, s135_268, s135_269, s135_271, s135_272, s135_276, s135_277, s135_280, s135_283, s135_284, s135_287, s135_289, s135_290, s135_293, s135_295, s135_296, s135_299, s135_300, s135_301, s135_302, s135_305, s135_307, s135_308, s135_309, s135_310, s135_311, s135_312, s135_313, s135_314, s135_315, s135_318, s135_320, s135_321, s135_322, s135_323, s135_324, s135_325, s135_326, s135_329, s135_331, s135_333, s135_336, s135_339, s135_340, s135_343, s135_345, s135_346, s135_347, s135_348, s135_351, s135_353, s135_354, s135_355, s135_357, s135_358, s135_359, s135_360, s135_361, s135_362, s135_363, s135_366, s135_369, s135_370, zl_n, zl_i, zl_r, zl_0, z10, z01, ez_bd_s, ez_bd_n, eq_self, true_or, or_true, if_true, if_false, zb_eq, zb_eq1, zb_em, zb_em2, ite_not, List.append_nil, List.cons_append, List.nil_append, reduceCtorEq, not_true_eq_false, not_false_eq_true, pps_I, pps_A (show 51 ≠ 27 by omega), hn, nI_nleI (show i < n by omega) (by omega), c1, c2, c3, c4, nI_m20, nI_add, hal, md_A2, pk_us, nI_1]
    exact hx
/-- who gets the next coin -/
def prm (y : md_S) (c : Int32) (al : Int64) (i : Nat) : Int64 := c.toInt64 * (y.2 51 i).toInt64 - c.toInt64 * (y.2 51 i).toInt64 / al * al
def pbest (y : md_S) (c : Int32) (al : Int64) : Nat → Int32
  | 0 => -1
  | i + 1 => if y.2 52 i = 0 then (if pbest y c al i = -1 then nI i else (if lg_cmp (prm y c al i) (prm y c al (pbest y c al i).toNatClampNeg) ≤ 0 then pbest y c al i else nI i)) else pbest y c al i
theorem pbest_r {c : Int32} {al : Int64} : ∀ i, pbest y c al i = -1 ∨ ∃ j, j < i ∧ pbest y c al i = nI j
  | 0 => Or.inl rfl
  | i + 1 => by
    have ih : pbest y c al i = -1 ∨ ∃ j, j < i + 1 ∧ pbest y c al i = nI j := by
      rcases pbest_r (c := c) (al := al) i with h | ⟨j, h1, h2⟩
      · exact Or.inl h
      · exact Or.inr ⟨j, by omega, h2⟩
    rw [pbest]
    repeat' split
    · exact Or.inr ⟨i, by omega, rfl⟩
    · exact ih
    · exact Or.inr ⟨i, by omega, rfl⟩
    · exact ih
theorem lp_sell4 {n f : Nat} {c lf : Int32} {al : Int64} (hal : ¬ al = 0) (hn : y.1 1 = nI n) (hn2 : n ≤ 20) : ∀ d i, i + d = n → ez_rn g 135 274 [some (.ref m), some (.int (nI f)), some (.int c), some (.long al), none, some (.int lf), some (.int (pbest y c al i)), some (.int (nI i))] [] (md_h h0 m y) = ez_rn g 135 339 [some (.ref m), some (.int (nI f)), some (.int c), some (.long al), none, some (.int lf), some (.int (pbest y c al n)), some (.int (nI n))] [] (md_h h0 m y) := by
  intro d
  induction d with
  | zero =>
    intro i hi
    obtain rfl : i = n := by omega
    rw [s135_274]
    simp only [s135_0, s135_1, s135_2, s135_5, s135_8, s135_9, s135_12, s135_13, s135_14, s135_17, s135_18, s135_21, s135_22, s135_23, s135_26, s135_27, s135_28, s135_31, s135_34, s135_37, s135_38, s135_39, s135_40, s135_43, s135_44, s135_45, s135_46, s135_47, s135_48, s135_49, s135_53, s135_54, s135_57, s135_60, s135_61, s135_64, s135_66, s135_67, s135_68, s135_69, s135_72, s135_74, s135_75, s135_76, s135_77, s135_81, s135_82, s135_85, s135_88, s135_89, s135_92, s135_93, s135_96, s135_98, s135_99, s135_100, s135_101, s135_104, s135_105, s135_108, s135_109, s135_112, s135_114, s135_115, s135_116, s135_119, s135_120, s135_123, s135_124, s135_127, s135_129, s135_130, s135_131, s135_133, s135_136, s135_137, s135_140, s135_142, s135_143, s135_144, s135_145, s135_148, s135_150, s135_151, s135_152, s135_153, s135_156, s135_157, s135_160, s135_162, s135_163, s135_164, s135_165, s135_166, s135_167, s135_168, s135_171, s135_174, s135_175, s135_176, s135_179, s135_181, s135_182, s135_183, s135_184, s135_185, s135_188, s135_191, s135_192, s135_193, s135_194, s135_197, s135_198, s135_199, s135_200, s135_202, s135_203, s135_207, s135_208, s135_211, s135_214, s135_215, s135_218, s135_220, s135_221, s135_222, s135_224, s135_225, s135_226, s135_227, s135_228, s135_231, s135_233, s135_234, s135_235, s135_236, s135_237, s135_238, s135_239, s135_240, s135_242, s135_243, s135_246, s135_248, s135_249, s135_250, s135_252, s135_253, s135_254, s135_255, s135_257, s135_260, s135_265, s135_268, s135_269, s135_271, s135_272, s135_276, s135_277, s135_280, s135_283, s135_284, s135_287, s135_289, s135_290, s135_293, s135_295, s135_296, s135_299, s135_300, s135_301, s135_302, s135_305, s135_307, s135_308, s135_309, s135_310, s135_311, s135_312, s135_313, s135_314, s135_315, s135_318, s135_320, s135_321, s135_322, s135_323, s135_324, s135_325, s135_326, s135_329, s135_331, s135_333, s135_336, s135_340, s135_343, s135_345, s135_346, s135_347, s135_348, s135_351, s135_353, s135_354, s135_355, s135_357, s135_358, s135_359, s135_360, s135_361, s135_362, s135_363, s135_366, s135_369, s135_370, zl_n, zl_i, zl_r, zl_0, z10, z01, ez_bd_s, ez_bd_n, eq_self, true_or, or_true, if_true, if_false, zb_eq, zb_eq1, zb_em, zb_em2, ite_not, List.append_nil, List.cons_append, List.nil_append, reduceCtorEq, not_true_eq_false, not_false_eq_true, hn, nI_leT (Nat.le_refl i) (by omega)]
  | succ d ih =>
    intro i hi
    have c1 : (nI i).toNatClampNeg = i := nI_clamp (by omega)
    have c2 : md_in (nI i) 20 = true := md_inN (by omega) (by omega)
    have hx := ih (i + 1) (by omega)
    rw [pbest] at hx
    rw [s135_274]
    rcases pbest_r (y := y) (c := c) (al := al) i with e | ⟨j, h1, e⟩
    · simp only [s135_0, s135_1, s135_2, s135_5, s135_8, s135_9, s135_12, s135_13, s135_14, s135_17, s135_18, s135_21, s135_22, s135_23, s135_26, s135_27, s135_28, s135_31, s135_34, s135_37, s135_38, s135_39, s135_40, s135_43, s135_44, s135_45, s135_46, s135_47, s135_48, s135_49, s135_53, s135_54, s135_57, s135_60, s135_61, s135_64, s135_66, s135_67, s135_68, s135_69, s135_72, s135_74, s135_75, s135_76, s135_77, s135_81, s135_82, s135_85, s135_88, s135_89, s135_92, s135_93, s135_96, s135_98, s135_99, s135_100, s135_101, s135_104, s135_105, s135_108, s135_109, s135_112, s135_114, s135_115, s135_116, s135_119, s135_120, s135_123, s135_124, s135_127, s135_129, s135_130, s135_131, s135_133, s135_136, s135_137, s135_140, s135_142, s135_143, s135_144, s135_145, s135_148, s135_150, s135_151, s135_152, s135_153, s135_156, s135_157, s135_160, s135_162, s135_163, s135_164, s135_165, s135_166, s135_167, s135_168, s135_171, s135_174, s135_175, s135_176, s135_179, s135_181, s135_182, s135_183, s135_184, s135_185, s135_188, s135_191, s135_192, s135_193, s135_194, s135_197, s135_198, s135_199, s135_200, s135_202, s135_203, s135_207, s135_208, s135_211, s135_214, s135_215, s135_218, s135_220, s135_221, s135_222, s135_224, s135_225, s135_226, s135_227, s135_228, s135_231, s135_233, s135_234, s135_235, s135_236, s135_237, s135_238, s135_239, s135_240, s135_242, s135_243, s135_246, s135_248, s135_249, s135_250, s135_252, s135_253, s135_254, s135_255, s135_257, s135_260, s135_265, s135_268, s135_269, s135_271, s135_272, s135_276, s135_277, s135_280, s135_283, s135_284, s135_287, s135_289, s135_290, s135_293, s135_295, s135_296, s135_299, s135_300, s135_301, s135_302, s135_305, s135_307, s135_308, s135_309, s135_310, s135_311, s135_312, s135_313, s135_314, s135_315, s135_318, s135_320, s135_321, s135_322, s135_323, s135_324, s135_325, s135_326, s135_329, s135_331, s135_333, s135_336, s135_340, s135_343, s135_345, s135_346, s135_347, s135_348, s135_351, s135_353, s135_354, s135_355, s135_357, s135_358, s135_359, s135_360, s135_361, s135_362, s135_363, s135_366, s135_369, s135_370, zl_n, zl_i, zl_r, zl_0, z10, z01, ez_bd_s, ez_bd_n, eq_self, true_or, or_true, if_true, if_false, zb_eq, zb_eq1, zb_em, zb_em2, ite_not, List.append_nil, List.cons_append, List.nil_append, reduceCtorEq, not_true_eq_false, not_false_eq_true, hn, nI_nleI (show i < n by omega) (by omega), c1, c2, e, nI_1]
      simp only [e, if_true] at hx
      revert hx
      repeat' split
      all_goals exact id
    · have c3 : (nI j).toNatClampNeg = j := nI_clamp (by omega)
      have c4 : md_in (nI j) 20 = true := md_inN (by omega) (by omega)
      have c5 := nI_nm1 (show j < 2 ^ 31 by omega)
      simp only [s135_0, s135_1, s135_2, s135_5, s135_8, s135_9, s135_12, s135_13, s135_14, s135_17, s135_18, s135_21, s135_22, s135_23, s135_26, s135_27, s135_28, s135_31, s135_34, s135_37, s135_38, s135_39, s135_40, s135_43, s135_44, s135_45, s135_46, s135_47, s135_48, s135_49, s135_53, s135_54, s135_57, s135_60, s135_61, s135_64, s135_66, s135_67, s135_68, s135_69, s135_72, s135_74, s135_75, s135_76, s135_77, s135_81, s135_82, s135_85, s135_88, s135_89, s135_92, s135_93, s135_96, s135_98, s135_99, s135_100, s135_101, s135_104, s135_105, s135_108, s135_109, s135_112, s135_114, s135_115, s135_116, s135_119, s135_120, s135_123, s135_124, s135_127, s135_129, s135_130, s135_131, s135_133, s135_136, s135_137, s135_140, s135_142, s135_143, s135_144, s135_145, s135_148, s135_150, s135_151, s135_152, s135_153, s135_156, s135_157, s135_160, s135_162, s135_163, s135_164, s135_165, s135_166, s135_167, s135_168, s135_171, s135_174, s135_175, s135_176, s135_179, s135_181, s135_182, s135_183, s135_184, s135_185, s135_188, s135_191, s135_192, s135_193, s135_194, s135_197, s135_198, s135_199, s135_200, s135_202, s135_203, s135_207, s135_208, s135_211, s135_214, s135_215, s135_218, s135_220, s135_221, s135_222, s135_224, s135_225, s135_226, s135_227, s135_228, s135_231, s135_233, s135_234, s135_235, s135_236, s135_237, s135_238, s135_239, s135_240, s135_242, s135_243, s135_246, s135_248, s135_249, s135_250, s135_252, s135_253, s135_254, s135_255, s135_257, s135_260, s135_265, s135_268, s135_269, s135_271, s135_272, s135_276, s135_277, s135_280, s135_283, s135_284, s135_287, s135_289, s135_290, s135_293, s135_295, s135_296, s135_299, s135_300, s135_301, s135_302, s135_305, s135_307, s135_308, s135_309, s135_310, s135_311, s135_312, s135_313, s135_314, s135_315, s135_318, s135_320, s135_321, s135_322, s135_323, s135_324, s135_325, s135_326, s135_329, s135_331, s135_333, s135_336, s135_340, s135_343, s135_345, s135_346, s135_347, s135_348, s135_351, s135_353, s135_354, s135_355, s135_357, s135_358, s135_359, s135_360, s135_361, s135_362, s135_363, s135_366, s135_369, s135_370, zl_n, zl_i, zl_r, zl_0, z10, z01, ez_bd_s, ez_bd_n, eq_self, true_or, or_true, if_true, if_false, zb_eq, zb_eq1, zb_em, zb_em2, ite_not, List.append_nil, List.cons_append, List.nil_append, reduceCtorEq, not_true_eq_false, not_false_eq_true, hn, nI_nleI (show i < n by omega) (by omega), c1, c2, c3, c4, c5, e, hal, nI_1]
      simp only [e, c5, c3, if_false, prm] at hx
      revert hx
      repeat' split
      all_goals exact id
def p3s (f : Nat) (y : md_S) (b : Nat) : md_S := md_sA (md_sA y 52 b (vp_nar .boolean 1)) 27 (20 * f + b) (y.2 27 (20 * f + b) + 1)
def p3 (f : Nat) (c : Int32) (al : Int64) (n : Nat) : Nat → md_S → md_S
  | 0, y => y
  | t + 1, y => p3 f c al n t (p3s f y (pbest y c al n).toNatClampNeg)
/-- there is always one who may get the next coin -/
def p3ok (f : Nat) (c : Int32) (al : Int64) (n : Nat) : Nat → md_S → Prop
  | 0, _ => True
  | t + 1, y => ¬ pbest y c al n = -1 ∧ p3ok f c al n t (p3s f y (pbest y c al n).toNatClampNeg)
theorem lp_sell5 {n f : Nat} {c : Int32} {al : Int64} (hal : ¬ al = 0) (hf : f < 20) (hn2 : n ≤ 20) : ∀ L, L < 2 ^ 31 → ∀ y, y.1 1 = nI n → p3ok f c al n L y → ∀ x6 x7, ez_nl x6 = true → ez_rn g 135 263 [some (.ref m), some (.int (nI f)), some (.int c), some (.long al), none, some (.int (nI L)), x6, x7] [] (md_h h0 m y) = some (some (.int c), md_h h0 m (p3 f c al n L y)) := by
  intro L
  induction L with
  | zero =>
    intro hL y hn ho x6 x7 h6
    rw [s135_263]
    simp only [s135_0, s135_1, s135_2, s135_5, s135_8, s135_9, s135_12, s135_13, s135_14, s135_17, s135_18, s135_21, s135_22, s135_23, s135_26, s135_27, s135_28, s135_31, s135_34, s135_37, s135_38, s135_39, s135_40, s135_43, s135_44, s135_45, s135_46, s135_47, s135_48, s135_49, s135_53, s135_54, s135_57, s135_60, s135_61, s135_64, s135_66, s135_67, s135_68, s135_69, s135_72, s135_74, s135_75, s135_76, s135_77, s135_81, s135_82, s135_85, s135_88, s135_89, s135_92, s135_93, s135_96, s135_98, s135_99, s135_100, s135_101, s135_104, s135_105, s135_108, s135_109, s135_112, s135_114, s135_115, s135_116, s135_119, s135_120, s135_123, s135_124, s135_127, s135_129, s135_130, s135_131, s135_133, s135_136, s135_137, s135_140, s135_142, s135_143, s135_144, s135_145, s135_148, s135_150, s135_151, s135_152, s135_153, s135_156, s135_157, s135_160, s135_162, s135_163, s135_164, s135_165, s135_166, s135_167, s135_168, s135_171, s135_174, s135_175, s135_176, s135_179, s135_181, s135_182, s135_183, s135_184, s135_185, s135_188, s135_191, s135_192, s135_193, s135_194, s135_197, s135_198, s135_199, s135_200, s135_202, s135_203, s135_207, s135_208, s135_211, s135_214, s135_215, s135_218, s135_220, s135_221, s135_222, s135_224, s135_225, s135_226, s135_227, s135_228, s135_231, s135_233, s135_234, s135_235, s135_236, s135_237, s135_238, s135_239, s135_240, s135_242, s135_243, s135_246, s135_248, s135_249, s135_250, s135_252, s135_253, s135_254, s135_255, s135_257, s135_260, s135_265, s135_268, s135_269, s135_271, s135_272, s135_276, s135_277, s135_280, s135_283, s135_284, s135_287, s135_289, s135_290, s135_293, s135_295, s135_296, s135_299, s135_300, s135_301, s135_302, s135_305, s135_307, s135_308, s135_309, s135_310, s135_311, s135_312, s135_313, s135_314, s135_315, s135_318, s135_320, s135_321, s135_322, s135_323, s135_324, s135_325, s135_326, s135_329, s135_331, s135_333, s135_336, s135_339, s135_340, s135_343, s135_345, s135_346, s135_347, s135_348, s135_351, s135_353, s135_354, s135_355, s135_357, s135_358, s135_359, s135_360, s135_361, s135_362, s135_363, s135_366, s135_369, s135_370, zl_n, zl_i, zl_r, zl_0, z10, z01, ez_bd_s, ez_bd_n, eq_self, true_or, or_true, if_true, if_false, zb_eq, zb_eq1, zb_em, zb_em2, ite_not, List.append_nil, List.cons_append, List.nil_append, reduceCtorEq, not_true_eq_false, not_false_eq_true, show (nI 0 ≤ 0) = True from eq_true (by decide), p3]
  | succ L ih =>
    intro hL y hn ho x6 x7 h6
    obtain ⟨o1, o2⟩ := ho
    obtain ⟨j, h1, e⟩ := (pbest_r (y := y) (c := c) (al := al) n).resolve_left o1
    have c3 : (nI j).toNatClampNeg = j := nI_clamp (by omega)
    have c4 : md_in (nI j) 20 = true := md_inN (by omega) (by omega)
    have c5 : md_in (nI (20 * f + j)) 400 = true := md_inN (by omega) (by omega)
    have c6 : (nI (20 * f + j)).toNatClampNeg = 20 * f + j := nI_clamp (by omega)
    have lp := lp_sell4 (g := g) (h0 := h0) (m := m) (f := f) (c := c) (lf := nI (L + 1)) hal hn hn2 n 0 (Nat.zero_add _)
    rw [pbest, nI_0, e] at lp
    rw [e, c3] at o2
    have hx := ih (by omega) (p3s f y j) hn o2 (some (.int (nI j))) (some (.int (nI n))) zl_i
    rw [p3, e, c3]
    unfold p3s at hx ⊢
    have d1 : nI (L + 1) + (-1) = nI L := by
      rw [← nI_1, Int32.add_assoc]
      exact Int32.add_zero _
    rw [s135_263]
    simp only [s135_0, s135_1, s135_2, s135_5, s135_8, s135_9, s135_12, s135_13, s135_14, s135_17, s135_18, s135_21, s135_22, s135_23, s135_26, s135_27, s135_28, s135_31, s135_34, s135_37, s135_38, s135_39, s135_40, s135_43, s135_44, s135_45, s135_46, s135_47, s135_48, s135_49, s135_53, s135_54, s135_57, s135_60, s135_61, s135_64, s135_66, s135_67, s135_68, s135_69, s135_72, s135_74, s135_75, s135_76, s135_77, s135_81, s135_82, s135_85, s135_88, s135_89, s135_92, s135_93, s135_96, s135_98, s135_99, s135_100, s135_101, s135_104, s135_105, s135_108, s135_109, s135_112, s135_114, s135_115, s135_116, s135_119, s135_120, s135_123, s135_124, s135_127, s135_129, s135_130, s135_131, s135_133, s135_136, s135_137, s135_140, s135_142, s135_143, s135_144, s135_145, s135_148, s135_150, s135_151, s135_152, s135_153, s135_156, s135_157, s135_160, s135_162, s135_163, s135_164, s135_165, s135_166, s135_167, s135_168, s135_171, s135_174, s135_175, s135_176, s135_179, s135_181, s135_182, s135_183, s135_184, s135_185, s135_188, s135_191, s135_192, s135_193, s135_194, s135_197, s135_198, s135_199, s135_200, s135_202, s135_203, s135_207, s135_208, s135_211, s135_214, s135_215, s135_218, s135_220, s135_221, s135_222, s135_224, s135_225, s135_226, s135_227, s135_228, s135_231, s135_233, s135_234, s135_235, s135_236, s135_237, s135_238, s135_239, s135_240, s135_242, s135_243, s135_246, s135_248, s135_249, s135_250, s135_252, s135_253, s135_254, s135_255, s135_257, s135_260, s135_265, s135_268, s135_269, s135_271, s135_272, s135_276, s135_277, s135_280, s135_283, s135_284, s135_287, s135_289, s135_290, s135_293, s135_295, s135_296, s135_299, s135_300, s135_301, s135_302, s135_305, s135_307, s135_308, s135_309, s135_310, s135_311, s135_312, s135_313, s135_314, s135_315, s135_318, s135_320, s135_321, s135_322, s135_323, s135_324, s135_325, s135_326, s135_329, s135_331, s135_333, s135_336, s135_339, s135_340, s135_343, s135_345, s135_346, s135_347, s135_348, s135_351, s135_353, s135_354, s135_355, s135_357, s135_358, s135_359, s135_360, s135_361, s135_362, s135_363, s135_366, s135_369, s135_370, zl_n, zl_i, zl_r, zl_0, z10, z01, ez_bd_s, ez_bd_n, eq_self, true_or, or_true, if_true, if_false, zb_eq, zb_eq1, zb_em, zb_em2, ite_not, List.append_nil, List.cons_append, List.nil_append, reduceCtorEq, not_true_eq_false, not_false_eq_true, h6, show (nI (L + 1) ≤ 0) = False from eq_false (nI_nle (by omega) hL), lp, c3, c4, c5, c6, nI_m20, nI_add, md_A2, Nat.reduceEqDiff, d1]
    exact hx
def pm_sold (z : md_S) (f : Int32) : md_S := md_sA z 26 f.toNatClampNeg (vp_nar .boolean 1)
def pm_sell (z : md_S) (f c : Int32) : md_S × Int32 := if 0 ≤ f ∧ f ≤ z.1 4 - 1 then (if z.2 25 f.toNatClampNeg = 0 then (z, -1) else (if z.2 26 f.toNatClampNeg = 0 then (if 0 ≤ c ∧ c ≤ 1000000 then (if pal (pm_sold z f) f (z.1 1).toNatClampNeg = 0 then (pws (pm_sold z f) f (z.1 1).toNatClampNeg, 0) else (p3 f.toNatClampNeg c (pal (pm_sold z f) f (z.1 1).toNatClampNeg) (z.1 1).toNatClampNeg (plf (pws (pm_sold z f) f (z.1 1).toNatClampNeg) c (pal (pm_sold z f) f (z.1 1).toNatClampNeg) (z.1 1).toNatClampNeg).toNatClampNeg (pps (pws (pm_sold z f) f (z.1 1).toNatClampNeg) f.toNatClampNeg c (pal (pm_sold z f) f (z.1 1).toNatClampNeg) (z.1 1).toNatClampNeg), c)) else (z, -1)) else (z, -1))) else (z, -1)
/-- the parting ends -/
def md_sel (z : md_S) (f c : Int32) : Prop := ∃ L, L < 2 ^ 31 ∧ plf (pws (pm_sold z f) f (z.1 1).toNatClampNeg) c (pal (pm_sold z f) f (z.1 1).toNatClampNeg) (z.1 1).toNatClampNeg = nI L ∧ p3ok f.toNatClampNeg c (pal (pm_sold z f) f (z.1 1).toNatClampNeg) (z.1 1).toNatClampNeg L (pps (pws (pm_sold z f) f (z.1 1).toNatClampNeg) f.toNatClampNeg c (pal (pm_sold z f) f (z.1 1).toNatClampNeg) (z.1 1).toNatClampNeg)
theorem q_sell {f c : Int32} (hn : md_in (z.1 1) 21 = true) (hl : md_ldx z) (hf : 0 ≤ f ∧ f ≤ z.1 4 - 1 → md_in f 20 = true) (hs : 0 ≤ f ∧ f ≤ z.1 4 - 1 → 0 ≤ c ∧ c ≤ 1000000 → ¬ pal (pm_sold z f) f (z.1 1).toNatClampNeg = 0 → md_sel z f c) : ez_ev g 135 [.ref m, .int f, .int c] (md_h h0 m z) = some (some (.int (pm_sell z f c).2), md_h h0 m (pm_sell z f c).1) := by
  obtain ⟨e1, h1⟩ := md_inE hn
  rw [e135]
  unfold pm_sell
  by_cases h2 : 0 ≤ f ∧ f ≤ z.1 4 - 1
  · rw [if_pos h2]
    have h3 := hf h2
    by_cases h4 : 0 ≤ c ∧ c ≤ 1000000
    · rw [if_pos h4]
      have hl2 : md_ldx (pm_sold z f) := by
        unfold pm_sold md_ldx
        rw [md_A1, md_A2n (t := 31) (by omega), md_A2n (t := 32) (by omega)]
        exact hl
      obtain ⟨y6, hy6, lp⟩ := lp_sell2 (g := g) (h0 := h0) (m := m) (z := pm_sold z f) (f := f) (c := c) (x7 := none) e1 (by omega) hl2 _ 0 (Nat.zero_add _) none zl_n
      rw [pal, nI_0, pws] at lp
      have hsel := hs h2 h4
      have i1 : (pws (pm_sold z f) f (z.1 1).toNatClampNeg).1 1 = nI (z.1 1).toNatClampNeg := by rw [(pws_y _).1]; exact e1
      unfold md_sel at hsel
      by_cases h5 : pal (pm_sold z f) f (z.1 1).toNatClampNeg = 0
      · rw [if_pos h5]
        unfold pm_sold at lp h5 ⊢
        simp only [s135_0, s135_1, s135_2, s135_5, s135_8, s135_9, s135_12, s135_13, s135_14, s135_17, s135_18, s135_21, s135_22, s135_23, s135_26, s135_27, s135_28, s135_31, s135_34, s135_37, s135_38, s135_39, s135_40, s135_43, s135_44, s135_45, s135_46, s135_47, s135_48, s135_49, s135_53, s135_54, s135_57, s135_60, s135_61, s135_64, s135_66, s135_67, s135_68, s135_69, s135_72, s135_74, s135_75, s135_76, s135_77, s135_81, s135_82, s135_85, s135_88, s135_89, s135_92, s135_93, s135_96, s135_98, s135_99, s135_100, s135_101, s135_104, s135_105, s135_108, s135_109, s135_112, s135_114, s135_115, s135_116, s135_119, s135_120, s135_123, s135_124, s135_127, s135_129, s135_130, s135_131, s135_133, s135_136, s135_137, s135_140, s135_142, s135_143, s135_144, s135_145, s135_148, s135_150, s135_151, s135_152, s135_153, s135_156, s135_157, s135_160, s135_162, s135_163, s135_164, s135_165, s135_166, s135_167, s135_168, s135_171, s135_174, s135_175, s135_176, s135_179, s135_181, s135_182, s135_183, s135_184, s135_185, s135_188, s135_191, s135_192, s135_193, s135_194, s135_197, s135_198, s135_199, s135_200, s135_202, s135_203, s135_207, s135_208, s135_211, s135_214, s135_215, s135_218, s135_220, s135_221, s135_222, s135_224, s135_225, s135_226, s135_227, s135_228, s135_231, s135_233, s135_234, s135_235, s135_236, s135_237, s135_238, s135_239, s135_240, s135_242, s135_243, s135_246, s135_248, s135_249, s135_250, s135_252, s135_253, s135_254, s135_255, s135_257, s135_260, s135_265, s135_268, s135_269, s135_271, s135_272, s135_276, s135_277, s135_280, s135_283, s135_284, s135_287, s135_289, s135_290, s135_293, s135_295, s135_296, s135_299, s135_300, s135_301, s135_302, s135_305, s135_307, s135_308, s135_309, s135_310, s135_311, s135_312, s135_313, s135_314, s135_315, s135_318, s135_320, s135_321, s135_322, s135_323, s135_324, s135_325, s135_326, s135_329, s135_331, s135_333, s135_336, s135_339, s135_340, s135_343, s135_345, s135_346, s135_347, s135_348, s135_351, s135_353, s135_354, s135_355, s135_357, s135_358, s135_359, s135_360, s135_361, s135_362, s135_363, s135_366, s135_369, s135_370, zl_n, zl_i, zl_r, zl_0, z10, z01, ez_bd_s, ez_bd_n, eq_self, true_or, or_true, if_true, if_false, zb_eq, zb_eq1, zb_em, zb_em2, ite_not, List.append_nil, List.cons_append, List.nil_append, reduceCtorEq, not_true_eq_false, not_false_eq_true, q_isFleet, q_isIn, h2, h4, and_self, h3, lp, lg0, h5]
        repeat' split
        all_goals rfl
      · rw [if_neg h5]
        obtain ⟨L, hL, eL, ok⟩ := hsel h5
        obtain ⟨ef, hf20⟩ := md_inE h3
        have l3 := lp_sell3 (g := g) (h0 := h0) (m := m) (y := pws (pm_sold z f) f (z.1 1).toNatClampNeg) (f := f.toNatClampNeg) (c := c) (x7 := none) h5 hf20 i1 (by omega) _ 0 (Nat.zero_add _)
        rw [pps, plf, nI_0, ← ef, eL] at l3
        have l5 := lp_sell5 (g := g) (h0 := h0) (m := m) (f := f.toNatClampNeg) (c := c) h5 hf20 (show (z.1 1).toNatClampNeg ≤ 20 by omega) L hL _ (by rw [pps_I]; exact i1) ok (some (.int (nI (z.1 1).toNatClampNeg))) none zl_i
        rw [← ef] at l5
        rw [eL, nI_clamp hL]
        generalize hZ : pws (pm_sold z f) f (z.1 1).toNatClampNeg = Z at *
        generalize hA : pal (pm_sold z f) f (z.1 1).toNatClampNeg = A at *
        unfold pm_sold at lp
        simp only [s135_0, s135_1, s135_2, s135_5, s135_8, s135_9, s135_12, s135_13, s135_14, s135_17, s135_18, s135_21, s135_22, s135_23, s135_26, s135_27, s135_28, s135_31, s135_34, s135_37, s135_38, s135_39, s135_40, s135_43, s135_44, s135_45, s135_46, s135_47, s135_48, s135_49, s135_53, s135_54, s135_57, s135_60, s135_61, s135_64, s135_66, s135_67, s135_68, s135_69, s135_72, s135_74, s135_75, s135_76, s135_77, s135_81, s135_82, s135_85, s135_88, s135_89, s135_92, s135_93, s135_96, s135_98, s135_99, s135_100, s135_101, s135_104, s135_105, s135_108, s135_109, s135_112, s135_114, s135_115, s135_116, s135_119, s135_120, s135_123, s135_124, s135_127, s135_129, s135_130, s135_131, s135_133, s135_136, s135_137, s135_140, s135_142, s135_143, s135_144, s135_145, s135_148, s135_150, s135_151, s135_152, s135_153, s135_156, s135_157, s135_160, s135_162, s135_163, s135_164, s135_165, s135_166, s135_167, s135_168, s135_171, s135_174, s135_175, s135_176, s135_179, s135_181, s135_182, s135_183, s135_184, s135_185, s135_188, s135_191, s135_192, s135_193, s135_194, s135_197, s135_198, s135_199, s135_200, s135_202, s135_203, s135_207, s135_208, s135_211, s135_214, s135_215, s135_218, s135_220, s135_221, s135_222, s135_224, s135_225, s135_226, s135_227, s135_228, s135_231, s135_233, s135_234, s135_235, s135_236, s135_237, s135_238, s135_239, s135_240, s135_242, s135_243, s135_246, s135_248, s135_249, s135_250, s135_252, s135_253, s135_254, s135_255, s135_257, s135_260, s135_265, s135_268, s135_269, s135_271, s135_272, s135_276, s135_277, s135_280, s135_283, s135_284, s135_287, s135_289, s135_290, s135_293, s135_295, s135_296, s135_299, s135_300, s135_301, s135_302, s135_305, s135_307, s135_308, s135_309, s135_310, s135_311, s135_312, s135_313, s135_314, s135_315, s135_318, s135_320, s135_321, s135_322, s135_323, s135_324, s135_325, s135_326, s135_329, s135_331, s135_333, s135_336, s135_339, s135_340, s135_343, s135_345, s135_346, s135_347, s135_348, s135_351, s135_353, s135_354, s135_355, s135_357, s135_358, s135_359, s135_360, s135_361, s135_362, s135_363, s135_366, s135_369, s135_370, zl_n, zl_i, zl_r, zl_0, z10, z01, ez_bd_s, ez_bd_n, eq_self, true_or, or_true, if_true, if_false, zb_eq, zb_eq1, zb_em, zb_em2, ite_not, List.append_nil, List.cons_append, List.nil_append, reduceCtorEq, not_true_eq_false, not_false_eq_true, q_isFleet, q_isIn, h2, h4, and_self, h3, lp, lg0, h5, hy6, l3, l5]
        repeat' split
        all_goals rfl
    · rw [if_neg h4]
      simp only [s135_0, s135_1, s135_2, s135_5, s135_8, s135_9, s135_12, s135_13, s135_14, s135_17, s135_18, s135_21, s135_22, s135_23, s135_26, s135_27, s135_28, s135_31, s135_34, s135_37, s135_38, s135_39, s135_40, s135_43, s135_44, s135_45, s135_46, s135_47, s135_48, s135_49, s135_53, s135_54, s135_57, s135_60, s135_61, s135_64, s135_66, s135_67, s135_68, s135_69, s135_72, s135_74, s135_75, s135_76, s135_77, s135_81, s135_82, s135_85, s135_88, s135_89, s135_92, s135_93, s135_96, s135_98, s135_99, s135_100, s135_101, s135_104, s135_105, s135_108, s135_109, s135_112, s135_114, s135_115, s135_116, s135_119, s135_120, s135_123, s135_124, s135_127, s135_129, s135_130, s135_131, s135_133, s135_136, s135_137, s135_140, s135_142, s135_143, s135_144, s135_145, s135_148, s135_150, s135_151, s135_152, s135_153, s135_156, s135_157, s135_160, s135_162, s135_163, s135_164, s135_165, s135_166, s135_167, s135_168, s135_171, s135_174, s135_175, s135_176, s135_179, s135_181, s135_182, s135_183, s135_184, s135_185, s135_188, s135_191, s135_192, s135_193, s135_194, s135_197, s135_198, s135_199, s135_200, s135_202, s135_203, s135_207, s135_208, s135_211, s135_214, s135_215, s135_218, s135_220, s135_221, s135_222, s135_224, s135_225, s135_226, s135_227, s135_228, s135_231, s135_233, s135_234, s135_235, s135_236, s135_237, s135_238, s135_239, s135_240, s135_242, s135_243, s135_246, s135_248, s135_249, s135_250, s135_252, s135_253, s135_254, s135_255, s135_257, s135_260, s135_265, s135_268, s135_269, s135_271, s135_272, s135_276, s135_277, s135_280, s135_283, s135_284, s135_287, s135_289, s135_290, s135_293, s135_295, s135_296, s135_299, s135_300, s135_301, s135_302, s135_305, s135_307, s135_308, s135_309, s135_310, s135_311, s135_312, s135_313, s135_314, s135_315, s135_318, s135_320, s135_321, s135_322, s135_323, s135_324, s135_325, s135_326, s135_329, s135_331, s135_333, s135_336, s135_339, s135_340, s135_343, s135_345, s135_346, s135_347, s135_348, s135_351, s135_353, s135_354, s135_355, s135_357, s135_358, s135_359, s135_360, s135_361, s135_362, s135_363, s135_366, s135_369, s135_370, zl_n, zl_i, zl_r, zl_0, z10, z01, ez_bd_s, ez_bd_n, eq_self, true_or, or_true, if_true, if_false, zb_eq, zb_eq1, zb_em, zb_em2, ite_not, List.append_nil, List.cons_append, List.nil_append, reduceCtorEq, not_true_eq_false, not_false_eq_true, q_isFleet, q_isIn, h2, and_self, h3]
      simp only [if_neg h4]
      repeat' split
      all_goals rfl
  · simp only [s135_0, s135_1, s135_2, s135_5, s135_8, s135_9, s135_12, s135_13, s135_14, s135_17, s135_18, s135_21, s135_22, s135_23, s135_26, s135_27, s135_28, s135_31, s135_34, s135_37, s135_38, s135_39, s135_40, s135_43, s135_44, s135_45, s135_46, s135_47, s135_48, s135_49, s135_53, s135_54, s135_57, s135_60, s135_61, s135_64, s135_66, s135_67, s135_68, s135_69, s135_72, s135_74, s135_75, s135_76, s135_77, s135_81, s135_82, s135_85, s135_88, s135_89, s135_92, s135_93, s135_96, s135_98, s135_99, s135_100, s135_101, s135_104, s135_105, s135_108, s135_109, s135_112, s135_114, s135_115, s135_116, s135_119, s135_120, s135_123, s135_124, s135_127, s135_129, s135_130, s135_131, s135_133, s135_136, s135_137, s135_140, s135_142, s135_143, s135_144, s135_145, s135_148, s135_150, s135_151, s135_152, s135_153, s135_156, s135_157, s135_160, s135_162, s135_163, s135_164, s135_165, s135_166, s135_167, s135_168, s135_171, s135_174, s135_175, s135_176, s135_179, s135_181, s135_182, s135_183, s135_184, s135_185, s135_188, s135_191, s135_192, s135_193, s135_194, s135_197, s135_198, s135_199, s135_200, s135_202, s135_203, s135_207, s135_208, s135_211, s135_214, s135_215, s135_218, s135_220, s135_221, s135_222, s135_224, s135_225, s135_226, s135_227, s135_228, s135_231, s135_233, s135_234, s135_235, s135_236, s135_237, s135_238, s135_239, s135_240, s135_242, s135_243, s135_246, s135_248, s135_249, s135_250, s135_252, s135_253, s135_254, s135_255, s135_257, s135_260, s135_265, s135_268, s135_269, s135_271, s135_272, s135_276, s135_277, s135_280, s135_283, s135_284, s135_287, s135_289, s135_290, s135_293, s135_295, s135_296, s135_299, s135_300, s135_301, s135_302, s135_305, s135_307, s135_308, s135_309, s135_310, s135_311, s135_312, s135_313, s135_314, s135_315, s135_318, s135_320, s135_321, s135_322, s135_323, s135_324, s135_325, s135_326, s135_329, s135_331, s135_333, s135_336, s135_339, s135_340, s135_343, s135_345, s135_346, s135_347, s135_348, s135_351, s135_353, s135_354, s135_355, s135_357, s135_358, s135_359, s135_360, s135_361, s135_362, s135_363, s135_366, s135_369, s135_370, zl_n, zl_i, zl_r, zl_0, z10, z01, ez_bd_s, ez_bd_n, eq_self, true_or, or_true, if_true, if_false, zb_eq, zb_eq1, zb_em, zb_em2, ite_not, List.append_nil, List.cons_append, List.nil_append, reduceCtorEq, not_true_eq_false, not_false_eq_true, q_isFleet, q_isIn]
    simp only [if_neg h2]
end M11
