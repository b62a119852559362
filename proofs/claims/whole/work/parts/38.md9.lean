section M9
variable {g : ez_G} {h0 : ez_H} {m : Nat} {z y x : md_S}
/-- what reading leaves as it is -/
def md_fr (z y : md_S) : Prop := (∀ t, t ≠ 38 → t ≠ 49 → t ≠ 50 → y.1 t = z.1 t) ∧ ∀ t, t < 44 ∨ 48 < t → y.2 t = z.2 t
theorem fr_rfl : md_fr z z := ⟨fun _ _ _ _ => rfl, fun _ _ => rfl⟩
theorem fr_tr (a : md_fr z y) (b : md_fr y x) : md_fr z x := ⟨fun t h1 h2 h3 => (b.1 t h1 h2 h3).trans (a.1 t h1 h2 h3), fun t h => (b.2 t h).trans (a.2 t h)⟩
theorem fr_I {s : Nat} {v : Int32} (hs : s = 38 ∨ s = 49 ∨ s = 50) : md_fr z (md_sI z s v) := ⟨fun t h1 h2 h3 => md_AI1 (by omega), fun _ _ => rfl⟩
theorem fr_A {s i : Nat} {v : Int32} (hs : 44 ≤ s ∧ s ≤ 48) : md_fr z (md_sA z s i v) := ⟨fun _ _ _ _ => rfl, fun t h => md_A2n (by omega)⟩
theorem fr_bl : md_fr z (pm_bl z) := fr_I (by omega)
theorem fr_wd : md_fr z (pm_wd z) := fr_tr fr_bl (fr_I (by omega))
theorem fr_tk {w : Int64} : md_fr z (pm_tk z w).1 := by
  unfold pm_tk
  split
  · exact fr_tr fr_wd (fr_I (by omega))
  · exact fr_wd
theorem fr_tn : md_fr z (pm_tn z).1 := by
  have h : md_fr z (pm_nn z) := fr_tr fr_bl (fr_I (by omega))
  unfold pm_tn
  repeat' split
  · exact h
  · exact fr_tr h (fr_I (by omega))
  · exact h
theorem md_p_A {s i : Nat} {v : Int32} (h : md_p z) : md_p (md_sA z s i v) := h
/-- a COND more -/
def pm_cn (y : md_S) (k : Nat) (w : Int32) : md_S := md_sA (md_sA (md_sA y 47 (3 * k + (y.2 46 k).toNatClampNeg) w) 48 (3 * k + (y.2 46 k).toNatClampNeg) (y.1 50)) 46 k (y.2 46 k + 1)
theorem md_p_cn {k : Nat} {w : Int32} (h : md_p y) : md_p (pm_cn y k w) := by
  unfold pm_cn
  exact md_p_A (md_p_A (md_p_A h))
theorem fr_cn {k : Nat} {w : Int32} : md_fr y (pm_cn y k w) := by
  unfold pm_cn
  exact fr_tr (fr_A (by omega)) (fr_tr (fr_A (by omega)) (fr_A (by omega)))
def pm_nx (z : md_S) : md_S := md_sI (pm_wd z) 38 (nI (ze z))
def tcl (k : Nat) : Nat → md_S → md_S × Int32
  | 0, z => (z, 0)
  | d + 1, z => if pm_cv z = -1 then (pm_wd z, 1) else if z.2 46 k = 3 then (pm_wd z, 0) else if (pm_tn (pm_nx z)).2 = 0 then ((pm_tn (pm_nx z)).1, 0) else tcl k d (pm_cn (pm_tn (pm_nx z)).1 k (pm_cv z))
theorem tn_2 {t : Nat} : (pm_tn z).1.2 t = z.2 t := by
  unfold pm_tn
  repeat' split
  all_goals rfl
theorem pm_cv3 : pm_cv z = -1 ∨ pm_cv z = 0 ∨ pm_cv z = 1 ∨ pm_cv z = 2 := by
  unfold pm_cv
  repeat' split
  all_goals simp
theorem md_p_nx (h : md_p z) : md_p (pm_nx z) := md_p_at (ze_le h).2 (md_p_wd h)
theorem lp_conds {k : Nat} (hk : k < 336) : ∀ d c z, c + d = 4 → c ≤ 3 → z.2 46 k = nI c → md_p z → ez_rn g 106 12 [some (.ref m), some (.int (nI k)), some (.int (pm_cv z))] [] (md_h h0 m (pm_wd z)) = some (some (.int (tcl k d z).2), md_h h0 m (tcl k d z).1) := by
  have c0 : (nI k).toNatClampNeg = k := nI_clamp (by omega)
  have c9 : md_in (nI k) 336 = true := md_inN hk (by omega)
  intro d
  induction d with
  | zero =>
    intro c z hc h3
    omega
  | succ d ih =>
    intro c z hc h3 h46 hp
    rw [tcl, s106_12]
    by_cases e1 : pm_cv z = -1
    · rw [if_pos e1, e1]
      simp only [s106_0, s106_1, s106_4, s106_5, s106_6, s106_7, s106_8, s106_11, s106_13, s106_14, s106_17, s106_18, s106_21, s106_22, s106_23, s106_24, s106_27, s106_28, s106_29, s106_30, s106_31, s106_34, s106_37, s106_38, s106_41, s106_44, s106_45, s106_46, s106_47, s106_50, s106_51, s106_52, s106_53, s106_54, s106_57, s106_58, s106_59, s106_60, s106_61, s106_62, s106_63, s106_66, s106_67, s106_68, s106_69, s106_70, s106_73, s106_74, s106_75, s106_76, s106_77, s106_80, s106_81, s106_82, s106_85, s106_86, s106_87, s106_88, s106_89, s106_90, s106_91, s106_92, s106_95, s106_96, s106_99, s106_100, zl_n, zl_i, zl_r, zl_0, z10, z01, ez_bd_s, ez_bd_n, eq_self, true_or, or_true, if_true, if_false, zb_eq, zb_eq1, zb_em, zb_em2, ite_not, List.append_nil, List.cons_append, List.nil_append, reduceCtorEq, not_true_eq_false, not_false_eq_true]
    · rw [if_neg e1]
      by_cases e2 : z.2 46 k = 3
      · rw [if_pos e2]
        simp only [s106_0, s106_1, s106_4, s106_5, s106_6, s106_7, s106_8, s106_11, s106_13, s106_14, s106_17, s106_18, s106_21, s106_22, s106_23, s106_24, s106_27, s106_28, s106_29, s106_30, s106_31, s106_34, s106_37, s106_38, s106_41, s106_44, s106_45, s106_46, s106_47, s106_50, s106_51, s106_52, s106_53, s106_54, s106_57, s106_58, s106_59, s106_60, s106_61, s106_62, s106_63, s106_66, s106_67, s106_68, s106_69, s106_70, s106_73, s106_74, s106_75, s106_76, s106_77, s106_80, s106_81, s106_82, s106_85, s106_86, s106_87, s106_88, s106_89, s106_90, s106_91, s106_92, s106_95, s106_96, s106_99, s106_100, zl_n, zl_i, zl_r, zl_0, z10, z01, ez_bd_s, ez_bd_n, eq_self, true_or, or_true, if_true, if_false, zb_eq, zb_eq1, zb_em, zb_em2, ite_not, List.append_nil, List.cons_append, List.nil_append, reduceCtorEq, not_true_eq_false, not_false_eq_true, e1, c0, c9, show (pm_wd z).2 = z.2 from rfl, e2]
      · rw [if_neg e2]
        have hp2 := md_p_nx hp
        have q1 := q_takesNumber (g := g) (h0 := h0) (m := m) hp2
        unfold pm_nx at q1
        have h6 : (pm_tn (pm_nx z)).1.2 46 k = nI c := by rw [tn_2]; exact h46
        by_cases e3 : (pm_tn (pm_nx z)).2 = 0
        · rw [if_pos e3]
          unfold pm_nx at e3 ⊢
          simp only [s106_0, s106_1, s106_4, s106_5, s106_6, s106_7, s106_8, s106_11, s106_13, s106_14, s106_17, s106_18, s106_21, s106_22, s106_23, s106_24, s106_27, s106_28, s106_29, s106_30, s106_31, s106_34, s106_37, s106_38, s106_41, s106_44, s106_45, s106_46, s106_47, s106_50, s106_51, s106_52, s106_53, s106_54, s106_57, s106_58, s106_59, s106_60, s106_61, s106_62, s106_63, s106_66, s106_67, s106_68, s106_69, s106_70, s106_73, s106_74, s106_75, s106_76, s106_77, s106_80, s106_81, s106_82, s106_85, s106_86, s106_87, s106_88, s106_89, s106_90, s106_91, s106_92, s106_95, s106_96, s106_99, s106_100, zl_n, zl_i, zl_r, zl_0, z10, z01, ez_bd_s, ez_bd_n, eq_self, true_or, or_true, if_true, if_false, zb_eq, zb_eq1, zb_em, zb_em2, ite_not, List.append_nil, List.cons_append, List.nil_append, reduceCtorEq, not_true_eq_false, not_false_eq_true, e1, c0, c9, show (pm_wd z).2 = z.2 from rfl, e2, show (pm_wd z).1 49 = nI (ze z) from rfl, q1, e3]
        · rw [if_neg e3]
          have e9 : c ≠ 3 := fun e => e2 (by rw [h46, e]; rfl)
          have hp3 : md_p (pm_cn (pm_tn (pm_nx z)).1 k (pm_cv z)) := md_p_cn (md_p_tn hp2)
          have hx := ih (c + 1) (pm_cn (pm_tn (pm_nx z)).1 k (pm_cv z)) (by omega) (by omega) (by
            show upd ((pm_tn (pm_nx z)).1.2 46) k ((pm_tn (pm_nx z)).1.2 46 k + 1) k = _
            rw [pk_us, h6, nI_1]) hp3
          have q2 := q_cond (g := g) (h0 := h0) (m := m) hp3
          have c3 : (nI c).toNatClampNeg = c := nI_clamp (by omega)
          have c4 : md_in (nI (3 * k + c)) 1008 = true := md_inN (by omega) (by omega)
          have c5 : (nI (3 * k + c)).toNatClampNeg = 3 * k + c := nI_clamp (by omega)
          unfold pm_cn at q2
          rw [h6] at q2
          generalize hy : (pm_tn (pm_nx z)).1 = y at *
          have q1' : ez_ev g 104 [.ref m] (md_h h0 m (md_sI (pm_wd z) 38 (nI (ze z)))) = some (some (.int (pm_tn (pm_nx z)).2), md_h h0 m y) := by rw [← hy]; exact q1
          simp only [c3] at q2
          simp only [s106_0, s106_1, s106_4, s106_5, s106_6, s106_7, s106_8, s106_11, s106_13, s106_14, s106_17, s106_18, s106_21, s106_22, s106_23, s106_24, s106_27, s106_28, s106_29, s106_30, s106_31, s106_34, s106_37, s106_38, s106_41, s106_44, s106_45, s106_46, s106_47, s106_50, s106_51, s106_52, s106_53, s106_54, s106_57, s106_58, s106_59, s106_60, s106_61, s106_62, s106_63, s106_66, s106_67, s106_68, s106_69, s106_70, s106_73, s106_74, s106_75, s106_76, s106_77, s106_80, s106_81, s106_82, s106_85, s106_86, s106_87, s106_88, s106_89, s106_90, s106_91, s106_92, s106_95, s106_96, s106_99, s106_100, zl_n, zl_i, zl_r, zl_0, z10, z01, ez_bd_s, ez_bd_n, eq_self, true_or, or_true, if_true, if_false, zb_eq, zb_eq1, zb_em, zb_em2, ite_not, List.append_nil, List.cons_append, List.nil_append, reduceCtorEq, not_true_eq_false, not_false_eq_true, e1, c0, c9, show (pm_wd z).2 = z.2 from rfl, e2, show (pm_wd z).1 49 = nI (ze z) from rfl, q1', e3, nI_m3, nI_add, md_A1, md_A2, Nat.reduceEqDiff, h6, c4, c5, nI_1]
          rw [nI_1] at q2
          rw [q2]
          simp only [s106_0, s106_1, s106_4, s106_5, s106_6, s106_7, s106_8, s106_11, s106_13, s106_14, s106_17, s106_18, s106_21, s106_22, s106_23, s106_24, s106_27, s106_28, s106_29, s106_30, s106_31, s106_34, s106_37, s106_38, s106_41, s106_44, s106_45, s106_46, s106_47, s106_50, s106_51, s106_52, s106_53, s106_54, s106_57, s106_58, s106_59, s106_60, s106_61, s106_62, s106_63, s106_66, s106_67, s106_68, s106_69, s106_70, s106_73, s106_74, s106_75, s106_76, s106_77, s106_80, s106_81, s106_82, s106_85, s106_86, s106_87, s106_88, s106_89, s106_90, s106_91, s106_92, s106_95, s106_96, s106_99, s106_100, zl_n, zl_i, zl_r, zl_0, z10, z01, ez_bd_s, ez_bd_n, eq_self, true_or, or_true, if_true, if_false, zb_eq, zb_eq1, zb_em, zb_em2, ite_not, List.append_nil, List.cons_append, List.nil_append, reduceCtorEq, not_true_eq_false, not_false_eq_true]
          unfold pm_cn at hx
          rw [h6, c3, nI_1] at hx
          unfold pm_cn
          rw [h6, c3, nI_1]
          exact hx
def pm_tc (z : md_S) (k : Nat) : md_S × Int32 := tcl k 4 (md_sA z 46 k 0)
theorem q_takesConds {k : Nat} (hk : k < 336) (hp : md_p z) : ez_ev g 106 [.ref m, .int (nI k)] (md_h h0 m z) = some (some (.int (pm_tc z k).2), md_h h0 m (pm_tc z k).1) := by
  have c0 : (nI k).toNatClampNeg = k := nI_clamp (by omega)
  have c9 : md_in (nI k) 336 = true := md_inN hk (by omega)
  have hp2 : md_p (md_sA z 46 k 0) := md_p_A hp
  have lp := lp_conds (g := g) (h0 := h0) (m := m) hk 4 0 (md_sA z 46 k 0) rfl (by omega) (by rw [md_A2, if_pos rfl, pk_us]; rfl) hp2
  rw [e106]
  simp only [s106_0, s106_1, s106_4, s106_5, s106_6, s106_7, s106_8, s106_11, s106_13, s106_14, s106_17, s106_18, s106_21, s106_22, s106_23, s106_24, s106_27, s106_28, s106_29, s106_30, s106_31, s106_34, s106_37, s106_38, s106_41, s106_44, s106_45, s106_46, s106_47, s106_50, s106_51, s106_52, s106_53, s106_54, s106_57, s106_58, s106_59, s106_60, s106_61, s106_62, s106_63, s106_66, s106_67, s106_68, s106_69, s106_70, s106_73, s106_74, s106_75, s106_76, s106_77, s106_80, s106_81, s106_82, s106_85, s106_86, s106_87, s106_88, s106_89, s106_90, s106_91, s106_92, s106_95, s106_96, s106_99, s106_100, zl_n, zl_i, zl_r, zl_0, z10, z01, ez_bd_s, ez_bd_n, eq_self, true_or, or_true, if_true, if_false, zb_eq, zb_eq1, zb_em, zb_em2, ite_not, List.append_nil, List.cons_append, List.nil_append, reduceCtorEq, not_true_eq_false, not_false_eq_true, c0, c9, q_cond hp2]
  exact lp
theorem md_p_tcl {k : Nat} : ∀ d z, md_p z → md_p (tcl k d z).1
  | 0, _, h => h
  | d + 1, z, h => by
    rw [tcl]
    repeat' split
    all_goals try dsimp only
    · exact md_p_wd h
    · exact md_p_wd h
    · exact md_p_tn (md_p_nx h)
    · exact md_p_tcl d _ (md_p_cn (md_p_tn (md_p_nx h)))
theorem fr_tcl {k : Nat} : ∀ d z, md_fr z (tcl k d z).1
  | 0, _ => fr_rfl
  | d + 1, z => by
    have h1 : md_fr z (pm_tn (pm_nx z)).1 := fr_tr (fr_tr fr_wd (fr_I (by omega))) fr_tn
    rw [tcl]
    repeat' split
    all_goals try dsimp only
    · exact fr_wd
    · exact fr_wd
    · exact h1
    · exact fr_tr h1 (fr_tr fr_cn (fr_tcl d _))
theorem md_p_tc {k : Nat} (h : md_p z) : md_p (pm_tc z k).1 := md_p_tcl 4 _ (md_p_A h)
theorem fr_tc {k : Nat} : md_fr z (pm_tc z k).1 := fr_tr (fr_A (by omega)) (fr_tcl 4 _)
/-- the statement's end -/
def pm_fin (y : md_S) : md_S × Int32 := if (pm_bl y).1 38 = (pm_bl y).1 37 then (pm_bl y, 0) else if (pm_bl y).2 35 ((pm_bl y).1 38).toNatClampNeg = 59 then (md_sI (pm_bl y) 38 ((pm_bl y).1 38 + 1), 1) else (pm_bl y, 0)
def pm_s3 (z : md_S) (k : Nat) : md_S × Int32 := if (pm_tk z 1819243380).2 = 0 then ((pm_tk z 1819243380).1, 0) else if (pm_tk (pm_tk z 1819243380).1 1701733491).2 = 0 then (if (pm_tk (md_sA (pm_tk (pm_tk z 1819243380).1 1701733491).1 45 k 0) 126943688025203).2 = 0 then ((pm_tk (md_sA (pm_tk (pm_tk z 1819243380).1 1701733491).1 45 k 0) 126943688025203).1, 0) else pm_fin (pm_tk (md_sA (pm_tk (pm_tk z 1819243380).1 1701733491).1 45 k 0) 126943688025203).1) else pm_fin (md_sA (pm_tk (pm_tk z 1819243380).1 1701733491).1 45 k 1)
def pm_s2 (z : md_S) (k : Nat) : md_S × Int32 := if (pm_tn z).2 = 0 then ((pm_tn z).1, 0) else pm_fin (md_sA (pm_tn z).1 45 k ((pm_tn z).1.1 50))
def pm_s1 (z : md_S) (k : Nat) : md_S × Int32 := if (pm_tc z k).2 = 0 then ((pm_tc z k).1, 0) else pm_fin (pm_tc z k).1
def pm_s0 (z : md_S) (k : Nat) : md_S × Int32 := if (pm_tc z k).2 = 0 then ((pm_tc z k).1, 0) else if (pm_tk (pm_tc z k).1 26995).2 = 0 then ((pm_tk (pm_tc z k).1 26995).1, 0) else pm_s2 (pm_tk (pm_tc z k).1 26995).1 k
def pm_st (z : md_S) (k : Nat) : md_S × Int32 :=
  let t1 := pm_tk (md_sA z 46 k 0) 1685419129
  if t1.2 = 0 then
    let t2 := pm_tk t1.1 112628846455140
    if t2.2 = 0 then
      let t3 := pm_tk t2.1 1952805485
      if t3.2 = 0 then pm_s3 (md_sA t3.1 44 k 3) k else pm_s2 (md_sA t3.1 44 k 2) k
    else pm_s1 (md_sA t2.1 44 k 1) k
  else pm_s0 (md_sA t1.1 44 k 0) k
theorem lq_fin {k : Nat} (hp : md_p y) : ez_rn g 107 191 [some (.ref m), some (.int (nI k))] [] (md_h h0 m y) = some (some (.int (pm_fin y).2), md_h h0 m (pm_fin y).1) := by
  unfold pm_fin
  have hb := md_p_bl hp
  obtain ⟨e1, h1⟩ := md_inE hb.1
  obtain ⟨e2, h2⟩ := md_inE hb.2.1
  by_cases h3 : (pm_bl y).1 38 = (pm_bl y).1 37
  · simp only [s107_0, s107_1, s107_4, s107_5, s107_6, s107_7, s107_8, s107_11, s107_14, s107_17, s107_18, s107_21, s107_22, s107_23, s107_24, s107_25, s107_26, s107_29, s107_32, s107_33, s107_36, s107_39, s107_42, s107_43, s107_46, s107_49, s107_50, s107_51, s107_52, s107_55, s107_56, s107_57, s107_60, s107_61, s107_64, s107_65, s107_68, s107_71, s107_74, s107_75, s107_78, s107_79, s107_80, s107_81, s107_82, s107_83, s107_86, s107_89, s107_90, s107_91, s107_92, s107_95, s107_98, s107_101, s107_102, s107_105, s107_106, s107_107, s107_108, s107_109, s107_112, s107_115, s107_116, s107_117, s107_118, s107_121, s107_122, s107_123, s107_126, s107_127, s107_130, s107_131, s107_134, s107_135, s107_136, s107_137, s107_138, s107_141, s107_144, s107_147, s107_148, s107_149, s107_150, s107_153, s107_154, s107_155, s107_158, s107_161, s107_164, s107_165, s107_168, s107_169, s107_170, s107_171, s107_174, s107_175, s107_176, s107_179, s107_180, s107_183, s107_186, s107_189, s107_190, s107_191, s107_192, s107_195, s107_196, s107_199, s107_200, s107_203, s107_206, s107_207, s107_210, s107_211, s107_214, s107_215, s107_217, s107_220, s107_221, s107_222, s107_223, s107_224, s107_227, s107_228, s107_229, s107_232, s107_233, zl_n, zl_i, zl_r, zl_0, z10, z01, ez_bd_s, ez_bd_n, eq_self, true_or, or_true, if_true, if_false, zb_eq, zb_eq1, zb_em, zb_em2, ite_not, List.append_nil, List.cons_append, List.nil_append, reduceCtorEq, not_true_eq_false, not_false_eq_true, q_blanks hp, h3]
  · have h4 : md_in ((pm_bl y).1 38) 600 = true := by
      rw [e2]
      refine md_inN ?_ (by omega)
      have h5 := hb.2.2
      have h6 : ((pm_bl y).1 38).toNatClampNeg ≠ ((pm_bl y).1 37).toNatClampNeg := fun e => h3 (by rw [e1, e2, e])
      omega
    simp only [s107_0, s107_1, s107_4, s107_5, s107_6, s107_7, s107_8, s107_11, s107_14, s107_17, s107_18, s107_21, s107_22, s107_23, s107_24, s107_25, s107_26, s107_29, s107_32, s107_33, s107_36, s107_39, s107_42, s107_43, s107_46, s107_49, s107_50, s107_51, s107_52, s107_55, s107_56, s107_57, s107_60, s107_61, s107_64, s107_65, s107_68, s107_71, s107_74, s107_75, s107_78, s107_79, s107_80, s107_81, s107_82, s107_83, s107_86, s107_89, s107_90, s107_91, s107_92, s107_95, s107_98, s107_101, s107_102, s107_105, s107_106, s107_107, s107_108, s107_109, s107_112, s107_115, s107_116, s107_117, s107_118, s107_121, s107_122, s107_123, s107_126, s107_127, s107_130, s107_131, s107_134, s107_135, s107_136, s107_137, s107_138, s107_141, s107_144, s107_147, s107_148, s107_149, s107_150, s107_153, s107_154, s107_155, s107_158, s107_161, s107_164, s107_165, s107_168, s107_169, s107_170, s107_171, s107_174, s107_175, s107_176, s107_179, s107_180, s107_183, s107_186, s107_189, s107_190, s107_191, s107_192, s107_195, s107_196, s107_199, s107_200, s107_203, s107_206, s107_207, s107_210, s107_211, s107_214, s107_215, s107_217, s107_220, s107_221, s107_222, s107_223, s107_224, s107_227, s107_228, s107_229, s107_232, s107_233, zl_n, zl_i, zl_r, zl_0, z10, z01, ez_bd_s, ez_bd_n, eq_self, true_or, or_true, if_true, if_false, zb_eq, zb_eq1, zb_em, zb_em2, ite_not, List.append_nil, List.cons_append, List.nil_append, reduceCtorEq, not_true_eq_false, not_false_eq_true, q_blanks hp, h3, h4]
    split <;> rfl
theorem lq_s2 {k : Nat} (hk : k < 336) (hp : md_p y) : ez_rn g 107 108 [some (.ref m), some (.int (nI k))] [] (md_h h0 m y) = some (some (.int (pm_s2 y k).2), md_h h0 m (pm_s2 y k).1) := by
  have c0 : (nI k).toNatClampNeg = k := nI_clamp (by omega)
  have c9 : md_in (nI k) 336 = true := md_inN hk (by omega)
  have hf := lq_fin (g := g) (h0 := h0) (m := m) (k := k) (y := md_sA (pm_tn y).1 45 k ((pm_tn y).1.1 50)) (md_p_A (md_p_tn hp))
  unfold pm_s2
  split
  · next h => simp only [s107_0, s107_1, s107_4, s107_5, s107_6, s107_7, s107_8, s107_11, s107_14, s107_17, s107_18, s107_21, s107_22, s107_23, s107_24, s107_25, s107_26, s107_29, s107_32, s107_33, s107_36, s107_39, s107_42, s107_43, s107_46, s107_49, s107_50, s107_51, s107_52, s107_55, s107_56, s107_57, s107_60, s107_61, s107_64, s107_65, s107_68, s107_71, s107_74, s107_75, s107_78, s107_79, s107_80, s107_81, s107_82, s107_83, s107_86, s107_89, s107_90, s107_91, s107_92, s107_95, s107_98, s107_101, s107_102, s107_105, s107_106, s107_107, s107_108, s107_109, s107_112, s107_115, s107_116, s107_117, s107_118, s107_121, s107_122, s107_123, s107_126, s107_127, s107_130, s107_131, s107_134, s107_135, s107_136, s107_137, s107_138, s107_141, s107_144, s107_147, s107_148, s107_149, s107_150, s107_153, s107_154, s107_155, s107_158, s107_161, s107_164, s107_165, s107_168, s107_169, s107_170, s107_171, s107_174, s107_175, s107_176, s107_179, s107_180, s107_183, s107_186, s107_189, s107_190, s107_192, s107_195, s107_196, s107_199, s107_200, s107_203, s107_206, s107_207, s107_210, s107_211, s107_214, s107_215, s107_217, s107_220, s107_221, s107_222, s107_223, s107_224, s107_227, s107_228, s107_229, s107_232, s107_233, zl_n, zl_i, zl_r, zl_0, z10, z01, ez_bd_s, ez_bd_n, eq_self, true_or, or_true, if_true, if_false, zb_eq, zb_eq1, zb_em, zb_em2, ite_not, List.append_nil, List.cons_append, List.nil_append, reduceCtorEq, not_true_eq_false, not_false_eq_true, q_takesNumber hp, h]
  · next h => simp only [s107_0, s107_1, s107_4, s107_5, s107_6, s107_7, s107_8, s107_11, s107_14, s107_17, s107_18, s107_21, s107_22, s107_23, s107_24, s107_25, s107_26, s107_29, s107_32, s107_33, s107_36, s107_39, s107_42, s107_43, s107_46, s107_49, s107_50, s107_51, s107_52, s107_55, s107_56, s107_57, s107_60, s107_61, s107_64, s107_65, s107_68, s107_71, s107_74, s107_75, s107_78, s107_79, s107_80, s107_81, s107_82, s107_83, s107_86, s107_89, s107_90, s107_91, s107_92, s107_95, s107_98, s107_101, s107_102, s107_105, s107_106, s107_107, s107_108, s107_109, s107_112, s107_115, s107_116, s107_117, s107_118, s107_121, s107_122, s107_123, s107_126, s107_127, s107_130, s107_131, s107_134, s107_135, s107_136, s107_137, s107_138, s107_141, s107_144, s107_147, s107_148, s107_149, s107_150, s107_153, s107_154, s107_155, s107_158, s107_161, s107_164, s107_165, s107_168, s107_169, s107_170, s107_171, s107_174, s107_175, s107_176, s107_179, s107_180, s107_183, s107_186, s107_189, s107_190, s107_192, s107_195, s107_196, s107_199, s107_200, s107_203, s107_206, s107_207, s107_210, s107_211, s107_214, s107_215, s107_217, s107_220, s107_221, s107_222, s107_223, s107_224, s107_227, s107_228, s107_229, s107_232, s107_233, zl_n, zl_i, zl_r, zl_0, z10, z01, ez_bd_s, ez_bd_n, eq_self, true_or, or_true, if_true, if_false, zb_eq, zb_eq1, zb_em, zb_em2, ite_not, List.append_nil, List.cons_append, List.nil_append, reduceCtorEq, not_true_eq_false, not_false_eq_true, q_takesNumber hp, h, c0, c9, hf]
theorem lq_s2' {k : Nat} (hk : k < 336) (hp : md_p y) : ez_rn g 107 42 [some (.ref m), some (.int (nI k))] [] (md_h h0 m y) = some (some (.int (pm_s2 y k).2), md_h h0 m (pm_s2 y k).1) := by
  have c0 : (nI k).toNatClampNeg = k := nI_clamp (by omega)
  have c9 : md_in (nI k) 336 = true := md_inN hk (by omega)
  have hf := lq_fin (g := g) (h0 := h0) (m := m) (k := k) (y := md_sA (pm_tn y).1 45 k ((pm_tn y).1.1 50)) (md_p_A (md_p_tn hp))
  unfold pm_s2
  split
  · next h => simp only [s107_0, s107_1, s107_4, s107_5, s107_6, s107_7, s107_8, s107_11, s107_14, s107_17, s107_18, s107_21, s107_22, s107_23, s107_24, s107_25, s107_26, s107_29, s107_32, s107_33, s107_36, s107_39, s107_42, s107_43, s107_46, s107_49, s107_50, s107_51, s107_52, s107_55, s107_56, s107_57, s107_60, s107_61, s107_64, s107_65, s107_68, s107_71, s107_74, s107_75, s107_78, s107_79, s107_80, s107_81, s107_82, s107_83, s107_86, s107_89, s107_90, s107_91, s107_92, s107_95, s107_98, s107_101, s107_102, s107_105, s107_106, s107_107, s107_108, s107_109, s107_112, s107_115, s107_116, s107_117, s107_118, s107_121, s107_122, s107_123, s107_126, s107_127, s107_130, s107_131, s107_134, s107_135, s107_136, s107_137, s107_138, s107_141, s107_144, s107_147, s107_148, s107_149, s107_150, s107_153, s107_154, s107_155, s107_158, s107_161, s107_164, s107_165, s107_168, s107_169, s107_170, s107_171, s107_174, s107_175, s107_176, s107_179, s107_180, s107_183, s107_186, s107_189, s107_190, s107_192, s107_195, s107_196, s107_199, s107_200, s107_203, s107_206, s107_207, s107_210, s107_211, s107_214, s107_215, s107_217, s107_220, s107_221, s107_222, s107_223, s107_224, s107_227, s107_228, s107_229, s107_232, s107_233, zl_n, zl_i, zl_r, zl_0, z10, z01, ez_bd_s, ez_bd_n, eq_self, true_or, or_true, if_true, if_false, zb_eq, zb_eq1, zb_em, zb_em2, ite_not, List.append_nil, List.cons_append, List.nil_append, reduceCtorEq, not_true_eq_false, not_false_eq_true, q_takesNumber hp, h]
  · next h => simp only [s107_0, s107_1, s107_4, s107_5, s107_6, s107_7, s107_8, s107_11, s107_14, s107_17, s107_18, s107_21, s107_22, s107_23, s107_24, s107_25, s107_26, s107_29, s107_32, s107_33, s107_36, s107_39, s107_42, s107_43, s107_46, s107_49, s107_50, s107_51, s107_52, s107_55, s107_56, s107_57, s107_60, s107_61, s107_64, s107_65, s107_68, s107_71, s107_74, s107_75, s107_78, s107_79, s107_80, s107_81, s107_82, s107_83, s107_86, s107_89, s107_90, s107_91, s107_92, s107_95, s107_98, s107_101, s107_102, s107_105, s107_106, s107_107, s107_108, s107_109, s107_112, s107_115, s107_116, s107_117, s107_118, s107_121, s107_122, s107_123, s107_126, s107_127, s107_130, s107_131, s107_134, s107_135, s107_136, s107_137, s107_138, s107_141, s107_144, s107_147, s107_148, s107_149, s107_150, s107_153, s107_154, s107_155, s107_158, s107_161, s107_164, s107_165, s107_168, s107_169, s107_170, s107_171, s107_174, s107_175, s107_176, s107_179, s107_180, s107_183, s107_186, s107_189, s107_190, s107_192, s107_195, s107_196, s107_199, s107_200, s107_203, s107_206, s107_207, s107_210, s107_211, s107_214, s107_215, s107_217, s107_220, s107_221, s107_222, s107_223, s107_224, s107_227, s107_228, s107_229, s107_232, s107_233, zl_n, zl_i, zl_r, zl_0, z10, z01, ez_bd_s, ez_bd_n, eq_self, true_or, or_true, if_true, if_false, zb_eq, zb_eq1, zb_em, zb_em2, ite_not, List.append_nil, List.cons_append, List.nil_append, reduceCtorEq, not_true_eq_false, not_false_eq_true, q_takesNumber hp, h, c0, c9, hf]
theorem lq_s3 {k : Nat} (hk : k < 336) (hp : md_p y) : ez_rn g 107 137 [some (.ref m), some (.int (nI k))] [] (md_h h0 m y) = some (some (.int (pm_s3 y k).2), md_h h0 m (pm_s3 y k).1) := by
  have c0 : (nI k).toNatClampNeg = k := nI_clamp (by omega)
  have c9 : md_in (nI k) 336 = true := md_inN hk (by omega)
  have p1 := md_p_tk (w := 1819243380) hp
  have p2 := md_p_tk (w := 1701733491) p1
  have p3 : md_p (md_sA (pm_tk (pm_tk y 1819243380).1 1701733491).1 45 k 0) := md_p_A p2
  have p4 : md_p (md_sA (pm_tk (pm_tk y 1819243380).1 1701733491).1 45 k 1) := md_p_A p2
  have p5 := md_p_tk (w := 126943688025203) p3
  unfold pm_s3
  by_cases h1 : (pm_tk y 1819243380).2 = 0
  · rw [if_pos h1]
    simp only [s107_0, s107_1, s107_4, s107_5, s107_6, s107_7, s107_8, s107_11, s107_14, s107_17, s107_18, s107_21, s107_22, s107_23, s107_24, s107_25, s107_26, s107_29, s107_32, s107_33, s107_36, s107_39, s107_42, s107_43, s107_46, s107_49, s107_50, s107_51, s107_52, s107_55, s107_56, s107_57, s107_60, s107_61, s107_64, s107_65, s107_68, s107_71, s107_74, s107_75, s107_78, s107_79, s107_80, s107_81, s107_82, s107_83, s107_86, s107_89, s107_90, s107_91, s107_92, s107_95, s107_98, s107_101, s107_102, s107_105, s107_106, s107_107, s107_108, s107_109, s107_112, s107_115, s107_116, s107_117, s107_118, s107_121, s107_122, s107_123, s107_126, s107_127, s107_130, s107_131, s107_134, s107_135, s107_136, s107_137, s107_138, s107_141, s107_144, s107_147, s107_148, s107_149, s107_150, s107_153, s107_154, s107_155, s107_158, s107_161, s107_164, s107_165, s107_168, s107_169, s107_170, s107_171, s107_174, s107_175, s107_176, s107_179, s107_180, s107_183, s107_186, s107_189, s107_190, s107_192, s107_195, s107_196, s107_199, s107_200, s107_203, s107_206, s107_207, s107_210, s107_211, s107_214, s107_215, s107_217, s107_220, s107_221, s107_222, s107_223, s107_224, s107_227, s107_228, s107_229, s107_232, s107_233, zl_n, zl_i, zl_r, zl_0, z10, z01, ez_bd_s, ez_bd_n, eq_self, true_or, or_true, if_true, if_false, zb_eq, zb_eq1, zb_em, zb_em2, ite_not, List.append_nil, List.cons_append, List.nil_append, reduceCtorEq, not_true_eq_false, not_false_eq_true, q_takes hp, h1]
  · rw [if_neg h1]
    by_cases h2 : (pm_tk (pm_tk y 1819243380).1 1701733491).2 = 0
    · rw [if_pos h2]
      by_cases h3 : (pm_tk (md_sA (pm_tk (pm_tk y 1819243380).1 1701733491).1 45 k 0) 126943688025203).2 = 0
      · rw [if_pos h3]
        simp only [s107_0, s107_1, s107_4, s107_5, s107_6, s107_7, s107_8, s107_11, s107_14, s107_17, s107_18, s107_21, s107_22, s107_23, s107_24, s107_25, s107_26, s107_29, s107_32, s107_33, s107_36, s107_39, s107_42, s107_43, s107_46, s107_49, s107_50, s107_51, s107_52, s107_55, s107_56, s107_57, s107_60, s107_61, s107_64, s107_65, s107_68, s107_71, s107_74, s107_75, s107_78, s107_79, s107_80, s107_81, s107_82, s107_83, s107_86, s107_89, s107_90, s107_91, s107_92, s107_95, s107_98, s107_101, s107_102, s107_105, s107_106, s107_107, s107_108, s107_109, s107_112, s107_115, s107_116, s107_117, s107_118, s107_121, s107_122, s107_123, s107_126, s107_127, s107_130, s107_131, s107_134, s107_135, s107_136, s107_137, s107_138, s107_141, s107_144, s107_147, s107_148, s107_149, s107_150, s107_153, s107_154, s107_155, s107_158, s107_161, s107_164, s107_165, s107_168, s107_169, s107_170, s107_171, s107_174, s107_175, s107_176, s107_179, s107_180, s107_183, s107_186, s107_189, s107_190, s107_192, s107_195, s107_196, s107_199, s107_200, s107_203, s107_206, s107_207, s107_210, s107_211, s107_214, s107_215, s107_217, s107_220, s107_221, s107_222, s107_223, s107_224, s107_227, s107_228, s107_229, s107_232, s107_233, zl_n, zl_i, zl_r, zl_0, z10, z01, ez_bd_s, ez_bd_n, eq_self, true_or, or_true, if_true, if_false, zb_eq, zb_eq1, zb_em, zb_em2, ite_not, List.append_nil, List.cons_append, List.nil_append, reduceCtorEq, not_true_eq_false, not_false_eq_true, q_takes hp, q_takes p1, h1, h2, c0, c9, md_A2, pk_us, q_takes p3, h3]
      · rw [if_neg h3]
        simp only [s107_0, s107_1, s107_4, s107_5, s107_6, s107_7, s107_8, s107_11, s107_14, s107_17, s107_18, s107_21, s107_22, s107_23, s107_24, s107_25, s107_26, s107_29, s107_32, s107_33, s107_36, s107_39, s107_42, s107_43, s107_46, s107_49, s107_50, s107_51, s107_52, s107_55, s107_56, s107_57, s107_60, s107_61, s107_64, s107_65, s107_68, s107_71, s107_74, s107_75, s107_78, s107_79, s107_80, s107_81, s107_82, s107_83, s107_86, s107_89, s107_90, s107_91, s107_92, s107_95, s107_98, s107_101, s107_102, s107_105, s107_106, s107_107, s107_108, s107_109, s107_112, s107_115, s107_116, s107_117, s107_118, s107_121, s107_122, s107_123, s107_126, s107_127, s107_130, s107_131, s107_134, s107_135, s107_136, s107_137, s107_138, s107_141, s107_144, s107_147, s107_148, s107_149, s107_150, s107_153, s107_154, s107_155, s107_158, s107_161, s107_164, s107_165, s107_168, s107_169, s107_170, s107_171, s107_174, s107_175, s107_176, s107_179, s107_180, s107_183, s107_186, s107_189, s107_190, s107_192, s107_195, s107_196, s107_199, s107_200, s107_203, s107_206, s107_207, s107_210, s107_211, s107_214, s107_215, s107_217, s107_220, s107_221, s107_222, s107_223, s107_224, s107_227, s107_228, s107_229, s107_232, s107_233, zl_n, zl_i, zl_r, zl_0, z10, z01, ez_bd_s, ez_bd_n, eq_self, true_or, or_true, if_true, if_false, zb_eq, zb_eq1, zb_em, zb_em2, ite_not, List.append_nil, List.cons_append, List.nil_append, reduceCtorEq, not_true_eq_false, not_false_eq_true, q_takes hp, q_takes p1, h1, h2, c0, c9, md_A2, pk_us, q_takes p3, h3, lq_fin p5]
    · rw [if_neg h2]
      simp only [s107_0, s107_1, s107_4, s107_5, s107_6, s107_7, s107_8, s107_11, s107_14, s107_17, s107_18, s107_21, s107_22, s107_23, s107_24, s107_25, s107_26, s107_29, s107_32, s107_33, s107_36, s107_39, s107_42, s107_43, s107_46, s107_49, s107_50, s107_51, s107_52, s107_55, s107_56, s107_57, s107_60, s107_61, s107_64, s107_65, s107_68, s107_71, s107_74, s107_75, s107_78, s107_79, s107_80, s107_81, s107_82, s107_83, s107_86, s107_89, s107_90, s107_91, s107_92, s107_95, s107_98, s107_101, s107_102, s107_105, s107_106, s107_107, s107_108, s107_109, s107_112, s107_115, s107_116, s107_117, s107_118, s107_121, s107_122, s107_123, s107_126, s107_127, s107_130, s107_131, s107_134, s107_135, s107_136, s107_137, s107_138, s107_141, s107_144, s107_147, s107_148, s107_149, s107_150, s107_153, s107_154, s107_155, s107_158, s107_161, s107_164, s107_165, s107_168, s107_169, s107_170, s107_171, s107_174, s107_175, s107_176, s107_179, s107_180, s107_183, s107_186, s107_189, s107_190, s107_192, s107_195, s107_196, s107_199, s107_200, s107_203, s107_206, s107_207, s107_210, s107_211, s107_214, s107_215, s107_217, s107_220, s107_221, s107_222, s107_223, s107_224, s107_227, s107_228, s107_229, s107_232, s107_233, zl_n, zl_i, zl_r, zl_0, z10, z01, ez_bd_s, ez_bd_n, eq_self, true_or, or_true, if_true, if_false, zb_eq, zb_eq1, zb_em, zb_em2, ite_not, List.append_nil, List.cons_append, List.nil_append, reduceCtorEq, not_true_eq_false, not_false_eq_true, q_takes hp, q_takes p1, h1, h2, c0, c9, md_A2, pk_us, lq_fin p4]
theorem lq_s1 {k : Nat} (hk : k < 336) (hp : md_p y) : ez_rn g 107 81 [some (.ref m), some (.int (nI k))] [] (md_h h0 m y) = some (some (.int (pm_s1 y k).2), md_h h0 m (pm_s1 y k).1) := by
  have hf := lq_fin (g := g) (h0 := h0) (m := m) (k := k) (y := (pm_tc y k).1) (md_p_tc hp)
  unfold pm_s1
  split
  · next h => simp only [s107_0, s107_1, s107_4, s107_5, s107_6, s107_7, s107_8, s107_11, s107_14, s107_17, s107_18, s107_21, s107_22, s107_23, s107_24, s107_25, s107_26, s107_29, s107_32, s107_33, s107_36, s107_39, s107_42, s107_43, s107_46, s107_49, s107_50, s107_51, s107_52, s107_55, s107_56, s107_57, s107_60, s107_61, s107_64, s107_65, s107_68, s107_71, s107_74, s107_75, s107_78, s107_79, s107_80, s107_81, s107_82, s107_83, s107_86, s107_89, s107_90, s107_91, s107_92, s107_95, s107_98, s107_101, s107_102, s107_105, s107_106, s107_107, s107_108, s107_109, s107_112, s107_115, s107_116, s107_117, s107_118, s107_121, s107_122, s107_123, s107_126, s107_127, s107_130, s107_131, s107_134, s107_135, s107_136, s107_137, s107_138, s107_141, s107_144, s107_147, s107_148, s107_149, s107_150, s107_153, s107_154, s107_155, s107_158, s107_161, s107_164, s107_165, s107_168, s107_169, s107_170, s107_171, s107_174, s107_175, s107_176, s107_179, s107_180, s107_183, s107_186, s107_189, s107_190, s107_192, s107_195, s107_196, s107_199, s107_200, s107_203, s107_206, s107_207, s107_210, s107_211, s107_214, s107_215, s107_217, s107_220, s107_221, s107_222, s107_223, s107_224, s107_227, s107_228, s107_229, s107_232, s107_233, zl_n, zl_i, zl_r, zl_0, z10, z01, ez_bd_s, ez_bd_n, eq_self, true_or, or_true, if_true, if_false, zb_eq, zb_eq1, zb_em, zb_em2, ite_not, List.append_nil, List.cons_append, List.nil_append, reduceCtorEq, not_true_eq_false, not_false_eq_true, q_takesConds hk hp, h]
  · next h => simp only [s107_0, s107_1, s107_4, s107_5, s107_6, s107_7, s107_8, s107_11, s107_14, s107_17, s107_18, s107_21, s107_22, s107_23, s107_24, s107_25, s107_26, s107_29, s107_32, s107_33, s107_36, s107_39, s107_42, s107_43, s107_46, s107_49, s107_50, s107_51, s107_52, s107_55, s107_56, s107_57, s107_60, s107_61, s107_64, s107_65, s107_68, s107_71, s107_74, s107_75, s107_78, s107_79, s107_80, s107_81, s107_82, s107_83, s107_86, s107_89, s107_90, s107_91, s107_92, s107_95, s107_98, s107_101, s107_102, s107_105, s107_106, s107_107, s107_108, s107_109, s107_112, s107_115, s107_116, s107_117, s107_118, s107_121, s107_122, s107_123, s107_126, s107_127, s107_130, s107_131, s107_134, s107_135, s107_136, s107_137, s107_138, s107_141, s107_144, s107_147, s107_148, s107_149, s107_150, s107_153, s107_154, s107_155, s107_158, s107_161, s107_164, s107_165, s107_168, s107_169, s107_170, s107_171, s107_174, s107_175, s107_176, s107_179, s107_180, s107_183, s107_186, s107_189, s107_190, s107_192, s107_195, s107_196, s107_199, s107_200, s107_203, s107_206, s107_207, s107_210, s107_211, s107_214, s107_215, s107_217, s107_220, s107_221, s107_222, s107_223, s107_224, s107_227, s107_228, s107_229, s107_232, s107_233, zl_n, zl_i, zl_r, zl_0, z10, z01, ez_bd_s, ez_bd_n, eq_self, true_or, or_true, if_true, if_false, zb_eq, zb_eq1, zb_em, zb_em2, ite_not, List.append_nil, List.cons_append, List.nil_append, reduceCtorEq, not_true_eq_false, not_false_eq_true, q_takesConds hk hp, h, hf]
theorem lq_s0 {k : Nat} (hk : k < 336) (hp : md_p y) : ez_rn g 107 24 [some (.ref m), some (.int (nI k))] [] (md_h h0 m y) = some (some (.int (pm_s0 y k).2), md_h h0 m (pm_s0 y k).1) := by
  have p1 := md_p_tc (k := k) hp
  have p2 := md_p_tk (w := 26995) p1
  unfold pm_s0
  by_cases h1 : (pm_tc y k).2 = 0
  · rw [if_pos h1]
    simp only [s107_0, s107_1, s107_4, s107_5, s107_6, s107_7, s107_8, s107_11, s107_14, s107_17, s107_18, s107_21, s107_22, s107_23, s107_24, s107_25, s107_26, s107_29, s107_32, s107_33, s107_36, s107_39, s107_43, s107_46, s107_49, s107_50, s107_51, s107_52, s107_55, s107_56, s107_57, s107_60, s107_61, s107_64, s107_65, s107_68, s107_71, s107_74, s107_75, s107_78, s107_79, s107_80, s107_81, s107_82, s107_83, s107_86, s107_89, s107_90, s107_91, s107_92, s107_95, s107_98, s107_101, s107_102, s107_105, s107_106, s107_107, s107_108, s107_109, s107_112, s107_115, s107_116, s107_117, s107_118, s107_121, s107_122, s107_123, s107_126, s107_127, s107_130, s107_131, s107_134, s107_135, s107_136, s107_137, s107_138, s107_141, s107_144, s107_147, s107_148, s107_149, s107_150, s107_153, s107_154, s107_155, s107_158, s107_161, s107_164, s107_165, s107_168, s107_169, s107_170, s107_171, s107_174, s107_175, s107_176, s107_179, s107_180, s107_183, s107_186, s107_189, s107_190, s107_192, s107_195, s107_196, s107_199, s107_200, s107_203, s107_206, s107_207, s107_210, s107_211, s107_214, s107_215, s107_217, s107_220, s107_221, s107_222, s107_223, s107_224, s107_227, s107_228, s107_229, s107_232, s107_233, zl_n, zl_i, zl_r, zl_0, z10, z01, ez_bd_s, ez_bd_n, eq_self, true_or, or_true, if_true, if_false, zb_eq, zb_eq1, zb_em, zb_em2, ite_not, List.append_nil, List.cons_append, List.nil_append, reduceCtorEq, not_true_eq_false, not_false_eq_true, q_takesConds hk hp, h1]
  · rw [if_neg h1]
    by_cases h2 : (pm_tk (pm_tc y k).1 26995).2 = 0
    · rw [if_pos h2]
      simp only [s107_0, s107_1, s107_4, s107_5, s107_6, s107_7, s107_8, s107_11, s107_14, s107_17, s107_18, s107_21, s107_22, s107_23, s107_24, s107_25, s107_26, s107_29, s107_32, s107_33, s107_36, s107_39, s107_43, s107_46, s107_49, s107_50, s107_51, s107_52, s107_55, s107_56, s107_57, s107_60, s107_61, s107_64, s107_65, s107_68, s107_71, s107_74, s107_75, s107_78, s107_79, s107_80, s107_81, s107_82, s107_83, s107_86, s107_89, s107_90, s107_91, s107_92, s107_95, s107_98, s107_101, s107_102, s107_105, s107_106, s107_107, s107_108, s107_109, s107_112, s107_115, s107_116, s107_117, s107_118, s107_121, s107_122, s107_123, s107_126, s107_127, s107_130, s107_131, s107_134, s107_135, s107_136, s107_137, s107_138, s107_141, s107_144, s107_147, s107_148, s107_149, s107_150, s107_153, s107_154, s107_155, s107_158, s107_161, s107_164, s107_165, s107_168, s107_169, s107_170, s107_171, s107_174, s107_175, s107_176, s107_179, s107_180, s107_183, s107_186, s107_189, s107_190, s107_192, s107_195, s107_196, s107_199, s107_200, s107_203, s107_206, s107_207, s107_210, s107_211, s107_214, s107_215, s107_217, s107_220, s107_221, s107_222, s107_223, s107_224, s107_227, s107_228, s107_229, s107_232, s107_233, zl_n, zl_i, zl_r, zl_0, z10, z01, ez_bd_s, ez_bd_n, eq_self, true_or, or_true, if_true, if_false, zb_eq, zb_eq1, zb_em, zb_em2, ite_not, List.append_nil, List.cons_append, List.nil_append, reduceCtorEq, not_true_eq_false, not_false_eq_true, q_takesConds hk hp, h1, q_takes p1, h2]
    · rw [if_neg h2]
      simp only [s107_0, s107_1, s107_4, s107_5, s107_6, s107_7, s107_8, s107_11, s107_14, s107_17, s107_18, s107_21, s107_22, s107_23, s107_24, s107_25, s107_26, s107_29, s107_32, s107_33, s107_36, s107_39, s107_43, s107_46, s107_49, s107_50, s107_51, s107_52, s107_55, s107_56, s107_57, s107_60, s107_61, s107_64, s107_65, s107_68, s107_71, s107_74, s107_75, s107_78, s107_79, s107_80, s107_81, s107_82, s107_83, s107_86, s107_89, s107_90, s107_91, s107_92, s107_95, s107_98, s107_101, s107_102, s107_105, s107_106, s107_107, s107_108, s107_109, s107_112, s107_115, s107_116, s107_117, s107_118, s107_121, s107_122, s107_123, s107_126, s107_127, s107_130, s107_131, s107_134, s107_135, s107_136, s107_137, s107_138, s107_141, s107_144, s107_147, s107_148, s107_149, s107_150, s107_153, s107_154, s107_155, s107_158, s107_161, s107_164, s107_165, s107_168, s107_169, s107_170, s107_171, s107_174, s107_175, s107_176, s107_179, s107_180, s107_183, s107_186, s107_189, s107_190, s107_192, s107_195, s107_196, s107_199, s107_200, s107_203, s107_206, s107_207, s107_210, s107_211, s107_214, s107_215, s107_217, s107_220, s107_221, s107_222, s107_223, s107_224, s107_227, s107_228, s107_229, s107_232, s107_233, zl_n, zl_i, zl_r, zl_0, z10, z01, ez_bd_s, ez_bd_n, eq_self, true_or, or_true, if_true, if_false, zb_eq, zb_eq1, zb_em, zb_em2, ite_not, List.append_nil, List.cons_append, List.nil_append, reduceCtorEq, not_true_eq_false, not_false_eq_true, q_takesConds hk hp, h1, q_takes p1, h2, lq_s2' hk p2]
theorem q_statement {k : Nat} (hk : k < 336) (hp : md_p z) : ez_ev g 107 [.ref m, .int (nI k)] (md_h h0 m z) = some (some (.int (pm_st z k).2), md_h h0 m (pm_st z k).1) := by
  have c0 : (nI k).toNatClampNeg = k := nI_clamp (by omega)
  have c9 : md_in (nI k) 336 = true := md_inN hk (by omega)
  have p0 : md_p (md_sA z 46 k 0) := md_p_A hp
  have p1 := md_p_tk (w := 1685419129) p0
  have p2 := md_p_tk (w := 112628846455140) p1
  have p3 := md_p_tk (w := 1952805485) p2
  rw [e107]
  unfold pm_st
  dsimp only
  by_cases h1 : (pm_tk (md_sA z 46 k 0) 1685419129).2 = 0
  · rw [if_pos h1]
    by_cases h2 : (pm_tk (pm_tk (md_sA z 46 k 0) 1685419129).1 112628846455140).2 = 0
    · rw [if_pos h2]
      by_cases h3 : (pm_tk (pm_tk (pm_tk (md_sA z 46 k 0) 1685419129).1 112628846455140).1 1952805485).2 = 0
      · rw [if_pos h3]
        simp only [s107_0, s107_1, s107_4, s107_5, s107_6, s107_7, s107_8, s107_11, s107_14, s107_17, s107_18, s107_21, s107_22, s107_23, s107_25, s107_26, s107_29, s107_32, s107_33, s107_36, s107_39, s107_43, s107_46, s107_49, s107_50, s107_51, s107_52, s107_55, s107_56, s107_57, s107_60, s107_61, s107_64, s107_65, s107_68, s107_71, s107_74, s107_75, s107_78, s107_79, s107_80, s107_82, s107_83, s107_86, s107_89, s107_90, s107_91, s107_92, s107_95, s107_98, s107_101, s107_102, s107_105, s107_106, s107_107, s107_109, s107_112, s107_115, s107_116, s107_117, s107_118, s107_121, s107_122, s107_123, s107_126, s107_127, s107_130, s107_131, s107_134, s107_135, s107_136, s107_138, s107_141, s107_144, s107_147, s107_148, s107_149, s107_150, s107_153, s107_154, s107_155, s107_158, s107_161, s107_164, s107_165, s107_168, s107_169, s107_170, s107_171, s107_174, s107_175, s107_176, s107_179, s107_180, s107_183, s107_186, s107_189, s107_190, s107_192, s107_195, s107_196, s107_199, s107_200, s107_203, s107_206, s107_207, s107_210, s107_211, s107_214, s107_215, s107_217, s107_220, s107_221, s107_222, s107_223, s107_224, s107_227, s107_228, s107_229, s107_232, s107_233, zl_n, zl_i, zl_r, zl_0, z10, z01, ez_bd_s, ez_bd_n, eq_self, true_or, or_true, if_true, if_false, zb_eq, zb_eq1, zb_em, zb_em2, ite_not, List.append_nil, List.cons_append, List.nil_append, reduceCtorEq, not_true_eq_false, not_false_eq_true, c0, c9, q_takes p0, q_takes p1, q_takes p2, h1, h2, h3]
        exact lq_s3 hk (md_p_A p3)
      · rw [if_neg h3]
        simp only [s107_0, s107_1, s107_4, s107_5, s107_6, s107_7, s107_8, s107_11, s107_14, s107_17, s107_18, s107_21, s107_22, s107_23, s107_25, s107_26, s107_29, s107_32, s107_33, s107_36, s107_39, s107_43, s107_46, s107_49, s107_50, s107_51, s107_52, s107_55, s107_56, s107_57, s107_60, s107_61, s107_64, s107_65, s107_68, s107_71, s107_74, s107_75, s107_78, s107_79, s107_80, s107_82, s107_83, s107_86, s107_89, s107_90, s107_91, s107_92, s107_95, s107_98, s107_101, s107_102, s107_105, s107_106, s107_107, s107_109, s107_112, s107_115, s107_116, s107_117, s107_118, s107_121, s107_122, s107_123, s107_126, s107_127, s107_130, s107_131, s107_134, s107_135, s107_136, s107_138, s107_141, s107_144, s107_147, s107_148, s107_149, s107_150, s107_153, s107_154, s107_155, s107_158, s107_161, s107_164, s107_165, s107_168, s107_169, s107_170, s107_171, s107_174, s107_175, s107_176, s107_179, s107_180, s107_183, s107_186, s107_189, s107_190, s107_192, s107_195, s107_196, s107_199, s107_200, s107_203, s107_206, s107_207, s107_210, s107_211, s107_214, s107_215, s107_217, s107_220, s107_221, s107_222, s107_223, s107_224, s107_227, s107_228, s107_229, s107_232, s107_233, zl_n, zl_i, zl_r, zl_0, z10, z01, ez_bd_s, ez_bd_n, eq_self, true_or, or_true, if_true, if_false, zb_eq, zb_eq1, zb_em, zb_em2, ite_not, List.append_nil, List.cons_append, List.nil_append, reduceCtorEq, not_true_eq_false, not_false_eq_true, c0, c9, q_takes p0, q_takes p1, q_takes p2, h1, h2, h3]
        exact lq_s2 hk (md_p_A p3)
    · rw [if_neg h2]
      simp only [s107_0, s107_1, s107_4, s107_5, s107_6, s107_7, s107_8, s107_11, s107_14, s107_17, s107_18, s107_21, s107_22, s107_23, s107_25, s107_26, s107_29, s107_32, s107_33, s107_36, s107_39, s107_43, s107_46, s107_49, s107_50, s107_51, s107_52, s107_55, s107_56, s107_57, s107_60, s107_61, s107_64, s107_65, s107_68, s107_71, s107_74, s107_75, s107_78, s107_79, s107_80, s107_82, s107_83, s107_86, s107_89, s107_90, s107_91, s107_92, s107_95, s107_98, s107_101, s107_102, s107_105, s107_106, s107_107, s107_109, s107_112, s107_115, s107_116, s107_117, s107_118, s107_121, s107_122, s107_123, s107_126, s107_127, s107_130, s107_131, s107_134, s107_135, s107_136, s107_138, s107_141, s107_144, s107_147, s107_148, s107_149, s107_150, s107_153, s107_154, s107_155, s107_158, s107_161, s107_164, s107_165, s107_168, s107_169, s107_170, s107_171, s107_174, s107_175, s107_176, s107_179, s107_180, s107_183, s107_186, s107_189, s107_190, s107_192, s107_195, s107_196, s107_199, s107_200, s107_203, s107_206, s107_207, s107_210, s107_211, s107_214, s107_215, s107_217, s107_220, s107_221, s107_222, s107_223, s107_224, s107_227, s107_228, s107_229, s107_232, s107_233, zl_n, zl_i, zl_r, zl_0, z10, z01, ez_bd_s, ez_bd_n, eq_self, true_or, or_true, if_true, if_false, zb_eq, zb_eq1, zb_em, zb_em2, ite_not, List.append_nil, List.cons_append, List.nil_append, reduceCtorEq, not_true_eq_false, not_false_eq_true, c0, c9, q_takes p0, q_takes p1, h1, h2]
      exact lq_s1 hk (md_p_A p2)
  · rw [if_neg h1]
    simp only [s107_0, s107_1, s107_4, s107_5, s107_6, s107_7, s107_8, s107_11, s107_14, s107_17, s107_18, s107_21, s107_22, s107_23, s107_25, s107_26, s107_29, s107_32, s107_33, s107_36, s107_39, s107_43, s107_46, s107_49, s107_50, s107_51, s107_52, s107_55, s107_56, s107_57, s107_60, s107_61, s107_64, s107_65, s107_68, s107_71, s107_74, s107_75, s107_78, s107_79, s107_80, s107_82, s107_83, s107_86, s107_89, s107_90, s107_91, s107_92, s107_95, s107_98, s107_101, s107_102, s107_105, s107_106, s107_107, s107_109, s107_112, s107_115, s107_116, s107_117, s107_118, s107_121, s107_122, s107_123, s107_126, s107_127, s107_130, s107_131, s107_134, s107_135, s107_136, s107_138, s107_141, s107_144, s107_147, s107_148, s107_149, s107_150, s107_153, s107_154, s107_155, s107_158, s107_161, s107_164, s107_165, s107_168, s107_169, s107_170, s107_171, s107_174, s107_175, s107_176, s107_179, s107_180, s107_183, s107_186, s107_189, s107_190, s107_192, s107_195, s107_196, s107_199, s107_200, s107_203, s107_206, s107_207, s107_210, s107_211, s107_214, s107_215, s107_217, s107_220, s107_221, s107_222, s107_223, s107_224, s107_227, s107_228, s107_229, s107_232, s107_233, zl_n, zl_i, zl_r, zl_0, z10, z01, ez_bd_s, ez_bd_n, eq_self, true_or, or_true, if_true, if_false, zb_eq, zb_eq1, zb_em, zb_em2, ite_not, List.append_nil, List.cons_append, List.nil_append, reduceCtorEq, not_true_eq_false, not_false_eq_true, c0, c9, q_takes p0, h1]
    exact lq_s0 hk (md_p_A p1)
theorem md_p_fin (h : md_p y) : md_p (pm_fin y).1 := by
  unfold pm_fin
  have hb := md_p_bl h
  split
  all_goals try dsimp only
  · exact hb
  · next h3 =>
    split
    · obtain ⟨e1, h1⟩ := md_inE hb.1
      obtain ⟨e2, h2⟩ := md_inE hb.2.1
      have h5 := hb.2.2
      have h6 : ((pm_bl y).1 38).toNatClampNeg ≠ ((pm_bl y).1 37).toNatClampNeg := fun e => h3 (by rw [e1, e2, e])
      rw [e2, nI_1]
      exact md_p_at (by omega) hb
    · exact hb
theorem md_p_s2 {k : Nat} (h : md_p y) : md_p (pm_s2 y k).1 := by
  unfold pm_s2
  split
  all_goals try dsimp only
  · exact md_p_tn h
  · exact md_p_fin (md_p_A (md_p_tn h))
theorem md_p_s1 {k : Nat} (h : md_p y) : md_p (pm_s1 y k).1 := by
  unfold pm_s1
  split
  all_goals try dsimp only
  · exact md_p_tc h
  · exact md_p_fin (md_p_tc h)
theorem md_p_s0 {k : Nat} (h : md_p y) : md_p (pm_s0 y k).1 := by
  unfold pm_s0
  repeat' split
  all_goals try dsimp only
  · exact md_p_tc h
  · exact md_p_tk (md_p_tc h)
  · exact md_p_s2 (md_p_tk (md_p_tc h))
theorem md_p_s3 {k : Nat} (h : md_p y) : md_p (pm_s3 y k).1 := by
  unfold pm_s3
  repeat' split
  all_goals try dsimp only
  · exact md_p_tk h
  · exact md_p_tk (md_p_A (md_p_tk (md_p_tk h)))
  · exact md_p_fin (md_p_tk (md_p_A (md_p_tk (md_p_tk h))))
  · exact md_p_fin (md_p_A (md_p_tk (md_p_tk h)))
theorem md_p_st {k : Nat} (h : md_p z) : md_p (pm_st z k).1 := by
  unfold pm_st
  dsimp only
  repeat' split
  all_goals try dsimp only
  · exact md_p_s3 (md_p_A (md_p_tk (md_p_tk (md_p_tk (md_p_A h)))))
  · exact md_p_s2 (md_p_A (md_p_tk (md_p_tk (md_p_tk (md_p_A h)))))
  · exact md_p_s1 (md_p_A (md_p_tk (md_p_tk (md_p_A h))))
  · exact md_p_s0 (md_p_A (md_p_tk (md_p_A h)))
theorem fr_fin : md_fr y (pm_fin y).1 := by
  unfold pm_fin
  repeat' split
  all_goals try dsimp only
  · exact fr_bl
  · exact fr_tr fr_bl (fr_I (by omega))
  · exact fr_bl
theorem fr_s2 {k : Nat} : md_fr y (pm_s2 y k).1 := by
  unfold pm_s2
  split
  all_goals try dsimp only
  · exact fr_tn
  · exact fr_tr fr_tn (fr_tr (fr_A (by omega)) fr_fin)
theorem fr_s1 {k : Nat} : md_fr y (pm_s1 y k).1 := by
  unfold pm_s1
  split
  all_goals try dsimp only
  · exact fr_tc
  · exact fr_tr fr_tc fr_fin
theorem fr_s0 {k : Nat} : md_fr y (pm_s0 y k).1 := by
  unfold pm_s0
  repeat' split
  all_goals try dsimp only
  · exact fr_tc
  · exact fr_tr fr_tc fr_tk
  · exact fr_tr fr_tc (fr_tr fr_tk fr_s2)
theorem fr_s3 {k : Nat} : md_fr y (pm_s3 y k).1 := by
  unfold pm_s3
  repeat' split
  all_goals try dsimp only
  · exact fr_tk
  · exact fr_tr fr_tk (fr_tr fr_tk (fr_tr (fr_A (by omega)) fr_tk))
  · exact fr_tr fr_tk (fr_tr fr_tk (fr_tr (fr_A (by omega)) (fr_tr fr_tk fr_fin)))
  · exact fr_tr fr_tk (fr_tr fr_tk (fr_tr (fr_A (by omega)) fr_fin))
theorem fr_st {k : Nat} : md_fr z (pm_st z k).1 := by
  have a0 : md_fr z (md_sA z 46 k 0) := fr_A (by omega)
  unfold pm_st
  dsimp only
  repeat' split
  all_goals try dsimp only
  · exact fr_tr a0 (fr_tr fr_tk (fr_tr fr_tk (fr_tr fr_tk (fr_tr (fr_A (by omega)) fr_s3))))
  · exact fr_tr a0 (fr_tr fr_tk (fr_tr fr_tk (fr_tr fr_tk (fr_tr (fr_A (by omega)) fr_s2))))
  · exact fr_tr a0 (fr_tr fr_tk (fr_tr fr_tk (fr_tr (fr_A (by omega)) fr_s1)))
  · exact fr_tr a0 (fr_tr fr_tk (fr_tr (fr_A (by omega)) fr_s0))
end M9
