section CT
variable {g : ez_G} {h : ez_H} {cl s n j : Nat} {F F' : List Value} {L : List ez_E} {e : ez_E}
/-- an object under construction and what it has made -/
def ctb (h : ez_H) (cl : Nat) (F : List Value) (L : List ez_E) (s : Nat) : ez_H := (fun q => if q = h.2.1 then some (.inr (cl, F)) else if h.2.1 < q ∧ q ≤ h.2.1 + L.length then L[q - h.2.1 - 1]? else h.1 q, h.2.1 + 1 + L.length, s)
theorem ct_0 : ez_nw h (.inr (cl, F)) n = ctb h cl F [] (h.2.2 + n) := by
  refine Prod.ext (funext fun q => ?_) rfl
  show (if q = h.2.1 then _ else h.1 q) = if q = h.2.1 then _ else if h.2.1 < q ∧ q ≤ h.2.1 + 0 then _ else h.1 q
  by_cases h1 : q = h.2.1
  · rw [if_pos h1, if_pos h1]
  · rw [if_neg h1, if_neg h1, if_neg (by omega)]
theorem ct_nw : ez_nw (ctb h cl F L s) e n = ctb h cl F (L ++ [e]) (s + n) := by
  refine Prod.ext (funext fun q => ?_) ?_
  · show (if q = h.2.1 + 1 + L.length then some e else if q = h.2.1 then _ else if h.2.1 < q ∧ q ≤ h.2.1 + L.length then L[q - h.2.1 - 1]? else h.1 q) = if q = h.2.1 then _ else if h.2.1 < q ∧ q ≤ h.2.1 + (L ++ [e]).length then (L ++ [e])[q - h.2.1 - 1]? else h.1 q
    rw [List.length_append, List.length_singleton]
    by_cases h1 : q = h.2.1
    · rw [if_neg (by omega), if_pos h1, if_pos h1]
    · by_cases h2 : q = h.2.1 + 1 + L.length
      · rw [if_pos h2, if_neg h1, if_pos (by omega), List.getElem?_append_right (by omega), show q - h.2.1 - 1 - L.length = 0 by omega]
        rfl
      · rw [if_neg h2, if_neg h1, if_neg h1]
        by_cases h3 : h.2.1 < q ∧ q ≤ h.2.1 + L.length
        · rw [if_pos h3, if_pos (by omega), List.getElem?_append_left (by omega)]
        · rw [if_neg h3, if_neg (by omega)]
  · show (h.2.1 + 1 + L.length + 1, s + n) = (h.2.1 + 1 + (L ++ [e]).length, s + n)
    rw [List.length_append, List.length_singleton]
    rfl
theorem ct_21 : (ctb h cl F L s).2.1 = h.2.1 + 1 + L.length := id rfl
theorem ct_at : (ctb h cl F L s).1 h.2.1 = some (.inr (cl, F)) := if_pos rfl
theorem ct_hs : ez_hs (ctb h cl F L s) h.2.1 (.inr (cl, F')) = ctb h cl F' L s := by
  refine Prod.ext (funext fun q => ?_) rfl
  show (if q = h.2.1 then _ else if q = h.2.1 then _ else _) = if q = h.2.1 then _ else _
  by_cases h1 : q = h.2.1
  · rw [if_pos h1, if_pos h1]
  · rw [if_neg h1, if_neg h1, if_neg h1]
theorem ct_j (hj : j < L.length) : (ctb h cl F L s).1 (h.2.1 + 1 + j) = L[j]? := by
  show (if h.2.1 + 1 + j = h.2.1 then _ else if h.2.1 < h.2.1 + 1 + j ∧ h.2.1 + 1 + j ≤ h.2.1 + L.length then L[h.2.1 + 1 + j - h.2.1 - 1]? else _) = _
  rw [if_neg (by omega), if_pos (by omega), show h.2.1 + 1 + j - h.2.1 - 1 = j by omega]
theorem ct_hsj (hj : j < L.length) : ez_hs (ctb h cl F L s) (h.2.1 + 1 + j) e = ctb h cl F (L.set j e) s := by
  refine Prod.ext (funext fun q => ?_) ?_
  · show (if q = h.2.1 + 1 + j then some e else if q = h.2.1 then _ else if h.2.1 < q ∧ q ≤ h.2.1 + L.length then L[q - h.2.1 - 1]? else h.1 q) = if q = h.2.1 then _ else if h.2.1 < q ∧ q ≤ h.2.1 + (L.set j e).length then (L.set j e)[q - h.2.1 - 1]? else h.1 q
    rw [List.length_set]
    by_cases h1 : q = h.2.1
    · rw [if_neg (by omega), if_pos h1, if_pos h1]
    · by_cases h2 : q = h.2.1 + 1 + j
      · rw [if_pos h2, if_neg h1, if_pos (by omega), show q - h.2.1 - 1 = j by omega, List.getElem?_set_self hj]
      · rw [if_neg h2, if_neg h1, if_neg h1]
        by_cases h3 : h.2.1 < q ∧ q ≤ h.2.1 + L.length
        · rw [if_pos h3, if_pos h3, List.getElem?_set_ne (by omega)]
        · rw [if_neg h3, if_neg h3]
  · show (h.2.1 + 1 + L.length, s) = (h.2.1 + 1 + (L.set j e).length, s)
    rw [List.length_set]
theorem ct_li (hj : L[j]? = some (.inr (0, [.int 0, .null, .int 0]))) : ez_ev g 148 [.ref (h.2.1 + 1 + j)] (ctb h cl F L s) = some (none, ctb h cl F (L.set j (.inr (0, [.int 0, .ref g.1, .int 0]))) s) := by
  have hl : j < L.length := (List.getElem?_eq_some_iff.mp hj).1
  rw [c_listInit (by rw [ct_j hl, hj]), ct_hsj hl]
theorem vF_c {c' sl : Nat} {fs : List Value} : ez_vF (some (.inr (c', fs))) sl = fs.getD sl .null := id rfl
theorem isW_0 {f : Nat → Int32} : ez_isW (some (.inl (0, 4, .inl f))) 0 0 = true := rfl
theorem uA_0 {t n : Nat} {x : Int32} {f : Nat → Int32} : ez_uA (some (.inl (t, n, .inl f))) 0 x = .inl (t, n, .inl (upd f 0 x)) := rfl
/-- the class's constructor -/
def pt_F (m : Nat) : List Value := [.int 0, .ref (m + 1 + 0), .int 0, .ref (m + 1 + 1), .ref (m + 1 + 2), .int 0, .int (-1), .ref (m + 1 + 3), .ref (m + 1 + 4), .ref (m + 1 + 5), .ref (m + 1 + 6), .ref (m + 1 + 7), .ref (m + 1 + 8), .ref (m + 1 + 9), .int 0]
def pt_L (g : ez_G) : List ez_E := [.inl (0, 20, .inl (fun _ => 0)), .inl (0, 32, .inl (fun _ => 0)), .inl (1, 600, .inl (fun _ => 0)), .inr (0, [.int 0, .ref g.1, .int 0]), .inr (0, [.int 0, .ref g.1, .int 0]), .inr (0, [.int 0, .ref g.1, .int 0]), .inl (0, 4, .inl (upd (fun _ => 0) 0 1)), .inl (0, 4, .inl (upd (fun _ => 0) 0 1)), .inr (0, [.int 0, .ref g.1, .int 0]), .inr (0, [.int 0, .ref g.1, .int 0])]
theorem c_portInit : ez_ev g 40 [.ref h.2.1] (ez_nw h (.inr (9, [.int 0, .null, .int 0, .null, .null, .int 0, .int 0, .null, .null, .null, .null, .null, .null, .null, .int 0])) n) = some (none, ctb h 9 (pt_F h.2.1) (pt_L g) (h.2.2 + n + 675)) := by
  rw [e40, ct_0]
  simp only [s40_0, s40_1, s40_4, s40_5, s40_7, s40_9, s40_12, s40_13, s40_15, s40_17, s40_20, s40_21, s40_24, s40_26, s40_29, s40_30, s40_31, s40_34, s40_35, s40_38, s40_39, s40_42, s40_45, s40_46, s40_49, s40_50, s40_53, s40_56, s40_57, s40_60, s40_61, s40_64, s40_67, s40_68, s40_69, s40_71, s40_74, s40_75, s40_76, s40_78, s40_81, s40_82, s40_85, s40_86, s40_89, s40_92, s40_93, s40_96, s40_97, s40_100, s40_103, s40_104, s40_107, s40_108, s40_109, s40_110, s40_111, s40_114, s40_115, s40_116, s40_117, zl_n, zl_i, zl_r, zl_0, z10, z01, ez_bd_s, ez_bd_n, eq_self, true_or, or_true, if_true, if_false, zb_eq, zb_eq1, zb_em, zb_em2, ite_not, List.append_nil, List.cons_append, List.nil_append, reduceCtorEq, not_true_eq_false, not_false_eq_true, ct_li, ct_nw, ct_21, ct_at, ct_hs, ct_j, ct_hsj, isF_c, uF_c, vF_c, isW_0, uA_0, beq_self_eq_true, Bool.true_and, List.length_cons, List.length_nil, Nat.reduceAdd, Nat.reduceLT, decide_true, List.set, List.getElem?_cons_succ, List.getElem?_cons_zero, List.getD_cons_succ, List.getD_cons_zero]
  rfl
def mt_F (m : Nat) : List Value := md_fs m (fun s => if s = 39 then -1 else 0, fun _ _ => 0)
def mt_L : List ez_E := md_ar.map (fun q => .inl (q.2.1, q.2.2, .inl (fun _ => 0)))
theorem c_modInit : ez_ev g 89 [.ref h.2.1] (ez_nw h (.inr (10, [.int 0, .int 0, .int 0, .int 0, .int 0, .int 0, .int 0, .null, .null, .null, .null, .null, .null, .null, .null, .null, .null, .null, .null, .null, .null, .null, .null, .null, .null, .null, .null, .null, .null, .null, .null, .null, .null, .null, .null, .null, .int 0, .int 0, .int 0, .int 0, .int 0, .null, .null, .null, .null, .null, .null, .null, .null, .int 0, .int 0, .null, .null])) n) = some (none, ctb h 10 (mt_F h.2.1) mt_L (h.2.2 + n + 7317)) := by
  rw [e89, ct_0]
  simp only [s89_0, s89_1, s89_4, s89_5, s89_7, s89_9, s89_12, s89_13, s89_15, s89_17, s89_20, s89_21, s89_23, s89_25, s89_28, s89_29, s89_31, s89_33, s89_36, s89_37, s89_39, s89_41, s89_44, s89_45, s89_48, s89_50, s89_53, s89_54, s89_57, s89_59, s89_62, s89_63, s89_66, s89_68, s89_71, s89_72, s89_75, s89_77, s89_80, s89_81, s89_84, s89_86, s89_89, s89_90, s89_93, s89_95, s89_98, s89_99, s89_102, s89_104, s89_107, s89_108, s89_111, s89_113, s89_116, s89_117, s89_120, s89_122, s89_125, s89_126, s89_129, s89_131, s89_134, s89_135, s89_138, s89_140, s89_143, s89_144, s89_145, s89_147, s89_150, s89_151, s89_152, s89_154, s89_157, s89_158, s89_160, s89_162, s89_165, s89_166, s89_168, s89_170, s89_173, s89_174, s89_177, s89_179, s89_182, s89_183, s89_185, s89_187, s89_190, s89_191, s89_193, s89_195, s89_198, s89_199, s89_201, s89_203, s89_206, s89_207, s89_210, s89_212, s89_215, s89_216, s89_219, s89_221, s89_224, s89_225, s89_228, s89_230, s89_233, s89_234, s89_237, s89_239, s89_242, s89_243, s89_246, s89_248, s89_251, s89_252, s89_253, s89_256, s89_257, s89_259, s89_261, s89_264, s89_265, s89_267, s89_269, s89_272, s89_273, s89_275, s89_277, s89_280, s89_281, s89_284, s89_286, s89_289, s89_290, s89_293, s89_295, s89_298, s89_299, s89_302, s89_304, s89_307, s89_308, s89_311, s89_313, s89_316, s89_317, s89_320, s89_322, s89_325, s89_326, s89_328, s89_330, s89_333, s89_334, s89_336, s89_338, s89_341, zl_n, zl_i, zl_r, zl_0, z10, z01, ez_bd_s, ez_bd_n, eq_self, true_or, or_true, if_true, if_false, zb_eq, zb_eq1, zb_em, zb_em2, ite_not, List.append_nil, List.cons_append, List.nil_append, reduceCtorEq, not_true_eq_false, not_false_eq_true, ct_li, ct_nw, ct_21, ct_at, ct_hs, ct_j, ct_hsj, isF_c, uF_c, vF_c, isW_0, uA_0, beq_self_eq_true, Bool.true_and, List.length_cons, List.length_nil, Nat.reduceAdd, Nat.reduceLT, decide_true, List.set, List.getElem?_cons_succ, List.getElem?_cons_zero, List.getD_cons_succ, List.getD_cons_zero]
  rfl
end CT
