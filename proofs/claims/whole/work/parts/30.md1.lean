theorem zl_n : ez_nl none = true := id rfl
theorem zl_i {x : Int32} : ez_nl (some (.int x)) = true := id rfl
theorem zl_r {x : Nat} : ez_nl (some (.ref x)) = true := id rfl
theorem zl_0 : ez_nl (some .null) = true := id rfl
theorem z10 : ((1 : Int32) = 0) = False := by decide
theorem z01 : ((0 : Int32) = 1) = False := by decide
theorem zb_eq {c : Prop} {i : Decidable c} : ((@ite _ c i (1 : Int32) 0) = 0) = ¬ c := by
  by_cases h : c
  · simp [h]
  · simp [h]
theorem zb_eq1 {c : Prop} {i : Decidable c} : ((@ite _ c i (1 : Int32) 0) = 1) = c := by
  by_cases h : c
  · simp [h]
  · simp [h]
theorem zb_em {c : Prop} : (¬ c ∨ c) = True := eq_true ((Classical.em c).elim Or.inr Or.inl)
theorem zb_em2 {c : Prop} : (c ∨ ¬ c) = True := eq_true (Classical.em c)
theorem md_inN {j n : Nat} (h : j < n) (hn : n < 2 ^ 31) : md_in (nI j) n = true := by
  unfold md_in
  rw [nI_clamp (by omega), decide_eq_true (nI_pos (by omega : j < 2 ^ 31)), decide_eq_true h]
  rfl
theorem nI_nleI {a b : Nat} (h : a < b) (hb : b < 2 ^ 31) : (nI b ≤ nI a) = False := eq_false (nI_ge h hb)
theorem nI_leT {a b : Nat} (h : a ≤ b) (hb : b < 2 ^ 31) : (nI a ≤ nI b) = True := eq_true (nI_le h hb)
theorem md_I1 {z : md_S} {s t : Nat} {v : Int32} : (md_sI z s v).1 t = if t = s then v else z.1 t := id rfl
theorem md_I2 {z : md_S} {s : Nat} {v : Int32} : (md_sI z s v).2 = z.2 := id rfl
theorem md_A1 {z : md_S} {s i : Nat} {v : Int32} : (md_sA z s i v).1 = z.1 := id rfl
theorem md_A2 {z : md_S} {s t i : Nat} {v : Int32} : (md_sA z s i v).2 t = if t = s then upd (z.2 s) i v else z.2 t := id rfl
theorem zp {x y : Int32} {a b : md_S} {h0 : ez_H} {m : Nat} (e1 : x = y) (e2 : a = b) : (some (some (Value.int x), md_h h0 m a) : Option ez_X) = some (some (.int y), md_h h0 m b) := by rw [e1, e2]
theorem e89 {g : ez_G} {h : ez_H} {a0 : Nat} : ez_ev g 89 [.ref a0] h = ez_rn g 89 0 [some (.ref a0)] [] h := by
  unfold ez_ev
  rw [show ez_ml 89 = 1 by decide +kernel]
  rfl
theorem e90 {g : ez_G} {h : ez_H} {a0 : Int32} {a1 : Int32} {a2 : Int32} : ez_ev g 90 [.int a0, .int a1, .int a2] h = ez_rn g 90 0 [some (.int a0), some (.int a1), some (.int a2)] [] h := by
  unfold ez_ev
  rw [show ez_ml 90 = 3 by decide +kernel]
  rfl
theorem e91 {g : ez_G} {h : ez_H} {a0 : Nat} {a1 : Int32} : ez_ev g 91 [.ref a0, .int a1] h = ez_rn g 91 0 [some (.ref a0), some (.int a1)] [] h := by
  unfold ez_ev
  rw [show ez_ml 91 = 2 by decide +kernel]
  rfl
theorem e92 {g : ez_G} {h : ez_H} {a0 : Nat} {a1 : Int32} : ez_ev g 92 [.ref a0, .int a1] h = ez_rn g 92 0 [some (.ref a0), some (.int a1)] [] h := by
  unfold ez_ev
  rw [show ez_ml 92 = 2 by decide +kernel]
  rfl
theorem e93 {g : ez_G} {h : ez_H} {a0 : Nat} {a1 : Int32} : ez_ev g 93 [.ref a0, .int a1] h = ez_rn g 93 0 [some (.ref a0), some (.int a1)] [] h := by
  unfold ez_ev
  rw [show ez_ml 93 = 2 by decide +kernel]
  rfl
theorem e94 {g : ez_G} {h : ez_H} {a0 : Nat} {a1 : Int32} : ez_ev g 94 [.ref a0, .int a1] h = ez_rn g 94 0 [some (.ref a0), some (.int a1)] [] h := by
  unfold ez_ev
  rw [show ez_ml 94 = 2 by decide +kernel]
  rfl
theorem e95 {g : ez_G} {h : ez_H} {a0 : Nat} {a1 : Int32} : ez_ev g 95 [.ref a0, .int a1] h = ez_rn g 95 0 [some (.ref a0), some (.int a1)] [] h := by
  unfold ez_ev
  rw [show ez_ml 95 = 2 by decide +kernel]
  rfl
theorem e96 {g : ez_G} {h : ez_H} {a0 : Nat} {a1 : Int32} : ez_ev g 96 [.ref a0, .int a1] h = ez_rn g 96 0 [some (.ref a0), some (.int a1)] [] h := by
  unfold ez_ev
  rw [show ez_ml 96 = 2 by decide +kernel]
  rfl
theorem e97 {g : ez_G} {h : ez_H} {a0 : Int32} {a1 : Int32} : ez_ev g 97 [.int a0, .int a1] h = ez_rn g 97 0 [some (.int a0), some (.int a1)] [] h := by
  unfold ez_ev
  rw [show ez_ml 97 = 2 by decide +kernel]
  rfl
theorem e98 {g : ez_G} {h : ez_H} {a0 : Nat} {a1 : Int32} {a2 : Int32} {a3 : Int32} : ez_ev g 98 [.ref a0, .int a1, .int a2, .int a3] h = ez_rn g 98 0 [some (.ref a0), some (.int a1), some (.int a2), some (.int a3)] [] h := by
  unfold ez_ev
  rw [show ez_ml 98 = 4 by decide +kernel]
  rfl
theorem e99 {g : ez_G} {h : ez_H} {a0 : Nat} {a1 : Int32} {a2 : Int32} {a3 : Int32} {a4 : Int32} {a5 : Int32} : ez_ev g 99 [.ref a0, .int a1, .int a2, .int a3, .int a4, .int a5] h = ez_rn g 99 0 [some (.ref a0), some (.int a1), some (.int a2), some (.int a3), some (.int a4), some (.int a5)] [] h := by
  unfold ez_ev
  rw [show ez_ml 99 = 6 by decide +kernel]
  rfl
theorem e100 {g : ez_G} {h : ez_H} {a0 : Nat} {a1 : Int32} : ez_ev g 100 [.ref a0, .int a1] h = ez_rn g 100 0 [some (.ref a0), some (.int a1), none] [] h := by
  unfold ez_ev
  rw [show ez_ml 100 = 3 by decide +kernel]
  rfl
theorem e101 {g : ez_G} {h : ez_H} {a0 : Nat} : ez_ev g 101 [.ref a0] h = ez_rn g 101 0 [some (.ref a0)] [] h := by
  unfold ez_ev
  rw [show ez_ml 101 = 1 by decide +kernel]
  rfl
theorem e102 {g : ez_G} {h : ez_H} {a0 : Nat} : ez_ev g 102 [.ref a0] h = ez_rn g 102 0 [some (.ref a0), none, none] [] h := by
  unfold ez_ev
  rw [show ez_ml 102 = 3 by decide +kernel]
  rfl
theorem e103 {g : ez_G} {h : ez_H} {a0 : Nat} {a1 : Int64} : ez_ev g 103 [.ref a0, .long a1] h = ez_rn g 103 0 [some (.ref a0), some (.long a1), none] [] h := by
  unfold ez_ev
  rw [show ez_ml 103 = 3 by decide +kernel]
  rfl
theorem e104 {g : ez_G} {h : ez_H} {a0 : Nat} : ez_ev g 104 [.ref a0] h = ez_rn g 104 0 [some (.ref a0), none] [] h := by
  unfold ez_ev
  rw [show ez_ml 104 = 2 by decide +kernel]
  rfl
theorem e105 {g : ez_G} {h : ez_H} {a0 : Nat} : ez_ev g 105 [.ref a0] h = ez_rn g 105 0 [some (.ref a0), none, none] [] h := by
  unfold ez_ev
  rw [show ez_ml 105 = 3 by decide +kernel]
  rfl
theorem e106 {g : ez_G} {h : ez_H} {a0 : Nat} {a1 : Int32} : ez_ev g 106 [.ref a0, .int a1] h = ez_rn g 106 0 [some (.ref a0), some (.int a1), none] [] h := by
  unfold ez_ev
  rw [show ez_ml 106 = 3 by decide +kernel]
  rfl
theorem e107 {g : ez_G} {h : ez_H} {a0 : Nat} {a1 : Int32} : ez_ev g 107 [.ref a0, .int a1] h = ez_rn g 107 0 [some (.ref a0), some (.int a1)] [] h := by
  unfold ez_ev
  rw [show ez_ml 107 = 2 by decide +kernel]
  rfl
theorem e108 {g : ez_G} {h : ez_H} {a0 : Nat} {a1 : Int32} : ez_ev g 108 [.ref a0, .int a1] h = ez_rn g 108 0 [some (.ref a0), some (.int a1), none] [] h := by
  unfold ez_ev
  rw [show ez_ml 108 = 3 by decide +kernel]
  rfl
theorem e109 {g : ez_G} {h : ez_H} {a0 : Nat} : ez_ev g 109 [.ref a0] h = ez_rn g 109 0 [some (.ref a0)] [] h := by
  unfold ez_ev
  rw [show ez_ml 109 = 1 by decide +kernel]
  rfl
theorem e110 {g : ez_G} {h : ez_H} {a0 : Nat} {a1 : Int32} : ez_ev g 110 [.ref a0, .int a1] h = ez_rn g 110 0 [some (.ref a0), some (.int a1)] [] h := by
  unfold ez_ev
  rw [show ez_ml 110 = 2 by decide +kernel]
  rfl
theorem e111 {g : ez_G} {h : ez_H} {a0 : Nat} {a1 : Int32} : ez_ev g 111 [.ref a0, .int a1] h = ez_rn g 111 0 [some (.ref a0), some (.int a1), none, none] [] h := by
  unfold ez_ev
  rw [show ez_ml 111 = 4 by decide +kernel]
  rfl
theorem e112 {g : ez_G} {h : ez_H} {a0 : Nat} {a1 : Int32} {a2 : Int32} {a3 : Int32} {a4 : Int32} : ez_ev g 112 [.ref a0, .int a1, .int a2, .int a3, .int a4] h = ez_rn g 112 0 [some (.ref a0), some (.int a1), some (.int a2), some (.int a3), some (.int a4), none, none, none] [] h := by
  unfold ez_ev
  rw [show ez_ml 112 = 8 by decide +kernel]
  rfl
theorem e113 {g : ez_G} {h : ez_H} {a0 : Nat} {a1 : Int32} {a2 : Int32} : ez_ev g 113 [.ref a0, .int a1, .int a2] h = ez_rn g 113 0 [some (.ref a0), some (.int a1), some (.int a2), none] [] h := by
  unfold ez_ev
  rw [show ez_ml 113 = 4 by decide +kernel]
  rfl
theorem e114 {g : ez_G} {h : ez_H} {a0 : Nat} {a1 : Int32} {a2 : Int32} {a3 : Int32} {a4 : Int32} : ez_ev g 114 [.ref a0, .int a1, .int a2, .int a3, .int a4] h = ez_rn g 114 0 [some (.ref a0), some (.int a1), some (.int a2), some (.int a3), some (.int a4), none, none] [] h := by
  unfold ez_ev
  rw [show ez_ml 114 = 7 by decide +kernel]
  rfl
theorem e115 {g : ez_G} {h : ez_H} {a0 : Nat} {a1 : Int32} : ez_ev g 115 [.ref a0, .int a1] h = ez_rn g 115 0 [some (.ref a0), some (.int a1), none, none, none] [] h := by
  unfold ez_ev
  rw [show ez_ml 115 = 5 by decide +kernel]
  rfl
theorem e116 {g : ez_G} {h : ez_H} {a0 : Nat} {a1 : Int32} {a2 : Int32} {a3 : Int32} : ez_ev g 116 [.ref a0, .int a1, .int a2, .int a3] h = ez_rn g 116 0 [some (.ref a0), some (.int a1), some (.int a2), some (.int a3)] [] h := by
  unfold ez_ev
  rw [show ez_ml 116 = 4 by decide +kernel]
  rfl
theorem e117 {g : ez_G} {h : ez_H} {a0 : Nat} {a1 : Int32} : ez_ev g 117 [.ref a0, .int a1] h = ez_rn g 117 0 [some (.ref a0), some (.int a1)] [] h := by
  unfold ez_ev
  rw [show ez_ml 117 = 2 by decide +kernel]
  rfl
theorem e118 {g : ez_G} {h : ez_H} {a0 : Nat} {a1 : Int32} {a2 : Int32} {a3 : Int32} {a4 : Int32} : ez_ev g 118 [.ref a0, .int a1, .int a2, .int a3, .int a4] h = ez_rn g 118 0 [some (.ref a0), some (.int a1), some (.int a2), some (.int a3), some (.int a4), none, none, none, none, none, none] [] h := by
  unfold ez_ev
  rw [show ez_ml 118 = 11 by decide +kernel]
  rfl
theorem e119 {g : ez_G} {h : ez_H} {a0 : Nat} {a1 : Int32} : ez_ev g 119 [.ref a0, .int a1] h = ez_rn g 119 0 [some (.ref a0), some (.int a1)] [] h := by
  unfold ez_ev
  rw [show ez_ml 119 = 2 by decide +kernel]
  rfl
theorem e120 {g : ez_G} {h : ez_H} {a0 : Int32} {a1 : Int32} : ez_ev g 120 [.int a0, .int a1] h = ez_rn g 120 0 [some (.int a0), some (.int a1)] [] h := by
  unfold ez_ev
  rw [show ez_ml 120 = 2 by decide +kernel]
  rfl
theorem e121 {g : ez_G} {h : ez_H} {a0 : Nat} {a1 : Int32} {a2 : Int32} : ez_ev g 121 [.ref a0, .int a1, .int a2] h = ez_rn g 121 0 [some (.ref a0), some (.int a1), some (.int a2)] [] h := by
  unfold ez_ev
  rw [show ez_ml 121 = 3 by decide +kernel]
  rfl
theorem e122 {g : ez_G} {h : ez_H} {a0 : Nat} {a1 : Int32} {a2 : Int32} {a3 : Int32} : ez_ev g 122 [.ref a0, .int a1, .int a2, .int a3] h = ez_rn g 122 0 [some (.ref a0), some (.int a1), some (.int a2), some (.int a3)] [] h := by
  unfold ez_ev
  rw [show ez_ml 122 = 4 by decide +kernel]
  rfl
theorem e123 {g : ez_G} {h : ez_H} {a0 : Nat} {a1 : Int32} {a2 : Int32} {a3 : Int32} : ez_ev g 123 [.ref a0, .int a1, .int a2, .int a3] h = ez_rn g 123 0 [some (.ref a0), some (.int a1), some (.int a2), some (.int a3), none, none] [] h := by
  unfold ez_ev
  rw [show ez_ml 123 = 6 by decide +kernel]
  rfl
theorem e124 {g : ez_G} {h : ez_H} {a0 : Nat} {a1 : Int32} {a2 : Int32} : ez_ev g 124 [.ref a0, .int a1, .int a2] h = ez_rn g 124 0 [some (.ref a0), some (.int a1), some (.int a2), none, none] [] h := by
  unfold ez_ev
  rw [show ez_ml 124 = 5 by decide +kernel]
  rfl
theorem e125 {g : ez_G} {h : ez_H} {a0 : Nat} {a1 : Int32} : ez_ev g 125 [.ref a0, .int a1] h = ez_rn g 125 0 [some (.ref a0), some (.int a1)] [] h := by
  unfold ez_ev
  rw [show ez_ml 125 = 2 by decide +kernel]
  rfl
theorem e126 {g : ez_G} {h : ez_H} {a0 : Int32} : ez_ev g 126 [.int a0] h = ez_rn g 126 0 [some (.int a0)] [] h := by
  unfold ez_ev
  rw [show ez_ml 126 = 1 by decide +kernel]
  rfl
theorem e127 {g : ez_G} {h : ez_H} {a0 : Nat} {a1 : Int32} {a2 : Int32} : ez_ev g 127 [.ref a0, .int a1, .int a2] h = ez_rn g 127 0 [some (.ref a0), some (.int a1), some (.int a2)] [] h := by
  unfold ez_ev
  rw [show ez_ml 127 = 3 by decide +kernel]
  rfl
theorem e128 {g : ez_G} {h : ez_H} {a0 : Nat} {a1 : Int32} : ez_ev g 128 [.ref a0, .int a1] h = ez_rn g 128 0 [some (.ref a0), some (.int a1)] [] h := by
  unfold ez_ev
  rw [show ez_ml 128 = 2 by decide +kernel]
  rfl
theorem e129 {g : ez_G} {h : ez_H} {a0 : Nat} : ez_ev g 129 [.ref a0] h = ez_rn g 129 0 [some (.ref a0)] [] h := by
  unfold ez_ev
  rw [show ez_ml 129 = 1 by decide +kernel]
  rfl
theorem e130 {g : ez_G} {h : ez_H} {a0 : Nat} {a1 : Int32} {a2 : Int32} : ez_ev g 130 [.ref a0, .int a1, .int a2] h = ez_rn g 130 0 [some (.ref a0), some (.int a1), some (.int a2)] [] h := by
  unfold ez_ev
  rw [show ez_ml 130 = 3 by decide +kernel]
  rfl
theorem e131 {g : ez_G} {h : ez_H} {a0 : Nat} {a1 : Int32} : ez_ev g 131 [.ref a0, .int a1] h = ez_rn g 131 0 [some (.ref a0), some (.int a1), none, none] [] h := by
  unfold ez_ev
  rw [show ez_ml 131 = 4 by decide +kernel]
  rfl
theorem e132 {g : ez_G} {h : ez_H} {a0 : Nat} {a1 : Int32} {a2 : Int32} {a3 : Int32} {a4 : Int32} : ez_ev g 132 [.ref a0, .int a1, .int a2, .int a3, .int a4] h = ez_rn g 132 0 [some (.ref a0), some (.int a1), some (.int a2), some (.int a3), some (.int a4), none, none] [] h := by
  unfold ez_ev
  rw [show ez_ml 132 = 7 by decide +kernel]
  rfl
theorem e133 {g : ez_G} {h : ez_H} {a0 : Nat} {a1 : Int32} : ez_ev g 133 [.ref a0, .int a1] h = ez_rn g 133 0 [some (.ref a0), some (.int a1), none, none] [] h := by
  unfold ez_ev
  rw [show ez_ml 133 = 4 by decide +kernel]
  rfl
theorem e134 {g : ez_G} {h : ez_H} {a0 : Nat} {a1 : Int32} : ez_ev g 134 [.ref a0, .int a1] h = ez_rn g 134 0 [some (.ref a0), some (.int a1), none, none, none, none] [] h := by
  unfold ez_ev
  rw [show ez_ml 134 = 6 by decide +kernel]
  rfl
theorem e135 {g : ez_G} {h : ez_H} {a0 : Nat} {a1 : Int32} {a2 : Int32} : ez_ev g 135 [.ref a0, .int a1, .int a2] h = ez_rn g 135 0 [some (.ref a0), some (.int a1), some (.int a2), none, none, none, none, none] [] h := by
  unfold ez_ev
  rw [show ez_ml 135 = 8 by decide +kernel]
  rfl
theorem e136 {g : ez_G} {h : ez_H} {a0 : Nat} {a1 : Int32} {a2 : Int32} : ez_ev g 136 [.ref a0, .int a1, .int a2] h = ez_rn g 136 0 [some (.ref a0), some (.int a1), some (.int a2)] [] h := by
  unfold ez_ev
  rw [show ez_ml 136 = 3 by decide +kernel]
  rfl
theorem e137 {g : ez_G} {h : ez_H} {a0 : Nat} {a1 : Int32} {a2 : Int32} : ez_ev g 137 [.ref a0, .int a1, .int a2] h = ez_rn g 137 0 [some (.ref a0), some (.int a1), some (.int a2)] [] h := by
  unfold ez_ev
  rw [show ez_ml 137 = 3 by decide +kernel]
  rfl
theorem e138 {g : ez_G} {h : ez_H} {a0 : Nat} {a1 : Int32} {a2 : Int32} {a3 : Int32} : ez_ev g 138 [.ref a0, .int a1, .int a2, .int a3] h = ez_rn g 138 0 [some (.ref a0), some (.int a1), some (.int a2), some (.int a3), none, none, none, none, none] [] h := by
  unfold ez_ev
  rw [show ez_ml 138 = 9 by decide +kernel]
  rfl
theorem e139 {g : ez_G} {h : ez_H} {a0 : Nat} {a1 : Int32} : ez_ev g 139 [.ref a0, .int a1] h = ez_rn g 139 0 [some (.ref a0), some (.int a1), none, none] [] h := by
  unfold ez_ev
  rw [show ez_ml 139 = 4 by decide +kernel]
  rfl
section M1
variable {g : ez_G} {h0 : ez_H} {m : Nat} {z : md_S}
theorem q_isIn {v lo hi : Int32} : ez_ev g 90 [.int v, .int lo, .int hi] (md_h h0 m z) = some (some (.int (if lo ≤ v ∧ v ≤ hi then 1 else 0)), md_h h0 m z) := by
  rw [e90]
  simp only [s90_0, s90_1, s90_2, s90_5, s90_6, s90_7, s90_10, s90_11, s90_14, s90_15, zl_n, zl_i, zl_r, zl_0, z10, z01, ez_bd_s, ez_bd_n, eq_self, true_or, or_true, if_true, if_false, zb_eq, zb_eq1, zb_em, zb_em2, ite_not, List.append_nil, List.cons_append, List.nil_append, reduceCtorEq, not_true_eq_false, not_false_eq_true]
  by_cases h1 : v < lo
  · rw [if_pos h1, if_neg (fun h => absurd h1 (Int32.not_lt.mpr h.1))]
  · rw [if_neg h1]
    by_cases h2 : hi < v
    · rw [if_pos h2, if_neg (fun h => absurd h2 (Int32.not_lt.mpr h.2))]
    · rw [if_neg h2, if_pos ⟨Int32.not_lt.mp h1, Int32.not_lt.mp h2⟩]
theorem q_isMerchant {v : Int32} : ez_ev g 91 [.ref m, .int v] (md_h h0 m z) = some (some (.int (if 0 ≤ v ∧ v ≤ z.1 1 - 1 then 1 else 0)), md_h h0 m z) := by
  rw [e91]
  simp only [s91_0, s91_1, s91_2, s91_3, s91_6, s91_7, s91_8, s91_11, q_isIn, zl_n, zl_i, zl_r, zl_0, z10, z01, ez_bd_s, ez_bd_n, eq_self, true_or, or_true, if_true, if_false, zb_eq, zb_eq1, zb_em, zb_em2, ite_not, List.append_nil, List.cons_append, List.nil_append, reduceCtorEq, not_true_eq_false, not_false_eq_true]
theorem q_isLot {v : Int32} : ez_ev g 92 [.ref m, .int v] (md_h h0 m z) = some (some (.int (if 0 ≤ v ∧ v ≤ z.1 3 - 1 then 1 else 0)), md_h h0 m z) := by
  rw [e92]
  simp only [s92_0, s92_1, s92_2, s92_3, s92_6, s92_7, s92_8, s92_11, q_isIn, zl_n, zl_i, zl_r, zl_0, z10, z01, ez_bd_s, ez_bd_n, eq_self, true_or, or_true, if_true, if_false, zb_eq, zb_eq1, zb_em, zb_em2, ite_not, List.append_nil, List.cons_append, List.nil_append, reduceCtorEq, not_true_eq_false, not_false_eq_true]
theorem q_isFleet {v : Int32} : ez_ev g 93 [.ref m, .int v] (md_h h0 m z) = some (some (.int (if 0 ≤ v ∧ v ≤ z.1 4 - 1 then 1 else 0)), md_h h0 m z) := by
  rw [e93]
  simp only [s93_0, s93_1, s93_2, s93_3, s93_6, s93_7, s93_8, s93_11, q_isIn, zl_n, zl_i, zl_r, zl_0, z10, z01, ez_bd_s, ez_bd_n, eq_self, true_or, or_true, if_true, if_false, zb_eq, zb_eq1, zb_em, zb_em2, ite_not, List.append_nil, List.cons_append, List.nil_append, reduceCtorEq, not_true_eq_false, not_false_eq_true]
theorem q_isShip {v : Int32} : ez_ev g 94 [.ref m, .int v] (md_h h0 m z) = some (some (.int (if 0 ≤ v ∧ v ≤ z.1 5 - 1 then 1 else 0)), md_h h0 m z) := by
  rw [e94]
  simp only [s94_0, s94_1, s94_2, s94_3, s94_6, s94_7, s94_8, s94_11, q_isIn, zl_n, zl_i, zl_r, zl_0, z10, z01, ez_bd_s, ez_bd_n, eq_self, true_or, or_true, if_true, if_false, zb_eq, zb_eq1, zb_em, zb_em2, ite_not, List.append_nil, List.cons_append, List.nil_append, reduceCtorEq, not_true_eq_false, not_false_eq_true]
def pm_day (z : md_S) (d : Int32) : md_S × Int32 := if d ≤ z.1 0 then (z, 0) else if d ≤ 3000 then (md_sI z 0 d, 1) else (z, 0)
theorem q_day {d : Int32} : ez_ev g 95 [.ref m, .int d] (md_h h0 m z) = some (some (.int (pm_day z d).2), md_h h0 m (pm_day z d).1) := by
  rw [e95]
  simp only [s95_0, s95_1, s95_2, s95_5, s95_8, s95_9, s95_12, s95_15, s95_16, s95_17, s95_18, s95_19, s95_22, s95_23, zl_n, zl_i, zl_r, zl_0, z10, z01, ez_bd_s, ez_bd_n, eq_self, true_or, or_true, if_true, if_false, zb_eq, zb_eq1, zb_em, zb_em2, ite_not, List.append_nil, List.cons_append, List.nil_append, reduceCtorEq, not_true_eq_false, not_false_eq_true]
  unfold pm_day
  repeat' split
  all_goals rfl
def pm_merchant (z : md_S) (v : Int32) : md_S × Int32 := if 0 ≤ v ∧ v ≤ 2 then (if z.1 1 = 20 then (z, -1) else (md_sI (md_sA z 7 (z.1 1).toNatClampNeg v) 1 (z.1 1 + 1), z.1 1 + 1 - 1)) else (z, -1)
theorem q_merchant {v : Int32} (h : z.1 1 = 20 ∨ md_in (z.1 1) 20 = true) : ez_ev g 96 [.ref m, .int v] (md_h h0 m z) = some (some (.int (pm_merchant z v).2), md_h h0 m (pm_merchant z v).1) := by
  rw [e96]
  unfold pm_merchant
  by_cases h1 : z.1 1 = 20
  · simp only [s96_0, s96_1, s96_2, s96_3, s96_6, s96_9, s96_10, s96_13, s96_15, s96_18, s96_19, s96_20, s96_21, s96_24, s96_25, s96_28, s96_29, s96_30, s96_31, s96_32, s96_35, s96_36, s96_37, s96_40, s96_41, s96_44, s96_45, s96_46, zl_n, zl_i, zl_r, zl_0, z10, z01, ez_bd_s, ez_bd_n, eq_self, true_or, or_true, if_true, if_false, zb_eq, zb_eq1, zb_em, zb_em2, ite_not, List.append_nil, List.cons_append, List.nil_append, reduceCtorEq, not_true_eq_false, not_false_eq_true, q_isIn, h1]
    repeat' split
    all_goals rfl
  · have h2 : md_in (z.1 1) 20 = true := h.resolve_left h1
    simp only [s96_0, s96_1, s96_2, s96_3, s96_6, s96_9, s96_10, s96_13, s96_15, s96_18, s96_19, s96_20, s96_21, s96_24, s96_25, s96_28, s96_29, s96_30, s96_31, s96_32, s96_35, s96_36, s96_37, s96_40, s96_41, s96_44, s96_45, s96_46, zl_n, zl_i, zl_r, zl_0, z10, z01, ez_bd_s, ez_bd_n, eq_self, true_or, or_true, if_true, if_false, zb_eq, zb_eq1, zb_em, zb_em2, ite_not, List.append_nil, List.cons_append, List.nil_append, reduceCtorEq, not_true_eq_false, not_false_eq_true, q_isIn, h1, h2]
    repeat' split
    all_goals rfl
theorem q_isWool {a b : Int32} : ez_ev g 97 [.int a, .int b] (md_h h0 m z) = some (some (.int (if (0 ≤ a ∧ a ≤ 7) ∧ 0 ≤ b ∧ b ≤ 3 then 1 else 0)), md_h h0 m z) := by
  rw [e97]
  simp only [s97_0, s97_1, s97_2, s97_4, s97_7, s97_10, s97_11, s97_12, s97_13, s97_16, s97_19, s97_20, s97_23, s97_24, q_isIn, zl_n, zl_i, zl_r, zl_0, z10, z01, ez_bd_s, ez_bd_n, eq_self, true_or, or_true, if_true, if_false, zb_eq, zb_eq1, zb_em, zb_em2, ite_not, List.append_nil, List.cons_append, List.nil_append, reduceCtorEq, not_true_eq_false, not_false_eq_true]
  by_cases h1 : 0 ≤ a ∧ a ≤ 7
  · by_cases h2 : 0 ≤ b ∧ b ≤ 3
    · rw [if_pos h1, if_pos h2, if_pos ⟨h1, h2⟩]
    · rw [if_pos h1, if_neg h2, if_neg (fun h => h2 h.2)]
  · rw [if_neg h1, if_neg (fun h => h1 h.1)]
def zw (a b : Int32) : Prop := (0 ≤ a ∧ a ≤ 7) ∧ 0 ≤ b ∧ b ≤ 3
def pm_grow (z : md_S) (a b s : Int32) : md_S × Int32 := if (0 ≤ a ∧ a ≤ 7) ∧ 0 ≤ b ∧ b ≤ 3 then (if 0 ≤ s ∧ s ≤ 1000 then (md_sA z 8 (4 * a + b).toNatClampNeg (z.2 8 (4 * a + b).toNatClampNeg + s), z.2 8 (4 * a + b).toNatClampNeg + s) else (z, -1)) else (z, -1)
theorem q_grow {a b s : Int32} (h : (0 ≤ a ∧ a ≤ 7) ∧ 0 ≤ b ∧ b ≤ 3 → md_in (4 * a + b) 32 = true) : ez_ev g 98 [.ref m, .int a, .int b, .int s] (md_h h0 m z) = some (some (.int (pm_grow z a b s).2), md_h h0 m (pm_grow z a b s).1) := by
  rw [e98]
  unfold pm_grow
  by_cases h1 : (0 ≤ a ∧ a ≤ 7) ∧ 0 ≤ b ∧ b ≤ 3
  · simp only [s98_0, s98_1, s98_2, s98_5, s98_8, s98_9, s98_10, s98_13, s98_16, s98_19, s98_20, s98_21, s98_22, s98_25, s98_26, s98_27, s98_28, s98_29, s98_30, s98_31, s98_32, s98_33, s98_34, s98_35, s98_36, s98_39, s98_40, s98_41, s98_42, s98_43, s98_44, s98_45, zl_n, zl_i, zl_r, zl_0, z10, z01, ez_bd_s, ez_bd_n, eq_self, true_or, or_true, if_true, if_false, zb_eq, zb_eq1, zb_em, zb_em2, ite_not, List.append_nil, List.cons_append, List.nil_append, reduceCtorEq, not_true_eq_false, not_false_eq_true, q_isIn, q_isWool, if_pos h1, h h1]
    split
    · refine zp ?_ rfl
      simp only [md_A2, if_true, pk_us]
    · rfl
  · simp only [s98_0, s98_1, s98_2, s98_5, s98_8, s98_9, s98_10, s98_13, s98_16, s98_19, s98_20, s98_21, s98_22, s98_25, s98_26, s98_27, s98_28, s98_29, s98_30, s98_31, s98_32, s98_33, s98_34, s98_35, s98_36, s98_39, s98_40, s98_41, s98_42, s98_43, s98_44, s98_45, zl_n, zl_i, zl_r, zl_0, z10, z01, ez_bd_s, ez_bd_n, eq_self, true_or, or_true, if_true, if_false, zb_eq, zb_eq1, zb_em, zb_em2, ite_not, List.append_nil, List.cons_append, List.nil_append, reduceCtorEq, not_true_eq_false, not_false_eq_true, q_isIn, q_isWool]
    simp only [if_neg h1]
theorem q_fault : ez_ev g 109 [.ref m] (md_h h0 m z) = some (some (.int (z.1 39)), md_h h0 m z) := by
  rw [e109]
  simp only [s109_0, s109_1, s109_4, zl_n, zl_i, zl_r, zl_0, z10, z01, ez_bd_s, ez_bd_n, eq_self, true_or, or_true, if_true, if_false, zb_eq, zb_eq1, zb_em, zb_em2, ite_not, List.append_nil, List.cons_append, List.nil_append, reduceCtorEq, not_true_eq_false, not_false_eq_true]
def pm_undo (z : md_S) (s : Int32) : md_S × Int32 := if 0 ≤ s ∧ s ≤ z.1 40 - 1 then (if z.2 43 s.toNatClampNeg = 0 then (md_sA z 43 s.toNatClampNeg (vp_nar .boolean 1), 1) else (z, 0)) else (z, 0)
theorem q_undo {s : Int32} (h : 0 ≤ s ∧ s ≤ z.1 40 - 1 → md_in s 21 = true) : ez_ev g 110 [.ref m, .int s] (md_h h0 m z) = some (some (.int (pm_undo z s).2), md_h h0 m (pm_undo z s).1) := by
  rw [e110]
  unfold pm_undo
  by_cases h1 : 0 ≤ s ∧ s ≤ z.1 40 - 1
  · simp only [s110_0, s110_1, s110_2, s110_3, s110_6, s110_7, s110_8, s110_11, s110_14, s110_15, s110_18, s110_19, s110_20, s110_23, s110_24, s110_25, s110_26, s110_29, s110_30, s110_31, s110_32, s110_33, zl_n, zl_i, zl_r, zl_0, z10, z01, ez_bd_s, ez_bd_n, eq_self, true_or, or_true, if_true, if_false, zb_eq, zb_eq1, zb_em, zb_em2, ite_not, List.append_nil, List.cons_append, List.nil_append, reduceCtorEq, not_true_eq_false, not_false_eq_true, q_isIn, h h1]
    simp only [if_pos h1]
    repeat' split
    all_goals rfl
  · simp only [s110_0, s110_1, s110_2, s110_3, s110_6, s110_7, s110_8, s110_11, s110_14, s110_15, s110_18, s110_19, s110_20, s110_23, s110_24, s110_25, s110_26, s110_29, s110_30, s110_31, s110_32, s110_33, zl_n, zl_i, zl_r, zl_0, z10, z01, ez_bd_s, ez_bd_n, eq_self, true_or, or_true, if_true, if_false, zb_eq, zb_eq1, zb_em, zb_em2, ite_not, List.append_nil, List.cons_append, List.nil_append, reduceCtorEq, not_true_eq_false, not_false_eq_true, q_isIn]
    simp only [if_neg h1]
/-- the STATUTE in force on a day -/
def pf (z : md_S) (day : Int32) : Nat → Int32
  | 0 => -1
  | n + 1 => if z.2 43 n = 0 then (if day < z.2 42 n then pf z day n else nI n) else pf z day n
theorem lp_force {S : Nat} {day : Int32} (hS : z.1 40 = nI S) (hS2 : S ≤ 20) (hd : 0 ≤ day ∧ day ≤ 3000) : ∀ d j, j + d = S → ez_rn g 111 4 [some (.ref m), some (.int day), some (.int (pf z day j)), some (.int (nI j))] [] (md_h h0 m z) = some (some (.int (pf z day S)), md_h h0 m z) := by
  intro d
  induction d with
  | zero =>
    intro j hj
    obtain rfl : j = S := by omega
    rw [s111_4]
    simp only [s111_0, s111_1, s111_2, s111_3, s111_5, s111_6, s111_9, s111_12, s111_13, s111_14, s111_17, s111_20, s111_23, s111_24, s111_27, s111_28, s111_29, s111_32, s111_33, s111_36, s111_37, s111_38, s111_39, s111_42, s111_43, s111_44, s111_47, s111_50, s111_51, zl_n, zl_i, zl_r, zl_0, z10, z01, ez_bd_s, ez_bd_n, eq_self, true_or, or_true, if_true, if_false, zb_eq, zb_eq1, zb_em, zb_em2, ite_not, List.append_nil, List.cons_append, List.nil_append, reduceCtorEq, not_true_eq_false, not_false_eq_true, hS, nI_leT (Nat.le_refl j) (by omega)]
  | succ d ih =>
    intro j hj
    have c1 : (nI j).toNatClampNeg = j := nI_clamp (by omega)
    have c2 : md_in (nI j) 21 = true := md_inN (by omega) (by omega)
    have hx := ih (j + 1) (by omega)
    rw [s111_4]
    simp only [s111_0, s111_1, s111_2, s111_3, s111_5, s111_6, s111_9, s111_12, s111_13, s111_14, s111_17, s111_20, s111_23, s111_24, s111_27, s111_28, s111_29, s111_32, s111_33, s111_36, s111_37, s111_38, s111_39, s111_42, s111_43, s111_44, s111_47, s111_50, s111_51, zl_n, zl_i, zl_r, zl_0, z10, z01, ez_bd_s, ez_bd_n, eq_self, true_or, or_true, if_true, if_false, zb_eq, zb_eq1, zb_em, zb_em2, ite_not, List.append_nil, List.cons_append, List.nil_append, reduceCtorEq, not_true_eq_false, not_false_eq_true, hS, nI_nleI (show j < S by omega) (by omega), q_isIn, hd, c1, c2, nI_1, and_self]
    rw [pf] at hx
    split
    · next h1 =>
      rw [if_pos h1] at hx
      split
      · next h2 => rw [if_pos h2] at hx; exact hx
      · next h2 => rw [if_neg h2] at hx; exact hx
    · next h1 =>
      rw [if_neg h1] at hx
      exact hx
theorem q_force {S : Nat} {day : Int32} (hS : z.1 40 = nI S) (hS2 : S ≤ 20) : ez_ev g 111 [.ref m, .int day] (md_h h0 m z) = some (some (.int (if 0 ≤ day ∧ day ≤ 3000 then pf z day S else -1)), md_h h0 m z) := by
  rw [e111]
  by_cases hd : 0 ≤ day ∧ day ≤ 3000
  · rw [if_pos hd, ← lp_force (g := g) (h0 := h0) (m := m) hS hS2 hd S 0 (by omega)]
    simp only [s111_0, s111_1, s111_2, s111_3, s111_5, s111_6, s111_9, s111_12, s111_13, s111_14, s111_17, s111_20, s111_23, s111_24, s111_27, s111_28, s111_29, s111_32, s111_33, s111_36, s111_37, s111_38, s111_39, s111_42, s111_43, s111_44, s111_47, s111_50, s111_51, zl_n, zl_i, zl_r, zl_0, z10, z01, ez_bd_s, ez_bd_n, eq_self, true_or, or_true, if_true, if_false, zb_eq, zb_eq1, zb_em, zb_em2, ite_not, List.append_nil, List.cons_append, List.nil_append, reduceCtorEq, not_true_eq_false, not_false_eq_true, pf, nI_0]
  · rw [if_neg hd]
    have hd2 := eq_false hd
    simp only [s111_0, s111_1, s111_2, s111_3, s111_4, s111_5, s111_6, s111_9, s111_12, s111_13, s111_14, s111_17, s111_20, s111_23, s111_24, s111_27, s111_28, s111_29, s111_32, s111_33, s111_36, s111_37, s111_38, s111_39, s111_42, s111_43, s111_44, s111_47, s111_50, s111_51, zl_n, zl_i, zl_r, zl_0, z10, z01, ez_bd_s, ez_bd_n, eq_self, true_or, or_true, if_true, if_false, zb_eq, zb_eq1, zb_em, zb_em2, ite_not, List.append_nil, List.cons_append, List.nil_append, reduceCtorEq, not_true_eq_false, not_false_eq_true, q_isIn, hd2, ite_self]
end M1
