section ZQ
variable {g : ez_G} {k pc : Nat} {ls : ez_L} {st r : List Value} {h : ez_H}
theorem ez_plx {j : Nat} {x : Option Value} (h1 : ls[j]? = some x) (h2 : ez_nl x = true) : ez_pl ls (j + 1) = true := by
  unfold ez_pl
  dsimp only
  unfold ez_lg
  rw [h1]
  cases x with
  | none => rfl
  | some v => exact h2
theorem rk_call0 {i k' x p na ml : Nat} {ar rest : List Value} (hd : decode (ez_code k) pc = .ok (.invokestatic i, 3)) (hm : ez_mk k i = some (k', x, p)) (c : (¬ k' = 9001 ∧ ¬ k' = 9002 ∧ ¬ k' = 9003) ∧ k' < 159 ∧ ez_kd k' = 0 ∧ ez_dep k' < ez_dep k ∧ ez_na k' = na ∧ ez_ml k' = ml) (hl : ar.length = na) (hw : ez_w rest ≤ 8) (hw2 : ez_w ar ≤ ml) : ez_rn g k pc ls (ar ++ rest) h = ez_bd g k (pc + 3) ls rest (ez_ev g k' ar.reverse h) := by
  obtain ⟨c0, c1, c2, c3, c4, c5⟩ := c
  subst hl
  have e1 : (ar ++ rest).take ar.length = ar := List.take_left
  have e2 : (ar ++ rest).drop ar.length = rest := List.drop_left
  exact rl_call0 hd hm c0 ⟨c1, c2, c3, by rw [c4, List.length_append]; omega, by rw [c4, e2]; exact hw, by rw [c4, e1, c5]; exact hw2⟩ (by rw [c4, e1]) (by rw [c4, e2])
theorem rk_call1 {i k' x p b na ml w : Nat} {ar as rest : List Value} (hd : decode (ez_code k) pc = .ok (.invokevirtual i, 3)) (hm : ez_mk k i = some (k', x, p)) (c : k' < 159 ∧ ez_kd k' = 1 ∧ ez_dep k' < ez_dep k ∧ ez_na k' = na ∧ ez_ml k' = ml ∧ ez_ow k' = w) (hl : ar.length = na) (ha : ar.reverse = .ref b :: as) (hw : ez_w rest ≤ 8) (hw2 : ez_w ar ≤ ml) (hb : ez_rc g h b w = true) : ez_rn g k pc ls (ar ++ rest) h = ez_bd g k (pc + 3) ls rest (ez_ev g k' (.ref b :: as) h) := by
  obtain ⟨c1, c2, c3, c4, c5, c6⟩ := c
  subst hl
  have e1 : (ar ++ rest).take ar.length = ar := List.take_left
  have e2 : (ar ++ rest).drop ar.length = rest := List.drop_left
  exact rl_call1 hd hm ⟨c1, c2, c3, by rw [c4, List.length_append]; omega, by rw [c4, e2]; exact hw, by rw [c4, e1, c5]; exact hw2⟩ (by rw [c4, e1]; exact ha) (by rw [c4, e2]) (by rw [c6]; exact hb)
theorem rk_call2 {i k' x p b na ml : Nat} {ar as rest : List Value} (hd : decode (ez_code k) pc = .ok (.invokespecial i, 3)) (hm : ez_mk k i = some (k', x, p)) (c : ¬ k' = 9000 ∧ k' < 159 ∧ ez_kd k' = 2 ∧ ez_dep k' < ez_dep k ∧ ez_na k' = na ∧ ez_ml k' = ml) (hl : ar.length = na) (ha : ar.reverse = .ref b :: as) (hw : ez_w rest ≤ 8) (hw2 : ez_w ar ≤ ml) : ez_rn g k pc ls (ar ++ rest) h = ez_bd g k (pc + 3) ls rest (ez_ev g k' (.ref b :: as) h) := by
  obtain ⟨c0, c1, c2, c3, c4, c5⟩ := c
  subst hl
  have e1 : (ar ++ rest).take ar.length = ar := List.take_left
  have e2 : (ar ++ rest).drop ar.length = rest := List.drop_left
  exact rl_call2 hd hm c0 ⟨c1, c2, c3, by rw [c4, List.length_append]; omega, by rw [c4, e2]; exact hw, by rw [c4, e1, c5]; exact hw2⟩ (by rw [c4, e1]; exact ha) (by rw [c4, e2])
end ZQ
/-! The reference's object: its ints by slot, its arrays by slot. -/
abbrev md_S : Type := (Nat → Int32) × (Nat → Nat → Int32)
def md_sI (z : md_S) (s : Nat) (v : Int32) : md_S := (va_up z.1 s v, z.2)
def md_sA (z : md_S) (s i : Nat) (v : Int32) : md_S := (z.1, va_up z.2 s (upd (z.2 s) i v))
def md_fs (m : Nat) (z : md_S) : List Value := [.int (z.1 0), .int (z.1 1), .int (z.1 2), .int (z.1 3), .int (z.1 4), .int (z.1 5), .int (z.1 6), .ref (m + 1), .ref (m + 2), .ref (m + 3), .ref (m + 4), .ref (m + 5), .ref (m + 6), .ref (m + 7), .ref (m + 8), .ref (m + 9), .ref (m + 10), .ref (m + 11), .ref (m + 12), .ref (m + 13), .ref (m + 14), .ref (m + 15), .ref (m + 16), .ref (m + 17), .ref (m + 18), .ref (m + 19), .ref (m + 20), .ref (m + 21), .ref (m + 22), .ref (m + 23), .ref (m + 24), .ref (m + 25), .ref (m + 26), .ref (m + 27), .ref (m + 28), .ref (m + 29), .int (z.1 36), .int (z.1 37), .int (z.1 38), .int (z.1 39), .int (z.1 40), .ref (m + 30), .ref (m + 31), .ref (m + 32), .ref (m + 33), .ref (m + 34), .ref (m + 35), .ref (m + 36), .ref (m + 37), .int (z.1 49), .int (z.1 50), .ref (m + 38), .ref (m + 39)]
def md_ar : List (Nat × Nat × Nat) := [(7, 0, 20), (8, 0, 32), (9, 0, 40), (10, 0, 40), (11, 0, 40), (12, 0, 150), (13, 0, 150), (14, 0, 150), (15, 0, 150), (16, 0, 150), (17, 0, 150), (18, 0, 150), (19, 0, 150), (20, 0, 150), (21, 0, 150), (22, 2, 150), (23, 0, 4), (24, 0, 4), (25, 2, 20), (26, 2, 20), (27, 0, 400), (28, 0, 40), (29, 0, 40), (30, 2, 40), (31, 0, 200), (32, 0, 200), (33, 0, 200), (34, 1, 600), (35, 1, 600), (41, 0, 21), (42, 0, 21), (43, 2, 21), (44, 0, 336), (45, 0, 336), (46, 0, 336), (47, 0, 1008), (48, 0, 1008), (51, 0, 20), (52, 2, 20)]
def md_ce (z : md_S) (j : Nat) : Option ez_E := match md_ar[j]? with
  | some (s, t, n) => some (.inl (t, n, .inl (z.2 s)))
  | none => none
def md_h (h0 : ez_H) (m : Nat) (z : md_S) : ez_H := (fun q => if q = m then some (.inr (10, md_fs m z)) else if m < q ∧ q ≤ m + 39 then md_ce z (q - m - 1) else h0.1 q, h0.2)
def md_in (i : Int32) (n : Nat) : Bool := decide (¬ i < 0) && decide (i.toNatClampNeg < n)
section ZQ2
variable {g : ez_G} {k pc : Nat} {ls : ez_L} {st r : List Value} {h0 : ez_H} {m : Nat} {z : md_S}
theorem md_h0 : (md_h h0 m z).1 m = some (.inr (10, md_fs m z)) := if_pos rfl
theorem md_hj {j s t n : Nat} (hj : md_ar[j]? = some (s, t, n)) : (md_h h0 m z).1 (m + (j + 1)) = some (.inl (t, n, .inl (z.2 s))) := by
  have hl : j < 39 := (List.getElem?_eq_some_iff.mp hj).1
  show (if m + (j + 1) = m then _ else if m < m + (j + 1) ∧ m + (j + 1) ≤ m + 39 then _ else _) = _
  rw [if_neg (by omega), if_pos (by omega)]
  unfold md_ce
  rw [show m + (j + 1) - m - 1 = j by omega, hj]
theorem md_set0 {z' : md_S} {fs : List Value} (hfs : fs = md_fs m z') (hz : z'.2 = z.2) : ez_hs (md_h h0 m z) m (.inr (10, fs)) = md_h h0 m z' := by
  subst hfs
  unfold ez_hs md_h md_ce
  rw [hz]
  refine Prod.ext ?_ rfl
  funext q
  by_cases hq : q = m
  · simp only [hq, if_true]
  · simp only [hq, if_false]
theorem md_nd : ∀ i, i < 39 → ∀ j, j < 39 → i ≠ j → (md_ar.getD i (0, 0, 0)).1 ≠ (md_ar.getD j (0, 0, 0)).1 := by decide +kernel
theorem md_setj {j s t n i : Nat} {v : Int32} (hj : md_ar[j]? = some (s, t, n)) : ez_hs (md_h h0 m z) (m + (j + 1)) (.inl (t, n, .inl (upd (z.2 s) i v))) = md_h h0 m (md_sA z s i v) := by
  have hl : j < 39 := (List.getElem?_eq_some_iff.mp hj).1
  unfold ez_hs
  refine Prod.ext ?_ rfl
  funext q
  show (if q = m + (j + 1) then _ else (md_h h0 m z).1 q) = (md_h h0 m (md_sA z s i v)).1 q
  by_cases hq : q = m + (j + 1)
  · subst hq
    rw [if_pos rfl, md_hj hj]
    show _ = some (Sum.inl (t, n, Sum.inl (va_up z.2 s (upd (z.2 s) i v) s)))
    rw [va_up_self]
  · rw [if_neg hq]
    unfold md_h
    dsimp only
    by_cases h1 : q = m
    · rw [if_pos h1, if_pos h1]
      rfl
    · rw [if_neg h1, if_neg h1]
      by_cases h2 : m < q ∧ q ≤ m + 39
      · rw [if_pos h2, if_pos h2]
        unfold md_ce
        cases hx : md_ar[q - m - 1]? with
        | none => rfl
        | some y =>
          obtain ⟨s2, t2, n2⟩ := y
          have hl2 : q - m - 1 < 39 := (List.getElem?_eq_some_iff.mp hx).1
          have hne := md_nd (q - m - 1) hl2 j hl (by omega)
          rw [List.getD_eq_getElem?_getD, List.getD_eq_getElem?_getD, hx, hj] at hne
          have hne : s2 ≠ s := hne
          show some (Sum.inl (t2, n2, Sum.inl (z.2 s2))) = some (Sum.inl (t2, n2, Sum.inl (va_up z.2 s (upd (z.2 s) i v) s2)))
          rw [va_up_ne _ _ hne]
      · rw [if_neg h2, if_neg h2]
theorem mr_get {i s tk p : Nat} {v : Value} (hd : decode (ez_code k) pc = .ok (.getfield i, 3)) (hf : ez_fl k i = some (10, s, tk, p)) (hs : s < 53) (hv : (md_fs m z)[s]? = some v) : ez_rn g k pc ls (.ref m :: r) (md_h h0 m z) = ez_rn g k (pc + 3) ls (v :: r) (md_h h0 m z) := by
  have h1 := rl_getfield (g := g) (ls := ls) (r := r) (h := md_h h0 m z) (a := m) hd hf (by decide) (by rw [md_h0]; show (10 == 10 && decide (s < 53)) = true; rw [decide_eq_true hs]; rfl)
  rw [h1, md_h0]
  show ez_rn g k (pc + 3) ls ((md_fs m z).getD s .null :: r) _ = _
  rw [List.getD_eq_getElem?_getD, hv]
  rfl
theorem mr_put {i s p : Nat} {x : Int32} (hd : decode (ez_code k) pc = .ok (.putfield i, 3)) (hf : ez_fl k i = some (10, s, 0, p)) (hs : s < 53) (hfn : ez_fn 10 s = true → ez_kd k = 2 ∧ ez_ow k = 10) (hv : (md_fs m z).set s (.int x) = md_fs m (md_sI z s x)) : ez_rn g k pc ls (.int x :: .ref m :: r) (md_h h0 m z) = ez_rn g k (pc + 3) ls r (md_h h0 m (md_sI z s x)) := by
  have h1 := rl_putfield (g := g) (ls := ls) (r := r) (h := md_h h0 m z) (a := m) (v := .int x) hd hf (by decide) hfn (by rw [md_h0]; show (10 == 10 && decide (s < 53)) = true; rw [decide_eq_true hs]; rfl) rfl
  rw [h1, md_h0]
  congr 1
  exact md_set0 hv rfl
theorem md_inA {j s t n : Nat} {i : Int32} (hj : md_ar[j]? = some (s, t, n)) (hi : md_in i n = true) : ez_isA ((md_h h0 m z).1 (m + (j + 1))) t i = true ∧ ez_isW ((md_h h0 m z).1 (m + (j + 1))) t i = true := by
  rw [md_hj hj]
  unfold md_in at hi
  constructor
  · show ((t == t || t == t + 10) && _) = true
    rw [hi]
    simp
  · show (t == t && _) = true
    rw [hi]
    simp
theorem mr_iald {j s n : Nat} {i : Int32} (hd : decode (ez_code k) pc = .ok (.iaload, 1)) (hj : md_ar[j]? = some (s, 0, n)) (hi : md_in i n = true) : ez_rn g k pc ls (.int i :: .ref (m + (j + 1)) :: r) (md_h h0 m z) = ez_rn g k (pc + 1) ls (.int (z.2 s i.toNatClampNeg) :: r) (md_h h0 m z) := by
  rw [rl_iaload hd (md_inA hj hi).1, md_hj hj]
  rfl
theorem mr_bald {j s t n : Nat} {i : Int32} (hd : decode (ez_code k) pc = .ok (.baload, 1)) (hj : md_ar[j]? = some (s, t, n)) (ht : t = 1 ∨ t = 2) (hi : md_in i n = true) : ez_rn g k pc ls (.int i :: .ref (m + (j + 1)) :: r) (md_h h0 m z) = ez_rn g k (pc + 1) ls (.int (z.2 s i.toNatClampNeg) :: r) (md_h h0 m z) := by
  rw [rl_baload hd (by rcases ht with rfl | rfl <;> rw [(md_inA hj hi).1] <;> simp), md_hj hj]
  rfl
theorem mr_iast {j s n : Nat} {i x : Int32} (hd : decode (ez_code k) pc = .ok (.iastore, 1)) (hj : md_ar[j]? = some (s, 0, n)) (hi : md_in i n = true) : ez_rn g k pc ls (.int x :: .int i :: .ref (m + (j + 1)) :: r) (md_h h0 m z) = ez_rn g k (pc + 1) ls r (md_h h0 m (md_sA z s i.toNatClampNeg x)) := by
  rw [rl_iastore hd (md_inA hj hi).2, md_hj hj, ← md_setj hj]
  rfl
theorem mr_bast {j s n : Nat} {i x : Int32} (hd : decode (ez_code k) pc = .ok (.bastore, 1)) (hj : md_ar[j]? = some (s, 1, n)) (hi : md_in i n = true) : ez_rn g k pc ls (.int x :: .int i :: .ref (m + (j + 1)) :: r) (md_h h0 m z) = ez_rn g k (pc + 1) ls r (md_h h0 m (md_sA z s i.toNatClampNeg x.toInt8.toInt32)) := by
  rw [rl_bastore1 hd (md_inA hj hi).2, md_hj hj, ← md_setj hj]
  rfl
theorem mr_zast {j s n : Nat} {i x : Int32} (hd : decode (ez_code k) pc = .ok (.bastore, 1)) (hj : md_ar[j]? = some (s, 2, n)) (hi : md_in i n = true) : ez_rn g k pc ls (.int x :: .int i :: .ref (m + (j + 1)) :: r) (md_h h0 m z) = ez_rn g k (pc + 1) ls r (md_h h0 m (md_sA z s i.toNatClampNeg (vp_nar .boolean x))) := by
  rw [rl_bastore2 hd (by rw [md_hj hj]; rfl) (md_inA hj hi).2, md_hj hj, ← md_setj hj]
  rfl
theorem md_rc : ez_rc g (md_h h0 m z) m 10 = true := by
  unfold ez_rc
  rw [if_neg (by decide), md_h0]
  rfl
end ZQ2
