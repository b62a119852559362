abbrev xR : Type := Nat × Nat × Nat
abbrev xP : Type := Nat × (Nat → xR) × (xR → Nat) × (xR → Nat)
/-- what a list holds -/
def xel (L i v : Nat) : xR := match L with
  | 0 => (7, v, 0)
  | 1 => (6, v, 0)
  | 2 => (5, v, 0)
  | 3 => (10, v, 0)
  | 4 => (12, v, 0)
  | 5 => (8, i, 2 * v)
  | 6 => (8, i, 2 * v + 1)
  | 7 => (12, v, 0)
  | _ => (13, i, v)
def xln (k : Nat) : Nat := match k with
  | 1 => 20
  | 3 => 32
  | _ => 4
def xrf (P : xP) (L i : Nat) (f : Nat → Int32) : Nat → Option Nat := fun q => if f q = -1 then none else some (P.2.2.1 (xel L i (f q).toNatClampNeg))
/-- what lies at a role -/
def ce (P : xP) (r : xR) (f : Nat → Int32) : Option ez_E := match r with
  | (1, i, j) => some (.inr (9, [.int (f 0), .ref (P.2.2.1 (2, 1, 0)), .int (f 2), .ref (P.2.2.1 (2, 3, 0)), .ref (P.2.2.1 (16, 0, 0)), .int (f 5), .int (f 6), .ref (P.2.2.1 (3, 0, 0)), .ref (P.2.2.1 (3, 1, 0)), .ref (P.2.2.1 (3, 2, 0)), .ref (P.2.2.1 (2, 10, 0)), .ref (P.2.2.1 (2, 11, 0)), .ref (P.2.2.1 (3, 3, 0)), .ref (P.2.2.1 (3, 4, 0)), .int (f 14)]))
  | (3, i, j) => some (.inr (0, [.int (f 0), .ref (if P.2.2.2 (3, i, j) = 0 then P.1 else P.2.2.1 (4, i, j)), .int (f 2)]))
  | (5, i, j) => some (.inr (5, [.int (f 0), .int (f 1), .int (f 2), .int (f 3), .int (f 4), .int (f 5), .int (f 6), .int (f 7), .int (f 8), .int (f 9), .int (f 10), .int (f 11), .int (f 12)]))
  | (6, i, j) => some (.inr (3, [.int (f 0), .int (f 1), .int (f 2)]))
  | (7, i, j) => some (.inr (8, [.int (f 0), .int (f 1), .int (f 2), .int (f 3), .ref (P.2.2.1 (3, 5, i)), .ref (P.2.2.1 (3, 6, i))]))
  | (8, i, j) => some (.inr (1, [.int (f 0), .ref (P.2.2.1 (9, i, j))]))
  | (10, i, j) => some (.inr (2, [.int (f 0), .int (f 1), .int (f 2), .ref (P.2.2.1 (3, 7, i)), .ref (P.2.2.1 (11, i, 0))]))
  | (12, i, j) => some (.inr (7, [.ref (P.2.2.1 (10, (f 0).toNatClampNeg, 0)), .int (f 1), .int (f 2), .int (f 3), .ref (P.2.2.1 (3, 8, i))]))
  | (13, i, j) => some (.inr (4, [.ref (P.2.2.1 (5, (f 0).toNatClampNeg, 0)), .int (f 1)]))
  | (14, i, j) => some (.inr (6, [.ref (P.2.2.1 (16, 0, 0)), .int (f 1), .int (f 2), .int (f 3)]))
  | (2, i, _) => some (.inl (0, xln i, .inl f))
  | (4, i, j) => some (.inl (4, P.2.2.2 (3, i, j), .inr (.inr (.inr (.inr (xrf P i j f))))))
  | (9, _, _) => some (.inl (0, 3, .inl f))
  | (11, _, _) => some (.inl (0, 20, .inl f))
  | (15, _, _) => some (.inl (0, 20, .inl f))
  | (16, _, _) => some (.inl (1, 600, .inl f))
  | _ => none
def xh (h0 : ez_H) (P : xP) (c : xR → Nat → Int32) : ez_H := (fun q => if (P.2.1 q).1 = 0 then h0.1 q else ce P (P.2.1 q) (c (P.2.1 q)), h0.2)
def lv (P : xP) (r : xR) : Prop := P.2.1 (P.2.2.1 r) = r
def xok (P : xP) : Prop := ∀ q, (P.2.1 q).1 ≠ 0 → P.2.2.1 (P.2.1 q) = q
def xu (c : xR → Nat → Int32) (r : xR) (s : Nat) (v : Int32) : xR → Nat → Int32 := fun r' => if r' = r then upd (c r) s v else c r'
section CL
variable {g : ez_G} {h0 : ez_H} {P : xP} {c : xR → Nat → Int32}
theorem xh_at {r : xR} (hl : lv P r) (hr : r.1 ≠ 0) : (xh h0 P c).1 (P.2.2.1 r) = ce P r (c r) := by
  unfold xh
  dsimp only
  rw [show P.2.1 (P.2.2.1 r) = r from hl, if_neg hr]
theorem xh_set {r : xR} {e : ez_E} {f : Nat → Int32} (ok : xok P) (hl : lv P r) (hr : r.1 ≠ 0) (he : ce P r f = some e) : ez_hs (xh h0 P c) (P.2.2.1 r) e = xh h0 P (fun r' => if r' = r then f else c r') := by
  unfold ez_hs xh
  refine Prod.ext ?_ rfl
  funext q
  dsimp only
  by_cases hq : q = P.2.2.1 r
  · subst hq
    rw [if_pos rfl, show P.2.1 (P.2.2.1 r) = r from hl, if_neg hr, if_pos rfl, he]
  · rw [if_neg hq]
    by_cases h1 : (P.2.1 q).1 = 0
    · rw [if_pos h1, if_pos h1]
    · rw [if_neg h1, if_neg h1]
      have h2 : P.2.1 q ≠ r := fun e => hq (by rw [← e, ok q h1])
      rw [if_neg h2]
theorem xh_out {q : Nat} {e : ez_E} (hq : (P.2.1 q).1 = 0) : ez_hs (xh h0 P c) q e = xh (ez_hs h0 q e) P c := by
  unfold ez_hs xh
  refine Prod.ext ?_ rfl
  funext x
  dsimp only
  by_cases hx : x = q
  · subst hx
    rw [if_pos rfl, if_pos hq, if_pos rfl]
  · rw [if_neg hx, if_neg hx]
theorem xh_o {q : Nat} (hq : (P.2.1 q).1 = 0) : (xh h0 P c).1 q = h0.1 q := if_pos hq
theorem xh_2 : (xh h0 P c).2 = h0.2 := id rfl
theorem xu_s {r : xR} {s t : Nat} {v : Int32} : xu c r s v r t = if t = s then v else c r t := by
  unfold xu
  rw [if_pos rfl]
  rfl
theorem xu_n {r r' : xR} {s : Nat} {v : Int32} (h : r' ≠ r) : xu c r s v r' = c r' := if_neg h
theorem xu_2 {r : xR} {s : Nat} {v w : Int32} : xu (xu c r s v) r s w = xu c r s w := by
  unfold xu
  funext r'
  by_cases h : r' = r
  · simp only [h, if_true]
    funext t
    unfold upd
    split <;> rfl
  · simp only [h, if_false]
theorem xu_self {r : xR} {s : Nat} {v : Int32} (h : c r s = v) : xu c r s v = c := by
  subst h
  unfold xu
  funext r'
  split
  · next e =>
    subst e
    funext t
    unfold upd
    split
    · next e => rw [e]
    · rfl
  · rfl
theorem ok10 : ez_ok 1 (.int 0) = true := id rfl
theorem ok11 : ez_ok 1 (.int 1) = true := id rfl
theorem ok1i {p : Prop} {d : Decidable p} : ez_ok 1 (.int (@ite _ p d 1 0)) = true := by
  by_cases h : p
  · rw [if_pos h]; rfl
  · rw [if_neg h]; rfl
theorem xo1 {i j : Nat} (hl : lv P (1, i, j)) : ez_isO ((xh h0 P c).1 (P.2.2.1 (1, i, j))) 9 = true := by rw [xh_at hl (show 1 ≠ 0 by decide)]; rfl
theorem xa1 {i j : Nat} (hl : lv P (1, i, j)) : ez_any ((xh h0 P c).1 (P.2.2.1 (1, i, j))) = true := by rw [xh_at hl (show 1 ≠ 0 by decide)]; rfl
theorem xf1_0 {i j : Nat} (hl : lv P (1, i, j)) : ez_isF ((xh h0 P c).1 (P.2.2.1 (1, i, j))) 9 0 = true := by rw [xh_at hl (show 1 ≠ 0 by decide)]; rfl
theorem xv1_0 {i j : Nat} (hl : lv P (1, i, j)) : ez_vF ((xh h0 P c).1 (P.2.2.1 (1, i, j))) 0 = .int (c (1, i, j) 0) := by rw [xh_at hl (show 1 ≠ 0 by decide)]; rfl
theorem xp1_0 {i j : Nat} {v : Int32} (ok : xok P) (hl : lv P (1, i, j)) : ez_hs (xh h0 P c) (P.2.2.1 (1, i, j)) (ez_uF ((xh h0 P c).1 (P.2.2.1 (1, i, j))) 0 (.int v)) = xh h0 P (xu c (1, i, j) 0 v) := by rw [xh_at hl (show 1 ≠ 0 by decide)]; exact xh_set (f := upd (c (1, i, j)) 0 v) ok hl (show 1 ≠ 0 by decide) rfl
theorem xf1_1 {i j : Nat} (hl : lv P (1, i, j)) : ez_isF ((xh h0 P c).1 (P.2.2.1 (1, i, j))) 9 1 = true := by rw [xh_at hl (show 1 ≠ 0 by decide)]; rfl
theorem xv1_1 {i j : Nat} (hl : lv P (1, i, j)) : ez_vF ((xh h0 P c).1 (P.2.2.1 (1, i, j))) 1 = .ref (P.2.2.1 (2, 1, 0)) := by rw [xh_at hl (show 1 ≠ 0 by decide)]; rfl
theorem xf1_2 {i j : Nat} (hl : lv P (1, i, j)) : ez_isF ((xh h0 P c).1 (P.2.2.1 (1, i, j))) 9 2 = true := by rw [xh_at hl (show 1 ≠ 0 by decide)]; rfl
theorem xv1_2 {i j : Nat} (hl : lv P (1, i, j)) : ez_vF ((xh h0 P c).1 (P.2.2.1 (1, i, j))) 2 = .int (c (1, i, j) 2) := by rw [xh_at hl (show 1 ≠ 0 by decide)]; rfl
theorem xp1_2 {i j : Nat} {v : Int32} (ok : xok P) (hl : lv P (1, i, j)) : ez_hs (xh h0 P c) (P.2.2.1 (1, i, j)) (ez_uF ((xh h0 P c).1 (P.2.2.1 (1, i, j))) 2 (.int v)) = xh h0 P (xu c (1, i, j) 2 v) := by rw [xh_at hl (show 1 ≠ 0 by decide)]; exact xh_set (f := upd (c (1, i, j)) 2 v) ok hl (show 1 ≠ 0 by decide) rfl
theorem xf1_3 {i j : Nat} (hl : lv P (1, i, j)) : ez_isF ((xh h0 P c).1 (P.2.2.1 (1, i, j))) 9 3 = true := by rw [xh_at hl (show 1 ≠ 0 by decide)]; rfl
theorem xv1_3 {i j : Nat} (hl : lv P (1, i, j)) : ez_vF ((xh h0 P c).1 (P.2.2.1 (1, i, j))) 3 = .ref (P.2.2.1 (2, 3, 0)) := by rw [xh_at hl (show 1 ≠ 0 by decide)]; rfl
theorem xf1_4 {i j : Nat} (hl : lv P (1, i, j)) : ez_isF ((xh h0 P c).1 (P.2.2.1 (1, i, j))) 9 4 = true := by rw [xh_at hl (show 1 ≠ 0 by decide)]; rfl
theorem xv1_4 {i j : Nat} (hl : lv P (1, i, j)) : ez_vF ((xh h0 P c).1 (P.2.2.1 (1, i, j))) 4 = .ref (P.2.2.1 (16, 0, 0)) := by rw [xh_at hl (show 1 ≠ 0 by decide)]; rfl
theorem xf1_5 {i j : Nat} (hl : lv P (1, i, j)) : ez_isF ((xh h0 P c).1 (P.2.2.1 (1, i, j))) 9 5 = true := by rw [xh_at hl (show 1 ≠ 0 by decide)]; rfl
theorem xv1_5 {i j : Nat} (hl : lv P (1, i, j)) : ez_vF ((xh h0 P c).1 (P.2.2.1 (1, i, j))) 5 = .int (c (1, i, j) 5) := by rw [xh_at hl (show 1 ≠ 0 by decide)]; rfl
theorem xp1_5 {i j : Nat} {v : Int32} (ok : xok P) (hl : lv P (1, i, j)) : ez_hs (xh h0 P c) (P.2.2.1 (1, i, j)) (ez_uF ((xh h0 P c).1 (P.2.2.1 (1, i, j))) 5 (.int v)) = xh h0 P (xu c (1, i, j) 5 v) := by rw [xh_at hl (show 1 ≠ 0 by decide)]; exact xh_set (f := upd (c (1, i, j)) 5 v) ok hl (show 1 ≠ 0 by decide) rfl
theorem xf1_6 {i j : Nat} (hl : lv P (1, i, j)) : ez_isF ((xh h0 P c).1 (P.2.2.1 (1, i, j))) 9 6 = true := by rw [xh_at hl (show 1 ≠ 0 by decide)]; rfl
theorem xv1_6 {i j : Nat} (hl : lv P (1, i, j)) : ez_vF ((xh h0 P c).1 (P.2.2.1 (1, i, j))) 6 = .int (c (1, i, j) 6) := by rw [xh_at hl (show 1 ≠ 0 by decide)]; rfl
theorem xp1_6 {i j : Nat} {v : Int32} (ok : xok P) (hl : lv P (1, i, j)) : ez_hs (xh h0 P c) (P.2.2.1 (1, i, j)) (ez_uF ((xh h0 P c).1 (P.2.2.1 (1, i, j))) 6 (.int v)) = xh h0 P (xu c (1, i, j) 6 v) := by rw [xh_at hl (show 1 ≠ 0 by decide)]; exact xh_set (f := upd (c (1, i, j)) 6 v) ok hl (show 1 ≠ 0 by decide) rfl
theorem xf1_7 {i j : Nat} (hl : lv P (1, i, j)) : ez_isF ((xh h0 P c).1 (P.2.2.1 (1, i, j))) 9 7 = true := by rw [xh_at hl (show 1 ≠ 0 by decide)]; rfl
theorem xv1_7 {i j : Nat} (hl : lv P (1, i, j)) : ez_vF ((xh h0 P c).1 (P.2.2.1 (1, i, j))) 7 = .ref (P.2.2.1 (3, 0, 0)) := by rw [xh_at hl (show 1 ≠ 0 by decide)]; rfl
theorem xf1_8 {i j : Nat} (hl : lv P (1, i, j)) : ez_isF ((xh h0 P c).1 (P.2.2.1 (1, i, j))) 9 8 = true := by rw [xh_at hl (show 1 ≠ 0 by decide)]; rfl
theorem xv1_8 {i j : Nat} (hl : lv P (1, i, j)) : ez_vF ((xh h0 P c).1 (P.2.2.1 (1, i, j))) 8 = .ref (P.2.2.1 (3, 1, 0)) := by rw [xh_at hl (show 1 ≠ 0 by decide)]; rfl
theorem xf1_9 {i j : Nat} (hl : lv P (1, i, j)) : ez_isF ((xh h0 P c).1 (P.2.2.1 (1, i, j))) 9 9 = true := by rw [xh_at hl (show 1 ≠ 0 by decide)]; rfl
theorem xv1_9 {i j : Nat} (hl : lv P (1, i, j)) : ez_vF ((xh h0 P c).1 (P.2.2.1 (1, i, j))) 9 = .ref (P.2.2.1 (3, 2, 0)) := by rw [xh_at hl (show 1 ≠ 0 by decide)]; rfl
theorem xf1_10 {i j : Nat} (hl : lv P (1, i, j)) : ez_isF ((xh h0 P c).1 (P.2.2.1 (1, i, j))) 9 10 = true := by rw [xh_at hl (show 1 ≠ 0 by decide)]; rfl
theorem xv1_10 {i j : Nat} (hl : lv P (1, i, j)) : ez_vF ((xh h0 P c).1 (P.2.2.1 (1, i, j))) 10 = .ref (P.2.2.1 (2, 10, 0)) := by rw [xh_at hl (show 1 ≠ 0 by decide)]; rfl
theorem xf1_11 {i j : Nat} (hl : lv P (1, i, j)) : ez_isF ((xh h0 P c).1 (P.2.2.1 (1, i, j))) 9 11 = true := by rw [xh_at hl (show 1 ≠ 0 by decide)]; rfl
theorem xv1_11 {i j : Nat} (hl : lv P (1, i, j)) : ez_vF ((xh h0 P c).1 (P.2.2.1 (1, i, j))) 11 = .ref (P.2.2.1 (2, 11, 0)) := by rw [xh_at hl (show 1 ≠ 0 by decide)]; rfl
theorem xf1_12 {i j : Nat} (hl : lv P (1, i, j)) : ez_isF ((xh h0 P c).1 (P.2.2.1 (1, i, j))) 9 12 = true := by rw [xh_at hl (show 1 ≠ 0 by decide)]; rfl
theorem xv1_12 {i j : Nat} (hl : lv P (1, i, j)) : ez_vF ((xh h0 P c).1 (P.2.2.1 (1, i, j))) 12 = .ref (P.2.2.1 (3, 3, 0)) := by rw [xh_at hl (show 1 ≠ 0 by decide)]; rfl
theorem xf1_13 {i j : Nat} (hl : lv P (1, i, j)) : ez_isF ((xh h0 P c).1 (P.2.2.1 (1, i, j))) 9 13 = true := by rw [xh_at hl (show 1 ≠ 0 by decide)]; rfl
theorem xv1_13 {i j : Nat} (hl : lv P (1, i, j)) : ez_vF ((xh h0 P c).1 (P.2.2.1 (1, i, j))) 13 = .ref (P.2.2.1 (3, 4, 0)) := by rw [xh_at hl (show 1 ≠ 0 by decide)]; rfl
theorem xf1_14 {i j : Nat} (hl : lv P (1, i, j)) : ez_isF ((xh h0 P c).1 (P.2.2.1 (1, i, j))) 9 14 = true := by rw [xh_at hl (show 1 ≠ 0 by decide)]; rfl
theorem xv1_14 {i j : Nat} (hl : lv P (1, i, j)) : ez_vF ((xh h0 P c).1 (P.2.2.1 (1, i, j))) 14 = .int (c (1, i, j) 14) := by rw [xh_at hl (show 1 ≠ 0 by decide)]; rfl
theorem xp1_14 {i j : Nat} {v : Int32} (ok : xok P) (hl : lv P (1, i, j)) : ez_hs (xh h0 P c) (P.2.2.1 (1, i, j)) (ez_uF ((xh h0 P c).1 (P.2.2.1 (1, i, j))) 14 (.int v)) = xh h0 P (xu c (1, i, j) 14 v) := by rw [xh_at hl (show 1 ≠ 0 by decide)]; exact xh_set (f := upd (c (1, i, j)) 14 v) ok hl (show 1 ≠ 0 by decide) rfl
theorem xo3 {i j : Nat} (hl : lv P (3, i, j)) : ez_isO ((xh h0 P c).1 (P.2.2.1 (3, i, j))) 0 = true := by rw [xh_at hl (show 3 ≠ 0 by decide)]; rfl
theorem xa3 {i j : Nat} (hl : lv P (3, i, j)) : ez_any ((xh h0 P c).1 (P.2.2.1 (3, i, j))) = true := by rw [xh_at hl (show 3 ≠ 0 by decide)]; rfl
theorem xf3_0 {i j : Nat} (hl : lv P (3, i, j)) : ez_isF ((xh h0 P c).1 (P.2.2.1 (3, i, j))) 0 0 = true := by rw [xh_at hl (show 3 ≠ 0 by decide)]; rfl
theorem xv3_0 {i j : Nat} (hl : lv P (3, i, j)) : ez_vF ((xh h0 P c).1 (P.2.2.1 (3, i, j))) 0 = .int (c (3, i, j) 0) := by rw [xh_at hl (show 3 ≠ 0 by decide)]; rfl
theorem xp3_0 {i j : Nat} {v : Int32} (ok : xok P) (hl : lv P (3, i, j)) : ez_hs (xh h0 P c) (P.2.2.1 (3, i, j)) (ez_uF ((xh h0 P c).1 (P.2.2.1 (3, i, j))) 0 (.int v)) = xh h0 P (xu c (3, i, j) 0 v) := by rw [xh_at hl (show 3 ≠ 0 by decide)]; exact xh_set (f := upd (c (3, i, j)) 0 v) ok hl (show 3 ≠ 0 by decide) rfl
theorem xf3_1 {i j : Nat} (hl : lv P (3, i, j)) : ez_isF ((xh h0 P c).1 (P.2.2.1 (3, i, j))) 0 1 = true := by rw [xh_at hl (show 3 ≠ 0 by decide)]; rfl
theorem xv3_1 {i j : Nat} (hl : lv P (3, i, j)) : ez_vF ((xh h0 P c).1 (P.2.2.1 (3, i, j))) 1 = .ref (if P.2.2.2 (3, i, j) = 0 then P.1 else P.2.2.1 (4, i, j)) := by rw [xh_at hl (show 3 ≠ 0 by decide)]; rfl
theorem xf3_2 {i j : Nat} (hl : lv P (3, i, j)) : ez_isF ((xh h0 P c).1 (P.2.2.1 (3, i, j))) 0 2 = true := by rw [xh_at hl (show 3 ≠ 0 by decide)]; rfl
theorem xv3_2 {i j : Nat} (hl : lv P (3, i, j)) : ez_vF ((xh h0 P c).1 (P.2.2.1 (3, i, j))) 2 = .int (c (3, i, j) 2) := by rw [xh_at hl (show 3 ≠ 0 by decide)]; rfl
theorem xp3_2 {i j : Nat} {v : Int32} (ok : xok P) (hl : lv P (3, i, j)) : ez_hs (xh h0 P c) (P.2.2.1 (3, i, j)) (ez_uF ((xh h0 P c).1 (P.2.2.1 (3, i, j))) 2 (.int v)) = xh h0 P (xu c (3, i, j) 2 v) := by rw [xh_at hl (show 3 ≠ 0 by decide)]; exact xh_set (f := upd (c (3, i, j)) 2 v) ok hl (show 3 ≠ 0 by decide) rfl
theorem xo5 {i j : Nat} (hl : lv P (5, i, j)) : ez_isO ((xh h0 P c).1 (P.2.2.1 (5, i, j))) 5 = true := by rw [xh_at hl (show 5 ≠ 0 by decide)]; rfl
theorem xa5 {i j : Nat} (hl : lv P (5, i, j)) : ez_any ((xh h0 P c).1 (P.2.2.1 (5, i, j))) = true := by rw [xh_at hl (show 5 ≠ 0 by decide)]; rfl
theorem xf5_0 {i j : Nat} (hl : lv P (5, i, j)) : ez_isF ((xh h0 P c).1 (P.2.2.1 (5, i, j))) 5 0 = true := by rw [xh_at hl (show 5 ≠ 0 by decide)]; rfl
theorem xv5_0 {i j : Nat} (hl : lv P (5, i, j)) : ez_vF ((xh h0 P c).1 (P.2.2.1 (5, i, j))) 0 = .int (c (5, i, j) 0) := by rw [xh_at hl (show 5 ≠ 0 by decide)]; rfl
theorem xp5_0 {i j : Nat} {v : Int32} (ok : xok P) (hl : lv P (5, i, j)) : ez_hs (xh h0 P c) (P.2.2.1 (5, i, j)) (ez_uF ((xh h0 P c).1 (P.2.2.1 (5, i, j))) 0 (.int v)) = xh h0 P (xu c (5, i, j) 0 v) := by rw [xh_at hl (show 5 ≠ 0 by decide)]; exact xh_set (f := upd (c (5, i, j)) 0 v) ok hl (show 5 ≠ 0 by decide) rfl
theorem xf5_1 {i j : Nat} (hl : lv P (5, i, j)) : ez_isF ((xh h0 P c).1 (P.2.2.1 (5, i, j))) 5 1 = true := by rw [xh_at hl (show 5 ≠ 0 by decide)]; rfl
theorem xv5_1 {i j : Nat} (hl : lv P (5, i, j)) : ez_vF ((xh h0 P c).1 (P.2.2.1 (5, i, j))) 1 = .int (c (5, i, j) 1) := by rw [xh_at hl (show 5 ≠ 0 by decide)]; rfl
theorem xp5_1 {i j : Nat} {v : Int32} (ok : xok P) (hl : lv P (5, i, j)) : ez_hs (xh h0 P c) (P.2.2.1 (5, i, j)) (ez_uF ((xh h0 P c).1 (P.2.2.1 (5, i, j))) 1 (.int v)) = xh h0 P (xu c (5, i, j) 1 v) := by rw [xh_at hl (show 5 ≠ 0 by decide)]; exact xh_set (f := upd (c (5, i, j)) 1 v) ok hl (show 5 ≠ 0 by decide) rfl
theorem xf5_2 {i j : Nat} (hl : lv P (5, i, j)) : ez_isF ((xh h0 P c).1 (P.2.2.1 (5, i, j))) 5 2 = true := by rw [xh_at hl (show 5 ≠ 0 by decide)]; rfl
theorem xv5_2 {i j : Nat} (hl : lv P (5, i, j)) : ez_vF ((xh h0 P c).1 (P.2.2.1 (5, i, j))) 2 = .int (c (5, i, j) 2) := by rw [xh_at hl (show 5 ≠ 0 by decide)]; rfl
theorem xp5_2 {i j : Nat} {v : Int32} (ok : xok P) (hl : lv P (5, i, j)) : ez_hs (xh h0 P c) (P.2.2.1 (5, i, j)) (ez_uF ((xh h0 P c).1 (P.2.2.1 (5, i, j))) 2 (.int v)) = xh h0 P (xu c (5, i, j) 2 v) := by rw [xh_at hl (show 5 ≠ 0 by decide)]; exact xh_set (f := upd (c (5, i, j)) 2 v) ok hl (show 5 ≠ 0 by decide) rfl
theorem xf5_3 {i j : Nat} (hl : lv P (5, i, j)) : ez_isF ((xh h0 P c).1 (P.2.2.1 (5, i, j))) 5 3 = true := by rw [xh_at hl (show 5 ≠ 0 by decide)]; rfl
theorem xv5_3 {i j : Nat} (hl : lv P (5, i, j)) : ez_vF ((xh h0 P c).1 (P.2.2.1 (5, i, j))) 3 = .int (c (5, i, j) 3) := by rw [xh_at hl (show 5 ≠ 0 by decide)]; rfl
theorem xp5_3 {i j : Nat} {v : Int32} (ok : xok P) (hl : lv P (5, i, j)) : ez_hs (xh h0 P c) (P.2.2.1 (5, i, j)) (ez_uF ((xh h0 P c).1 (P.2.2.1 (5, i, j))) 3 (.int v)) = xh h0 P (xu c (5, i, j) 3 v) := by rw [xh_at hl (show 5 ≠ 0 by decide)]; exact xh_set (f := upd (c (5, i, j)) 3 v) ok hl (show 5 ≠ 0 by decide) rfl
theorem xf5_4 {i j : Nat} (hl : lv P (5, i, j)) : ez_isF ((xh h0 P c).1 (P.2.2.1 (5, i, j))) 5 4 = true := by rw [xh_at hl (show 5 ≠ 0 by decide)]; rfl
theorem xv5_4 {i j : Nat} (hl : lv P (5, i, j)) : ez_vF ((xh h0 P c).1 (P.2.2.1 (5, i, j))) 4 = .int (c (5, i, j) 4) := by rw [xh_at hl (show 5 ≠ 0 by decide)]; rfl
theorem xp5_4 {i j : Nat} {v : Int32} (ok : xok P) (hl : lv P (5, i, j)) : ez_hs (xh h0 P c) (P.2.2.1 (5, i, j)) (ez_uF ((xh h0 P c).1 (P.2.2.1 (5, i, j))) 4 (.int v)) = xh h0 P (xu c (5, i, j) 4 v) := by rw [xh_at hl (show 5 ≠ 0 by decide)]; exact xh_set (f := upd (c (5, i, j)) 4 v) ok hl (show 5 ≠ 0 by decide) rfl
theorem xf5_5 {i j : Nat} (hl : lv P (5, i, j)) : ez_isF ((xh h0 P c).1 (P.2.2.1 (5, i, j))) 5 5 = true := by rw [xh_at hl (show 5 ≠ 0 by decide)]; rfl
theorem xv5_5 {i j : Nat} (hl : lv P (5, i, j)) : ez_vF ((xh h0 P c).1 (P.2.2.1 (5, i, j))) 5 = .int (c (5, i, j) 5) := by rw [xh_at hl (show 5 ≠ 0 by decide)]; rfl
theorem xp5_5 {i j : Nat} {v : Int32} (ok : xok P) (hl : lv P (5, i, j)) : ez_hs (xh h0 P c) (P.2.2.1 (5, i, j)) (ez_uF ((xh h0 P c).1 (P.2.2.1 (5, i, j))) 5 (.int v)) = xh h0 P (xu c (5, i, j) 5 v) := by rw [xh_at hl (show 5 ≠ 0 by decide)]; exact xh_set (f := upd (c (5, i, j)) 5 v) ok hl (show 5 ≠ 0 by decide) rfl
theorem xf5_6 {i j : Nat} (hl : lv P (5, i, j)) : ez_isF ((xh h0 P c).1 (P.2.2.1 (5, i, j))) 5 6 = true := by rw [xh_at hl (show 5 ≠ 0 by decide)]; rfl
theorem xv5_6 {i j : Nat} (hl : lv P (5, i, j)) : ez_vF ((xh h0 P c).1 (P.2.2.1 (5, i, j))) 6 = .int (c (5, i, j) 6) := by rw [xh_at hl (show 5 ≠ 0 by decide)]; rfl
theorem xp5_6 {i j : Nat} {v : Int32} (ok : xok P) (hl : lv P (5, i, j)) : ez_hs (xh h0 P c) (P.2.2.1 (5, i, j)) (ez_uF ((xh h0 P c).1 (P.2.2.1 (5, i, j))) 6 (.int v)) = xh h0 P (xu c (5, i, j) 6 v) := by rw [xh_at hl (show 5 ≠ 0 by decide)]; exact xh_set (f := upd (c (5, i, j)) 6 v) ok hl (show 5 ≠ 0 by decide) rfl
theorem xf5_7 {i j : Nat} (hl : lv P (5, i, j)) : ez_isF ((xh h0 P c).1 (P.2.2.1 (5, i, j))) 5 7 = true := by rw [xh_at hl (show 5 ≠ 0 by decide)]; rfl
theorem xv5_7 {i j : Nat} (hl : lv P (5, i, j)) : ez_vF ((xh h0 P c).1 (P.2.2.1 (5, i, j))) 7 = .int (c (5, i, j) 7) := by rw [xh_at hl (show 5 ≠ 0 by decide)]; rfl
theorem xp5_7 {i j : Nat} {v : Int32} (ok : xok P) (hl : lv P (5, i, j)) : ez_hs (xh h0 P c) (P.2.2.1 (5, i, j)) (ez_uF ((xh h0 P c).1 (P.2.2.1 (5, i, j))) 7 (.int v)) = xh h0 P (xu c (5, i, j) 7 v) := by rw [xh_at hl (show 5 ≠ 0 by decide)]; exact xh_set (f := upd (c (5, i, j)) 7 v) ok hl (show 5 ≠ 0 by decide) rfl
theorem xf5_8 {i j : Nat} (hl : lv P (5, i, j)) : ez_isF ((xh h0 P c).1 (P.2.2.1 (5, i, j))) 5 8 = true := by rw [xh_at hl (show 5 ≠ 0 by decide)]; rfl
theorem xv5_8 {i j : Nat} (hl : lv P (5, i, j)) : ez_vF ((xh h0 P c).1 (P.2.2.1 (5, i, j))) 8 = .int (c (5, i, j) 8) := by rw [xh_at hl (show 5 ≠ 0 by decide)]; rfl
theorem xp5_8 {i j : Nat} {v : Int32} (ok : xok P) (hl : lv P (5, i, j)) : ez_hs (xh h0 P c) (P.2.2.1 (5, i, j)) (ez_uF ((xh h0 P c).1 (P.2.2.1 (5, i, j))) 8 (.int v)) = xh h0 P (xu c (5, i, j) 8 v) := by rw [xh_at hl (show 5 ≠ 0 by decide)]; exact xh_set (f := upd (c (5, i, j)) 8 v) ok hl (show 5 ≠ 0 by decide) rfl
theorem xf5_9 {i j : Nat} (hl : lv P (5, i, j)) : ez_isF ((xh h0 P c).1 (P.2.2.1 (5, i, j))) 5 9 = true := by rw [xh_at hl (show 5 ≠ 0 by decide)]; rfl
theorem xv5_9 {i j : Nat} (hl : lv P (5, i, j)) : ez_vF ((xh h0 P c).1 (P.2.2.1 (5, i, j))) 9 = .int (c (5, i, j) 9) := by rw [xh_at hl (show 5 ≠ 0 by decide)]; rfl
theorem xp5_9 {i j : Nat} {v : Int32} (ok : xok P) (hl : lv P (5, i, j)) : ez_hs (xh h0 P c) (P.2.2.1 (5, i, j)) (ez_uF ((xh h0 P c).1 (P.2.2.1 (5, i, j))) 9 (.int v)) = xh h0 P (xu c (5, i, j) 9 v) := by rw [xh_at hl (show 5 ≠ 0 by decide)]; exact xh_set (f := upd (c (5, i, j)) 9 v) ok hl (show 5 ≠ 0 by decide) rfl
theorem xf5_10 {i j : Nat} (hl : lv P (5, i, j)) : ez_isF ((xh h0 P c).1 (P.2.2.1 (5, i, j))) 5 10 = true := by rw [xh_at hl (show 5 ≠ 0 by decide)]; rfl
theorem xv5_10 {i j : Nat} (hl : lv P (5, i, j)) : ez_vF ((xh h0 P c).1 (P.2.2.1 (5, i, j))) 10 = .int (c (5, i, j) 10) := by rw [xh_at hl (show 5 ≠ 0 by decide)]; rfl
theorem xp5_10 {i j : Nat} {v : Int32} (ok : xok P) (hl : lv P (5, i, j)) : ez_hs (xh h0 P c) (P.2.2.1 (5, i, j)) (ez_uF ((xh h0 P c).1 (P.2.2.1 (5, i, j))) 10 (.int v)) = xh h0 P (xu c (5, i, j) 10 v) := by rw [xh_at hl (show 5 ≠ 0 by decide)]; exact xh_set (f := upd (c (5, i, j)) 10 v) ok hl (show 5 ≠ 0 by decide) rfl
theorem xf5_11 {i j : Nat} (hl : lv P (5, i, j)) : ez_isF ((xh h0 P c).1 (P.2.2.1 (5, i, j))) 5 11 = true := by rw [xh_at hl (show 5 ≠ 0 by decide)]; rfl
theorem xv5_11 {i j : Nat} (hl : lv P (5, i, j)) : ez_vF ((xh h0 P c).1 (P.2.2.1 (5, i, j))) 11 = .int (c (5, i, j) 11) := by rw [xh_at hl (show 5 ≠ 0 by decide)]; rfl
theorem xp5_11 {i j : Nat} {v : Int32} (ok : xok P) (hl : lv P (5, i, j)) : ez_hs (xh h0 P c) (P.2.2.1 (5, i, j)) (ez_uF ((xh h0 P c).1 (P.2.2.1 (5, i, j))) 11 (.int v)) = xh h0 P (xu c (5, i, j) 11 v) := by rw [xh_at hl (show 5 ≠ 0 by decide)]; exact xh_set (f := upd (c (5, i, j)) 11 v) ok hl (show 5 ≠ 0 by decide) rfl
theorem xf5_12 {i j : Nat} (hl : lv P (5, i, j)) : ez_isF ((xh h0 P c).1 (P.2.2.1 (5, i, j))) 5 12 = true := by rw [xh_at hl (show 5 ≠ 0 by decide)]; rfl
theorem xv5_12 {i j : Nat} (hl : lv P (5, i, j)) : ez_vF ((xh h0 P c).1 (P.2.2.1 (5, i, j))) 12 = .int (c (5, i, j) 12) := by rw [xh_at hl (show 5 ≠ 0 by decide)]; rfl
theorem xp5_12 {i j : Nat} {v : Int32} (ok : xok P) (hl : lv P (5, i, j)) : ez_hs (xh h0 P c) (P.2.2.1 (5, i, j)) (ez_uF ((xh h0 P c).1 (P.2.2.1 (5, i, j))) 12 (.int v)) = xh h0 P (xu c (5, i, j) 12 v) := by rw [xh_at hl (show 5 ≠ 0 by decide)]; exact xh_set (f := upd (c (5, i, j)) 12 v) ok hl (show 5 ≠ 0 by decide) rfl
theorem xo6 {i j : Nat} (hl : lv P (6, i, j)) : ez_isO ((xh h0 P c).1 (P.2.2.1 (6, i, j))) 3 = true := by rw [xh_at hl (show 6 ≠ 0 by decide)]; rfl
theorem xa6 {i j : Nat} (hl : lv P (6, i, j)) : ez_any ((xh h0 P c).1 (P.2.2.1 (6, i, j))) = true := by rw [xh_at hl (show 6 ≠ 0 by decide)]; rfl
theorem xf6_0 {i j : Nat} (hl : lv P (6, i, j)) : ez_isF ((xh h0 P c).1 (P.2.2.1 (6, i, j))) 3 0 = true := by rw [xh_at hl (show 6 ≠ 0 by decide)]; rfl
theorem xv6_0 {i j : Nat} (hl : lv P (6, i, j)) : ez_vF ((xh h0 P c).1 (P.2.2.1 (6, i, j))) 0 = .int (c (6, i, j) 0) := by rw [xh_at hl (show 6 ≠ 0 by decide)]; rfl
theorem xp6_0 {i j : Nat} {v : Int32} (ok : xok P) (hl : lv P (6, i, j)) : ez_hs (xh h0 P c) (P.2.2.1 (6, i, j)) (ez_uF ((xh h0 P c).1 (P.2.2.1 (6, i, j))) 0 (.int v)) = xh h0 P (xu c (6, i, j) 0 v) := by rw [xh_at hl (show 6 ≠ 0 by decide)]; exact xh_set (f := upd (c (6, i, j)) 0 v) ok hl (show 6 ≠ 0 by decide) rfl
theorem xf6_1 {i j : Nat} (hl : lv P (6, i, j)) : ez_isF ((xh h0 P c).1 (P.2.2.1 (6, i, j))) 3 1 = true := by rw [xh_at hl (show 6 ≠ 0 by decide)]; rfl
theorem xv6_1 {i j : Nat} (hl : lv P (6, i, j)) : ez_vF ((xh h0 P c).1 (P.2.2.1 (6, i, j))) 1 = .int (c (6, i, j) 1) := by rw [xh_at hl (show 6 ≠ 0 by decide)]; rfl
theorem xp6_1 {i j : Nat} {v : Int32} (ok : xok P) (hl : lv P (6, i, j)) : ez_hs (xh h0 P c) (P.2.2.1 (6, i, j)) (ez_uF ((xh h0 P c).1 (P.2.2.1 (6, i, j))) 1 (.int v)) = xh h0 P (xu c (6, i, j) 1 v) := by rw [xh_at hl (show 6 ≠ 0 by decide)]; exact xh_set (f := upd (c (6, i, j)) 1 v) ok hl (show 6 ≠ 0 by decide) rfl
theorem xf6_2 {i j : Nat} (hl : lv P (6, i, j)) : ez_isF ((xh h0 P c).1 (P.2.2.1 (6, i, j))) 3 2 = true := by rw [xh_at hl (show 6 ≠ 0 by decide)]; rfl
theorem xv6_2 {i j : Nat} (hl : lv P (6, i, j)) : ez_vF ((xh h0 P c).1 (P.2.2.1 (6, i, j))) 2 = .int (c (6, i, j) 2) := by rw [xh_at hl (show 6 ≠ 0 by decide)]; rfl
theorem xp6_2 {i j : Nat} {v : Int32} (ok : xok P) (hl : lv P (6, i, j)) : ez_hs (xh h0 P c) (P.2.2.1 (6, i, j)) (ez_uF ((xh h0 P c).1 (P.2.2.1 (6, i, j))) 2 (.int v)) = xh h0 P (xu c (6, i, j) 2 v) := by rw [xh_at hl (show 6 ≠ 0 by decide)]; exact xh_set (f := upd (c (6, i, j)) 2 v) ok hl (show 6 ≠ 0 by decide) rfl
theorem xo7 {i j : Nat} (hl : lv P (7, i, j)) : ez_isO ((xh h0 P c).1 (P.2.2.1 (7, i, j))) 8 = true := by rw [xh_at hl (show 7 ≠ 0 by decide)]; rfl
theorem xa7 {i j : Nat} (hl : lv P (7, i, j)) : ez_any ((xh h0 P c).1 (P.2.2.1 (7, i, j))) = true := by rw [xh_at hl (show 7 ≠ 0 by decide)]; rfl
theorem xf7_0 {i j : Nat} (hl : lv P (7, i, j)) : ez_isF ((xh h0 P c).1 (P.2.2.1 (7, i, j))) 8 0 = true := by rw [xh_at hl (show 7 ≠ 0 by decide)]; rfl
theorem xv7_0 {i j : Nat} (hl : lv P (7, i, j)) : ez_vF ((xh h0 P c).1 (P.2.2.1 (7, i, j))) 0 = .int (c (7, i, j) 0) := by rw [xh_at hl (show 7 ≠ 0 by decide)]; rfl
theorem xp7_0 {i j : Nat} {v : Int32} (ok : xok P) (hl : lv P (7, i, j)) : ez_hs (xh h0 P c) (P.2.2.1 (7, i, j)) (ez_uF ((xh h0 P c).1 (P.2.2.1 (7, i, j))) 0 (.int v)) = xh h0 P (xu c (7, i, j) 0 v) := by rw [xh_at hl (show 7 ≠ 0 by decide)]; exact xh_set (f := upd (c (7, i, j)) 0 v) ok hl (show 7 ≠ 0 by decide) rfl
theorem xf7_1 {i j : Nat} (hl : lv P (7, i, j)) : ez_isF ((xh h0 P c).1 (P.2.2.1 (7, i, j))) 8 1 = true := by rw [xh_at hl (show 7 ≠ 0 by decide)]; rfl
theorem xv7_1 {i j : Nat} (hl : lv P (7, i, j)) : ez_vF ((xh h0 P c).1 (P.2.2.1 (7, i, j))) 1 = .int (c (7, i, j) 1) := by rw [xh_at hl (show 7 ≠ 0 by decide)]; rfl
theorem xp7_1 {i j : Nat} {v : Int32} (ok : xok P) (hl : lv P (7, i, j)) : ez_hs (xh h0 P c) (P.2.2.1 (7, i, j)) (ez_uF ((xh h0 P c).1 (P.2.2.1 (7, i, j))) 1 (.int v)) = xh h0 P (xu c (7, i, j) 1 v) := by rw [xh_at hl (show 7 ≠ 0 by decide)]; exact xh_set (f := upd (c (7, i, j)) 1 v) ok hl (show 7 ≠ 0 by decide) rfl
theorem xf7_2 {i j : Nat} (hl : lv P (7, i, j)) : ez_isF ((xh h0 P c).1 (P.2.2.1 (7, i, j))) 8 2 = true := by rw [xh_at hl (show 7 ≠ 0 by decide)]; rfl
theorem xv7_2 {i j : Nat} (hl : lv P (7, i, j)) : ez_vF ((xh h0 P c).1 (P.2.2.1 (7, i, j))) 2 = .int (c (7, i, j) 2) := by rw [xh_at hl (show 7 ≠ 0 by decide)]; rfl
theorem xp7_2 {i j : Nat} {v : Int32} (ok : xok P) (hl : lv P (7, i, j)) : ez_hs (xh h0 P c) (P.2.2.1 (7, i, j)) (ez_uF ((xh h0 P c).1 (P.2.2.1 (7, i, j))) 2 (.int v)) = xh h0 P (xu c (7, i, j) 2 v) := by rw [xh_at hl (show 7 ≠ 0 by decide)]; exact xh_set (f := upd (c (7, i, j)) 2 v) ok hl (show 7 ≠ 0 by decide) rfl
theorem xf7_3 {i j : Nat} (hl : lv P (7, i, j)) : ez_isF ((xh h0 P c).1 (P.2.2.1 (7, i, j))) 8 3 = true := by rw [xh_at hl (show 7 ≠ 0 by decide)]; rfl
theorem xv7_3 {i j : Nat} (hl : lv P (7, i, j)) : ez_vF ((xh h0 P c).1 (P.2.2.1 (7, i, j))) 3 = .int (c (7, i, j) 3) := by rw [xh_at hl (show 7 ≠ 0 by decide)]; rfl
theorem xp7_3 {i j : Nat} {v : Int32} (ok : xok P) (hl : lv P (7, i, j)) : ez_hs (xh h0 P c) (P.2.2.1 (7, i, j)) (ez_uF ((xh h0 P c).1 (P.2.2.1 (7, i, j))) 3 (.int v)) = xh h0 P (xu c (7, i, j) 3 v) := by rw [xh_at hl (show 7 ≠ 0 by decide)]; exact xh_set (f := upd (c (7, i, j)) 3 v) ok hl (show 7 ≠ 0 by decide) rfl
theorem xf7_4 {i j : Nat} (hl : lv P (7, i, j)) : ez_isF ((xh h0 P c).1 (P.2.2.1 (7, i, j))) 8 4 = true := by rw [xh_at hl (show 7 ≠ 0 by decide)]; rfl
theorem xv7_4 {i j : Nat} (hl : lv P (7, i, j)) : ez_vF ((xh h0 P c).1 (P.2.2.1 (7, i, j))) 4 = .ref (P.2.2.1 (3, 5, i)) := by rw [xh_at hl (show 7 ≠ 0 by decide)]; rfl
theorem xf7_5 {i j : Nat} (hl : lv P (7, i, j)) : ez_isF ((xh h0 P c).1 (P.2.2.1 (7, i, j))) 8 5 = true := by rw [xh_at hl (show 7 ≠ 0 by decide)]; rfl
theorem xv7_5 {i j : Nat} (hl : lv P (7, i, j)) : ez_vF ((xh h0 P c).1 (P.2.2.1 (7, i, j))) 5 = .ref (P.2.2.1 (3, 6, i)) := by rw [xh_at hl (show 7 ≠ 0 by decide)]; rfl
theorem xo8 {i j : Nat} (hl : lv P (8, i, j)) : ez_isO ((xh h0 P c).1 (P.2.2.1 (8, i, j))) 1 = true := by rw [xh_at hl (show 8 ≠ 0 by decide)]; rfl
theorem xa8 {i j : Nat} (hl : lv P (8, i, j)) : ez_any ((xh h0 P c).1 (P.2.2.1 (8, i, j))) = true := by rw [xh_at hl (show 8 ≠ 0 by decide)]; rfl
theorem xf8_0 {i j : Nat} (hl : lv P (8, i, j)) : ez_isF ((xh h0 P c).1 (P.2.2.1 (8, i, j))) 1 0 = true := by rw [xh_at hl (show 8 ≠ 0 by decide)]; rfl
theorem xv8_0 {i j : Nat} (hl : lv P (8, i, j)) : ez_vF ((xh h0 P c).1 (P.2.2.1 (8, i, j))) 0 = .int (c (8, i, j) 0) := by rw [xh_at hl (show 8 ≠ 0 by decide)]; rfl
theorem xp8_0 {i j : Nat} {v : Int32} (ok : xok P) (hl : lv P (8, i, j)) : ez_hs (xh h0 P c) (P.2.2.1 (8, i, j)) (ez_uF ((xh h0 P c).1 (P.2.2.1 (8, i, j))) 0 (.int v)) = xh h0 P (xu c (8, i, j) 0 v) := by rw [xh_at hl (show 8 ≠ 0 by decide)]; exact xh_set (f := upd (c (8, i, j)) 0 v) ok hl (show 8 ≠ 0 by decide) rfl
theorem xf8_1 {i j : Nat} (hl : lv P (8, i, j)) : ez_isF ((xh h0 P c).1 (P.2.2.1 (8, i, j))) 1 1 = true := by rw [xh_at hl (show 8 ≠ 0 by decide)]; rfl
theorem xv8_1 {i j : Nat} (hl : lv P (8, i, j)) : ez_vF ((xh h0 P c).1 (P.2.2.1 (8, i, j))) 1 = .ref (P.2.2.1 (9, i, j)) := by rw [xh_at hl (show 8 ≠ 0 by decide)]; rfl
theorem xo10 {i j : Nat} (hl : lv P (10, i, j)) : ez_isO ((xh h0 P c).1 (P.2.2.1 (10, i, j))) 2 = true := by rw [xh_at hl (show 10 ≠ 0 by decide)]; rfl
theorem xa10 {i j : Nat} (hl : lv P (10, i, j)) : ez_any ((xh h0 P c).1 (P.2.2.1 (10, i, j))) = true := by rw [xh_at hl (show 10 ≠ 0 by decide)]; rfl
theorem xf10_0 {i j : Nat} (hl : lv P (10, i, j)) : ez_isF ((xh h0 P c).1 (P.2.2.1 (10, i, j))) 2 0 = true := by rw [xh_at hl (show 10 ≠ 0 by decide)]; rfl
theorem xv10_0 {i j : Nat} (hl : lv P (10, i, j)) : ez_vF ((xh h0 P c).1 (P.2.2.1 (10, i, j))) 0 = .int (c (10, i, j) 0) := by rw [xh_at hl (show 10 ≠ 0 by decide)]; rfl
theorem xp10_0 {i j : Nat} {v : Int32} (ok : xok P) (hl : lv P (10, i, j)) : ez_hs (xh h0 P c) (P.2.2.1 (10, i, j)) (ez_uF ((xh h0 P c).1 (P.2.2.1 (10, i, j))) 0 (.int v)) = xh h0 P (xu c (10, i, j) 0 v) := by rw [xh_at hl (show 10 ≠ 0 by decide)]; exact xh_set (f := upd (c (10, i, j)) 0 v) ok hl (show 10 ≠ 0 by decide) rfl
theorem xf10_1 {i j : Nat} (hl : lv P (10, i, j)) : ez_isF ((xh h0 P c).1 (P.2.2.1 (10, i, j))) 2 1 = true := by rw [xh_at hl (show 10 ≠ 0 by decide)]; rfl
theorem xv10_1 {i j : Nat} (hl : lv P (10, i, j)) : ez_vF ((xh h0 P c).1 (P.2.2.1 (10, i, j))) 1 = .int (c (10, i, j) 1) := by rw [xh_at hl (show 10 ≠ 0 by decide)]; rfl
theorem xp10_1 {i j : Nat} {v : Int32} (ok : xok P) (hl : lv P (10, i, j)) : ez_hs (xh h0 P c) (P.2.2.1 (10, i, j)) (ez_uF ((xh h0 P c).1 (P.2.2.1 (10, i, j))) 1 (.int v)) = xh h0 P (xu c (10, i, j) 1 v) := by rw [xh_at hl (show 10 ≠ 0 by decide)]; exact xh_set (f := upd (c (10, i, j)) 1 v) ok hl (show 10 ≠ 0 by decide) rfl
theorem xf10_2 {i j : Nat} (hl : lv P (10, i, j)) : ez_isF ((xh h0 P c).1 (P.2.2.1 (10, i, j))) 2 2 = true := by rw [xh_at hl (show 10 ≠ 0 by decide)]; rfl
theorem xv10_2 {i j : Nat} (hl : lv P (10, i, j)) : ez_vF ((xh h0 P c).1 (P.2.2.1 (10, i, j))) 2 = .int (c (10, i, j) 2) := by rw [xh_at hl (show 10 ≠ 0 by decide)]; rfl
theorem xp10_2 {i j : Nat} {v : Int32} (ok : xok P) (hl : lv P (10, i, j)) : ez_hs (xh h0 P c) (P.2.2.1 (10, i, j)) (ez_uF ((xh h0 P c).1 (P.2.2.1 (10, i, j))) 2 (.int v)) = xh h0 P (xu c (10, i, j) 2 v) := by rw [xh_at hl (show 10 ≠ 0 by decide)]; exact xh_set (f := upd (c (10, i, j)) 2 v) ok hl (show 10 ≠ 0 by decide) rfl
theorem xf10_3 {i j : Nat} (hl : lv P (10, i, j)) : ez_isF ((xh h0 P c).1 (P.2.2.1 (10, i, j))) 2 3 = true := by rw [xh_at hl (show 10 ≠ 0 by decide)]; rfl
theorem xv10_3 {i j : Nat} (hl : lv P (10, i, j)) : ez_vF ((xh h0 P c).1 (P.2.2.1 (10, i, j))) 3 = .ref (P.2.2.1 (3, 7, i)) := by rw [xh_at hl (show 10 ≠ 0 by decide)]; rfl
theorem xf10_4 {i j : Nat} (hl : lv P (10, i, j)) : ez_isF ((xh h0 P c).1 (P.2.2.1 (10, i, j))) 2 4 = true := by rw [xh_at hl (show 10 ≠ 0 by decide)]; rfl
theorem xv10_4 {i j : Nat} (hl : lv P (10, i, j)) : ez_vF ((xh h0 P c).1 (P.2.2.1 (10, i, j))) 4 = .ref (P.2.2.1 (11, i, 0)) := by rw [xh_at hl (show 10 ≠ 0 by decide)]; rfl
theorem xo12 {i j : Nat} (hl : lv P (12, i, j)) : ez_isO ((xh h0 P c).1 (P.2.2.1 (12, i, j))) 7 = true := by rw [xh_at hl (show 12 ≠ 0 by decide)]; rfl
theorem xa12 {i j : Nat} (hl : lv P (12, i, j)) : ez_any ((xh h0 P c).1 (P.2.2.1 (12, i, j))) = true := by rw [xh_at hl (show 12 ≠ 0 by decide)]; rfl
theorem xf12_0 {i j : Nat} (hl : lv P (12, i, j)) : ez_isF ((xh h0 P c).1 (P.2.2.1 (12, i, j))) 7 0 = true := by rw [xh_at hl (show 12 ≠ 0 by decide)]; rfl
theorem xv12_0 {i j : Nat} (hl : lv P (12, i, j)) : ez_vF ((xh h0 P c).1 (P.2.2.1 (12, i, j))) 0 = .ref (P.2.2.1 (10, (c (12, i, j) 0).toNatClampNeg, 0)) := by rw [xh_at hl (show 12 ≠ 0 by decide)]; rfl
theorem xf12_1 {i j : Nat} (hl : lv P (12, i, j)) : ez_isF ((xh h0 P c).1 (P.2.2.1 (12, i, j))) 7 1 = true := by rw [xh_at hl (show 12 ≠ 0 by decide)]; rfl
theorem xv12_1 {i j : Nat} (hl : lv P (12, i, j)) : ez_vF ((xh h0 P c).1 (P.2.2.1 (12, i, j))) 1 = .int (c (12, i, j) 1) := by rw [xh_at hl (show 12 ≠ 0 by decide)]; rfl
theorem xp12_1 {i j : Nat} {v : Int32} (ok : xok P) (hl : lv P (12, i, j)) : ez_hs (xh h0 P c) (P.2.2.1 (12, i, j)) (ez_uF ((xh h0 P c).1 (P.2.2.1 (12, i, j))) 1 (.int v)) = xh h0 P (xu c (12, i, j) 1 v) := by rw [xh_at hl (show 12 ≠ 0 by decide)]; exact xh_set (f := upd (c (12, i, j)) 1 v) ok hl (show 12 ≠ 0 by decide) rfl
theorem xf12_2 {i j : Nat} (hl : lv P (12, i, j)) : ez_isF ((xh h0 P c).1 (P.2.2.1 (12, i, j))) 7 2 = true := by rw [xh_at hl (show 12 ≠ 0 by decide)]; rfl
theorem xv12_2 {i j : Nat} (hl : lv P (12, i, j)) : ez_vF ((xh h0 P c).1 (P.2.2.1 (12, i, j))) 2 = .int (c (12, i, j) 2) := by rw [xh_at hl (show 12 ≠ 0 by decide)]; rfl
theorem xp12_2 {i j : Nat} {v : Int32} (ok : xok P) (hl : lv P (12, i, j)) : ez_hs (xh h0 P c) (P.2.2.1 (12, i, j)) (ez_uF ((xh h0 P c).1 (P.2.2.1 (12, i, j))) 2 (.int v)) = xh h0 P (xu c (12, i, j) 2 v) := by rw [xh_at hl (show 12 ≠ 0 by decide)]; exact xh_set (f := upd (c (12, i, j)) 2 v) ok hl (show 12 ≠ 0 by decide) rfl
theorem xf12_3 {i j : Nat} (hl : lv P (12, i, j)) : ez_isF ((xh h0 P c).1 (P.2.2.1 (12, i, j))) 7 3 = true := by rw [xh_at hl (show 12 ≠ 0 by decide)]; rfl
theorem xv12_3 {i j : Nat} (hl : lv P (12, i, j)) : ez_vF ((xh h0 P c).1 (P.2.2.1 (12, i, j))) 3 = .int (c (12, i, j) 3) := by rw [xh_at hl (show 12 ≠ 0 by decide)]; rfl
theorem xp12_3 {i j : Nat} {v : Int32} (ok : xok P) (hl : lv P (12, i, j)) : ez_hs (xh h0 P c) (P.2.2.1 (12, i, j)) (ez_uF ((xh h0 P c).1 (P.2.2.1 (12, i, j))) 3 (.int v)) = xh h0 P (xu c (12, i, j) 3 v) := by rw [xh_at hl (show 12 ≠ 0 by decide)]; exact xh_set (f := upd (c (12, i, j)) 3 v) ok hl (show 12 ≠ 0 by decide) rfl
theorem xf12_4 {i j : Nat} (hl : lv P (12, i, j)) : ez_isF ((xh h0 P c).1 (P.2.2.1 (12, i, j))) 7 4 = true := by rw [xh_at hl (show 12 ≠ 0 by decide)]; rfl
theorem xv12_4 {i j : Nat} (hl : lv P (12, i, j)) : ez_vF ((xh h0 P c).1 (P.2.2.1 (12, i, j))) 4 = .ref (P.2.2.1 (3, 8, i)) := by rw [xh_at hl (show 12 ≠ 0 by decide)]; rfl
theorem xo13 {i j : Nat} (hl : lv P (13, i, j)) : ez_isO ((xh h0 P c).1 (P.2.2.1 (13, i, j))) 4 = true := by rw [xh_at hl (show 13 ≠ 0 by decide)]; rfl
theorem xa13 {i j : Nat} (hl : lv P (13, i, j)) : ez_any ((xh h0 P c).1 (P.2.2.1 (13, i, j))) = true := by rw [xh_at hl (show 13 ≠ 0 by decide)]; rfl
theorem xf13_0 {i j : Nat} (hl : lv P (13, i, j)) : ez_isF ((xh h0 P c).1 (P.2.2.1 (13, i, j))) 4 0 = true := by rw [xh_at hl (show 13 ≠ 0 by decide)]; rfl
theorem xv13_0 {i j : Nat} (hl : lv P (13, i, j)) : ez_vF ((xh h0 P c).1 (P.2.2.1 (13, i, j))) 0 = .ref (P.2.2.1 (5, (c (13, i, j) 0).toNatClampNeg, 0)) := by rw [xh_at hl (show 13 ≠ 0 by decide)]; rfl
theorem xf13_1 {i j : Nat} (hl : lv P (13, i, j)) : ez_isF ((xh h0 P c).1 (P.2.2.1 (13, i, j))) 4 1 = true := by rw [xh_at hl (show 13 ≠ 0 by decide)]; rfl
theorem xv13_1 {i j : Nat} (hl : lv P (13, i, j)) : ez_vF ((xh h0 P c).1 (P.2.2.1 (13, i, j))) 1 = .int (c (13, i, j) 1) := by rw [xh_at hl (show 13 ≠ 0 by decide)]; rfl
theorem xp13_1 {i j : Nat} {v : Int32} (ok : xok P) (hl : lv P (13, i, j)) : ez_hs (xh h0 P c) (P.2.2.1 (13, i, j)) (ez_uF ((xh h0 P c).1 (P.2.2.1 (13, i, j))) 1 (.int v)) = xh h0 P (xu c (13, i, j) 1 v) := by rw [xh_at hl (show 13 ≠ 0 by decide)]; exact xh_set (f := upd (c (13, i, j)) 1 v) ok hl (show 13 ≠ 0 by decide) rfl
theorem xo14 {i j : Nat} (hl : lv P (14, i, j)) : ez_isO ((xh h0 P c).1 (P.2.2.1 (14, i, j))) 6 = true := by rw [xh_at hl (show 14 ≠ 0 by decide)]; rfl
theorem xa14 {i j : Nat} (hl : lv P (14, i, j)) : ez_any ((xh h0 P c).1 (P.2.2.1 (14, i, j))) = true := by rw [xh_at hl (show 14 ≠ 0 by decide)]; rfl
theorem xf14_0 {i j : Nat} (hl : lv P (14, i, j)) : ez_isF ((xh h0 P c).1 (P.2.2.1 (14, i, j))) 6 0 = true := by rw [xh_at hl (show 14 ≠ 0 by decide)]; rfl
theorem xv14_0 {i j : Nat} (hl : lv P (14, i, j)) : ez_vF ((xh h0 P c).1 (P.2.2.1 (14, i, j))) 0 = .ref (P.2.2.1 (16, 0, 0)) := by rw [xh_at hl (show 14 ≠ 0 by decide)]; rfl
theorem xf14_1 {i j : Nat} (hl : lv P (14, i, j)) : ez_isF ((xh h0 P c).1 (P.2.2.1 (14, i, j))) 6 1 = true := by rw [xh_at hl (show 14 ≠ 0 by decide)]; rfl
theorem xv14_1 {i j : Nat} (hl : lv P (14, i, j)) : ez_vF ((xh h0 P c).1 (P.2.2.1 (14, i, j))) 1 = .int (c (14, i, j) 1) := by rw [xh_at hl (show 14 ≠ 0 by decide)]; rfl
theorem xp14_1 {i j : Nat} {v : Int32} (ok : xok P) (hl : lv P (14, i, j)) : ez_hs (xh h0 P c) (P.2.2.1 (14, i, j)) (ez_uF ((xh h0 P c).1 (P.2.2.1 (14, i, j))) 1 (.int v)) = xh h0 P (xu c (14, i, j) 1 v) := by rw [xh_at hl (show 14 ≠ 0 by decide)]; exact xh_set (f := upd (c (14, i, j)) 1 v) ok hl (show 14 ≠ 0 by decide) rfl
theorem xf14_2 {i j : Nat} (hl : lv P (14, i, j)) : ez_isF ((xh h0 P c).1 (P.2.2.1 (14, i, j))) 6 2 = true := by rw [xh_at hl (show 14 ≠ 0 by decide)]; rfl
theorem xv14_2 {i j : Nat} (hl : lv P (14, i, j)) : ez_vF ((xh h0 P c).1 (P.2.2.1 (14, i, j))) 2 = .int (c (14, i, j) 2) := by rw [xh_at hl (show 14 ≠ 0 by decide)]; rfl
theorem xp14_2 {i j : Nat} {v : Int32} (ok : xok P) (hl : lv P (14, i, j)) : ez_hs (xh h0 P c) (P.2.2.1 (14, i, j)) (ez_uF ((xh h0 P c).1 (P.2.2.1 (14, i, j))) 2 (.int v)) = xh h0 P (xu c (14, i, j) 2 v) := by rw [xh_at hl (show 14 ≠ 0 by decide)]; exact xh_set (f := upd (c (14, i, j)) 2 v) ok hl (show 14 ≠ 0 by decide) rfl
theorem xf14_3 {i j : Nat} (hl : lv P (14, i, j)) : ez_isF ((xh h0 P c).1 (P.2.2.1 (14, i, j))) 6 3 = true := by rw [xh_at hl (show 14 ≠ 0 by decide)]; rfl
theorem xv14_3 {i j : Nat} (hl : lv P (14, i, j)) : ez_vF ((xh h0 P c).1 (P.2.2.1 (14, i, j))) 3 = .int (c (14, i, j) 3) := by rw [xh_at hl (show 14 ≠ 0 by decide)]; rfl
theorem xp14_3 {i j : Nat} {v : Int32} (ok : xok P) (hl : lv P (14, i, j)) : ez_hs (xh h0 P c) (P.2.2.1 (14, i, j)) (ez_uF ((xh h0 P c).1 (P.2.2.1 (14, i, j))) 3 (.int v)) = xh h0 P (xu c (14, i, j) 3 v) := by rw [xh_at hl (show 14 ≠ 0 by decide)]; exact xh_set (f := upd (c (14, i, j)) 3 v) ok hl (show 14 ≠ 0 by decide) rfl
theorem ya2_1 {j : Nat} {q : Int32} (hl : lv P (2, 1, j)) : ez_isA ((xh h0 P c).1 (P.2.2.1 (2, 1, j))) 0 q = md_in q 20 := by rw [xh_at hl (show 2 ≠ 0 by decide)]; rfl
theorem yw2_1 {j : Nat} {q : Int32} (hl : lv P (2, 1, j)) : ez_isW ((xh h0 P c).1 (P.2.2.1 (2, 1, j))) 0 q = md_in q 20 := by rw [xh_at hl (show 2 ≠ 0 by decide)]; rfl
theorem yv2_1 {j : Nat} {q : Int32} (hl : lv P (2, 1, j)) : ez_vA ((xh h0 P c).1 (P.2.2.1 (2, 1, j))) q = c (2, 1, j) q.toNatClampNeg := by rw [xh_at hl (show 2 ≠ 0 by decide)]; rfl
theorem yp2_1 {j : Nat} {q v : Int32} (ok : xok P) (hl : lv P (2, 1, j)) : ez_hs (xh h0 P c) (P.2.2.1 (2, 1, j)) (ez_uA ((xh h0 P c).1 (P.2.2.1 (2, 1, j))) q v) = xh h0 P (xu c (2, 1, j) q.toNatClampNeg v) := by rw [xh_at hl (show 2 ≠ 0 by decide)]; exact xh_set (f := upd (c (2, 1, j)) q.toNatClampNeg v) ok hl (show 2 ≠ 0 by decide) rfl
theorem yn2_1 {j : Nat} (hl : lv P (2, 1, j)) : ez_isN ((xh h0 P c).1 (P.2.2.1 (2, 1, j))) = true := by rw [xh_at hl (show 2 ≠ 0 by decide)]; rfl
theorem yl2_1 {j : Nat} (hl : lv P (2, 1, j)) : ez_vN ((xh h0 P c).1 (P.2.2.1 (2, 1, j))) = 20 := by rw [xh_at hl (show 2 ≠ 0 by decide)]; rfl
theorem ya2_3 {j : Nat} {q : Int32} (hl : lv P (2, 3, j)) : ez_isA ((xh h0 P c).1 (P.2.2.1 (2, 3, j))) 0 q = md_in q 32 := by rw [xh_at hl (show 2 ≠ 0 by decide)]; rfl
theorem yw2_3 {j : Nat} {q : Int32} (hl : lv P (2, 3, j)) : ez_isW ((xh h0 P c).1 (P.2.2.1 (2, 3, j))) 0 q = md_in q 32 := by rw [xh_at hl (show 2 ≠ 0 by decide)]; rfl
theorem yv2_3 {j : Nat} {q : Int32} (hl : lv P (2, 3, j)) : ez_vA ((xh h0 P c).1 (P.2.2.1 (2, 3, j))) q = c (2, 3, j) q.toNatClampNeg := by rw [xh_at hl (show 2 ≠ 0 by decide)]; rfl
theorem yp2_3 {j : Nat} {q v : Int32} (ok : xok P) (hl : lv P (2, 3, j)) : ez_hs (xh h0 P c) (P.2.2.1 (2, 3, j)) (ez_uA ((xh h0 P c).1 (P.2.2.1 (2, 3, j))) q v) = xh h0 P (xu c (2, 3, j) q.toNatClampNeg v) := by rw [xh_at hl (show 2 ≠ 0 by decide)]; exact xh_set (f := upd (c (2, 3, j)) q.toNatClampNeg v) ok hl (show 2 ≠ 0 by decide) rfl
theorem yn2_3 {j : Nat} (hl : lv P (2, 3, j)) : ez_isN ((xh h0 P c).1 (P.2.2.1 (2, 3, j))) = true := by rw [xh_at hl (show 2 ≠ 0 by decide)]; rfl
theorem yl2_3 {j : Nat} (hl : lv P (2, 3, j)) : ez_vN ((xh h0 P c).1 (P.2.2.1 (2, 3, j))) = 32 := by rw [xh_at hl (show 2 ≠ 0 by decide)]; rfl
theorem ya2_10 {j : Nat} {q : Int32} (hl : lv P (2, 10, j)) : ez_isA ((xh h0 P c).1 (P.2.2.1 (2, 10, j))) 0 q = md_in q 4 := by rw [xh_at hl (show 2 ≠ 0 by decide)]; rfl
theorem yw2_10 {j : Nat} {q : Int32} (hl : lv P (2, 10, j)) : ez_isW ((xh h0 P c).1 (P.2.2.1 (2, 10, j))) 0 q = md_in q 4 := by rw [xh_at hl (show 2 ≠ 0 by decide)]; rfl
theorem yv2_10 {j : Nat} {q : Int32} (hl : lv P (2, 10, j)) : ez_vA ((xh h0 P c).1 (P.2.2.1 (2, 10, j))) q = c (2, 10, j) q.toNatClampNeg := by rw [xh_at hl (show 2 ≠ 0 by decide)]; rfl
theorem yp2_10 {j : Nat} {q v : Int32} (ok : xok P) (hl : lv P (2, 10, j)) : ez_hs (xh h0 P c) (P.2.2.1 (2, 10, j)) (ez_uA ((xh h0 P c).1 (P.2.2.1 (2, 10, j))) q v) = xh h0 P (xu c (2, 10, j) q.toNatClampNeg v) := by rw [xh_at hl (show 2 ≠ 0 by decide)]; exact xh_set (f := upd (c (2, 10, j)) q.toNatClampNeg v) ok hl (show 2 ≠ 0 by decide) rfl
theorem yn2_10 {j : Nat} (hl : lv P (2, 10, j)) : ez_isN ((xh h0 P c).1 (P.2.2.1 (2, 10, j))) = true := by rw [xh_at hl (show 2 ≠ 0 by decide)]; rfl
theorem yl2_10 {j : Nat} (hl : lv P (2, 10, j)) : ez_vN ((xh h0 P c).1 (P.2.2.1 (2, 10, j))) = 4 := by rw [xh_at hl (show 2 ≠ 0 by decide)]; rfl
theorem ya2_11 {j : Nat} {q : Int32} (hl : lv P (2, 11, j)) : ez_isA ((xh h0 P c).1 (P.2.2.1 (2, 11, j))) 0 q = md_in q 4 := by rw [xh_at hl (show 2 ≠ 0 by decide)]; rfl
theorem yw2_11 {j : Nat} {q : Int32} (hl : lv P (2, 11, j)) : ez_isW ((xh h0 P c).1 (P.2.2.1 (2, 11, j))) 0 q = md_in q 4 := by rw [xh_at hl (show 2 ≠ 0 by decide)]; rfl
theorem yv2_11 {j : Nat} {q : Int32} (hl : lv P (2, 11, j)) : ez_vA ((xh h0 P c).1 (P.2.2.1 (2, 11, j))) q = c (2, 11, j) q.toNatClampNeg := by rw [xh_at hl (show 2 ≠ 0 by decide)]; rfl
theorem yp2_11 {j : Nat} {q v : Int32} (ok : xok P) (hl : lv P (2, 11, j)) : ez_hs (xh h0 P c) (P.2.2.1 (2, 11, j)) (ez_uA ((xh h0 P c).1 (P.2.2.1 (2, 11, j))) q v) = xh h0 P (xu c (2, 11, j) q.toNatClampNeg v) := by rw [xh_at hl (show 2 ≠ 0 by decide)]; exact xh_set (f := upd (c (2, 11, j)) q.toNatClampNeg v) ok hl (show 2 ≠ 0 by decide) rfl
theorem yn2_11 {j : Nat} (hl : lv P (2, 11, j)) : ez_isN ((xh h0 P c).1 (P.2.2.1 (2, 11, j))) = true := by rw [xh_at hl (show 2 ≠ 0 by decide)]; rfl
theorem yl2_11 {j : Nat} (hl : lv P (2, 11, j)) : ez_vN ((xh h0 P c).1 (P.2.2.1 (2, 11, j))) = 4 := by rw [xh_at hl (show 2 ≠ 0 by decide)]; rfl
theorem ya9 {i j : Nat} {q : Int32} (hl : lv P (9, i, j)) : ez_isA ((xh h0 P c).1 (P.2.2.1 (9, i, j))) 0 q = md_in q 3 := by rw [xh_at hl (show 9 ≠ 0 by decide)]; rfl
theorem yw9 {i j : Nat} {q : Int32} (hl : lv P (9, i, j)) : ez_isW ((xh h0 P c).1 (P.2.2.1 (9, i, j))) 0 q = md_in q 3 := by rw [xh_at hl (show 9 ≠ 0 by decide)]; rfl
theorem yv9 {i j : Nat} {q : Int32} (hl : lv P (9, i, j)) : ez_vA ((xh h0 P c).1 (P.2.2.1 (9, i, j))) q = c (9, i, j) q.toNatClampNeg := by rw [xh_at hl (show 9 ≠ 0 by decide)]; rfl
theorem yp9 {i j : Nat} {q v : Int32} (ok : xok P) (hl : lv P (9, i, j)) : ez_hs (xh h0 P c) (P.2.2.1 (9, i, j)) (ez_uA ((xh h0 P c).1 (P.2.2.1 (9, i, j))) q v) = xh h0 P (xu c (9, i, j) q.toNatClampNeg v) := by rw [xh_at hl (show 9 ≠ 0 by decide)]; exact xh_set (f := upd (c (9, i, j)) q.toNatClampNeg v) ok hl (show 9 ≠ 0 by decide) rfl
theorem yn9 {i j : Nat} (hl : lv P (9, i, j)) : ez_isN ((xh h0 P c).1 (P.2.2.1 (9, i, j))) = true := by rw [xh_at hl (show 9 ≠ 0 by decide)]; rfl
theorem yl9 {i j : Nat} (hl : lv P (9, i, j)) : ez_vN ((xh h0 P c).1 (P.2.2.1 (9, i, j))) = 3 := by rw [xh_at hl (show 9 ≠ 0 by decide)]; rfl
theorem ya11 {i j : Nat} {q : Int32} (hl : lv P (11, i, j)) : ez_isA ((xh h0 P c).1 (P.2.2.1 (11, i, j))) 0 q = md_in q 20 := by rw [xh_at hl (show 11 ≠ 0 by decide)]; rfl
theorem yw11 {i j : Nat} {q : Int32} (hl : lv P (11, i, j)) : ez_isW ((xh h0 P c).1 (P.2.2.1 (11, i, j))) 0 q = md_in q 20 := by rw [xh_at hl (show 11 ≠ 0 by decide)]; rfl
theorem yv11 {i j : Nat} {q : Int32} (hl : lv P (11, i, j)) : ez_vA ((xh h0 P c).1 (P.2.2.1 (11, i, j))) q = c (11, i, j) q.toNatClampNeg := by rw [xh_at hl (show 11 ≠ 0 by decide)]; rfl
theorem yp11 {i j : Nat} {q v : Int32} (ok : xok P) (hl : lv P (11, i, j)) : ez_hs (xh h0 P c) (P.2.2.1 (11, i, j)) (ez_uA ((xh h0 P c).1 (P.2.2.1 (11, i, j))) q v) = xh h0 P (xu c (11, i, j) q.toNatClampNeg v) := by rw [xh_at hl (show 11 ≠ 0 by decide)]; exact xh_set (f := upd (c (11, i, j)) q.toNatClampNeg v) ok hl (show 11 ≠ 0 by decide) rfl
theorem yn11 {i j : Nat} (hl : lv P (11, i, j)) : ez_isN ((xh h0 P c).1 (P.2.2.1 (11, i, j))) = true := by rw [xh_at hl (show 11 ≠ 0 by decide)]; rfl
theorem yl11 {i j : Nat} (hl : lv P (11, i, j)) : ez_vN ((xh h0 P c).1 (P.2.2.1 (11, i, j))) = 20 := by rw [xh_at hl (show 11 ≠ 0 by decide)]; rfl
theorem ya15 {i j : Nat} {q : Int32} (hl : lv P (15, i, j)) : ez_isA ((xh h0 P c).1 (P.2.2.1 (15, i, j))) 0 q = md_in q 20 := by rw [xh_at hl (show 15 ≠ 0 by decide)]; rfl
theorem yw15 {i j : Nat} {q : Int32} (hl : lv P (15, i, j)) : ez_isW ((xh h0 P c).1 (P.2.2.1 (15, i, j))) 0 q = md_in q 20 := by rw [xh_at hl (show 15 ≠ 0 by decide)]; rfl
theorem yv15 {i j : Nat} {q : Int32} (hl : lv P (15, i, j)) : ez_vA ((xh h0 P c).1 (P.2.2.1 (15, i, j))) q = c (15, i, j) q.toNatClampNeg := by rw [xh_at hl (show 15 ≠ 0 by decide)]; rfl
theorem yp15 {i j : Nat} {q v : Int32} (ok : xok P) (hl : lv P (15, i, j)) : ez_hs (xh h0 P c) (P.2.2.1 (15, i, j)) (ez_uA ((xh h0 P c).1 (P.2.2.1 (15, i, j))) q v) = xh h0 P (xu c (15, i, j) q.toNatClampNeg v) := by rw [xh_at hl (show 15 ≠ 0 by decide)]; exact xh_set (f := upd (c (15, i, j)) q.toNatClampNeg v) ok hl (show 15 ≠ 0 by decide) rfl
theorem yn15 {i j : Nat} (hl : lv P (15, i, j)) : ez_isN ((xh h0 P c).1 (P.2.2.1 (15, i, j))) = true := by rw [xh_at hl (show 15 ≠ 0 by decide)]; rfl
theorem yl15 {i j : Nat} (hl : lv P (15, i, j)) : ez_vN ((xh h0 P c).1 (P.2.2.1 (15, i, j))) = 20 := by rw [xh_at hl (show 15 ≠ 0 by decide)]; rfl
theorem ya16 {i j : Nat} {q : Int32} (hl : lv P (16, i, j)) : (ez_isA ((xh h0 P c).1 (P.2.2.1 (16, i, j))) 1 q || ez_isA ((xh h0 P c).1 (P.2.2.1 (16, i, j))) 2 q) = md_in q 600 := by rw [xh_at hl (show 16 ≠ 0 by decide)]; exact Bool.or_false _
theorem yw16 {i j : Nat} {q : Int32} (hl : lv P (16, i, j)) : ez_isW ((xh h0 P c).1 (P.2.2.1 (16, i, j))) 1 q = md_in q 600 := by rw [xh_at hl (show 16 ≠ 0 by decide)]; rfl
theorem yv16 {i j : Nat} {q : Int32} (hl : lv P (16, i, j)) : ez_vA ((xh h0 P c).1 (P.2.2.1 (16, i, j))) q = c (16, i, j) q.toNatClampNeg := by rw [xh_at hl (show 16 ≠ 0 by decide)]; rfl
theorem yp16 {i j : Nat} {q v : Int32} (ok : xok P) (hl : lv P (16, i, j)) : ez_hs (xh h0 P c) (P.2.2.1 (16, i, j)) (ez_uA ((xh h0 P c).1 (P.2.2.1 (16, i, j))) q v) = xh h0 P (xu c (16, i, j) q.toNatClampNeg v) := by rw [xh_at hl (show 16 ≠ 0 by decide)]; exact xh_set (f := upd (c (16, i, j)) q.toNatClampNeg v) ok hl (show 16 ≠ 0 by decide) rfl
theorem yn16 {i j : Nat} (hl : lv P (16, i, j)) : ez_isN ((xh h0 P c).1 (P.2.2.1 (16, i, j))) = true := by rw [xh_at hl (show 16 ≠ 0 by decide)]; rfl
theorem yl16 {i j : Nat} (hl : lv P (16, i, j)) : ez_vN ((xh h0 P c).1 (P.2.2.1 (16, i, j))) = 600 := by rw [xh_at hl (show 16 ≠ 0 by decide)]; rfl
end CL
