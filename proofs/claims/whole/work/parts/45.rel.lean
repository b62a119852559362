/-! The class's state and the reference's. -/
/-- loadings of a ship, ships of a fleet, statements of a kind: how many among the first -/
def cn (z : md_S) (s : Int32) : Nat → Nat
  | 0 => 0
  | j + 1 => if z.2 31 j = s then cn z s j + 1 else cn z s j
def cf (z : md_S) (f : Int32) : Nat → Nat
  | 0 => 0
  | j + 1 => if z.2 28 j = f then cf z f j + 1 else cf z f j
def ck (z : md_S) (w : Int32) (t : Nat) : Nat → Nat
  | 0 => 0
  | j + 1 => if z.2 44 (16 * t + j) = w then ck z w t j + 1 else ck z w t j
def R0 (c : xR → Nat → Int32) (z : md_S) : Prop :=
  (c (1, 0, 0) 0 = z.1 0 ∧ c (1, 0, 0) 2 = z.1 1 ∧ c (1, 0, 0) 5 = z.1 36 ∧ c (1, 0, 0) 6 = z.1 39 ∧ c (1, 0, 0) 14 = z.1 6) ∧
  (c (2, 1, 0) = z.2 7 ∧ c (2, 3, 0) = z.2 8 ∧ c (16, 0, 0) = z.2 34) ∧
  (c (2, 10, 0) 0 = 1 ∧ c (2, 11, 0) 0 = 1 ∧ ∀ k, 1 ≤ k → c (2, 10, 0) k = z.2 23 k ∧ c (2, 11, 0) k = z.2 24 k ∧ (k < 4 → md_in (z.2 23 k) 1001 = true ∧ md_in (z.2 24 k) 1001 = true)) ∧
  md_in (z.1 0) 3001 = true ∧ md_in (z.1 1) 21 = true ∧ (∀ i, i < (z.1 1).toNatClampNeg → md_in (z.2 7 i) 3 = true) ∧ md_in (z.1 36) 601 = true ∧ ∀ i, (z.2 34 i).toInt8.toInt32 = z.2 34 i
def R1 (P : xP) (c : xR → Nat → Int32) (z : md_S) : Prop :=
  md_in (z.1 2) 41 = true ∧ lsz P c 1 0 (z.1 2).toNatClampNeg ∧ ∀ j, j < (z.1 2).toNatClampNeg → c (4, 1, 0) j = nI j ∧ c (6, j, 0) 0 = z.2 9 j ∧ c (6, j, 0) 1 = z.2 10 j ∧ c (6, j, 0) 2 = z.2 11 j ∧ md_in (z.2 11 j) 501 = true
/-- a lot on both sides -/
def LF (c : xR → Nat → Int32) (z : md_S) (j : Nat) : Prop := c (4, 2, 0) j = nI j ∧ (c (5, j, 0) 0 = z.2 12 j ∧ c (5, j, 0) 1 = z.2 13 j ∧ c (5, j, 0) 2 = z.2 14 j ∧ c (5, j, 0) 3 = z.2 15 j ∧ c (5, j, 0) 4 = z.2 16 j ∧ c (5, j, 0) 5 = z.2 22 j ∧ c (5, j, 0) 6 = z.2 21 j ∧ c (5, j, 0) 7 = z.2 17 j ∧ c (5, j, 0) 8 = z.2 18 j ∧ c (5, j, 0) 9 = z.2 19 j ∧ c (5, j, 0) 10 = z.2 20 j) ∧
    md_in (z.2 12 j) (z.1 1).toNatClampNeg = true ∧ md_in (z.2 13 j) 8 = true ∧ md_in (z.2 14 j) 4 = true ∧ md_in (z.2 15 j) 501 = true ∧ md_in (z.2 17 j) 500000 = true ∧ md_in (z.2 20 j) 500000 = true ∧ z.2 20 j ≤ z.2 17 j ∧ (z.2 21 j = -1 ∨ md_in (z.2 21 j) 3001 = true) ∧ (z.2 22 j = 0 ∨ z.2 17 j = 0) ∧ (z.2 21 j = -1 → z.2 17 j = 0)
def R2 (P : xP) (c : xR → Nat → Int32) (z : md_S) : Prop :=
  md_in (z.1 3) 151 = true ∧ lsz P c 2 0 (z.1 3).toNatClampNeg ∧ (∀ j, j < (z.1 3).toNatClampNeg → LF c z j) ∧
  ∀ j, (z.1 3).toNatClampNeg ≤ j → z.2 17 j = 0 ∧ z.2 18 j = 0 ∧ z.2 20 j = 0
def R5 (c : xR → Nat → Int32) (z : md_S) : Prop :=
  (∀ j, j < (z.1 3).toNatClampNeg → c (5, j, 0) 11 = l_sum (pl_ld z (nI j) 0) (z.1 6).toNatClampNeg ∧ c (5, j, 0) 12 = l_sum (pl_ld z (nI j) 1) (z.1 6).toNatClampNeg) ∧
  md_in (z.1 6) 201 = true ∧ ∀ k, k < (z.1 6).toNatClampNeg → md_in (z.2 31 k) (z.1 5).toNatClampNeg = true ∧ md_in (z.2 32 k) (z.1 3).toNatClampNeg = true ∧ md_in (z.2 33 k) 501 = true
def R3 (P : xP) (c : xR → Nat → Int32) (z : md_S) : Prop :=
  (md_in (z.1 4) 21 = true ∧ md_in (z.1 5) 41 = true ∧ lsz P c 3 0 (z.1 4).toNatClampNeg ∧ lsz P c 4 0 (z.1 5).toNatClampNeg) ∧
  (∀ f, f < (z.1 4).toNatClampNeg → c (4, 3, 0) f = nI f ∧ c (10, f, 0) 0 = nI f ∧ c (10, f, 0) 1 = z.2 25 f ∧ c (10, f, 0) 2 = z.2 26 f ∧ lsz P c 7 f (cf z (nI f) (z.1 5).toNatClampNeg) ∧ (∀ m, m < 20 → c (11, f, 0) m = z.2 27 (20 * f + m)) ∧ (z.2 26 f = 0 → ∀ m, m < 20 → z.2 27 (20 * f + m) = 0)) ∧
  (∀ s, s < (z.1 5).toNatClampNeg → c (4, 4, 0) s = nI s ∧ c (12, s, 0) 0 = z.2 28 s ∧ c (12, s, 0) 1 = z.2 29 s ∧ c (12, s, 0) 2 = l_sum (pl_in z (nI s)) (z.1 6).toNatClampNeg ∧ c (12, s, 0) 3 = z.2 30 s ∧ lsz P c 8 s (cn z (nI s) (z.1 6).toNatClampNeg) ∧ c (4, 7, (z.2 28 s).toNatClampNeg) (cf z (z.2 28 s) s) = nI s ∧
    md_in (z.2 28 s) (z.1 4).toNatClampNeg = true ∧ md_in (z.2 29 s) 501 = true ∧ 0 ≤ l_sum (pl_in z (nI s)) (z.1 6).toNatClampNeg ∧ l_sum (pl_in z (nI s)) (z.1 6).toNatClampNeg ≤ z.2 29 s ∧ (z.2 25 (z.2 28 s).toNatClampNeg = 0 → z.2 30 s = 0)) ∧
  (∀ j, j < (z.1 6).toNatClampNeg → c (4, 8, (z.2 31 j).toNatClampNeg) (cn z (z.2 31 j) j) = nI (cn z (z.2 31 j) j) ∧ c (13, (z.2 31 j).toNatClampNeg, cn z (z.2 31 j) j) 0 = z.2 32 j ∧ c (13, (z.2 31 j).toNatClampNeg, cn z (z.2 31 j) j) 1 = z.2 33 j) ∧
  (∀ f, (z.1 4).toNatClampNeg ≤ f → z.2 25 f = 0 ∧ z.2 26 f = 0 ∧ ∀ m, m < 20 → z.2 27 (20 * f + m) = 0) ∧ ∀ s, (z.1 5).toNatClampNeg ≤ s → z.2 30 s = 0
/-- does a value fit what a clause asks; do CONDS hold -/
def fit (a v : Int32) : Prop := a = -1 ∨ a = v
def cnd (z : md_S) (s : Nat) (so mn sh : Int32) (k : Nat) : Prop := (if z.2 47 (3 * s + k) = 0 then so else if z.2 47 (3 * s + k) = 1 then mn else sh) = z.2 48 (3 * s + k)
def RC (f : Nat → Int32) (z : md_S) (s n : Nat) : Prop := ∀ so mn sh : Int32, 0 ≤ so → 0 ≤ mn → 0 ≤ sh → ((fit (f 0) so ∧ fit (f 1) mn ∧ fit (f 2) sh) ↔ ∀ k, k < n → cnd z s so mn sh k)
/-- a statute's first n statements -/
def RS (P : xP) (c : xR → Nat → Int32) (z : md_S) (t n : Nat) : Prop :=
  c (7, t, 0) 2 = pv z 2 t n ∧ c (7, t, 0) 3 = pv z 3 t n ∧ lsz P c 5 t (ck z 0 t n) ∧ lsz P c 6 t (ck z 1 t n) ∧ ∀ s, s < n → (md_in (z.2 46 (16 * t + s)) 4 = true ∧ (z.2 44 (16 * t + s) = 3 → z.2 45 (16 * t + s) = 0 ∨ z.2 45 (16 * t + s) = 1)) ∧
    (z.2 44 (16 * t + s) = 0 → c (4, 5, t) (ck z 0 t s) = nI (ck z 0 t s) ∧ c (8, t, 2 * ck z 0 t s) 0 = z.2 45 (16 * t + s) ∧ md_in (z.2 45 (16 * t + s)) 1000 = true ∧ RC (c (9, t, 2 * ck z 0 t s)) z (16 * t + s) (z.2 46 (16 * t + s)).toNatClampNeg) ∧
    (z.2 44 (16 * t + s) = 1 → c (4, 6, t) (ck z 1 t s) = nI (ck z 1 t s) ∧ RC (c (9, t, 2 * ck z 1 t s + 1)) z (16 * t + s) (z.2 46 (16 * t + s)).toNatClampNeg)
def R4 (P : xP) (c : xR → Nat → Int32) (z : md_S) : Prop :=
  (md_in (z.1 40) 21 = true ∧ lsz P c 0 0 (z.1 40).toNatClampNeg) ∧ (∀ t, t < (z.1 40).toNatClampNeg → c (4, 0, 0) t = nI t ∧ c (7, t, 0) 0 = z.2 42 t ∧ c (7, t, 0) 1 = z.2 43 t ∧ md_in (z.2 41 t) 17 = true ∧ RS P c z t (z.2 41 t).toNatClampNeg) ∧ ∀ t, (z.1 40).toNatClampNeg ≤ t → z.2 43 t = 0
/-- roles that may live -/
def bd (z : md_S) (r : xR) : Prop := (r.1 = 5 → r.2.1 < (z.1 3).toNatClampNeg) ∧ (r.1 = 6 → r.2.1 < (z.1 2).toNatClampNeg) ∧ (r.1 = 10 ∨ r.1 = 11 → r.2.1 < (z.1 4).toNatClampNeg) ∧ (r.1 = 12 → r.2.1 < (z.1 5).toNatClampNeg) ∧ (r.1 = 13 → r.2.2 < cn z (nI r.2.1) (z.1 6).toNatClampNeg) ∧ (r.1 = 3 ∨ r.1 = 4 → (r.2.1 = 7 → r.2.2 < (z.1 4).toNatClampNeg) ∧ (r.2.1 = 8 → r.2.2 < (z.1 5).toNatClampNeg) ∧ (r.2.1 = 5 ∨ r.2.1 = 6 → r.2.2 < (z.1 40).toNatClampNeg)) ∧ (r.1 = 7 ∨ r.1 = 8 ∨ r.1 = 9 → r.2.1 < (z.1 40).toNatClampNeg) ∧ r.1 ≠ 14 ∧ r.1 ≠ 15
def RV (P : xP) (z : md_S) : Prop := ∀ r, r.1 ≠ 0 → lv P r → bd z r
def RR (P : xP) (c : xR → Nat → Int32) (z : md_S) : Prop := lv P (1, 0, 0) ∧ R0 c z ∧ R1 P c z ∧ R2 P c z ∧ R5 c z ∧ R3 P c z ∧ R4 P c z ∧ RV P z
theorem md_inM {v : Int32} {n n' : Nat} (h : md_in v n = true) (hn : n ≤ n') : md_in v n' = true := by
  unfold md_in at *
  rw [Bool.and_eq_true, decide_eq_true_eq, decide_eq_true_eq] at h
  rw [decide_eq_true h.1, decide_eq_true (show v.toNatClampNeg < n' by omega)]
  rfl
theorem md_inB {v : Int32} {n : Nat} (h0 : 0 ≤ v) (h1 : v ≤ nI n) (hn : n < 2 ^ 31) : md_in v (n + 1) = true := by
  obtain ⟨j, hj, e⟩ := nI_of (Int32.not_lt.mpr h0)
  subst e
  have := (nI_leI hj hn).mp h1
  by_cases h : n + 1 < 2 ^ 31
  · exact md_inN (by omega) h
  · unfold md_in
    rw [nI_clamp hj, decide_eq_true (nI_pos hj), decide_eq_true (show j < n + 1 by omega)]
    rfl
section CG
variable {P P1 : xP} {c c1 : xR → Nat → Int32} {z z1 : md_S}
theorem lsz_cg {L i n : Nat} (h : lsz P c L i n) (hp : P1.2.2.2 (3, L, i) = P.2.2.2 (3, L, i)) (h3 : c1 (3, L, i) 2 = c (3, L, i) 2) (h4 : c1 (4, L, i) = c (4, L, i)) : lsz P1 c1 L i n := by
  unfold lsz at *
  rw [hp, h3, h4]
  exact h
theorem R0_cg (h : R0 c z) (h1 : c1 (1, 0, 0) = c (1, 0, 0)) (h21 : c1 (2, 1, 0) = c (2, 1, 0)) (h23 : c1 (2, 3, 0) = c (2, 3, 0)) (h16 : c1 (16, 0, 0) = c (16, 0, 0)) (h210 : c1 (2, 10, 0) = c (2, 10, 0)) (h211 : c1 (2, 11, 0) = c (2, 11, 0)) (y0 : z1.1 0 = z.1 0) (y1 : z1.1 1 = z.1 1) (y36 : z1.1 36 = z.1 36) (y39 : z1.1 39 = z.1 39) (y6 : z1.1 6 = z.1 6) (z7 : z1.2 7 = z.2 7) (z8 : z1.2 8 = z.2 8) (z34 : z1.2 34 = z.2 34) (z23 : z1.2 23 = z.2 23) (z24 : z1.2 24 = z.2 24) : R0 c1 z1 := by
  unfold R0 at *
  rw [h1, h21, h23, h16, h210, h211, y0, y1, y36, y39, y6, z7, z8, z34, z23, z24]
  exact h
theorem xu_t {r r' : xR} {s t : Nat} {v : Int32} (h : t ≠ s) : xu c r s v r' t = c r' t := by
  by_cases e : r' = r
  · subst e
    rw [xu_s, if_neg h]
  · rw [xu_n e]
theorem R1_cg (h : R1 P c z) (hp : P1.2.2.2 (3, 1, 0) = P.2.2.2 (3, 1, 0)) (h3 : c1 (3, 1, 0) 2 = c (3, 1, 0) 2) (h4 : c1 (4, 1, 0) = c (4, 1, 0)) (h6 : ∀ j, c1 (6, j, 0) = c (6, j, 0)) (z2 : z1.1 2 = z.1 2) (a9 : z1.2 9 = z.2 9) (a10 : z1.2 10 = z.2 10) (a11 : z1.2 11 = z.2 11) : R1 P1 c1 z1 := by
  unfold R1 at *
  rw [z2]
  refine ⟨h.1, lsz_cg h.2.1 hp h3 h4, fun j hj => ?_⟩
  rw [h4, h6, a9, a10, a11]
  exact h.2.2 j hj
theorem R2_cg (h : R2 P c z) (hp : P1.2.2.2 (3, 2, 0) = P.2.2.2 (3, 2, 0)) (h3 : c1 (3, 2, 0) 2 = c (3, 2, 0) 2) (h4 : c1 (4, 2, 0) = c (4, 2, 0)) (h5 : ∀ j t, t < 11 → c1 (5, j, 0) t = c (5, j, 0) t) (z1' : (z.1 1).toNatClampNeg ≤ (z1.1 1).toNatClampNeg) (z3 : z1.1 3 = z.1 3) (a : ∀ t, 12 ≤ t → t ≤ 22 → z1.2 t = z.2 t) : R2 P1 c1 z1 := by
  unfold R2 at *
  rw [z3]
  refine ⟨h.1, lsz_cg h.2.1 hp h3 h4, fun j hj => ?_, ?_⟩
  · unfold LF at *
    rw [h4, h5 j 0 (by omega), h5 j 1 (by omega), h5 j 2 (by omega), h5 j 3 (by omega), h5 j 4 (by omega), h5 j 5 (by omega), h5 j 6 (by omega), h5 j 7 (by omega), h5 j 8 (by omega), h5 j 9 (by omega), h5 j 10 (by omega), a 12 (by omega) (by omega), a 13 (by omega) (by omega), a 14 (by omega) (by omega), a 15 (by omega) (by omega), a 16 (by omega) (by omega), a 17 (by omega) (by omega), a 18 (by omega) (by omega), a 19 (by omega) (by omega), a 20 (by omega) (by omega), a 21 (by omega) (by omega), a 22 (by omega) (by omega)]
    obtain ⟨v1, v2, v3, v4⟩ := h.2.2.1 j hj
    exact ⟨v1, v2, md_inM v3 z1', v4⟩
  · rw [a 17 (by omega) (by omega), a 18 (by omega) (by omega), a 20 (by omega) (by omega)]
    exact h.2.2.2
theorem pl_ld_cg (a : ∀ t, 30 ≤ t → t ≤ 33 → z1.2 t = z.2 t) {l q : Int32} : pl_ld z1 l q = pl_ld z l q := by
  funext j
  unfold pl_ld
  rw [a 30 (by omega) (by omega), a 31 (by omega) (by omega), a 32 (by omega) (by omega), a 33 (by omega) (by omega)]
theorem pl_in_cg (a : ∀ t, 31 ≤ t → t ≤ 33 → z1.2 t = z.2 t) {l : Int32} : pl_in z1 l = pl_in z l := by
  funext j
  unfold pl_in
  rw [a 31 (by omega) (by omega), a 33 (by omega) (by omega)]
theorem R5_cg (h : R5 c z) (h5 : ∀ j t, 11 ≤ t → c1 (5, j, 0) t = c (5, j, 0) t) (z3 : z1.1 3 = z.1 3) (z5 : z1.1 5 = z.1 5) (z6 : z1.1 6 = z.1 6) (a : ∀ t, 30 ≤ t → t ≤ 33 → z1.2 t = z.2 t) : R5 c1 z1 := by
  unfold R5 at *
  rw [z3, z5, z6]
  simp only [pl_ld_cg a, h5 _ 11 (Nat.le_refl _), h5 _ 12 (by omega), a 31 (by omega) (by omega), a 32 (by omega) (by omega), a 33 (by omega) (by omega)]
  exact h
theorem cn_cg (a : z1.2 31 = z.2 31) {s : Int32} : ∀ j, cn z1 s j = cn z s j
  | 0 => rfl
  | j + 1 => by rw [cn, cn, a, cn_cg a j]
theorem cf_cg (a : z1.2 28 = z.2 28) {s : Int32} : ∀ j, cf z1 s j = cf z s j
  | 0 => rfl
  | j + 1 => by rw [cf, cf, a, cf_cg a j]
theorem ck_cg (a : z1.2 44 = z.2 44) {w : Int32} {t : Nat} : ∀ j, ck z1 w t j = ck z w t j
  | 0 => rfl
  | j + 1 => by rw [ck, ck, a, ck_cg a j]
theorem R3_cg (h : R3 P c z) (hp : ∀ L i, L = 3 ∨ L = 4 ∨ L = 7 ∨ L = 8 → P1.2.2.2 (3, L, i) = P.2.2.2 (3, L, i)) (h3 : ∀ L i, L = 3 ∨ L = 4 ∨ L = 7 ∨ L = 8 → c1 (3, L, i) 2 = c (3, L, i) 2 ∧ c1 (4, L, i) = c (4, L, i)) (h10 : ∀ i j, c1 (10, i, j) = c (10, i, j)) (h11 : ∀ i j, c1 (11, i, j) = c (11, i, j)) (h12 : ∀ i j, c1 (12, i, j) = c (12, i, j)) (h13 : ∀ i j, c1 (13, i, j) = c (13, i, j)) (z4 : z1.1 4 = z.1 4) (z5 : z1.1 5 = z.1 5) (z6 : z1.1 6 = z.1 6) (a : ∀ t, 25 ≤ t → t ≤ 33 → z1.2 t = z.2 t) : R3 P1 c1 z1 := by
  have l1 : ∀ {L i n}, L = 3 ∨ L = 4 ∨ L = 7 ∨ L = 8 → lsz P c L i n → lsz P1 c1 L i n := fun hL h => lsz_cg h (hp _ _ hL) (h3 _ _ hL).1 (h3 _ _ hL).2
  unfold R3 at *
  rw [z4, z5, z6]
  simp only [cf_cg (a 28 (by omega) (by omega)), cn_cg (a 31 (by omega) (by omega)), pl_in_cg (fun t h1 h2 => a t (by omega) (by omega)), a 25 (by omega) (by omega), a 26 (by omega) (by omega), a 27 (by omega) (by omega), a 28 (by omega) (by omega), a 29 (by omega) (by omega), a 30 (by omega) (by omega), a 31 (by omega) (by omega), a 32 (by omega) (by omega), a 33 (by omega) (by omega), (h3 3 _ (by omega)).2, (h3 4 _ (by omega)).2, (h3 7 _ (by omega)).2, (h3 8 _ (by omega)).2, h10, h11, h12, h13]
  obtain ⟨⟨u1, u2, u3, u4⟩, u5, u6, u7, u8⟩ := h
  refine ⟨⟨u1, u2, l1 (by omega) u3, l1 (by omega) u4⟩, fun f hf => ?_, fun s hs => ?_, u7, u8⟩
  · obtain ⟨v1, v2, v3, v4, v5, v6⟩ := u5 f hf
    exact ⟨v1, v2, v3, v4, l1 (by omega) v5, v6⟩
  · obtain ⟨v1, v2, v3, v4, v5, v6, v7⟩ := u6 s hs
    exact ⟨v1, v2, v3, v4, v5, l1 (by omega) v6, v7⟩
theorem pv_cg (a44 : z1.2 44 = z.2 44) (a45 : z1.2 45 = z.2 45) {w : Int32} {t : Nat} : ∀ j, pv z1 w t j = pv z w t j
  | 0 => rfl
  | j + 1 => by rw [pv, pv, a44, a45, pv_cg a44 a45 j]
theorem RC_cg {f : Nat → Int32} {s n : Nat} (h : RC f z s n) (a47 : z1.2 47 = z.2 47) (a48 : z1.2 48 = z.2 48) : RC f z1 s n := by
  unfold RC cnd at *
  rw [a47, a48]
  exact h
theorem RS_cg {t n : Nat} (h : RS P c z t n) (hp : ∀ L, L = 5 ∨ L = 6 → P1.2.2.2 (3, L, t) = P.2.2.2 (3, L, t)) (h3 : ∀ L, L = 5 ∨ L = 6 → c1 (3, L, t) 2 = c (3, L, t) 2 ∧ c1 (4, L, t) = c (4, L, t)) (h7 : c1 (7, t, 0) 2 = c (7, t, 0) 2 ∧ c1 (7, t, 0) 3 = c (7, t, 0) 3) (h8 : ∀ j, c1 (8, t, j) = c (8, t, j) ∧ c1 (9, t, j) = c (9, t, j)) (a : ∀ t, 44 ≤ t → t ≤ 48 → z1.2 t = z.2 t) : RS P1 c1 z1 t n := by
  have l1 : ∀ {L n}, L = 5 ∨ L = 6 → lsz P c L t n → lsz P1 c1 L t n := fun hL h => lsz_cg h (hp _ hL) (h3 _ hL).1 (h3 _ hL).2
  unfold RS at *
  obtain ⟨u1, u2, u3, u4, u5⟩ := h
  simp only [pv_cg (a 44 (by omega) (by omega)) (a 45 (by omega) (by omega)), ck_cg (a 44 (by omega) (by omega)), a 44 (by omega) (by omega), a 45 (by omega) (by omega), a 46 (by omega) (by omega), h7.1, h7.2, (h3 5 (by omega)).2, (h3 6 (by omega)).2, (h8 _).1, (h8 _).2]
  refine ⟨u1, u2, l1 (by omega) u3, l1 (by omega) u4, fun s hs => ?_⟩
  obtain ⟨v0, v1, v2⟩ := u5 s hs
  refine ⟨v0, fun h => ?_, fun h => ?_⟩
  · obtain ⟨x1, x2, x3, x4⟩ := v1 h
    exact ⟨x1, x2, x3, RC_cg x4 (a 47 (by omega) (by omega)) (a 48 (by omega) (by omega))⟩
  · obtain ⟨x1, x2⟩ := v2 h
    exact ⟨x1, RC_cg x2 (a 47 (by omega) (by omega)) (a 48 (by omega) (by omega))⟩
theorem R4_cg (h : R4 P c z) (hp : ∀ L i, L = 0 ∨ L = 5 ∨ L = 6 → P1.2.2.2 (3, L, i) = P.2.2.2 (3, L, i)) (h3 : ∀ L i, L = 0 ∨ L = 5 ∨ L = 6 → c1 (3, L, i) 2 = c (3, L, i) 2 ∧ c1 (4, L, i) = c (4, L, i)) (h7 : ∀ i j, c1 (7, i, j) = c (7, i, j)) (h8 : ∀ i j, c1 (8, i, j) = c (8, i, j)) (h9 : ∀ i j, c1 (9, i, j) = c (9, i, j)) (z4 : z1.1 40 = z.1 40) (a : ∀ t, 41 ≤ t → t ≤ 48 → z1.2 t = z.2 t) : R4 P1 c1 z1 := by
  unfold R4 at *
  obtain ⟨⟨u1, u2⟩, u3, u4⟩ := h
  rw [z4, a 41 (by omega) (by omega), a 42 (by omega) (by omega), a 43 (by omega) (by omega)]
  refine ⟨⟨u1, lsz_cg u2 (hp 0 0 (by omega)) (h3 0 0 (by omega)).1 (h3 0 0 (by omega)).2⟩, fun t ht => ?_, u4⟩
  obtain ⟨v1, v2, v3, v4, v5⟩ := u3 t ht
  rw [(h3 0 0 (by omega)).2, h7]
  exact ⟨v1, v2, v3, v4, RS_cg v5 (fun L hL => hp L t (by omega)) (fun L hL => h3 L t (by omega)) ⟨by rw [h7], by rw [h7]⟩ (fun j => ⟨h8 t j, h9 t j⟩) (fun t h1 h2 => a t (by omega) h2)⟩
theorem RV_cg (h : RV P z) (z2 : z1.1 2 = z.1 2) (z3 : z1.1 3 = z.1 3) (z4 : z1.1 4 = z.1 4) (z5 : z1.1 5 = z.1 5) (z6 : z1.1 6 = z.1 6) (z40 : z1.1 40 = z.1 40) (a31 : z1.2 31 = z.2 31) : RV P z1 := by
  intro r hr hl
  have := h r hr hl
  unfold bd at *
  rw [z2, z3, z4, z5, z6, z40, cn_cg a31]
  exact this
theorem RR_lot {j : Nat} (R : RR P c z) (hj : j < (z.1 3).toNatClampNeg) (hc : ∀ r t, r ≠ (5, j, 0) ∨ 11 ≤ t → c1 r t = c r t) (z1e : z1.1 = z.1) (hz : ∀ t i, i ≠ j ∨ t < 17 ∨ 21 < t → z1.2 t i = z.2 t i) (hL : LF c1 z1 j) : RR P c1 z1 := by
  obtain ⟨l1, r0, r1, r2, r5, r3, r4, rv⟩ := R
  have hc' : ∀ r, r ≠ (5, j, 0) → c1 r = c r := fun r h => funext fun t => hc r t (Or.inl h)
  have hz' : ∀ t, t < 17 ∨ 21 < t → z1.2 t = z.2 t := fun t h => funext fun i => hz t i (Or.inr h)
  have n5 : ∀ {k i i2 : Nat}, k ≠ 5 → (k, i, i2) ≠ (5, j, 0) := fun hk e => hk (congrArg Prod.fst e)
  refine ⟨l1, R0_cg r0 (hc' _ (n5 (by decide))) (hc' _ (n5 (by decide))) (hc' _ (n5 (by decide))) (hc' _ (n5 (by decide))) (hc' _ (n5 (by decide))) (hc' _ (n5 (by decide))) (by rw [z1e]) (by rw [z1e]) (by rw [z1e]) (by rw [z1e]) (by rw [z1e]) (hz' _ (by omega)) (hz' _ (by omega)) (hz' _ (by omega)) (hz' _ (by omega)) (hz' _ (by omega)), R1_cg r1 rfl (by rw [hc' _ (n5 (by decide))]) (hc' _ (n5 (by decide))) (fun i => hc' _ (n5 (by decide))) (by rw [z1e]) (hz' _ (by omega)) (hz' _ (by omega)) (hz' _ (by omega)), ?_, R5_cg r5 (fun i t ht => hc _ _ (Or.inr ht)) (by rw [z1e]) (by rw [z1e]) (by rw [z1e]) (fun t h1 h2 => hz' t (by omega)), R3_cg r3 (fun _ _ _ => rfl) (fun _ _ _ => ⟨by rw [hc' _ (n5 (by decide))], hc' _ (n5 (by decide))⟩) (fun _ _ => hc' _ (n5 (by decide))) (fun _ _ => hc' _ (n5 (by decide))) (fun _ _ => hc' _ (n5 (by decide))) (fun _ _ => hc' _ (n5 (by decide))) (by rw [z1e]) (by rw [z1e]) (by rw [z1e]) (fun t h1 h2 => hz' t (by omega)), R4_cg r4 (fun _ _ _ => rfl) (fun _ _ _ => ⟨by rw [hc' _ (n5 (by decide))], hc' _ (n5 (by decide))⟩) (fun _ _ => hc' _ (n5 (by decide))) (fun _ _ => hc' _ (n5 (by decide))) (fun _ _ => hc' _ (n5 (by decide))) (by rw [z1e]) (fun t h1 h2 => hz' t (by omega)), RV_cg rv (by rw [z1e]) (by rw [z1e]) (by rw [z1e]) (by rw [z1e]) (by rw [z1e]) (by rw [z1e]) (hz' _ (by omega))⟩
  obtain ⟨u1, u2, u3, u4⟩ := r2
  refine ⟨by rw [z1e]; exact u1, by rw [z1e]; exact lsz_cg u2 rfl (by rw [hc' _ (n5 (by decide))]) (hc' _ (n5 (by decide))), fun i hi => ?_, fun i hi => ?_⟩
  · rw [z1e] at hi
    by_cases e : i = j
    · subst e
      exact hL
    · have h5 : c1 (5, i, 0) = c (5, i, 0) := hc' _ (fun h => e (congrArg (fun x => x.2.1) h))
      have h := u3 i hi
      unfold LF at *
      rw [h5, hc' (4, 2, 0) (n5 (by decide)), z1e, hz _ _ (Or.inl e), hz _ _ (Or.inl e), hz _ _ (Or.inl e), hz _ _ (Or.inl e), hz _ _ (Or.inl e), hz _ _ (Or.inl e), hz _ _ (Or.inl e), hz _ _ (Or.inl e), hz _ _ (Or.inl e), hz _ _ (Or.inl e), hz _ _ (Or.inl e)]
      exact h
  · rw [z1e] at hi
    have e : i ≠ j := by omega
    rw [hz _ _ (Or.inl e), hz _ _ (Or.inl e), hz _ _ (Or.inl e)]
    exact u4 i hi
end CG
/-- a call of the class answers as the reference does -/
def xop (g : ez_G) (k : Nat) (as : List Value) (h0 : ez_H) (P : xP) (c : xR → Nat → Int32) (y : md_S × Int32) : Prop := ∃ h1 P1 c1, ez_ev g k (.ref (P.2.2.1 (1, 0, 0)) :: as) (xh h0 P c) = some (some (.int y.2), xh h1 P1 c1) ∧ xw h1 P1 c1 ∧ RR P1 c1 y.1 ∧ P1.2.2.1 (1, 0, 0) = P.2.2.1 (1, 0, 0) ∧ xfr h0 P h1 P1 1000 12000
section OP
variable {g : ez_G} {h0 : ez_H} {P : xP} {c c1 : xR → Nat → Int32} {z : md_S}
theorem xop_s {k : Nat} {as : List Value} {y : md_S × Int32} (he : ez_ev g k (.ref (P.2.2.1 (1, 0, 0)) :: as) (xh h0 P c) = some (some (.int y.2), xh h0 P c1)) (w : xw h0 P c1) (R : RR P c1 y.1) : xop g k as h0 P c y := ⟨h0, P, c1, he, w, R, rfl, xfr_r⟩
theorem w_lvs (w : xw h0 P c) (l1 : lv P (1, 0, 0)) : lv P (1, 0, 0) ∧ lv P (2, 1, 0) ∧ lv P (2, 3, 0) ∧ lv P (16, 0, 0) ∧ lv P (3, 0, 0) ∧ lv P (3, 1, 0) ∧ lv P (3, 2, 0) ∧ lv P (2, 10, 0) ∧ lv P (2, 11, 0) ∧ lv P (3, 3, 0) ∧ lv P (3, 4, 0) := by
  have h : ∀ r', xrd (1, 0, 0) r' (c (1, 0, 0)) → lv P r' := fun r' hr => xw_cl w l1 hr (show 1 ≠ 0 by decide) (show 1 ≠ 3 by decide)
  exact ⟨l1, h _ (Or.inl rfl), h _ (Or.inr (Or.inl rfl)), h _ (Or.inr (Or.inr (Or.inl rfl))), h _ (Or.inr (Or.inr (Or.inr (Or.inl rfl)))), h _ (Or.inr (Or.inr (Or.inr (Or.inr (Or.inl rfl))))), h _ (Or.inr (Or.inr (Or.inr (Or.inr (Or.inr (Or.inl rfl)))))), h _ (Or.inr (Or.inr (Or.inr (Or.inr (Or.inr (Or.inr (Or.inl rfl))))))), h _ (Or.inr (Or.inr (Or.inr (Or.inr (Or.inr (Or.inr (Or.inr (Or.inl rfl)))))))), h _ (Or.inr (Or.inr (Or.inr (Or.inr (Or.inr (Or.inr (Or.inr (Or.inr (Or.inl rfl))))))))), h _ (Or.inr (Or.inr (Or.inr (Or.inr (Or.inr (Or.inr (Or.inr (Or.inr (Or.inr rfl))))))))) ⟩
theorem ix_p {l : Int32} {n : Nat} (hn : n < 2 ^ 31) (h : 0 ≤ l ∧ l ≤ nI n - 1) : ∃ j, j < n ∧ l = nI j := by
  obtain ⟨j, hj, e⟩ := nI_of (Int32.not_lt.mpr h.1)
  refine ⟨j, ?_, e⟩
  subst e
  have h2 := h.2
  cases n with
  | zero =>
    rw [nI_0] at h2
    exact absurd (Int32.le_trans h.1 h2) (by decide)
  | succ n =>
    rw [nI_pred] at h2
    have := (nI_leI hj (by omega)).mp h2
    omega
theorem ix_t {j n : Nat} (hj : j < n) (hn : n < 2 ^ 31) : 0 ≤ nI j ∧ nI j ≤ nI n - 1 := by
  refine ⟨nI_pos' (by omega), ?_⟩
  cases n with
  | zero => omega
  | succ n =>
    rw [nI_pred]
    exact nI_le (by omega) (by omega)
end OP
section CH
variable {g : ez_G} {h h0 : ez_H} {P : xP} {c : xR → Nat → Int32}
theorem c_within {v lo hi : Int32} : ez_ev g 68 [.int v, .int lo, .int hi] h = some (some (.int (if lo ≤ v ∧ v ≤ hi then 1 else 0)), h) := by
  rw [e68]
  simp only [s68_0, s68_1, s68_2, s68_5, s68_6, s68_7, s68_10, s68_11, s68_14, s68_15, zl_n, zl_i, zl_r, zl_0, z10, z01, ez_bd_s, ez_bd_n, eq_self, true_or, or_true, if_true, if_false, zb_eq, zb_eq1, zb_em, zb_em2, ite_not, List.append_nil, List.cons_append, List.nil_append, reduceCtorEq, not_true_eq_false, not_false_eq_true]
  by_cases h1 : v < lo
  · rw [if_pos h1, if_neg (fun h => absurd h1 (Int32.not_lt.mpr h.1))]
  · rw [if_neg h1]
    by_cases h2 : hi < v
    · rw [if_pos h2, if_neg (fun h => absurd h2 (Int32.not_lt.mpr h.2))]
    · rw [if_neg h2, if_pos ⟨Int32.not_lt.mp h1, Int32.not_lt.mp h2⟩]
theorem c_isShire {v : Int32} : ez_ev g 69 [.int v] h = some (some (.int (if 0 ≤ v ∧ v ≤ 7 then 1 else 0)), h) := by
  rw [e69]
  simp only [s69_0, s69_1, s69_2, s69_4, s69_7, zl_n, zl_i, zl_r, zl_0, z10, z01, ez_bd_s, ez_bd_n, eq_self, true_or, or_true, if_true, if_false, zb_eq, zb_eq1, zb_em, zb_em2, ite_not, List.append_nil, List.cons_append, List.nil_append, reduceCtorEq, not_true_eq_false, not_false_eq_true, c_within]
theorem c_isSort {v : Int32} : ez_ev g 70 [.int v] h = some (some (.int (if 0 ≤ v ∧ v ≤ 3 then 1 else 0)), h) := by
  rw [e70]
  simp only [s70_0, s70_1, s70_2, s70_3, s70_6, zl_n, zl_i, zl_r, zl_0, z10, z01, ez_bd_s, ez_bd_n, eq_self, true_or, or_true, if_true, if_false, zb_eq, zb_eq1, zb_em, zb_em2, ite_not, List.append_nil, List.cons_append, List.nil_append, reduceCtorEq, not_true_eq_false, not_false_eq_true, c_within]
theorem c_isMerchant {v : Int32} (l1 : lv P (1, 0, 0)) : ez_ev g 71 [.ref (P.2.2.1 (1, 0, 0)), .int v] (xh h0 P c) = some (some (.int (if 0 ≤ v ∧ v ≤ c (1, 0, 0) 2 - 1 then 1 else 0)), xh h0 P c) := by
  rw [e71]
  simp only [s71_0, s71_1, s71_2, s71_3, s71_6, s71_7, s71_8, s71_11, zl_n, zl_i, zl_r, zl_0, z10, z01, ez_bd_s, ez_bd_n, eq_self, true_or, or_true, if_true, if_false, zb_eq, zb_eq1, zb_em, zb_em2, ite_not, List.append_nil, List.cons_append, List.nil_append, reduceCtorEq, not_true_eq_false, not_false_eq_true, xo1, xa1, xf1_0, xv1_0, xp1_0, xf1_1, xv1_1, xf1_2, xv1_2, xp1_2, xf1_3, xv1_3, xf1_4, xv1_4, xf1_5, xv1_5, xp1_5, xf1_6, xv1_6, xp1_6, xf1_7, xv1_7, xf1_8, xv1_8, xf1_9, xv1_9, xf1_10, xv1_10, xf1_11, xv1_11, xf1_12, xv1_12, xf1_13, xv1_13, xf1_14, xv1_14, xp1_14, xo3, xa3, xf3_0, xv3_0, xp3_0, xf3_1, xv3_1, xf3_2, xv3_2, xp3_2, xo5, xa5, xf5_0, xv5_0, xp5_0, xf5_1, xv5_1, xp5_1, xf5_2, xv5_2, xp5_2, xf5_3, xv5_3, xp5_3, xf5_4, xv5_4, xp5_4, xf5_5, xv5_5, xp5_5, xf5_6, xv5_6, xp5_6, xf5_7, xv5_7, xp5_7, xf5_8, xv5_8, xp5_8, xf5_9, xv5_9, xp5_9, xf5_10, xv5_10, xp5_10, xf5_11, xv5_11, xp5_11, xf5_12, xv5_12, xp5_12, xo6, xa6, xf6_0, xv6_0, xp6_0, xf6_1, xv6_1, xp6_1, xf6_2, xv6_2, xp6_2, xo7, xa7, xf7_0, xv7_0, xp7_0, xf7_1, xv7_1, xp7_1, xf7_2, xv7_2, xp7_2, xf7_3, xv7_3, xp7_3, xf7_4, xv7_4, xf7_5, xv7_5, xo8, xa8, xf8_0, xv8_0, xp8_0, xf8_1, xv8_1, xo10, xa10, xf10_0, xv10_0, xp10_0, xf10_1, xv10_1, xp10_1, xf10_2, xv10_2, xp10_2, xf10_3, xv10_3, xf10_4, xv10_4, xo12, xa12, xf12_0, xv12_0, xf12_1, xv12_1, xp12_1, xf12_2, xv12_2, xp12_2, xf12_3, xv12_3, xp12_3, xf12_4, xv12_4, xo13, xa13, xf13_0, xv13_0, xf13_1, xv13_1, xp13_1, xo14, xa14, xf14_0, xv14_0, xf14_1, xv14_1, xp14_1, xf14_2, xv14_2, xp14_2, xf14_3, xv14_3, xp14_3, ya2_1, yw2_1, yv2_1, yp2_1, yn2_1, yl2_1, ya2_3, yw2_3, yv2_3, yp2_3, yn2_3, yl2_3, ya2_10, yw2_10, yv2_10, yp2_10, yn2_10, yl2_10, ya2_11, yw2_11, yv2_11, yp2_11, yn2_11, yl2_11, ya9, yw9, yv9, yp9, yn9, yl9, ya11, yw11, yv11, yp11, yn11, yl11, ya15, yw15, yv15, yp15, yn15, yl15, ya16, yw16, yv16, yp16, yn16, yl16, ok10, ok11, ok1i, xu_s, xu_n, ne_eq, Prod.mk.injEq, Nat.reduceEqDiff, false_and, and_false, not_false_eq_true, c_within, l1]
end CH
