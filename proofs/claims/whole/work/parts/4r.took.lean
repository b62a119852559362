section TK
variable {g : ez_G} {h h0 h2 : ez_H} {P P2 : xP} {c c' c2 : xR → Nat → Int32} {z Z : md_S} {N : Nat}
theorem sk_cg {f f' : Nat → Int32} : ∀ d i, (∀ q, i ≤ q → q < i + d → f q = f' q) → sk f d i = sk f' d i
  | 0, _, _ => rfl
  | d + 1, i, h => by rw [sk, sk, h i (Nat.le_refl _) (by omega), sk_cg d (i + 1) (fun q h1 h2 => h q (by omega) (by omega))]
theorem lte_cg {f f' : Nat → Int32} : ∀ d i, (∀ q, i ≤ q → q < i + d → f q = f' q) → lte f d i = lte f' d i
  | 0, _, _ => rfl
  | d + 1, i, h => by rw [lte, lte, h i (Nat.le_refl _) (by omega), lte_cg d (i + 1) (fun q h1 h2 => h q (by omega) (by omega))]
theorem dte_cg {f f' : Nat → Int32} : ∀ d i, (∀ q, i ≤ q → q < i + d → f q = f' q) → dte f d i = dte f' d i
  | 0, _, _ => rfl
  | d + 1, i, h => by rw [dte, dte, h i (Nat.le_refl _) (by omega), dte_cg d (i + 1) (fun q h1 h2 => h q (by omega) (by omega))]
theorem sk_nb {f : Nat → Int32} : ∀ d i, sk f d i < i + d → ¬ f (sk f d i) = 32 ∧ ¬ f (sk f d i) = 10
  | 0, i, h => by rw [sk] at h; omega
  | d + 1, i, h => by
    rw [sk] at h ⊢
    by_cases e1 : f i = 32
    · rw [if_pos e1] at h ⊢
      exact sk_nb d (i + 1) (by omega)
    · rw [if_neg e1] at h ⊢
      by_cases e2 : f i = 10
      · rw [if_pos e2] at h ⊢
        exact sk_nb d (i + 1) (by omega)
      · rw [if_neg e2]
        exact ⟨e1, e2⟩
theorem sk_id {f : Nat → Int32} {d s : Nat} (h : 0 < d → ¬ f s = 32 ∧ ¬ f s = 10) : sk f d s = s := by
  cases d with
  | zero => rfl
  | succ d =>
    obtain ⟨h1, h2⟩ := h (by omega)
    rw [sk, if_neg h1, if_neg h2]
theorem lte_in {f : Nat → Int32} : ∀ d i q, i ≤ q → q < lte f d i → ¬ f q < 97 ∧ ¬ 122 < f q
  | 0, i, q, h1, h2 => by rw [lte] at h2; omega
  | d + 1, i, q, h1, h2 => by
    rw [lte] at h2
    by_cases e1 : f i < 97
    · rw [if_pos e1] at h2; omega
    · rw [if_neg e1] at h2
      by_cases e2 : 122 < f i
      · rw [if_pos e2] at h2; omega
      · rw [if_neg e2] at h2
        by_cases e : q = i
        · rw [e]; exact ⟨e1, e2⟩
        · exact lte_in d (i + 1) q (by omega) h2
theorem dte_in {f : Nat → Int32} : ∀ d i q, i ≤ q → q < dte f d i → ¬ f q < 48 ∧ ¬ 57 < f q
  | 0, i, q, h1, h2 => by rw [dte] at h2; omega
  | d + 1, i, q, h1, h2 => by
    rw [dte] at h2
    by_cases e1 : f i < 48
    · rw [if_pos e1] at h2; omega
    · rw [if_neg e1] at h2
      by_cases e2 : 57 < f i
      · rw [if_pos e2] at h2; omega
      · rw [if_neg e2] at h2
        by_cases e : q = i
        · rw [e]; exact ⟨e1, e2⟩
        · exact dte_in d (i + 1) q (by omega) h2
/-- the reader and the reference stand at one place -/
def RD (c : xR → Nat → Int32) (z : md_S) : Prop := md_p z ∧ c (14, 0, 0) 1 = z.1 37 ∧ c (14, 0, 0) 2 = nI (zs z) ∧ c (14, 0, 0) 3 = nI (tE (c (16, 0, 0)) (z.1 37).toNatClampNeg (zs z)) ∧ ∀ i, i < (z.1 37).toNatClampNeg → z.2 35 i = c (16, 0, 0) i
theorem RD_f (r : RD c z) : ∃ N s, N ≤ 600 ∧ s ≤ N ∧ (z.1 37).toNatClampNeg = N ∧ z.1 37 = nI N ∧ zs z = s ∧ (s < N → ¬ c (16, 0, 0) s = 32 ∧ ¬ c (16, 0, 0) s = 10) ∧ ze z = lte (c (16, 0, 0)) (N - s) s ∧ zd z = dte (c (16, 0, 0)) (N - s) s := by
  obtain ⟨p, r1, r2, r3, r4⟩ := r
  obtain ⟨e, hN⟩ := md_inE p.1
  have hz := zs_le p
  have hb := p.2.2
  refine ⟨_, _, by omega, hz.2, rfl, e, rfl, fun hs => ?_, ?_, ?_⟩
  · have := sk_nb (f := z.2 35) ((z.1 37).toNatClampNeg - (z.1 38).toNatClampNeg) (z.1 38).toNatClampNeg (by show zs z < _; omega)
    have h5 : z.2 35 (zs z) = c (16, 0, 0) (zs z) := r4 _ hs
    rw [← h5]
    exact this
  · unfold ze
    exact lte_cg _ _ (fun q h1 h2 => r4 q (by omega))
  · unfold zd
    exact dte_cg _ _ (fun q h1 h2 => r4 q (by omega))
theorem RD_to {c' : xR → Nat → Int32} {z' : md_S} {p : Nat} (r : RD c z) (hp : p ≤ (z.1 37).toNatClampNeg) (z37 : z'.1 37 = z.1 37) (z38 : z'.1 38 = nI p) (z35 : z'.2 35 = z.2 35) (c16 : c' (16, 0, 0) = c (16, 0, 0)) (c1 : c' (14, 0, 0) 1 = c (14, 0, 0) 1) (c2 : c' (14, 0, 0) 2 = nI (sk (c (16, 0, 0)) ((z.1 37).toNatClampNeg - p) p)) (c3 : c' (14, 0, 0) 3 = nI (tE (c (16, 0, 0)) (z.1 37).toNatClampNeg (sk (c (16, 0, 0)) ((z.1 37).toNatClampNeg - p) p))) : RD c' z' := by
  obtain ⟨pp, r1, r2, r3, r4⟩ := r
  obtain ⟨e, hN⟩ := md_inE pp.1
  have ez : zs z' = sk (c (16, 0, 0)) ((z.1 37).toNatClampNeg - p) p := by
    unfold zs
    rw [z37, z38, z35, nI_clamp (by omega)]
    exact sk_cg _ _ (fun q h1 h2 => r4 q (by omega))
  refine ⟨⟨by rw [z37]; exact pp.1, by rw [z38]; exact md_inN (by omega) (by decide), by rw [z37, z38, nI_clamp (by omega)]; exact hp⟩, ?_, ?_, ?_, ?_⟩
  · rw [c1, z37]; exact r1
  · rw [c2, ez]
  · rw [c3, z37, ez, c16]
  · rw [z37, z35, c16]; exact r4
/-- no token taken: the reference has only skipped blanks -/
theorem RD_st {z' : md_S} (r : RD c z) (z37 : z'.1 37 = z.1 37) (z38 : z'.1 38 = nI (zs z)) (z35 : z'.2 35 = z.2 35) : RD c z' := by
  obtain ⟨N, s, hN, hs, eN, eN', es, nb, -, -⟩ := RD_f r
  have hid : sk (c (16, 0, 0)) (N - s) s = s := sk_id (fun h => nb (by omega))
  refine RD_to r (p := s) (by omega) z37 (by rw [z38, es]) z35 rfl rfl ?_ ?_
  · rw [eN, hid, ← es]; exact r.2.2.1
  · rw [eN, hid, ← es, ← eN]; exact r.2.2.2.1
def wN (b : Nat → Nat) : Nat → Nat
  | 0 => 0
  | n + 1 => 256 * wN b n + b n
theorem wN_inj {a b : Nat → Nat} : ∀ n m, (∀ i, i < n → 0 < a i ∧ a i < 256) → (∀ i, i < m → 0 < b i ∧ b i < 256) → wN a n = wN b m → n = m ∧ ∀ i, i < n → a i = b i
  | 0, 0, _, _, _ => ⟨rfl, fun i h => absurd h (by omega)⟩
  | 0, m + 1, _, hb, e => by
    have := hb m (by omega)
    rw [wN, wN] at e
    omega
  | n + 1, 0, ha, _, e => by
    have := ha n (by omega)
    rw [wN, wN] at e
    omega
  | n + 1, m + 1, ha, hb, e => by
    have h1 := ha n (by omega)
    have h2 := hb m (by omega)
    rw [wN, wN] at e
    obtain ⟨e1, e2⟩ := wN_inj n m (fun i hi => ha i (by omega)) (fun i hi => hb i (by omega)) (by omega)
    subst e1
    refine ⟨rfl, fun i hi => ?_⟩
    by_cases ei : i = n
    · subst ei; omega
    · exact e2 i (by omega)
theorem wN_lt {b : Nat → Nat} : ∀ n, (∀ i, i < n → b i < 256) → wN b n < 256 ^ n
  | 0, _ => by rw [wN]; decide
  | n + 1, h => by
    have := wN_lt n (fun i hi => h i (by omega))
    have := h n (by omega)
    rw [wN, Nat.pow_succ]
    omega
theorem lN_tn {n : Nat} (h : n < 2 ^ 64) : (lN n).toBitVec.toNat = n := by
  show (BitVec.ofNat 64 n).toNat = n
  rw [BitVec.toNat_ofNat, Nat.mod_eq_of_lt h]
theorem shl8 {x b : Nat} (hx : x < 2 ^ 48) (hb : b < 256) : lN x <<< ((8 : Int32).toInt64 &&& 63) ||| lN b = lN (256 * x + b) := by
  apply Int64.toBitVec_inj.mp
  apply BitVec.eq_of_toNat_eq
  have h1 : (lN x <<< ((8 : Int32).toInt64 &&& 63)).toBitVec.toNat = x * 2 ^ 8 := by
    show ((lN x).toBitVec <<< (((8 : Int32).toInt64 &&& 63).toBitVec.smod 64).toNat).toNat = _
    rw [show (((8 : Int32).toInt64 &&& 63).toBitVec.smod 64).toNat = 8 by decide, BitVec.toNat_shiftLeft, Nat.shiftLeft_eq, lN_tn (by omega), Nat.mod_eq_of_lt (by omega)]
  rw [Int64.toBitVec_or, BitVec.toNat_or, h1, lN_tn (by omega), lN_tn (by omega)]
  have h2 : x * 2 ^ 8 ||| b = x * 2 ^ 8 + b := by rw [← Nat.shiftLeft_eq, Nat.shiftLeft_add_eq_or_of_lt (by omega)]
  rw [h2]
  omega
theorem wv_n {f : Nat → Int32} {s : Nat} {b : Nat → Nat} : ∀ n, n ≤ 7 → (∀ i, i < n → f (s + i) = nI (b i) ∧ b i < 256) → wv f s n = lN (wN b n)
  | 0, _, _ => rfl
  | n + 1, hn, h => by
    obtain ⟨e, hb⟩ := h n (by omega)
    have hl := wN_lt n (fun i hi => (h i (by omega)).2)
    have hp : 256 ^ n ≤ 256 ^ 6 := Nat.pow_le_pow_right (by decide) (by omega)
    have h48 : wN b n < 2 ^ 48 := Nat.lt_of_lt_of_le hl (Nat.le_trans hp (by decide))
    rw [wv, if_neg (by omega), wv_n n (by omega) (fun i hi => h i (by omega)), e, nI_l (by omega), shl8 h48 hb, wN]
theorem lcode : ∀ j, j < 11 → j ≠ 5 → 2 ≤ wl j ∧ ∀ i, i < wl j → 97 ≤ wb j i ∧ wb j i ≤ 122 := by decide
/-- the token is the word -/
theorem tok_iff {j : Nat} {W : Int64} (r : RD c z) (hj : j < 11) (h5 : j ≠ 5) (hW : W = lN (wN (wb j) (wl j))) : (tE (c (16, 0, 0)) (z.1 37).toNatClampNeg (zs z) = zs z + wl j ∧ ∀ i, i < wl j → c (16, 0, 0) (zs z + i) = nI (wb j i)) ↔ pm_wv z = W := by
  obtain ⟨N, s, hN, hs, eN, eN', es, nb, eze, ezd⟩ := RD_f r
  obtain ⟨l2, lw⟩ := lcode j hj h5
  have w6 := (wl6 j hj).1
  rw [eN, es]
  unfold pm_wv
  rw [eze, es]
  have hl := lte_le (f := c (16, 0, 0)) (N - s) s
  by_cases hlet : s < N ∧ ¬ c (16, 0, 0) s < 97 ∧ ¬ 122 < c (16, 0, 0) s
  · obtain ⟨hsN, f1, f2⟩ := hlet
    have eT : tE (c (16, 0, 0)) N s = lte (c (16, 0, 0)) (N - s) s := by
      unfold tE
      rw [if_pos hsN, if_neg f1, if_neg f2]
    rw [eT]
    generalize hE : lte (c (16, 0, 0)) (N - s) s = E at hl ⊢
    have hb : ∀ i, i < E - s → ∃ b, 97 ≤ b ∧ b ≤ 122 ∧ c (16, 0, 0) (s + i) = nI b := fun i hi => by
      obtain ⟨u1, u2⟩ := lte_in (f := c (16, 0, 0)) (N - s) s (s + i) (by omega) (by rw [hE]; omega)
      obtain ⟨b, hb, e⟩ := nI_of2 (n := 122) (by decide) (Int32.not_lt.mpr (Int32.le_trans (by decide) (Int32.not_lt.mp u1))) (Int32.not_lt.mp u2)
      refine ⟨b, ?_, hb, e⟩
      rw [e] at u1
      exact Nat.le_of_not_lt fun h => u1 (nI_lt (b := 97) h (by decide))
    have hb' : ∀ i, i < E - s → c (16, 0, 0) (s + i) = nI (c (16, 0, 0) (s + i)).toNatClampNeg ∧ 97 ≤ (c (16, 0, 0) (s + i)).toNatClampNeg ∧ (c (16, 0, 0) (s + i)).toNatClampNeg ≤ 122 := fun i hi => by
      obtain ⟨b, u1, u2, e⟩ := hb i hi
      rw [e, nI_clamp (by omega)]
      exact ⟨rfl, u1, u2⟩
    have hv7 : E - s ≤ 7 → wv (z.2 35) s (E - s) = lN (wN (fun i => (c (16, 0, 0) (s + i)).toNatClampNeg) (E - s)) := fun h7 => wv_n _ h7 (fun i hi => by
      obtain ⟨u0, u1, u2⟩ := hb' i hi
      rw [r.2.2.2.2 (s + i) (by omega)]
      exact ⟨u0, by omega⟩)
    have hlt : ∀ n b, n ≤ 7 → (∀ i, i < n → b i < 256) → wN b n < 2 ^ 63 := fun n b hn hbb => Nat.lt_of_lt_of_le (wN_lt n hbb) (Nat.le_trans (Nat.pow_le_pow_right (show 0 < 256 by decide) hn) (by decide))
    have hWl : wN (wb j) (wl j) < 2 ^ 63 := hlt _ _ (by omega) (fun i hi => by have := lw i hi; omega)
    constructor
    · rintro ⟨e1, e2⟩
      have eL : E - s = wl j := by omega
      rw [if_pos (by omega), hv7 (by omega), eL, hW]
      congr 1
      have : ∀ n, n ≤ wl j → wN (fun i => (c (16, 0, 0) (s + i)).toNatClampNeg) n = wN (wb j) n := fun n => by
        induction n with
        | zero => intro _; rfl
        | succ n ih =>
          intro hn
          have := lw n (by omega)
          rw [wN, wN, ih (by omega), e2 n (by omega), nI_clamp (by omega)]
      exact this _ (Nat.le_refl _)
    · intro h
      by_cases h7 : E - s ≤ 7
      · rw [if_pos h7, hv7 h7, hW] at h
        have h := (pk_lEQ (hlt _ _ h7 (fun i hi => by have := hb' i hi; omega)) hWl).mp h
        obtain ⟨e1, e2⟩ := wN_inj _ _ (fun i hi => by have := hb' i hi; omega) (fun i hi => by have := lw i hi; omega) h
        refine ⟨by omega, fun i hi => ?_⟩
        have u := hb' i (by omega)
        rw [u.1, e2 i (by omega)]
      · rw [if_neg h7, hW] at h
        have h0 : (0 : Int64) = lN 0 := rfl
        rw [h0] at h
        have h := (pk_lEQ (by decide) hWl).mp h
        obtain ⟨n, hn⟩ : ∃ n, wl j = n + 1 := ⟨wl j - 1, by omega⟩
        rw [hn, wN] at h
        have := lw n (by omega)
        omega
  · have eE : lte (c (16, 0, 0)) (N - s) s = s := by
      by_cases hsN : s < N
      · rw [show N - s = (N - s - 1) + 1 by omega, lte]
        by_cases f1 : c (16, 0, 0) s < 97
        · rw [if_pos f1]
        · rw [if_neg f1]
          by_cases f2 : 122 < c (16, 0, 0) s
          · rw [if_pos f2]
          · exact absurd ⟨hsN, f1, f2⟩ hlet
      · rw [show N - s = 0 by omega, lte]
    rw [eE, Nat.sub_self, if_pos (by decide), wv]
    constructor
    · rintro ⟨e1, e2⟩
      have hT := tE_le (F := c (16, 0, 0)) hs
      have e0 := e2 0 (by omega)
      rw [Nat.add_zero] at e0
      have := lw 0 (by omega)
      refine absurd ⟨by omega, ?_, ?_⟩ hlet
      · rw [e0]; exact nI_nlt (b := 97) (by omega) (by omega)
      · rw [e0]; exact nI_nlt (a := 122) (by omega) (by decide)
    · intro h
      rw [hW] at h
      have h0 : (0 : Int64) = lN 0 := rfl
      rw [h0] at h
      have hWl : wN (wb j) (wl j) < 2 ^ 63 := Nat.lt_of_lt_of_le (wN_lt _ (fun i hi => by have := lw i hi; omega)) (Nat.le_trans (Nat.pow_le_pow_right (show 0 < 256 by decide) (show wl j ≤ 7 by omega)) (by decide))
      have h := (pk_lEQ (by decide) hWl).mp h
      obtain ⟨n, hn⟩ : ∃ n, wl j = n + 1 := ⟨wl j - 1, by omega⟩
      rw [hn, wN] at h
      have := lw n (by omega)
      omega
end TK
