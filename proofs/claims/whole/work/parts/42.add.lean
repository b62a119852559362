section AD
variable {g : ez_G} {h h0 : ez_H} {P : xP} {c : xR → Nat → Int32}
theorem xel_4 {L i v : Nat} : (xel L i v).1 ≠ 4 ∧ (xel L i v).1 ≠ 0 := by
  unfold xel
  split <;> (dsimp only; exact ⟨by decide, by decide⟩)
theorem xel_any {L i v : Nat} (hl : lv P (xel L i v)) : ez_any ((xh h0 P c).1 (P.2.2.1 (xel L i v))) = true := by
  revert hl
  unfold xel
  split
  all_goals intro hl
  · exact xa7 hl
  · exact xa6 hl
  · exact xa5 hl
  · exact xa10 hl
  · exact xa12 hl
  · exact xa8 hl
  · exact xa8 hl
  · exact xa12 hl
  · exact xa13 hl
/-- what a cell refers to -/
def xrd (r r' : xR) (f : Nat → Int32) : Prop := match r with
  | (1, _, _) => r' = (2, 1, 0) ∨ r' = (2, 3, 0) ∨ r' = (16, 0, 0) ∨ r' = (3, 0, 0) ∨ r' = (3, 1, 0) ∨ r' = (3, 2, 0) ∨ r' = (2, 10, 0) ∨ r' = (2, 11, 0) ∨ r' = (3, 3, 0) ∨ r' = (3, 4, 0)
  | (3, i, j) => r' = (4, i, j)
  | (4, i, j) => ∃ q, ¬ f q = -1 ∧ r' = xel i j (f q).toNatClampNeg
  | (7, i, _) => r' = (3, 5, i) ∨ r' = (3, 6, i)
  | (8, i, j) => r' = (9, i, j)
  | (10, i, _) => r' = (3, 7, i) ∨ r' = (11, i, 0)
  | (12, i, _) => r' = (10, (f 0).toNatClampNeg, 0) ∨ r' = (3, 8, i)
  | (13, _, _) => r' = (5, (f 0).toNatClampNeg, 0)
  | (14, _, _) => r' = (16, 0, 0)
  | _ => False
/-- a list that has an array -/
def xct (P : xP) (r : xR) : Prop := r.1 = 3 → P.2.2.2 r ≠ 0
theorem ce_cg {P' : xP} {r : xR} {f : Nat → Int32} (h1 : P'.1 = P.1) (h2 : ∀ r', xrd r r' f → xct P r → P'.2.2.1 r' = P.2.2.1 r') (h3 : r.1 = 3 → P'.2.2.2 r = P.2.2.2 r) (h4 : r.1 = 4 → P'.2.2.2 (3, r.2) = P.2.2.2 (3, r.2)) : ce P' r f = ce P r f := by
  obtain ⟨k, i, j⟩ := r
  have h5 : k ≠ 3 → ∀ r', xrd (k, i, j) r' f → P'.2.2.1 r' = P.2.2.1 r' := fun n r' hr => h2 r' hr (fun e => absurd e n)
  unfold ce
  unfold xrd at h2 h5
  split
  · next e =>
    cases e
    have h2 := h5 (by decide)
    rw [h2 _ (Or.inl rfl), h2 _ (Or.inr (Or.inl rfl)), h2 _ (Or.inr (Or.inr (Or.inl rfl))), h2 _ (Or.inr (Or.inr (Or.inr (Or.inl rfl)))), h2 _ (Or.inr (Or.inr (Or.inr (Or.inr (Or.inl rfl))))), h2 _ (Or.inr (Or.inr (Or.inr (Or.inr (Or.inr (Or.inl rfl)))))), h2 _ (Or.inr (Or.inr (Or.inr (Or.inr (Or.inr (Or.inr (Or.inl rfl))))))), h2 _ (Or.inr (Or.inr (Or.inr (Or.inr (Or.inr (Or.inr (Or.inr (Or.inl rfl)))))))), h2 _ (Or.inr (Or.inr (Or.inr (Or.inr (Or.inr (Or.inr (Or.inr (Or.inr (Or.inl rfl))))))))), h2 _ (Or.inr (Or.inr (Or.inr (Or.inr (Or.inr (Or.inr (Or.inr (Or.inr (Or.inr rfl)))))))))]
  · next e =>
    cases e
    have h6 : P'.2.2.2 (3, i, j) = P.2.2.2 (3, i, j) := h3 rfl
    rw [h6, h1]
    by_cases h7 : P.2.2.2 (3, i, j) = 0
    · rw [if_pos h7, if_pos h7]
    · rw [if_neg h7, if_neg h7, h2 _ rfl (fun _ => h7)]
  · next e => cases e; rfl
  · next e => cases e; rfl
  · next e => cases e; have h2 := h5 (by decide); rw [h2 _ (Or.inl rfl), h2 _ (Or.inr rfl)]
  · next e => cases e; have h2 := h5 (by decide); rw [h2 _ rfl]
  · next e => cases e; have h2 := h5 (by decide); rw [h2 _ (Or.inl rfl), h2 _ (Or.inr rfl)]
  · next e => cases e; have h2 := h5 (by decide); rw [h2 _ (Or.inl rfl), h2 _ (Or.inr rfl)]
  · next e => cases e; have h2 := h5 (by decide); rw [h2 _ rfl]
  · next e => cases e; have h2 := h5 (by decide); rw [h2 _ rfl]
  · next e => cases e; rfl
  · next e =>
    cases e
    have h2 := h5 (by decide)
    have := h4 rfl
    rw [this]
    have e2 : xrf P' i j f = xrf P i j f := by
      funext q
      unfold xrf
      split
      · rfl
      · next hq => rw [h2 _ ⟨q, hq, rfl⟩]
    rw [e2]
  · next e => cases e; rfl
  · next e => cases e; rfl
  · next e => cases e; rfl
  · next e => cases e; rfl
  · rfl
/-- a list's array moves -/
def pgr (P : xP) (L i a k : Nat) : xP := (P.1, fun q => if q = a then (4, L, i) else if P.2.1 q = (4, L, i) then (0, 0, 0) else P.2.1 q, fun r => if r = (4, L, i) then a else P.2.2.1 r, fun r => if r = (3, L, i) then k else P.2.2.2 r)
def hgr (h0 : ez_H) (P : xP) (c : xR → Nat → Int32) (L i k : Nat) : ez_H := (fun q => if P.2.1 q = (4, L, i) then ce P (4, L, i) (c (4, L, i)) else h0.1 q, h0.2.1 + 1, h0.2.2 + k)
theorem xh_gr {L i k : Nat} (ok : xok P) (fr : ∀ q, h0.2.1 ≤ q → (P.2.1 q).1 = 0) (hk : k ≠ 0) (hl : lv P (3, L, i)) : ez_hs (ez_nw (xh h0 P c) (.inl (4, k, .inr (.inr (.inr (.inr (xrf P L i (c (4, L, i)))))))) k) (P.2.2.1 (3, L, i)) (.inr (0, [.int (c (3, L, i) 0), .ref h0.2.1, .int (c (3, L, i) 2)])) = xh (hgr h0 P c L i k) (pgr P L i h0.2.1 k) c := by
  have cg : ∀ r, r ≠ (3, L, i) → r ≠ (4, L, i) → ce (pgr P L i h0.2.1 k) r (c r) = ce P r (c r) := by
    intro r n3 n4
    refine ce_cg rfl ?_ ?_ ?_
    · intro r' hr' _
      show (if r' = (4, L, i) then _ else _) = _
      rw [if_neg]
      intro e
      subst e
      obtain ⟨k, a, b⟩ := r
      unfold xrd at hr'
      split at hr'
      all_goals first | exact hr'.elim | (next e => cases e; first | (cases hr'; exact n3 rfl) | (obtain ⟨q, _, hq⟩ := hr'; have := (xel_4 (L := a) (i := b) (v := (c (4, a, b) q).toNatClampNeg)).1; rw [← hq] at this; exact this rfl) | (simp at hr') | (rcases hr' with e | e <;> cases e))
    · intro h3
      show (if r = (3, L, i) then _ else _) = _
      rw [if_neg n3]
    · intro h4
      show (if (3, r.2) = (3, L, i) then _ else _) = _
      rw [if_neg]
      intro e
      apply n4
      obtain ⟨k, a, b⟩ := r
      have h4 : k = 4 := h4
      have e : (3, a, b) = (3, L, i) := e
      subst h4
      cases e
      rfl
  unfold ez_hs ez_nw
  refine Prod.ext ?_ rfl
  funext q
  show (if q = P.2.2.1 (3, L, i) then _ else if q = h0.2.1 then _ else (xh h0 P c).1 q) = (if ((pgr P L i h0.2.1 k).2.1 q).1 = 0 then _ else _)
  have hw3 : P.2.1 (P.2.2.1 (3, L, i)) = (3, L, i) := hl
  have hn3 : P.2.2.1 (3, L, i) < h0.2.1 := by
    refine Nat.lt_of_not_le fun h => ?_
    have := fr _ h
    rw [hw3] at this
    exact absurd this (show ¬ 3 = 0 by decide)
  by_cases q3 : q = P.2.2.1 (3, L, i)
  · subst q3
    have e : (pgr P L i h0.2.1 k).2.1 (P.2.2.1 (3, L, i)) = (3, L, i) := by
      show (if P.2.2.1 (3, L, i) = h0.2.1 then _ else if P.2.1 (P.2.2.1 (3, L, i)) = (4, L, i) then _ else P.2.1 (P.2.2.1 (3, L, i))) = _
      rw [if_neg (by omega), hw3, if_neg (by intro e; cases e)]
    rw [if_pos rfl, e, if_neg (show ¬ 3 = 0 by decide)]
    show _ = some (Sum.inr (0, [Value.int (c (3, L, i) 0), Value.ref (if (pgr P L i h0.2.1 k).2.2.2 (3, L, i) = 0 then P.1 else (pgr P L i h0.2.1 k).2.2.1 (4, L, i)), Value.int (c (3, L, i) 2)]))
    have e1 : (pgr P L i h0.2.1 k).2.2.2 (3, L, i) = k := if_pos rfl
    have e2 : (pgr P L i h0.2.1 k).2.2.1 (4, L, i) = h0.2.1 := if_pos rfl
    rw [e1, e2, if_neg hk]
  · rw [if_neg q3]
    by_cases qn : q = h0.2.1
    · subst qn
      have e : (pgr P L i h0.2.1 k).2.1 h0.2.1 = (4, L, i) := if_pos rfl
      rw [if_pos rfl, e, if_neg (show ¬ 4 = 0 by decide)]
      show _ = some (Sum.inl (4, (pgr P L i h0.2.1 k).2.2.2 (3, L, i), Sum.inr (Sum.inr (Sum.inr (Sum.inr (xrf (pgr P L i h0.2.1 k) L i (c (4, L, i))))))))
      have e1 : (pgr P L i h0.2.1 k).2.2.2 (3, L, i) = k := if_pos rfl
      have e2 : xrf (pgr P L i h0.2.1 k) L i (c (4, L, i)) = xrf P L i (c (4, L, i)) := by
        funext x
        unfold xrf
        split
        · rfl
        · congr 1
          show (if xel L i (c (4, L, i) x).toNatClampNeg = (4, L, i) then _ else _) = _
          rw [if_neg]
          intro e
          have := (xel_4 (L := L) (i := i) (v := (c (4, L, i) x).toNatClampNeg)).1
          rw [e] at this
          exact this rfl
      rw [e1, e2]
    · rw [if_neg qn]
      unfold xh
      dsimp only
      by_cases q4 : P.2.1 q = (4, L, i)
      · have e : (pgr P L i h0.2.1 k).2.1 q = (0, 0, 0) := by
          show (if q = h0.2.1 then _ else if P.2.1 q = (4, L, i) then _ else _) = _
          rw [if_neg qn, if_pos q4]
        rw [q4, if_neg (show ¬ 4 = 0 by decide), e, if_pos rfl]
        show _ = (if P.2.1 q = (4, L, i) then _ else _)
        rw [if_pos q4]
      · have e : (pgr P L i h0.2.1 k).2.1 q = P.2.1 q := by
          show (if q = h0.2.1 then _ else if P.2.1 q = (4, L, i) then _ else _) = _
          rw [if_neg qn, if_neg q4]
        rw [e]
        by_cases q0 : (P.2.1 q).1 = 0
        · rw [if_pos q0, if_pos q0]
          show _ = (if P.2.1 q = (4, L, i) then _ else _)
          rw [if_neg q4]
        · rw [if_neg q0, if_neg q0, cg _ (fun e => q3 (by rw [← e, ok q q0])) q4]
end AD
