section AZ
variable {g : ez_G} {h h0 h2 : ez_H} {P P1 : xP} {c c1 : xR → Nat → Int32} {z z' Z : md_S} {S m t n N : Nat}
/-- the reference's state after a text has been read -/
theorem az (eS : z.1 40 = nI S) (hS : S < 20) : (∀ s, s ≠ 36 → s ≠ 37 → s ≠ 38 → s ≠ 49 → s ≠ 50 → (pm_al z (nI N)).1.1 s = z.1 s) ∧ (pm_al z (nI N)).1.1 36 = 0 ∧ (∀ s, s ≠ 35 → s ≠ 41 → s < 44 ∨ 48 < s → (pm_al z (nI N)).1.2 s = z.2 s) ∧ (∀ i, i ≠ S → (pm_al z (nI N)).1.2 41 i = z.2 41 i) ∧ kS (pm_bl (pm_z2 z (nI N))) (pm_al z (nI N)).1 S ∧ ∀ s, 44 ≤ s → s ≤ 48 → (pm_bl (pm_z2 z (nI N))).2 s = z.2 s := by
  have kc : (z.1 40).toNatClampNeg = S := by rw [eS, nI_clamp (by omega)]
  have b2 : ∀ s, s ≠ 41 → s ≠ 35 → (pm_bl (pm_z2 z (nI N))).2 s = z.2 s := fun s u1 u2 => by
    show (pm_z2 z (nI N)).2 s = _
    unfold pm_z2
    rw [md_A2n u1]
    exact pcp_A u2 _
  have b41 : ∀ i, (pm_bl (pm_z2 z (nI N))).2 41 i = if i = S then 0 else z.2 41 i := fun i => by
    show (pm_z2 z (nI N)).2 41 i = _
    unfold pm_z2
    rw [md_A2, if_pos rfl, kc]
    unfold upd
    split
    · rfl
    · show (pcp z _).2 41 i = _
      rw [pcp_A (by decide)]
  have b1 : ∀ s, (pm_bl (pm_z2 z (nI N))).1 s = if s = 38 then nI (zs (pm_z2 z (nI N))) else if s = 38 then 0 else if s = 36 then 0 else if s = 37 then nI N else z.1 s := fun s => by
    show (if s = 38 then _ else if s = 38 then (0 : Int32) else if s = 36 then 0 else if s = 37 then nI N else (pcp z _).1 s) = _
    rw [pcp_I]
  have k : kS (pm_bl (pm_z2 z (nI N))) (pm_al z (nI N)).1 S := by
    unfold pm_al
    rw [kc]
    exact kS_alp 17 _ 0 rfl (by rw [b41, if_pos rfl]; rfl)
  refine ⟨fun s u1 u2 u3 u4 u5 => ?_, ?_, fun s u1 u2 u3 => ?_, fun i hi => ?_, k, fun s u1 u2 => b2 s (by omega) (by omega)⟩
  · rw [k.1 s u3 u4 u5, b1, if_neg u3, if_neg u3, if_neg u1, if_neg u2]
  · rw [k.1 36 (by decide) (by decide) (by decide), b1, if_neg (by decide), if_neg (by decide), if_pos rfl]
  · rw [k.2.1 s u2 u3, b2 s u2 u1]
  · rw [k.2.2.1 i hi, b41, if_neg hi]
/-- the roles of the statute that was read, and lists that nobody has -/
def dS (S : Nat) (r : xR) : Bool := r.1 == 14 || (r.1 == 7 && r.2.1 == S) || ((r.1 == 3 || r.1 == 4) && (r.2.1 == 5 || r.2.1 == 6) && r.2.2 == S) || ((r.1 == 8 || r.1 == 9) && r.2.1 == S) || ((r.1 == 3 || r.1 == 4) && r.2.1 == 0 && !(r.2.2 == 0))
def inJ (r : xR) : Prop := (r.1 = 3 ∨ r.1 = 4) ∧ r.2.1 = 0 ∧ ¬ r.2.2 = 0
theorem dS_iff {r : xR} : dS S r = true ↔ inS S r ∨ inJ r := by
  unfold dS inS inJ
  simp only [Bool.or_eq_true, Bool.and_eq_true, beq_iff_eq, or_assoc, and_assoc, Bool.not_eq_true', beq_eq_false_iff_ne, ne_eq]
theorem dS_f {r : xR} : dS S r = false ↔ ¬ inS S r ∧ ¬ inJ r := by
  rw [← not_or, ← dS_iff, Bool.not_eq_true]
/-- nothing that stays refers to what goes -/
theorem dS_w (h0' : ∀ q, ¬ c (4, 0, 0) q = -1 → (c (4, 0, 0) q).toNatClampNeg ≠ S) : ∀ r r', r.1 ≠ 0 → lv P r → dS S r = false → xrd r r' (c r) → xct P r → dS S r' = false := by
  intro r r' u0 hl hs hx _
  rw [dS_f] at hs ⊢
  obtain ⟨k, i, j⟩ := r
  unfold xrd at hx
  unfold inS inJ at hs ⊢
  dsimp only at hs
  split at hx
  · next e => cases e; rcases hx with rfl | rfl | rfl | rfl | rfl | rfl | rfl | rfl | rfl | rfl <;> (dsimp only; omega)
  · next e => cases e; subst hx; dsimp only; omega
  · next e =>
    cases e
    obtain ⟨q, hq, rfl⟩ := hx
    unfold xel
    split
    · obtain rfl : j = 0 := by omega
      have := h0' q hq
      dsimp only
      omega
    all_goals (dsimp only; omega)
  · next e => cases e; rcases hx with rfl | rfl <;> (dsimp only; omega)
  · next e => cases e; subst hx; dsimp only; omega
  · next e => cases e; rcases hx with rfl | rfl <;> (dsimp only; omega)
  · next e => cases e; rcases hx with rfl | rfl <;> (dsimp only; omega)
  · next e => cases e; subst hx; dsimp only; omega
  · next e => cases e; subst hx; dsimp only; omega
  · exact hx.elim
end AZ
