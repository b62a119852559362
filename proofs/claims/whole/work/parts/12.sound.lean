set_option maxHeartbeats 4000000 in
theorem ez_st_le {g : ez_G} {k n pc pc2 : Nat} {I : Instr} {ls ls2 : ez_L} {st st2 : List Value} {h h2 : ez_H} (hst : ez_st g k I n pc ls st h = some (.inl (pc2, ls2, st2, h2))) : h.2.1 ≤ h2.2.1 ∧ h.2.2 ≤ h2.2.2 := by
  cases I <;> simp only [ez_st, ez_ii, ez_i1, ez_ll, ez_l1, ez_r1, ez_ri, ez_jmp, ez_cp, ez_call, ez_ir, ez_ar, ez_go, ez_rt, ez_lp, ez_lp2, reduceCtorEq] at hst <;> repeat' (split at hst)
  all_goals first
    | (cases hst; done)
    | (cases hst; exact ⟨Nat.le_refl _, Nat.le_refl _⟩)
    | (cases hst; exact ⟨Nat.le_succ _, Nat.le_add_right _ _⟩)
theorem ez_call_inr {g : ez_G} {k k' kd : Nat} {st : List Value} {h : ez_H} {x} (hc : ez_call g k k' kd st h = some x) : ∃ y, x = .inr (.inr y) := by
  unfold ez_call at hc
  obtain ⟨-, hc⟩ := ez_if hc
  split at hc
  · exact ⟨_, (Option.some.inj hc).symm⟩
  · obtain ⟨-, hc⟩ := ez_if hc
    exact ⟨_, (Option.some.inj hc).symm⟩
  · exact ⟨_, (Option.some.inj hc).symm⟩
  · cases hc
theorem ez_run_le {g : ez_G} : ∀ (n k pc : Nat) (ls : ez_L) (st : List Value) (h : ez_H) (x : ez_X), ez_run g n k pc ls st h = some x → h.2.1 ≤ x.2.2.1 ∧ h.2.2 ≤ x.2.2.2 := by
  intro n
  induction n with
  | zero => intro k pc ls st h x hx; simp [ez_run] at hx
  | succ n ih =>
    intro k pc ls st h x hx
    rw [ez_run] at hx
    cases hz : ez_stp g k pc ls st h with
    | none => rw [hz] at hx; cases hx
    | some y =>
      rw [hz] at hx
      match y, hz, hx with
      | .inl (pc', ls', st', h'), hz, hx =>
        have h1 := ih _ _ _ _ _ _ hx
        unfold ez_stp at hz
        split at hz
        · have h3 := ez_st_le hz
          exact ⟨Nat.le_trans h3.1 h1.1, Nat.le_trans h3.2 h1.2⟩
        · cases hz
      | .inr (.inl r), hz, hx =>
        cases hx
        exact ⟨Nat.le_refl _, Nat.le_refl _⟩
      | .inr (.inr (k', as, rest)), hz, hx =>
        dsimp only at hx
        cases hc : ez_run g n k' 0 (ez_l0 (ez_ml k') as) [] h with
        | none => rw [hc] at hx; cases hx
        | some y =>
          rw [hc] at hx
          have h1 := ih _ _ _ _ _ _ hc
          have h2 := ih _ _ _ _ _ _ hx
          exact ⟨Nat.le_trans h1.1 h2.1, Nat.le_trans h1.2 h2.2⟩
