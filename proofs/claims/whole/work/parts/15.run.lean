theorem ez_sl0_len : ∀ as : List Value, (ez_sl0 as).length = ez_w as
  | [] => rfl
  | v :: r => by
    have ih := ez_sl0_len r
    unfold ez_sl0 ez_w
    rw [List.map_cons, List.sum_cons]
    have h2 : (r.map fun v => v.category).sum = (ez_sl0 r).length := ih.symm
    rw [h2]
    rcases lv_cat v with h | h
    · rw [if_neg (by omega), h, List.length_cons]
      omega
    · rw [if_pos h, h, List.length_cons, List.length_cons]
      omega
theorem ez_lg_arg : ∀ (as : List Value) (i j : Nat) (v : Value), ez_lg (ez_sl0 as) i = some v → (j + i, v) ∈ lv_args j as
  | [], i, j, v, h => by simp [ez_sl0, ez_lg] at h
  | w :: r, i, j, v, h => by
    unfold ez_sl0 at h
    unfold lv_args
    by_cases hc : w.category = 2
    · rw [if_pos hc] at h
      rw [if_pos hc]
      match i, h with
      | 0, h =>
        cases h
        exact List.mem_cons_self
      | 1, h => cases h
      | i + 2, h =>
        have := ez_lg_arg r i (j + 2) v h
        rw [show j + 2 + i = j + (i + 2) by omega] at this
        exact List.mem_cons_of_mem _ this
    · rw [if_neg hc] at h
      rw [if_neg hc]
      match i, h with
      | 0, h =>
        cases h
        exact List.mem_cons_self
      | i + 1, h =>
        have := ez_lg_arg r i (j + 1) v h
        rw [show j + 1 + i = j + (i + 1) by omega] at this
        exact List.mem_cons_of_mem _ this
theorem ez_sl_len (as : List Value) : (lg_sl as).length = ez_w as := by
  unfold lg_sl ez_w
  induction as with
  | nil => rfl
  | cons v r ih =>
    rw [List.flatMap_cons, List.length_append, ih, List.map_cons, List.sum_cons]
    rcases lv_cat v with h | h
    · rw [if_neg (by omega), h]; rfl
    · rw [if_pos h, h]; rfl
theorem ez_ls0 {n : Nat} {as : List Value} (h : ez_w as ≤ n) : ez_ls ((lg_sl as ++ List.replicate (n - (lg_sl as).length) Slot.unset).toArray) n (ez_l0 n as) := by
  have h1 := lv_entry as (n := n) (by rw [ez_sl_len]; exact h)
  refine ⟨?_, h1.1, h1.2.1, fun i v hv => ?_⟩
  · unfold ez_l0
    rw [List.length_append, List.length_replicate, ez_sl0_len]
    omega
  · unfold ez_l0 at hv
    have hlt : ez_lg (ez_sl0 as) i = some v := by
      unfold ez_lg at hv ⊢
      by_cases hi : i < (ez_sl0 as).length
      · rw [List.getElem?_append_left hi] at hv
        exact hv
      · rw [List.getElem?_append_right (by omega), List.getElem?_replicate] at hv
        split at hv
        · next heq =>
          split at heq
          · cases heq
          · cases heq
        · cases hv
    have := ez_lg_arg as i 0 v hlt
    rw [Nat.zero_add] at this
    exact h1.2.2 (i, v) this
theorem ez_call_of {g : ez_G} {k n pc k' : Nat} {I : Instr} {ls : ez_L} {st as rest : List Value} {h : ez_H} (hst : ez_st g k I n pc ls st h = some (.inr (.inr (k', as, rest)))) : k' < 159 ∧ ez_w as ≤ ez_ml k' := by
  have key : ∀ {k2 kd : Nat}, ez_call g k k2 kd st h = some (.inr (.inr (k', as, rest))) → k' < 159 ∧ ez_w as ≤ ez_ml k' := by
    intro k2 kd hc
    obtain ⟨rfl, hq, -⟩ := ez_call_inv hc
    exact ⟨hq.1, hq.2.2.2.2⟩
  cases I
  case invokestatic i =>
    simp only [ez_st] at hst
    have hs1 := (ez_if hst).2
    clear hst
    split at hs1
    · split at hs1
      · unfold ez_cp at hs1
        split at hs1
        · split at hs1
          · cases (ez_if hs1).2
          · cases hs1
        · cases hs1
      · split at hs1
        · obtain ⟨x1, y1, r1, -, hs2⟩ := ez_ii_inv hs1
          cases (ez_if hs2).2
        · split at hs1
          · obtain ⟨x1, y1, r1, -, hs2⟩ := ez_ii_inv hs1
            cases (ez_if hs2).2
          · exact key hs1
    · cases hs1
  case invokevirtual i =>
    simp only [ez_st] at hst
    have hs1 := (ez_if hst).2
    clear hst
    split at hs1
    · exact key hs1
    · cases hs1
  case invokespecial i =>
    simp only [ez_st] at hst
    have hs1 := (ez_if hst).2
    clear hst
    split at hs1
    · split at hs1
      · split at hs1
        · cases (ez_if hs1).2
        · cases hs1
      · exact key hs1
    · cases hs1
  all_goals (exfalso; simp only [ez_st, ez_ii, ez_i1, ez_ll, ez_l1, ez_r1, ez_ri, ez_jmp, ez_ir, ez_ar, ez_go, ez_rt, ez_lp, ez_lp2, reduceCtorEq] at hst; repeat' (split at hst))
  all_goals first
    | (cases hst; done)
section ZN
variable {D : va_G} {dA : Nat → ClassId} {bs mi : Nat} {ro : Nat → Option ez_E} {g : ez_G}
/-- the machine's return -/
theorem ez_retW {p : Program} {l : Launch} {e : Env} {R : Room} {s : State} {m : MethodId} {args : Array Value} {below : List Frame} {meth : Method} {c : Code} {c0 s0 mc ms k pc : Nat} {ls : ez_L} {st : List Value} {h : ez_H} {r : Option Value} (C : ez_Cx D dA bs mi ro g k p R s m args meth c) (hs : ez_stp g k pc ls st h = some (.inr (.inl r))) (h1 : mc + c0 = h.2.1) (h2 : ms + s0 = h.2.2) : ez_WS D dA bs ro p l e R s m args below meth c (MQ below (ez_Qc D dA bs ro r h) args s mc ms (ez_A bs)) c0 s0 k pc ls st h := by
  intro lsA H locs cells slots e1 e2 hl hR hS
  obtain ⟨hx, hb, hr, hml, hown, hts, hlk, hin, hdp, hbs, hk160, hKS⟩ := C
  obtain rfl : mc = cells := by omega
  obtain rfl : ms = slots := by omega
  unfold ez_stp at hs
  split at hs
  · next I n hd =>
    cases I
    case ireturn =>
      simp only [ez_st] at hs
      obtain ⟨rfl, hs1⟩ := ez_if hs
      clear hs
      unfold ez_ir at hs1
      split at hs1
      · next x =>
        split at hs1
        · next hrt =>
          cases hs1
          exact W.iret hx hb (hr.trans hrt) (fun t ht hW => ⟨rfl, by rw [ht]; exact hR, hS.F ht⟩) hS.2.2 hd hlk
        · next hrt =>
          obtain ⟨hx01, hs2⟩ := ez_if hs1
          cases hs2
          exact W.zret hx hb (hr.trans hrt) (by rcases hx01 with rfl | rfl <;> rfl) (fun t ht hW => ⟨rfl, by rw [ht]; exact hR, hS.F ht⟩) hS.2.2 hd hlk
        · next hrt =>
          obtain ⟨hx01, hs2⟩ := ez_if hs1
          cases hs2
          exact W.zret hx hb (hr.trans hrt) (by rw [narrow_byte, hx01]) (fun t ht hW => ⟨rfl, by rw [ht]; exact hR, hS.F ht⟩) hS.2.2 hd hlk
        · next hrt =>
          obtain ⟨hx01, hs2⟩ := ez_if hs1
          cases hs2
          exact W.zret hx hb (hr.trans hrt) (by rw [← hx01]; exact pk_nc x) (fun t ht hW => ⟨rfl, by rw [ht]; exact hR, hS.F ht⟩) hS.2.2 hd hlk
        · cases hs1
      · cases hs1
    case lreturn =>
      simp only [ez_st] at hs
      obtain ⟨rfl, hs1⟩ := ez_if hs
      clear hs
      split at hs1
      · next x =>
        obtain ⟨hrt, hs2⟩ := ez_if hs1
        cases hs2
        exact W.lret hx hb (hr.trans hrt) (fun t ht hW => ⟨rfl, by rw [ht]; exact hR, hS.F ht⟩) hS.2.2 hd hlk
      · cases hs1
    case areturn =>
      simp only [ez_st] at hs
      obtain ⟨rfl, hs1⟩ := ez_if hs
      clear hs
      unfold ez_ar at hs1
      have hv : ∀ {v : Value} {a : Option Nat}, ez_rf v = some a → v = .null ∨ ∃ b, v = .ref b := by
        intro v a hv
        cases v <;> first | exact Or.inl rfl | exact Or.inr ⟨_, rfl⟩ | cases hv
      split at hs1
      · next v =>
        split at hs1
        · next nm a hrt ha =>
          cases hs1
          exact W.aret hx hb (hr.trans hrt) (Or.inl ⟨_, rfl⟩) (hv ha) (fun t ht hW => ⟨rfl, by rw [ht]; exact hR, hS.F ht⟩) hS.2.2 hd hlk
        · next nm a hrt ha =>
          cases hs1
          exact W.aret hx hb (hr.trans hrt) (Or.inr ⟨_, rfl⟩) (hv ha) (fun t ht hW => ⟨rfl, by rw [ht]; exact hR, hS.F ht⟩) hS.2.2 hd hlk
        · cases hs1
      · cases hs1
    case return_ =>
      simp only [ez_st] at hs
      obtain ⟨rfl, hs1⟩ := ez_if hs
      clear hs
      split at hs1
      · obtain ⟨hrt, hs2⟩ := ez_if hs1
        cases hs2
        exact W.vret hx hb (hr.trans hrt) (fun t ht hW => ⟨rfl, by rw [ht]; exact hR, hS.F ht⟩) hS.2.2 hd hlk
      · cases hs1
    case invokestatic i =>
      exfalso
      simp only [ez_st] at hs
      obtain ⟨rfl, hs1⟩ := ez_if hs
      clear hs
      split at hs1
      · split at hs1
        · unfold ez_cp at hs1
          split at hs1
          · split at hs1
            · cases (ez_if hs1).2
            · cases hs1
          · cases hs1
        · split at hs1
          · obtain ⟨x1, y1, r1, -, hs2⟩ := ez_ii_inv hs1
            cases (ez_if hs2).2
          · split at hs1
            · obtain ⟨x1, y1, r1, -, hs2⟩ := ez_ii_inv hs1
              cases (ez_if hs2).2
            · obtain ⟨y, hy⟩ := ez_call_inr hs1
              cases hy
      · cases hs1
    case invokevirtual i =>
      exfalso
      simp only [ez_st] at hs
      have hs1 := (ez_if hs).2
      clear hs
      split at hs1
      · obtain ⟨y, hy⟩ := ez_call_inr hs1
        cases hy
      · cases hs1
    case invokespecial i =>
      exfalso
      simp only [ez_st] at hs
      have hs1 := (ez_if hs).2
      clear hs
      split at hs1
      · split at hs1
        · split at hs1
          · cases (ez_if hs1).2
          · cases hs1
        · obtain ⟨y, hy⟩ := ez_call_inr hs1
          cases hy
      · cases hs1
    all_goals (exfalso; simp only [ez_st, ez_ii, ez_i1, ez_ll, ez_l1, ez_r1, ez_ri, ez_jmp, ez_go, ez_rt, ez_lp, ez_lp2, reduceCtorEq] at hs; repeat' (split at hs))
    all_goals first
      | (cases hs; done)
  · cases hs
/-- a run of the evaluator from a point of a method is the machine's -/
def ez_Go (D : va_G) (dA : Nat → ClassId) (bs mi : Nat) (ro : Nat → Option ez_E) (g : ez_G) (l : Launch) (k pc : Nat) (ls : ez_L) (st : List Value) (h : ez_H) (r : Option Value) (h' : ez_H) : Prop :=
  ∀ (p : Program) (e : Env) (R : Room) (s : State) (m : MethodId) (args : Array Value) (below : List Frame) (meth : Method) (c : Code) (Q : State → Prop) (c0 s0 : Nat), ez_Cx D dA bs mi ro g k p R s m args meth c → (h'.2.1 ≤ R.cells + c0 ∧ h'.2.2 ≤ R.slots + s0) → (∀ (pc2 : Nat) (ls2 : ez_L) (st2 : List Value), ez_stp g k pc2 ls2 st2 h' = some (.inr (.inl r)) → ez_WS D dA bs ro p l e R s m args below meth c Q c0 s0 k pc2 ls2 st2 h') → ez_WS D dA bs ro p l e R s m args below meth c Q c0 s0 k pc ls st h
theorem ez_met {l : Launch} {k : Nat} {as : List Value} {h h' : ez_H} {r : Option Value} (hk : k < 159) (hw : ez_w as ≤ ez_ml k) (hle : h.2.1 ≤ h'.2.1 ∧ h.2.2 ≤ h'.2.2) (hgo : ez_Go D dA bs mi ro g l k 0 (ez_l0 (ez_ml k) as) [] h r h') : Met l (ez_y k) (ez_wsK k) (ez_rm k (h'.2.1 - h.2.1) (h'.2.2 - h.2.2)) (ez_Pc D dA bs mi ro g as h) (ez_Qc D dA bs ro r h') (h'.2.1 - h.2.1) (h'.2.2 - h.2.2) (ez_A bs) := by
  obtain ⟨w1, w2, w3, w4, w5, w6, w7, w8, w9, w10, w11⟩ := ez_kof hk
  refine Met.ofW (cc := ez_code k) (maxL := ez_ml k) (ret := ez_ret k) w7 rfl ?_
  intro p e s m args below meth c s₁ B hml hv
  obtain ⟨rfl, hbs, hKS, hR⟩ := hv
  have hts0 := atoms_spec (ws := ez_wsK k) B.pre
  have C : ez_Cx D dA bs mi ro g k p (headSpec (ez_wsK k) (ez_rm k (h'.2.1 - h.2.1) (h'.2.2 - h.2.2))).room s m as.toArray meth c := by
    refine ⟨B.exec, B.bytes, B.returns, hml, ?_, fun w hw => hts0 w (List.mem_cons_of_mem _ hw), B.notSynchronized, fun z => ?_, ⟨Nat.le_refl _, Nat.le_refl _⟩, hbs, by omega, hKS⟩
    · rw [← w6]
      exact findClass_of_methodNamed B.named
    · rw [(name_of_methodNamed B.named B.method).1]
      exact (w5 z).1
  rw [lg_entry_eq]
  refine hgo p e _ s m as.toArray below meth c (MQ below (ez_Qc D dA bs ro r h') as.toArray s (h'.2.1 - h.2.1) (h'.2.2 - h.2.2) (ez_A bs)) h.2.1 h.2.2 C ⟨?_, ?_⟩ (fun pc2 ls2 st2 hs => ez_retW C hs (by omega) (by omega)) _ s.heap [] 0 0 (Nat.zero_add _) (Nat.zero_add _) (ez_ls0 hw) hR va_S.rf
  · show h'.2.1 ≤ (h'.2.1 - h.2.1) + h.2.1
    omega
  · show h'.2.2 ≤ (h'.2.2 - h.2.2) + h.2.2
    omega
theorem ez_snd (l : Launch) : ∀ (n k pc : Nat) (ls : ez_L) (st : List Value) (h : ez_H) (r : Option Value) (h' : ez_H), ez_run g n k pc ls st h = some (r, h') → ez_Go D dA bs mi ro g l k pc ls st h r h' := by
  intro n
  induction n with
  | zero => intro k pc ls st h r h' hx; simp [ez_run] at hx
  | succ n ih =>
    intro k pc ls st h r h' hx p e R s m args below meth c Q c0 s0 C hrm hret
    rw [ez_run] at hx
    cases hz : ez_stp g k pc ls st h with
    | none => rw [hz] at hx; cases hx
    | some y =>
      rw [hz] at hx
      match y, hz, hx with
      | .inl (pc', ls', st', h2), hz, hx =>
        have h1 := ez_run_le _ _ _ _ _ _ _ hx
        have kk := ih _ _ _ _ _ _ _ hx p e R s m args below meth c Q c0 s0 C hrm hret
        unfold ez_stp at hz
        split at hz
        · next I nn hd => exact ez_step C hd hz ⟨Nat.le_trans h1.1 hrm.1, Nat.le_trans h1.2 hrm.2⟩ kk
        · cases hz
      | .inr (.inl r2), hz, hx =>
        cases hx
        exact hret pc ls st hz
      | .inr (.inr (k', as, rest)), hz, hx =>
        dsimp only at hx
        cases hc : ez_run g n k' 0 (ez_l0 (ez_ml k') as) [] h with
        | none => rw [hc] at hx; cases hx
        | some y =>
          obtain ⟨r2, h2⟩ := y
          rw [hc] at hx
          dsimp only at hx
          have h1 := ez_run_le _ _ _ _ _ _ _ hx
          have h3 := ez_run_le _ _ _ _ _ _ _ hc
          have h3' : h.2.1 ≤ h2.2.1 ∧ h.2.2 ≤ h2.2.2 := h3
          have kk := ih _ _ _ _ _ _ _ hx p e R s m args below meth c Q c0 s0 C hrm hret
          have hM := ih _ _ _ _ _ _ _ hc
          unfold ez_stp at hz
          split at hz
          · next I nn hd =>
            obtain ⟨hlt, hwas⟩ := ez_call_of hz
            exact ez_callW C hd hz (ez_met hlt hwas h3' hM) (by omega) (by omega) ⟨Nat.le_trans h1.1 hrm.1, Nat.le_trans h1.2 hrm.2⟩ kk
          · cases hz
end ZN
