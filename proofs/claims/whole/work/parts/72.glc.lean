section GN
theorem gl_ret {g : ez_G} {pc : Nat} {ls : ez_L} {st : List Value} {h : ez_H} (hs : ez_stp g 159 pc ls st h = some (.inr (.inl (some (.int 1))))) : decode code pc = .ok (.ireturn, 1) ∧ st = [.int 1] := by
  have hc : ez_code 159 = code := rfl
  unfold ez_stp at hs
  rw [hc] at hs
  split at hs
  · next I n hd =>
    cases I
    case ireturn =>
      simp only [ez_st] at hs
      obtain ⟨rfl, hs1⟩ := ez_if hs
      refine ⟨hd, ?_⟩
      unfold ez_ir at hs1
      split at hs1
      · next x =>
        split at hs1
        · cases hs1; rfl
        · obtain ⟨-, hs2⟩ := ez_if hs1
          cases hs2
          rfl
        · obtain ⟨-, hs2⟩ := ez_if hs1
          cases hs2
          rfl
        · obtain ⟨-, hs2⟩ := ez_if hs1
          cases hs2
          rfl
        · cases hs1
      · cases hs1
    case areturn =>
      exfalso
      simp only [ez_st] at hs
      have hs1 := (ez_if hs).2
      clear hs
      unfold ez_ar at hs1
      have hq : ez_ret 159 = some FieldType.boolean := rfl
      split at hs1
      · split at hs1
        · next h _ => rw [hq] at h; cases h
        · next h _ => rw [hq] at h; cases h
        · cases hs1
      · cases hs1
    case invokestatic i =>
      exfalso
      simp only [ez_st] at hs
      obtain ⟨rfl, hs1⟩ := ez_if hs
      clear hs
      split at hs1
      · split at hs1
        · unfold ez_cp at hs1
          split at hs1
          · split at hs1
            · cases (ez_if hs1).2
            · cases hs1
          · cases hs1
        · split at hs1
          · obtain ⟨x1, y1, r1, -, hs2⟩ := ez_ii_inv hs1
            cases (ez_if hs2).2
          · split at hs1
            · obtain ⟨x1, y1, r1, -, hs2⟩ := ez_ii_inv hs1
              cases (ez_if hs2).2
            · obtain ⟨y, hy⟩ := ez_call_inr hs1
              cases hy
      · cases hs1
    case invokevirtual i =>
      exfalso
      simp only [ez_st] at hs
      have hs1 := (ez_if hs).2
      clear hs
      split at hs1
      · obtain ⟨y, hy⟩ := ez_call_inr hs1
        cases hy
      · cases hs1
    case invokespecial i =>
      exfalso
      simp only [ez_st] at hs
      have hs1 := (ez_if hs).2
      clear hs
      split at hs1
      · split at hs1
        · split at hs1
          · cases (ez_if hs1).2
          · cases hs1
        · obtain ⟨y, hy⟩ := ez_call_inr hs1
          cases hy
      · cases hs1
    all_goals (exfalso; simp only [ez_st, ez_ii, ez_i1, ez_ll, ez_l1, ez_r1, ez_ri, ez_jmp, ez_go, ez_rt, ez_lp, ez_lp2, reduceCtorEq] at hs; repeat' (split at hs))
    all_goals first
      | (cases hs; done)
  · cases hs
/-- from the entry, for every script of at most 3072 ints, the law comes to its end with true -/
theorem whole_start {p : Program} {e : Env} {s : State} {m : MethodId} {below : List Frame} {meth : Method} {c : Code} (l : Launch) {b L : Nat} {xs : Nat → Int32} (hL : L ≤ 3072) (C0 : lw_At p s m meth c b L xs) : W p l e room_1 s m #[Value.ref b] below meth c s.heap [] 0 0 (lw_Z below #[Value.ref b] s) (entryFrame m ([Value.ref b] : List Value).toArray 4) := by
  obtain ⟨hx, hb, hr, hml, hown, hts, hX, hbl, hlocks, hgv⟩ := C0
  obtain ⟨D, dA, mi, ro, g, hKS, hR, e1, hg, e2, hc, hs⟩ := gl_start hL hts hX hbl hgv
  obtain ⟨h', hrun, n1, n2⟩ := law_run hL hbl e1 hg e2 hc hs
  obtain ⟨n, hn⟩ := ez_rn_ex g hrun
  have C : ez_Cx D dA s.heap.size mi ro g 159 p room_1 s m #[Value.ref b] meth c := ⟨hx, hb, hr, hml, hown, fun w hw => hts w (List.mem_filter.mp hw).1, hlocks, fun z => absurd z (by decide +kernel), by decide +kernel, Nat.le_refl _, by omega, hKS⟩
  rw [lg_entry_eq]
  refine ez_snd l n 159 0 _ [] _ _ _ hn p e room_1 s m #[Value.ref b] below meth c (lw_Z below #[Value.ref b] s) s.heap.size 0 C ⟨by show h'.2.1 ≤ 600000 + s.heap.size; omega, by show h'.2.2 ≤ 7302250 + 0; omega⟩ ?_ _ s.heap [] 0 0 (Nat.zero_add _) rfl (ez_ls0 (n := 4) (as := [.ref b]) (Nat.le_of_ble_eq_true rfl)) hR va_S.rf
  intro pc2 ls2 st2 hst lsA H locs cells slots k1 k2 hl hR2 hS
  obtain ⟨hd, rfl⟩ := gl_ret hst
  refine va_forget (fun q hq => hS.2.2 q hq) (W.widen (k := 600000) (n := 7302250) (by omega) (by omega) (lw_ret hx hb hr hlocks hd))
end GN
