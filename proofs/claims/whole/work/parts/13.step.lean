theorem ez_good0 {ws : List Cond} (h : ∀ w ∈ ws, w ∈ ez_GW) : GoodIn ez_GW ws := fun w hw => ⟨h w hw, good_of_word (List.mem_filter.mp (h w hw)).2⟩
section ZE
variable {D : va_G} {dA : Nat → ClassId} {bs mi : Nat} {ro : Nat → Option ez_E} {g : ez_G}
variable {p : Program} {l : Launch} {e : Env} {R : Room} {s : State} {m : MethodId} {args : Array Value} {below : List Frame} {meth : Method} {c : Code} {Q : State → Prop} {c0 s0 : Nat}
variable {k pc n pc2 : Nat} {ls ls2 : ez_L} {st st2 : List Value} {h h2 : ez_H}
/-- behind a call -/
theorem ez_on {H : Heap} {locs : List Loc} {cells slots mc ms : Nat} {lsA : Array Slot} {rest : List Value} {r : Option Value} {h' : ez_H} {a : Array Value} (hrun : va_Run p l e R s m args below meth c H locs cells slots mc ms (F0 m pc lsA st) rest (ez_Qc D dA bs ro r h' a) (ez_A bs)) (hS : va_S (ez_A bs) s.heap H locs) (hl : ez_ls lsA (ez_ml k) ls) (e1 : cells + mc + c0 = h'.2.1) (e2 : slots + ms + s0 = h'.2.2) (kk : ez_WS D dA bs ro p l e R s m args below meth c Q c0 s0 k (pc + 3) ls (r.toList ++ rest) h') : W p l e R s m args below meth c H locs cells slots Q (F0 m pc lsA st) := by
  intro T hT X
  obtain ⟨v, st₀, t, T', L, q0, X', hL, q1, q2, ⟨q3, q4, q5⟩, stp⟩ := hrun T hT X
  cases q3
  have hS2 : va_S (ez_A bs) s.heap T'.heap (locs ++ L) := by
    refine ⟨Nat.le_trans hS.1 (by rw [q1, ← q0]; exact q5.1), fun q h1 h2 => ?_, fun q hq => ?_⟩
    · rw [q1, q5.2 q (by rw [q0]; exact Nat.lt_of_lt_of_le h1 hS.1) h2, q0]
      exact hS.2.1 q h1 h2
    · rcases List.mem_append.mp hq with h9 | h9
      · exact hS.2.2 q h9
      · exact hL q h9
  obtain ⟨t2, a1, b1⟩ := kk lsA T'.heap (locs ++ L) (cells + mc) (slots + ms) e1 e2 hl (by rw [q1]; exact q4) hS2 T' rfl X'
  exact ⟨t2, stp t2 a1, b1⟩
theorem ez_pre {H : Heap} {locs : List Loc} {as : List Value} (hbs : bs ≤ s.heap.size) (hKS : ez_KS D dA bs mi ro g s s.heap) (hR : ez_Rep D dA bs ro h H) (hS : va_S (ez_A bs) s.heap H locs) : PreS s H (ez_Pc D dA bs mi ro g as h) as := ⟨ez_blind, fun U hU hW => ⟨rfl, by rw [hU]; exact Nat.le_trans hbs hS.1, by rw [hU]; exact (hKS.kept hS.2.1).warm hW, by rw [hU]; exact hR⟩⟩
theorem so_invokestatic {i : Nat} (C : ez_Cx D dA bs mi ro g k p R s m args meth c) (hd : decode (ez_code k) pc = .ok (.invokestatic i, n)) (hst : ez_st g k (.invokestatic i) n pc ls st h = some (.inl (pc2, ls2, st2, h2))) (hrm : h2.2.1 ≤ R.cells + c0 ∧ h2.2.2 ≤ R.slots + s0) (kk : ez_WS D dA bs ro p l e R s m args below meth c Q c0 s0 k pc2 ls2 st2 h2) : ez_WS D dA bs ro p l e R s m args below meth c Q c0 s0 k pc ls st h := by
  intro lsA H locs cells slots e1 e2 hl hR hS
  obtain ⟨hx, hb, hr, hml, hown, hts, hlk, hin, hdp, hbs, hk160, hKS⟩ := C
  simp only [ez_st] at hst
  obtain ⟨rfl, hs1⟩ := ez_if hst
  clear hst
  cases hf : ez_mk k i with
  | none => rw [hf] at hs1; cases hs1
  | some y =>
    obtain ⟨k', x, pp⟩ := y
    rw [hf] at hs1
    dsimp only at hs1
    have hch := ez_tabOk ez_chM_ok hk160 hf
    unfold ez_chM at hch
    dsimp only at hch
    by_cases h1 : k' = 9001
    · subst h1
      rw [if_pos rfl] at hs1
      rw [if_neg (by decide), if_pos rfl] at hch
      unfold ez_cp at hs1
      split at hs1
      · next nn a r =>
        split at hs1
        · next m0 f he =>
          obtain ⟨⟨g0, g1, g2, g3, g4, g5⟩, hs3⟩ := ez_if hs1
          obtain ⟨rfl, rfl, rfl, rfl⟩ := ez_goi hs3
          have r1 : h.2.1 + 1 ≤ R.cells + c0 := hrm.1
          have r2 : h.2.2 + nn.toNatClampNeg ≤ R.slots + s0 := hrm.2
          have hrun := va_runS (R := R) (As := [.ref a, .int nn]) (rest := r) (g := F0 m pc lsA (.int nn :: .ref a :: r)) (cells := cells) (slots := slots) (locs := locs) (H := H) (below := below) (meth := meth) (e := e) ⟨hx, hb, hml, hown, hts⟩ (c_copy2 (D := D) (dA := dA) (bs := bs) (mi := mi) (ro := ro) (g := g) l he g0 g1 g2 g5) (va_cwS 2 hts (ez_good0 (fun w hw => by
            rcases List.mem_append.mp hw with h9 | h9
            · rcases List.mem_cons.mp h9 with rfl | h9
              · exact ez_is_in hch
              · rcases List.mem_cons.mp h9 with rfl | h9
                · exact cw_s2
                · rw [List.mem_singleton.mp h9]; exact cw_ia
            · rcases List.mem_cons.mp h9 with rfl | h9
              · exact cw_k2
              · exact h9)) rfl rfl rfl (by decide +kernel) ⟨by show 2 + 1 ≤ _; omega, by show 8 + (2 + 11) + 60 ≤ _; omega⟩) (ez_pre hbs hKS hR hS) rfl rfl hl.2.1 rfl (lv_room g4) hd ⟨by omega, by omega⟩
          exact ez_on hrun hS hl (by show cells + 1 + c0 = h.2.1 + 1; omega) (by show slots + _ + s0 = h.2.2 + _; omega) kk
        · cases hs1
      · cases hs1
    · rw [if_neg h1] at hs1
      by_cases h1 : k' = 9002
      · subst h1
        rw [if_pos rfl] at hs1
        rw [if_neg (by decide), if_neg (by decide), if_pos rfl] at hch
        obtain ⟨x1, y1, r, rfl, hs2⟩ := ez_ii_inv hs1
        clear hs1
        obtain ⟨⟨g3, g4⟩, hs3⟩ := ez_if hs2
        obtain ⟨rfl, rfl, rfl, rfl⟩ := ez_goi hs3
        have g4' : (r.map fun v => v.category).sum ≤ 8 := g4
        exact va_mmax hx hb (hml.trans hl.2.1.symm) hown (hts _ (ez_is_in hch)) (hts _ ez_mmax1) (hts _ ez_mini) (hts _ ez_mmax2) (by omega) (by omega) (by omega) (by omega) hd (kk lsA H locs cells slots e1 e2 hl hR hS)
      · rw [if_neg h1] at hs1
        by_cases h1 : k' = 9003
        · subst h1
          rw [if_pos rfl] at hs1
          rw [if_neg (by decide), if_neg (by decide), if_neg (by decide), if_pos rfl] at hch
          obtain ⟨x1, y1, r, rfl, hs2⟩ := ez_ii_inv hs1
          clear hs1
          obtain ⟨⟨g3, g4⟩, hs3⟩ := ez_if hs2
          obtain ⟨rfl, rfl, rfl, rfl⟩ := ez_goi hs3
          have g4' : (r.map fun v => v.category).sum ≤ 8 := g4
          exact va_mmin hx hb (hml.trans hl.2.1.symm) hown (hts _ (ez_is_in hch)) (hts _ ez_mmin1) (hts _ ez_mini) (hts _ ez_mmin2) (by omega) (by omega) (by omega) (by omega) hd (kk lsA H locs cells slots e1 e2 hl hR hS)
        · rw [if_neg h1] at hs1
          obtain ⟨y, hy⟩ := ez_call_inr hs1
          cases hy
theorem so_invokespecial {i : Nat} (C : ez_Cx D dA bs mi ro g k p R s m args meth c) (hd : decode (ez_code k) pc = .ok (.invokespecial i, n)) (hst : ez_st g k (.invokespecial i) n pc ls st h = some (.inl (pc2, ls2, st2, h2))) (kk : ez_WS D dA bs ro p l e R s m args below meth c Q c0 s0 k pc2 ls2 st2 h2) : ez_WS D dA bs ro p l e R s m args below meth c Q c0 s0 k pc ls st h := by
  intro lsA H locs cells slots e1 e2 hl hR hS
  obtain ⟨hx, hb, hr, hml, hown, hts, hlk, hin, hdp, hbs, hk160, hKS⟩ := C
  simp only [ez_st] at hst
  obtain ⟨rfl, hs1⟩ := ez_if hst
  clear hst
  cases hf : ez_mk k i with
  | none => rw [hf] at hs1; cases hs1
  | some y =>
    obtain ⟨k', x, pp⟩ := y
    rw [hf] at hs1
    dsimp only at hs1
    have hch := ez_tabOk ez_chM_ok hk160 hf
    unfold ez_chM at hch
    dsimp only at hch
    by_cases h1 : k' = 9000
    · subst h1
      rw [if_pos rfl] at hs1
      rw [if_pos rfl] at hch
      split at hs1
      · next a r =>
        obtain ⟨⟨g3, g4⟩, hs3⟩ := ez_if hs1
        have g4' : (r.map fun v => v.category).sum ≤ 8 := g4
        obtain ⟨rfl, rfl, rfl, rfl⟩ := ez_goi hs3
        exact W.objInit hx hb hown (hts _ (ez_is_in hch)) (hts _ ez_ob1) (hts _ ez_ob2) rfl (hl.2.1.trans hml.symm) rfl hd (by omega) (by show 2 * 0 + _ + 12 ≤ _; omega) (kk lsA H locs cells slots e1 e2 hl hR hS)
      · cases hs1
    · rw [if_neg h1] at hs1
      obtain ⟨y, hy⟩ := ez_call_inr hs1
      cases hy
theorem so_invokevirtual {i : Nat} (hst : ez_st g k (.invokevirtual i) n pc ls st h = some (.inl (pc2, ls2, st2, h2))) : False := by
  simp only [ez_st] at hst
  obtain ⟨rfl, hs1⟩ := ez_if hst
  clear hst
  split at hs1
  · obtain ⟨y, hy⟩ := ez_call_inr hs1
    cases hy
  · cases hs1
theorem ez_ir_inr {st : List Value} {x} (hc : ez_ir k st = some x) : ∃ y, x = .inr (.inl y) := by
  unfold ez_ir at hc
  split at hc
  · split at hc
    · exact ⟨_, (Option.some.inj hc).symm⟩
    · exact ⟨_, (Option.some.inj (ez_if hc).2).symm⟩
    · exact ⟨_, (Option.some.inj (ez_if hc).2).symm⟩
    · exact ⟨_, (Option.some.inj (ez_if hc).2).symm⟩
    · cases hc
  · cases hc
theorem ez_ar_inr {st : List Value} {x} (hc : ez_ar k st = some x) : ∃ y, x = .inr (.inl y) := by
  unfold ez_ar at hc
  split at hc
  · split at hc
    · exact ⟨_, (Option.some.inj hc).symm⟩
    · exact ⟨_, (Option.some.inj hc).symm⟩
    · cases hc
  · cases hc
theorem ez_step {I : Instr} (C : ez_Cx D dA bs mi ro g k p R s m args meth c) (hd : decode (ez_code k) pc = .ok (I, n)) (hst : ez_st g k I n pc ls st h = some (.inl (pc2, ls2, st2, h2))) (hrm : h2.2.1 ≤ R.cells + c0 ∧ h2.2.2 ≤ R.slots + s0) (kk : ez_WS D dA bs ro p l e R s m args below meth c Q c0 s0 k pc2 ls2 st2 h2) : ez_WS D dA bs ro p l e R s m args below meth c Q c0 s0 k pc ls st h := by
  cases I
  case iconst => exact so_iconst C hd hst kk
  case bipush => exact so_bipush C hd hst kk
  case sipush => exact so_sipush C hd hst kk
  case lconst => exact so_lconst C hd hst kk
  case aconst_null => exact so_aconst_null C hd hst kk
  case iload => exact so_iload C hd hst kk
  case iload_n => exact so_iload_n C hd hst kk
  case lload => exact so_lload C hd hst kk
  case lload_n => exact so_lload_n C hd hst kk
  case aload => exact so_aload C hd hst kk
  case aload_n => exact so_aload_n C hd hst kk
  case istore => exact so_istore C hd hst kk
  case istore_n => exact so_istore_n C hd hst kk
  case lstore => exact so_lstore C hd hst kk
  case lstore_n => exact so_lstore_n C hd hst kk
  case astore => exact so_astore C hd hst kk
  case astore_n => exact so_astore_n C hd hst kk
  case iinc => exact so_iinc C hd hst kk
  case iadd => exact so_iadd C hd hst kk
  case isub => exact so_isub C hd hst kk
  case imul => exact so_imul C hd hst kk
  case iand => exact so_iand C hd hst kk
  case ior => exact so_ior C hd hst kk
  case ishl => exact so_ishl C hd hst kk
  case ishr => exact so_ishr C hd hst kk
  case idiv => exact so_idiv C hd hst kk
  case irem => exact so_irem C hd hst kk
  case ladd => exact so_ladd C hd hst kk
  case lmul => exact so_lmul C hd hst kk
  case lor => exact so_lor C hd hst kk
  case ldiv => exact so_ldiv C hd hst kk
  case lrem => exact so_lrem C hd hst kk
  case lcmp => exact so_lcmp C hd hst kk
  case lshl => exact so_lshl C hd hst kk
  case i2l => exact so_i2l C hd hst kk
  case l2i => exact so_l2i C hd hst kk
  case i2b => exact so_i2b C hd hst kk
  case i2c => exact so_i2c C hd hst kk
  case dup => exact so_dup C hd hst kk
  case pop => exact so_pop C hd hst kk
  case dup_x1 => exact so_dup_x1 C hd hst kk
  case dup2 => exact so_dup2 C hd hst kk
  case goto => exact so_goto C hd hst kk
  case ifCond => exact so_ifCond C hd hst kk
  case if_icmp => exact so_if_icmp C hd hst kk
  case ifnull => exact so_ifnull C hd hst kk
  case ifnonnull => exact so_ifnonnull C hd hst kk
  case if_acmp => exact so_if_acmp C hd hst kk
  case tableswitch => exact so_tableswitch C hd hst kk
  case getfield => exact so_getfield C hd hst kk
  case putfield => exact so_putfield C hd hst kk
  case getstatic => exact so_getstatic C hd hst kk
  case ldc => exact so_ldc C hd hst kk
  case ldc_w => exact so_ldc_w C hd hst kk
  case ldc2_w => exact so_ldc2_w C hd hst kk
  case iaload => exact so_iaload C hd hst kk
  case baload => exact so_baload C hd hst kk
  case laload => exact so_laload C hd hst kk
  case aaload => exact so_aaload C hd hst kk
  case arraylength => exact so_arraylength C hd hst kk
  case iastore => exact so_iastore C hd hst kk
  case bastore => exact so_bastore C hd hst kk
  case lastore => exact so_lastore C hd hst kk
  case aastore => exact so_aastore C hd hst kk
  case checkcast => exact so_checkcast C hd hst kk
  case invokespecial => exact so_invokespecial C hd hst kk
  case new => exact so_new C hd hst hrm kk
  case newarray => exact so_newarray C hd hst hrm kk
  case anewarray => exact so_anewarray C hd hst hrm kk
  case invokestatic => exact so_invokestatic C hd hst hrm kk
  case invokevirtual => exact (so_invokevirtual hst).elim
  case ireturn =>
    simp only [ez_st] at hst
    obtain ⟨y, hy⟩ := ez_ir_inr (ez_if hst).2
    cases hy
  case areturn =>
    simp only [ez_st] at hst
    obtain ⟨y, hy⟩ := ez_ar_inr (ez_if hst).2
    cases hy
  case lreturn =>
    simp only [ez_st] at hst
    have hs1 := (ez_if hst).2
    split at hs1
    · have hs2 := (ez_if hs1).2
      cases hs2
    · cases hs1
  case return_ =>
    simp only [ez_st] at hst
    have hs1 := (ez_if hst).2
    split at hs1
    · have hs2 := (ez_if hs1).2
      cases hs2
    · cases hs1
  all_goals (simp only [ez_st, reduceCtorEq] at hst)
end ZE
