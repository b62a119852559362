def ez_Cx (D : va_G) (dA : Nat → ClassId) (bs mi : Nat) (ro : Nat → Option ez_E) (g : ez_G) (k : Nat) (p : Program) (R : Room) (s : State) (m : MethodId) (args : Array Value) (meth : Method) (c : Code) : Prop :=
  p.tables.exec = Jvm.exec ∧ c.code = ez_code k ∧ meth.sig.returnType = ez_ret k ∧ c.maxLocals = ez_ml k ∧ s.vm.findClass (ez_cn (ez_ow k)) = some m.cls ∧ (∀ w ∈ ez_GW, w.before args s = true) ∧ meth.locks = false ∧ (ez_kd k = 2 → meth.name = "<init>") ∧ (ez_dep k ≤ R.frames ∧ 30 * ez_dep k ≤ R.locals) ∧ bs ≤ s.heap.size ∧ k < 160 ∧ ez_KS D dA bs mi ro g s s.heap
def ez_WS (D : va_G) (dA : Nat → ClassId) (bs : Nat) (ro : Nat → Option ez_E) (p : Program) (l : Launch) (e : Env) (R : Room) (s : State) (m : MethodId) (args : Array Value) (below : List Frame) (meth : Method) (c : Code) (Q : State → Prop) (c0 s0 k pc : Nat) (ls : ez_L) (st : List Value) (h : ez_H) : Prop :=
  ∀ (lsA : Array Slot) (H : Heap) (locs : List Loc) (cells slots : Nat), cells + c0 = h.2.1 → slots + s0 = h.2.2 → ez_ls lsA (ez_ml k) ls → ez_Rep D dA bs ro h H → va_S (ez_A bs) s.heap H locs → W p l e R s m args below meth c H locs cells slots Q (F0 m pc lsA st)
theorem ez_if {α : Type} {c : Prop} {i : Decidable c} {a : Option α} {x : α} (h : @ite _ c i a none = some x) : c ∧ a = some x := by
  by_cases hc : c
  · rw [if_pos hc] at h
    exact ⟨hc, h⟩
  · rw [if_neg hc] at h
    cases h
theorem ez_ifn {α : Type} {c : Prop} {i : Decidable c} {a : Option α} {x : α} (h : @ite _ c i none a = some x) : ¬ c ∧ a = some x := by
  by_cases hc : c
  · rw [if_pos hc] at h
    cases h
  · rw [if_neg hc] at h
    exact ⟨hc, h⟩
theorem ez_bi {α β : Type} {a : Option α} {f : α → Option β} {x : β} (h : a.bind f = some x) : ∃ y, a = some y ∧ f y = some x := by
  cases a with
  | none => cases h
  | some y => exact ⟨y, rfl, h⟩
theorem ez_goi {pc pc2 : Nat} {ls ls2 : ez_L} {st st2 : List Value} {h h2 : ez_H} (e : ez_go pc ls st h = some (.inl (pc2, ls2, st2, h2))) : pc2 = pc ∧ ls2 = ls ∧ st2 = st ∧ h2 = h := by
  cases e
  exact ⟨rfl, rfl, rfl, rfl⟩
theorem ez_ji {pc : Nat} {off : Int} {f : Nat → ez_O} {x} (h : ez_jmp pc off f = some x) : ∃ t : Nat, (pc : Int) + off = (t : Int) ∧ f t = some x := by
  unfold ez_jmp at h
  obtain ⟨h1, h2⟩ := ez_if h
  exact ⟨_, (Int.toNat_of_nonneg h1).symm, h2⟩
theorem ez_ii_inv {st : List Value} {f : Int32 → Int32 → List Value → ez_O} {x} (h : ez_ii st f = some x) : ∃ a b r, st = .int b :: .int a :: r ∧ f a b r = some x := by
  unfold ez_ii at h
  split at h
  · exact ⟨_, _, _, rfl, h⟩
  · cases h
theorem ez_i1_inv {st : List Value} {f : Int32 → List Value → ez_O} {x} (h : ez_i1 st f = some x) : ∃ a r, st = .int a :: r ∧ f a r = some x := by
  unfold ez_i1 at h
  split at h
  · exact ⟨_, _, rfl, h⟩
  · cases h
theorem ez_ll_inv {st : List Value} {f : Int64 → Int64 → List Value → ez_O} {x} (h : ez_ll st f = some x) : ∃ a b r, st = .long b :: .long a :: r ∧ f a b r = some x := by
  unfold ez_ll at h
  split at h
  · exact ⟨_, _, _, rfl, h⟩
  · cases h
theorem ez_l1_inv {st : List Value} {f : Int64 → List Value → ez_O} {x} (h : ez_l1 st f = some x) : ∃ a r, st = .long a :: r ∧ f a r = some x := by
  unfold ez_l1 at h
  split at h
  · exact ⟨_, _, rfl, h⟩
  · cases h
theorem ez_r1_inv {st : List Value} {f : Nat → List Value → ez_O} {x} (h : ez_r1 st f = some x) : ∃ a r, st = .ref a :: r ∧ f a r = some x := by
  unfold ez_r1 at h
  split at h
  · exact ⟨_, _, rfl, h⟩
  · cases h
theorem ez_ri_inv {st : List Value} {f : Nat → Int32 → List Value → ez_O} {x} (h : ez_ri st f = some x) : ∃ a i r, st = .int i :: .ref a :: r ∧ f a i r = some x := by
  unfold ez_ri at h
  split at h
  · exact ⟨_, _, _, rfl, h⟩
  · cases h
section ZS
variable {D : va_G} {dA : Nat → ClassId} {bs mi : Nat} {ro : Nat → Option ez_E} {g : ez_G}
variable {p : Program} {l : Launch} {e : Env} {R : Room} {s : State} {m : MethodId} {args : Array Value} {below : List Frame} {meth : Method} {c : Code} {Q : State → Prop} {c0 s0 : Nat}
variable {k pc n pc2 : Nat} {ls ls2 : ez_L} {st st2 : List Value} {h h2 : ez_H}
theorem so_iconst {i : Int} (C : ez_Cx D dA bs mi ro g k p R s m args meth c) (hd : decode (ez_code k) pc = .ok (.iconst i, n)) (hst : ez_st g k (.iconst i) n pc ls st h = some (.inl (pc2, ls2, st2, h2))) (kk : ez_WS D dA bs ro p l e R s m args below meth c Q c0 s0 k pc2 ls2 st2 h2) : ez_WS D dA bs ro p l e R s m args below meth c Q c0 s0 k pc ls st h := by
  intro lsA H locs cells slots e1 e2 hl hR hS
  obtain ⟨hx, hb, hr, hml, hown, hts, hlk, hin, hdp, hbs, hk160, hKS⟩ := C
  simp only [ez_st] at hst
  obtain ⟨rfl, hs⟩ := ez_if hst
  clear hst
  have hst := hs
  clear hs
  obtain ⟨rfl, rfl, rfl, rfl⟩ := ez_goi hst
  exact lv_iconst hx hb hd rfl (kk lsA H locs cells slots e1 e2 hl hR hS)
theorem so_bipush {i : Int} (C : ez_Cx D dA bs mi ro g k p R s m args meth c) (hd : decode (ez_code k) pc = .ok (.bipush i, n)) (hst : ez_st g k (.bipush i) n pc ls st h = some (.inl (pc2, ls2, st2, h2))) (kk : ez_WS D dA bs ro p l e R s m args below meth c Q c0 s0 k pc2 ls2 st2 h2) : ez_WS D dA bs ro p l e R s m args below meth c Q c0 s0 k pc ls st h := by
  intro lsA H locs cells slots e1 e2 hl hR hS
  obtain ⟨hx, hb, hr, hml, hown, hts, hlk, hin, hdp, hbs, hk160, hKS⟩ := C
  simp only [ez_st] at hst
  obtain ⟨rfl, hs⟩ := ez_if hst
  clear hst
  have hst := hs
  clear hs
  obtain ⟨rfl, rfl, rfl, rfl⟩ := ez_goi hst
  exact lv_bipush hx hb hd rfl (kk lsA H locs cells slots e1 e2 hl hR hS)
theorem so_sipush {i : Int} (C : ez_Cx D dA bs mi ro g k p R s m args meth c) (hd : decode (ez_code k) pc = .ok (.sipush i, n)) (hst : ez_st g k (.sipush i) n pc ls st h = some (.inl (pc2, ls2, st2, h2))) (kk : ez_WS D dA bs ro p l e R s m args below meth c Q c0 s0 k pc2 ls2 st2 h2) : ez_WS D dA bs ro p l e R s m args below meth c Q c0 s0 k pc ls st h := by
  intro lsA H locs cells slots e1 e2 hl hR hS
  obtain ⟨hx, hb, hr, hml, hown, hts, hlk, hin, hdp, hbs, hk160, hKS⟩ := C
  simp only [ez_st] at hst
  obtain ⟨rfl, hs⟩ := ez_if hst
  clear hst
  have hst := hs
  clear hs
  obtain ⟨rfl, rfl, rfl, rfl⟩ := ez_goi hst
  exact lv_sipush hx hb hd rfl (kk lsA H locs cells slots e1 e2 hl hR hS)
theorem so_lconst {i : Fin 2} (C : ez_Cx D dA bs mi ro g k p R s m args meth c) (hd : decode (ez_code k) pc = .ok (.lconst i, n)) (hst : ez_st g k (.lconst i) n pc ls st h = some (.inl (pc2, ls2, st2, h2))) (kk : ez_WS D dA bs ro p l e R s m args below meth c Q c0 s0 k pc2 ls2 st2 h2) : ez_WS D dA bs ro p l e R s m args below meth c Q c0 s0 k pc ls st h := by
  intro lsA H locs cells slots e1 e2 hl hR hS
  obtain ⟨hx, hb, hr, hml, hown, hts, hlk, hin, hdp, hbs, hk160, hKS⟩ := C
  simp only [ez_st] at hst
  obtain ⟨rfl, hs⟩ := ez_if hst
  clear hst
  have hst := hs
  clear hs
  obtain ⟨rfl, rfl, rfl, rfl⟩ := ez_goi hst
  exact lv_lconst hx hb hd rfl (kk lsA H locs cells slots e1 e2 hl hR hS)
theorem so_aconst_null (C : ez_Cx D dA bs mi ro g k p R s m args meth c) (hd : decode (ez_code k) pc = .ok (.aconst_null, n)) (hst : ez_st g k (.aconst_null) n pc ls st h = some (.inl (pc2, ls2, st2, h2))) (kk : ez_WS D dA bs ro p l e R s m args below meth c Q c0 s0 k pc2 ls2 st2 h2) : ez_WS D dA bs ro p l e R s m args below meth c Q c0 s0 k pc ls st h := by
  intro lsA H locs cells slots e1 e2 hl hR hS
  obtain ⟨hx, hb, hr, hml, hown, hts, hlk, hin, hdp, hbs, hk160, hKS⟩ := C
  simp only [ez_st] at hst
  obtain ⟨rfl, hs⟩ := ez_if hst
  clear hst
  have hst := hs
  clear hs
  obtain ⟨rfl, rfl, rfl, rfl⟩ := ez_goi hst
  exact lv_null hx hb hd (kk lsA H locs cells slots e1 e2 hl hR hS)
theorem so_iload {i : Nat} (C : ez_Cx D dA bs mi ro g k p R s m args meth c) (hd : decode (ez_code k) pc = .ok (.iload i, n)) (hst : ez_st g k (.iload i) n pc ls st h = some (.inl (pc2, ls2, st2, h2))) (kk : ez_WS D dA bs ro p l e R s m args below meth c Q c0 s0 k pc2 ls2 st2 h2) : ez_WS D dA bs ro p l e R s m args below meth c Q c0 s0 k pc ls st h := by
  intro lsA H locs cells slots e1 e2 hl hR hS
  obtain ⟨hx, hb, hr, hml, hown, hts, hlk, hin, hdp, hbs, hk160, hKS⟩ := C
  simp only [ez_st] at hst
  obtain ⟨rfl, hs⟩ := ez_if hst
  clear hst
  have hst := hs
  clear hs
  split at hst
  · next x hv =>
    obtain ⟨rfl, rfl, rfl, rfl⟩ := ez_goi hst
    exact lv_iload hx hb hd (hl.2.2.2 _ _ hv) (kk lsA H locs cells slots e1 e2 hl hR hS)
  · cases hst
theorem so_iload_n {i : Fin 4} (C : ez_Cx D dA bs mi ro g k p R s m args meth c) (hd : decode (ez_code k) pc = .ok (.iload_n i, n)) (hst : ez_st g k (.iload_n i) n pc ls st h = some (.inl (pc2, ls2, st2, h2))) (kk : ez_WS D dA bs ro p l e R s m args below meth c Q c0 s0 k pc2 ls2 st2 h2) : ez_WS D dA bs ro p l e R s m args below meth c Q c0 s0 k pc ls st h := by
  intro lsA H locs cells slots e1 e2 hl hR hS
  obtain ⟨hx, hb, hr, hml, hown, hts, hlk, hin, hdp, hbs, hk160, hKS⟩ := C
  simp only [ez_st] at hst
  obtain ⟨rfl, hs⟩ := ez_if hst
  clear hst
  have hst := hs
  clear hs
  split at hst
  · next x hv =>
    obtain ⟨rfl, rfl, rfl, rfl⟩ := ez_goi hst
    exact lv_iload_n hx hb hd rfl (hl.2.2.2 _ _ hv) (kk lsA H locs cells slots e1 e2 hl hR hS)
  · cases hst
theorem so_lload {i : Nat} (C : ez_Cx D dA bs mi ro g k p R s m args meth c) (hd : decode (ez_code k) pc = .ok (.lload i, n)) (hst : ez_st g k (.lload i) n pc ls st h = some (.inl (pc2, ls2, st2, h2))) (kk : ez_WS D dA bs ro p l e R s m args below meth c Q c0 s0 k pc2 ls2 st2 h2) : ez_WS D dA bs ro p l e R s m args below meth c Q c0 s0 k pc ls st h := by
  intro lsA H locs cells slots e1 e2 hl hR hS
  obtain ⟨hx, hb, hr, hml, hown, hts, hlk, hin, hdp, hbs, hk160, hKS⟩ := C
  simp only [ez_st] at hst
  obtain ⟨rfl, hs⟩ := ez_if hst
  clear hst
  have hst := hs
  clear hs
  split at hst
  · next x hv =>
    obtain ⟨rfl, rfl, rfl, rfl⟩ := ez_goi hst
    exact lv_lload hx hb hd (hl.2.2.2 _ _ hv) (kk lsA H locs cells slots e1 e2 hl hR hS)
  · cases hst
theorem so_lload_n {i : Fin 4} (C : ez_Cx D dA bs mi ro g k p R s m args meth c) (hd : decode (ez_code k) pc = .ok (.lload_n i, n)) (hst : ez_st g k (.lload_n i) n pc ls st h = some (.inl (pc2, ls2, st2, h2))) (kk : ez_WS D dA bs ro p l e R s m args below meth c Q c0 s0 k pc2 ls2 st2 h2) : ez_WS D dA bs ro p l e R s m args below meth c Q c0 s0 k pc ls st h := by
  intro lsA H locs cells slots e1 e2 hl hR hS
  obtain ⟨hx, hb, hr, hml, hown, hts, hlk, hin, hdp, hbs, hk160, hKS⟩ := C
  simp only [ez_st] at hst
  obtain ⟨rfl, hs⟩ := ez_if hst
  clear hst
  have hst := hs
  clear hs
  split at hst
  · next x hv =>
    obtain ⟨rfl, rfl, rfl, rfl⟩ := ez_goi hst
    exact lv_lload_n hx hb hd rfl (hl.2.2.2 _ _ hv) (kk lsA H locs cells slots e1 e2 hl hR hS)
  · cases hst
theorem so_aload {i : Nat} (C : ez_Cx D dA bs mi ro g k p R s m args meth c) (hd : decode (ez_code k) pc = .ok (.aload i, n)) (hst : ez_st g k (.aload i) n pc ls st h = some (.inl (pc2, ls2, st2, h2))) (kk : ez_WS D dA bs ro p l e R s m args below meth c Q c0 s0 k pc2 ls2 st2 h2) : ez_WS D dA bs ro p l e R s m args below meth c Q c0 s0 k pc ls st h := by
  intro lsA H locs cells slots e1 e2 hl hR hS
  obtain ⟨hx, hb, hr, hml, hown, hts, hlk, hin, hdp, hbs, hk160, hKS⟩ := C
  simp only [ez_st] at hst
  obtain ⟨rfl, hs⟩ := ez_if hst
  clear hst
  have hst := hs
  clear hs
  split at hst
  · next x hv =>
    obtain ⟨rfl, rfl, rfl, rfl⟩ := ez_goi hst
    exact lv_aload hx hb hd (hl.2.2.2 _ _ hv) (kk lsA H locs cells slots e1 e2 hl hR hS)
  · next hv =>
    obtain ⟨rfl, rfl, rfl, rfl⟩ := ez_goi hst
    exact lv_aloadN hx hb hd (hl.2.2.2 _ _ hv) (kk lsA H locs cells slots e1 e2 hl hR hS)
  · cases hst
theorem so_aload_n {i : Fin 4} (C : ez_Cx D dA bs mi ro g k p R s m args meth c) (hd : decode (ez_code k) pc = .ok (.aload_n i, n)) (hst : ez_st g k (.aload_n i) n pc ls st h = some (.inl (pc2, ls2, st2, h2))) (kk : ez_WS D dA bs ro p l e R s m args below meth c Q c0 s0 k pc2 ls2 st2 h2) : ez_WS D dA bs ro p l e R s m args below meth c Q c0 s0 k pc ls st h := by
  intro lsA H locs cells slots e1 e2 hl hR hS
  obtain ⟨hx, hb, hr, hml, hown, hts, hlk, hin, hdp, hbs, hk160, hKS⟩ := C
  simp only [ez_st] at hst
  obtain ⟨rfl, hs⟩ := ez_if hst
  clear hst
  have hst := hs
  clear hs
  split at hst
  · next x hv =>
    obtain ⟨rfl, rfl, rfl, rfl⟩ := ez_goi hst
    exact lv_aload_n hx hb hd rfl (hl.2.2.2 _ _ hv) (kk lsA H locs cells slots e1 e2 hl hR hS)
  · next hv =>
    obtain ⟨rfl, rfl, rfl, rfl⟩ := ez_goi hst
    exact lv_aload_nN hx hb hd rfl (hl.2.2.2 _ _ hv) (kk lsA H locs cells slots e1 e2 hl hR hS)
  · cases hst
theorem so_istore {i : Nat} (C : ez_Cx D dA bs mi ro g k p R s m args meth c) (hd : decode (ez_code k) pc = .ok (.istore i, n)) (hst : ez_st g k (.istore i) n pc ls st h = some (.inl (pc2, ls2, st2, h2))) (kk : ez_WS D dA bs ro p l e R s m args below meth c Q c0 s0 k pc2 ls2 st2 h2) : ez_WS D dA bs ro p l e R s m args below meth c Q c0 s0 k pc ls st h := by
  intro lsA H locs cells slots e1 e2 hl hR hS
  obtain ⟨hx, hb, hr, hml, hown, hts, hlk, hin, hdp, hbs, hk160, hKS⟩ := C
  simp only [ez_st] at hst
  obtain ⟨rfl, hs⟩ := ez_if hst
  clear hst
  have hst := hs
  clear hs
  obtain ⟨x, r, rfl, hst⟩ := ez_i1_inv hst
  obtain ⟨l2, hp, hst⟩ := ez_bi hst
  obtain ⟨rfl, rfl, rfl, rfl⟩ := ez_goi hst
  exact lv_istore hx hb hd hl.has (by rw [← hl.1]; exact ez_lpl hp) rfl (fun ls3 h3 => kk ls3 H locs cells slots e1 e2 (hl.put hp h3) hR hS)
theorem so_istore_n {i : Fin 4} (C : ez_Cx D dA bs mi ro g k p R s m args meth c) (hd : decode (ez_code k) pc = .ok (.istore_n i, n)) (hst : ez_st g k (.istore_n i) n pc ls st h = some (.inl (pc2, ls2, st2, h2))) (kk : ez_WS D dA bs ro p l e R s m args below meth c Q c0 s0 k pc2 ls2 st2 h2) : ez_WS D dA bs ro p l e R s m args below meth c Q c0 s0 k pc ls st h := by
  intro lsA H locs cells slots e1 e2 hl hR hS
  obtain ⟨hx, hb, hr, hml, hown, hts, hlk, hin, hdp, hbs, hk160, hKS⟩ := C
  simp only [ez_st] at hst
  obtain ⟨rfl, hs⟩ := ez_if hst
  clear hst
  have hst := hs
  clear hs
  obtain ⟨x, r, rfl, hst⟩ := ez_i1_inv hst
  obtain ⟨l2, hp, hst⟩ := ez_bi hst
  obtain ⟨rfl, rfl, rfl, rfl⟩ := ez_goi hst
  exact lv_istore_n hx hb hd rfl hl.has (by rw [← hl.1]; exact ez_lpl hp) rfl (fun ls3 h3 => kk ls3 H locs cells slots e1 e2 (hl.put hp h3) hR hS)
theorem so_lstore {i : Nat} (C : ez_Cx D dA bs mi ro g k p R s m args meth c) (hd : decode (ez_code k) pc = .ok (.lstore i, n)) (hst : ez_st g k (.lstore i) n pc ls st h = some (.inl (pc2, ls2, st2, h2))) (kk : ez_WS D dA bs ro p l e R s m args below meth c Q c0 s0 k pc2 ls2 st2 h2) : ez_WS D dA bs ro p l e R s m args below meth c Q c0 s0 k pc ls st h := by
  intro lsA H locs cells slots e1 e2 hl hR hS
  obtain ⟨hx, hb, hr, hml, hown, hts, hlk, hin, hdp, hbs, hk160, hKS⟩ := C
  simp only [ez_st] at hst
  obtain ⟨rfl, hs⟩ := ez_if hst
  clear hst
  have hst := hs
  clear hs
  obtain ⟨x, r, rfl, hst⟩ := ez_l1_inv hst
  obtain ⟨l2, hp, hst⟩ := ez_bi hst
  obtain ⟨rfl, rfl, rfl, rfl⟩ := ez_goi hst
  exact lv_lstore hx hb hd hl.has (by rw [← hl.1]; exact ez_lpl2 hp) rfl (fun ls3 h3 => kk ls3 H locs cells slots e1 e2 (hl.put2 hp h3) hR hS)
theorem so_lstore_n {i : Fin 4} (C : ez_Cx D dA bs mi ro g k p R s m args meth c) (hd : decode (ez_code k) pc = .ok (.lstore_n i, n)) (hst : ez_st g k (.lstore_n i) n pc ls st h = some (.inl (pc2, ls2, st2, h2))) (kk : ez_WS D dA bs ro p l e R s m args below meth c Q c0 s0 k pc2 ls2 st2 h2) : ez_WS D dA bs ro p l e R s m args below meth c Q c0 s0 k pc ls st h := by
  intro lsA H locs cells slots e1 e2 hl hR hS
  obtain ⟨hx, hb, hr, hml, hown, hts, hlk, hin, hdp, hbs, hk160, hKS⟩ := C
  simp only [ez_st] at hst
  obtain ⟨rfl, hs⟩ := ez_if hst
  clear hst
  have hst := hs
  clear hs
  obtain ⟨x, r, rfl, hst⟩ := ez_l1_inv hst
  obtain ⟨l2, hp, hst⟩ := ez_bi hst
  obtain ⟨rfl, rfl, rfl, rfl⟩ := ez_goi hst
  exact lv_lstore_n hx hb hd rfl hl.has (by rw [← hl.1]; exact ez_lpl2 hp) rfl (fun ls3 h3 => kk ls3 H locs cells slots e1 e2 (hl.put2 hp h3) hR hS)
theorem so_astore {i : Nat} (C : ez_Cx D dA bs mi ro g k p R s m args meth c) (hd : decode (ez_code k) pc = .ok (.astore i, n)) (hst : ez_st g k (.astore i) n pc ls st h = some (.inl (pc2, ls2, st2, h2))) (kk : ez_WS D dA bs ro p l e R s m args below meth c Q c0 s0 k pc2 ls2 st2 h2) : ez_WS D dA bs ro p l e R s m args below meth c Q c0 s0 k pc ls st h := by
  intro lsA H locs cells slots e1 e2 hl hR hS
  obtain ⟨hx, hb, hr, hml, hown, hts, hlk, hin, hdp, hbs, hk160, hKS⟩ := C
  simp only [ez_st] at hst
  obtain ⟨rfl, hs⟩ := ez_if hst
  clear hst
  have hst := hs
  clear hs
  split at hst
  · obtain ⟨l2, hp, hst⟩ := ez_bi hst
    obtain ⟨rfl, rfl, rfl, rfl⟩ := ez_goi hst
    exact lv_astore hx hb hd hl.has (by rw [← hl.1]; exact ez_lpl hp) rfl (fun ls3 h3 => kk ls3 H locs cells slots e1 e2 (hl.put hp h3) hR hS)
  · obtain ⟨l2, hp, hst⟩ := ez_bi hst
    obtain ⟨rfl, rfl, rfl, rfl⟩ := ez_goi hst
    exact lv_astoreN hx hb hd hl.has (by rw [← hl.1]; exact ez_lpl hp) rfl (fun ls3 h3 => kk ls3 H locs cells slots e1 e2 (hl.put hp h3) hR hS)
  · cases hst
theorem so_astore_n {i : Fin 4} (C : ez_Cx D dA bs mi ro g k p R s m args meth c) (hd : decode (ez_code k) pc = .ok (.astore_n i, n)) (hst : ez_st g k (.astore_n i) n pc ls st h = some (.inl (pc2, ls2, st2, h2))) (kk : ez_WS D dA bs ro p l e R s m args below meth c Q c0 s0 k pc2 ls2 st2 h2) : ez_WS D dA bs ro p l e R s m args below meth c Q c0 s0 k pc ls st h := by
  intro lsA H locs cells slots e1 e2 hl hR hS
  obtain ⟨hx, hb, hr, hml, hown, hts, hlk, hin, hdp, hbs, hk160, hKS⟩ := C
  simp only [ez_st] at hst
  obtain ⟨rfl, hs⟩ := ez_if hst
  clear hst
  have hst := hs
  clear hs
  split at hst
  · obtain ⟨l2, hp, hst⟩ := ez_bi hst
    obtain ⟨rfl, rfl, rfl, rfl⟩ := ez_goi hst
    exact lv_astore_n hx hb hd rfl hl.has (by rw [← hl.1]; exact ez_lpl hp) rfl (fun ls3 h3 => kk ls3 H locs cells slots e1 e2 (hl.put hp h3) hR hS)
  · obtain ⟨l2, hp, hst⟩ := ez_bi hst
    obtain ⟨rfl, rfl, rfl, rfl⟩ := ez_goi hst
    exact lv_astore_nN hx hb hd rfl hl.has (by rw [← hl.1]; exact ez_lpl hp) rfl (fun ls3 h3 => kk ls3 H locs cells slots e1 e2 (hl.put hp h3) hR hS)
  · cases hst
theorem so_iinc {i : Nat} {cc : Int} (C : ez_Cx D dA bs mi ro g k p R s m args meth c) (hd : decode (ez_code k) pc = .ok (.iinc i cc, n)) (hst : ez_st g k (.iinc i cc) n pc ls st h = some (.inl (pc2, ls2, st2, h2))) (kk : ez_WS D dA bs ro p l e R s m args below meth c Q c0 s0 k pc2 ls2 st2 h2) : ez_WS D dA bs ro p l e R s m args below meth c Q c0 s0 k pc ls st h := by
  intro lsA H locs cells slots e1 e2 hl hR hS
  obtain ⟨hx, hb, hr, hml, hown, hts, hlk, hin, hdp, hbs, hk160, hKS⟩ := C
  simp only [ez_st] at hst
  obtain ⟨rfl, hs⟩ := ez_if hst
  clear hst
  have hst := hs
  clear hs
  split at hst
  · next x hv =>
    obtain ⟨l2, hp, hst⟩ := ez_bi hst
    obtain ⟨rfl, rfl, rfl, rfl⟩ := ez_goi hst
    obtain ⟨j, hj⟩ := List.getElem?_of_mem (ez_all_in (n := ez_ml k) (by rw [← hl.1]; exact ez_lgn hv) hv)
    exact lv_iinc hx hb hd hl.has hj rfl (by rw [← hl.1]; exact ez_lpl hp) rfl (fun ls3 h3 => kk ls3 H locs cells slots e1 e2 (hl.put hp h3) hR hS)
  · cases hst
theorem so_iadd (C : ez_Cx D dA bs mi ro g k p R s m args meth c) (hd : decode (ez_code k) pc = .ok (.iadd, n)) (hst : ez_st g k (.iadd) n pc ls st h = some (.inl (pc2, ls2, st2, h2))) (kk : ez_WS D dA bs ro p l e R s m args below meth c Q c0 s0 k pc2 ls2 st2 h2) : ez_WS D dA bs ro p l e R s m args below meth c Q c0 s0 k pc ls st h := by
  intro lsA H locs cells slots e1 e2 hl hR hS
  obtain ⟨hx, hb, hr, hml, hown, hts, hlk, hin, hdp, hbs, hk160, hKS⟩ := C
  simp only [ez_st] at hst
  obtain ⟨rfl, hs⟩ := ez_if hst
  clear hst
  have hst := hs
  clear hs
  obtain ⟨a, b, r, rfl, hst⟩ := ez_ii_inv hst
  obtain ⟨rfl, rfl, rfl, rfl⟩ := ez_goi hst
  exact lv_iadd hx hb hd (kk lsA H locs cells slots e1 e2 hl hR hS)
theorem so_isub (C : ez_Cx D dA bs mi ro g k p R s m args meth c) (hd : decode (ez_code k) pc = .ok (.isub, n)) (hst : ez_st g k (.isub) n pc ls st h = some (.inl (pc2, ls2, st2, h2))) (kk : ez_WS D dA bs ro p l e R s m args below meth c Q c0 s0 k pc2 ls2 st2 h2) : ez_WS D dA bs ro p l e R s m args below meth c Q c0 s0 k pc ls st h := by
  intro lsA H locs cells slots e1 e2 hl hR hS
  obtain ⟨hx, hb, hr, hml, hown, hts, hlk, hin, hdp, hbs, hk160, hKS⟩ := C
  simp only [ez_st] at hst
  obtain ⟨rfl, hs⟩ := ez_if hst
  clear hst
  have hst := hs
  clear hs
  obtain ⟨a, b, r, rfl, hst⟩ := ez_ii_inv hst
  obtain ⟨rfl, rfl, rfl, rfl⟩ := ez_goi hst
  exact lv_isub hx hb hd (kk lsA H locs cells slots e1 e2 hl hR hS)
theorem so_imul (C : ez_Cx D dA bs mi ro g k p R s m args meth c) (hd : decode (ez_code k) pc = .ok (.imul, n)) (hst : ez_st g k (.imul) n pc ls st h = some (.inl (pc2, ls2, st2, h2))) (kk : ez_WS D dA bs ro p l e R s m args below meth c Q c0 s0 k pc2 ls2 st2 h2) : ez_WS D dA bs ro p l e R s m args below meth c Q c0 s0 k pc ls st h := by
  intro lsA H locs cells slots e1 e2 hl hR hS
  obtain ⟨hx, hb, hr, hml, hown, hts, hlk, hin, hdp, hbs, hk160, hKS⟩ := C
  simp only [ez_st] at hst
  obtain ⟨rfl, hs⟩ := ez_if hst
  clear hst
  have hst := hs
  clear hs
  obtain ⟨a, b, r, rfl, hst⟩ := ez_ii_inv hst
  obtain ⟨rfl, rfl, rfl, rfl⟩ := ez_goi hst
  exact lv_imul hx hb hd (kk lsA H locs cells slots e1 e2 hl hR hS)
theorem so_iand (C : ez_Cx D dA bs mi ro g k p R s m args meth c) (hd : decode (ez_code k) pc = .ok (.iand, n)) (hst : ez_st g k (.iand) n pc ls st h = some (.inl (pc2, ls2, st2, h2))) (kk : ez_WS D dA bs ro p l e R s m args below meth c Q c0 s0 k pc2 ls2 st2 h2) : ez_WS D dA bs ro p l e R s m args below meth c Q c0 s0 k pc ls st h := by
  intro lsA H locs cells slots e1 e2 hl hR hS
  obtain ⟨hx, hb, hr, hml, hown, hts, hlk, hin, hdp, hbs, hk160, hKS⟩ := C
  simp only [ez_st] at hst
  obtain ⟨rfl, hs⟩ := ez_if hst
  clear hst
  have hst := hs
  clear hs
  obtain ⟨a, b, r, rfl, hst⟩ := ez_ii_inv hst
  obtain ⟨rfl, rfl, rfl, rfl⟩ := ez_goi hst
  exact lv_iand hx hb hd (kk lsA H locs cells slots e1 e2 hl hR hS)
theorem so_ior (C : ez_Cx D dA bs mi ro g k p R s m args meth c) (hd : decode (ez_code k) pc = .ok (.ior, n)) (hst : ez_st g k (.ior) n pc ls st h = some (.inl (pc2, ls2, st2, h2))) (kk : ez_WS D dA bs ro p l e R s m args below meth c Q c0 s0 k pc2 ls2 st2 h2) : ez_WS D dA bs ro p l e R s m args below meth c Q c0 s0 k pc ls st h := by
  intro lsA H locs cells slots e1 e2 hl hR hS
  obtain ⟨hx, hb, hr, hml, hown, hts, hlk, hin, hdp, hbs, hk160, hKS⟩ := C
  simp only [ez_st] at hst
  obtain ⟨rfl, hs⟩ := ez_if hst
  clear hst
  have hst := hs
  clear hs
  obtain ⟨a, b, r, rfl, hst⟩ := ez_ii_inv hst
  obtain ⟨rfl, rfl, rfl, rfl⟩ := ez_goi hst
  exact lv_ior hx hb hd (kk lsA H locs cells slots e1 e2 hl hR hS)
theorem so_ishl (C : ez_Cx D dA bs mi ro g k p R s m args meth c) (hd : decode (ez_code k) pc = .ok (.ishl, n)) (hst : ez_st g k (.ishl) n pc ls st h = some (.inl (pc2, ls2, st2, h2))) (kk : ez_WS D dA bs ro p l e R s m args below meth c Q c0 s0 k pc2 ls2 st2 h2) : ez_WS D dA bs ro p l e R s m args below meth c Q c0 s0 k pc ls st h := by
  intro lsA H locs cells slots e1 e2 hl hR hS
  obtain ⟨hx, hb, hr, hml, hown, hts, hlk, hin, hdp, hbs, hk160, hKS⟩ := C
  simp only [ez_st] at hst
  obtain ⟨rfl, hs⟩ := ez_if hst
  clear hst
  have hst := hs
  clear hs
  obtain ⟨a, b, r, rfl, hst⟩ := ez_ii_inv hst
  obtain ⟨rfl, rfl, rfl, rfl⟩ := ez_goi hst
  exact lv_ishl hx hb hd (kk lsA H locs cells slots e1 e2 hl hR hS)
theorem so_ishr (C : ez_Cx D dA bs mi ro g k p R s m args meth c) (hd : decode (ez_code k) pc = .ok (.ishr, n)) (hst : ez_st g k (.ishr) n pc ls st h = some (.inl (pc2, ls2, st2, h2))) (kk : ez_WS D dA bs ro p l e R s m args below meth c Q c0 s0 k pc2 ls2 st2 h2) : ez_WS D dA bs ro p l e R s m args below meth c Q c0 s0 k pc ls st h := by
  intro lsA H locs cells slots e1 e2 hl hR hS
  obtain ⟨hx, hb, hr, hml, hown, hts, hlk, hin, hdp, hbs, hk160, hKS⟩ := C
  simp only [ez_st] at hst
  obtain ⟨rfl, hs⟩ := ez_if hst
  clear hst
  have hst := hs
  clear hs
  obtain ⟨a, b, r, rfl, hst⟩ := ez_ii_inv hst
  obtain ⟨rfl, rfl, rfl, rfl⟩ := ez_goi hst
  exact lv_ishr hx hb hd (kk lsA H locs cells slots e1 e2 hl hR hS)
theorem so_idiv (C : ez_Cx D dA bs mi ro g k p R s m args meth c) (hd : decode (ez_code k) pc = .ok (.idiv, n)) (hst : ez_st g k (.idiv) n pc ls st h = some (.inl (pc2, ls2, st2, h2))) (kk : ez_WS D dA bs ro p l e R s m args below meth c Q c0 s0 k pc2 ls2 st2 h2) : ez_WS D dA bs ro p l e R s m args below meth c Q c0 s0 k pc ls st h := by
  intro lsA H locs cells slots e1 e2 hl hR hS
  obtain ⟨hx, hb, hr, hml, hown, hts, hlk, hin, hdp, hbs, hk160, hKS⟩ := C
  simp only [ez_st] at hst
  obtain ⟨rfl, hs⟩ := ez_if hst
  clear hst
  have hst := hs
  clear hs
  obtain ⟨a, b, r, rfl, hst⟩ := ez_ii_inv hst
  obtain ⟨hne, hst⟩ := ez_ifn hst
  obtain ⟨rfl, rfl, rfl, rfl⟩ := ez_goi hst
  exact lv_idiv hx hb hd hne (kk lsA H locs cells slots e1 e2 hl hR hS)
theorem so_irem (C : ez_Cx D dA bs mi ro g k p R s m args meth c) (hd : decode (ez_code k) pc = .ok (.irem, n)) (hst : ez_st g k (.irem) n pc ls st h = some (.inl (pc2, ls2, st2, h2))) (kk : ez_WS D dA bs ro p l e R s m args below meth c Q c0 s0 k pc2 ls2 st2 h2) : ez_WS D dA bs ro p l e R s m args below meth c Q c0 s0 k pc ls st h := by
  intro lsA H locs cells slots e1 e2 hl hR hS
  obtain ⟨hx, hb, hr, hml, hown, hts, hlk, hin, hdp, hbs, hk160, hKS⟩ := C
  simp only [ez_st] at hst
  obtain ⟨rfl, hs⟩ := ez_if hst
  clear hst
  have hst := hs
  clear hs
  obtain ⟨a, b, r, rfl, hst⟩ := ez_ii_inv hst
  obtain ⟨hne, hst⟩ := ez_ifn hst
  obtain ⟨rfl, rfl, rfl, rfl⟩ := ez_goi hst
  exact lv_irem hx hb hd hne (kk lsA H locs cells slots e1 e2 hl hR hS)
theorem so_ladd (C : ez_Cx D dA bs mi ro g k p R s m args meth c) (hd : decode (ez_code k) pc = .ok (.ladd, n)) (hst : ez_st g k (.ladd) n pc ls st h = some (.inl (pc2, ls2, st2, h2))) (kk : ez_WS D dA bs ro p l e R s m args below meth c Q c0 s0 k pc2 ls2 st2 h2) : ez_WS D dA bs ro p l e R s m args below meth c Q c0 s0 k pc ls st h := by
  intro lsA H locs cells slots e1 e2 hl hR hS
  obtain ⟨hx, hb, hr, hml, hown, hts, hlk, hin, hdp, hbs, hk160, hKS⟩ := C
  simp only [ez_st] at hst
  obtain ⟨rfl, hs⟩ := ez_if hst
  clear hst
  have hst := hs
  clear hs
  obtain ⟨a, b, r, rfl, hst⟩ := ez_ll_inv hst
  obtain ⟨rfl, rfl, rfl, rfl⟩ := ez_goi hst
  exact lv_ladd hx hb hd (kk lsA H locs cells slots e1 e2 hl hR hS)
theorem so_lmul (C : ez_Cx D dA bs mi ro g k p R s m args meth c) (hd : decode (ez_code k) pc = .ok (.lmul, n)) (hst : ez_st g k (.lmul) n pc ls st h = some (.inl (pc2, ls2, st2, h2))) (kk : ez_WS D dA bs ro p l e R s m args below meth c Q c0 s0 k pc2 ls2 st2 h2) : ez_WS D dA bs ro p l e R s m args below meth c Q c0 s0 k pc ls st h := by
  intro lsA H locs cells slots e1 e2 hl hR hS
  obtain ⟨hx, hb, hr, hml, hown, hts, hlk, hin, hdp, hbs, hk160, hKS⟩ := C
  simp only [ez_st] at hst
  obtain ⟨rfl, hs⟩ := ez_if hst
  clear hst
  have hst := hs
  clear hs
  obtain ⟨a, b, r, rfl, hst⟩ := ez_ll_inv hst
  obtain ⟨rfl, rfl, rfl, rfl⟩ := ez_goi hst
  exact lv_lmul hx hb hd (kk lsA H locs cells slots e1 e2 hl hR hS)
theorem so_lor (C : ez_Cx D dA bs mi ro g k p R s m args meth c) (hd : decode (ez_code k) pc = .ok (.lor, n)) (hst : ez_st g k (.lor) n pc ls st h = some (.inl (pc2, ls2, st2, h2))) (kk : ez_WS D dA bs ro p l e R s m args below meth c Q c0 s0 k pc2 ls2 st2 h2) : ez_WS D dA bs ro p l e R s m args below meth c Q c0 s0 k pc ls st h := by
  intro lsA H locs cells slots e1 e2 hl hR hS
  obtain ⟨hx, hb, hr, hml, hown, hts, hlk, hin, hdp, hbs, hk160, hKS⟩ := C
  simp only [ez_st] at hst
  obtain ⟨rfl, hs⟩ := ez_if hst
  clear hst
  have hst := hs
  clear hs
  obtain ⟨a, b, r, rfl, hst⟩ := ez_ll_inv hst
  obtain ⟨rfl, rfl, rfl, rfl⟩ := ez_goi hst
  exact lv_lor hx hb hd (kk lsA H locs cells slots e1 e2 hl hR hS)
theorem so_ldiv (C : ez_Cx D dA bs mi ro g k p R s m args meth c) (hd : decode (ez_code k) pc = .ok (.ldiv, n)) (hst : ez_st g k (.ldiv) n pc ls st h = some (.inl (pc2, ls2, st2, h2))) (kk : ez_WS D dA bs ro p l e R s m args below meth c Q c0 s0 k pc2 ls2 st2 h2) : ez_WS D dA bs ro p l e R s m args below meth c Q c0 s0 k pc ls st h := by
  intro lsA H locs cells slots e1 e2 hl hR hS
  obtain ⟨hx, hb, hr, hml, hown, hts, hlk, hin, hdp, hbs, hk160, hKS⟩ := C
  simp only [ez_st] at hst
  obtain ⟨rfl, hs⟩ := ez_if hst
  clear hst
  have hst := hs
  clear hs
  obtain ⟨a, b, r, rfl, hst⟩ := ez_ll_inv hst
  obtain ⟨hne, hst⟩ := ez_ifn hst
  obtain ⟨rfl, rfl, rfl, rfl⟩ := ez_goi hst
  exact lv_ldiv hx hb hd hne (kk lsA H locs cells slots e1 e2 hl hR hS)
theorem so_lrem (C : ez_Cx D dA bs mi ro g k p R s m args meth c) (hd : decode (ez_code k) pc = .ok (.lrem, n)) (hst : ez_st g k (.lrem) n pc ls st h = some (.inl (pc2, ls2, st2, h2))) (kk : ez_WS D dA bs ro p l e R s m args below meth c Q c0 s0 k pc2 ls2 st2 h2) : ez_WS D dA bs ro p l e R s m args below meth c Q c0 s0 k pc ls st h := by
  intro lsA H locs cells slots e1 e2 hl hR hS
  obtain ⟨hx, hb, hr, hml, hown, hts, hlk, hin, hdp, hbs, hk160, hKS⟩ := C
  simp only [ez_st] at hst
  obtain ⟨rfl, hs⟩ := ez_if hst
  clear hst
  have hst := hs
  clear hs
  obtain ⟨a, b, r, rfl, hst⟩ := ez_ll_inv hst
  obtain ⟨hne, hst⟩ := ez_ifn hst
  obtain ⟨rfl, rfl, rfl, rfl⟩ := ez_goi hst
  exact lv_lrem hx hb hd hne (kk lsA H locs cells slots e1 e2 hl hR hS)
theorem so_lcmp (C : ez_Cx D dA bs mi ro g k p R s m args meth c) (hd : decode (ez_code k) pc = .ok (.lcmp, n)) (hst : ez_st g k (.lcmp) n pc ls st h = some (.inl (pc2, ls2, st2, h2))) (kk : ez_WS D dA bs ro p l e R s m args below meth c Q c0 s0 k pc2 ls2 st2 h2) : ez_WS D dA bs ro p l e R s m args below meth c Q c0 s0 k pc ls st h := by
  intro lsA H locs cells slots e1 e2 hl hR hS
  obtain ⟨hx, hb, hr, hml, hown, hts, hlk, hin, hdp, hbs, hk160, hKS⟩ := C
  simp only [ez_st] at hst
  obtain ⟨rfl, hs⟩ := ez_if hst
  clear hst
  have hst := hs
  clear hs
  obtain ⟨a, b, r, rfl, hst⟩ := ez_ll_inv hst
  obtain ⟨rfl, rfl, rfl, rfl⟩ := ez_goi hst
  exact W.lcmp hx hb hd (kk lsA H locs cells slots e1 e2 hl hR hS)
theorem so_lshl (C : ez_Cx D dA bs mi ro g k p R s m args meth c) (hd : decode (ez_code k) pc = .ok (.lshl, n)) (hst : ez_st g k (.lshl) n pc ls st h = some (.inl (pc2, ls2, st2, h2))) (kk : ez_WS D dA bs ro p l e R s m args below meth c Q c0 s0 k pc2 ls2 st2 h2) : ez_WS D dA bs ro p l e R s m args below meth c Q c0 s0 k pc ls st h := by
  intro lsA H locs cells slots e1 e2 hl hR hS
  obtain ⟨hx, hb, hr, hml, hown, hts, hlk, hin, hdp, hbs, hk160, hKS⟩ := C
  simp only [ez_st] at hst
  obtain ⟨rfl, hs⟩ := ez_if hst
  clear hst
  have hst := hs
  clear hs
  split at hst
  · obtain ⟨rfl, rfl, rfl, rfl⟩ := ez_goi hst
    exact lv_lshl hx hb hd rfl (kk lsA H locs cells slots e1 e2 hl hR hS)
  · cases hst
theorem so_i2l (C : ez_Cx D dA bs mi ro g k p R s m args meth c) (hd : decode (ez_code k) pc = .ok (.i2l, n)) (hst : ez_st g k (.i2l) n pc ls st h = some (.inl (pc2, ls2, st2, h2))) (kk : ez_WS D dA bs ro p l e R s m args below meth c Q c0 s0 k pc2 ls2 st2 h2) : ez_WS D dA bs ro p l e R s m args below meth c Q c0 s0 k pc ls st h := by
  intro lsA H locs cells slots e1 e2 hl hR hS
  obtain ⟨hx, hb, hr, hml, hown, hts, hlk, hin, hdp, hbs, hk160, hKS⟩ := C
  simp only [ez_st] at hst
  obtain ⟨rfl, hs⟩ := ez_if hst
  clear hst
  have hst := hs
  clear hs
  obtain ⟨a, r, rfl, hst⟩ := ez_i1_inv hst
  obtain ⟨rfl, rfl, rfl, rfl⟩ := ez_goi hst
  exact lv_i2l hx hb hd rfl (kk lsA H locs cells slots e1 e2 hl hR hS)
theorem so_l2i (C : ez_Cx D dA bs mi ro g k p R s m args meth c) (hd : decode (ez_code k) pc = .ok (.l2i, n)) (hst : ez_st g k (.l2i) n pc ls st h = some (.inl (pc2, ls2, st2, h2))) (kk : ez_WS D dA bs ro p l e R s m args below meth c Q c0 s0 k pc2 ls2 st2 h2) : ez_WS D dA bs ro p l e R s m args below meth c Q c0 s0 k pc ls st h := by
  intro lsA H locs cells slots e1 e2 hl hR hS
  obtain ⟨hx, hb, hr, hml, hown, hts, hlk, hin, hdp, hbs, hk160, hKS⟩ := C
  simp only [ez_st] at hst
  obtain ⟨rfl, hs⟩ := ez_if hst
  clear hst
  have hst := hs
  clear hs
  obtain ⟨a, r, rfl, hst⟩ := ez_l1_inv hst
  obtain ⟨rfl, rfl, rfl, rfl⟩ := ez_goi hst
  exact lv_l2i hx hb hd rfl (kk lsA H locs cells slots e1 e2 hl hR hS)
theorem so_i2b (C : ez_Cx D dA bs mi ro g k p R s m args meth c) (hd : decode (ez_code k) pc = .ok (.i2b, n)) (hst : ez_st g k (.i2b) n pc ls st h = some (.inl (pc2, ls2, st2, h2))) (kk : ez_WS D dA bs ro p l e R s m args below meth c Q c0 s0 k pc2 ls2 st2 h2) : ez_WS D dA bs ro p l e R s m args below meth c Q c0 s0 k pc ls st h := by
  intro lsA H locs cells slots e1 e2 hl hR hS
  obtain ⟨hx, hb, hr, hml, hown, hts, hlk, hin, hdp, hbs, hk160, hKS⟩ := C
  simp only [ez_st] at hst
  obtain ⟨rfl, hs⟩ := ez_if hst
  clear hst
  have hst := hs
  clear hs
  obtain ⟨a, r, rfl, hst⟩ := ez_i1_inv hst
  obtain ⟨rfl, rfl, rfl, rfl⟩ := ez_goi hst
  exact lv_i2b hx hb hd rfl (kk lsA H locs cells slots e1 e2 hl hR hS)
theorem so_i2c (C : ez_Cx D dA bs mi ro g k p R s m args meth c) (hd : decode (ez_code k) pc = .ok (.i2c, n)) (hst : ez_st g k (.i2c) n pc ls st h = some (.inl (pc2, ls2, st2, h2))) (kk : ez_WS D dA bs ro p l e R s m args below meth c Q c0 s0 k pc2 ls2 st2 h2) : ez_WS D dA bs ro p l e R s m args below meth c Q c0 s0 k pc ls st h := by
  intro lsA H locs cells slots e1 e2 hl hR hS
  obtain ⟨hx, hb, hr, hml, hown, hts, hlk, hin, hdp, hbs, hk160, hKS⟩ := C
  simp only [ez_st] at hst
  obtain ⟨rfl, hs⟩ := ez_if hst
  clear hst
  have hst := hs
  clear hs
  obtain ⟨a, r, rfl, hst⟩ := ez_i1_inv hst
  obtain ⟨rfl, rfl, rfl, rfl⟩ := ez_goi hst
  exact lv_i2c hx hb hd rfl (kk lsA H locs cells slots e1 e2 hl hR hS)
theorem so_dup (C : ez_Cx D dA bs mi ro g k p R s m args meth c) (hd : decode (ez_code k) pc = .ok (.dup, n)) (hst : ez_st g k (.dup) n pc ls st h = some (.inl (pc2, ls2, st2, h2))) (kk : ez_WS D dA bs ro p l e R s m args below meth c Q c0 s0 k pc2 ls2 st2 h2) : ez_WS D dA bs ro p l e R s m args below meth c Q c0 s0 k pc ls st h := by
  intro lsA H locs cells slots e1 e2 hl hR hS
  obtain ⟨hx, hb, hr, hml, hown, hts, hlk, hin, hdp, hbs, hk160, hKS⟩ := C
  simp only [ez_st] at hst
  obtain ⟨rfl, hs⟩ := ez_if hst
  clear hst
  have hst := hs
  clear hs
  split at hst
  · obtain ⟨hv, hst⟩ := ez_if hst
    obtain ⟨rfl, rfl, rfl, rfl⟩ := ez_goi hst
    exact lv_dup hx hb hd hv (kk lsA H locs cells slots e1 e2 hl hR hS)
  · cases hst
theorem so_pop (C : ez_Cx D dA bs mi ro g k p R s m args meth c) (hd : decode (ez_code k) pc = .ok (.pop, n)) (hst : ez_st g k (.pop) n pc ls st h = some (.inl (pc2, ls2, st2, h2))) (kk : ez_WS D dA bs ro p l e R s m args below meth c Q c0 s0 k pc2 ls2 st2 h2) : ez_WS D dA bs ro p l e R s m args below meth c Q c0 s0 k pc ls st h := by
  intro lsA H locs cells slots e1 e2 hl hR hS
  obtain ⟨hx, hb, hr, hml, hown, hts, hlk, hin, hdp, hbs, hk160, hKS⟩ := C
  simp only [ez_st] at hst
  obtain ⟨rfl, hs⟩ := ez_if hst
  clear hst
  have hst := hs
  clear hs
  split at hst
  · obtain ⟨hv, hst⟩ := ez_if hst
    obtain ⟨rfl, rfl, rfl, rfl⟩ := ez_goi hst
    exact lv_pop hx hb hd hv (kk lsA H locs cells slots e1 e2 hl hR hS)
  · cases hst
theorem so_dup_x1 (C : ez_Cx D dA bs mi ro g k p R s m args meth c) (hd : decode (ez_code k) pc = .ok (.dup_x1, n)) (hst : ez_st g k (.dup_x1) n pc ls st h = some (.inl (pc2, ls2, st2, h2))) (kk : ez_WS D dA bs ro p l e R s m args below meth c Q c0 s0 k pc2 ls2 st2 h2) : ez_WS D dA bs ro p l e R s m args below meth c Q c0 s0 k pc ls st h := by
  intro lsA H locs cells slots e1 e2 hl hR hS
  obtain ⟨hx, hb, hr, hml, hown, hts, hlk, hin, hdp, hbs, hk160, hKS⟩ := C
  simp only [ez_st] at hst
  obtain ⟨rfl, hs⟩ := ez_if hst
  clear hst
  have hst := hs
  clear hs
  split at hst
  · obtain ⟨hv, hst⟩ := ez_if hst
    obtain ⟨rfl, rfl, rfl, rfl⟩ := ez_goi hst
    exact lv_dup_x1 hx hb hd hv.1 hv.2 (kk lsA H locs cells slots e1 e2 hl hR hS)
  · cases hst
theorem so_dup2 (C : ez_Cx D dA bs mi ro g k p R s m args meth c) (hd : decode (ez_code k) pc = .ok (.dup2, n)) (hst : ez_st g k (.dup2) n pc ls st h = some (.inl (pc2, ls2, st2, h2))) (kk : ez_WS D dA bs ro p l e R s m args below meth c Q c0 s0 k pc2 ls2 st2 h2) : ez_WS D dA bs ro p l e R s m args below meth c Q c0 s0 k pc ls st h := by
  intro lsA H locs cells slots e1 e2 hl hR hS
  obtain ⟨hx, hb, hr, hml, hown, hts, hlk, hin, hdp, hbs, hk160, hKS⟩ := C
  simp only [ez_st] at hst
  obtain ⟨rfl, hs⟩ := ez_if hst
  clear hst
  have hst := hs
  clear hs
  split at hst
  · obtain ⟨hv, hst⟩ := ez_if hst
    obtain ⟨rfl, rfl, rfl, rfl⟩ := ez_goi hst
    exact lv_dup2_11 hx hb hd hv.1 hv.2 (kk lsA H locs cells slots e1 e2 hl hR hS)
  · cases hst
theorem so_goto {off : Int} (C : ez_Cx D dA bs mi ro g k p R s m args meth c) (hd : decode (ez_code k) pc = .ok (.goto off, n)) (hst : ez_st g k (.goto off) n pc ls st h = some (.inl (pc2, ls2, st2, h2))) (kk : ez_WS D dA bs ro p l e R s m args below meth c Q c0 s0 k pc2 ls2 st2 h2) : ez_WS D dA bs ro p l e R s m args below meth c Q c0 s0 k pc ls st h := by
  intro lsA H locs cells slots e1 e2 hl hR hS
  obtain ⟨hx, hb, hr, hml, hown, hts, hlk, hin, hdp, hbs, hk160, hKS⟩ := C
  simp only [ez_st] at hst
  obtain ⟨rfl, hs⟩ := ez_if hst
  clear hst
  have hst := hs
  clear hs
  obtain ⟨t, ht, hst⟩ := ez_ji hst
  obtain ⟨rfl, rfl, rfl, rfl⟩ := ez_goi hst
  exact lv_goto hx hb hd ht (kk lsA H locs cells slots e1 e2 hl hR hS)
theorem so_ifCond {co : ClassFile.Cond} {off : Int} (C : ez_Cx D dA bs mi ro g k p R s m args meth c) (hd : decode (ez_code k) pc = .ok (.ifCond co off, n)) (hst : ez_st g k (.ifCond co off) n pc ls st h = some (.inl (pc2, ls2, st2, h2))) (kk : ez_WS D dA bs ro p l e R s m args below meth c Q c0 s0 k pc2 ls2 st2 h2) : ez_WS D dA bs ro p l e R s m args below meth c Q c0 s0 k pc ls st h := by
  intro lsA H locs cells slots e1 e2 hl hR hS
  obtain ⟨hx, hb, hr, hml, hown, hts, hlk, hin, hdp, hbs, hk160, hKS⟩ := C
  simp only [ez_st] at hst
  obtain ⟨rfl, hs⟩ := ez_if hst
  clear hst
  have hst := hs
  clear hs
  obtain ⟨x, r, rfl, hs⟩ := ez_i1_inv hst
  clear hst
  have hst := hs
  clear hs
  obtain ⟨t, ht, hst⟩ := ez_ji hst
  cases co with
  | eq =>
    by_cases hz : x = 0
    · rw [if_pos (show ez_c0 .eq x = true from decide_eq_true hz)] at hst
      obtain ⟨rfl, rfl, rfl, rfl⟩ := ez_goi hst
      exact lv_if_eq hx hb hd ht (fun _ => (kk lsA H locs cells slots e1 e2 hl hR hS)) (fun q => absurd hz q)
    · rw [if_neg (show ¬ ez_c0 .eq x = true from fun q => hz (of_decide_eq_true q))] at hst
      obtain ⟨rfl, rfl, rfl, rfl⟩ := ez_goi hst
      exact lv_if_eq hx hb hd ht (fun q => absurd q hz) (fun _ => (kk lsA H locs cells slots e1 e2 hl hR hS))
  | ne =>
    by_cases hz : ¬ x = 0
    · rw [if_pos (show ez_c0 .ne x = true from decide_eq_true hz)] at hst
      obtain ⟨rfl, rfl, rfl, rfl⟩ := ez_goi hst
      exact lv_if_ne hx hb hd ht (fun _ => (kk lsA H locs cells slots e1 e2 hl hR hS)) (fun q => absurd q hz)
    · rw [if_neg (show ¬ ez_c0 .ne x = true from fun q => hz (of_decide_eq_true q))] at hst
      obtain ⟨rfl, rfl, rfl, rfl⟩ := ez_goi hst
      exact lv_if_ne hx hb hd ht (fun q => absurd q hz) (fun _ => (kk lsA H locs cells slots e1 e2 hl hR hS))
  | lt =>
    by_cases hz : x < 0
    · rw [if_pos (show ez_c0 .lt x = true from decide_eq_true hz)] at hst
      obtain ⟨rfl, rfl, rfl, rfl⟩ := ez_goi hst
      exact lv_if_lt hx hb hd ht (fun _ => (kk lsA H locs cells slots e1 e2 hl hR hS)) (fun q => absurd hz q)
    · rw [if_neg (show ¬ ez_c0 .lt x = true from fun q => hz (of_decide_eq_true q))] at hst
      obtain ⟨rfl, rfl, rfl, rfl⟩ := ez_goi hst
      exact lv_if_lt hx hb hd ht (fun q => absurd q hz) (fun _ => (kk lsA H locs cells slots e1 e2 hl hR hS))
  | ge =>
    by_cases hz : 0 ≤ x
    · rw [if_pos (show ez_c0 .ge x = true from decide_eq_true hz)] at hst
      obtain ⟨rfl, rfl, rfl, rfl⟩ := ez_goi hst
      exact lv_if_ge hx hb hd ht (fun _ => (kk lsA H locs cells slots e1 e2 hl hR hS)) (fun q => absurd hz q)
    · rw [if_neg (show ¬ ez_c0 .ge x = true from fun q => hz (of_decide_eq_true q))] at hst
      obtain ⟨rfl, rfl, rfl, rfl⟩ := ez_goi hst
      exact lv_if_ge hx hb hd ht (fun q => absurd q hz) (fun _ => (kk lsA H locs cells slots e1 e2 hl hR hS))
  | gt =>
    by_cases hz : 0 < x
    · rw [if_pos (show ez_c0 .gt x = true from decide_eq_true hz)] at hst
      obtain ⟨rfl, rfl, rfl, rfl⟩ := ez_goi hst
      exact lv_if_gt hx hb hd ht (fun _ => (kk lsA H locs cells slots e1 e2 hl hR hS)) (fun q => absurd hz q)
    · rw [if_neg (show ¬ ez_c0 .gt x = true from fun q => hz (of_decide_eq_true q))] at hst
      obtain ⟨rfl, rfl, rfl, rfl⟩ := ez_goi hst
      exact lv_if_gt hx hb hd ht (fun q => absurd q hz) (fun _ => (kk lsA H locs cells slots e1 e2 hl hR hS))
  | le =>
    by_cases hz : x ≤ 0
    · rw [if_pos (show ez_c0 .le x = true from decide_eq_true hz)] at hst
      obtain ⟨rfl, rfl, rfl, rfl⟩ := ez_goi hst
      exact lv_if_le hx hb hd ht (fun _ => (kk lsA H locs cells slots e1 e2 hl hR hS)) (fun q => absurd hz q)
    · rw [if_neg (show ¬ ez_c0 .le x = true from fun q => hz (of_decide_eq_true q))] at hst
      obtain ⟨rfl, rfl, rfl, rfl⟩ := ez_goi hst
      exact lv_if_le hx hb hd ht (fun q => absurd q hz) (fun _ => (kk lsA H locs cells slots e1 e2 hl hR hS))
theorem so_if_icmp {co : ClassFile.Cond} {off : Int} (C : ez_Cx D dA bs mi ro g k p R s m args meth c) (hd : decode (ez_code k) pc = .ok (.if_icmp co off, n)) (hst : ez_st g k (.if_icmp co off) n pc ls st h = some (.inl (pc2, ls2, st2, h2))) (kk : ez_WS D dA bs ro p l e R s m args below meth c Q c0 s0 k pc2 ls2 st2 h2) : ez_WS D dA bs ro p l e R s m args below meth c Q c0 s0 k pc ls st h := by
  intro lsA H locs cells slots e1 e2 hl hR hS
  obtain ⟨hx, hb, hr, hml, hown, hts, hlk, hin, hdp, hbs, hk160, hKS⟩ := C
  simp only [ez_st] at hst
  obtain ⟨rfl, hs⟩ := ez_if hst
  clear hst
  have hst := hs
  clear hs
  obtain ⟨x, y, r, rfl, hs⟩ := ez_ii_inv hst
  clear hst
  have hst := hs
  clear hs
  obtain ⟨t, ht, hst⟩ := ez_ji hst
  cases co with
  | eq =>
    by_cases hz : x = y
    · rw [if_pos (show ez_c2 .eq x y = true from decide_eq_true hz)] at hst
      obtain ⟨rfl, rfl, rfl, rfl⟩ := ez_goi hst
      exact lv_icmp_eq hx hb hd ht (fun _ => (kk lsA H locs cells slots e1 e2 hl hR hS)) (fun q => absurd hz q)
    · rw [if_neg (show ¬ ez_c2 .eq x y = true from fun q => hz (of_decide_eq_true q))] at hst
      obtain ⟨rfl, rfl, rfl, rfl⟩ := ez_goi hst
      exact lv_icmp_eq hx hb hd ht (fun q => absurd q hz) (fun _ => (kk lsA H locs cells slots e1 e2 hl hR hS))
  | ne =>
    by_cases hz : ¬ x = y
    · rw [if_pos (show ez_c2 .ne x y = true from decide_eq_true hz)] at hst
      obtain ⟨rfl, rfl, rfl, rfl⟩ := ez_goi hst
      exact lv_icmp_ne hx hb hd ht (fun _ => (kk lsA H locs cells slots e1 e2 hl hR hS)) (fun q => absurd q hz)
    · rw [if_neg (show ¬ ez_c2 .ne x y = true from fun q => hz (of_decide_eq_true q))] at hst
      obtain ⟨rfl, rfl, rfl, rfl⟩ := ez_goi hst
      exact lv_icmp_ne hx hb hd ht (fun q => absurd q hz) (fun _ => (kk lsA H locs cells slots e1 e2 hl hR hS))
  | lt =>
    by_cases hz : x < y
    · rw [if_pos (show ez_c2 .lt x y = true from decide_eq_true hz)] at hst
      obtain ⟨rfl, rfl, rfl, rfl⟩ := ez_goi hst
      exact lv_icmp_lt hx hb hd ht (fun _ => (kk lsA H locs cells slots e1 e2 hl hR hS)) (fun q => absurd hz q)
    · rw [if_neg (show ¬ ez_c2 .lt x y = true from fun q => hz (of_decide_eq_true q))] at hst
      obtain ⟨rfl, rfl, rfl, rfl⟩ := ez_goi hst
      exact lv_icmp_lt hx hb hd ht (fun q => absurd q hz) (fun _ => (kk lsA H locs cells slots e1 e2 hl hR hS))
  | ge =>
    by_cases hz : y ≤ x
    · rw [if_pos (show ez_c2 .ge x y = true from decide_eq_true hz)] at hst
      obtain ⟨rfl, rfl, rfl, rfl⟩ := ez_goi hst
      exact lv_icmp_ge hx hb hd ht (fun _ => (kk lsA H locs cells slots e1 e2 hl hR hS)) (fun q => absurd hz q)
    · rw [if_neg (show ¬ ez_c2 .ge x y = true from fun q => hz (of_decide_eq_true q))] at hst
      obtain ⟨rfl, rfl, rfl, rfl⟩ := ez_goi hst
      exact lv_icmp_ge hx hb hd ht (fun q => absurd q hz) (fun _ => (kk lsA H locs cells slots e1 e2 hl hR hS))
  | gt =>
    by_cases hz : y < x
    · rw [if_pos (show ez_c2 .gt x y = true from decide_eq_true hz)] at hst
      obtain ⟨rfl, rfl, rfl, rfl⟩ := ez_goi hst
      exact lv_icmp_gt hx hb hd ht (fun _ => (kk lsA H locs cells slots e1 e2 hl hR hS)) (fun q => absurd hz q)
    · rw [if_neg (show ¬ ez_c2 .gt x y = true from fun q => hz (of_decide_eq_true q))] at hst
      obtain ⟨rfl, rfl, rfl, rfl⟩ := ez_goi hst
      exact lv_icmp_gt hx hb hd ht (fun q => absurd q hz) (fun _ => (kk lsA H locs cells slots e1 e2 hl hR hS))
  | le =>
    by_cases hz : x ≤ y
    · rw [if_pos (show ez_c2 .le x y = true from decide_eq_true hz)] at hst
      obtain ⟨rfl, rfl, rfl, rfl⟩ := ez_goi hst
      exact lv_icmp_le hx hb hd ht (fun _ => (kk lsA H locs cells slots e1 e2 hl hR hS)) (fun q => absurd hz q)
    · rw [if_neg (show ¬ ez_c2 .le x y = true from fun q => hz (of_decide_eq_true q))] at hst
      obtain ⟨rfl, rfl, rfl, rfl⟩ := ez_goi hst
      exact lv_icmp_le hx hb hd ht (fun q => absurd q hz) (fun _ => (kk lsA H locs cells slots e1 e2 hl hR hS))
theorem so_ifnull {off : Int} (C : ez_Cx D dA bs mi ro g k p R s m args meth c) (hd : decode (ez_code k) pc = .ok (.ifnull off, n)) (hst : ez_st g k (.ifnull off) n pc ls st h = some (.inl (pc2, ls2, st2, h2))) (kk : ez_WS D dA bs ro p l e R s m args below meth c Q c0 s0 k pc2 ls2 st2 h2) : ez_WS D dA bs ro p l e R s m args below meth c Q c0 s0 k pc ls st h := by
  intro lsA H locs cells slots e1 e2 hl hR hS
  obtain ⟨hx, hb, hr, hml, hown, hts, hlk, hin, hdp, hbs, hk160, hKS⟩ := C
  simp only [ez_st] at hst
  obtain ⟨rfl, hs⟩ := ez_if hst
  clear hst
  have hst := hs
  clear hs
  split at hst
  · obtain ⟨t, ht, hst⟩ := ez_ji hst
    obtain ⟨rfl, rfl, rfl, rfl⟩ := ez_goi hst
    exact lv_ifnullN hx hb hd ht (kk lsA H locs cells slots e1 e2 hl hR hS)
  · obtain ⟨rfl, rfl, rfl, rfl⟩ := ez_goi hst
    exact lv_ifnull hx hb hd (kk lsA H locs cells slots e1 e2 hl hR hS)
  · cases hst
theorem so_ifnonnull {off : Int} (C : ez_Cx D dA bs mi ro g k p R s m args meth c) (hd : decode (ez_code k) pc = .ok (.ifnonnull off, n)) (hst : ez_st g k (.ifnonnull off) n pc ls st h = some (.inl (pc2, ls2, st2, h2))) (kk : ez_WS D dA bs ro p l e R s m args below meth c Q c0 s0 k pc2 ls2 st2 h2) : ez_WS D dA bs ro p l e R s m args below meth c Q c0 s0 k pc ls st h := by
  intro lsA H locs cells slots e1 e2 hl hR hS
  obtain ⟨hx, hb, hr, hml, hown, hts, hlk, hin, hdp, hbs, hk160, hKS⟩ := C
  simp only [ez_st] at hst
  obtain ⟨rfl, hs⟩ := ez_if hst
  clear hst
  have hst := hs
  clear hs
  split at hst
  · obtain ⟨t, ht, hst⟩ := ez_ji hst
    obtain ⟨rfl, rfl, rfl, rfl⟩ := ez_goi hst
    exact lv_ifnonnull hx hb hd ht (kk lsA H locs cells slots e1 e2 hl hR hS)
  · obtain ⟨rfl, rfl, rfl, rfl⟩ := ez_goi hst
    exact lv_ifnonnullN hx hb hd (kk lsA H locs cells slots e1 e2 hl hR hS)
  · cases hst
theorem ez_rf_of {v : Value} {a : Option Nat} (hv : ez_rf v = some a) : v = va_rf a := by
  cases v <;> first | (cases hv; rfl) | cases hv
theorem so_if_acmp {co : ClassFile.ACond} {off : Int} (C : ez_Cx D dA bs mi ro g k p R s m args meth c) (hd : decode (ez_code k) pc = .ok (.if_acmp co off, n)) (hst : ez_st g k (.if_acmp co off) n pc ls st h = some (.inl (pc2, ls2, st2, h2))) (kk : ez_WS D dA bs ro p l e R s m args below meth c Q c0 s0 k pc2 ls2 st2 h2) : ez_WS D dA bs ro p l e R s m args below meth c Q c0 s0 k pc ls st h := by
  intro lsA H locs cells slots e1 e2 hl hR hS
  obtain ⟨hx, hb, hr, hml, hown, hts, hlk, hin, hdp, hbs, hk160, hKS⟩ := C
  simp only [ez_st] at hst
  obtain ⟨rfl, hs⟩ := ez_if hst
  clear hst
  have hst := hs
  clear hs
  split at hst
  · next y x r =>
    split at hst
    · next a b ha hb2 =>
      obtain ⟨t, ht, hst⟩ := ez_ji hst
      rw [ez_rf_of ha, ez_rf_of hb2]
      by_cases hz : a = b
      · rw [if_pos hz] at hst
        obtain ⟨rfl, rfl, rfl, rfl⟩ := ez_goi hst
        exact lv_acmp_eq hx hb hd ht (fun _ => (kk lsA H locs cells slots e1 e2 hl hR hS)) (fun q => absurd hz q)
      · rw [if_neg hz] at hst
        obtain ⟨rfl, rfl, rfl, rfl⟩ := ez_goi hst
        exact lv_acmp_eq hx hb hd ht (fun q => absurd q hz) (fun _ => (kk lsA H locs cells slots e1 e2 hl hR hS))
    · next a b ha hb2 =>
      obtain ⟨t, ht, hst⟩ := ez_ji hst
      rw [ez_rf_of ha, ez_rf_of hb2]
      by_cases hz : a = b
      · rw [if_pos hz] at hst
        obtain ⟨rfl, rfl, rfl, rfl⟩ := ez_goi hst
        exact lv_acmp_ne hx hb hd ht (fun q => absurd hz q) (fun _ => (kk lsA H locs cells slots e1 e2 hl hR hS))
      · rw [if_neg hz] at hst
        obtain ⟨rfl, rfl, rfl, rfl⟩ := ez_goi hst
        exact lv_acmp_ne hx hb hd ht (fun _ => (kk lsA H locs cells slots e1 e2 hl hR hS)) (fun q => absurd q hz)
    · cases hst
  · cases hst
theorem so_tableswitch {d lo hi : Int} {offs : Array Int} (C : ez_Cx D dA bs mi ro g k p R s m args meth c) (hd : decode (ez_code k) pc = .ok (.tableswitch d lo hi offs, n)) (hst : ez_st g k (.tableswitch d lo hi offs) n pc ls st h = some (.inl (pc2, ls2, st2, h2))) (kk : ez_WS D dA bs ro p l e R s m args below meth c Q c0 s0 k pc2 ls2 st2 h2) : ez_WS D dA bs ro p l e R s m args below meth c Q c0 s0 k pc ls st h := by
  intro lsA H locs cells slots e1 e2 hl hR hS
  obtain ⟨hx, hb, hr, hml, hown, hts, hlk, hin, hdp, hbs, hk160, hKS⟩ := C
  simp only [ez_st] at hst
  obtain ⟨x, r, rfl, hs⟩ := ez_i1_inv hst
  clear hst
  have hst := hs
  clear hs
  by_cases hz : x.toInt < lo ∨ hi < x.toInt
  · rw [if_pos hz] at hst
    obtain ⟨t, ht, hst⟩ := ez_ji hst
    obtain ⟨rfl, rfl, rfl, rfl⟩ := ez_goi hst
    exact lv_tableOut hx hb hd hz ht (kk lsA H locs cells slots e1 e2 hl hR hS)
  · rw [if_neg hz] at hst
    split at hst
    · next off ho =>
      obtain ⟨t, ht, hst⟩ := ez_ji hst
      obtain ⟨rfl, rfl, rfl, rfl⟩ := ez_goi hst
      exact lv_tableIn hx hb hd (fun q => hz (Or.inl q)) (fun q => hz (Or.inr q)) ho ht (kk lsA H locs cells slots e1 e2 hl hR hS)
    · cases hst
end ZS
