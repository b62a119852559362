/-! What the machine's heap has to do with an abstract one. -/
def ez_A (bs : Nat) : Nat → Prop := fun q => bs ≤ q
def ez_tys (dA : Nat → ClassId) : List (ClassId × FieldType) := [(dA 0, .int), (dA 1, .byte), (dA 2, .boolean), (dA 3, .long), (dA 4, .object "java/lang/Object")]
def ez_ft0 : List FieldType := [.int, .byte, .boolean, .long, .object "java/lang/Object"]
def ez_cv (dA : Nat → ClassId) (e : ez_E) : va_E := match e with
  | .inl (t, x) => .inl (dA t, x)
  | .inr o => .inr o
def ez_wr (e : ez_E) : Prop := match e with
  | .inl (t, _) => t < 5
  | .inr (ci, _) => ci < 11
/-- a cell that nobody writes -/
def ez_ro (bs q : Nat) (e : ez_E) (U : State) (H : Heap) : Prop := match e with
  | .inl (10, n, .inl f) => va_T .int q n (fun j => .int (f j)) (ez_A bs) U H
  | .inl (11, n, .inl f) => va_T .byte q n (fun j => .int (f j)) (ez_A bs) U H
  | .inl (14, n, .inr (.inr (.inr (.inr f)))) => va_T (.object "java/lang/Object") q n (fun j => va_rf (f j)) (ez_A bs) U H
  | _ => False
theorem ez_ro_nw {bs q : Nat} {e : ez_E} {U : State} {H : Heap} (h : ez_ro bs q e U H) : ¬ ez_wr e := by
  unfold ez_ro at h
  split at h
  · exact fun z => absurd (show 10 < 5 from z) (by decide)
  · exact fun z => absurd (show 11 < 5 from z) (by decide)
  · exact fun z => absurd (show 14 < 5 from z) (by decide)
  · exact h.elim
theorem ez_ro.moved {bs q : Nat} {e : ez_E} {u U : State} {H : Heap} (hvm : u.vm.Alike U.vm) (h : ez_ro bs q e u H) : ez_ro bs q e U H := by
  unfold ez_ro at h ⊢
  split at h
  · exact va_T.moved hvm h
  · exact va_T.moved hvm h
  · exact va_T.moved hvm h
  · exact h.elim
theorem ez_ro.kept {bs q : Nat} {e : ez_E} {U : State} {H H1 : Heap} (h : ez_ro bs q e U H) (hq : ∀ a : Nat, a < H.size → ¬ ez_A bs a → H1[a]? = H[a]?) : ez_ro bs q e U H1 := by
  unfold ez_ro at h ⊢
  split at h
  · exact va_T.kept h hq
  · exact va_T.kept h hq
  · exact va_T.kept h hq
  · exact h.elim
/-- what is given of a state: its tables, and what nobody writes -/
def ez_KS (D : va_G) (dA : Nat → ClassId) (bs mi : Nat) (ro : Nat → Option ez_E) (g : ez_G) (U : State) (H : Heap) : Prop :=
  va_K D ez_cl (ez_tys dA) U ∧ va_Z "java/util/ArrayList" "DEFAULTCAPACITY_EMPTY_ELEMENTDATA" "[Ljava/lang/Object;" (.ref g.1) (ez_A bs) U H ∧ va_Z "java/lang/String" "COMPACT_STRINGS" "Z" (.int 1) (ez_A bs) U H ∧ va_Z "jdk/internal/util/Preconditions" "SIOOBE_FORMATTER" "Ljava/util/function/BiFunction;" g.2.2.1 (ez_A bs) U H ∧
  (∀ q e, ro q = some e → ez_ro bs q e U H) ∧ (∀ j : Nat, j < 11 → va_O "java/lang/String" (g.2.1 j) (ez_A bs) U H ∧ va_OF "java/lang/String" "value" "[B" (.ref (g.2.2.2 j)) (g.2.1 j) (ez_A bs) U H ∧ va_OF "java/lang/String" "coder" "B" (.int 0) (g.2.1 j) (ez_A bs) U H) ∧ (∀ (j : Nat) (x : Nat × String), ez_sx[j]? = some x → vk_R "StaplePort$Reader" x.1 x.2 (g.2.1 j) U) ∧
  va_Nw (.methodLinkNest "StaplePort$Reader" 58 (ez_y 0) "StaplePort") U ∧ va_Nw (.methodLinkNest "StaplePort$Clause" 13 (ez_y 68) "StaplePort") U ∧ va_Nw (.methodLinkNest "StaplePort$Ship" 68 (ez_y 68) "StaplePort") U ∧
  va_Mi "[Ljava/lang/Object;" mi U ∧ va_Dc U ∧ va_AO "java/lang/Object" U ∧ ∀ (ci : Nat) (C : String) (T : u_T) (N : Nat), ez_cl[ci]? = some (C, T, N) → va_Nw (.castable C "java/lang/Object") U
section ZKS
variable {D : va_G} {dA : Nat → ClassId} {bs mi : Nat} {ro : Nat → Option ez_E} {g : ez_G}
theorem ez_KS.kept {U : State} {H H1 : Heap} (h : ez_KS D dA bs mi ro g U H) (hq : ∀ a : Nat, a < H.size → ¬ ez_A bs a → H1[a]? = H[a]?) : ez_KS D dA bs mi ro g U H1 := by
  obtain ⟨h1, h2, h3, h4, h5, hj, h6⟩ := h
  exact ⟨h1, h2.kept hq, h3.kept hq, h4.kept hq, fun q e he => (h5 q e he).kept hq, fun j h => ⟨(hj j h).1.kept hq, (hj j h).2.1.kept hq, (hj j h).2.2.kept hq⟩, h6⟩
theorem ez_KS.warm {s U : State} {H : Heap} (hW : s.WarmedH U.vm) (h : ez_KS D dA bs mi ro g s H) : ez_KS D dA bs mi ro g U H := by
  obtain ⟨h1, h2, h3, h4, h5, hj, h6, h7, h8, h9, h10, h11, h12, h13⟩ := h
  have ha := hW.alike
  exact ⟨va_K.moved ha h1, va_Z.moved ha h2, va_Z.moved ha h3, va_Z.moved ha h4, fun q e he => (h5 q e he).moved ha, fun j h => ⟨va_O.moved ha (hj j h).1, va_OF.moved ha (hj j h).2.1, va_OF.moved ha (hj j h).2.2⟩, fun j x hx => (h6 j x hx).warm hW, h7.warmM hW, h8.warmM hW, h9.warmM hW, va_Mi.moved ha h10, va_Dc.moved ha h11, va_AO.moved ha h12, fun ci C T N hc => (h13 ci C T N hc).warmC hW⟩
theorem ez_KS.calling {U : State} {H : Heap} {gg : JFrame} {mk : MethodId} {a : Array Value} (h : ez_KS D dA bs mi ro g U H) : ez_KS D dA bs mi ro g (U.calling gg mk a) H := by
  have hv : (U.calling gg mk a).vm = U.vm := rfl
  have ha : U.vm.Alike (U.calling gg mk a).vm := Vm.Alike.refl U.vm
  obtain ⟨h1, h2, h3, h4, h5, hj, h6, h7, h8, h9, h10, h11, h12, h13⟩ := h
  exact ⟨va_K.moved ha h1, va_Z.moved ha h2, va_Z.moved ha h3, va_Z.moved ha h4, fun q e he => (h5 q e he).moved ha, fun j h => ⟨va_O.moved ha (hj j h).1, va_OF.moved ha (hj j h).2.1, va_OF.moved ha (hj j h).2.2⟩, fun j x hx => (h6 j x hx).same hv, h7.same rfl hv.symm, h8.same rfl hv.symm, h9.same rfl hv.symm, va_Mi.moved ha h10, va_Dc.moved ha h11, va_AO.moved ha h12, fun ci C T N hc => (h13 ci C T N hc).same rfl hv.symm⟩
/-- the machine's heap holds the abstract one -/
def ez_Rep (D : va_G) (dA : Nat → ClassId) (bs : Nat) (ro : Nat → Option ez_E) (h : ez_H) (H : Heap) : Prop :=
  H.size = h.2.1 ∧ ∀ q e, h.1 q = some e → (bs ≤ q ∧ ez_wr e ∧ va_at D ez_cl (q, ez_cv dA e) H) ∨ (q < bs ∧ ro q = some e)
theorem ez_P1 {cl : List vw_C} {q : Nat × va_E} {H : Heap} (h : va_at D cl q H) : va_P D cl [q] H := by
  intro k x hx
  match k, hx with
  | 0, hx => cases hx; exact h
  | n + 1, hx => simp at hx
theorem ez_Rep.get {s : State} {h : ez_H} {H H0 : Heap} {q : Nat} {e : ez_E} (hR : ez_Rep D dA bs ro h H) (hK : ez_KS D dA bs mi ro g s H0) (he : h.1 q = some e) (hw : ez_wr e) : bs ≤ q ∧ va_at D ez_cl (q, ez_cv dA e) H := by
  rcases hR.2 q e he with ⟨a, -, b⟩ | ⟨-, b⟩
  · exact ⟨a, b⟩
  · exact absurd hw (ez_ro_nw (hK.2.2.2.2.1 q e b))
theorem ez_Rep.rd {h : ez_H} {H : Heap} {q : Nat} {e : ez_E} (hR : ez_Rep D dA bs ro h H) (he : h.1 q = some e) (hw : ¬ ez_wr e) : q < bs ∧ ro q = some e := by
  rcases hR.2 q e he with ⟨-, b, -⟩ | b
  · exact absurd b hw
  · exact b
theorem ez_Rep.set {h : ez_H} {H H1 : Heap} {a : Nat} {e : ez_E} (hR : ez_Rep D dA bs ro h H) (ha : bs ≤ a) (hw : ez_wr e) (h1 : va_at D ez_cl (a, ez_cv dA e) H1) (z : H1.size = H.size) (oq : ∀ q : Nat, q ≠ a → H1[q]? = H[q]?) : ez_Rep D dA bs ro (ez_hs h a e) H1 := by
  refine ⟨z.trans hR.1, fun q e' he => ?_⟩
  have he2 : (if q = a then some e else h.1 q) = some e' := he
  by_cases hq : q = a
  · subst hq
    rw [if_pos rfl] at he2
    cases he2
    exact Or.inl ⟨ha, hw, h1⟩
  · rw [if_neg hq] at he2
    rcases hR.2 q e' he2 with ⟨x, y, w⟩ | w
    · exact Or.inl ⟨x, y, w.kept (oq q hq)⟩
    · exact Or.inr w
theorem ez_Rep.new {h : ez_H} {H H1 : Heap} {e : ez_E} {n : Nat} (hR : ez_Rep D dA bs ro h H) (hb : bs ≤ H.size) (hw : ez_wr e) (h1 : va_at D ez_cl (H.size, ez_cv dA e) H1) (z : H1.size = H.size + 1) (oq : ∀ q : Nat, q < H.size → H1[q]? = H[q]?) : ez_Rep D dA bs ro (ez_nw h e n) H1 := by
  refine ⟨by rw [z, hR.1]; rfl, fun q e' he => ?_⟩
  have he2 : (if q = h.2.1 then some e else h.1 q) = some e' := he
  by_cases hq : q = h.2.1
  · subst hq
    rw [if_pos rfl] at he2
    cases he2
    rw [← hR.1]
    exact Or.inl ⟨hb, hw, h1⟩
  · rw [if_neg hq] at he2
    rcases hR.2 q e' he2 with ⟨x, y, w⟩ | w
    · exact Or.inl ⟨x, y, w.kept (oq q w.lt)⟩
    · exact Or.inr w
theorem ez_tyAt {t : Nat} {s : State} (hK : va_K D ez_cl (ez_tys dA) s) (ht : t < 5) : ∃ ty, ez_ft0[t]? = some ty ∧ ArrOfT s (dA t) ty ∧ va_RA s (dA t) ty := by
  match t, ht with
  | 0, _ => exact ⟨_, rfl, hK.2 0 _ rfl⟩
  | 1, _ => exact ⟨_, rfl, hK.2 1 _ rfl⟩
  | 2, _ => exact ⟨_, rfl, hK.2 2 _ rfl⟩
  | 3, _ => exact ⟨_, rfl, hK.2 3 _ rfl⟩
  | 4, _ => exact ⟨_, rfl, hK.2 4 _ rfl⟩
end ZKS
/-- the locals -/
def ez_ls (lsA : Array Slot) (n : Nat) (ls : ez_L) : Prop := ls.length = n ∧ lsA.size = n ∧ lv_wf lsA ∧ ∀ (i : Nat) (v : Value), ez_lg ls i = some v → lsA[i]? = some (.val v)
theorem ez_lgs {ls : ez_L} {i j : Nat} {x : Option Value} {v : Value} (h : ez_lg (ls.set i x) j = some v) : (j = i ∧ x = some v) ∨ (j ≠ i ∧ ez_lg ls j = some v) := by
  unfold ez_lg at h ⊢
  by_cases hj : j = i
  · subst hj
    refine Or.inl ⟨rfl, ?_⟩
    rw [List.getElem?_set] at h
    by_cases hl : j < ls.length
    · rw [if_pos rfl, if_pos hl] at h
      cases x with
      | none => cases h
      | some w => exact congrArg some (Option.some.inj h)
    · rw [if_pos rfl, if_neg hl] at h
      cases h
  · refine Or.inr ⟨hj, ?_⟩
    rw [List.getElem?_set, if_neg (fun e => hj e.symm)] at h
    exact h
def ez_all (n : Nat) (ls : ez_L) : List (Nat × Value) := (List.range n).filterMap (fun i => (ez_lg ls i).map (fun v => (i, v)))
theorem ez_all_in {n : Nat} {ls : ez_L} {i : Nat} {v : Value} (hi : i < n) (h : ez_lg ls i = some v) : (i, v) ∈ ez_all n ls := List.mem_filterMap.mpr ⟨i, List.mem_range.mpr hi, by rw [h]; rfl⟩
theorem ez_all_of {n : Nat} {ls : ez_L} {q : Nat × Value} (h : q ∈ ez_all n ls) : q.1 < n ∧ ez_lg ls q.1 = some q.2 := by
  obtain ⟨i, hi, he⟩ := List.mem_filterMap.mp h
  cases hv : ez_lg ls i with
  | none => rw [hv] at he; cases he
  | some v =>
    rw [hv] at he
    cases he
    exact ⟨List.mem_range.mp hi, hv⟩
theorem ez_lgn {ls : ez_L} {i : Nat} {v : Value} (h : ez_lg ls i = some v) : i < ls.length := by
  unfold ez_lg at h
  cases hx : ls[i]? with
  | none => rw [hx] at h; cases h
  | some y => exact (List.getElem?_eq_some_iff.mp hx).1
theorem ez_ls.has {lsA : Array Slot} {n : Nat} {ls : ez_L} (h : ez_ls lsA n ls) : lv_has lsA n (ez_all n ls) := ⟨h.2.1, h.2.2.1, fun q hq => h.2.2.2 q.1 q.2 (ez_all_of hq).2⟩
theorem ez_ls.put {lsA lsB : Array Slot} {n i : Nat} {ls ls2 : ez_L} {v : Value} (h : ez_ls lsA n ls) (hp : ez_lp ls i v = some ls2) (h2 : lv_has lsB n ((i, v) :: (ez_all n ls).filter (fun q => !(q.1 == i) && !(q.1 + 1 == i && q.2.category == 2)))) : ez_ls lsB n ls2 := by
  unfold ez_lp at hp
  split at hp
  · next hc =>
    cases hp
    refine ⟨by rw [List.length_set]; exact h.1, h2.1, h2.2.1, fun j w hw => ?_⟩
    rcases ez_lgs hw with ⟨rfl, e⟩ | ⟨hj, e⟩
    · cases e
      exact h2.2.2 (j, v) List.mem_cons_self
    · refine h2.2.2 (j, w) (List.mem_cons_of_mem _ (List.mem_filter.mpr ⟨ez_all_in (by rw [← h.1]; exact ez_lgn e) e, ?_⟩))
      have h3 : ¬ (j + 1 = i ∧ w.category = 2) := by
        rintro ⟨rfl, hc2⟩
        have := hc.2
        unfold ez_pl at this
        dsimp only at this
        rw [e] at this
        dsimp only at this
        rw [hc2] at this
        cases this
      simp only [Bool.and_eq_true, Bool.not_eq_true', beq_eq_false_iff_ne, ne_eq, Bool.and_eq_false_iff]
      refine ⟨hj, ?_⟩
      by_cases h4 : j + 1 = i
      · exact Or.inr (fun h5 => h3 ⟨h4, h5⟩)
      · exact Or.inl h4
  · cases hp
theorem ez_ls.put2 {lsA lsB : Array Slot} {n i : Nat} {ls ls2 : ez_L} {v : Value} (h : ez_ls lsA n ls) (hp : ez_lp2 ls i v = some ls2) (h2 : lv_has lsB n ((i, v) :: (ez_all n ls).filter (fun q => !(q.1 == i) && (!(q.1 == i + 1) && !(q.1 + 1 == i && q.2.category == 2))))) : ez_ls lsB n ls2 := by
  unfold ez_lp2 at hp
  split at hp
  · next hc =>
    cases hp
    refine ⟨by rw [List.length_set, List.length_set]; exact h.1, h2.1, h2.2.1, fun j w hw => ?_⟩
    rcases ez_lgs hw with ⟨_, e1⟩ | ⟨hj1, e1⟩
    · cases e1
    rcases ez_lgs e1 with ⟨rfl, e⟩ | ⟨hj, e⟩
    · cases e
      exact h2.2.2 (j, v) List.mem_cons_self
    · refine h2.2.2 (j, w) (List.mem_cons_of_mem _ (List.mem_filter.mpr ⟨ez_all_in (by rw [← h.1]; exact ez_lgn e) e, ?_⟩))
      have h3 : ¬ (j + 1 = i ∧ w.category = 2) := by
        rintro ⟨rfl, hc2⟩
        have := hc.2
        unfold ez_pl at this
        dsimp only at this
        rw [e] at this
        dsimp only at this
        rw [hc2] at this
        cases this
      simp only [Bool.and_eq_true, Bool.not_eq_true', beq_eq_false_iff_ne, ne_eq, Bool.and_eq_false_iff]
      refine ⟨hj, hj1, ?_⟩
      by_cases h4 : j + 1 = i
      · exact Or.inr (fun h5 => h3 ⟨h4, h5⟩)
      · exact Or.inl h4
  · cases hp
theorem ez_lpl {ls ls2 : ez_L} {i : Nat} {v : Value} (hp : ez_lp ls i v = some ls2) : i < ls.length := by
  unfold ez_lp at hp
  split at hp
  · next hc => exact hc.1
  · cases hp
theorem ez_lpl2 {ls ls2 : ez_L} {i : Nat} {v : Value} (hp : ez_lp2 ls i v = some ls2) : i + 1 < ls.length := by
  unfold ez_lp2 at hp
  split at hp
  · next hc => exact hc.1
  · cases hp
