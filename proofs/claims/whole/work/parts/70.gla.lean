def R_law : String := "StaplePortLaw"
def lw_P (b : Addr) (xs : List Int32) (args : Array Value) (s : State) : Prop := args = #[.ref b] ∧ s.IntsAt b xs ∧ xs.length ≤ 3072 ∧ (Jvm.Cond.and given_1 narrow_1).before args s = true
def lw_Q (_ : Array Value) (s : State) (o : Outcome) (t : State) : Prop := o = .returned (some (.int 1)) ∧ Framed s o t [] 600000 7302250
def lw_Z (below : List Frame) (a : Array Value) (s : State) : State → Prop := fun t => ∃ o, t.status = .running ∧ Ended t below o ∧ lw_Q a s o t
/-- the law's own end, with 1 on the stack, nothing written that was there before, its room as the claim has it -/
theorem lw_ret {p : Program} {l : Launch} {e : Env} {s : State} {m : MethodId} {below : List Frame} {meth : Method} {c : Code} {b : Nat} (hx : p.tables.exec = Jvm.exec) (hb : c.code = code) (hr : meth.sig.returnType = ret) (hlocks : meth.locks = false) {pc : Nat} {H : Heap} {ls : Array Slot} (hdg : decode code pc = .ok (.ireturn, 1)) : W p l e room_1 s m #[Value.ref b] below meth c H [] 600000 7302250 (lw_Z below #[Value.ref b] s) (F0 m pc ls [.int 1]) := by
  intro T hT X
  obtain ⟨fs, hret, hrun, hended, hW, hframe⟩ := X.leave (v := some (.int 1)) (hlocks := hlocks) (fun h => by rw [hr] at h; cases h)
  have hmeth' : T.vm.method? m = some meth := X.method'
  refine ⟨T.setFrames fs, ?_, .returned (some (.int 1)), hrun, hended, rfl, ⟨_, rfl⟩, hW, hframe⟩
  jvm_step X.here [X.here.top, hx, hb, hdg, hmeth', hr, ret, narrow_b1]
  (try refine ⟨rfl, ?_⟩); (try refine ⟨rfl, ?_⟩)
  first | (intro acts; rw [hret _ acts rfl rfl rfl]) | rw [hret _ _ rfl rfl rfl]
  exact Steps.refl _
/-- what holds at the law's entry: the machine, the code, the tables' words (any of lw_tbl by 'hts w (by decide +kernel)'), the script of L ints xs at the cell b, what the Statement gives of the start (any of its parts by flat_of_before) -/
def lw_At (p : Program) (s : State) (m : MethodId) (meth : Method) (c : Code) (b L : Nat) (xs : Nat → Int32) : Prop :=
  p.tables.exec = Jvm.exec ∧ c.code = code ∧ meth.sig.returnType = ret ∧ c.maxLocals = 4 ∧ s.vm.findClass R_law = some m.cls ∧ (∀ w ∈ lw_tbl, w.before #[Value.ref b] s = true) ∧ va_X b L xs s s.heap ∧ b < s.heap.size ∧ meth.locks = false ∧ (Jvm.Cond.and given_1 narrow_1).before #[Value.ref b] s = true
section GL
variable {s : State} {args : Array Value}
theorem gl_int (h : (Cond.arrayClass .int).before args s = true) : ∃ cA, ArrOfT s cA .int ∧ va_RA s cA .int := by
  obtain ⟨c, k, comp, h1, h2, h3⟩ := Cond.arrayClass_spec h
  exact ⟨c, fun N z => ⟨(fun k h => by cases h), k, h2, comp, h3⟩, h1⟩
theorem gl_byte (h : (Cond.arrayClass .byte).before args s = true) : ∃ cA, ArrOfT s cA .byte ∧ va_RA s cA .byte := by
  obtain ⟨c, k, comp, h1, h2, h3⟩ := Cond.arrayClass_spec h
  exact ⟨c, fun N z => ⟨(fun k h => by cases h), k, h2, comp, h3⟩, h1⟩
theorem gl_bool (h : (Cond.arrayClass .boolean).before args s = true) : ∃ cA, ArrOfT s cA .boolean ∧ va_RA s cA .boolean := by
  obtain ⟨c, k, comp, h1, h2, h3⟩ := Cond.arrayClass_spec h
  exact ⟨c, fun N z => ⟨(fun k h => by cases h), k, h2, comp, h3⟩, h1⟩
theorem gl_long (h : (Cond.arrayClass .long).before args s = true) : ∃ cA, ArrOfT s cA .long ∧ va_RA s cA .long := by
  obtain ⟨c, k, comp, h1, h2, h3⟩ := Cond.arrayClass_spec h
  exact ⟨c, fun N z => ⟨(fun k h => by cases h), k, h2, comp, h3⟩, h1⟩
theorem gl_obj (h : (Cond.arrayOver (.object "java/lang/Object")).before args s = true) : ∃ cA, ArrOfT s cA (.object "java/lang/Object") ∧ va_RA s cA (.object "java/lang/Object") := by
  obtain ⟨comp, c, k, h1, h2, h3, h4, h5⟩ := Cond.arrayOver_spec h
  exact ⟨c, fun N z => ⟨(fun k h => by cases h), k, h3, comp, h4⟩, k, comp, h3, h4, h1, h5⟩
theorem gl_K (hts : ∀ w ∈ lw_tbl, w.before args s = true) : ∃ (D : va_G) (dA : Nat → ClassId), va_K D ez_cl (ez_tys dA) s := by
  have hG : ∀ w ∈ ez_GW, w.before args s = true := fun w hw => hts w (List.mem_filter.mp hw).1
  have h0 : ∀ ci : Nat, ∃ q : ClassId × (Nat → Nat), ∀ (x : vw_C), ez_cl[ci]? = some x → u_Kn s x.1 x.2.1 x.2.2 q.1 q.2 := by
    intro ci
    cases hx : ez_cl[ci]? with
    | none => exact ⟨(0, fun _ => 0), fun x h => by cases h⟩
    | some x =>
      obtain ⟨C, T, N⟩ := x
      have hc := ez_clsOf hx
      obtain ⟨cC, iS, h⟩ := u_known (C := C) (T := T) (N := N) (n := N) hG hc.1 (hG _ hc.2.2.2.1)
      exact ⟨(cC, iS), fun x hx => by cases hx; exact h⟩
  obtain ⟨ad, had⟩ := Classical.axiomOfChoice h0
  obtain ⟨c0, a0⟩ := gl_int (hts (.arrayClass .int) (by decide +kernel))
  obtain ⟨c1, a1⟩ := gl_byte (hts (.arrayClass .byte) (by decide +kernel))
  obtain ⟨c2, a2⟩ := gl_bool (hts (.arrayClass .boolean) (by decide +kernel))
  obtain ⟨c3, a3⟩ := gl_long (hts (.arrayClass .long) (by decide +kernel))
  obtain ⟨c4, a4⟩ := gl_obj (hts (.arrayOver (.object "java/lang/Object")) (by decide +kernel))
  refine ⟨(fun ci => (ad ci).1, fun ci => (ad ci).2), fun t => if t = 0 then c0 else if t = 1 then c1 else if t = 2 then c2 else if t = 3 then c3 else c4, fun ci x hx => had ci x hx, fun k q hq => ?_⟩
  match k, hq with
  | 0, hq => cases hq; exact a0
  | 1, hq => cases hq; exact a1
  | 2, hq => cases hq; exact a2
  | 3, hq => cases hq; exact a3
  | 4, hq => cases hq; exact a4
  | k + 5, hq => simp [ez_tys] at hq
def gl_tm (i : Nat) : Term := .string "StaplePort$Reader" (ez_sx.getD i (0, "")).1
def gl_len : List Nat := wbs.map List.length
def gl_byt : List (List Int32) := wbs.map (fun l => l.map Int32.ofNat)
abbrev gl_F : List Cond := flatC (Jvm.Cond.and given_1 narrow_1)
theorem gl_f1 : ∀ i : Nat, i < 11 → Cond.exactly (gl_tm i) "java/lang/String" ∈ gl_F ∧ Cond.eq (.field (gl_tm i) "java/lang/String" "coder" "B") (.int 0) ∈ gl_F ∧ Cond.arrayOf (.field (gl_tm i) "java/lang/String" "value" "[B") .byte ∈ gl_F ∧ Cond.eq (.length (.field (gl_tm i) "java/lang/String" "value" "[B")) (.int (Int32.ofNat (gl_len.getD i 0))) ∈ gl_F := by decide +kernel
theorem gl_f2 : ∀ i : Nat, i < 11 → ∀ j : Nat, j < gl_len.getD i 0 → Cond.eq (.elem (.field (gl_tm i) "java/lang/String" "value" "[B") (.int (Int32.ofNat j))) (.int ((gl_byt.getD i []).getD j 0)) ∈ gl_F := by decide +kernel
theorem gl_f3 : ∀ i : Nat, i < 11 → ∀ j : Nat, j < 11 → i ≠ j → Cond.not (Cond.eq (gl_tm i) (gl_tm j)) ∈ gl_F ∨ Cond.not (Cond.eq (gl_tm j) (gl_tm i)) ∈ gl_F := by decide +kernel
theorem gl_f4 : ∀ i : Nat, i < 11 → gl_len.getD i 0 < 2 ^ 31 := by decide +kernel
theorem gl_S (hgv : (Jvm.Cond.and given_1 narrow_1).before args s = true) {A : Nat → Prop} (hA : ∀ a : Nat, a < s.heap.size → ¬ A a) : ∃ adK adV : Nat → Nat, vk_S 11 gl_len gl_byt adK adV A s s.heap ∧ ∀ i : Nat, i < 11 → (gl_tm i).eval args s none [] s = some (.ref (adK i)) := by
  have hf := flat_of_before _ hgv
  exact vk_Sof gl_f4 (fun i hi => hf _ (gl_f1 i hi).1) (fun i hi => hf _ (gl_f1 i hi).2.1) (fun i hi => hf _ (gl_f1 i hi).2.2.1) (fun i hi => hf _ (gl_f1 i hi).2.2.2) (fun i hi j hj => hf _ (gl_f2 i hi j hj)) (fun i j hi hj hn => (gl_f3 i hi j hj hn).elim (fun h => Or.inl (hf _ h)) (fun h => Or.inr (hf _ h))) hA
end GL
