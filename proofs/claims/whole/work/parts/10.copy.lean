def cy2 : MethodName := ⟨"java/util/Arrays", "copyOf", "([Ljava/lang/Object;I)[Ljava/lang/Object;"⟩
def cy3 : MethodName := ⟨"java/util/Arrays", "copyOf", "([Ljava/lang/Object;ILjava/lang/Class;)[Ljava/lang/Object;"⟩
def cyG : MethodName := ⟨"java/lang/Object", "getClass", "()Ljava/lang/Class;"⟩
abbrev cb2 : ByteArray := prog_23_method_119_code
abbrev cb3 : ByteArray := prog_23_method_120_code
theorem cw_l86 : Cond.methodLink "java/util/Arrays" 86 cyG ∈ ez_GW := ez_is_in (p := 385) (by decide +kernel)
theorem cw_l300 : Cond.methodLink "java/util/Arrays" 300 cy3 ∈ ez_GW := ez_is_in (p := 400) (by decide +kernel)
theorem cw_l304 : Cond.methodLink "java/util/Arrays" 304 Lib.Math.min.name ∈ ez_GW := ez_is_in (p := 406) (by decide +kernel)
theorem cw_l150 : Cond.methodLink "java/util/Arrays" 150 arraycopyName ∈ ez_GW := ez_is_in (p := 407) (by decide +kernel)
theorem cw_sel : Cond.selects "[Ljava/lang/Object;" cyG cyG ∈ ez_GW := ez_is_in (p := 1230) (by decide +kernel)
theorem cw_gi : Cond.instanceMethod cyG ∈ ez_GW := ez_is_in (p := 386) (by decide +kernel)
theorem cw_gn : Cond.native cyG ∈ ez_GW := ez_is_in (p := 399) (by decide +kernel)
theorem cw_an : Cond.native arraycopyName ∈ ez_GW := ez_is_in (p := 409) (by decide +kernel)
theorem cw_as : Cond.static arraycopyName ∈ ez_GW := ez_is_in (p := 408) (by decide +kernel)
theorem cw_is : Cond.initialized "java/lang/System" ∈ ez_GW := ez_is_in (p := 66) (by decide +kernel)
theorem cw_ia : Cond.initialized "java/util/Arrays" ∈ ez_GW := ez_is_in (p := 65) (by decide +kernel)
theorem cw_s3 : Cond.static cy3 ∈ ez_GW := ez_is_in (p := 401) (by decide +kernel)
theorem cw_s2 : Cond.static cy2 ∈ ez_GW := ez_is_in (p := 383) (by decide +kernel)
theorem cw_c110 : Cond.classLink "java/util/Arrays" 110 "[Ljava/lang/Object;" ∈ ez_GW := ez_is_in (p := 403) (by decide +kernel)
theorem cw_c2 : Cond.classLink "java/util/Arrays" 2 "java/lang/Object" ∈ ez_GW := ez_is_in (p := 405) (by decide +kernel)
set_option maxRecDepth 100000 in
theorem cw_k2 : Cond.code cy2 cb2 2 (some (.array (.object "java/lang/Object"))) ∈ ez_GW := ez_gw (p := 384) rfl rfl
set_option maxRecDepth 100000 in
theorem cw_k3 : Cond.code cy3 cb3 4 (some (.array (.object "java/lang/Object"))) ∈ ez_GW := ez_gw (p := 402) rfl rfl
theorem dcb2_0 : decode cb2 0 = .ok (.aload_n 0, 1) := by decide +kernel
theorem dcb2_1 : decode cb2 1 = .ok (.iload_n 1, 1) := by decide +kernel
theorem dcb2_2 : decode cb2 2 = .ok (.aload_n 0, 1) := by decide +kernel
theorem dcb2_3 : decode cb2 3 = .ok (.invokevirtual 86, 3) := by decide +kernel
theorem dcb2_6 : decode cb2 6 = .ok (.invokestatic 300, 3) := by decide +kernel
theorem dcb2_9 : decode cb2 9 = .ok (.areturn, 1) := by decide +kernel
theorem dcb3_0 : decode cb3 0 = .ok (.aload_n 2, 1) := by decide +kernel
theorem dcb3_1 : decode cb3 1 = .ok (.ldc 110, 2) := by decide +kernel
theorem dcb3_3 : decode cb3 3 = .ok (.if_acmp .ne 10, 3) := by decide +kernel
theorem dcb3_6 : decode cb3 6 = .ok (.iload_n 1, 1) := by decide +kernel
theorem dcb3_7 : decode cb3 7 = .ok (.anewarray 2, 3) := by decide +kernel
theorem dcb3_10 : decode cb3 10 = .ok (.goto 14, 3) := by decide +kernel
theorem dcb3_13 : decode cb3 13 = .ok (.aload_n 2, 1) := by decide +kernel
theorem dcb3_14 : decode cb3 14 = .ok (.invokevirtual 90, 3) := by decide +kernel
theorem dcb3_17 : decode cb3 17 = .ok (.iload_n 1, 1) := by decide +kernel
theorem dcb3_18 : decode cb3 18 = .ok (.invokestatic 95, 3) := by decide +kernel
theorem dcb3_21 : decode cb3 21 = .ok (.checkcast 110, 3) := by decide +kernel
theorem dcb3_24 : decode cb3 24 = .ok (.astore_n 3, 1) := by decide +kernel
theorem dcb3_25 : decode cb3 25 = .ok (.aload_n 0, 1) := by decide +kernel
theorem dcb3_26 : decode cb3 26 = .ok (.iconst 0, 1) := by decide +kernel
theorem dcb3_27 : decode cb3 27 = .ok (.aload_n 3, 1) := by decide +kernel
theorem dcb3_28 : decode cb3 28 = .ok (.iconst 0, 1) := by decide +kernel
theorem dcb3_29 : decode cb3 29 = .ok (.aload_n 0, 1) := by decide +kernel
theorem dcb3_30 : decode cb3 30 = .ok (.arraylength, 1) := by decide +kernel
theorem dcb3_31 : decode cb3 31 = .ok (.iload_n 1, 1) := by decide +kernel
theorem dcb3_32 : decode cb3 32 = .ok (.invokestatic 304, 3) := by decide +kernel
theorem dcb3_35 : decode cb3 35 = .ok (.invokestatic 150, 3) := by decide +kernel
theorem dcb3_38 : decode cb3 38 = .ok (.aload_n 3, 1) := by decide +kernel
theorem dcb3_39 : decode cb3 39 = .ok (.areturn, 1) := by decide +kernel
/-- the words of a method: its own code, and all good words of the tables -/
theorem ez_good {ws : List Cond} (h : ∀ w ∈ ws, w ∈ ez_GW) {w0 : Cond} : GoodIn (w0 :: ez_GW) ws := fun w hw => ⟨List.mem_cons_of_mem _ (h w hw), good_of_word (List.mem_filter.mp (h w hw)).2⟩
theorem ez_goodC {w0 w1 : Cond} (h : w1 ∈ ez_GW) : GoodIn (w0 :: ez_GW) (w1 :: ez_GW) := ez_good (fun _ hw => (List.mem_cons.mp hw).elim (fun e => e ▸ h) id)
def ez_Pc (D : va_G) (dA : Nat → ClassId) (bs mi : Nat) (ro : Nat → Option ez_E) (g : ez_G) (as : List Value) (h : ez_H) : Array Value → State → Prop := va_Pc as (fun U => bs ≤ U.heap.size ∧ ez_KS D dA bs mi ro g U U.heap ∧ ez_Rep D dA bs ro h U.heap)
def ez_Qc (D : va_G) (dA : Nat → ClassId) (bs : Nat) (ro : Nat → Option ez_E) (r : Option Value) (h : ez_H) : Array Value → State → Outcome → State → Prop := fun _ st oc t => oc = .returned r ∧ ez_Rep D dA bs ro h t.heap ∧ va_F (ez_A bs) st t
section ZC
variable {D : va_G} {dA : Nat → ClassId} {bs mi : Nat} {ro : Nat → Option ez_E} {g : ez_G}
theorem ez_blind {as : List Value} {h : ez_H} : FrameBlind (ez_Pc D dA bs mi ro g as h) := by
  intro a U gg mk q
  obtain ⟨q0, q1, q2, q3⟩ := q
  exact ⟨q0, q1, q2.calling, q3⟩
variable {p : Program} {l : Launch} {e : Env} {R : Room} {s : State} {m : MethodId} {args : Array Value} {below : List Frame} {meth : Method} {c : Code} {Q : State → Prop}
theorem ez_Wcopy {H : Heap} {locs : List Loc} {cells slots pc : Nat} {lsA : Array Slot} {rest : List Value} {cc : ByteArray} (hx : p.tables.exec = Jvm.exec) (hb : c.code = cc) (hml : c.maxLocals = lsA.size) {own : String} {index : Nat} (hown : s.vm.findClass own = some m.cls) (hlink : (Cond.methodLink own index arraycopyName).before args s = true) (hnat : (Cond.native arraycopyName).before args s = true) (hstat : (Cond.static arraycopyName).before args s = true) (hini : (Cond.initialized "java/lang/System").before args s = true)
    (hK : va_K D ez_cl (ez_tys dA) s) {a0 a n0 n1 N : Nat} {f gg : Nat → Option Nat} (hc0 : H[a0]? = some (vp_cell (dA 4) (n0, .inr (.inr (.inr (.inr f)))))) (hc1 : H[a]? = some (vp_cell (dA 4) (n1, .inr (.inr (.inr (.inr gg))))))
    {n : Int32} (h3 : ¬ n < 0) (hN : n.toNatClampNeg = N) (h4 : N ≤ n0) (h5 : N ≤ n1) (hel : ∀ i : Nat, i < N → ∀ y : Nat, f i = some y → va_Any "java/lang/Object" s H y)
    (hframes : 1 ≤ R.frames) (hlocals : (rest.map fun v => v.category).sum + (nativeFrameWords "java/lang/System" "arraycopy" 5 + 11) ≤ R.locals) (hdg : decode cc pc = .ok (.invokestatic index, 3))
    (kk : ∀ (locs1 : List Loc), (∀ q ∈ locs1, q ∈ locs ∨ q.base = a) → W p l e R s m args below meth c (H.setIfInBounds a (vp_cell (dA 4) (n1, .inr (.inr (.inr (.inr (va_cpy f gg 0 0 N))))))) locs1 cells slots Q (F0 m (pc + 3) lsA rest)) : W p l e R s m args below meth c H locs cells slots Q (F0 m pc lsA (.int n :: .int 0 :: .ref a :: .int 0 :: .ref a0 :: rest)) := by
  subst hN
  have nn : n.toInt = (n.toNatClampNeg : Int) := by
    have hz0 : (0 : Int) ≤ n.toInt := by
      have := Int32.not_lt.mp h3
      simpa using Int32.le_iff_toInt_le.mp this
    show n.toInt = ((n.toInt.toNat : Nat) : Int)
    omega
  have z0 : ¬ (0 : Int32) < 0 := by decide
  have zc : (0 : Int32).toNatClampNeg = 0 := by decide
  have zi : (0 : Int32).toInt = 0 := by decide
  intro T hT X
  obtain ⟨-, k0, hk0, cm0, hkk0⟩ := (hK.2 4 _ rfl).1 n0 (fun j => va_rf (f j))
  obtain ⟨-, k1, hk1, cm1, hkk1⟩ := (hK.2 4 _ rfl).1 n1 (fun j => va_rf (gg j))
  obtain ⟨vm', X', step⟩ := X.arraycopy hx hown hlink hnat hstat hini (src := a0) (dst := a) (cs := vp_cell (dA 4) (n0, .inr (.inr (.inr (.inr f))))) (cd := vp_cell (dA 4) (n1, .inr (.inr (.inr (.inr gg))))) (srcPos := 0) (destPos := 0) (n := n) (by rw [hT]; exact hc0) (by rw [hT]; exact hc1)
    (fun _ h => by cases h) (fun _ h => by cases h) (fun h => by cases h) (fun h => by cases h) hk0 hk1 hkk0 hkk1 rfl z0 z0 h3
    (by rw [nn, zi]; show ¬ _ > ((arrV (dA 4) n0 (fun j => va_rf (f j))).slots.size : Int); rw [arrV_size]; omega)
    (by rw [nn, zi]; show ¬ _ > ((arrV (dA 4) n1 (fun j => va_rf (gg j))).slots.size : Int); rw [arrV_size]; omega)
    (fun vm₁ hal i hi => by
      have e : (vp_cell (dA 4) (n0, .inr (.inr (.inr (.inr f))))).slots.getD ((0 : Int32).toNatClampNeg + i) .null = va_rf (f i) := by
        show (arrV (dA 4) n0 (fun j => va_rf (f j))).slots.getD _ _ = _
        rw [zc, Nat.zero_add, Array.getD_eq_getD_getElem?, arrV_read _ _ (by omega)]
        rfl
      rw [e]
      cases hy : f i with
      | none => exact ⟨rfl, trivial⟩
      | some y =>
        obtain ⟨cellV, g1, g2, ⟨kC, hkC⟩, hasg⟩ := hel i hi y hy
        obtain ⟨kA, comp, r1, r2, r3, -⟩ := (hK.2 4 _ rfl).2
        cases hk1.symm.trans r1
        cases hkk1.symm.trans r2
        obtain ⟨kE, hkE, -⟩ := Vm.findClass_spec r3
        obtain ⟨kC', hkC', -⟩ := hal.2.2 _ _ hkC
        obtain ⟨kE', hkE', -⟩ := hal.2.2 _ _ hkE
        refine ⟨rfl, cellV, (show T.heap[y]? = some cellV by rw [hT]; exact g1), (fun q h => by rw [h] at g2; cases g2), ⟨kC', hkC'⟩, ?_, ?_⟩
        · exact ⟨kE', hkE'⟩
        · show vm₁.assignable _ _ = true
          rw [hal.assignable]
          exact hasg _ r3)
    (g := F0 m pc lsA (.int n :: .int 0 :: .ref a :: .int 0 :: .ref a0 :: rest)) rfl (by rw [hml]) (rest := rest) rfl (by rw [hb]; exact hdg) hframes (by show 2 * 0 + _ + _ ≤ _; omega)
  have e1 : copied (vp_cell (dA 4) (n0, .inr (.inr (.inr (.inr f))))) (vp_cell (dA 4) (n1, .inr (.inr (.inr (.inr gg))))) 0 0 n = vp_cell (dA 4) (n1, .inr (.inr (.inr (.inr (va_cpy f gg (0 : Int32).toNatClampNeg (0 : Int32).toNatClampNeg n.toNatClampNeg))))) := by
    rw [vp_cell_q, vp_cell_q, vp_cell_q]
    exact va_copied (fun z => va_rf z) (dA 4) (dA 4) f gg (by rw [zc]; omega)
  rw [e1, zc] at X' step
  have hheap : ((T.setVm vm').setCell a (vp_cell (dA 4) (n1, .inr (.inr (.inr (.inr (va_cpy f gg 0 0 n.toNatClampNeg))))))).heap = H.setIfInBounds a (vp_cell (dA 4) (n1, .inr (.inr (.inr (.inr (va_cpy f gg 0 0 n.toNatClampNeg)))))) := by rw [← hT]; rfl
  obtain ⟨t, a1, b1⟩ := kk _ (fun q hq => by
      rcases List.mem_append.mp hq with h | h
      · exact Or.inl h
      · obtain ⟨z, -, hz⟩ := List.mem_map.mp h
        rw [← hz]
        exact Or.inr rfl) _ hheap X'
  exact ⟨t, step t a1, b1⟩
end ZC
