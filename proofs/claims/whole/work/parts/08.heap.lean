/-! The evaluator's steps on the heap are the machine's. -/
theorem ez_lkp {β : Type} {l : List (Nat × β)} {i : Nat} {y : β} (h : l.lookup i = some y) : (i, y) ∈ l := by
  induction l with
  | nil => cases h
  | cons a r ih =>
    obtain ⟨j, z⟩ := a
    rw [List.lookup_cons] at h
    by_cases hj : i = j
    · subst hj
      simp at h
      subst h
      exact List.mem_cons_self
    · have : (i == j) = false := by simpa using hj
      rw [this] at h
      exact List.mem_cons_of_mem _ (ih h)
theorem ez_tabOk {β : Type} {t : List (List (Nat × β))} {f : Nat → Nat × β → Bool} (hall : (List.range 20).all (fun w => (t.getD w []).all (f w)) = true) {k i : Nat} {y : β} (hk : k < 160) (h : (t.getD (ez_ow k) []).lookup i = some y) : f (ez_ow k) (i, y) = true := by
  have h1 : ez_ow k < 20 := of_decide_eq_true (List.all_eq_true.mp ez_owLt k (List.mem_range.mpr hk))
  have h2 := List.all_eq_true.mp hall (ez_ow k) (List.mem_range.mpr h1)
  exact List.all_eq_true.mp h2 (i, y) (ez_lkp h)
theorem ez_smf : Cond.sameField "java/util/ArrayList" "java/util/AbstractList" "modCount" "I" ∈ ez_GW := ez_is_in (p := 99) (by decide +kernel)
theorem ez_isF_inv {c : Option ez_E} {ci sl : Nat} (h : ez_isF c ci sl = true) : ∃ fs, c = some (.inr (ci, fs)) ∧ sl < fs.length := by
  unfold ez_isF at h
  split at h
  · next c' fs =>
    rw [Bool.and_eq_true, beq_iff_eq, decide_eq_true_eq] at h
    exact ⟨fs, by rw [h.1], h.2⟩
  · cases h
theorem ez_isO_inv {c : Option ez_E} {ci : Nat} (h : ez_isO c ci = true) : ∃ fs, c = some (.inr (ci, fs)) := by
  unfold ez_isO at h
  split at h
  · next c' fs => exact ⟨fs, by rw [beq_iff_eq] at h; rw [h]⟩
  · cases h
theorem ez_any_inv {c : Option ez_E} (h : ez_any c = true) : ∃ ci fs, c = some (.inr (ci, fs)) ∧ ci < 11 := by
  unfold ez_any at h
  split at h
  · next c' fs => exact ⟨c', fs, rfl, of_decide_eq_true h⟩
  · cases h
theorem ez_getD {fs : List Value} {sl : Nat} (h : sl < fs.length) : fs[sl]? = some (fs.getD sl .null) := by
  rw [List.getD_eq_getElem?_getD, List.getElem?_eq_getElem h]
  rfl
theorem ez_vpi {i : Int32} {n : Nat} (h1 : ¬ i < 0) (h2 : i.toNatClampNeg < n) : vp_in i n := fun h => h.elim h1 (fun q => absurd h2 (Nat.not_lt.mpr q))
theorem ez_finOf {ci sl : Nat} {C : String} {T : u_T} {N : Nat} (h : ez_cl[ci]? = some (C, T, N)) (hs : sl < N) (hf : (T sl).2.2.2 = true) : (T sl).1 = C := by
  have key : ∀ q ∈ ez_cl, ∀ j, j < q.2.2 → (q.2.1 j).2.2.2 = true → (q.2.1 j).1 = q.1 := by decide +kernel
  exact key (C, T, N) (List.mem_of_getElem? h) sl hs hf
section ZH
variable {D : va_G} {dA : Nat → ClassId} {bs mi : Nat} {ro : Nat → Option ez_E} {g : ez_G}
variable {p : Program} {l : Launch} {e : Env} {R : Room} {s : State} {m : MethodId} {args : Array Value} {below : List Frame} {meth : Method} {c : Code} {Q : State → Prop} {c0 s0 : Nat}
variable {k pc n pc2 : Nat} {ls ls2 : ez_L} {st st2 : List Value} {h h2 : ez_H}
/-- an object of a class of ours: its cell -/
theorem ez_cell {H : Heap} {a ci : Nat} {fs : List Value} (hK : va_K D ez_cl (ez_tys dA) s) (hat : va_at D ez_cl (a, .inr (ci, fs)) H) : ∃ cell : Cell, H[a]? = some cell ∧ cell.vm.isStatics = false ∧ s.vm.findClass (ez_cn ci) = some cell.cls := by
  have hat0 := hat
  obtain ⟨r, hr, h2⟩ := hat
  obtain ⟨C, T, N⟩ := r
  rw [ez_cnOf hr]
  exact va_recv (q := (C, T, N)) hK (ez_P1 hat0) hr (q0 := 0) (fs := fs) rfl
theorem ez_anyOf {H : Heap} {a : Nat} (hKS : ez_KS D dA bs mi ro g s s.heap) (hR : ez_Rep D dA bs ro h H) (ha : ez_any (h.1 a) = true) : va_Any "java/lang/Object" s H a := by
  obtain ⟨ci, fs, he, hc⟩ := ez_any_inv ha
  obtain ⟨-, hat⟩ := hR.get hKS he hc
  obtain ⟨C, T, N, hcl⟩ := ez_clLt hc
  refine va_rAny (q0 := 0) (ci := ci) (fs := fs) (r := (C, T, N)) hKS.1 (ez_P1 hat) rfl hcl fun comp c0 h1 h2 => ?_
  obtain ⟨c1, t1, f1, f2, f3⟩ := Cond.castable_spec (va_Nw.use (A := #[]) rfl (hKS.2.2.2.2.2.2.2.2.2.2.2.2.2 ci C T N hcl))
  cases h2.symm.trans f1
  cases h1.symm.trans f2
  exact f3
theorem ez_put {H : Heap} {locs : List Loc} {cells slots : Nat} {cc : ByteArray} {pc : Nat} {lsA : Array Slot} {rest : List Value} (hx : p.tables.exec = Jvm.exec) (hb : c.code = cc) {own ref C : String} {T : u_T} {N ci index a sl : Nat} (hts : ∀ w ∈ ez_GW, w.before args s = true) (hown : s.vm.findClass own = some m.cls) (hK : va_K D ez_cl (ez_tys dA) s) {fs : List Value} (hat : va_at D ez_cl (a, .inr (ci, fs)) H) (hc : ez_cl[ci]? = some (C, T, N)) (hsl : sl < N) (hlen : sl < fs.length) (hlink : (Cond.fieldLink own index ref (T sl).2.1 (T sl).2.2.1).before args s = true) (hsame : ∀ x, s.fieldFound? (T sl).1 (T sl).2.1 (T sl).2.2.1 = some x → s.fieldFound? ref (T sl).2.1 (T sl).2.2.1 = some x) (hfin : (T sl).2.2.2 = true → meth.name = "<init>" ∧ (T sl).1 = own) {v : Value} (hn : narrow ((ez_tyf.getD ci (fun _ => .int)) sl) v = v) (hfit : fits ((ez_tyf.getD ci (fun _ => .int)) sl) v = true)
    (hdg : decode cc pc = .ok (.putfield index, 3)) (kk : ∀ (H1 : Heap) (x : Nat), va_at D ez_cl (a, .inr (ci, fs.set sl v)) H1 → H1.size = H.size → (∀ q : Nat, q ≠ a → H1[q]? = H[q]?) → W p l e R s m args below meth c H1 (locs ++ [⟨a, x⟩]) cells slots Q (F0 m (pc + 3) lsA rest)) : W p l e R s m args below meth c H locs cells slots Q (F0 m pc lsA (v :: .ref a :: rest)) := by
  obtain ⟨hin, hty, hnm, -⟩ := ez_clsOf hc
  have hap := va_apart (own := own) hts hin _ hty hnm hK hc
  obtain ⟨r, h1, cell, q1, q2, q3, q4⟩ := hat
  have hr : r = (C, T, N) := Option.some.inj (h1.symm.trans hc)
  subst hr
  obtain ⟨hSl, hfc, kC, hkC, hkind⟩ := hK.1 ci _ hc
  obtain ⟨cf, kf, fi, f, hi, hsl2⟩ := hSl sl hsl
  have hst := (u_facts hfc hkC (u_lays hts hin hsl) hi).1
  have hslot : f.slot < cell.slots.size := by rw [hsl2]; exact k2_hasslot (q4 sl hsl)
  have fin : ∀ H1 : Heap, H1[a]? = some (cell.setSlot f.slot v) → va_at D ez_cl (a, .inr (ci, fs.set sl v)) H1 := fun H1 e1 => by
    rw [hsl2] at e1
    exact ⟨_, hc, t_OB.to (V := updV (vp_V fs) sl v) ⟨_, e1, q2, q3, t_set q4 hap hsl v⟩ (fun j _ => vp_updV_set hlen v j)⟩
  have hlay := hts _ (hin _ (u_in_lay hsl))
  cases hf : (T sl).2.2.2 with
  | false =>
    unfold u_lay at hlay
    rw [if_neg (by rw [hf]; decide)] at hlay
    exact W.putK hx hb (f := f) ⟨hown, hlink, ⟨_, _, _, hsame _ hi⟩, hst⟩ (by rw [q2]; exact u_store hfc hkC hkind hlay hi (hty sl hsl) hn hfit) q1 q3 hslot rfl rfl hdg fun H1 e1 e2 e3 => kk H1 _ (fin H1 e1) e2 e3
  | true =>
    obtain ⟨hin2, hdecl⟩ := hfin hf
    unfold u_lay at hlay
    rw [if_pos hf] at hlay
    have hcf : m.cls = cf := by
      obtain ⟨_, _, c', _, _, _, -, -, hf', -, -, -, hown2, -⟩ := Cond.laysFinal_spec hlay
      have e1 : c' = cf := by have := hi.symm.trans hf'; simp at this; exact this.1.symm
      rw [hdecl] at hown2
      rw [← e1]; exact Option.some.inj (hown.symm.trans hown2)
    exact W.putFinK hx hb hown hlink (hsame _ hi) hst hcf hin2 (by rw [q2]; exact u_fits hfc hkC hkind (Or.inr hlay) hi (hty sl hsl) hn hfit) q1 q3 hslot rfl rfl hdg fun H1 e1 e2 e3 => kk H1 _ (fin H1 e1) e2 e3
/-- a field's link, out of the tables -/
theorem ez_link {i ci sl tk pp : Nat} {C : String} {T : u_T} {N : Nat} (hts : ∀ w ∈ ez_GW, w.before args s = true) (hk : k < 160) (hf : ez_fl k i = some (ci, sl, tk, pp)) (hc : ez_cl[ci]? = some (C, T, N)) : sl < N ∧ (tk = 0 ∧ (T sl).2.2.1 = "I" ∨ tk = 1 ∧ (T sl).2.2.1 = "Z" ∨ tk = 2 ∧ ((∃ x, parseFieldDescriptor (T sl).2.2.1 = some (.object x)) ∨ ∃ x, parseFieldDescriptor (T sl).2.2.1 = some (.array x))) ∧ ∃ ref, (Cond.fieldLink (ez_cn (ez_ow k)) i ref (T sl).2.1 (T sl).2.2.1).before args s = true ∧ ∀ x, s.fieldFound? (T sl).1 (T sl).2.1 (T sl).2.2.1 = some x → s.fieldFound? ref (T sl).2.1 (T sl).2.2.1 = some x := by
  have h1 := ez_tabOk ez_chF_ok hk hf
  unfold ez_chF at h1
  dsimp only at h1
  have hn : ¬ ci = 11 := by
    rintro rfl
    simp [ez_cl] at hc
  rw [if_neg hn, hc] at h1
  dsimp only at h1
  rw [Bool.and_eq_true, Bool.and_eq_true, decide_eq_true_eq] at h1
  obtain ⟨⟨h2, h3⟩, h4⟩ := h1
  refine ⟨h2, ?_, ?_⟩
  · simp only [Bool.or_eq_true, Bool.and_eq_true, decide_eq_true_eq] at h3
    rcases h3 with h3 | h3 | ⟨h3, h5⟩
    · exact Or.inl h3
    · exact Or.inr (Or.inl h3)
    · refine Or.inr (Or.inr ⟨h3, ?_⟩)
      split at h5
      · next x hx => exact Or.inl ⟨_, hx⟩
      · next x hx => exact Or.inr ⟨_, hx⟩
      · cases h5
  · rw [Bool.or_eq_true] at h4
    rcases h4 with h4 | h4
    · exact ⟨_, hts _ (ez_is_in h4), fun _ z => z⟩
    · rw [Bool.and_eq_true, Bool.and_eq_true, decide_eq_true_eq, decide_eq_true_eq] at h4
      obtain ⟨h5, h6, h7⟩ := h4
      refine ⟨C, hts _ (ez_is_in h5), fun x hx => ?_⟩
      subst h6
      rw [h7] at hx ⊢
      exact u_same (hts _ ez_smf) x hx
theorem ez_okv {tk : Nat} {v : Value} {ty : FieldType} (h : ez_ok tk v = true) (ht : tk = 0 ∧ ty = .int ∨ tk = 1 ∧ ty = .boolean ∨ tk = 2 ∧ ((∃ x, ty = .object x) ∨ ∃ x, ty = .array x)) : narrow ty v = v ∧ fits ty v = true := by
  unfold ez_ok at h
  split at h
  · rcases ht with ⟨-, rfl⟩ | ⟨h1, -⟩ | ⟨h1, -⟩
    · exact ⟨rfl, rfl⟩
    · cases h1
    · cases h1
  · next x =>
    rcases ht with ⟨h1, -⟩ | ⟨-, rfl⟩ | ⟨h1, -⟩
    · cases h1
    · rcases of_decide_eq_true h with rfl | rfl
      · exact ⟨rfl, rfl⟩
      · exact ⟨rfl, rfl⟩
    · cases h1
  · rcases ht with ⟨h1, -⟩ | ⟨h1, -⟩ | ⟨-, ⟨x, rfl⟩ | ⟨x, rfl⟩⟩
    · cases h1
    · cases h1
    · exact ⟨rfl, rfl⟩
    · exact ⟨rfl, rfl⟩
  · rcases ht with ⟨h1, -⟩ | ⟨h1, -⟩ | ⟨-, ⟨x, rfl⟩ | ⟨x, rfl⟩⟩
    · cases h1
    · cases h1
    · exact ⟨rfl, rfl⟩
    · exact ⟨rfl, rfl⟩
  · cases h
theorem so_getfield {i : Nat} (C : ez_Cx D dA bs mi ro g k p R s m args meth c) (hd : decode (ez_code k) pc = .ok (.getfield i, n)) (hst : ez_st g k (.getfield i) n pc ls st h = some (.inl (pc2, ls2, st2, h2))) (kk : ez_WS D dA bs ro p l e R s m args below meth c Q c0 s0 k pc2 ls2 st2 h2) : ez_WS D dA bs ro p l e R s m args below meth c Q c0 s0 k pc ls st h := by
  intro lsA H locs cells slots e1 e2 hl hR hS
  obtain ⟨hx, hb, hr, hml, hown, hts, hlk, hin, hdp, hbs, hk160, hKS⟩ := C
  simp only [ez_st] at hst
  obtain ⟨rfl, hs1⟩ := ez_if hst
  clear hst
  obtain ⟨a, r, rfl, hs2⟩ := ez_r1_inv hs1
  clear hs1
  cases hf : ez_fl k i with
  | none => rw [hf] at hs2; cases hs2
  | some y =>
    obtain ⟨ci, sl, tk, pp⟩ := y
    rw [hf] at hs2
    dsimp only at hs2
    by_cases hci : ci = 11
    · rw [if_pos hci] at hs2
      subst hci
      have h1 := ez_tabOk ez_chF_ok hk160 hf
      unfold ez_chF at h1
      dsimp only at h1
      rw [if_pos rfl] at h1
      split at hs2
      · next j hj =>
        obtain ⟨rfl, rfl, rfl, rfl⟩ := ez_goi hs2
        have hj1 : j < 11 := List.mem_range.mp (List.mem_of_find?_eq_some hj)
        have hj2 : g.2.1 j = a := by simpa using List.find?_some hj
        have hz := hKS.2.2.2.2.2.1 j hj1
        rw [hj2] at hz
        have kk2 := kk lsA H locs cells slots e1 e2 hl hR hS
        by_cases h0 : sl = 0
        · subst h0
          rw [if_pos rfl] at h1 kk2
          exact vk_getf hx hb hz.2.1 hS hown (hts _ (ez_is_in h1)) (fun _ z => z) hd kk2
        · rw [if_neg h0] at kk2
          rw [if_neg h0, Bool.and_eq_true, beq_iff_eq] at h1
          exact vk_getf hx hb hz.2.2 hS hown (hts _ (ez_is_in h1.2)) (fun _ z => z) hd kk2
      · cases hs2
    · rw [if_neg hci] at hs2
      obtain ⟨hF, hs3⟩ := ez_if hs2
      obtain ⟨rfl, rfl, rfl, rfl⟩ := ez_goi hs3
      obtain ⟨fs, he, hlen⟩ := ez_isF_inv hF
      have hv : ez_vF (h2.1 a) sl = fs.getD sl .null := by rw [he]; rfl
      have hlt : ci < 11 := by
        have h1 := ez_tabOk ez_chF_ok hk160 hf
        unfold ez_chF at h1
        dsimp only at h1
        rw [if_neg hci] at h1
        split at h1
        · cases h1
        · next hc =>
          have := (List.getElem?_eq_some_iff.mp hc).1
          exact this
      obtain ⟨Cn, T, N, hc⟩ := ez_clLt hlt
      obtain ⟨hsl, -, ref, hlink, hsame⟩ := ez_link (args := args) (s := s) hts hk160 hf hc
      obtain ⟨-, hat⟩ := hR.get hKS he hlt
      have kk2 := kk lsA H locs cells slots e1 e2 hl hR hS
      rw [hv] at kk2
      exact va_get (D := D) hx hb hts (ez_clsOf hc).1 hown hKS.1 (ez_P1 hat) 0 rfl hc sl hsl hlink hsame (ez_getD hlen) hd kk2
theorem so_putfield {i : Nat} (C : ez_Cx D dA bs mi ro g k p R s m args meth c) (hd : decode (ez_code k) pc = .ok (.putfield i, n)) (hst : ez_st g k (.putfield i) n pc ls st h = some (.inl (pc2, ls2, st2, h2))) (kk : ez_WS D dA bs ro p l e R s m args below meth c Q c0 s0 k pc2 ls2 st2 h2) : ez_WS D dA bs ro p l e R s m args below meth c Q c0 s0 k pc ls st h := by
  intro lsA H locs cells slots e1 e2 hl hR hS
  obtain ⟨hx, hb, hr, hml, hown, hts, hlk, hin, hdp, hbs, hk160, hKS⟩ := C
  simp only [ez_st] at hst
  obtain ⟨rfl, hs1⟩ := ez_if hst
  clear hst
  split at hs1
  · next v a r =>
    cases hf : ez_fl k i with
    | none => rw [hf] at hs1; cases hs1
    | some y =>
      obtain ⟨ci, sl, tk, pp⟩ := y
      rw [hf] at hs1
      dsimp only at hs1
      obtain ⟨⟨hF, hlt, hok, hfn⟩, hs3⟩ := ez_if hs1
      obtain ⟨rfl, rfl, rfl, rfl⟩ := ez_goi hs3
      obtain ⟨fs, he, hlen⟩ := ez_isF_inv hF
      obtain ⟨Cn, T, N, hc⟩ := ez_clLt hlt
      obtain ⟨hsl, htk, ref, hlink, hsame⟩ := ez_link (args := args) (s := s) hts hk160 hf hc
      obtain ⟨hba, hat⟩ := hR.get hKS he hlt
      have hty := (ez_clsOf hc).2.1 sl hsl
      have hval := ez_okv (ty := (ez_tyf.getD ci (fun _ => .int)) sl) hok (by
        rcases htk with ⟨h1, h3⟩ | ⟨h1, h3⟩ | ⟨h1, h3⟩
        · rw [h3] at hty
          exact Or.inl ⟨h1, (Option.some.inj hty).symm⟩
        · rw [h3] at hty
          exact Or.inr (Or.inl ⟨h1, (Option.some.inj hty).symm⟩)
        · refine Or.inr (Or.inr ⟨h1, ?_⟩)
          rcases h3 with ⟨x, h3⟩ | ⟨x, h3⟩
          · rw [h3] at hty
            exact Or.inl ⟨x, (Option.some.inj hty).symm⟩
          · rw [h3] at hty
            exact Or.inr ⟨x, (Option.some.inj hty).symm⟩)
      have hu : ez_uF (h.1 a) sl v = .inr (ci, fs.set sl v) := by rw [he]; rfl
      refine ez_put (D := D) hx hb hts hown hKS.1 hat hc hsl hlen hlink hsame (fun hfin => ?_) hval.1 hval.2 hd fun H1 x h1 z oq => ?_
      · have hfi : ez_fn ci sl = true := by
          unfold ez_fn
          rw [List.getD_eq_getElem?_getD, hc]
          exact hfin
        obtain ⟨h5, h6⟩ := hfn hfi
        refine ⟨hin h5, ?_⟩
        rw [h6, ez_cnOf hc]
        exact ez_finOf hc hsl hfin
      · refine kk lsA H1 (locs ++ [⟨a, x⟩]) cells slots e1 e2 hl ?_ (hS.put z oq hba)
        rw [hu]
        exact hR.set hba hlt h1 z oq
  · cases hs1
theorem so_getstatic {i : Nat} (C : ez_Cx D dA bs mi ro g k p R s m args meth c) (hd : decode (ez_code k) pc = .ok (.getstatic i, n)) (hst : ez_st g k (.getstatic i) n pc ls st h = some (.inl (pc2, ls2, st2, h2))) (kk : ez_WS D dA bs ro p l e R s m args below meth c Q c0 s0 k pc2 ls2 st2 h2) : ez_WS D dA bs ro p l e R s m args below meth c Q c0 s0 k pc ls st h := by
  intro lsA H locs cells slots e1 e2 hl hR hS
  obtain ⟨hx, hb, hr, hml, hown, hts, hlk, hin, hdp, hbs, hk160, hKS⟩ := C
  simp only [ez_st] at hst
  obtain ⟨rfl, hs1⟩ := ez_if hst
  clear hst
  split at hs1
  · next pp hf =>
    obtain ⟨rfl, rfl, rfl, rfl⟩ := ez_goi hs1
    have h1 := ez_tabOk ez_chS_ok hk160 hf
    exact va_gets hx hb hKS.2.1 hS hown (hts _ (ez_is_in h1)) (fun _ z => z) hd (kk lsA H locs cells slots e1 e2 hl hR hS)
  · next pp hf =>
    obtain ⟨rfl, rfl, rfl, rfl⟩ := ez_goi hs1
    have h1 := ez_tabOk ez_chS_ok hk160 hf
    exact va_gets hx hb hKS.2.2.1 hS hown (hts _ (ez_is_in h1)) (fun _ z => z) hd (kk lsA H locs cells slots e1 e2 hl hR hS)
  · next pp hf =>
    obtain ⟨rfl, rfl, rfl, rfl⟩ := ez_goi hs1
    have h1 := ez_tabOk ez_chS_ok hk160 hf
    exact va_gets hx hb hKS.2.2.2.1 hS hown (hts _ (ez_is_in h1)) (fun _ z => z) hd (kk lsA H locs cells slots e1 e2 hl hR hS)
  · cases hs1
theorem so_ldc {i : Nat} (C : ez_Cx D dA bs mi ro g k p R s m args meth c) (hd : decode (ez_code k) pc = .ok (.ldc i, n)) (hst : ez_st g k (.ldc i) n pc ls st h = some (.inl (pc2, ls2, st2, h2))) (kk : ez_WS D dA bs ro p l e R s m args below meth c Q c0 s0 k pc2 ls2 st2 h2) : ez_WS D dA bs ro p l e R s m args below meth c Q c0 s0 k pc ls st h := by
  intro lsA H locs cells slots e1 e2 hl hR hS
  obtain ⟨hx, hb, hr, hml, hown, hts, hlk, hin, hdp, hbs, hk160, hKS⟩ := C
  simp only [ez_st] at hst
  obtain ⟨rfl, hs1⟩ := ez_if hst
  clear hst
  split at hs1
  · next v pp hf =>
    obtain ⟨rfl, rfl, rfl, rfl⟩ := ez_goi hs1
    exact lv_ldc hx hb hown (hts _ (ez_is_in (ez_tabOk ez_chI_ok hk160 hf))) hd (kk lsA H locs cells slots e1 e2 hl hR hS)
  · split at hs1
    · next j hf =>
      obtain ⟨rfl, rfl, rfl, rfl⟩ := ez_goi hs1
      unfold ez_ss at hf
      obtain ⟨how, hf⟩ := ez_if hf
      rw [how] at hown
      obtain ⟨hj, hj2⟩ := (List.findIdx?_eq_some_iff_getElem.mp hf)
      have hz := hKS.2.2.2.2.2.2.1 j _ (List.getElem?_eq_getElem hj)
      have hi : (ez_sx[j]).1 = i := by simpa using hj2.1
      rw [hi] at hz
      exact va_ldcS hx hb hown hz hd (kk lsA H locs cells slots e1 e2 hl hR hS)
    · cases hs1
theorem so_ldc_w {i : Nat} (C : ez_Cx D dA bs mi ro g k p R s m args meth c) (hd : decode (ez_code k) pc = .ok (.ldc_w i, n)) (hst : ez_st g k (.ldc_w i) n pc ls st h = some (.inl (pc2, ls2, st2, h2))) (kk : ez_WS D dA bs ro p l e R s m args below meth c Q c0 s0 k pc2 ls2 st2 h2) : ez_WS D dA bs ro p l e R s m args below meth c Q c0 s0 k pc ls st h := by
  intro lsA H locs cells slots e1 e2 hl hR hS
  obtain ⟨hx, hb, hr, hml, hown, hts, hlk, hin, hdp, hbs, hk160, hKS⟩ := C
  simp only [ez_st] at hst
  obtain ⟨rfl, hs1⟩ := ez_if hst
  clear hst
  split at hs1
  · next v pp hf =>
    obtain ⟨rfl, rfl, rfl, rfl⟩ := ez_goi hs1
    exact lv_ldcw hx hb hown (hts _ (ez_is_in (ez_tabOk ez_chI_ok hk160 hf))) hd (kk lsA H locs cells slots e1 e2 hl hR hS)
  · cases hs1
theorem so_ldc2_w {i : Nat} (C : ez_Cx D dA bs mi ro g k p R s m args meth c) (hd : decode (ez_code k) pc = .ok (.ldc2_w i, n)) (hst : ez_st g k (.ldc2_w i) n pc ls st h = some (.inl (pc2, ls2, st2, h2))) (kk : ez_WS D dA bs ro p l e R s m args below meth c Q c0 s0 k pc2 ls2 st2 h2) : ez_WS D dA bs ro p l e R s m args below meth c Q c0 s0 k pc ls st h := by
  intro lsA H locs cells slots e1 e2 hl hR hS
  obtain ⟨hx, hb, hr, hml, hown, hts, hlk, hin, hdp, hbs, hk160, hKS⟩ := C
  simp only [ez_st] at hst
  obtain ⟨rfl, hs1⟩ := ez_if hst
  clear hst
  split at hs1
  · next v pp hf =>
    obtain ⟨rfl, rfl, rfl, rfl⟩ := ez_goi hs1
    exact lv_ldc2 hx hb hown (hts _ (ez_is_in (ez_tabOk ez_chL_ok hk160 hf))) hd (kk lsA H locs cells slots e1 e2 hl hR hS)
  · cases hs1
end ZH
