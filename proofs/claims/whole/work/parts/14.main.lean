def ez_rm (k mc ms : Nat) : Room := { frames := ez_dep k, cells := mc, slots := ms, locals := 30 * ez_dep k }
def ez_wsK (k : Nat) : List Cond := .code (ez_y k) (ez_code k) (ez_ml k) (ez_ret k) :: ez_GW
theorem ez_kof {k : Nat} (hk : k < 159) : Cond.initialized (ez_y k).cls ∈ ez_GW ∧ (ez_kd k = 0 → Cond.static (ez_y k) ∈ ez_GW) ∧ (¬ ez_kd k = 0 → Cond.instanceMethod (ez_y k) ∈ ez_GW) ∧ (ez_kd k = 1 → Cond.selects (ez_y k).cls (ez_y k) (ez_y k) ∈ ez_GW) ∧ (ez_kd k = 2 → (ez_y k).name = "<init>" ∧ ez_ret k = none) ∧ (ez_y k).cls = ez_cn (ez_ow k) ∧ plainName (ez_y k).cls = true ∧ ((ez_y k).cls ≠ "java/lang/invoke/MethodHandle" ∧ (ez_y k).cls ≠ "java/lang/invoke/VarHandle" ∧ (parseMethodDescriptor (ez_y k).desc).map (fun d => d.parameters.length) = some (if ez_kd k = 0 then ez_na k else ez_na k - 1)) ∧ ez_ml k ≤ 11 ∧ ez_kd k < 3 ∧ (ez_kd k = 0 ∨ 0 < ez_na k) := by
  have h := List.all_eq_true.mp ez_chK_ok k (List.mem_range.mpr hk)
  unfold ez_chK at h
  dsimp only at h
  simp only [Bool.and_eq_true, decide_eq_true_eq, Bool.or_eq_true] at h
  obtain ⟨⟨⟨⟨⟨⟨⟨⟨⟨⟨⟨h1, h2⟩, h3⟩, h4⟩, h5⟩, h6⟩, h7⟩, h8⟩, h9⟩, h10⟩, h11⟩, h12⟩ := h
  refine ⟨ez_is_in h1, fun z => ?_, fun z => ?_, fun z => ?_, fun z => ?_, h5, h6, ⟨h7, h8, h9⟩, h10, h11, h12⟩
  · rw [if_pos z] at h2
    exact ez_is_in h2
  · rw [if_neg z] at h2
    exact ez_is_in h2
  · rw [if_pos z] at h3
    exact ez_is_in h3
  · rw [if_pos z] at h4
    simpa using h4
theorem ez_call_inv {g : ez_G} {k k' kd k2 : Nat} {st as rest : List Value} {h : ez_H} (hc : ez_call g k k' kd st h = some (.inr (.inr (k2, as, rest)))) : k2 = k' ∧ (k' < 159 ∧ ez_kd k' = kd ∧ ez_dep k' < ez_dep k ∧ ez_w rest ≤ 8 ∧ ez_w as ≤ ez_ml k') ∧ as.reverse ++ rest = st ∧ as.length = ez_na k' ∧ (kd = 1 → ∃ b as', as = .ref b :: as' ∧ ez_rc g h b (ez_ow k') = true) ∧ (kd = 2 → ∃ b as', as = .ref b :: as') := by
  unfold ez_call at hc
  obtain ⟨⟨h0, h1, h2, h3, h4, h5⟩, hc2⟩ := ez_if hc
  clear hc
  have key : ∀ as2 : List Value, (st.take (ez_na k')).reverse = as2 → as2.reverse ++ st.drop (ez_na k') = st ∧ as2.length = ez_na k' ∧ ez_w as2 ≤ ez_ml k' := by
    rintro as2 rfl
    rw [List.reverse_reverse, List.take_append_drop, List.length_reverse, List.length_take]
    refine ⟨rfl, by omega, ?_⟩
    unfold ez_w at h5 ⊢
    rw [List.map_reverse, List.sum_reverse]
    exact h5
  generalize hA : (st.take (ez_na k')).reverse = A at hc2
  have hkey := key A hA
  clear key hA
  match kd, A, h1, hkey, hc2 with
  | 0, A, h1, hkey, hc2 =>
    cases hc2
    exact ⟨rfl, ⟨h0, h1, h2, h4, hkey.2.2⟩, hkey.1, hkey.2.1, fun z => absurd z (by decide), fun z => absurd z (by decide)⟩
  | 1, .ref b :: as2, h1, hkey, hc2 =>
    obtain ⟨hO, hc3⟩ := ez_if hc2
    cases hc3
    exact ⟨rfl, ⟨h0, h1, h2, h4, hkey.2.2⟩, hkey.1, hkey.2.1, fun _ => ⟨b, as2, rfl, hO⟩, fun z => absurd z (by decide)⟩
  | 2, .ref b :: as2, h1, hkey, hc2 =>
    cases hc2
    exact ⟨rfl, ⟨h0, h1, h2, h4, hkey.2.2⟩, hkey.1, hkey.2.1, fun z => absurd z (by decide), fun _ => ⟨b, as2, rfl⟩⟩
  | 1, [], h1, hkey, hc2 => cases hc2
  | 1, .int _ :: _, h1, hkey, hc2 => cases hc2
  | 1, .long _ :: _, h1, hkey, hc2 => cases hc2
  | 1, .float _ :: _, h1, hkey, hc2 => cases hc2
  | 1, .double _ :: _, h1, hkey, hc2 => cases hc2
  | 1, .null :: _, h1, hkey, hc2 => cases hc2
  | 1, .retAddr _ :: _, h1, hkey, hc2 => cases hc2
  | 2, [], h1, hkey, hc2 => cases hc2
  | 2, .int _ :: _, h1, hkey, hc2 => cases hc2
  | 2, .long _ :: _, h1, hkey, hc2 => cases hc2
  | 2, .float _ :: _, h1, hkey, hc2 => cases hc2
  | 2, .double _ :: _, h1, hkey, hc2 => cases hc2
  | 2, .null :: _, h1, hkey, hc2 => cases hc2
  | 2, .retAddr _ :: _, h1, hkey, hc2 => cases hc2
  | kd + 3, A, h1, hkey, hc2 => cases hc2
theorem ez_nestS {w i k' : Nat} (h : ez_nests.contains (w, i, k') = true) : (w = 6 ∧ i = 58 ∧ k' = 0) ∨ (w = 1 ∧ i = 13 ∧ k' = 68) ∨ (w = 7 ∧ i = 68 ∧ k' = 68) := by
  simp only [ez_nests, List.contains_eq_mem, List.mem_cons, Prod.mk.injEq, List.not_mem_nil, or_false, decide_eq_true_eq] at h
  exact h
theorem ez_kd68 : ez_kd 68 = 0 := by decide +kernel
theorem ez_kd0 : ez_kd 0 = 2 := by decide +kernel
section ZM
variable {D : va_G} {dA : Nat → ClassId} {bs mi : Nat} {ro : Nat → Option ez_E} {g : ez_G}
variable {p : Program} {l : Launch} {e : Env} {R : Room} {s : State} {m : MethodId} {args : Array Value} {below : List Frame} {meth : Method} {c : Code} {Q : State → Prop} {c0 s0 : Nat}
variable {k pc n : Nat} {ls : ez_L} {st : List Value} {h : ez_H}
/-- a call whose contract is given -/
theorem ez_callW {I : Instr} {k' mc ms : Nat} {as rest : List Value} {r : Option Value} {h' : ez_H} (C : ez_Cx D dA bs mi ro g k p R s m args meth c) (hd : decode (ez_code k) pc = .ok (I, n)) (hst : ez_st g k I n pc ls st h = some (.inr (.inr (k', as, rest)))) (hM : Met l (ez_y k') (ez_wsK k') (ez_rm k' mc ms) (ez_Pc D dA bs mi ro g as h) (ez_Qc D dA bs ro r h') mc ms (ez_A bs)) (q1 : h.2.1 + mc = h'.2.1) (q2 : h.2.2 + ms = h'.2.2) (hrm : h'.2.1 ≤ R.cells + c0 ∧ h'.2.2 ≤ R.slots + s0) (kk : ez_WS D dA bs ro p l e R s m args below meth c Q c0 s0 k (pc + 3) ls (r.toList ++ rest) h') : ez_WS D dA bs ro p l e R s m args below meth c Q c0 s0 k pc ls st h := by
  intro lsA H locs cells slots e1 e2 hl hR hS
  obtain ⟨hx, hb, hr, hml, hown, hts, hlk, hin, hdp, hbs, hk160, hKS⟩ := C
  have main : ∀ {i kd x pp : Nat}, ez_mk k i = some (k', x, pp) → ez_call g k k' kd st h = some (.inr (.inr (k', as, rest))) → ¬ k' = 9000 → ¬ k' = 9001 → ¬ k' = 9002 → ¬ k' = 9003 → (kd = 0 ∧ decode (ez_code k) pc = .ok (.invokestatic i, 3) ∨ kd = 1 ∧ decode (ez_code k) pc = .ok (.invokevirtual i, 3) ∨ kd = 2 ∧ decode (ez_code k) pc = .ok (.invokespecial i, 3)) → va_Run p l e R s m args below meth c H locs cells slots mc ms (F0 m pc lsA st) rest (ez_Qc D dA bs ro r h' as.toArray) (ez_A bs) := by
    intro i kd x pp hf hc n0 n1 n2 n3 hdk
    obtain ⟨-, ⟨hlt, hkd, hdep, hw, -⟩, hrev, hlen, hrc, hri⟩ := ez_call_inv hc
    have hch := ez_tabOk ez_chM_ok hk160 hf
    unfold ez_chM at hch
    dsimp only at hch
    rw [if_neg n0, if_neg n1, if_neg n2, if_neg n3] at hch
    obtain ⟨w1, w2, w3, w4, w5, w6, w7, w8, w9, w10, w11⟩ := ez_kof hlt
    have hG : GoodIn ez_GW (ez_wsK k') := ez_good0 (fun w hw => (List.mem_cons.mp hw).elim (fun z => z ▸ ez_kcs hlt) id)
    have hRm : (ez_rm k' mc ms).frames + 1 ≤ R.frames ∧ 8 + (ez_ml k' + 11) + (ez_rm k' mc ms).locals ≤ R.locals := ⟨by show ez_dep k' + 1 ≤ _; omega, by show 8 + (ez_ml k' + 11) + 30 * ez_dep k' ≤ _; omega⟩
    have hroom : cells + mc ≤ R.cells ∧ slots + ms ≤ R.slots := ⟨by omega, by omega⟩
    rcases hdk with ⟨rfl, hdk⟩ | ⟨rfl, hdk⟩ | ⟨rfl, hdk⟩
    · rw [if_pos hkd] at w8
      by_cases hx1 : x = 1
      · rw [if_pos hx1] at hch
        have hnest : va_Nw (.methodLinkNest (ez_cn (ez_ow k)) i (ez_y k') "StaplePort") s := by
          rcases ez_nestS hch with ⟨h6, rfl, rfl⟩ | ⟨h6, rfl, rfl⟩ | ⟨h6, rfl, rfl⟩
          · rw [ez_kd0] at hkd; cases hkd
          · rw [h6]; exact hKS.2.2.2.2.2.2.2.2.1
          · rw [h6]; exact hKS.2.2.2.2.2.2.2.2.2.1
        exact va_runSN (As := as) (rest := rest) ⟨hx, hb, hml, hown, hts⟩ hM ⟨va_cnB (ez_na k') hts hG rfl rfl rfl hnest (hts _ w1) w8 hRm, hts _ (w2 hkd), trivial⟩ (ez_pre hbs hKS hR hS) rfl hlen hl.2.1 hrev.symm (lv_room hw) hdk hroom
      · rw [if_neg hx1, Bool.and_eq_true] at hch
        exact va_runS (As := as) (rest := rest) ⟨hx, hb, hml, hown, hts⟩ hM ⟨callB_of (ez_na k') hts hG rfl rfl rfl (hts _ w1) (hts _ (ez_is_in hch.2)) w8 hRm, hts _ (w2 hkd)⟩ (ez_pre hbs hKS hR hS) rfl hlen hl.2.1 hrev.symm (lv_room hw) hdk hroom
    · have hne : ¬ ez_kd k' = 0 := by omega
      rw [if_neg hne] at w8
      obtain ⟨b, as2, rfl, hO⟩ := hrc rfl
      have hx1 : ¬ x = 1 := by
        rintro rfl
        rw [if_pos rfl] at hch
        rcases ez_nestS hch with ⟨h6, rfl, rfl⟩ | ⟨h6, rfl, rfl⟩ | ⟨h6, rfl, rfl⟩
        · rw [ez_kd0] at hkd; cases hkd
        · rw [ez_kd68] at hkd; cases hkd
        · rw [ez_kd68] at hkd; cases hkd
      rw [if_neg hx1, Bool.and_eq_true] at hch
      have hlen2 : as2.length = ez_na k' - 1 := by rw [← hlen]; rfl
      have hrev2 : st = as2.reverse ++ .ref b :: rest := by rw [← hrev, List.reverse_cons, List.append_assoc]; rfl
      have hrecv : ∃ cellB : Cell, H[b]? = some cellB ∧ cellB.vm.isStatics = false ∧ s.vm.findClass (ez_y k').cls = some cellB.cls := by
        rw [w6]
        unfold ez_rc at hO
        by_cases h11 : ez_ow k' = 11
        · rw [if_pos h11] at hO
          obtain ⟨j, hj⟩ := Option.isSome_iff_exists.mp hO
          have hj1 : j < 11 := List.mem_range.mp (List.mem_of_find?_eq_some hj)
          have hj2 : g.2.1 j = b := by simpa using List.find?_some hj
          have hz := (hKS.2.2.2.2.2.1 j hj1).1
          rw [hj2] at hz
          rw [h11]
          exact va_Orecv hz hS
        · rw [if_neg h11] at hO
          obtain ⟨fs, he⟩ := ez_isO_inv hO
          by_cases h12 : ez_ow k' < 11
          · exact ez_cell hKS.1 (hR.get hKS he h12).2
          · obtain ⟨hq, hro⟩ := hR.rd he h12
            exact (hKS.2.2.2.2.1 b _ hro).elim
      exact va_runV (As := as2) (rest := rest) ⟨hx, hb, hml, hown, hts⟩ hM ⟨callB_of (ez_na k' - 1) hts hG rfl rfl rfl (hts _ w1) (hts _ (ez_is_in hch.2)) w8 hRm, hts _ (w3 hne), hts _ (w4 hkd)⟩ ⟨ez_blind, hrecv, (ez_pre hbs hKS hR hS).2⟩ rfl hlen2 hl.2.1 hrev2 (lv_room hw) hdk hroom
    · have hne : ¬ ez_kd k' = 0 := by omega
      rw [if_neg hne] at w8
      obtain ⟨b, as2, rfl⟩ := hri rfl
      have hlen2 : as2.length = ez_na k' - 1 := by rw [← hlen]; rfl
      have hrev2 : st = as2.reverse ++ .ref b :: rest := by rw [← hrev, List.reverse_cons, List.append_assoc]; rfl
      obtain ⟨w5a, w5b⟩ := w5 hkd
      have hG2 : ez_wsK k' = Cond.code (ez_y k') (ez_code k') (ez_ml k') none :: ez_GW := by unfold ez_wsK; rw [w5b]
      by_cases hx1 : x = 1
      · rw [if_pos hx1] at hch
        have hnest : va_Nw (.methodLinkNest (ez_cn (ez_ow k)) i (ez_y k') "StaplePort") s := by
          rcases ez_nestS hch with ⟨h6, rfl, rfl⟩ | ⟨h6, rfl, rfl⟩ | ⟨h6, rfl, rfl⟩
          · rw [h6]; exact hKS.2.2.2.2.2.2.2.1
          · rw [ez_kd68] at hkd; cases hkd
          · rw [ez_kd68] at hkd; cases hkd
        exact va_runIN (As := as2) (rest := rest) ⟨hx, hb, hml, hown, hts⟩ hM ⟨va_cnB (ez_na k' - 1) hts hG hG2 rfl rfl hnest (hts _ w1) w8 hRm, w5a, hts _ (w3 hne)⟩ (ez_pre hbs hKS hR hS) rfl hlen2 hl.2.1 hrev2 (lv_room hw) hdk hroom
      · rw [if_neg hx1, Bool.and_eq_true] at hch
        exact va_runI (As := as2) (rest := rest) ⟨hx, hb, hml, hown, hts⟩ hM ⟨callB_of (ez_na k' - 1) hts hG hG2 rfl rfl (hts _ w1) (hts _ (ez_is_in hch.2)) w8 hRm, w5a, hts _ (w3 hne)⟩ (ez_pre hbs hKS hR hS) rfl hlen2 hl.2.1 hrev2 (lv_room hw) hdk hroom
  have fin : va_Run p l e R s m args below meth c H locs cells slots mc ms (F0 m pc lsA st) rest (ez_Qc D dA bs ro r h' as.toArray) (ez_A bs) := by
    cases I
    case invokestatic i =>
      simp only [ez_st] at hst
      obtain ⟨rfl, hs1⟩ := ez_if hst
      clear hst
      cases hf : ez_mk k i with
      | none => rw [hf] at hs1; cases hs1
      | some y =>
        obtain ⟨k2, x, pp⟩ := y
        rw [hf] at hs1
        dsimp only at hs1
        by_cases n1 : k2 = 9001
        · rw [if_pos n1] at hs1
          unfold ez_cp at hs1
          split at hs1
          · split at hs1
            · have hs2 := (ez_if hs1).2
              cases hs2
            · cases hs1
          · cases hs1
        · rw [if_neg n1] at hs1
          by_cases n2 : k2 = 9002
          · rw [if_pos n2] at hs1
            obtain ⟨x1, y1, r1, -, hs2⟩ := ez_ii_inv hs1
            have hs3 := (ez_if hs2).2
            cases hs3
          · rw [if_neg n2] at hs1
            by_cases n3 : k2 = 9003
            · rw [if_pos n3] at hs1
              obtain ⟨x1, y1, r1, -, hs2⟩ := ez_ii_inv hs1
              have hs3 := (ez_if hs2).2
              cases hs3
            · rw [if_neg n3] at hs1
              obtain ⟨rfl, hq, -⟩ := ez_call_inv hs1
              exact main hf hs1 (by omega) n1 n2 n3 (Or.inl ⟨rfl, hd⟩)
    case invokevirtual i =>
      simp only [ez_st] at hst
      obtain ⟨rfl, hs1⟩ := ez_if hst
      clear hst
      cases hf : ez_mk k i with
      | none => rw [hf] at hs1; cases hs1
      | some y =>
        obtain ⟨k2, x, pp⟩ := y
        rw [hf] at hs1
        dsimp only at hs1
        obtain ⟨rfl, hq, -⟩ := ez_call_inv hs1
        exact main hf hs1 (by omega) (by omega) (by omega) (by omega) (Or.inr (Or.inl ⟨rfl, hd⟩))
    case invokespecial i =>
      simp only [ez_st] at hst
      obtain ⟨rfl, hs1⟩ := ez_if hst
      clear hst
      cases hf : ez_mk k i with
      | none => rw [hf] at hs1; cases hs1
      | some y =>
        obtain ⟨k2, x, pp⟩ := y
        rw [hf] at hs1
        dsimp only at hs1
        by_cases n0 : k2 = 9000
        · rw [if_pos n0] at hs1
          split at hs1
          · have hs2 := (ez_if hs1).2
            cases hs2
          · cases hs1
        · rw [if_neg n0] at hs1
          obtain ⟨rfl, hq, -⟩ := ez_call_inv hs1
          exact main hf hs1 n0 (by omega) (by omega) (by omega) (Or.inr (Or.inr ⟨rfl, hd⟩))
    all_goals (exfalso; simp only [ez_st, ez_ii, ez_i1, ez_ll, ez_l1, ez_r1, ez_ri, ez_jmp, ez_ir, ez_ar, ez_go, ez_rt, ez_lp, ez_lp2, reduceCtorEq] at hst; repeat' (split at hst))
    all_goals first
      | (cases hst; done)
  exact ez_on fin hS hl (by omega) (by omega) kk
end ZM
