theorem ez_ac0 : Cond.arrayClass (newarray.typeOf .int) ∈ ez_GW := ez_is_in (p := 107) (by decide +kernel)
theorem ez_ac1 : Cond.arrayClass (newarray.typeOf .byte) ∈ ez_GW := ez_is_in (p := 108) (by decide +kernel)
theorem ez_ac2 : Cond.arrayClass (newarray.typeOf .boolean) ∈ ez_GW := ez_is_in (p := 1004) (by decide +kernel)
theorem ez_ac3 : Cond.arrayClass (newarray.typeOf .long) ∈ ez_GW := ez_is_in (p := 795) (by decide +kernel)
theorem ez_tysAt {dA : Nat → ClassId} {t : Nat} {ty : FieldType} (ht : t < 5) (hty : ez_ft0[t]? = some ty) : (ez_tys dA)[t]? = some (dA t, ty) := by
  match t, ht, hty with
  | 0, _, h => cases h; rfl
  | 1, _, h => cases h; rfl
  | 2, _, h => cases h; rfl
  | 3, _, h => cases h; rfl
  | 4, _, h => cases h; rfl
theorem ez_isA_inv {c : Option ez_E} {t : Nat} {i : Int32} (h : ez_isA c t i = true) : ∃ t' n f, c = some (.inl (t', n, .inl f)) ∧ (t' = t ∨ t' = t + 10) ∧ vp_in i n := by
  unfold ez_isA at h
  split at h
  · next t' n f =>
    rw [Bool.and_eq_true, Bool.or_eq_true, Bool.and_eq_true, beq_iff_eq, beq_iff_eq, decide_eq_true_eq, decide_eq_true_eq] at h
    exact ⟨t', n, f, rfl, h.1, ez_vpi h.2.1 h.2.2⟩
  · cases h
theorem ez_isW_inv {c : Option ez_E} {t : Nat} {i : Int32} (h : ez_isW c t i = true) : ∃ n f, c = some (.inl (t, n, .inl f)) ∧ vp_in i n := by
  unfold ez_isW at h
  split at h
  · next t' n f =>
    rw [Bool.and_eq_true, Bool.and_eq_true, beq_iff_eq, decide_eq_true_eq, decide_eq_true_eq] at h
    exact ⟨n, f, by rw [h.1], ez_vpi h.2.1 h.2.2⟩
  · cases h
theorem ez_isL_inv {c : Option ez_E} {i : Int32} (h : ez_isL c i = true) : ∃ n f, c = some (.inl (3, n, .inr (.inl f))) ∧ vp_in i n := by
  unfold ez_isL at h
  split at h
  · next t' n f =>
    rw [Bool.and_eq_true, Bool.and_eq_true, beq_iff_eq, decide_eq_true_eq, decide_eq_true_eq] at h
    exact ⟨n, f, by rw [h.1], ez_vpi h.2.1 h.2.2⟩
  · cases h
theorem ez_isQ_inv {c : Option ez_E} {i : Int32} (h : ez_isQ c i = true) : ∃ n f, c = some (.inl (4, n, .inr (.inr (.inr (.inr f))))) ∧ vp_in i n := by
  unfold ez_isQ at h
  split at h
  · next t' n f =>
    rw [Bool.and_eq_true, Bool.and_eq_true, beq_iff_eq, decide_eq_true_eq, decide_eq_true_eq] at h
    exact ⟨n, f, by rw [h.1], ez_vpi h.2.1 h.2.2⟩
  · cases h
theorem ez_isN_inv {c : Option ez_E} (h : ez_isN c = true) : ∃ t n x, c = some (.inl (t, n, x)) ∧ (t < 5 ∨ t = 10 ∨ t = 11 ∨ t = 14) := by
  unfold ez_isN at h
  split at h
  · next t n x =>
    simp only [Bool.or_eq_true, beq_iff_eq, decide_eq_true_eq] at h
    refine ⟨t, n, x, rfl, ?_⟩
    rcases h with ((h | h) | h) | h
    · exact Or.inl h
    · exact Or.inr (Or.inl h)
    · exact Or.inr (Or.inr (Or.inl h))
    · exact Or.inr (Or.inr (Or.inr h))
  · cases h
section ZB
variable {D : va_G} {dA : Nat → ClassId} {bs mi : Nat} {ro : Nat → Option ez_E} {g : ez_G}
variable {p : Program} {l : Launch} {e : Env} {R : Room} {s : State} {m : MethodId} {args : Array Value} {below : List Frame} {meth : Method} {c : Code} {Q : State → Prop} {c0 s0 : Nat}
variable {k pc n pc2 : Nat} {ls ls2 : ez_L} {st st2 : List Value} {h h2 : ez_H}
theorem so_iaload (C : ez_Cx D dA bs mi ro g k p R s m args meth c) (hd : decode (ez_code k) pc = .ok (.iaload, n)) (hst : ez_st g k (.iaload) n pc ls st h = some (.inl (pc2, ls2, st2, h2))) (kk : ez_WS D dA bs ro p l e R s m args below meth c Q c0 s0 k pc2 ls2 st2 h2) : ez_WS D dA bs ro p l e R s m args below meth c Q c0 s0 k pc ls st h := by
  intro lsA H locs cells slots e1 e2 hl hR hS
  obtain ⟨hx, hb, hr, hml, hown, hts, hlk, hin, hdp, hbs, hk160, hKS⟩ := C
  simp only [ez_st] at hst
  obtain ⟨rfl, hs1⟩ := ez_if hst
  clear hst
  obtain ⟨a, i, r, rfl, hs2⟩ := ez_ri_inv hs1
  clear hs1
  obtain ⟨hF, hs3⟩ := ez_if hs2
  obtain ⟨rfl, rfl, rfl, rfl⟩ := ez_goi hs3
  obtain ⟨t, m0, f, he, ht, hv⟩ := ez_isA_inv hF
  have kk2 := kk lsA H locs cells slots e1 e2 hl hR hS
  rw [show ez_vA (h2.1 a) i = f i.toNatClampNeg by rw [he]; rfl] at kk2
  rcases ht with rfl | rfl
  · obtain ⟨-, hat⟩ := hR.get hKS he (show 0 < 5 by decide)
    exact va_iald hx hb hKS.1 (ez_P1 hat) 0 0 rfl rfl hv hd kk2
  · obtain ⟨-, hro⟩ := hR.rd he (fun z => absurd (show 10 < 5 from z) (by decide))
    exact va_ti hx hb (hKS.2.2.2.2.1 a _ hro) hS hv rfl hd kk2
theorem so_baload (C : ez_Cx D dA bs mi ro g k p R s m args meth c) (hd : decode (ez_code k) pc = .ok (.baload, n)) (hst : ez_st g k (.baload) n pc ls st h = some (.inl (pc2, ls2, st2, h2))) (kk : ez_WS D dA bs ro p l e R s m args below meth c Q c0 s0 k pc2 ls2 st2 h2) : ez_WS D dA bs ro p l e R s m args below meth c Q c0 s0 k pc ls st h := by
  intro lsA H locs cells slots e1 e2 hl hR hS
  obtain ⟨hx, hb, hr, hml, hown, hts, hlk, hin, hdp, hbs, hk160, hKS⟩ := C
  simp only [ez_st] at hst
  obtain ⟨rfl, hs1⟩ := ez_if hst
  clear hst
  obtain ⟨a, i, r, rfl, hs2⟩ := ez_ri_inv hs1
  clear hs1
  obtain ⟨hF, hs3⟩ := ez_if hs2
  obtain ⟨rfl, rfl, rfl, rfl⟩ := ez_goi hs3
  rw [Bool.or_eq_true] at hF
  rcases hF with hF | hF
  · obtain ⟨t, m0, f, he, ht, hv⟩ := ez_isA_inv hF
    have kk2 := kk lsA H locs cells slots e1 e2 hl hR hS
    rw [show ez_vA (h2.1 a) i = f i.toNatClampNeg by rw [he]; rfl] at kk2
    rcases ht with rfl | rfl
    · obtain ⟨-, hat⟩ := hR.get hKS he (show 1 < 5 by decide)
      exact va_bald hx hb hKS.1 (ez_P1 hat) 0 1 rfl rfl hv hd kk2
    · obtain ⟨-, hro⟩ := hR.rd he (fun z => absurd (show 11 < 5 from z) (by decide))
      exact va_tb hx hb (hKS.2.2.2.2.1 a _ hro) hS hv rfl hd kk2
  · obtain ⟨t, m0, f, he, ht, hv⟩ := ez_isA_inv hF
    have kk2 := kk lsA H locs cells slots e1 e2 hl hR hS
    rw [show ez_vA (h2.1 a) i = f i.toNatClampNeg by rw [he]; rfl] at kk2
    rcases ht with rfl | rfl
    · obtain ⟨-, hat⟩ := hR.get hKS he (show 2 < 5 by decide)
      exact va_zald hx hb hKS.1 (ez_P1 hat) 0 2 rfl rfl hv hd kk2
    · obtain ⟨-, hro⟩ := hR.rd he (fun z => absurd (show 12 < 5 from z) (by decide))
      exact (hKS.2.2.2.2.1 a _ hro).elim
theorem so_laload (C : ez_Cx D dA bs mi ro g k p R s m args meth c) (hd : decode (ez_code k) pc = .ok (.laload, n)) (hst : ez_st g k (.laload) n pc ls st h = some (.inl (pc2, ls2, st2, h2))) (kk : ez_WS D dA bs ro p l e R s m args below meth c Q c0 s0 k pc2 ls2 st2 h2) : ez_WS D dA bs ro p l e R s m args below meth c Q c0 s0 k pc ls st h := by
  intro lsA H locs cells slots e1 e2 hl hR hS
  obtain ⟨hx, hb, hr, hml, hown, hts, hlk, hin, hdp, hbs, hk160, hKS⟩ := C
  simp only [ez_st] at hst
  obtain ⟨rfl, hs1⟩ := ez_if hst
  clear hst
  obtain ⟨a, i, r, rfl, hs2⟩ := ez_ri_inv hs1
  clear hs1
  obtain ⟨hF, hs3⟩ := ez_if hs2
  obtain ⟨rfl, rfl, rfl, rfl⟩ := ez_goi hs3
  obtain ⟨m0, f, he, hv⟩ := ez_isL_inv hF
  have kk2 := kk lsA H locs cells slots e1 e2 hl hR hS
  rw [show ez_vL (h2.1 a) i = f i.toNatClampNeg by rw [he]; rfl] at kk2
  obtain ⟨-, hat⟩ := hR.get hKS he (show 3 < 5 by decide)
  exact va_lald hx hb hKS.1 (ez_P1 hat) 0 3 rfl rfl hv hd kk2
theorem so_aaload (C : ez_Cx D dA bs mi ro g k p R s m args meth c) (hd : decode (ez_code k) pc = .ok (.aaload, n)) (hst : ez_st g k (.aaload) n pc ls st h = some (.inl (pc2, ls2, st2, h2))) (kk : ez_WS D dA bs ro p l e R s m args below meth c Q c0 s0 k pc2 ls2 st2 h2) : ez_WS D dA bs ro p l e R s m args below meth c Q c0 s0 k pc ls st h := by
  intro lsA H locs cells slots e1 e2 hl hR hS
  obtain ⟨hx, hb, hr, hml, hown, hts, hlk, hin, hdp, hbs, hk160, hKS⟩ := C
  simp only [ez_st] at hst
  obtain ⟨rfl, hs1⟩ := ez_if hst
  clear hst
  obtain ⟨a, i, r, rfl, hs2⟩ := ez_ri_inv hs1
  clear hs1
  obtain ⟨hF, hs3⟩ := ez_if hs2
  obtain ⟨rfl, rfl, rfl, rfl⟩ := ez_goi hs3
  obtain ⟨m0, f, he, hv⟩ := ez_isQ_inv hF
  have kk2 := kk lsA H locs cells slots e1 e2 hl hR hS
  rw [show ez_vQ (h2.1 a) i = f i.toNatClampNeg by rw [he]; rfl] at kk2
  obtain ⟨-, hat⟩ := hR.get hKS he (show 4 < 5 by decide)
  exact va_aldq hx hb hKS.1 (ez_P1 hat) 0 4 rfl rfl hv hd kk2
theorem so_arraylength (C : ez_Cx D dA bs mi ro g k p R s m args meth c) (hd : decode (ez_code k) pc = .ok (.arraylength, n)) (hst : ez_st g k (.arraylength) n pc ls st h = some (.inl (pc2, ls2, st2, h2))) (kk : ez_WS D dA bs ro p l e R s m args below meth c Q c0 s0 k pc2 ls2 st2 h2) : ez_WS D dA bs ro p l e R s m args below meth c Q c0 s0 k pc ls st h := by
  intro lsA H locs cells slots e1 e2 hl hR hS
  obtain ⟨hx, hb, hr, hml, hown, hts, hlk, hin, hdp, hbs, hk160, hKS⟩ := C
  simp only [ez_st] at hst
  obtain ⟨rfl, hs1⟩ := ez_if hst
  clear hst
  obtain ⟨a, r, rfl, hs2⟩ := ez_r1_inv hs1
  clear hs1
  obtain ⟨hF, hs3⟩ := ez_if hs2
  obtain ⟨rfl, rfl, rfl, rfl⟩ := ez_goi hs3
  obtain ⟨t, m0, x, he, ht⟩ := ez_isN_inv hF
  have kk2 := kk lsA H locs cells slots e1 e2 hl hR hS
  rw [show ez_vN (h2.1 a) = m0 by rw [he]; rfl] at kk2
  rcases ht with ht | rfl | rfl | rfl
  · obtain ⟨-, hat⟩ := hR.get hKS he ht
    obtain ⟨ty, hty, -⟩ := ez_tyAt hKS.1 ht
    exact va_alen hx hb hKS.1 (ez_P1 hat) 0 t rfl (ez_tysAt ht hty) rfl hd kk2
  · obtain ⟨-, hro⟩ := hR.rd he (fun z => absurd (show 10 < 5 from z) (by decide))
    have hz := hKS.2.2.2.2.1 a _ hro
    match x, hz with
    | .inl f, hz => exact va_tlen hx hb hz hS rfl hd kk2
    | .inr _, hz => exact hz.elim
  · obtain ⟨-, hro⟩ := hR.rd he (fun z => absurd (show 11 < 5 from z) (by decide))
    have hz := hKS.2.2.2.2.1 a _ hro
    match x, hz with
    | .inl f, hz => exact va_tlen hx hb hz hS rfl hd kk2
    | .inr _, hz => exact hz.elim
  · obtain ⟨-, hro⟩ := hR.rd he (fun z => absurd (show 14 < 5 from z) (by decide))
    have hz := hKS.2.2.2.2.1 a _ hro
    match x, hz with
    | .inr (.inr (.inr (.inr f))), hz => exact va_tlen hx hb hz hS rfl hd kk2
    | .inl _, hz => exact hz.elim
    | .inr (.inl _), hz => exact hz.elim
    | .inr (.inr (.inl _)), hz => exact hz.elim
    | .inr (.inr (.inr (.inl _))), hz => exact hz.elim
theorem so_iastore (C : ez_Cx D dA bs mi ro g k p R s m args meth c) (hd : decode (ez_code k) pc = .ok (.iastore, n)) (hst : ez_st g k (.iastore) n pc ls st h = some (.inl (pc2, ls2, st2, h2))) (kk : ez_WS D dA bs ro p l e R s m args below meth c Q c0 s0 k pc2 ls2 st2 h2) : ez_WS D dA bs ro p l e R s m args below meth c Q c0 s0 k pc ls st h := by
  intro lsA H locs cells slots e1 e2 hl hR hS
  obtain ⟨hx, hb, hr, hml, hown, hts, hlk, hin, hdp, hbs, hk160, hKS⟩ := C
  simp only [ez_st] at hst
  obtain ⟨rfl, hs1⟩ := ez_if hst
  clear hst
  split at hs1
  · next x i a r =>
    obtain ⟨hF, hs3⟩ := ez_if hs1
    obtain ⟨rfl, rfl, rfl, rfl⟩ := ez_goi hs3
    obtain ⟨m0, f, he, hv⟩ := ez_isW_inv hF
    obtain ⟨hba, hat⟩ := hR.get hKS he (show 0 < 5 by decide)
    have hcell : H[a]? = some (vp_cell (dA 0) (m0, .inl f)) := hat
    refine W.iast hx hb hcell ((hKS.1.2 0 _ rfl).1 m0 (fun j => .int (f j))) (fun q => by cases q) (by show ¬ (i < 0 ∨ (arrV _ _ _).slots.size ≤ _); rw [arrV_size]; exact hv) rfl rfl hd fun H1 q1 z oq => ?_
    refine kk lsA H1 (locs ++ [⟨a, i.toNatClampNeg⟩]) cells slots e1 e2 hl ?_ (hS.put z oq hba)
    rw [show ez_uA (h.1 a) i x = .inl (0, m0, .inl (upd f i.toNatClampNeg x)) by rw [he]; rfl]
    refine hR.set hba (show 0 < 5 by decide) ?_ z oq
    show H1[a]? = some (vp_cell _ _)
    rw [q1]
    rw [vp_cell_i, vp_cell_i, arrV_store]
    congr 2
    funext q
    by_cases hq : q = i.toNatClampNeg
    · subst hq
      simp [updV, upd, vp_updL, va_up, va_rf, vp_nar]
      try rfl
    · simp [updV, upd, vp_updL, va_up, hq]
  · cases hs1
theorem so_bastore (C : ez_Cx D dA bs mi ro g k p R s m args meth c) (hd : decode (ez_code k) pc = .ok (.bastore, n)) (hst : ez_st g k (.bastore) n pc ls st h = some (.inl (pc2, ls2, st2, h2))) (kk : ez_WS D dA bs ro p l e R s m args below meth c Q c0 s0 k pc2 ls2 st2 h2) : ez_WS D dA bs ro p l e R s m args below meth c Q c0 s0 k pc ls st h := by
  intro lsA H locs cells slots e1 e2 hl hR hS
  obtain ⟨hx, hb, hr, hml, hown, hts, hlk, hin, hdp, hbs, hk160, hKS⟩ := C
  simp only [ez_st] at hst
  obtain ⟨rfl, hs1⟩ := ez_if hst
  clear hst
  split at hs1
  · next x i a r =>
    by_cases hF : ez_isW (h.1 a) 1 i = true
    · rw [if_pos hF] at hs1
      obtain ⟨rfl, rfl, rfl, rfl⟩ := ez_goi hs1
      obtain ⟨m0, f, he, hv⟩ := ez_isW_inv hF
      obtain ⟨hba, hat⟩ := hR.get hKS he (show 1 < 5 by decide)
      have hcell : H[a]? = some (vp_cell (dA 1) (m0, .inl f)) := hat
      refine W.bast hx hb hcell ((hKS.1.2 1 _ rfl).1 m0 (fun j => .int (f j))) (fun q => by cases q) (by show ¬ (i < 0 ∨ (arrV _ _ _).slots.size ≤ _); rw [arrV_size]; exact hv) rfl rfl hd fun H1 q1 z oq => ?_
      refine kk lsA H1 (locs ++ [⟨a, i.toNatClampNeg⟩]) cells slots e1 e2 hl ?_ (hS.put z oq hba)
      rw [show ez_uA (h.1 a) i x.toInt8.toInt32 = .inl (1, m0, .inl (upd f i.toNatClampNeg x.toInt8.toInt32)) by rw [he]; rfl]
      refine hR.set hba (show 1 < 5 by decide) ?_ z oq
      show H1[a]? = some (vp_cell _ _)
      rw [q1]
      rw [vp_cell_i, vp_cell_i, arrV_store]
      congr 2
      funext q
      by_cases hq : q = i.toNatClampNeg
      · subst hq
        simp [updV, upd, vp_updL, va_up, va_rf, vp_nar]
        try rfl
      · simp [updV, upd, vp_updL, va_up, hq]
    · rw [if_neg hF] at hs1
      clear hF
      obtain ⟨hF, hs3⟩ := ez_if hs1
      obtain ⟨rfl, rfl, rfl, rfl⟩ := ez_goi hs3
      obtain ⟨m0, f, he, hv⟩ := ez_isW_inv hF
      obtain ⟨hba, hat⟩ := hR.get hKS he (show 2 < 5 by decide)
      have hcell : H[a]? = some (vp_cell (dA 2) (m0, .inl f)) := hat
      refine W.zast hx hb hcell ((hKS.1.2 2 _ rfl).1 m0 (fun j => .int (f j))) (fun q => by cases q) (by show ¬ (i < 0 ∨ (arrV _ _ _).slots.size ≤ _); rw [arrV_size]; exact hv) rfl rfl hd fun H1 q1 z oq => ?_
      refine kk lsA H1 (locs ++ [⟨a, i.toNatClampNeg⟩]) cells slots e1 e2 hl ?_ (hS.put z oq hba)
      rw [show ez_uA (h.1 a) i (vp_nar .boolean x) = .inl (2, m0, .inl (upd f i.toNatClampNeg (vp_nar .boolean x))) by rw [he]; rfl]
      refine hR.set hba (show 2 < 5 by decide) ?_ z oq
      show H1[a]? = some (vp_cell _ _)
      rw [q1]
      rw [vp_cell_i, vp_cell_i, arrV_store]
      congr 2
      funext q
      by_cases hq : q = i.toNatClampNeg
      · subst hq
        simp [updV, upd, vp_updL, va_up, va_rf, vp_nar]
        try rfl
      · simp [updV, upd, vp_updL, va_up, hq]
  · cases hs1
theorem so_lastore (C : ez_Cx D dA bs mi ro g k p R s m args meth c) (hd : decode (ez_code k) pc = .ok (.lastore, n)) (hst : ez_st g k (.lastore) n pc ls st h = some (.inl (pc2, ls2, st2, h2))) (kk : ez_WS D dA bs ro p l e R s m args below meth c Q c0 s0 k pc2 ls2 st2 h2) : ez_WS D dA bs ro p l e R s m args below meth c Q c0 s0 k pc ls st h := by
  intro lsA H locs cells slots e1 e2 hl hR hS
  obtain ⟨hx, hb, hr, hml, hown, hts, hlk, hin, hdp, hbs, hk160, hKS⟩ := C
  simp only [ez_st] at hst
  obtain ⟨rfl, hs1⟩ := ez_if hst
  clear hst
  split at hs1
  · next x i a r =>
    obtain ⟨hF, hs3⟩ := ez_if hs1
    obtain ⟨rfl, rfl, rfl, rfl⟩ := ez_goi hs3
    obtain ⟨m0, f, he, hv⟩ := ez_isL_inv hF
    obtain ⟨hba, hat⟩ := hR.get hKS he (show 3 < 5 by decide)
    have hcell : H[a]? = some (vp_cell (dA 3) (m0, .inr (.inl f))) := hat
    refine W.last hx hb hcell ((hKS.1.2 3 _ rfl).1 m0 (fun j => .long (f j))) (fun q => by cases q) (by show ¬ (i < 0 ∨ (arrV _ _ _).slots.size ≤ _); rw [arrV_size]; exact hv) rfl rfl hd fun H1 q1 z oq => ?_
    refine kk lsA H1 (locs ++ [⟨a, i.toNatClampNeg⟩]) cells slots e1 e2 hl ?_ (hS.put z oq hba)
    rw [show ez_uL (h.1 a) i x = .inl (3, m0, .inr (.inl (vp_updL f i.toNatClampNeg x))) by rw [he]; rfl]
    refine hR.set hba (show 3 < 5 by decide) ?_ z oq
    show H1[a]? = some (vp_cell _ _)
    rw [q1]
    rw [vp_cell_l, vp_cell_l, arrV_store]
    congr 2
    funext q
    by_cases hq : q = i.toNatClampNeg
    · subst hq
      simp [updV, upd, vp_updL, va_up, va_rf, vp_nar]
      try rfl
    · simp [updV, upd, vp_updL, va_up, hq]
  · cases hs1
theorem so_aastore (C : ez_Cx D dA bs mi ro g k p R s m args meth c) (hd : decode (ez_code k) pc = .ok (.aastore, n)) (hst : ez_st g k (.aastore) n pc ls st h = some (.inl (pc2, ls2, st2, h2))) (kk : ez_WS D dA bs ro p l e R s m args below meth c Q c0 s0 k pc2 ls2 st2 h2) : ez_WS D dA bs ro p l e R s m args below meth c Q c0 s0 k pc ls st h := by
  intro lsA H locs cells slots e1 e2 hl hR hS
  obtain ⟨hx, hb, hr, hml, hown, hts, hlk, hin, hdp, hbs, hk160, hKS⟩ := C
  simp only [ez_st] at hst
  obtain ⟨rfl, hs1⟩ := ez_if hst
  clear hst
  split at hs1
  · next x i a r =>
    obtain ⟨⟨hF, hany⟩, hs3⟩ := ez_if hs1
    obtain ⟨rfl, rfl, rfl, rfl⟩ := ez_goi hs3
    obtain ⟨m0, f, he, hv⟩ := ez_isQ_inv hF
    obtain ⟨hba, hat⟩ := hR.get hKS he (show 4 < 5 by decide)
    have hcell : H[a]? = some (vp_cell (dA 4) (m0, .inr (.inr (.inr (.inr f))))) := hat
    have hlt : i.toNatClampNeg < m0 := Nat.not_le.mp fun q => hv (Or.inr q)
    have h0 : ¬ i < 0 := fun q => hv (Or.inl q)
    obtain ⟨cellV, g1, g3, ⟨kC, hkC⟩, hasg⟩ := ez_anyOf hKS hR hany
    obtain ⟨kA, comp, k1, k2, k3, -⟩ := (hKS.1.2 4 _ rfl).2
    obtain ⟨kE, hkE, -⟩ := Vm.findClass_spec k3
    refine W.aast hx hb hcell (fun q h => by cases h) (fun h => by cases h) k1 k2 rfl hkE ⟨h0, by show _ < (arrV _ _ _).slots.size; rw [arrV_size]; exact hlt⟩ g1 (fun q h => by rw [h] at g3; cases g3) hkC (hasg _ k3) rfl rfl hd fun H1 q1 z oq => ?_
    refine kk lsA H1 (locs ++ [⟨a, i.toNatClampNeg⟩]) cells slots e1 e2 hl ?_ (hS.put z oq hba)
    rw [show ez_uQ (h.1 a) i x = .inl (4, m0, .inr (.inr (.inr (.inr (va_up f i.toNatClampNeg (some x)))))) by rw [he]; rfl]
    refine hR.set hba (show 4 < 5 by decide) ?_ z oq
    show H1[a]? = some (vp_cell _ _)
    rw [q1]
    rw [vp_cell_q, vp_cell_q, arrV_store]
    congr 2
    funext q
    by_cases hq : q = i.toNatClampNeg
    · subst hq
      simp [updV, upd, vp_updL, va_up, va_rf, vp_nar]
      try rfl
    · simp [updV, upd, vp_updL, va_up, hq]
  · cases hs1
theorem so_checkcast {i : Nat} (C : ez_Cx D dA bs mi ro g k p R s m args meth c) (hd : decode (ez_code k) pc = .ok (.checkcast i, n)) (hst : ez_st g k (.checkcast i) n pc ls st h = some (.inl (pc2, ls2, st2, h2))) (kk : ez_WS D dA bs ro p l e R s m args below meth c Q c0 s0 k pc2 ls2 st2 h2) : ez_WS D dA bs ro p l e R s m args below meth c Q c0 s0 k pc ls st h := by
  intro lsA H locs cells slots e1 e2 hl hR hS
  obtain ⟨hx, hb, hr, hml, hown, hts, hlk, hin, hdp, hbs, hk160, hKS⟩ := C
  simp only [ez_st] at hst
  obtain ⟨rfl, hs1⟩ := ez_if hst
  clear hst
  obtain ⟨a, r, rfl, hs2⟩ := ez_r1_inv hs1
  clear hs1
  cases hf : ez_ck k i with
  | none => rw [hf] at hs2; cases hs2
  | some y =>
    obtain ⟨ci, pp⟩ := y
    rw [hf] at hs2
    dsimp only at hs2
    obtain ⟨⟨hF, hlt⟩, hs3⟩ := ez_if hs2
    obtain ⟨rfl, rfl, rfl, rfl⟩ := ez_goi hs3
    obtain ⟨fs, he⟩ := ez_isO_inv hF
    obtain ⟨-, hat⟩ := hR.get hKS he hlt
    have h1 := ez_tabOk ez_chC_ok hk160 hf
    unfold ez_chC at h1
    dsimp only at h1
    rw [if_neg (by omega), Bool.and_eq_true] at h1
    exact va_castE hx hb hown (hts _ (ez_is_in h1.2)) (ez_cell hKS.1 hat) hd (kk lsA H locs cells slots e1 e2 hl hR hS)
theorem so_new {i : Nat} (C : ez_Cx D dA bs mi ro g k p R s m args meth c) (hd : decode (ez_code k) pc = .ok (.new i, n)) (hst : ez_st g k (.new i) n pc ls st h = some (.inl (pc2, ls2, st2, h2))) (hrm : h2.2.1 ≤ R.cells + c0 ∧ h2.2.2 ≤ R.slots + s0) (kk : ez_WS D dA bs ro p l e R s m args below meth c Q c0 s0 k pc2 ls2 st2 h2) : ez_WS D dA bs ro p l e R s m args below meth c Q c0 s0 k pc ls st h := by
  intro lsA H locs cells slots e1 e2 hl hR hS
  obtain ⟨hx, hb, hr, hml, hown, hts, hlk, hin, hdp, hbs, hk160, hKS⟩ := C
  simp only [ez_st] at hst
  obtain ⟨rfl, hs1⟩ := ez_if hst
  clear hst
  cases hf : ez_ck k i with
  | none => rw [hf] at hs1; cases hs1
  | some y =>
    obtain ⟨ci, pp⟩ := y
    rw [hf] at hs1
    dsimp only at hs1
    obtain ⟨hlt, hs3⟩ := ez_if hs1
    obtain ⟨rfl, rfl, rfl, rfl⟩ := ez_goi hs3
    obtain ⟨Cn, T, N, hc⟩ := ez_clLt hlt
    have h1 := ez_tabOk ez_chC_ok hk160 hf
    unfold ez_chC at h1
    dsimp only at h1
    rw [if_neg (by omega), Bool.and_eq_true, ez_cnOf hc] at h1
    obtain ⟨hwin, hty, hnm, hins, hini, hlen, hdef⟩ := ez_clsOf hc
    have hKn := hKS.1.1 ci _ hc
    have r1 : h.2.1 + 1 ≤ R.cells + c0 := hrm.1
    have r2 : h.2.2 + (ez_df.getD ci []).length ≤ R.slots + s0 := hrm.2
    rw [hlen] at r2
    have hbs2 : bs ≤ H.size := Nat.le_trans hbs hS.1
    refine W.newcK hx hb hown (hts _ (ez_is_in h1.2)) (hts _ hins) (hts _ hini) rfl hd (by omega) (by omega) hKn.2.1 hR.1 fun H1 kC hkC q1 z1 o1 => ?_
    have z2 : H1.size = H.size + 1 := by rw [z1, hR.1]
    have o1 : ∀ q : Nat, q < H.size → H1[q]? = H[q]? := fun q hq => o1 q (by rw [← hR.1]; exact hq)
    have hS2 : va_S (ez_A bs) s.heap H1 locs := ⟨Nat.le_trans hS.1 (by omega), fun x h1 h2 => (o1 x (Nat.lt_of_lt_of_le h1 hS.1)).trans (hS.2.1 x h1 h2), hS.2.2⟩
    refine kk lsA H1 locs (cells + 1) (slots + N) (by show cells + 1 + c0 = h.2.1 + 1; omega) (by show slots + N + s0 = h.2.2 + _; rw [hlen]; omega) hl (hR.new hbs2 hlt ?_ z2 o1) hS2
    rw [← hR.1] at q1
    exact ⟨_, hc, (u_born _ hts hwin hKn hkC q1 hty).to hdef⟩
theorem so_newarray {t : ArrayType} (C : ez_Cx D dA bs mi ro g k p R s m args meth c) (hd : decode (ez_code k) pc = .ok (.newarray t, n)) (hst : ez_st g k (.newarray t) n pc ls st h = some (.inl (pc2, ls2, st2, h2))) (hrm : h2.2.1 ≤ R.cells + c0 ∧ h2.2.2 ≤ R.slots + s0) (kk : ez_WS D dA bs ro p l e R s m args below meth c Q c0 s0 k pc2 ls2 st2 h2) : ez_WS D dA bs ro p l e R s m args below meth c Q c0 s0 k pc ls st h := by
  intro lsA H locs cells slots e1 e2 hl hR hS
  obtain ⟨hx, hb, hr, hml, hown, hts, hlk, hin, hdp, hbs, hk160, hKS⟩ := C
  simp only [ez_st] at hst
  obtain ⟨rfl, hs1⟩ := ez_if hst
  clear hst
  obtain ⟨x, r, rfl, hs2⟩ := ez_i1_inv hs1
  clear hs1
  obtain ⟨hg, hs3⟩ := ez_ifn hs2
  have hbs2 : bs ≤ H.size := Nat.le_trans hbs hS.1
  split at hs3
  · obtain ⟨rfl, rfl, rfl, rfl⟩ := ez_goi hs3
    have r1 : h.2.1 + 1 ≤ R.cells + c0 := hrm.1
    have r2 : h.2.2 + x.toNatClampNeg ≤ R.slots + s0 := hrm.2
    refine va_newaK (atype := .int) hx hb (hts _ ez_ac0) rfl hd rfl (fun q => hg (Or.inl q)) rfl (by have hq : ¬ 1000000 < x.toNatClampNeg := fun q => hg (Or.inr q); have hz : componentBytes (newarray.typeOf .int) ≤ 8 := (by decide); have := Nat.mul_le_mul_left x.toNatClampNeg hz; omega) (by omega) (by omega) hR.1 fun H1 cA q1 z1 o1 hAr hNm => ?_
    have z2 : H1.size = H.size + 1 := by rw [z1, hR.1]
    have o1 : ∀ q : Nat, q < H.size → H1[q]? = H[q]? := fun q hq => o1 q (by rw [← hR.1]; exact hq)
    have hS2 : va_S (ez_A bs) s.heap H1 locs := ⟨Nat.le_trans hS.1 (by omega), fun x h1 h2 => (o1 x (Nat.lt_of_lt_of_le h1 hS.1)).trans (hS.2.1 x h1 h2), hS.2.2⟩
    have hcA : cA = dA 0 := Option.some.inj (hNm.symm.trans (hKS.1.2 0 _ rfl).2)
    refine kk lsA H1 locs (cells + 1) (slots + x.toNatClampNeg) (by show cells + 1 + c0 = h.2.1 + 1; omega) (by show slots + x.toNatClampNeg + s0 = h.2.2 + _; omega) hl (hR.new hbs2 (show 0 < 5 by decide) ?_ z2 o1) hS2
    show H1[H.size]? = some (vp_cell _ _)
    rw [vp_cell_i, hR.1, q1, hcA]
    rfl
  · obtain ⟨rfl, rfl, rfl, rfl⟩ := ez_goi hs3
    have r1 : h.2.1 + 1 ≤ R.cells + c0 := hrm.1
    have r2 : h.2.2 + x.toNatClampNeg ≤ R.slots + s0 := hrm.2
    refine va_newaK (atype := .byte) hx hb (hts _ ez_ac1) rfl hd rfl (fun q => hg (Or.inl q)) rfl (by have hq : ¬ 1000000 < x.toNatClampNeg := fun q => hg (Or.inr q); have hz : componentBytes (newarray.typeOf .byte) ≤ 8 := (by decide); have := Nat.mul_le_mul_left x.toNatClampNeg hz; omega) (by omega) (by omega) hR.1 fun H1 cA q1 z1 o1 hAr hNm => ?_
    have z2 : H1.size = H.size + 1 := by rw [z1, hR.1]
    have o1 : ∀ q : Nat, q < H.size → H1[q]? = H[q]? := fun q hq => o1 q (by rw [← hR.1]; exact hq)
    have hS2 : va_S (ez_A bs) s.heap H1 locs := ⟨Nat.le_trans hS.1 (by omega), fun x h1 h2 => (o1 x (Nat.lt_of_lt_of_le h1 hS.1)).trans (hS.2.1 x h1 h2), hS.2.2⟩
    have hcA : cA = dA 1 := Option.some.inj (hNm.symm.trans (hKS.1.2 1 _ rfl).2)
    refine kk lsA H1 locs (cells + 1) (slots + x.toNatClampNeg) (by show cells + 1 + c0 = h.2.1 + 1; omega) (by show slots + x.toNatClampNeg + s0 = h.2.2 + _; omega) hl (hR.new hbs2 (show 1 < 5 by decide) ?_ z2 o1) hS2
    show H1[H.size]? = some (vp_cell _ _)
    rw [vp_cell_i, hR.1, q1, hcA]
    rfl
  · obtain ⟨rfl, rfl, rfl, rfl⟩ := ez_goi hs3
    have r1 : h.2.1 + 1 ≤ R.cells + c0 := hrm.1
    have r2 : h.2.2 + x.toNatClampNeg ≤ R.slots + s0 := hrm.2
    refine va_newaK (atype := .boolean) hx hb (hts _ ez_ac2) rfl hd rfl (fun q => hg (Or.inl q)) rfl (by have hq : ¬ 1000000 < x.toNatClampNeg := fun q => hg (Or.inr q); have hz : componentBytes (newarray.typeOf .boolean) ≤ 8 := (by decide); have := Nat.mul_le_mul_left x.toNatClampNeg hz; omega) (by omega) (by omega) hR.1 fun H1 cA q1 z1 o1 hAr hNm => ?_
    have z2 : H1.size = H.size + 1 := by rw [z1, hR.1]
    have o1 : ∀ q : Nat, q < H.size → H1[q]? = H[q]? := fun q hq => o1 q (by rw [← hR.1]; exact hq)
    have hS2 : va_S (ez_A bs) s.heap H1 locs := ⟨Nat.le_trans hS.1 (by omega), fun x h1 h2 => (o1 x (Nat.lt_of_lt_of_le h1 hS.1)).trans (hS.2.1 x h1 h2), hS.2.2⟩
    have hcA : cA = dA 2 := Option.some.inj (hNm.symm.trans (hKS.1.2 2 _ rfl).2)
    refine kk lsA H1 locs (cells + 1) (slots + x.toNatClampNeg) (by show cells + 1 + c0 = h.2.1 + 1; omega) (by show slots + x.toNatClampNeg + s0 = h.2.2 + _; omega) hl (hR.new hbs2 (show 2 < 5 by decide) ?_ z2 o1) hS2
    show H1[H.size]? = some (vp_cell _ _)
    rw [vp_cell_i, hR.1, q1, hcA]
    rfl
  · obtain ⟨rfl, rfl, rfl, rfl⟩ := ez_goi hs3
    have r1 : h.2.1 + 1 ≤ R.cells + c0 := hrm.1
    have r2 : h.2.2 + x.toNatClampNeg ≤ R.slots + s0 := hrm.2
    refine va_newaK (atype := .long) hx hb (hts _ ez_ac3) rfl hd rfl (fun q => hg (Or.inl q)) rfl (by have hq : ¬ 1000000 < x.toNatClampNeg := fun q => hg (Or.inr q); have hz : componentBytes (newarray.typeOf .long) ≤ 8 := (by decide); have := Nat.mul_le_mul_left x.toNatClampNeg hz; omega) (by omega) (by omega) hR.1 fun H1 cA q1 z1 o1 hAr hNm => ?_
    have z2 : H1.size = H.size + 1 := by rw [z1, hR.1]
    have o1 : ∀ q : Nat, q < H.size → H1[q]? = H[q]? := fun q hq => o1 q (by rw [← hR.1]; exact hq)
    have hS2 : va_S (ez_A bs) s.heap H1 locs := ⟨Nat.le_trans hS.1 (by omega), fun x h1 h2 => (o1 x (Nat.lt_of_lt_of_le h1 hS.1)).trans (hS.2.1 x h1 h2), hS.2.2⟩
    have hcA : cA = dA 3 := Option.some.inj (hNm.symm.trans (hKS.1.2 3 _ rfl).2)
    refine kk lsA H1 locs (cells + 1) (slots + x.toNatClampNeg) (by show cells + 1 + c0 = h.2.1 + 1; omega) (by show slots + x.toNatClampNeg + s0 = h.2.2 + _; omega) hl (hR.new hbs2 (show 3 < 5 by decide) ?_ z2 o1) hS2
    show H1[H.size]? = some (vp_cell _ _)
    rw [vp_cell_l, hR.1, q1, hcA]
    rfl
  · cases hs3
theorem so_anewarray {i : Nat} (C : ez_Cx D dA bs mi ro g k p R s m args meth c) (hd : decode (ez_code k) pc = .ok (.anewarray i, n)) (hst : ez_st g k (.anewarray i) n pc ls st h = some (.inl (pc2, ls2, st2, h2))) (hrm : h2.2.1 ≤ R.cells + c0 ∧ h2.2.2 ≤ R.slots + s0) (kk : ez_WS D dA bs ro p l e R s m args below meth c Q c0 s0 k pc2 ls2 st2 h2) : ez_WS D dA bs ro p l e R s m args below meth c Q c0 s0 k pc ls st h := by
  intro lsA H locs cells slots e1 e2 hl hR hS
  obtain ⟨hx, hb, hr, hml, hown, hts, hlk, hin, hdp, hbs, hk160, hKS⟩ := C
  simp only [ez_st] at hst
  obtain ⟨rfl, hs1⟩ := ez_if hst
  clear hst
  obtain ⟨x, r, rfl, hs2⟩ := ez_i1_inv hs1
  clear hs1
  split at hs2
  · next pp hf =>
    obtain ⟨hg, hs3⟩ := ez_ifn hs2
    obtain ⟨rfl, rfl, rfl, rfl⟩ := ez_goi hs3
    have hbs2 : bs ≤ H.size := Nat.le_trans hbs hS.1
    have h1 := ez_tabOk ez_chC_ok hk160 hf
    unfold ez_chC at h1
    dsimp only at h1
    rw [if_pos rfl] at h1
    have r1 : h.2.1 + 1 ≤ R.cells + c0 := hrm.1
    have r2 : h.2.2 + x.toNatClampNeg ≤ R.slots + s0 := hrm.2
    have hq : ¬ 1000000 < x.toNatClampNeg := fun q => hg (Or.inr q)
    refine W.anew hx hb hown (hts _ (ez_is_in h1)) (va_AO.use hKS.2.2.2.2.2.2.2.2.2.2.2.2.1) rfl hd rfl (fun q => hg (Or.inl q)) (by omega) (by omega) (by omega) fun cA kA comp f1 f2 f3 f4 => ?_
    generalize hH1 : H.push ({ cls := cA, slots := Array.replicate x.toNatClampNeg .null, vm := .none } : Cell) = H1
    have z2 : H1.size = H.size + 1 := by rw [← hH1, Array.size_push]
    have q1 : H1[H.size]? = some (arrV cA x.toNatClampNeg (fun _ => .null)) := by rw [← hH1, Array.getElem?_push_size, ← arrV_new]
    have o1 : ∀ q : Nat, q < H.size → H1[q]? = H[q]? := fun q hq => by rw [← hH1, Array.getElem?_push, if_neg (Nat.ne_of_lt hq)]
    have hS2 : va_S (ez_A bs) s.heap H1 locs := ⟨Nat.le_trans hS.1 (by omega), fun x h1 h2 => (o1 x (Nat.lt_of_lt_of_le h1 hS.1)).trans (hS.2.1 x h1 h2), hS.2.2⟩
    have hcA : cA = dA 4 := by
      obtain ⟨-, -, -, -, -, k4⟩ := (hKS.1.2 4 _ rfl).2
      exact Option.some.inj (f1.symm.trans k4)
    have kk2 := kk lsA H1 locs (cells + 1) (slots + x.toNatClampNeg) (by show cells + 1 + c0 = h.2.1 + 1; omega) (by show slots + x.toNatClampNeg + s0 = h.2.2 + _; omega) hl (hR.new hbs2 (show 4 < 5 by decide) (by
      show H1[H.size]? = some (vp_cell _ _)
      rw [vp_cell_q, q1, hcA]
      rfl) z2 o1) hS2
    rw [← hR.1] at kk2
    exact kk2
  · cases hs2
end ZB
