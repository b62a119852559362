section GM
variable {s : State} {args : Array Value}
theorem gl_ty {H : Heap} {q : Nat} {c1 c2 : Cell} {t1 t2 : FieldType} (h1 : H[q]? = some c1) (h2 : H[q]? = some c2) (a1 : s.isArrayOf c1 t1) (a2 : s.isArrayOf c2 t2) : t1 = t2 := by
  rw [h1] at h2
  cases h2
  obtain ⟨-, k, e1, m, e2⟩ := a1
  obtain ⟨-, k', e1', m', e2'⟩ := a2
  rw [e1] at e1'
  cases e1'
  rw [e2] at e2'
  cases e2'
  rfl
theorem gl_w1 : ∀ j : Nat, j < 11 → gl_len.getD j 0 = wl j := by decide +kernel
theorem gl_w2 : ∀ j : Nat, j < 11 → ∀ i : Nat, i < wl j → (gl_byt.getD j []).getD i 0 = nI (wb j i) := by decide +kernel
theorem gl_w3 : ∀ j : Nat, j < 11 → wl j < 7 := by decide +kernel
theorem gl_w4 : ∀ j : Nat, j < 11 → ∀ i : Nat, i < wl j → wb j i < 128 := by decide +kernel
theorem gl_fd {ad : Nat → Nat} {q j : Nat} (h : (List.range 11).find? (fun i => ad i == q) = some j) : j < 11 ∧ ad j = q := ⟨List.mem_range.mp (List.mem_of_find?_eq_some h), by have := List.find?_some h; exact beq_iff_eq.mp this⟩
theorem gl_fd2 {ad : Nat → Nat} {j : Nat} (hj : j < 11) : ∃ j', (List.range 11).find? (fun i => ad i == ad j) = some j' ∧ j' < 11 ∧ ad j' = ad j := by
  cases h : (List.range 11).find? (fun i => ad i == ad j) with
  | none =>
    have := List.find?_eq_none.mp h j (List.mem_range.mpr hj)
    exact absurd (beq_self_eq_true (ad j)) this
  | some j' => exact ⟨j', rfl, gl_fd h⟩
def gl_ro (b L : Nat) (xs : Nat → Int32) (g1 : Nat) (ad : Nat → Nat) : Nat → Option ez_E := fun q => if q = b then some (.inl (10, L, .inl xs)) else if q = g1 then some (.inl (14, 0, .inr (.inr (.inr (.inr (fun _ => none)))))) else match (List.range 11).find? (fun i => ad i == q) with
  | some j => some (.inl (11, wl j, .inl (fun i => nI (wb j i))))
  | none => none
set_option maxHeartbeats 4000000 in
theorem gl_start {b L : Nat} {xs : Nat → Int32} (hL : L ≤ 3072) (hts : ∀ w ∈ lw_tbl, w.before args s = true) (hX : va_X b L xs s s.heap) (hbl : b < s.heap.size) (hgv : (Jvm.Cond.and given_1 narrow_1).before args s = true) : ∃ (D : va_G) (dA : Nat → ClassId) (mi : Nat) (ro : Nat → Option ez_E) (g : ez_G), ez_KS D dA s.heap.size mi ro g s s.heap ∧ ez_Rep D dA s.heap.size ro (ro, s.heap.size, 0) s.heap ∧ ro b = some (.inl (10, L, .inl xs)) ∧ g.1 < s.heap.size ∧ ro g.1 = some (.inl (14, 0, .inr (.inr (.inr (.inr (fun _ => none)))))) ∧ g.2.2.1.category = 1 ∧ ∀ j, j < 11 → ez_sidx g (g.2.1 j) = some j ∧ g.2.2.2 j < s.heap.size ∧ ∃ f : Nat → Int32, ro (g.2.2.2 j) = some (.inl (11, wl j, .inl f)) ∧ ∀ i, i < wl j → f i = nI (wb j i) := by
  have hA : ∀ a : Nat, a < s.heap.size → ¬ ez_A s.heap.size a := fun a ha h => absurd (show s.heap.size ≤ a from h) (by omega)
  have hf := flat_of_before _ hgv
  obtain ⟨D, dA, hK⟩ := gl_K hts
  obtain ⟨adK, adV, hS, hev⟩ := gl_S hgv hA
  obtain ⟨g1, e1, T1⟩ := va_Tof (args := args) (s := s) (tm := .static "java/util/ArrayList" "DEFAULTCAPACITY_EMPTY_ELEMENTDATA" "[Ljava/lang/Object;") (ty := .object "java/lang/Object") (N := 0) (f := fun _ => va_rf none) (A := ez_A s.heap.size) (by omega) (hf _ (by decide +kernel)) (va_eqt (hf _ (by decide +kernel))) (fun j hj => absurd hj (by omega)) hA
  obtain ⟨v, e3, hv⟩ := Cond.isRef_spec (hf (.isRef (.static "jdk/internal/util/Preconditions" "SIOOBE_FORMATTER" "Ljava/util/function/BiFunction;")) (by decide +kernel))
  obtain ⟨mi, hmi⟩ := va_Mi.of (hf (.isRef (.mirror "[Ljava/lang/Object;")) (by decide +kernel))
  have hT1 := T1
  obtain ⟨k1, q1, q2, q3, q4, q5, q6, q7⟩ := T1
  have lt1 : g1 < s.heap.size := (Array.getElem?_eq_some_iff.mp q1).1
  have hV : ∀ j, j < 11 → va_T .byte (adV j) (wl j) (fun i => .int (nI (wb j i))) (ez_A s.heap.size) s s.heap := by
    intro j hj
    obtain ⟨c, h1, h2, h3, h4, h5, h6, h7⟩ := (hS.1 j hj).2.2.2
    rw [gl_w1 j hj] at h4 h5 h6
    exact ⟨c, h1, h2, h3, h4, h5, fun i hi => by rw [h6 i hi]; show some (Value.int ((gl_byt.getD j []).getD i 0)) = _; rw [gl_w2 j hj i hi], h7⟩
  have hX' := hX
  obtain ⟨scr, x1, x2, x3, x4, x5⟩ := hX'
  have n1 : g1 ≠ b := by
    rintro rfl
    cases gl_ty q1 x1 q2 x2
  have n2 : ∀ j, j < 11 → adV j ≠ b ∧ adV j ≠ g1 := by
    intro j hj
    obtain ⟨c, h1, h2, -⟩ := hV j hj
    constructor
    · intro e
      rw [e] at h1
      cases gl_ty h1 x1 h2 x2
    · intro e
      rw [e] at h1
      cases gl_ty h1 q1 h2 q2
  have rb : gl_ro b L xs g1 adV b = some (.inl (10, L, .inl xs)) := if_pos rfl
  have rg : gl_ro b L xs g1 adV g1 = some (.inl (14, 0, .inr (.inr (.inr (.inr (fun _ => none)))))) := by
    unfold gl_ro
    rw [if_neg n1, if_pos rfl]
  have rv : ∀ j, j < 11 → ∃ j', j' < 11 ∧ adV j' = adV j ∧ gl_ro b L xs g1 adV (adV j) = some (.inl (11, wl j', .inl (fun i => nI (wb j' i)))) := by
    intro j hj
    obtain ⟨j', e, h1, h2⟩ := gl_fd2 (ad := adV) hj
    refine ⟨j', h1, h2, ?_⟩
    unfold gl_ro
    rw [if_neg (n2 j hj).1, if_neg (n2 j hj).2, e]
  have ltv : ∀ j, j < 11 → adV j < s.heap.size := by
    intro j hj
    obtain ⟨c, h1, -⟩ := hV j hj
    exact (Array.getElem?_eq_some_iff.mp h1).1
  have same : ∀ j j', j < 11 → j' < 11 → adV j' = adV j → wl j' = wl j ∧ ∀ i, i < wl j → nI (wb j' i) = nI (wb j i) := by
    intro j j' hj hj' e
    obtain ⟨c, h1, h2, h3, h4, h5, h6, h7⟩ := hV j hj
    obtain ⟨c', h1', h2', h3', h4', h5', h6', h7'⟩ := hV j' hj'
    rw [e, h1] at h1'
    cases h1'
    have hw := gl_w3 j hj
    have hw' := gl_w3 j' hj'
    have e2 : wl j' = wl j := by
      rw [h5] at h5'
      have := congrArg Int32.toNatClampNeg h5'
      rw [show (Int32.ofNat (wl j)).toNatClampNeg = wl j from nI_clamp (by omega), show (Int32.ofNat (wl j')).toNatClampNeg = wl j' from nI_clamp (by omega)] at this
      exact this.symm
    refine ⟨e2, fun i hi => ?_⟩
    have := (h6' i (by omega)).symm.trans (h6 i hi)
    exact Value.int.inj (Option.some.inj this)
  have sub : ∀ q e, gl_ro b L xs g1 adV q = some e → q < s.heap.size ∧ ez_ro s.heap.size q e s s.heap := by
    intro q e he
    unfold gl_ro at he
    split at he
    · next h =>
      cases he
      subst h
      exact ⟨hbl, scr, x1, x2, x3, by omega, by rw [x4], x5, hA _ hbl⟩
    · split at he
      · next h =>
        cases he
        subst h
        exact ⟨lt1, hT1⟩
      · split at he
        · next j hj =>
          cases he
          obtain ⟨h1, h2⟩ := gl_fd hj
          subst h2
          exact ⟨ltv j h1, hV j h1⟩
        · cases he
  refine ⟨D, dA, mi, gl_ro b L xs g1 adV, (g1, adK, v, adV), ⟨hK, va_Zof (hts (.laysStatic "java/util/ArrayList" "DEFAULTCAPACITY_EMPTY_ELEMENTDATA" "[Ljava/lang/Object;") (by decide +kernel)) (hts (.initialized "java/util/ArrayList") (by decide +kernel)) e1 hA, va_Zof (hts (.laysStatic "java/lang/String" "COMPACT_STRINGS" "Z") (by decide +kernel)) (hts (.initialized "java/lang/String") (by decide +kernel)) (va_eqt (hf (.eq (.static "java/lang/String" "COMPACT_STRINGS" "Z") (.int 1)) (by decide +kernel))) hA, va_Zof (hts (.laysStatic "jdk/internal/util/Preconditions" "SIOOBE_FORMATTER" "Ljava/util/function/BiFunction;") (by decide +kernel)) (hts (.initialized "jdk/internal/util/Preconditions") (by decide +kernel)) e3 hA, fun q e he => (sub q e he).2, fun j hj => ⟨(hS.1 j hj).1, (hS.1 j hj).2.2.1, (hS.1 j hj).2.1⟩, ?_, va_Nw.of rfl (hts (.methodLinkNest "StaplePort$Reader" 58 (ez_y 0) "StaplePort") (by decide +kernel)), va_Nw.of rfl (hts (.methodLinkNest "StaplePort$Clause" 13 (ez_y 68) "StaplePort") (by decide +kernel)), va_Nw.of rfl (hts (.methodLinkNest "StaplePort$Ship" 68 (ez_y 68) "StaplePort") (by decide +kernel)), hmi, va_Dc.of (hts _ (by decide +kernel)), va_AO.of (hts _ (by decide +kernel)), ?_⟩, ⟨rfl, fun q e he => Or.inr ⟨(sub q e he).1, he⟩⟩, rb, lt1, rg, ?_, ?_⟩
  · intro j x hx
    have hj : j < 11 := (List.getElem?_eq_some_iff.mp hx).1
    have h1 := hev j hj
    unfold gl_tm at h1
    rw [List.getD_eq_getElem?_getD, hx] at h1
    refine vk_R.of (A := args) (hts _ ?_) h1
    have : ∀ x ∈ ez_sx, Cond.stringRef "StaplePort$Reader" x.1 x.2 ∈ lw_tbl := by decide +kernel
    exact this x (List.mem_of_getElem? hx)
  · intro ci C T N hc
    refine va_Nw.of (A := args) rfl (hts _ ?_)
    have : ∀ q ∈ ez_cl.map (fun q => q.1), Cond.castable q "java/lang/Object" ∈ lw_tbl := by decide +kernel
    exact this C (List.mem_map.mpr ⟨_, List.mem_of_getElem? hc, rfl⟩)
  · cases v <;> first | rfl | cases hv
  · intro j hj
    obtain ⟨j', h1, h2, h3⟩ := rv j hj
    obtain ⟨h4, h5⟩ := same j j' hj h1 h2
    refine ⟨?_, ltv j hj, _, by rw [h3, h4], h5⟩
    obtain ⟨j2, e, k1, k2⟩ := gl_fd2 (ad := adK) hj
    show (List.range 11).find? (fun i => adK i == adK j) = some j
    rw [e, hS.2 j2 j k1 hj k2]
end GM
