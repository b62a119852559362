theorem ez_nle {n : Int32} {m : Nat} (h0 : ¬ n < 0) (h1 : n.toNatClampNeg ≤ 1000000) (h2 : m ≤ n.toNatClampNeg) : (if n < Int32.ofNat m then n else Int32.ofNat m) = Int32.ofNat m := by
  obtain ⟨j, hj, rfl⟩ := nI_of h0
  rw [nI_clamp hj] at h1 h2
  exact if_neg (nI_nlt h2 hj)
theorem ez_clm {m : Nat} (h : m ≤ 1000000) : (Int32.ofNat m).toNatClampNeg = m ∧ ¬ Int32.ofNat m < 0 := ⟨nI_clamp (by omega), nI_pos (by omega)⟩
section ZD
variable {D : va_G} {dA : Nat → ClassId} {bs mi : Nat} {ro : Nat → Option ez_E} {g : ez_G}
set_option maxHeartbeats 4000000 in
set_option maxRecDepth 100000 in
/-- Arrays.copyOf(Object[], int, Class), of Object[] -/
theorem c_copy3 (l : Launch) {h : ez_H} {a m0 : Nat} {n : Int32} {f : Nat → Option Nat} (he : h.1 a = some (.inl (4, m0, .inr (.inr (.inr (.inr f)))))) (h0 : ¬ n < 0) (h1 : n.toNatClampNeg ≤ 1000000) (h2 : m0 ≤ n.toNatClampNeg) (hks : ez_ks h f m0) :
    Met l cy3 (.code cy3 cb3 4 (some (.array (.object "java/lang/Object"))) :: ez_GW) { frames := 1, cells := 1, slots := n.toNatClampNeg, locals := 30 } (ez_Pc D dA bs mi ro g [.ref a, .int n, .ref mi] h) (ez_Qc D dA bs ro (some (.ref h.2.1)) (ez_nw h (.inl (4, n.toNatClampNeg, .inr (.inr (.inr (.inr (va_cpy f (fun _ => none) 0 0 m0)))))) n.toNatClampNeg)) 1 n.toNatClampNeg (ez_A bs) := by
  refine Met.ofW (cc := cb3) (maxL := 4) (ret := (some (.array (.object "java/lang/Object")))) (by decide) rfl ?_
  intro p e s m args below meth c s₁ B hml hv
  obtain ⟨rfl, hbs, hKS, hR⟩ := hv
  have hx := B.exec
  have hb := B.bytes
  have hr := B.returns
  have hts0 := atoms_spec (ws := .code cy3 cb3 4 (some (.array (.object "java/lang/Object"))) :: ez_GW) B.pre
  have hts : ∀ w ∈ ez_GW, w.before _ s = true := fun w hw => hts0 w (List.mem_cons_of_mem _ hw)
  have hown : s.vm.findClass "java/util/Arrays" = some m.cls := findClass_of_methodNamed B.named
  have hlocks := B.notSynchronized
  obtain ⟨hba, hat⟩ := hR.get hKS he (show 4 < 5 by decide)
  have hcell : s.heap[a]? = some (vp_cell (dA 4) (m0, .inr (.inr (.inr (.inr f))))) := hat
  have hl := lv_entry ([.ref a, .int n, .ref mi]) (n := 4) (Nat.le_of_ble_eq_true rfl)
  rw [lg_entry_eq]
  generalize (lg_sl ([.ref a, .int n, .ref mi]) ++ List.replicate (4 - (lg_sl ([.ref a, .int n, .ref mi])).length) Slot.unset).toArray = ls at hl ⊢
  have hl : lv_has ls 4 [(0, .ref a), (1, .int n), (2, .ref mi)] := hl
  refine lv_aload_n hx hb dcb3_0 rfl (lv_at hl 2 rfl) ?_
  refine va_ldcM hx hb hown (hts _ cw_c110) hKS.2.2.2.2.2.2.2.2.2.2.1 dcb3_1 ?_
  refine lv_acmp_ne (rx := some mi) (ry := some mi) (tgt := 13) hx hb dcb3_3 rfl (fun q => absurd rfl q) (fun _ => ?_)
  refine lv_iload_n hx hb dcb3_6 rfl (lv_at hl 1 rfl) ?_
  refine W.anew hx hb hown (hts _ cw_c2) (va_AO.use hKS.2.2.2.2.2.2.2.2.2.2.2.2.1) rfl dcb3_7 rfl h0 (by omega) (Nat.le_refl 1) (by show 0 + n.toNatClampNeg ≤ n.toNatClampNeg; omega) fun cA kA comp f1 f2 f3 f4 => ?_
  generalize hH1 : s.heap.push ({ cls := cA, slots := Array.replicate n.toNatClampNeg .null, vm := .none } : Cell) = H1
  have z2 : H1.size = s.heap.size + 1 := by rw [← hH1, Array.size_push]
  have q1 : H1[s.heap.size]? = some (arrV cA n.toNatClampNeg (fun _ => .null)) := by rw [← hH1, Array.getElem?_push_size, ← arrV_new]
  have o1 : ∀ q : Nat, q < s.heap.size → H1[q]? = s.heap[q]? := fun q hq => by rw [← hH1, Array.getElem?_push, if_neg (Nat.ne_of_lt hq)]
  have hcA : cA = dA 4 := by
    obtain ⟨-, -, -, -, -, k4⟩ := (hKS.1.2 4 _ rfl).2
    exact Option.some.inj (f1.symm.trans k4)
  have hnew : H1[s.heap.size]? = some (vp_cell (dA 4) (n.toNatClampNeg, .inr (.inr (.inr (.inr (fun _ => none)))))) := by
    rw [vp_cell_q, q1, hcA]
    rfl
  have hlt : a < s.heap.size := (Array.getElem?_eq_some_iff.mp hcell).1
  have hsrc : H1[a]? = some (vp_cell (dA 4) (m0, .inr (.inr (.inr (.inr f))))) := (o1 a hlt).trans hcell
  refine lv_goto (tgt := 24) hx hb dcb3_10 rfl ?_
  refine lv_astore_n (lv' := [(3, .ref s.heap.size), (0, .ref a), (1, .int n), (2, .ref mi)]) hx hb dcb3_24 rfl hl (by decide) rfl (fun ls hl => ?_)
  refine lv_aload_n hx hb dcb3_25 rfl (lv_at hl 1 rfl) ?_
  refine lv_iconst (v := 0) hx hb dcb3_26 (by decide) ?_
  refine lv_aload_n hx hb dcb3_27 rfl (lv_at hl 0 rfl) ?_
  refine lv_iconst (v := 0) hx hb dcb3_28 (by decide) ?_
  refine lv_aload_n hx hb dcb3_29 rfl (lv_at hl 1 rfl) ?_
  refine va_alen (D := D) (cl := ez_cl) (ws := [(a, .inl (dA 4, m0, .inr (.inr (.inr (.inr f)))))]) hx hb hKS.1 (ez_P1 hsrc) 0 4 rfl rfl rfl dcb3_30 ?_
  refine lv_iload_n hx hb dcb3_31 rfl (lv_at hl 2 rfl) ?_
  refine va_mmin hx hb (hml.trans hl.1.symm) hown (hts _ cw_l304) (hts _ ez_mmin1) (hts _ ez_mini) (hts _ ez_mmin2) (Nat.le_refl 1) (Nat.le_of_ble_eq_true rfl) (Nat.le_refl 1) (by show 0 + n.toNatClampNeg ≤ n.toNatClampNeg; omega) dcb3_32 ?_
  rw [ez_nle h0 h1 h2]
  obtain ⟨hm1, hm2⟩ := ez_clm (Nat.le_trans h2 h1)
  have hKS1 : ez_Rep D dA bs ro h s.heap := hR
  refine ez_Wcopy (D := D) hx hb (hml.trans hl.1.symm) hown (hts _ cw_l150) (hts _ cw_an) (hts _ cw_as) (hts _ cw_is) hKS.1 hsrc hnew hm2 hm1 (Nat.le_refl m0) h2 (fun i hi y hy => ?_) (Nat.le_refl 1) (show 0 + (nativeFrameWords "java/lang/System" "arraycopy" 5 + 11) ≤ 30 by decide) dcb3_35 fun locs1 hlocs => ?_
  · obtain ⟨cellV, g1, g2⟩ := ez_anyOf hKS hR (hks i hi y hy)
    exact ⟨cellV, (o1 y (Array.getElem?_eq_some_iff.mp g1).1).trans g1, g2⟩
  have hne : a ≠ s.heap.size := Nat.ne_of_lt hlt
  have hlt2 : s.heap.size < H1.size := by omega
  generalize hH2 : H1.setIfInBounds s.heap.size (vp_cell (dA 4) (n.toNatClampNeg, .inr (.inr (.inr (.inr (va_cpy f (fun _ => none) 0 0 m0)))))) = H2
  have z3 : H2.size = s.heap.size + 1 := by rw [← hH2]; simp [z2]
  have q3 : H2[s.heap.size]? = some (vp_cell (dA 4) (n.toNatClampNeg, .inr (.inr (.inr (.inr (va_cpy f (fun _ => none) 0 0 m0)))))) := by rw [← hH2]; simp [Array.getElem?_setIfInBounds, hlt2]
  have o3 : ∀ q : Nat, q < s.heap.size → H2[q]? = s.heap[q]? := fun q hq => by
    rw [← hH2, Array.getElem?_setIfInBounds_ne (by omega)]
    exact o1 q hq
  have hR2 : ez_Rep D dA bs ro (ez_nw h (.inl (4, n.toNatClampNeg, .inr (.inr (.inr (.inr (va_cpy f (fun _ => none) 0 0 m0)))))) n.toNatClampNeg) H2 := hR.new hbs (show 4 < 5 by decide) q3 z3 o3
  refine lv_aload_n hx hb dcb3_38 rfl (lv_at hl 0 rfl) ?_
  rw [hR.1]
  refine W.cs (cells' := 1) (slots' := n.toNatClampNeg) rfl (Nat.zero_add _) ?_
  exact W.aret hx hb hr (Or.inr ⟨_, rfl⟩) (Or.inr ⟨_, rfl⟩) (fun t ht hW => ⟨rfl, by rw [ht]; exact hR2, by rw [ht, z3]; omega, fun q hq _ => by rw [ht]; exact o3 q hq⟩) (fun q hq => by
    rcases hlocs q hq with h9 | h9
    · cases h9
    · rw [h9]; exact hbs) dcb3_39
set_option maxHeartbeats 4000000 in
set_option maxRecDepth 100000 in
/-- Arrays.copyOf(Object[], int) -/
theorem c_copy2 (l : Launch) {h : ez_H} {a m0 : Nat} {n : Int32} {f : Nat → Option Nat} (he : h.1 a = some (.inl (4, m0, .inr (.inr (.inr (.inr f)))))) (h0 : ¬ n < 0) (h1 : n.toNatClampNeg ≤ 1000000) (h2 : m0 ≤ n.toNatClampNeg) (hks : ez_ks h f m0) :
    Met l cy2 (.code cy2 cb2 2 (some (.array (.object "java/lang/Object"))) :: ez_GW) { frames := 2, cells := 1, slots := n.toNatClampNeg, locals := 60 } (ez_Pc D dA bs mi ro g [.ref a, .int n] h) (ez_Qc D dA bs ro (some (.ref h.2.1)) (ez_nw h (.inl (4, n.toNatClampNeg, .inr (.inr (.inr (.inr (va_cpy f (fun _ => none) 0 0 m0)))))) n.toNatClampNeg)) 1 n.toNatClampNeg (ez_A bs) := by
  refine Met.ofW (cc := cb2) (maxL := 2) (ret := (some (.array (.object "java/lang/Object")))) (by decide) rfl ?_
  intro p e s m args below meth c s₁ B hml hv
  obtain ⟨rfl, hbs, hKS, hR⟩ := hv
  have hx := B.exec
  have hb := B.bytes
  have hr := B.returns
  have hts0 := atoms_spec (ws := .code cy2 cb2 2 (some (.array (.object "java/lang/Object"))) :: ez_GW) B.pre
  have hts : ∀ w ∈ ez_GW, w.before _ s = true := fun w hw => hts0 w (List.mem_cons_of_mem _ hw)
  have hown : s.vm.findClass "java/util/Arrays" = some m.cls := findClass_of_methodNamed B.named
  have hlocks := B.notSynchronized
  obtain ⟨hba, hat⟩ := hR.get hKS he (show 4 < 5 by decide)
  have hcell : s.heap[a]? = some (vp_cell (dA 4) (m0, .inr (.inr (.inr (.inr f))))) := hat
  have hl := lv_entry ([.ref a, .int n]) (n := 2) (Nat.le_of_ble_eq_true rfl)
  rw [lg_entry_eq]
  generalize (lg_sl ([.ref a, .int n]) ++ List.replicate (2 - (lg_sl ([.ref a, .int n])).length) Slot.unset).toArray = ls at hl ⊢
  have hl : lv_has ls 2 [(0, .ref a), (1, .int n)] := hl
  refine lv_aload_n hx hb dcb2_0 rfl (lv_at hl 0 rfl) ?_
  refine lv_iload_n hx hb dcb2_1 rfl (lv_at hl 1 rfl) ?_
  refine lv_aload_n hx hb dcb2_2 rfl (lv_at hl 0 rfl) ?_
  have hfc : s.vm.findClass "[Ljava/lang/Object;" = some (dA 4) := va_nmO (hKS.1.2 4 _ rfl).2 (by decide)
  refine va_getC hx hb (hml.trans hl.1.symm) hown (hts _ cw_l86) (va_Dc.use hKS.2.2.2.2.2.2.2.2.2.2.2.1) (hts _ cw_sel) (hts _ cw_gi) (hts _ cw_gn) hKS.2.2.2.2.2.2.2.2.2.2.1 ⟨_, hcell, rfl, hfc⟩ (Nat.le_of_ble_eq_true rfl) (Nat.le_of_ble_eq_true rfl) dcb2_3 ?_
  have hrun := va_runS (R := (headSpec (.code cy2 cb2 2 (some (.array (.object "java/lang/Object"))) :: ez_GW) { frames := 2, cells := 1, slots := n.toNatClampNeg, locals := 60 }).room) (As := [.ref a, .int n, .ref mi]) (rest := []) (g := F0 m 6 ls [.ref mi, .int n, .ref a]) (cells := 0) (slots := 0) (locs := []) (H := s.heap) (below := below) (meth := meth) (e := e) ⟨hx, hb, hml, hown, hts0⟩ (c_copy3 (D := D) (dA := dA) (bs := bs) (mi := mi) (ro := ro) (g := g) l he h0 h1 h2 hks) (va_cwS 3 hts0 (ez_good (fun w hw => by
      rcases List.mem_append.mp hw with h9 | h9
      · rcases List.mem_cons.mp h9 with rfl | h9
        · exact cw_l300
        · rcases List.mem_cons.mp h9 with rfl | h9
          · exact cw_s3
          · rw [List.mem_singleton.mp h9]; exact cw_ia
      · rcases List.mem_cons.mp h9 with rfl | h9
        · exact cw_k3
        · exact h9)) rfl rfl rfl (by decide +kernel) ⟨Nat.le_of_ble_eq_true rfl, Nat.le_of_ble_eq_true rfl⟩) ⟨ez_blind, fun U hU hW => ⟨rfl, by rw [hU]; exact hbs, by rw [hU]; exact hKS.warm hW, by rw [hU]; exact hR⟩⟩ rfl rfl hl.1 rfl (lv_room (Nat.le_of_ble_eq_true rfl)) dcb2_6 ⟨Nat.le_refl 1, by show 0 + n.toNatClampNeg ≤ n.toNatClampNeg; omega⟩
  intro T hT X
  obtain ⟨v, st₀, t, T', L, q0, X', hL, q1, q2, ⟨q3, q4, q5⟩, st⟩ := hrun T hT X
  cases q3
  have K : W p l e ((headSpec (.code cy2 cb2 2 (some (.array (.object "java/lang/Object"))) :: ez_GW) { frames := 2, cells := 1, slots := n.toNatClampNeg, locals := 60 }).room) s m (([.ref a, .int n] : List Value).toArray) below meth c T'.heap ([] ++ L) (0 + 1) (0 + n.toNatClampNeg) (MQ below (ez_Qc D dA bs ro (some (.ref h.2.1)) (ez_nw h (.inl (4, n.toNatClampNeg, .inr (.inr (.inr (.inr (va_cpy f (fun _ => none) 0 0 m0)))))) n.toNatClampNeg)) (([.ref a, .int n] : List Value).toArray) s 1 n.toNatClampNeg (ez_A bs)) (F0 m 9 ls [.ref h.2.1]) := by
    refine W.cs (cells' := 1) (slots' := n.toNatClampNeg) rfl (Nat.zero_add _) ?_
    refine W.aret hx hb hr (Or.inr ⟨_, rfl⟩) (Or.inr ⟨_, rfl⟩) (fun t2 ht hW => ⟨rfl, by rw [ht, q1]; exact q4, ?_, ?_⟩) (fun q hq => hL q (by simpa using hq)) dcb2_9
    · rw [ht, q1, ← q0]; exact q5.1
    · intro q h8 h9
      rw [ht, q1, q5.2 q (by rw [q0]; exact h8) h9, q0]
  obtain ⟨t2, a1, b1⟩ := K T' rfl X'
  exact ⟨t2, st t2 a1, b1⟩
end ZD
