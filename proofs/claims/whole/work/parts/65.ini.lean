section IN
variable {g : ez_G} {ro : Nat → Option ez_E} {b L sz : Nat} {xs : Nat → Int32}
def in_R : List xR := [(1, 0, 0), (2, 1, 0), (2, 3, 0), (16, 0, 0), (3, 0, 0), (3, 1, 0), (3, 2, 0), (2, 10, 0), (2, 11, 0), (3, 3, 0), (3, 4, 0)]
def in_P (g : ez_G) (sz : Nat) : xP := (g.1, fun q => if sz ≤ q then in_R.getD (q - sz) (0, 0, 0) else (0, 0, 0), fun r => sz + in_R.idxOf r, fun _ => 0)
def in_c : xR → Nat → Int32 := fun r => if r = (1, 0, 0) then fun t => if t = 6 then -1 else 0 else if r = (2, 10, 0) ∨ r = (2, 11, 0) then upd (fun _ => 0) 0 1 else if r.1 = 4 then fun _ => -1 else fun _ => 0
def in_z : md_S := (fun s => if s = 39 then -1 else 0, fun _ _ => 0)
def in_h (ro : Nat → Option ez_E) (sz : Nat) : ez_H := md_h (ro, sz + 51, 8060) (sz + 11) in_z
theorem in_ix : ∀ i, i < 11 → in_R.idxOf (in_R.getD i (0, 0, 0)) = i ∧ (in_R.getD i (0, 0, 0)).1 ≠ 0 := by decide +kernel
theorem in_g {i : Nat} (h : 11 ≤ i) : in_R.getD i (0, 0, 0) = (0, 0, 0) := by
  rw [List.getD_eq_getElem?_getD, List.getElem?_eq_none (show in_R.length ≤ i from h)]
  rfl
theorem in_r0 {q : Nat} (h : q < sz ∨ sz + 11 ≤ q) : ((in_P g sz).2.1 q) = (0, 0, 0) := by
  show (if sz ≤ q then in_R.getD (q - sz) (0, 0, 0) else (0, 0, 0)) = _
  by_cases h1 : sz ≤ q
  · rw [if_pos h1, in_g (by omega)]
  · rw [if_neg h1]
theorem in_ri {i : Nat} : (in_P g sz).2.1 (sz + i) = in_R.getD i (0, 0, 0) := by
  show (if sz ≤ sz + i then in_R.getD (sz + i - sz) (0, 0, 0) else (0, 0, 0)) = _
  rw [if_pos (by omega), show sz + i - sz = i by omega]
theorem in_lv {r : xR} (hr : r ∈ in_R) : lv (in_P g sz) r := by
  show (in_P g sz).2.1 (sz + in_R.idxOf r) = r
  rw [in_ri]
  have : ∀ r ∈ in_R, in_R.getD (in_R.idxOf r) (0, 0, 0) = r := by decide +kernel
  exact this r hr
theorem in_lm {r : xR} (h0 : r.1 ≠ 0) (hl : lv (in_P g sz) r) : r ∈ in_R := by
  have h : (in_P g sz).2.1 (sz + in_R.idxOf r) = r := hl
  rw [in_ri] at h
  by_cases hi : in_R.idxOf r < 11
  · exact List.idxOf_lt_length_iff.mp hi
  · rw [in_g (by omega)] at h
    exact absurd (by rw [← h]) h0
theorem in_ok : xok (in_P g sz) := by
  intro q hq
  by_cases h : q < sz ∨ sz + 11 ≤ q
  · rw [in_r0 h] at hq
    exact absurd rfl hq
  · obtain ⟨i, rfl⟩ : ∃ i, q = sz + i := ⟨q - sz, by omega⟩
    rw [in_ri]
    show sz + in_R.idxOf (in_R.getD i (0, 0, 0)) = sz + i
    rw [(in_ix i (by omega)).1]
theorem in_cl : xcl (in_P g sz) in_c := by
  intro r r' h0 hl hx ht
  have hm := in_lm h0 hl
  simp only [in_R, List.mem_cons, List.not_mem_nil, or_false] at hm
  rcases hm with rfl | rfl | rfl | rfl | rfl | rfl | rfl | rfl | rfl | rfl | rfl
  · refine in_lv ?_
    rcases hx with e | e | e | e | e | e | e | e | e | e <;> (subst e; decide)
  · exact hx.elim
  · exact hx.elim
  · exact hx.elim
  · exact absurd rfl (ht rfl)
  · exact absurd rfl (ht rfl)
  · exact absurd rfl (ht rfl)
  · exact hx.elim
  · exact hx.elim
  · exact absurd rfl (ht rfl)
  · exact absurd rfl (ht rfl)
theorem in_ls {L i : Nat} : lsz (in_P g sz) in_c L i 0 := ⟨rfl, Nat.le_refl _, Nat.zero_le _, fun j _ => rfl⟩
theorem in_RR : RR (in_P g sz) in_c in_z := by
  refine ⟨in_lv (by decide), ⟨⟨rfl, rfl, rfl, rfl, rfl⟩, ⟨rfl, rfl, rfl⟩, ⟨rfl, rfl, fun k hk => ?_⟩, rfl, rfl, fun i hi => absurd hi (Nat.not_lt_zero i), rfl, fun i => rfl⟩, ⟨rfl, in_ls, fun j hj => absurd hj (Nat.not_lt_zero j)⟩, ⟨rfl, in_ls, fun j hj => absurd hj (Nat.not_lt_zero j), fun j _ => ⟨rfl, rfl, rfl⟩⟩, ⟨fun j hj => absurd hj (Nat.not_lt_zero j), rfl, fun j hj => absurd hj (Nat.not_lt_zero j)⟩, ⟨⟨rfl, rfl, in_ls, in_ls⟩, fun j hj => absurd hj (Nat.not_lt_zero j), fun j hj => absurd hj (Nat.not_lt_zero j), fun j hj => absurd hj (Nat.not_lt_zero j), fun j _ => ⟨rfl, rfl, fun _ _ => rfl⟩, fun j _ => rfl⟩, ⟨⟨rfl, in_ls⟩, fun j hj => absurd hj (Nat.not_lt_zero j), fun j _ => rfl⟩, fun r h0 hl => ?_⟩
  · have e : upd (fun _ => 0) 0 (1 : Int32) k = 0 := if_neg (by omega)
    exact ⟨e, e, fun _ => ⟨rfl, rfl⟩⟩
  · have hm := in_lm h0 hl
    simp only [in_R, List.mem_cons, List.not_mem_nil, or_false] at hm
    rcases hm with rfl | rfl | rfl | rfl | rfl | rfl | rfl | rfl | rfl | rfl | rfl <;> (unfold bd; dsimp only; omega)
theorem in_xh {h : ez_H} (e : h = (ro, sz, 0)) : ctb (ctb h 9 (pt_F h.2.1) (pt_L g) 690) 10 (mt_F (ctb h 9 (pt_F h.2.1) (pt_L g) 690).2.1) mt_L 8060 = xh (in_h ro sz) (in_P g sz) in_c := by
  subst e
  refine Prod.ext (funext fun q => ?_) rfl
  show (if q = sz + 11 then _ else if sz + 11 < q ∧ q ≤ sz + 11 + 39 then mt_L[q - (sz + 11) - 1]? else if q = sz then _ else if sz < q ∧ q ≤ sz + 10 then (pt_L g)[q - sz - 1]? else ro q) = if ((in_P g sz).2.1 q).1 = 0 then (in_h ro sz).1 q else ce (in_P g sz) ((in_P g sz).2.1 q) (in_c ((in_P g sz).2.1 q))
  by_cases h : q < sz ∨ sz + 11 ≤ q
  · rw [in_r0 h, if_pos rfl]
    show _ = if q = sz + 11 then _ else if sz + 11 < q ∧ q ≤ sz + 11 + 39 then _ else _
    by_cases h1 : q = sz + 11
    · rw [if_pos h1, if_pos h1]
      rfl
    · rw [if_neg h1, if_neg h1]
      by_cases h2 : sz + 11 < q ∧ q ≤ sz + 11 + 39
      · rw [if_pos h2, if_pos h2]
        unfold md_ce mt_L
        rw [List.getElem?_map]
        cases md_ar[q - (sz + 11) - 1]? with
        | none => rfl
        | some y => rfl
      · rw [if_neg h2, if_neg h2, if_neg (by omega), if_neg (by omega)]
  · obtain ⟨i, rfl⟩ : ∃ i, q = sz + i := ⟨q - sz, by omega⟩
    rw [in_ri, if_neg (by omega), if_neg (by omega), if_neg (in_ix i (by omega)).2]
    have hi : i = 0 ∨ i = 1 ∨ i = 2 ∨ i = 3 ∨ i = 4 ∨ i = 5 ∨ i = 6 ∨ i = 7 ∨ i = 8 ∨ i = 9 ∨ i = 10 := by omega
    rcases hi with rfl | rfl | rfl | rfl | rfl | rfl | rfl | rfl | rfl | rfl | rfl
    · rw [if_pos (by omega)]
      rfl
    all_goals
      rw [if_neg (by omega), if_pos (by omega), show sz + _ - sz - 1 = _ from Nat.sub_sub _ _ _, Nat.add_sub_add_left]
      rfl
theorem in_LI (hb : b < sz) (e1 : ro b = some (.inl (10, L, .inl xs))) (hg : g.1 < sz) (e2 : ro g.1 = some (.inl (14, 0, .inr (.inr (.inr (.inr (fun _ => none))))))) (hc : g.2.2.1.category = 1) (hs : ∀ j, j < 11 → ez_sidx g (g.2.1 j) = some j ∧ g.2.2.2 j < sz ∧ ∃ f : Nat → Int32, ro (g.2.2.2 j) = some (.inl (11, wl j, .inl f)) ∧ ∀ i, i < wl j → f i = nI (wb j i)) : LI g b L xs (sz + 11) sz (sz + 51) 8060 in_z (xh (in_h ro sz) (in_P g sz) in_c) := by
  have ho : ∀ q, q < sz → (in_h ro sz).1 q = ro q := fun q hq => mh_out (by omega)
  refine ⟨in_h ro sz, in_P g sz, in_c, rfl, ⟨in_ok, fun q hq => ?_, in_cl, ?_, by show ((in_P g sz).2.1 g.1).1 = 0; rw [in_r0 (Or.inl hg)], ?_⟩, in_RR, rfl, ⟨hc, fun j hj => ?_⟩, rfl, fun q hq => by rw [in_r0 (Or.inr (by omega))], mh_fx (H' := (ro, sz + 51, 8060)) (fun q hq => rfl), ?_, by rw [in_r0 (Or.inl hb)], ?_, by omega, by omega, fun j hj => ?_, Nat.le_refl _, Nat.le_refl _⟩
  · have hq : sz + 51 ≤ q := hq
    rw [in_r0 (Or.inr (by omega))]
  · show (in_h ro sz).1 g.1 = _
    rw [ho _ hg, e2]
  · show g.1 < sz + 51
    omega
  · obtain ⟨h1, h2, f, h3, h4⟩ := hs j hj
    refine ⟨h1, by rw [in_r0 (Or.inl h2)], ?_, f, by rw [ho _ h2, h3], h4⟩
    show g.2.2.2 j < sz + 51
    omega
  · show sz + 11 + 39 < sz + 51
    omega
  · rw [ho _ hb, e1]
  · have := (hs j hj).2.1
    omega
theorem law_run (hL : L ≤ 3072) (hb : b < sz) (e1 : ro b = some (.inl (10, L, .inl xs))) (hg : g.1 < sz) (e2 : ro g.1 = some (.inl (14, 0, .inr (.inr (.inr (.inr (fun _ => none))))))) (hc : g.2.2.1.category = 1) (hs : ∀ j, j < 11 → ez_sidx g (g.2.1 j) = some j ∧ g.2.2.2 j < sz ∧ ∃ f : Nat → Int32, ro (g.2.2.2 j) = some (.inl (11, wl j, .inl f)) ∧ ∀ i, i < wl j → f i = nI (wb j i)) : ∃ h', ez_rn g 159 0 [some (.ref b), none, none, none] [] (ro, sz, 0) = some (some (.int 1), h') ∧ h'.2.1 ≤ sz + 600000 ∧ h'.2.2 ≤ 7302250 := by
  obtain ⟨h', e, n1, n2⟩ := lw_loop hL 512 0 (sz + 51) 8060 in_z _ (in_LI hb e1 hg e2 hc hs) (by omega) (Nat.zero_le _)
  refine ⟨h', ?_, by omega, by omega⟩
  rw [s159_0, s159_3, s159_4, c_portInit (h := (ro, sz, 0)), ez_bd_n, s159_7 (by rfl), s159_8, s159_11, s159_12]
  have hi := in_xh (g := g) (h := (ro, sz, 0)) rfl
  rw [c_modInit (h := ctb (ro, sz, 0) 9 (pt_F (ro, sz, 0).2.1) (pt_L g) ((ro, sz, 0).2.2 + 15 + 675)), ez_bd_n, s159_15 (by rfl), s159_16, s159_17 (by rfl)]
  show ez_rn g 159 18 _ [] (ctb (ctb (ro, sz, 0) 9 (pt_F (ro, sz, 0).2.1) (pt_L g) 690) 10 (mt_F (ctb (ro, sz, 0) 9 (pt_F (ro, sz, 0).2.1) (pt_L g) 690).2.1) mt_L 8060) = _
  rw [hi]
  exact e
end IN
