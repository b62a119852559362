section OI
variable {g : ez_G} {h h0 h2 : ez_H} {P P2 : xP} {c c' c2 : xR → Nat → Int32} {z Z : md_S} {k κ : Nat}
/-- what the wool of merchant x in fleet k is worth -/
def Wt (z : md_S) (k x : Nat) : Nat := nsum (wf z k x) (z.1 6).toNatClampNeg
theorem sell_W (R : RR P c z) (hk : k < (z.1 4).toNatClampNeg) : (∀ x, x < 20 → wm c k (cf z (nI k) (z.1 5).toNatClampNeg) x = nI (Wt z k x) ∧ Wt z k x ≤ 400000) ∧ (∀ x, (z.1 1).toNatClampNeg ≤ x → x < 20 → Wt z k x = 0) ∧ ∀ x, l_sum (pwt z (nI k) (nI x)) (z.1 6).toNatClampNeg = nI (Wt z k x) := by
  obtain ⟨⟨a1, a2, a3, a4, a5⟩, ⟨b1, b2, b3⟩, ⟨d1, d2, d3⟩, m0, m1, m7, m36⟩ := R.2.1; have r1 := R.2.2.1; have r2 := R.2.2.2.1; have r5 := R.2.2.2.2.1; have r3 := R.2.2.2.2.2.1; have r4 := R.2.2.2.2.2.2.1; have rv := R.2.2.2.2.2.2.2; have r0 := R.2.1
  have hb4 := (md_inE r3.1.1).2
  have hb5 := (md_inE r3.1.2.1).2
  have hb6 := (md_inE r5.2.1).2
  have hM := (md_inE m1).2
  have e1 : ∀ x, l_sum (pwt z (nI k) (nI x)) (z.1 6).toNatClampNeg = nI (Wt z k x) := fun x => pwt_n (fun j hj => by
    obtain ⟨-, k2, k3⟩ := r5.2.2 j hj
    obtain ⟨-, -, -, -, b14, -⟩ := r2.2.2.1 _ (md_inE k2).2
    exact ⟨k3, b14⟩) _ (Nat.le_refl _)
  refine ⟨fun x hx => ⟨?_, ?_⟩, fun x hx hx2 => ?_, e1⟩
  · rw [wm_rel hx R (by omega) _ (Nat.le_refl _), sw_ex (fun j hj => (r5.2.2 j hj).1) (by omega) _ (Nat.le_refl _), e1]
  · have : Wt z k x ≤ (z.1 6).toNatClampNeg * 2000 := nsum_le _ (fun j hj => wf_le (r5.2.2 j hj).2.2)
    omega
  · have : ∀ j, 0 ≤ j → j < 0 + (z.1 6).toNatClampNeg → wf z k x j = 0 := fun j _ hj => by
      obtain ⟨-, k2, k3⟩ := r5.2.2 j (by omega)
      obtain ⟨-, -, b12, -⟩ := r2.2.2.1 _ (md_inE k2).2
      obtain ⟨em, hm⟩ := md_inE b12
      have hne : ¬ z.2 12 (z.2 32 j).toNatClampNeg = nI x := fun h5 => by
        rw [h5, nI_clamp (by omega)] at hm
        omega
      unfold wf
      rw [if_neg hne, ite_self, ite_self]
    have h2 := nsum_0 _ this
    rw [Nat.zero_add, nsum] at h2
    exact h2
theorem sell_L (R : RR P c z) (hk : k < (z.1 4).toNatClampNeg) (hκ : κ ≤ 1000000) (hA : 0 < nsum (Wt z k) (z.1 1).toNatClampNeg) : ∃ L, L ≤ 20 ∧ L < (z.1 1).toNatClampNeg + 1 ∧ nsum (Wt z k) (z.1 1).toNatClampNeg < 2 ^ 63 ∧ nsum (Wt z k) 20 = nsum (Wt z k) (z.1 1).toNatClampNeg ∧ ov (nI κ) (wm c k (cf z (nI k) (z.1 5).toNatClampNeg)) (lN (nsum (Wt z k) (z.1 1).toNatClampNeg)) 20 = nI L ∧ plf (pws z (nI k) (z.1 1).toNatClampNeg) (nI κ) (lN (nsum (Wt z k) (z.1 1).toNatClampNeg)) (z.1 1).toNatClampNeg = nI L ∧ p3ok k (nI κ) (lN (nsum (Wt z k) (z.1 1).toNatClampNeg)) (z.1 1).toNatClampNeg L (pps (pws z (nI k) (z.1 1).toNatClampNeg) k (nI κ) (lN (nsum (Wt z k) (z.1 1).toNatClampNeg)) (z.1 1).toNatClampNeg) ∧ ∀ c2 : xR → Nat → Int32, (∀ x, (z.1 1).toNatClampNeg ≤ x → x < 20 → z.2 27 (20 * k + x) = 0) → (∀ x, x < 20 → (ho (ps c2 k (nI κ) (wm c k (cf z (nI k) (z.1 5).toNatClampNeg)) (lN (nsum (Wt z k) (z.1 1).toNatClampNeg)) 20) k (rs (nI κ) (wm c k (cf z (nI k) (z.1 5).toNatClampNeg)) (lN (nsum (Wt z k) (z.1 1).toNatClampNeg)) 20) L).1 (11, k, 0) x = (p3 k (nI κ) (lN (nsum (Wt z k) (z.1 1).toNatClampNeg)) (z.1 1).toNatClampNeg L (pps (pws z (nI k) (z.1 1).toNatClampNeg) k (nI κ) (lN (nsum (Wt z k) (z.1 1).toNatClampNeg)) (z.1 1).toNatClampNeg)).2 27 (20 * k + x)) ∧ (p3 k (nI κ) (lN (nsum (Wt z k) (z.1 1).toNatClampNeg)) (z.1 1).toNatClampNeg L (pps (pws z (nI k) (z.1 1).toNatClampNeg) k (nI κ) (lN (nsum (Wt z k) (z.1 1).toNatClampNeg)) (z.1 1).toNatClampNeg)).1 = z.1 ∧ (∀ s, s ≠ 27 → s < 51 → (p3 k (nI κ) (lN (nsum (Wt z k) (z.1 1).toNatClampNeg)) (z.1 1).toNatClampNeg L (pps (pws z (nI k) (z.1 1).toNatClampNeg) k (nI κ) (lN (nsum (Wt z k) (z.1 1).toNatClampNeg)) (z.1 1).toNatClampNeg)).2 s = z.2 s) ∧ ∀ i, i < 20 * k ∨ 20 * k + 20 ≤ i → (p3 k (nI κ) (lN (nsum (Wt z k) (z.1 1).toNatClampNeg)) (z.1 1).toNatClampNeg L (pps (pws z (nI k) (z.1 1).toNatClampNeg) k (nI κ) (lN (nsum (Wt z k) (z.1 1).toNatClampNeg)) (z.1 1).toNatClampNeg)).2 27 i = z.2 27 i := by
  obtain ⟨hW, hW0, hWl⟩ := sell_W R hk
  have hM := (md_inE R.2.1.2.2.2.2.1).2
  generalize hMe : (z.1 1).toNatClampNeg = M at *
  have hA2 : nsum (Wt z k) M < 2 ^ 63 := by
    have : nsum (Wt z k) M ≤ M * 400000 := nsum_le _ (fun j hj => (hW j (by omega)).2)
    omega
  have h20 : nsum (Wt z k) 20 = nsum (Wt z k) M := by
    have := nsum_0 (f := Wt z k) (m := M) (20 - M) (fun j h1 h2 => hW0 j h1 (by omega))
    rw [show M + (20 - M) = 20 by omega] at this
    exact this
  obtain ⟨s1, s2⟩ := share_L (κ := κ) hA
  generalize hF : wm c k (cf z (nI k) (z.1 5).toNatClampNeg) = F at *
  generalize hAe : nsum (Wt z k) M = A at *
  have q20 : nsum (fun x => κ * Wt z k x / A) 20 = nsum (fun x => κ * Wt z k x / A) M := by
    have := nsum_0 (f := fun x => κ * Wt z k x / A) (m := M) (20 - M) (fun j h1 h2 => by show κ * Wt z k j / A = 0; rw [hW0 j h1 (by omega), Nat.mul_zero, Nat.zero_div])
    rw [show M + (20 - M) = 20 by omega] at this
    exact this
  obtain ⟨o1, o2⟩ := ov_n hA hA2 hκ hW
  obtain ⟨yy1, yy2⟩ := pws_y (z := z) (f := nI k) M
  have y51 : ∀ x, x < M → (pws z (nI k) M).2 51 x = nI (Wt z k x) ∧ Wt z k x ≤ 400000 := fun x hx => ⟨by rw [(pws_v M (Nat.le_refl _) x hx).1, hWl], (hW x (by omega)).2⟩
  have y52 : ∀ x, x < M → (pws z (nI k) M).2 52 x = 0 := fun x hx => (pws_v M (Nat.le_refl _) x hx).2
  obtain ⟨p1, p2⟩ := plf_n hA hA2 hκ y51
  generalize hy0 : pws z (nI k) M = y0 at *
  obtain ⟨w1, w2⟩ := pps_v (k := k) (y := y0) (C := nI κ) (al := lN A) M
  have wI := pps_I (y := y0) (f := k) (c := nI κ) (al := lN A) M
  have wA := fun t (ht : t ≠ 27) => pps_A (y := y0) (f := k) (c := nI κ) (al := lN A) ht M
  have prm1 : ∀ x, x < M → prm (pps y0 k (nI κ) (lN A) M) (nI κ) (lN A) x = lN (κ * Wt z k x % A) := fun x hx => by
    rw [← (p1 x hx).2]
    unfold prm
    rw [wA 51 (by decide)]
  have rr : ∀ x, x < M → κ * Wt z k x % A < 2 ^ 63 := fun x hx => by
    have := Nat.mod_lt (κ * Wt z k x) hA
    omega
  have z52 : ∀ x, x < M → (pps y0 k (nI κ) (lN A) M).2 52 x = 0 := fun x hx => by rw [wA 52 (by decide)]; exact y52 x hx
  have rsM : ∀ x, x < M → rs (nI κ) F (lN A) 20 x = lN (κ * Wt z k x % A) := fun x hx => by rw [rs_v 20 x (by omega), (o1 x (by omega)).2.1]
  have rs0 : ∀ x, M ≤ x → x < 20 → rs (nI κ) F (lN A) 20 x = 0 := fun x h1 h2 => by
    rw [rs_v 20 x h2, (o1 x h2).2.1, hW0 x h1 h2, Nat.mul_zero, Nat.zero_mod]
    rfl
  have hd := fun (c : xR → Nat → Int32) hc => hand (c := c) (k := k) (y := pps y0 k (nI κ) (lN A) M) (C := nI κ) (al := lN A) (M := M) (r := rs (nI κ) F (lN A) 20) (rr := fun x => κ * Wt z k x % A) (by omega) rr prm1 z52 rsM rs0 hc
  refine ⟨κ - nsum (fun x => κ * Wt z k x / A) M, by omega, by omega, hA2, h20, by rw [o2 20 (Nat.le_refl _) (by rw [q20]; exact s1), q20], p2 M (Nat.le_refl _) s1, ?_, fun c2 h27 => ?_⟩
  · refine p3ok_it _ _ fun i hi => ?_
    exact (hd (fun _ x => (pps y0 k (nI κ) (lN A) M).2 27 (20 * k + x)) (fun _ _ => rfl) i (by omega)).1 (by omega)
  · rw [p3_it]
    obtain ⟨-, i1, i2, -, -, -, i6, i7⟩ := hd (ps c2 k (nI κ) F (lN A) 20) (fun x hx => by
      rw [ps_v 20 x hx, (o1 x hx).1]
      by_cases hx2 : x < M
      · rw [w1 x hx2, (p1 x hx2).1]
      · rw [w2 _ (by omega), yy2 27 (by decide), h27 x (by omega) hx, hW0 x (by omega) hx, Nat.mul_zero, Nat.zero_div]
        rfl) (κ - nsum (fun x => κ * Wt z k x / A) M) (by omega)
    refine ⟨i6, by rw [i1, wI, yy1], fun s u1 u2 => by rw [i2 s u1 (by omega), wA s u1, yy2 s u2], fun i hi => by rw [i7 i hi, w2 i (by omega), yy2 27 (by decide)]⟩
end OI
