section OH
variable {g : ez_G} {h h0 h2 : ez_H} {P P2 : xP} {c c' c2 : xR → Nat → Int32} {z Z : md_S} {k : Nat}
theorem RR_sell (R : RR P c z) (hk : k < (z.1 4).toNatClampNeg) (Z1 : Z.1 = z.1) (Za : ∀ t, t ≠ 26 → t ≠ 27 → t < 51 → Z.2 t = z.2 t) (Z26 : Z.2 26 = upd (z.2 26) k 1) (h27 : ∀ x, x < 20 → c2 (11, k, 0) x = Z.2 27 (20 * k + x)) (ho : ∀ i, i < 20 * k ∨ 20 * k + 20 ≤ i → Z.2 27 i = z.2 27 i) (hc : ∀ r, r ≠ (10, k, 0) → r ≠ (11, k, 0) → c2 r = c r) (h10 : ∀ t, t ≠ 2 → c2 (10, k, 0) t = c (10, k, 0) t) (h102 : c2 (10, k, 0) 2 = 1) : RR P c2 Z := by
  obtain ⟨⟨a1, a2, a3, a4, a5⟩, ⟨b1, b2, b3⟩, ⟨d1, d2, d3⟩, m0, m1, m7, m36⟩ := R.2.1; have r1 := R.2.2.1; have r2 := R.2.2.2.1; have r5 := R.2.2.2.2.1; have r3 := R.2.2.2.2.2.1; have r4 := R.2.2.2.2.2.2.1; have rv := R.2.2.2.2.2.2.2; have r0 := R.2.1
  obtain ⟨⟨v1, v2, v3, v4⟩, v5, v6, v7, v8, v9⟩ := r3
  refine ⟨R.1, R0_cg r0 (hc _ (by rintro ⟨⟩) (by rintro ⟨⟩)) (hc _ (by rintro ⟨⟩) (by rintro ⟨⟩)) (hc _ (by rintro ⟨⟩) (by rintro ⟨⟩)) (hc _ (by rintro ⟨⟩) (by rintro ⟨⟩)) (hc _ (by rintro ⟨⟩) (by rintro ⟨⟩)) (hc _ (by rintro ⟨⟩) (by rintro ⟨⟩)) (by rw [Z1]) (by rw [Z1]) (by rw [Z1]) (by rw [Z1]) (by rw [Z1]) (Za _ (by decide) (by decide) (by decide)) (Za _ (by decide) (by decide) (by decide)) (Za _ (by decide) (by decide) (by decide)) (Za _ (by decide) (by decide) (by decide)) (Za _ (by decide) (by decide) (by decide)), R1_cg r1 rfl (by rw [hc _ (by rintro ⟨⟩) (by rintro ⟨⟩)]) (hc _ (by rintro ⟨⟩) (by rintro ⟨⟩)) (fun _ => hc _ (by rintro ⟨⟩) (by rintro ⟨⟩)) (by rw [Z1]) (Za _ (by decide) (by decide) (by decide)) (Za _ (by decide) (by decide) (by decide)) (Za _ (by decide) (by decide) (by decide)), R2_cg r2 rfl (by rw [hc _ (by rintro ⟨⟩) (by rintro ⟨⟩)]) (hc _ (by rintro ⟨⟩) (by rintro ⟨⟩)) (fun _ _ _ => by rw [hc _ (by rintro ⟨⟩) (by rintro ⟨⟩)]) (by rw [Z1]; exact Nat.le_refl _) (by rw [Z1]) (fun t u1 u2 => Za t (by omega) (by omega) (by omega)), R5_cg r5 (fun _ _ _ => by rw [hc _ (by rintro ⟨⟩) (by rintro ⟨⟩)]) (by rw [Z1]) (by rw [Z1]) (by rw [Z1]) (fun t u1 u2 => Za t (by omega) (by omega) (by omega)), ?_, R4_cg r4 (fun _ _ _ => rfl) (fun _ _ _ => ⟨by rw [hc _ (by rintro ⟨⟩) (by rintro ⟨⟩)], hc _ (by rintro ⟨⟩) (by rintro ⟨⟩)⟩) (fun _ _ => hc _ (by rintro ⟨⟩) (by rintro ⟨⟩)) (fun _ _ => hc _ (by rintro ⟨⟩) (by rintro ⟨⟩)) (fun _ _ => hc _ (by rintro ⟨⟩) (by rintro ⟨⟩)) (by rw [Z1]) (fun t u1 u2 => Za t (by omega) (by omega) (by omega)), RV_cg rv (by rw [Z1]) (by rw [Z1]) (by rw [Z1]) (by rw [Z1]) (by rw [Z1]) (by rw [Z1]) (Za _ (by decide) (by decide) (by decide))⟩
  have ls : ∀ {L i' n}, lsz P c L i' n → lsz P c2 L i' n := fun h => lsz_cg h rfl (by rw [hc _ (by rintro ⟨⟩) (by rintro ⟨⟩)]) (hc _ (by rintro ⟨⟩) (by rintro ⟨⟩))
  unfold R3
  rw [Z1]
  simp only [cf_cg (z1 := Z) (z := z) (Za 28 (by decide) (by decide) (by decide)), cn_cg (z1 := Z) (z := z) (Za 31 (by decide) (by decide) (by decide)), pl_in_cg (z1 := Z) (z := z) (fun t h1 h2 => Za t (by omega) (by omega) (by omega)), Z26, Za 25 (by decide) (by decide) (by decide), Za 28 (by decide) (by decide) (by decide), Za 29 (by decide) (by decide) (by decide), Za 30 (by decide) (by decide) (by decide), Za 31 (by decide) (by decide) (by decide), Za 32 (by decide) (by decide) (by decide), Za 33 (by decide) (by decide) (by decide)]
  refine ⟨⟨v1, v2, ls v3, ls v4⟩, fun f hf => ?_, fun s hs' => ?_, fun j hj => ?_, fun f hf => ?_, v9⟩
  · obtain ⟨i1, i2, i3, i4, i5, i6, i7⟩ := v5 f hf
    rw [hc (4, 3, 0) (by rintro ⟨⟩) (by rintro ⟨⟩)]
    by_cases ef : f = k
    · subst ef
      rw [h10 0 (by decide), h10 1 (by decide), h102]
      refine ⟨i1, i2, i3, pk_us.symm, ls i5, h27, fun h5 => ?_⟩
      rw [pk_us] at h5
      exact absurd h5 (by decide)
    · rw [hc (10, f, 0) (by rintro ⟨⟩; exact ef rfl) (by rintro ⟨⟩), hc (11, f, 0) (by rintro ⟨⟩) (by rintro ⟨⟩; exact ef rfl)]
      have u1 : upd (z.2 26) k 1 f = z.2 26 f := if_neg ef
      have hix : ∀ m, m < 20 → 20 * f + m < 20 * k ∨ 20 * k + 20 ≤ 20 * f + m := fun m hm => by omega
      rw [u1]
      refine ⟨i1, i2, i3, i4, ls i5, fun m hm => by rw [ho _ (hix m hm)]; exact i6 m hm, fun h5 m hm => by rw [ho _ (hix m hm)]; exact i7 h5 m hm⟩
  · obtain ⟨i1, i2, i3, i4, i5, i6, i7⟩ := v6 s hs'
    rw [hc (4, 4, 0) (by rintro ⟨⟩) (by rintro ⟨⟩), hc (4, 7, _) (by rintro ⟨⟩) (by rintro ⟨⟩), hc (12, s, 0) (by rintro ⟨⟩) (by rintro ⟨⟩)]
    exact ⟨i1, i2, i3, i4, i5, ls i6, i7⟩
  · rw [hc (4, 8, _) (by rintro ⟨⟩) (by rintro ⟨⟩), hc (13, _, _) (by rintro ⟨⟩) (by rintro ⟨⟩)]
    exact v7 j hj
  · obtain ⟨w1, w2, w3⟩ := v8 f hf
    refine ⟨w1, ?_, fun m hm => by rw [ho _ (by omega)]; exact w3 m hm⟩
    unfold upd
    rw [if_neg (by omega)]
    exact w2
/-- shares and rests -/
theorem share_id {W : Nat → Nat} {κ A : Nat} : ∀ n, A * nsum (fun x => κ * W x / A) n + nsum (fun x => κ * W x % A) n = κ * nsum W n
  | 0 => by simp [nsum]
  | n + 1 => by
    have ih := share_id (W := W) (κ := κ) (A := A) n
    have := Nat.div_add_mod (κ * W n) A
    rw [nsum, nsum, nsum, Nat.mul_add, Nat.mul_add]
    omega
theorem share_L {W : Nat → Nat} {κ M : Nat} (hA : 0 < nsum W M) : nsum (fun x => κ * W x / nsum W M) M ≤ κ ∧ κ - nsum (fun x => κ * W x / nsum W M) M < M := by
  generalize hAe : nsum W M = A at hA
  have id := share_id (W := W) (κ := κ) (A := A) M
  rw [hAe] at id
  have hr : nsum (fun x => κ * W x % A) M ≤ M * (A - 1) := nsum_le M (fun j _ => by have := Nat.mod_lt (κ * W j) hA; omega)
  generalize nsum (fun x => κ * W x / A) M = Q at *
  generalize nsum (fun x => κ * W x % A) M = S at *
  have hQ : Q ≤ κ := by
    refine Nat.le_of_mul_le_mul_left (show A * Q ≤ A * κ from ?_) hA
    rw [Nat.mul_comm A κ]
    omega
  have hM : 0 < M := by
    refine Nat.pos_of_ne_zero fun e => ?_
    subst e
    rw [nsum] at hAe
    omega
  refine ⟨hQ, ?_⟩
  refine Nat.lt_of_mul_lt_mul_left (a := A) ?_
  rw [Nat.mul_sub]
  have h1 : M * (A - 1) + M = A * M := by
    rw [Nat.mul_sub, Nat.mul_one, Nat.mul_comm M A]
    have : M ≤ A * M := Nat.le_mul_of_pos_left M hA
    omega
  rw [Nat.mul_comm A κ]
  omega
theorem la_n {f : Nat → Int32} {W : Nat → Nat} (hf : ∀ x, x < 20 → f x = nI (W x) ∧ W x < 2 ^ 31) : ∀ n, n ≤ 20 → la f n = lN (nsum W n)
  | 0, _ => rfl
  | n + 1, hn => by
    obtain ⟨e, h⟩ := hf n (by omega)
    rw [la, la_n hf n (by omega), e, nI_l h, lN_add, nsum]
theorem pal_n {f : Int32} {W : Nat → Nat} {M : Nat} (hf : ∀ x, x < M → l_sum (pwt z f (nI x)) (z.1 6).toNatClampNeg = nI (W x) ∧ W x < 2 ^ 31) : ∀ n, n ≤ M → pal z f n = lN (nsum W n)
  | 0, _ => rfl
  | n + 1, hn => by
    obtain ⟨e, h⟩ := hf n (by omega)
    rw [pal, pal_n hf n (by omega), e, nI_l h, lN_add, nsum]
theorem pws_v {f : Int32} {M : Nat} : ∀ n, n ≤ M → (∀ x, x < n → (pws z f n).2 51 x = l_sum (pwt z f (nI x)) (z.1 6).toNatClampNeg ∧ (pws z f n).2 52 x = 0)
  | 0, _, x, hx => absurd hx (by omega)
  | n + 1, hn, x, hx => by
    have ih := pws_v (f := f) (M := M) n (by omega)
    have v0 : vp_nar .boolean (0 : Int32) = 0 := by decide
    rw [pws]
    have e1 : (md_sA (md_sA (md_sA (pws z f n) 51 n 0) 52 n (vp_nar .boolean 0)) 51 n (l_sum (pwt z f (nI n)) (z.1 6).toNatClampNeg)).2 51 = upd (upd ((pws z f n).2 51) n 0) n (l_sum (pwt z f (nI n)) (z.1 6).toNatClampNeg) := by
      rw [md_A2, if_pos rfl, md_A2n (by decide), md_A2, if_pos rfl]
    have e2 : (md_sA (md_sA (md_sA (pws z f n) 51 n 0) 52 n (vp_nar .boolean 0)) 51 n (l_sum (pwt z f (nI n)) (z.1 6).toNatClampNeg)).2 52 = upd ((pws z f n).2 52) n 0 := by
      rw [md_A2n (by decide), md_A2, if_pos rfl, md_A2n (by decide), v0]
    rw [e1, e2]
    unfold upd
    by_cases ex : x = n
    · subst ex
      rw [if_pos rfl, if_pos rfl]
      exact ⟨rfl, rfl⟩
    · rw [if_neg ex, if_neg ex, if_neg ex]
      exact ih x (by omega)
theorem pps_v {y : md_S} {C : Int32} {al : Int64} : ∀ n, (∀ x, x < n → (pps y k C al n).2 27 (20 * k + x) = pq y C al x) ∧ ∀ i, i < 20 * k ∨ 20 * k + n ≤ i → (pps y k C al n).2 27 i = y.2 27 i
  | 0 => ⟨fun x hx => absurd hx (by omega), fun _ _ => rfl⟩
  | n + 1 => by
    obtain ⟨i1, i2⟩ := pps_v (y := y) (C := C) (al := al) n
    rw [pps]
    refine ⟨fun x hx => ?_, fun i hi => ?_⟩
    · rw [md_A2, if_pos rfl]
      unfold upd
      by_cases ex : x = n
      · subst ex
        rw [if_pos rfl]
      · rw [if_neg (by omega)]
        exact i1 x (by omega)
    · rw [md_A2, if_pos rfl]
      unfold upd
      rw [if_neg (by omega)]
      exact i2 i (by omega)
theorem nI_sbl {a b : Nat} (h : b ≤ a) : nI a - nI b = nI (a - b) := by
  conv => lhs; lhs; rw [show a = b + (a - b) by omega]
  exact nI_sb
theorem ov_n {f : Nat → Int32} {W : Nat → Nat} {κ A : Nat} (hA : 0 < A) (hA2 : A < 2 ^ 63) (hκ : κ ≤ 1000000) (hf : ∀ x, x < 20 → f x = nI (W x) ∧ W x ≤ 400000) : (∀ x, x < 20 → sq (nI κ) f (lN A) x = nI (κ * W x / A) ∧ sr (nI κ) f (lN A) x = lN (κ * W x % A) ∧ κ * W x < 2 ^ 63) ∧ ∀ n, n ≤ 20 → nsum (fun x => κ * W x / A) n ≤ κ → ov (nI κ) f (lN A) n = nI (κ - nsum (fun x => κ * W x / A) n) := by
  have h1 : ∀ x, x < 20 → sq (nI κ) f (lN A) x = nI (κ * W x / A) ∧ sr (nI κ) f (lN A) x = lN (κ * W x % A) ∧ κ * W x < 2 ^ 63 := fun x hx => by
    obtain ⟨e, hw⟩ := hf x hx
    have hm : κ * W x ≤ 1000000 * 400000 := Nat.mul_le_mul hκ hw
    unfold sq sr
    rw [e, nI_l (by omega), nI_l (by omega), lN_mul, pk_lRem (by omega) hA hA2, pk_lDiv (by omega) hA hA2, lN_i]
    exact ⟨rfl, rfl, by omega⟩
  refine ⟨h1, fun n => ?_⟩
  induction n with
  | zero => intro _ _; rfl
  | succ n ih =>
    intro hn hle
    have hle : nsum (fun x => κ * W x / A) n + κ * W n / A ≤ κ := hle
    have hs : nsum (fun x => κ * W x / A) (n + 1) = nsum (fun x => κ * W x / A) n + κ * W n / A := rfl
    have e1 := (h1 n (by omega)).1
    rw [hs]
    generalize κ * W n / A = e at hle e1 ⊢
    rw [ov, ih (by omega) (by omega), e1, nI_sbl (by omega)]
    congr 1
    omega
theorem plf_n {y : md_S} {W : Nat → Nat} {κ A M : Nat} (hA : 0 < A) (hA2 : A < 2 ^ 63) (hκ : κ ≤ 1000000) (hf : ∀ x, x < M → y.2 51 x = nI (W x) ∧ W x ≤ 400000) : (∀ x, x < M → pq y (nI κ) (lN A) x = nI (κ * W x / A) ∧ prm y (nI κ) (lN A) x = lN (κ * W x % A)) ∧ ∀ n, n ≤ M → nsum (fun x => κ * W x / A) n ≤ κ → plf y (nI κ) (lN A) n = nI (κ - nsum (fun x => κ * W x / A) n) := by
  have h1 : ∀ x, x < M → pq y (nI κ) (lN A) x = nI (κ * W x / A) ∧ prm y (nI κ) (lN A) x = lN (κ * W x % A) := fun x hx => by
    obtain ⟨e, hw⟩ := hf x hx
    have hm : κ * W x ≤ 1000000 * 400000 := Nat.mul_le_mul hκ hw
    unfold pq prm
    rw [e, nI_l (by omega), nI_l (by omega), lN_mul, pk_lRem (by omega) hA hA2, pk_lDiv (by omega) hA hA2, lN_i]
    exact ⟨rfl, rfl⟩
  refine ⟨h1, fun n => ?_⟩
  induction n with
  | zero => intro _ _; rfl
  | succ n ih =>
    intro hn hle
    have hle : nsum (fun x => κ * W x / A) n + κ * W n / A ≤ κ := hle
    have hs : nsum (fun x => κ * W x / A) (n + 1) = nsum (fun x => κ * W x / A) n + κ * W n / A := rfl
    have e1 := (h1 n (by omega)).1
    rw [hs]
    generalize κ * W n / A = e at hle e1 ⊢
    rw [plf, ih (by omega) (by omega), e1, nI_sbl (by omega)]
    congr 1
    omega
theorem ps_v {C : Int32} {al : Int64} {f : Nat → Int32} : ∀ n x, x < n → ps c k C f al n (11, k, 0) x = sq C f al x
  | 0, x, hx => absurd hx (by omega)
  | n + 1, x, hx => by
    rw [ps, xu_s]
    by_cases ex : x = n
    · rw [if_pos ex, ex]
    · rw [if_neg ex]
      exact ps_v n x (by omega)
theorem rs_v {C : Int32} {al : Int64} {f : Nat → Int32} : ∀ n x, x < n → rs C f al n x = sr C f al x
  | 0, x, hx => absurd hx (by omega)
  | n + 1, x, hx => by
    rw [rs]
    unfold vp_updL
    by_cases ex : x = n
    · rw [if_pos ex, ex]
    · rw [if_neg ex]
      exact rs_v n x (by omega)
theorem ho_n {r : Nat → Int64} {r' : xR} (hr : r' ≠ (11, k, 0)) : ∀ t, (ho c k r t).1 r' = c r'
  | 0 => rfl
  | t + 1 => by
    rw [ho]
    dsimp only
    rw [xu_n hr, ho_n hr t]
/-- hand by hand -/
theorem hand {y : md_S} {C : Int32} {al : Int64} {M : Nat} {r : Nat → Int64} {rr : Nat → Nat} (hM : M ≤ 20) (hrr : ∀ x, x < M → rr x < 2 ^ 63) (hp : ∀ x, x < M → prm y C al x = lN (rr x)) (h0 : ∀ x, x < M → y.2 52 x = 0) (hr : ∀ x, x < M → r x = lN (rr x)) (hr0 : ∀ x, M ≤ x → x < 20 → r x = 0) (hc : ∀ x, x < 20 → c (11, k, 0) x = y.2 27 (20 * k + x)) : ∀ t, t < M + 1 → (t < M → ¬ pbest (it k C al M y t) C al M = -1) ∧ (it k C al M y t).1 = y.1 ∧ (∀ s, s ≠ 27 → s ≠ 52 → (it k C al M y t).2 s = y.2 s) ∧ zc (it k C al M y t) M + t = M ∧ (∀ x, x < M → ((it k C al M y t).2 52 x = 0 → (ho c k r t).2 x = lN (rr x)) ∧ (¬ (it k C al M y t).2 52 x = 0 → (ho c k r t).2 x = -1)) ∧ (∀ x, M ≤ x → x < 20 → (ho c k r t).2 x = 0) ∧ (∀ x, x < 20 → (ho c k r t).1 (11, k, 0) x = (it k C al M y t).2 27 (20 * k + x)) ∧ ∀ i, i < 20 * k ∨ 20 * k + 20 ≤ i → (it k C al M y t).2 27 i = y.2 27 i := by
  have npb : ∀ (Y : md_S), (∀ s, s ≠ 27 → s ≠ 52 → Y.2 s = y.2 s) → ∀ (r' : Nat → Int64), (∀ x, x < M → (Y.2 52 x = 0 → r' x = lN (rr x)) ∧ (¬ Y.2 52 x = 0 → r' x = -1)) → 0 < zc Y M → ∃ b, b < M ∧ pbest Y C al M = nI b ∧ Y.2 52 b = 0 ∧ gB r' M = b := fun Y hY r' hr' hz => by
    have hpY : ∀ x, x < M → prm Y C al x = lN (rr x) := fun x hx => by
      rw [← hp x hx]
      unfold prm
      rw [hY 51 (by decide) (by decide)]
    rcases best_rel hrr hpY hr' hM M (Nat.le_refl _) with ⟨e1, e2, -⟩ | h
    · rw [zc_0 M e2] at hz
      omega
    · exact h
  intro t
  induction t with
  | zero =>
    intro _
    have hz : zc y M = M := zc_all M h0
    have hr' : ∀ x, x < M → (y.2 52 x = 0 → r x = lN (rr x)) ∧ (¬ y.2 52 x = 0 → r x = -1) := fun x hx => ⟨fun _ => hr x hx, fun h => absurd (h0 x hx) h⟩
    refine ⟨fun hlt => ?_, rfl, fun _ _ _ => rfl, ?_, hr', hr0, hc, fun _ _ => rfl⟩
    · obtain ⟨b, hb, e, -⟩ := npb y (fun _ _ _ => rfl) r hr' (by omega)
      show ¬ pbest y C al M = -1
      rw [e, nI_nm1 (by omega)]
      exact id
    · show zc y M + 0 = M
      omega
  | succ t ih =>
    intro ht
    obtain ⟨-, i1, i2, i3, i4, i5, i6, i7⟩ := ih (by omega)
    obtain ⟨b, hb, eb, eb0, eg⟩ := npb _ i2 _ i4 (by omega)
    have q1 : (nI b).toNatClampNeg = b := nI_clamp (by omega)
    have eg20 : gB (ho c k r t).2 20 = b := by
      have := gB_ext (hrr b hb) (by omega) eg ((i4 b hb).1 eb0) i5 (20 - M) (by omega)
      rw [show M + (20 - M) = 20 by omega] at this
      exact this
    have v1 : vp_nar .boolean (1 : Int32) = 1 := vb1
    have eY : it k C al M y (t + 1) = p3s k (it k C al M y t) b := by rw [it, eb, q1]
    generalize it k C al M y t = Y at *
    have Y52 : (p3s k Y b).2 52 = upd (Y.2 52) b 1 := by
      unfold p3s
      rw [md_A2n (by decide), md_A2, if_pos rfl, v1]
    have Y27 : (p3s k Y b).2 27 = upd (Y.2 27) (20 * k + b) (Y.2 27 (20 * k + b) + 1) := by
      unfold p3s
      rw [md_A2, if_pos rfl, md_A2n (by decide)]
    have Yo : ∀ s, s ≠ 27 → s ≠ 52 → (p3s k Y b).2 s = Y.2 s := fun s u1 u2 => by
      unfold p3s
      rw [md_A2n u1, md_A2n u2]
    have j3 : zc (p3s k Y b) M + (t + 1) = M := by
      have := zc_up Y52 eb0 M
      rw [if_pos hb] at this
      omega
    have j2 : ∀ s, s ≠ 27 → s ≠ 52 → (p3s k Y b).2 s = y.2 s := fun s u1 u2 => (Yo s u1 u2).trans (i2 s u1 u2)
    have j4 : ∀ x, x < M → ((p3s k Y b).2 52 x = 0 → vp_updL (ho c k r t).2 b (-1) x = lN (rr x)) ∧ (¬ (p3s k Y b).2 52 x = 0 → vp_updL (ho c k r t).2 b (-1) x = -1) := fun x hx => by
      rw [Y52]
      unfold upd vp_updL
      by_cases ex : x = b
      · rw [if_pos ex, if_pos ex]
        exact ⟨fun h => absurd h (by decide), fun _ => rfl⟩
      · rw [if_neg ex, if_neg ex]
        exact i4 x hx
    rw [eY, ho, eg20]
    dsimp only
    refine ⟨fun hlt => ?_, i1, j2, j3, j4, fun x h1 h2 => ?_, fun x hx => ?_, fun i hi => ?_⟩
    · obtain ⟨b', hb', e', -⟩ := npb _ j2 _ j4 (by omega)
      rw [e', nI_nm1 (by omega)]
      exact id
    · unfold vp_updL
      rw [if_neg (by omega)]
      exact i5 x h1 h2
    · rw [xu_s, Y27]
      unfold upd
      by_cases ex : x = b
      · subst ex
        rw [if_pos rfl, if_pos rfl, i6 x hx]
      · rw [if_neg ex, if_neg (by omega)]
        exact i6 x hx
    · rw [Y27]
      unfold upd
      rw [if_neg (by omega)]
      exact i7 i hi
end OH
