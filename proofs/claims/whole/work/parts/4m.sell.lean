section OG
variable {g : ez_G} {h h0 h2 : ez_H} {P P2 : xP} {c c' c2 : xR → Nat → Int32} {z Z : md_S} {a b k : Nat}
def nsum (f : Nat → Nat) : Nat → Nat
  | 0 => 0
  | n + 1 => nsum f n + f n
theorem nsum_cg {f f' : Nat → Nat} : ∀ n, (∀ j, j < n → f j = f' j) → nsum f n = nsum f' n
  | 0, _ => rfl
  | n + 1, h => by rw [nsum, nsum, nsum_cg n (fun j hj => h j (by omega)), h n (by omega)]
theorem nsum_le {f : Nat → Nat} {B : Nat} : ∀ n, (∀ j, j < n → f j ≤ B) → nsum f n ≤ n * B
  | 0, _ => by rw [nsum]; omega
  | n + 1, h => by
    have := nsum_le n (fun j hj => h j (by omega))
    have := h n (by omega)
    rw [nsum, Nat.add_mul, Nat.one_mul]
    omega
theorem nsum_0 {f : Nat → Nat} {m : Nat} : ∀ d, (∀ j, m ≤ j → j < m + d → f j = 0) → nsum f (m + d) = nsum f m
  | 0, _ => rfl
  | d + 1, h => by rw [← Nat.add_assoc, nsum, nsum_0 d (fun j h1 h2 => h j h1 (by omega)), h (m + d) (by omega) (by omega)]; rfl
theorem nsum_mono {f : Nat → Nat} {m : Nat} : ∀ d, nsum f m ≤ nsum f (m + d)
  | 0 => Nat.le_refl _
  | d + 1 => by
    have := nsum_mono (f := f) (m := m) d
    rw [← Nat.add_assoc, nsum]
    omega
theorem l_sum_one {f : Nat → Int32} {S : Nat} : ∀ n, S < n → (∀ s, s < n → s ≠ S → f s = 0) → l_sum f n = f S
  | 0, h, _ => by omega
  | n + 1, h, hf => by
    rw [l_sum]
    by_cases e : S = n
    · subst e
      have : l_sum f S = l_sum (fun _ => 0) S := l_sum_cg _ fun j hj => hf j (by omega) (by omega)
      rw [this]
      have : ∀ m, l_sum (fun _ => (0 : Int32)) m = 0 := fun m => by
        induction m with
        | zero => rfl
        | succ m ih => rw [l_sum, ih]; rfl
      rw [this, Int32.zero_add]
    · rw [l_sum_one n (by omega) (fun s hs => hf s (by omega)), hf n (by omega) (fun h => e h.symm), Int32.add_zero]
/-- what a loading is worth, to whom -/
def vl (z : md_S) (j : Nat) : Int32 := z.2 33 j * (4 - z.2 14 (z.2 32 j).toNatClampNeg)
def sv (z : md_S) (s x j : Nat) : Int32 := if z.2 31 j = nI s then (if z.2 12 (z.2 32 j).toNatClampNeg = nI x then vl z j else 0) else 0
theorem aw_rel {s x : Nat} {F : Nat → Int32} (hx : x < 20) (hld : ∀ j, j < (z.1 6).toNatClampNeg → z.2 31 j = nI s → c (13, s, cn z (nI s) j) 0 = z.2 32 j ∧ c (13, s, cn z (nI s) j) 1 = z.2 33 j ∧ c (5, (z.2 32 j).toNatClampNeg, 0) 0 = z.2 12 (z.2 32 j).toNatClampNeg ∧ c (5, (z.2 32 j).toNatClampNeg, 0) 2 = z.2 14 (z.2 32 j).toNatClampNeg ∧ md_in (z.2 12 (z.2 32 j).toNatClampNeg) 20 = true) : ∀ j, j ≤ (z.1 6).toNatClampNeg → aw c s F (cn z (nI s) j) x = F x + l_sum (sv z s x) j
  | 0, _ => by rw [cn, aw, l_sum, Int32.add_zero]
  | j + 1, hj => by
    have ih := aw_rel (F := F) hx hld j (by omega)
    rw [cn, l_sum, sv]
    by_cases e : z.2 31 j = nI s
    · obtain ⟨k0, k1, k2, k3, k4⟩ := hld j (by omega) e
      have hgl : gl c s (cn z (nI s) j) = (z.2 32 j).toNatClampNeg := by unfold gl; rw [k0]
      obtain ⟨em, hm⟩ := md_inE k4
      rw [if_pos e, if_pos e, aw, hgl, k1, k2, k3]
      unfold upd
      by_cases ex : x = (z.2 12 (z.2 32 j).toNatClampNeg).toNatClampNeg
      · rw [if_pos ex, if_pos (by rw [ex]; exact em), ← ex, ih, Int32.add_assoc]
        rfl
      · rw [if_neg ex, if_neg (fun h => ex (by rw [h, nI_clamp (by omega)])), Int32.add_zero, ih]
    · rw [if_neg e, if_neg e, Int32.add_zero, ih]
def sw' (z : md_S) (k x n s : Nat) : Int32 := if z.2 28 s = nI k then (if z.2 30 s = 0 then l_sum (sv z s x) n else 0) else 0
theorem sw_ex {x : Nat} (hld : ∀ j, j < (z.1 6).toNatClampNeg → md_in (z.2 31 j) (z.1 5).toNatClampNeg = true) (h5 : (z.1 5).toNatClampNeg ≤ 40) : ∀ n, n ≤ (z.1 6).toNatClampNeg → l_sum (sw' z k x n) (z.1 5).toNatClampNeg = l_sum (pwt z (nI k) (nI x)) n
  | 0, _ => by
    have : l_sum (sw' z k x 0) (z.1 5).toNatClampNeg = l_sum (fun _ => 0) (z.1 5).toNatClampNeg := l_sum_cg _ fun s _ => by
      unfold sw'
      rw [l_sum, ite_self, ite_self]
    rw [this]
    have : ∀ m, l_sum (fun _ => (0 : Int32)) m = 0 := fun m => by
      induction m with
      | zero => rfl
      | succ m ih => rw [l_sum, ih]; rfl
    rw [this, l_sum]
  | n + 1, hn => by
    have ih := sw_ex (x := x) hld h5 n (by omega)
    obtain ⟨es, hs⟩ := md_inE (hld n (by omega))
    have e1 : l_sum (sw' z k x (n + 1)) (z.1 5).toNatClampNeg = l_sum (fun s => sw' z k x n s + (if z.2 28 s = nI k then (if z.2 30 s = 0 then sv z s x n else 0) else 0)) (z.1 5).toNatClampNeg := l_sum_cg _ fun s _ => by
      unfold sw'
      by_cases u1 : z.2 28 s = nI k
      · rw [if_pos u1, if_pos u1, if_pos u1]
        by_cases u2 : z.2 30 s = 0
        · rw [if_pos u2, if_pos u2, if_pos u2, l_sum]
        · rw [if_neg u2, if_neg u2, if_neg u2]; rfl
      · rw [if_neg u1, if_neg u1, if_neg u1]; rfl
    rw [e1, l_sum_ad, ih, l_sum, l_sum_one (S := (z.2 31 n).toNatClampNeg) _ hs]
    · congr 1
      unfold pwt sv vl
      rw [← es, if_pos rfl]
    · intro s hs1 hne
      have : sv z s x n = 0 := by
        unfold sv
        rw [if_neg (fun h => hne (by rw [h, nI_clamp (by omega)]))]
      rw [this, ite_self, ite_self]
theorem wm_rel {x : Nat} (hx : x < 20) (R : RR P c z) (hk : k < 40) : ∀ s, s ≤ (z.1 5).toNatClampNeg → wm c k (cf z (nI k) s) x = l_sum (sw' z k x (z.1 6).toNatClampNeg) s
  | 0, _ => rfl
  | s + 1, hs => by
    have ih := wm_rel hx R hk s (by omega)
    obtain ⟨⟨a1, a2, a3, a4, a5⟩, ⟨b1, b2, b3⟩, ⟨d1, d2, d3⟩, m0, m1, m7, m36⟩ := R.2.1; have r1 := R.2.2.1; have r2 := R.2.2.2.1; have r5 := R.2.2.2.2.1; have r3 := R.2.2.2.2.2.1; have r4 := R.2.2.2.2.2.2.1; have rv := R.2.2.2.2.2.2.2; have r0 := R.2.1
    obtain ⟨⟨v1, v2, v3, v4⟩, v5, v6, v7, v8, v9⟩ := r3
    have hb5 := (md_inE v2).2
    have hb6 := (md_inE r5.2.1).2
    have hM := (md_inE m1).2
    obtain ⟨y1, y2, y3, y4, y5, y6, y7, y8, -⟩ := v6 s (by omega)
    have hcn := cn_leq (z := z) (f := nI s) (z.1 6).toNatClampNeg
    rw [cf, l_sum, sw']
    by_cases e : z.2 28 s = nI k
    · rw [if_pos e, if_pos e, wm]
      rw [e, nI_clamp (by omega)] at y7
      have hms : ms c k (cf z (nI k) s) = s := by unfold ms; rw [y7, nI_clamp (by omega)]
      rw [hms, y5, y6.1, nI_clamp (by omega)]
      by_cases e2 : z.2 30 s = 0
      · rw [if_pos e2, if_pos e2, aw_rel hx (fun j hj e3 => ?_) _ (Nat.le_refl _), ih]
        have h7 := v7 j hj
        rw [e3, nI_clamp (by omega)] at h7
        obtain ⟨-, hlot, -⟩ := r5.2.2 j hj
        obtain ⟨-, ⟨x0, x1, x2, -⟩, b12, -⟩ := r2.2.2.1 _ (md_inE hlot).2
        exact ⟨h7.2.1, h7.2.2, x0, x2, md_inM b12 (by omega)⟩
      · rw [if_neg e2, if_neg e2, ih, Int32.add_zero]
    · rw [if_neg e, if_neg e, ih, Int32.add_zero]
def wf (z : md_S) (k x j : Nat) : Nat := if z.2 28 (z.2 31 j).toNatClampNeg = nI k then (if z.2 30 (z.2 31 j).toNatClampNeg = 0 then (if z.2 12 (z.2 32 j).toNatClampNeg = nI x then (z.2 33 j).toNatClampNeg * (4 - (z.2 14 (z.2 32 j).toNatClampNeg).toNatClampNeg) else 0) else 0) else 0
theorem wf_le {x j : Nat} (h : md_in (z.2 33 j) 501 = true) : wf z k x j ≤ 2000 := by
  have h1 := (md_inE h).2
  unfold wf
  repeat' split
  · exact Nat.le_trans (Nat.mul_le_mul (show (z.2 33 j).toNatClampNeg ≤ 500 by omega) (show 4 - _ ≤ 4 by omega)) (by decide)
  all_goals omega
theorem pwt_n {x : Nat} (hld : ∀ j, j < (z.1 6).toNatClampNeg → md_in (z.2 33 j) 501 = true ∧ md_in (z.2 14 (z.2 32 j).toNatClampNeg) 4 = true) : ∀ n, n ≤ (z.1 6).toNatClampNeg → l_sum (pwt z (nI k) (nI x)) n = nI (nsum (wf z k x) n)
  | 0, _ => rfl
  | n + 1, hn => by
    obtain ⟨h1, h2⟩ := hld n (by omega)
    obtain ⟨e1, i1⟩ := md_inE h1
    obtain ⟨e2, i2⟩ := md_inE h2
    have e3 : pwt z (nI k) (nI x) n = nI (wf z k x n) := by
      unfold pwt wf
      have e4 : (4 : Int32) - z.2 14 (z.2 32 n).toNatClampNeg = nI (4 - (z.2 14 (z.2 32 n).toNatClampNeg).toNatClampNeg) := by
        generalize (z.2 14 (z.2 32 n).toNatClampNeg).toNatClampNeg = y at e2 i2 ⊢
        rw [e2]
        show nI 4 - nI y = _
        conv => lhs; lhs; rw [show 4 = y + (4 - y) by omega]
        exact nI_sb
      rw [e4]
      repeat' split
      · conv => lhs; lhs; rw [e1]
        exact nI_mul _ _
      all_goals rfl
    rw [l_sum, pwt_n hld n (by omega), nsum, e3, nI_add]
theorem lN_le0 {A : Nat} (h : A < 2 ^ 63) : (lg_cmp (lN A) 0 ≤ 0) ↔ A = 0 := by
  unfold lg_cmp
  have h0 : (0 : Int64) = lN 0 := rfl
  rw [h0]
  by_cases e : A = 0
  · subst e
    simp [Int64.lt_irrefl]
  · have h1 : lN A > lN 0 := (pk_lLT (by decide) h).mpr (by omega)
    rw [if_pos h1]
    constructor
    · intro h; exact absurd h (by decide)
    · intro h; exact absurd h e
theorem lg_le {x y : Nat} (hx : x < 2 ^ 63) (hy : y < 2 ^ 63) : (lg_cmp (lN x) (lN y) ≤ 0) ↔ x ≤ y := by
  unfold lg_cmp
  by_cases e : y < x
  · rw [if_pos ((pk_lLT hy hx).mpr e)]
    constructor
    · intro h; exact absurd h (by decide)
    · intro h; omega
  · rw [if_neg (fun h => e ((pk_lLT hy hx).mp h))]
    split
    · exact ⟨fun _ => by omega, fun _ => by decide⟩
    · exact ⟨fun _ => by omega, fun _ => by decide⟩
theorem lg_m1 {x : Nat} (hx : x < 2 ^ 63) : ¬ lg_cmp (lN x) (-1) ≤ 0 := by
  unfold lg_cmp
  have : lN x > -1 := by
    show (-1 : Int64) < lN x
    rw [Int64.lt_iff_toInt_lt, pk_lT hx, show (-1 : Int64).toInt = -1 by decide]
    omega
  rw [if_pos this]
  decide
theorem lg_m2 {y : Nat} (hy : y < 2 ^ 63) : lg_cmp (-1) (lN y) ≤ 0 := by
  unfold lg_cmp
  have h1 : ¬ (-1 : Int64) > lN y := by
    intro h
    have h : lN y < -1 := h
    rw [Int64.lt_iff_toInt_lt, pk_lT hy, show (-1 : Int64).toInt = -1 by decide] at h
    omega
  rw [if_neg h1]
  split <;> decide
theorem lg_m3 : lg_cmp (-1) (-1) ≤ 0 := by decide
/-- the next coin's merchant is the same on both sides -/
theorem best_rel {y : md_S} {C : Int32} {al : Int64} {M : Nat} {r : Nat → Int64} {rr : Nat → Nat} (hrr : ∀ x, x < M → rr x < 2 ^ 63) (hp : ∀ x, x < M → prm y C al x = lN (rr x)) (hr : ∀ x, x < M → (y.2 52 x = 0 → r x = lN (rr x)) ∧ (¬ y.2 52 x = 0 → r x = -1)) (hM : M ≤ 20) : ∀ i, i ≤ M → (pbest y C al i = -1 ∧ (∀ x, x < i → ¬ y.2 52 x = 0) ∧ (0 < i → r (gB r i) = -1)) ∨ ∃ b, b < i ∧ pbest y C al i = nI b ∧ y.2 52 b = 0 ∧ gB r i = b
  | 0, _ => Or.inl ⟨rfl, fun x hx => absurd hx (by omega), fun h => absurd h (by omega)⟩
  | i + 1, hi => by
    obtain ⟨hr1, hr2⟩ := hr i (by omega)
    rcases best_rel hrr hp hr hM i (by omega) with ⟨e1, e2, e3⟩ | ⟨b, hb, e1, e2, e3⟩
    · by_cases u : y.2 52 i = 0
      · refine Or.inr ⟨i, by omega, ?_, u, ?_⟩
        · rw [pbest, if_pos u, if_pos e1]
        · rw [gB]
          by_cases hi0 : i = 0
          · rw [if_pos hi0, hi0]
          · rw [if_neg hi0, hr1 u, e3 (by omega), if_neg (lg_m1 (hrr i (by omega)))]
      · refine Or.inl ⟨?_, fun x hx => ?_, fun _ => ?_⟩
        · rw [pbest, if_neg u, e1]
        · by_cases ex : x = i
          · rw [ex]; exact u
          · exact e2 x (by omega)
        · rw [gB]
          by_cases hi0 : i = 0
          · rw [if_pos hi0]
            subst hi0
            exact hr2 u
          · rw [if_neg hi0, hr2 u, e3 (by omega), if_pos lg_m3]
            exact e3 (by omega)
    · have hbr := (hr b (by omega)).1 e2
      have q1 : (nI b).toNatClampNeg = b := nI_clamp (by omega)
      have nm := nI_nm1 (show b < 2 ^ 31 by omega)
      by_cases u : y.2 52 i = 0
      · by_cases v : rr i ≤ rr b
        · refine Or.inr ⟨b, by omega, ?_, e2, ?_⟩
          · rw [pbest, if_pos u, e1, if_neg (by rw [nm]; exact id), q1, hp i (by omega), hp b (by omega), if_pos ((lg_le (hrr i (by omega)) (hrr b (by omega))).mpr v)]
          · rw [gB, if_neg (by omega), e3, hbr, hr1 u, if_pos ((lg_le (hrr i (by omega)) (hrr b (by omega))).mpr v)]
        · refine Or.inr ⟨i, by omega, ?_, u, ?_⟩
          · rw [pbest, if_pos u, e1, if_neg (by rw [nm]; exact id), q1, hp i (by omega), hp b (by omega), if_neg (fun h => v ((lg_le (hrr i (by omega)) (hrr b (by omega))).mp h))]
          · rw [gB, if_neg (by omega), e3, hbr, hr1 u, if_neg (fun h => v ((lg_le (hrr i (by omega)) (hrr b (by omega))).mp h))]
      · refine Or.inr ⟨b, by omega, ?_, e2, ?_⟩
        · rw [pbest, if_neg u, e1]
        · rw [gB, if_neg (by omega), e3, hbr, hr2 u, if_pos (lg_m2 (hrr b (by omega)))]
theorem gB_ext {r : Nat → Int64} {M b y : Nat} (hy : y < 2 ^ 63) (hM : 0 < M) (e : gB r M = b) (hb : r b = lN y) (h0 : ∀ x, M ≤ x → x < 20 → r x = 0) : ∀ d, M + d ≤ 20 → gB r (M + d) = b
  | 0, _ => e
  | d + 1, h => by
    have ih := gB_ext hy hM e hb h0 d (by omega)
    have z0 : r (M + d) = lN 0 := h0 _ (by omega) (by omega)
    rw [← Nat.add_assoc, gB, if_neg (by omega), ih, hb, z0, if_pos ((lg_le (by decide) hy).mpr (by omega))]
/-- how many may still get a coin -/
def zc (y : md_S) : Nat → Nat
  | 0 => 0
  | i + 1 => if y.2 52 i = 0 then zc y i + 1 else zc y i
theorem zc_0 {y : md_S} : ∀ i, (∀ x, x < i → ¬ y.2 52 x = 0) → zc y i = 0
  | 0, _ => rfl
  | i + 1, h => by rw [zc, if_neg (h i (by omega)), zc_0 i (fun x hx => h x (by omega))]
theorem zc_all {y : md_S} : ∀ i, (∀ x, x < i → y.2 52 x = 0) → zc y i = i
  | 0, _ => rfl
  | i + 1, h => by rw [zc, if_pos (h i (by omega)), zc_all i (fun x hx => h x (by omega))]
theorem zc_up {y y' : md_S} {b : Nat} (e : y'.2 52 = upd (y.2 52) b 1) (hb : y.2 52 b = 0) : ∀ i, zc y i = zc y' i + (if b < i then 1 else 0)
  | 0 => rfl
  | i + 1 => by
    have ih := zc_up e hb i
    rw [zc, zc, e]
    unfold upd
    by_cases e1 : i = b
    · subst e1
      rw [if_pos hb, if_pos rfl, if_neg (show ¬ (1 : Int32) = 0 by decide), if_pos (show i < i + 1 by omega)]
      rw [if_neg (show ¬ i < i by omega)] at ih
      omega
    · rw [if_neg e1]
      by_cases e2 : b < i
      · rw [if_pos e2] at ih
        rw [if_pos (show b < i + 1 by omega)]
        split <;> omega
      · rw [if_neg e2] at ih
        rw [if_neg (show ¬ b < i + 1 by omega)]
        split <;> omega
/-- coins handed out one after the other -/
def it (f : Nat) (C : Int32) (al : Int64) (n : Nat) (y : md_S) : Nat → md_S
  | 0 => y
  | t + 1 => p3s f (it f C al n y t) (pbest (it f C al n y t) C al n).toNatClampNeg
theorem it_s {f n : Nat} {C : Int32} {al : Int64} {y : md_S} : ∀ t, it f C al n y (t + 1) = it f C al n (p3s f y (pbest y C al n).toNatClampNeg) t
  | 0 => rfl
  | t + 1 => by
    have ih := it_s (f := f) (n := n) (C := C) (al := al) (y := y) t
    rw [it, ih]
    rfl
theorem p3_it {f n : Nat} {C : Int32} {al : Int64} : ∀ t y, p3 f C al n t y = it f C al n y t
  | 0, _ => rfl
  | t + 1, y => by rw [p3, p3_it t, it_s]
theorem p3ok_it {f n : Nat} {C : Int32} {al : Int64} : ∀ t y, (∀ i, i < t → ¬ pbest (it f C al n y i) C al n = -1) → p3ok f C al n t y
  | 0, _, _ => trivial
  | t + 1, y, h => ⟨h 0 (by omega), p3ok_it t _ (fun i hi => by rw [← it_s]; exact h (i + 1) (by omega))⟩
end OG
