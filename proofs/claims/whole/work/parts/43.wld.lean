section WL
variable {g : ez_G} {h h0 : ez_H} {P : xP} {c : xR → Nat → Int32} {r : xR} {a : Nat} {f : Nat → Int32}
theorem xrd_0 {r r' : xR} (h : xrd r r' f) : r'.1 ≠ 0 := by
  obtain ⟨k, i, j⟩ := r
  unfold xrd at h
  split at h
  · rcases h with e | e | e | e | e | e | e | e | e | e <;> (subst e; exact (by decide))
  · subst h; exact (show 4 ≠ 0 by decide)
  · obtain ⟨q, _, e⟩ := h; subst e; exact xel_4.2
  · rcases h with e | e <;> (subst e; exact (show 3 ≠ 0 by decide))
  · subst h; exact (show 9 ≠ 0 by decide)
  · rcases h with e | e
    · subst e; exact (show 3 ≠ 0 by decide)
    · subst e; exact (show 11 ≠ 0 by decide)
  · rcases h with e | e
    · subst e; exact (show 10 ≠ 0 by decide)
    · subst e; exact (show 3 ≠ 0 by decide)
  · subst h; exact (show 5 ≠ 0 by decide)
  · subst h; exact (show 16 ≠ 0 by decide)
  · exact h.elim
/-- live cells refer to live ones -/
def xcl (P : xP) (c : xR → Nat → Int32) : Prop := ∀ r r', r.1 ≠ 0 → lv P r → xrd r r' (c r) → xct P r → lv P r'
def xw (h0 : ez_H) (P : xP) (c : xR → Nat → Int32) : Prop := xok P ∧ (∀ q, h0.2.1 ≤ q → (P.2.1 q).1 = 0) ∧ xcl P c ∧ h0.1 P.1 = some (.inl (14, 0, .inr (.inr (.inr (.inr (fun _ => none)))))) ∧ (P.2.1 P.1).1 = 0 ∧ P.1 < h0.2.1
theorem xw_cl (w : xw h0 P c) {r r' : xR} (hl : lv P r) (hr : xrd r r' (c r)) (h0 : r.1 ≠ 0) (h3 : r.1 ≠ 3) : lv P r' := w.2.2.1 r r' h0 hl hr (fun e => absurd e h3)
theorem xw_4 (w : xw h0 P c) {L i : Nat} (hl : lv P (3, L, i)) (hc : P.2.2.2 (3, L, i) ≠ 0) : lv P (4, L, i) := w.2.2.1 (3, L, i) (4, L, i) (show 3 ≠ 0 by decide) hl rfl (fun _ => hc)
theorem xw_el (w : xw h0 P c) {L i j v : Nat} (hl : lv P (4, L, i)) (hv : v < 2 ^ 31) (he : c (4, L, i) j = nI v) : lv P (xel L i v) := by
  refine xw_cl w hl ⟨j, ?_, ?_⟩ (show 4 ≠ 0 by decide) (show 4 ≠ 3 by decide)
  · rw [he, nI_nm1 hv]; exact id
  · rw [he, nI_clamp hv]
/-- outside nothing changes -/
def xfr (h0 : ez_H) (P : xP) (h1 : ez_H) (P1 : xP) (a b : Nat) : Prop := P1.1 = P.1 ∧ h0.2.1 ≤ h1.2.1 ∧ h1.2.1 ≤ h0.2.1 + a ∧ h0.2.2 ≤ h1.2.2 ∧ h1.2.2 ≤ h0.2.2 + b ∧ ∀ q, q < h0.2.1 → (P.2.1 q).1 = 0 → (P1.2.1 q).1 = 0 ∧ h1.1 q = h0.1 q
theorem xfr_r {a b : Nat} : xfr h0 P h0 P a b := ⟨rfl, Nat.le_refl _, Nat.le_add_right _ _, Nat.le_refl _, Nat.le_add_right _ _, fun _ _ h => ⟨h, rfl⟩⟩
theorem xfr_t {h1 h2 : ez_H} {P1 P2 : xP} {a b a' b' : Nat} (x : xfr h0 P h1 P1 a b) (y : xfr h1 P1 h2 P2 a' b') : xfr h0 P h2 P2 (a + a') (b + b') := by
  obtain ⟨x1, x2, x3, x4, x5, x6⟩ := x
  obtain ⟨y1, y2, y3, y4, y5, y6⟩ := y
  refine ⟨y1.trans x1, by omega, by omega, by omega, by omega, fun q hq h => ?_⟩
  obtain ⟨u1, u2⟩ := x6 q hq h
  obtain ⟨v1, v2⟩ := y6 q (by omega) u1
  exact ⟨v1, v2.trans u2⟩
theorem xfr_w {h1 : ez_H} {P1 : xP} {a b a' b' : Nat} (x : xfr h0 P h1 P1 a b) (ha : a ≤ a') (hb : b ≤ b') : xfr h0 P h1 P1 a' b' := by
  obtain ⟨x1, x2, x3, x4, x5, x6⟩ := x
  exact ⟨x1, x2, by omega, x4, by omega, x6⟩
theorem xw_u {s : Nat} {v : Int32} (w : xw h0 P c) (h4 : r.1 ≠ 4) (h5 : r.1 = 12 ∨ r.1 = 13 → s ≠ 0) : xw h0 P (xu c r s v) := by
  obtain ⟨w1, w2, w3, w4⟩ := w
  refine ⟨w1, w2, ?_, w4⟩
  intro r2 r' hr hl hx ht
  refine w3 r2 r' hr hl ?_ ht
  by_cases e : r2 = r
  · subst e
    have e2 : xu c r2 s v r2 = upd (c r2) s v := if_pos rfl
    rw [e2] at hx
    obtain ⟨k, i, j⟩ := r2
    have h4 : k ≠ 4 := h4
    have h5 : k = 12 ∨ k = 13 → s ≠ 0 := h5
    unfold xrd at hx ⊢
    split at hx
    · exact hx
    · exact hx
    · next e => cases e; exact absurd rfl h4
    · exact hx
    · exact hx
    · exact hx
    · next e =>
      cases e
      have : upd (c (12, i, j)) s v 0 = c (12, i, j) 0 := if_neg (fun e => h5 (Or.inl rfl) e.symm)
      rw [this] at hx
      exact hx
    · next e =>
      cases e
      have : upd (c (13, i, j)) s v 0 = c (13, i, j) 0 := if_neg (fun e => h5 (Or.inr rfl) e.symm)
      rw [this] at hx
      exact hx
    · exact hx
    · exact hx
  · rw [xu_n e] at hx
    exact hx
theorem xw_u4 {L i n v : Nat} (w : xw h0 P c) (hv : v < 2 ^ 31) (hl : lv P (xel L i v)) : xw h0 P (xu c (4, L, i) n (nI v)) := by
  obtain ⟨w1, w2, w3, w4⟩ := w
  refine ⟨w1, w2, ?_, w4⟩
  intro r2 r' hr hl2 hx ht
  by_cases e : r2 = (4, L, i)
  · subst e
    have e2 : xu c (4, L, i) n (nI v) (4, L, i) = upd (c (4, L, i)) n (nI v) := if_pos rfl
    rw [e2] at hx
    obtain ⟨q, h1, h2⟩ := hx
    by_cases hq : q = n
    · subst hq
      rw [pk_us, nI_clamp hv] at h2
      rw [h2]
      exact hl
    · have e3 : upd (c (4, L, i)) n (nI v) q = c (4, L, i) q := if_neg hq
      rw [e3] at h1 h2
      exact w3 (4, L, i) r' hr hl2 ⟨q, h1, h2⟩ ht
  · rw [xu_n e] at hx
    exact w3 r2 r' hr hl2 hx ht
/-! A new role. -/
def pad (P : xP) (r : xR) (a : Nat) : xP := (P.1, fun q => if q = a then r else if P.2.1 q = r then (0, 0, 0) else P.2.1 q, fun r' => if r' = r then a else P.2.2.1 r', fun r' => if r' = r then 0 else P.2.2.2 r')
def had (h0 : ez_H) (P : xP) (c : xR → Nat → Int32) (r : xR) : ez_H := (fun q => if P.2.1 q = r then ce P r (c r) else h0.1 q, h0.2)
def xs (c : xR → Nat → Int32) (r : xR) (f : Nat → Int32) : xR → Nat → Int32 := fun r' => if r' = r then f else c r'
theorem pad_a {r' : xR} (h : r' ≠ r) : (pad P r a).2.2.1 r' = P.2.2.1 r' := if_neg h
theorem pad_r : (pad P r a).2.2.1 r = a := if_pos rfl
theorem pad_c {r' : xR} (h : r' ≠ r) : (pad P r a).2.2.2 r' = P.2.2.2 r' := if_neg h
theorem pad_0 : (pad P r a).2.2.2 r = 0 := if_pos rfl
theorem lv_pad {r' : xR} (ha : (P.2.1 a).1 = 0) (h0 : r'.1 ≠ 0) (h : r' ≠ r) : lv (pad P r a) r' ↔ lv P r' := by
  unfold lv
  rw [pad_a h]
  show (if P.2.2.1 r' = a then r else if P.2.1 (P.2.2.1 r') = r then (0, 0, 0) else P.2.1 (P.2.2.1 r')) = r' ↔ _
  by_cases h1 : P.2.2.1 r' = a
  · rw [if_pos h1, h1]
    constructor
    · exact fun e => absurd e.symm h
    · intro e
      rw [e] at ha
      exact absurd ha h0
  · rw [if_neg h1]
    by_cases h2 : P.2.1 (P.2.2.1 r') = r
    · rw [if_pos h2, h2]
      constructor
      · intro e
        rw [← e] at h0
        exact absurd rfl h0
      · exact fun e => absurd e.symm h
    · rw [if_neg h2]
theorem lv_pad_r : lv (pad P r a) r := by
  unfold lv
  rw [pad_r]
  exact if_pos rfl
theorem xh_ad (w : xw h0 P c) (hr : r.1 ≠ 0) (hr4 : r.1 ≠ 4) (ha : (P.2.1 a).1 = 0) (he : h0.1 a = ce (pad P r a) r f) (hn : ∀ r2, r2.1 ≠ 0 → r2 ≠ r → lv P r2 → xct P r2 → ¬ xrd r2 r (c r2)) (h4 : r.1 = 3 → ¬ lv P (4, r.2)) : xh h0 P c = xh (had h0 P c r) (pad P r a) (xs c r f) := by
  unfold xh
  refine Prod.ext ?_ rfl
  funext q
  dsimp only
  show _ = if (if q = a then r else if P.2.1 q = r then (0, 0, 0) else P.2.1 q).1 = 0 then (if P.2.1 q = r then ce P r (c r) else h0.1 q) else ce (pad P r a) (if q = a then r else if P.2.1 q = r then (0, 0, 0) else P.2.1 q) (xs c r f (if q = a then r else if P.2.1 q = r then (0, 0, 0) else P.2.1 q))
  by_cases hq : q = a
  · subst hq
    rw [if_pos rfl, if_neg hr, if_pos ha, he]
    have : xs c r f r = f := if_pos rfl
    rw [this]
  · rw [if_neg hq]
    by_cases h2 : P.2.1 q = r
    · rw [if_pos h2, if_pos rfl, if_pos h2, if_neg (by rw [h2]; exact hr), h2]
    · rw [if_neg h2, if_neg h2]
      by_cases h3 : (P.2.1 q).1 = 0
      · rw [if_pos h3, if_pos h3]
      · rw [if_neg h3, if_neg h3]
        have e1 : xs c r f (P.2.1 q) = c (P.2.1 q) := if_neg h2
        have hl : lv P (P.2.1 q) := by unfold lv; rw [w.1 q h3]
        rw [e1]
        symm
        refine ce_cg rfl ?_ ?_ ?_
        · intro r' hx ht
          exact pad_a (fun e => hn _ h3 h2 hl ht (by rw [← e]; exact hx))
        · intro _
          exact pad_c h2
        · intro e4
          refine pad_c ?_
          intro e
          have e3 : r.1 = 3 := by rw [← e]
          apply h4 e3
          have : (4, r.2) = P.2.1 q := by rw [← e]; exact Prod.ext e4.symm rfl
          rw [this]
          exact hl
theorem xw_ad (w : xw h0 P c) (hr : r.1 ≠ 0) (hr4 : r.1 ≠ 4) (ha : (P.2.1 a).1 = 0) (hal : a < h0.2.1) (hae : a ≠ P.1) (hn : ∀ r2, r2.1 ≠ 0 → r2 ≠ r → lv P r2 → xct P r2 → ¬ xrd r2 r (c r2)) (hf : ∀ r', xrd r r' f → r.1 ≠ 3 → r' ≠ r ∧ lv P r') : xw (had h0 P c r) (pad P r a) (xs c r f) := by
  obtain ⟨w1, w2, w3, w4, w5, w6⟩ := w
  refine ⟨?_, ?_, ?_, ?_, ?_, w6⟩
  · intro q
    show (if q = a then r else if P.2.1 q = r then (0, 0, 0) else P.2.1 q).1 ≠ 0 → (pad P r a).2.2.1 (if q = a then r else if P.2.1 q = r then (0, 0, 0) else P.2.1 q) = q
    by_cases hq : q = a
    · rw [if_pos hq, pad_r]
      exact fun _ => hq.symm
    · rw [if_neg hq]
      by_cases h2 : P.2.1 q = r
      · rw [if_pos h2]
        exact fun h => absurd rfl h
      · rw [if_neg h2, pad_a h2]
        exact w1 q
  · intro q hq
    have hq : h0.2.1 ≤ q := hq
    show (if q = a then r else if P.2.1 q = r then (0, 0, 0) else P.2.1 q).1 = 0
    rw [if_neg (by omega), if_neg (fun e => hr (by rw [← e]; exact w2 q hq))]
    exact w2 q hq
  · intro r2 r' hr2 hl hx ht
    by_cases e : r2 = r
    · subst e
      have e1 : xs c r2 f r2 = f := if_pos rfl
      rw [e1] at hx
      by_cases h3 : r2.1 = 3
      · exact absurd pad_0 (ht h3)
      · obtain ⟨u1, u2⟩ := hf r' hx h3
        exact (lv_pad ha (xrd_0 hx) u1).mpr u2
    · have e1 : xs c r f r2 = c r2 := if_neg e
      rw [e1] at hx
      have hl2 := (lv_pad ha hr2 e).mp hl
      have ht2 : xct P r2 := by
        intro h3
        have := ht h3
        rw [pad_c e] at this
        exact this
      have hl3 := w3 r2 r' hr2 hl2 hx ht2
      refine (lv_pad ha (xrd_0 hx) ?_).mpr hl3
      intro e3
      subst e3
      exact hn r2 hr2 e hl2 ht2 hx
  · show (if P.2.1 P.1 = r then _ else h0.1 P.1) = _
    rw [if_neg (fun e => hr (by rw [← e]; exact w5))]
    exact w4
  · show (if P.1 = a then r else if P.2.1 P.1 = r then (0, 0, 0) else P.2.1 P.1).1 = 0
    rw [if_neg (fun e => hae e.symm), if_neg (fun e => hr (by rw [← e]; exact w5))]
    exact w5
/-! Roles given up. -/
def pdr (P : xP) (S : xR → Bool) : xP := (P.1, fun q => if S (P.2.1 q) = true then (0, 0, 0) else P.2.1 q, P.2.2.1, P.2.2.2)
def hdr (h0 : ez_H) (P : xP) (c : xR → Nat → Int32) (S : xR → Bool) : ez_H := (fun q => if S (P.2.1 q) = true then (xh h0 P c).1 q else h0.1 q, h0.2)
theorem xh_dr {S : xR → Bool} : xh h0 P c = xh (hdr h0 P c S) (pdr P S) c := by
  refine Prod.ext ?_ rfl
  funext q
  show (xh h0 P c).1 q = if (if S (P.2.1 q) = true then (0, 0, 0) else P.2.1 q).1 = 0 then (if S (P.2.1 q) = true then (xh h0 P c).1 q else h0.1 q) else ce P (if S (P.2.1 q) = true then (0, 0, 0) else P.2.1 q) (c (if S (P.2.1 q) = true then (0, 0, 0) else P.2.1 q))
  by_cases h : S (P.2.1 q) = true
  · rw [if_pos h, if_pos h, if_pos rfl]
  · rw [if_neg h, if_neg h]
    rfl
theorem lv_dr {S : xR → Bool} (h0 : r.1 ≠ 0) : lv (pdr P S) r ↔ lv P r ∧ S r = false := by
  unfold lv
  show (if S (P.2.1 (P.2.2.1 r)) = true then (0, 0, 0) else P.2.1 (P.2.2.1 r)) = r ↔ _
  by_cases h : S (P.2.1 (P.2.2.1 r)) = true
  · rw [if_pos h]
    constructor
    · intro e
      rw [← e] at h0
      exact absurd rfl h0
    · rintro ⟨e, h2⟩
      rw [e, h2] at h
      cases h
  · rw [if_neg h]
    constructor
    · intro e
      refine ⟨e, ?_⟩
      rw [e] at h
      exact Bool.eq_false_iff.mpr h
    · exact fun e => e.1
theorem xw_dr {S : xR → Bool} (w : xw h0 P c) (hS : ∀ r r', r.1 ≠ 0 → lv P r → S r = false → xrd r r' (c r) → xct P r → S r' = false) : xw (hdr h0 P c S) (pdr P S) c := by
  obtain ⟨w1, w2, w3, w4, w5, w6⟩ := w
  have e5 : (if S (P.2.1 P.1) = true then ((0, 0, 0) : xR) else P.2.1 P.1).1 = 0 := by
    split
    · rfl
    · exact w5
  refine ⟨?_, ?_, ?_, ?_, e5, w6⟩
  · intro q
    show (if S (P.2.1 q) = true then (0, 0, 0) else P.2.1 q).1 ≠ 0 → P.2.2.1 (if S (P.2.1 q) = true then (0, 0, 0) else P.2.1 q) = q
    split
    · exact fun h => absurd rfl h
    · exact w1 q
  · intro q hq
    show (if S (P.2.1 q) = true then ((0, 0, 0) : xR) else P.2.1 q).1 = 0
    split
    · rfl
    · exact w2 q hq
  · intro r r' hr hl hx ht
    obtain ⟨u1, u2⟩ := (lv_dr hr).mp hl
    exact (lv_dr (xrd_0 hx)).mpr ⟨w3 r r' hr u1 hx ht, hS r r' hr u1 u2 hx ht⟩
  · show (if S (P.2.1 P.1) = true then (xh h0 P c).1 P.1 else h0.1 P.1) = _
    split
    · rw [xh_o w5]
      exact w4
    · exact w4
theorem xfr_dr {S : xR → Bool} {a b : Nat} : xfr h0 P (hdr h0 P c S) (pdr P S) a b := by
  refine ⟨rfl, Nat.le_refl _, Nat.le_add_right _ _, Nat.le_refl _, Nat.le_add_right _ _, fun q _ h => ⟨?_, ?_⟩⟩
  · show (if S (P.2.1 q) = true then ((0, 0, 0) : xR) else P.2.1 q).1 = 0
    split
    · rfl
    · exact h
  · show (if S (P.2.1 q) = true then (xh h0 P c).1 q else h0.1 q) = _
    split
    · exact xh_o h
    · rfl
end WL
section AD2
variable {g : ez_G} {h h0 : ez_H} {P : xP} {c : xR → Nat → Int32} {L i n v : Nat}
theorem ofN {n : Nat} : Int32.ofNat n = nI n := id rfl
/-- a list of n things -/
def lsz (P : xP) (c : xR → Nat → Int32) (L i n : Nat) : Prop := c (3, L, i) 2 = nI n ∧ n ≤ P.2.2.2 (3, L, i) ∧ P.2.2.2 (3, L, i) ≤ 1000 ∧ ∀ j, n ≤ j → c (4, L, i) j = -1
theorem lsz_s (w : xw h0 P c) (hl : lv P (3, L, i)) (hs : lsz P c L i n) : xls P c L i n := ⟨hl, hs.1, hs.2.1, hs.2.2.1, fun h => xw_4 w hl h, hs.2.2.2⟩
theorem g_get {j : Nat} (w : xw h0 P c) (hl : lv P (3, L, i)) (hs : lsz P c L i n) (hj : j < n) (hv : v < 2 ^ 31) (he : c (4, L, i) j = nI v) : ez_ev g 153 [.ref (P.2.2.1 (3, L, i)), .int (nI j)] (xh h0 P c) = some (some (.ref (P.2.2.1 (xel L i v))), xh h0 P c) ∧ lv P (xel L i v) := by
  refine ⟨q_get (lsz_s w hl hs) hj hv he, ?_⟩
  have := hs.2.1
  exact xw_el w (xw_4 w hl (by omega)) hv he
/-- what a list's growing changes -/
def xgr (h0 : ez_H) (P : xP) (h1 : ez_H) (P1 : xP) (L i : Nat) : Prop := (∀ r, r ≠ (4, L, i) → P1.2.2.1 r = P.2.2.1 r) ∧ (∀ r, r.1 ≠ 0 → r ≠ (4, L, i) → (lv P1 r ↔ lv P r)) ∧ (∀ r, r ≠ (3, L, i) → P1.2.2.2 r = P.2.2.2 r) ∧ xfr h0 P h1 P1 1 400
theorem xgr_r : xgr h0 P h0 P L i := ⟨fun _ _ => rfl, fun _ _ _ => Iff.rfl, fun _ _ => rfl, xfr_r⟩
theorem xq4 (ok : xok P) (hl : lv P (4, L, i)) (hn : n < 2 ^ 31) (hv : v < 2 ^ 31) : ez_hs (xh h0 P c) (P.2.2.1 (4, L, i)) (ez_uQ ((xh h0 P c).1 (P.2.2.1 (4, L, i))) (nI n) (P.2.2.1 (xel L i v))) = xh h0 P (xu c (4, L, i) n (nI v)) := by
  rw [xh4 hl]
  refine xh_set (f := upd (c (4, L, i)) n (nI v)) ok hl (show 4 ≠ 0 by decide) ?_
  show some (Sum.inl (4, P.2.2.2 (3, L, i), Sum.inr (Sum.inr (Sum.inr (Sum.inr (xrf P L i (upd (c (4, L, i)) n (nI v)))))))) = some (Sum.inl (4, P.2.2.2 (3, L, i), Sum.inr (Sum.inr (Sum.inr (Sum.inr (va_up (xrf P L i (c (4, L, i))) (nI n).toNatClampNeg (some (P.2.2.1 (xel L i v)))))))))
  have : xrf P L i (upd (c (4, L, i)) n (nI v)) = va_up (xrf P L i (c (4, L, i))) (nI n).toNatClampNeg (some (P.2.2.1 (xel L i v))) := by
    funext q
    rw [nI_clamp hn]
    unfold xrf va_up
    by_cases hq : q = n
    · subst hq
      rw [pk_us, if_pos rfl, if_neg (by rw [nI_nm1 hv]; exact id), nI_clamp hv]
    · have e3 : upd (c (4, L, i)) n (nI v) q = c (4, L, i) q := if_neg hq
      rw [e3, if_neg hq]
  rw [this]
theorem is4 (hl : lv P (4, L, i)) (hn : n < P.2.2.2 (3, L, i)) (h2 : n < 2 ^ 31) : ez_isQ ((xh h0 P c).1 (P.2.2.1 (4, L, i))) (nI n) = true := by
  rw [xh4 hl]
  show (4 == 4 && (decide (¬ nI n < 0) && decide ((nI n).toNatClampNeg < P.2.2.2 (3, L, i)))) = true
  rw [nI_clamp h2, decide_eq_true (nI_pos h2), decide_eq_true hn]
  rfl
theorem n4 (hl : lv P (4, L, i)) : ez_isN ((xh h0 P c).1 (P.2.2.1 (4, L, i))) = true ∧ ez_vN ((xh h0 P c).1 (P.2.2.1 (4, L, i))) = P.2.2.2 (3, L, i) := by
  rw [xh4 hl]
  exact ⟨rfl, rfl⟩
/-- the last part of add -/
theorem lq_154 (w : xw h0 P c) (hl : lv P (3, L, i)) (h4 : lv P (4, L, i)) (hn : n < P.2.2.2 (3, L, i)) (h2 : n < 2 ^ 31) (hv : v < 2 ^ 31) (hx : lv P (xel L i v)) : ez_rn g 154 11 [some (.ref (P.2.2.1 (3, L, i))), some (.ref (P.2.2.1 (xel L i v))), some (.ref (P.2.2.1 (4, L, i))), some (.int (nI n))] [] (xh h0 P c) = some (none, xh h0 P (xu (xu c (4, L, i) n (nI v)) (3, L, i) 2 (nI (n + 1)))) := by
  have ok := w.1
  have q1 := is4 (h0 := h0) (c := c) h4 hn h2
  have q2 := xel_any (h0 := h0) (c := c) hx
  have q3 := xq4 (h0 := h0) (c := c) ok h4 h2 hv
  simp only [s154_0, s154_1, s154_1n, s154_2, s154_3, s154_6, s154_7, s154_10, s154_11, s154_11n, s154_12, s154_13, s154_13n, s154_14, s154_15, s154_16, s154_17, s154_18, s154_19, s154_22, zl_n, zl_i, zl_r, zl_0, z10, z01, ez_bd_s, ez_bd_n, eq_self, true_or, or_true, if_true, if_false, zb_eq, zb_eq1, zb_em, zb_em2, ite_not, List.append_nil, List.cons_append, List.nil_append, reduceCtorEq, not_true_eq_false, not_false_eq_true, xo1, xa1, xf1_0, xv1_0, xp1_0, xf1_1, xv1_1, xf1_2, xv1_2, xp1_2, xf1_3, xv1_3, xf1_4, xv1_4, xf1_5, xv1_5, xp1_5, xf1_6, xv1_6, xp1_6, xf1_7, xv1_7, xf1_8, xv1_8, xf1_9, xv1_9, xf1_10, xv1_10, xf1_11, xv1_11, xf1_12, xv1_12, xf1_13, xv1_13, xf1_14, xv1_14, xp1_14, xo3, xa3, xf3_0, xv3_0, xp3_0, xf3_1, xv3_1, xf3_2, xv3_2, xp3_2, xo5, xa5, xf5_0, xv5_0, xp5_0, xf5_1, xv5_1, xp5_1, xf5_2, xv5_2, xp5_2, xf5_3, xv5_3, xp5_3, xf5_4, xv5_4, xp5_4, xf5_5, xv5_5, xp5_5, xf5_6, xv5_6, xp5_6, xf5_7, xv5_7, xp5_7, xf5_8, xv5_8, xp5_8, xf5_9, xv5_9, xp5_9, xf5_10, xv5_10, xp5_10, xf5_11, xv5_11, xp5_11, xf5_12, xv5_12, xp5_12, xo6, xa6, xf6_0, xv6_0, xp6_0, xf6_1, xv6_1, xp6_1, xf6_2, xv6_2, xp6_2, xo7, xa7, xf7_0, xv7_0, xp7_0, xf7_1, xv7_1, xp7_1, xf7_2, xv7_2, xp7_2, xf7_3, xv7_3, xp7_3, xf7_4, xv7_4, xf7_5, xv7_5, xo8, xa8, xf8_0, xv8_0, xp8_0, xf8_1, xv8_1, xo10, xa10, xf10_0, xv10_0, xp10_0, xf10_1, xv10_1, xp10_1, xf10_2, xv10_2, xp10_2, xf10_3, xv10_3, xf10_4, xv10_4, xo12, xa12, xf12_0, xv12_0, xf12_1, xv12_1, xp12_1, xf12_2, xv12_2, xp12_2, xf12_3, xv12_3, xp12_3, xf12_4, xv12_4, xo13, xa13, xf13_0, xv13_0, xf13_1, xv13_1, xp13_1, xo14, xa14, xf14_0, xv14_0, xf14_1, xv14_1, xp14_1, xf14_2, xv14_2, xp14_2, xf14_3, xv14_3, xp14_3, ya2_1, yw2_1, yv2_1, yp2_1, yn2_1, yl2_1, ya2_3, yw2_3, yv2_3, yp2_3, yn2_3, yl2_3, ya2_10, yw2_10, yv2_10, yp2_10, yn2_10, yl2_10, ya2_11, yw2_11, yv2_11, yp2_11, yn2_11, yl2_11, ya9, yw9, yv9, yp9, yn9, yl9, ya11, yw11, yv11, yp11, yn11, yl11, ya15, yw15, yv15, yp15, yn15, yl15, ya16, yw16, yv16, yp16, yn16, yl16, ok10, ok11, ok1i, xu_s, xu_n, ne_eq, Prod.mk.injEq, Nat.reduceEqDiff, false_and, and_false, not_false_eq_true, hl, ok, q1, q2, q3, nI_1]
theorem newcap : ∀ n, n < 300 → 0 < n → nI n + (if nI (n + 1) - nI n < nI n >>> (1 &&& 31) then nI n >>> (1 &&& 31) else nI (n + 1) - nI n) = nI (n + max 1 (n / 2)) := by decide +kernel
theorem q_newLen {a b d : Int32} (h1 : ¬ a + (if b < d then d else b) ≤ 0) (h2 : ¬ 2147483639 < a + (if b < d then d else b)) : ez_ev g 157 [.int a, .int b, .int d] h = some (some (.int (a + (if b < d then d else b))), h) := by
  rw [e157]
  simp only [s157_0, s157_1, s157_2, s157_3, s157_6, s157_7, s157_8, s157_9, s157_10, s157_13, s157_14, s157_16, s157_19, s157_20, zl_n, zl_i, zl_r, zl_0, z10, z01, ez_bd_s, ez_bd_n, eq_self, true_or, or_true, if_true, if_false, zb_eq, zb_eq1, zb_em, zb_em2, ite_not, List.append_nil, List.cons_append, List.nil_append, reduceCtorEq, not_true_eq_false, not_false_eq_true, h1, h2]
theorem xw_gr {k : Nat} (w : xw h0 P c) (hk : k ≠ 0) (hl : lv P (3, L, i)) (hel : ∀ r', xrd (4, L, i) r' (c (4, L, i)) → lv P r') : xw (hgr h0 P c L i k) (pgr P L i h0.2.1 k) c ∧ (∀ r, r.1 ≠ 0 → r ≠ (4, L, i) → (lv (pgr P L i h0.2.1 k) r ↔ lv P r)) ∧ lv (pgr P L i h0.2.1 k) (4, L, i) ∧ (k ≤ 400 → xgr h0 P (hgr h0 P c L i k) (pgr P L i h0.2.1 k) L i) := by
  obtain ⟨w1, w2, w3, w4, w5, w6⟩ := w
  have ea : ∀ r, r ≠ (4, L, i) → (pgr P L i h0.2.1 k).2.2.1 r = P.2.2.1 r := fun r h => if_neg h
  have ea4 : (pgr P L i h0.2.1 k).2.2.1 (4, L, i) = h0.2.1 := if_pos rfl
  have er : ∀ q, (pgr P L i h0.2.1 k).2.1 q = if q = h0.2.1 then (4, L, i) else if P.2.1 q = (4, L, i) then (0, 0, 0) else P.2.1 q := fun q => rfl
  have l4 : lv (pgr P L i h0.2.1 k) (4, L, i) := by
    unfold lv
    rw [ea4, er, if_pos rfl]
  have lr : ∀ r, r.1 ≠ 0 → r ≠ (4, L, i) → (lv (pgr P L i h0.2.1 k) r ↔ lv P r) := by
    intro r hr h4
    unfold lv
    rw [ea r h4, er]
    by_cases h1 : P.2.2.1 r = h0.2.1
    · rw [if_pos h1, h1]
      constructor
      · exact fun e => absurd e.symm h4
      · intro e
        have := w2 h0.2.1 (Nat.le_refl _)
        rw [e] at this
        exact absurd this hr
    · rw [if_neg h1]
      by_cases h2 : P.2.1 (P.2.2.1 r) = (4, L, i)
      · rw [if_pos h2, h2]
        constructor
        · intro e
          rw [← e] at hr
          exact absurd rfl hr
        · exact fun e => absurd e.symm h4
      · rw [if_neg h2]
  have out : ∀ q, q < h0.2.1 → (P.2.1 q).1 = 0 → ((pgr P L i h0.2.1 k).2.1 q).1 = 0 ∧ (hgr h0 P c L i k).1 q = h0.1 q := by
    intro q hq h
    have n4 : P.2.1 q ≠ (4, L, i) := fun e => by rw [e] at h; exact absurd h (show ¬ 4 = 0 by decide)
    rw [er, if_neg (by omega), if_neg n4]
    refine ⟨h, ?_⟩
    show (if P.2.1 q = (4, L, i) then _ else h0.1 q) = _
    rw [if_neg n4]
  refine ⟨⟨?_, ?_, ?_, ?_, ?_, ?_⟩, lr, l4, ?_⟩
  · intro q hq
    rw [er] at hq ⊢
    by_cases h1 : q = h0.2.1
    · rw [if_pos h1, ea4, h1]
    · rw [if_neg h1] at hq ⊢
      by_cases h2 : P.2.1 q = (4, L, i)
      · rw [if_pos h2] at hq
        exact absurd rfl hq
      · rw [if_neg h2] at hq ⊢
        rw [ea _ h2]
        exact w1 q hq
  · intro q hq
    have hq : h0.2.1 + 1 ≤ q := hq
    have := w2 q (by omega)
    rw [er, if_neg (by omega), if_neg (fun e => by rw [e] at this; exact absurd this (show ¬ 4 = 0 by decide))]
    exact this
  · intro r r' hr hlr hx ht
    by_cases e4 : r = (4, L, i)
    · subst e4
      have h5 := hel r' hx
      have n4 : r' ≠ (4, L, i) := by
        obtain ⟨q, _, e⟩ := hx
        rw [e]
        intro e
        have := (xel_4 (L := L) (i := i) (v := (c (4, L, i) q).toNatClampNeg)).1
        rw [e] at this
        exact this rfl
      exact (lr r' (xrd_0 hx) n4).mpr h5
    · have hlr2 := (lr r hr e4).mp hlr
      by_cases e5 : r' = (4, L, i)
      · rw [e5]; exact l4
      · by_cases e3 : r = (3, L, i)
        · subst e3
          exact absurd hx e5
        · have ht2 : xct P r := by
            intro h3
            have := ht h3
            have e6 : (pgr P L i h0.2.1 k).2.2.2 r = P.2.2.2 r := if_neg e3
            rw [e6] at this
            exact this
          exact (lr r' (xrd_0 hx) e5).mpr (w3 r r' hr hlr2 hx ht2)
  · exact (out P.1 w6 w5).2.trans w4
  · exact (out P.1 w6 w5).1
  · show P.1 < h0.2.1 + 1
    omega
  · intro hk4
    refine ⟨ea, lr, fun r h => if_neg h, rfl, ?_, ?_, ?_, ?_, out⟩
    · show h0.2.1 ≤ h0.2.1 + 1; omega
    · show h0.2.1 + 1 ≤ h0.2.1 + 1; omega
    · show h0.2.2 ≤ h0.2.2 + k; omega
    · show h0.2.2 + k ≤ h0.2.2 + 400; omega
end AD2
