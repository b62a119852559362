section LQ
variable {g : ez_G} {H : ez_H} {P : xP} {c : xR → Nat → Int32} {z : md_S} {m : Nat}
theorem mi_s {v : Int32} {N : Nat} (h : md_in v (N + 1) = true) : v = nI N ∨ md_in v N = true := by
  obtain ⟨e, hl⟩ := md_inE h
  by_cases hN : v.toNatClampNeg = N
  · left
    rw [hN] at e
    exact e
  · right
    unfold md_in at h ⊢
    rw [Bool.and_eq_true, decide_eq_true_eq] at h
    rw [decide_eq_true h.1, decide_eq_true (show v.toNatClampNeg < N by omega)]
    rfl
theorem mi_i {n v : Int32} {N : Nat} (h : md_in n (N + 1) = true) (hN : N < 2 ^ 31) (hv : 0 ≤ v ∧ v ≤ n - 1) : md_in v N = true ∧ v.toNatClampNeg < n.toNatClampNeg := by
  obtain ⟨k, hk, rfl, -⟩ := md_inX (by omega) h
  obtain ⟨j, hj, rfl⟩ := ix_p (by omega) hv
  rw [nI_clamp (by omega), nI_clamp (by omega)]
  exact ⟨md_inN (by omega) hN, hj⟩
theorem mi_n {n : Int32} {N : Nat} (h : md_in n (N + 1) = true) : n.toNatClampNeg ≤ N := Nat.le_of_lt_succ (md_inE h).2
theorem mi_w {a b : Int32} (h : (0 ≤ a ∧ a ≤ 7) ∧ 0 ≤ b ∧ b ≤ 3) : md_in (4 * a + b) 32 = true := by
  obtain ⟨⟨h1, h2⟩, h3, h4⟩ := h
  obtain ⟨j, hj, rfl⟩ := nI_of (Int32.not_lt.mpr h1)
  obtain ⟨k, hk, rfl⟩ := nI_of (Int32.not_lt.mpr h3)
  rw [nI_le7 hj] at h2
  rw [nI_le3 hk] at h4
  rw [nI_m4, nI_add]
  exact md_inN (by omega) (by omega)
theorem R_1 (R : RR P c z) : md_in (z.1 1) (20 + 1) = true := R.2.1.2.2.2.2.1
theorem R_36 (R : RR P c z) : md_in (z.1 36) (600 + 1) = true := R.2.1.2.2.2.2.2.2.1
theorem R_2 (R : RR P c z) : md_in (z.1 2) (40 + 1) = true := R.2.2.1.1
theorem R_3 (R : RR P c z) : md_in (z.1 3) (150 + 1) = true := R.2.2.2.1.1
theorem R_4 (R : RR P c z) : md_in (z.1 4) (20 + 1) = true := R.2.2.2.2.2.1.1.1
theorem R_5 (R : RR P c z) : md_in (z.1 5) (40 + 1) = true := R.2.2.2.2.2.1.1.2.1
theorem R_6 (R : RR P c z) : md_in (z.1 6) (200 + 1) = true := R.2.2.2.2.1.2.1
theorem R_40 (R : RR P c z) : md_in (z.1 40) (20 + 1) = true := R.2.2.2.2.2.2.1.1.1
theorem R_sts (R : RR P c z) : md_sts z := by
  have r4 := R.2.2.2.2.2.2.1
  refine ⟨r4.1.1, fun t ht => ?_⟩
  obtain ⟨-, -, -, v4, v5⟩ := r4.2.1 t ht
  exact ⟨v4, fun s hs => (v5.2.2.2.2 s hs).1.1⟩
theorem R_ldx (R : RR P c z) : md_ldx z := by
  have r5 := R.2.2.2.2.1
  refine ⟨R_6 R, fun j hj => ?_⟩
  obtain ⟨v1, v2, -⟩ := r5.2.2 j hj
  exact ⟨md_inM v1 (mi_n (R_5 R)), md_inM v2 (mi_n (R_3 R))⟩
theorem R_lds (R : RR P c z) : md_lds z := ⟨R_6 R, fun j hj => ((R_ldx R).2 j hj).1⟩
theorem R_l {l : Int32} (R : RR P c z) (h : 0 ≤ l ∧ l ≤ z.1 3 - 1) : md_in l 150 = true ∧ md_in (z.2 12 l.toNatClampNeg) 20 = true := by
  obtain ⟨h1, h2⟩ := mi_i (R_3 R) (by omega) h
  exact ⟨h1, md_inM (R.2.2.2.1.2.2.1 _ h2).2.2.1 (mi_n (R_1 R))⟩
theorem R_s {s : Int32} (R : RR P c z) (h : 0 ≤ s ∧ s ≤ z.1 5 - 1) : md_in s 40 = true ∧ md_in (z.2 28 s.toNatClampNeg) 20 = true := by
  obtain ⟨h1, h2⟩ := mi_i (R_5 R) (by omega) h
  exact ⟨h1, md_inM (R.2.2.2.2.2.1.2.2.1 _ h2).2.2.2.2.2.2.2.1 (mi_n (R_4 R))⟩
theorem v_day {d : Int32} (R : RR P c z) : ez_ev g 95 [.ref m, .int d] (md_h H m z) = some (some (.int (pm_day z d).2), md_h H m (pm_day z d).1) := q_day
theorem v_merchant {v : Int32} (R : RR P c z) : ez_ev g 96 [.ref m, .int v] (md_h H m z) = some (some (.int (pm_merchant z v).2), md_h H m (pm_merchant z v).1) := q_merchant (mi_s (R_1 R))
theorem v_grow {a b s : Int32} (R : RR P c z) : ez_ev g 98 [.ref m, .int a, .int b, .int s] (md_h H m z) = some (some (.int (pm_grow z a b s).2), md_h H m (pm_grow z a b s).1) := q_grow mi_w
theorem v_feed {a b d e f : Int32} (R : RR P c z) : ez_ev g 99 [.ref m, .int a, .int b, .int d, .int e, .int f] (md_h H m z) = some (some (.int (pm_feed z a b d e f).2), md_h H m (pm_feed z a b d e f).1) := q_feed (md_inE (R_36 R)).1 (mi_n (R_36 R))
theorem v_adopt {n : Int32} (R : RR P c z) : ez_ev g 108 [.ref m, .int n] (md_h H m z) = some (some (.int (pm_adopt z n).2), md_h H m (pm_adopt z n).1) := q_adopt (R_36 R) (mi_s (R_40 R))
theorem v_fault (R : RR P c z) : ez_ev g 109 [.ref m] (md_h H m z) = some (some (.int (z.1 39)), md_h H m z) := q_fault
theorem v_undo {s : Int32} (R : RR P c z) : ez_ev g 110 [.ref m, .int s] (md_h H m z) = some (some (.int (pm_undo z s).2), md_h H m (pm_undo z s).1) := q_undo (fun h => md_inM (mi_i (R_40 R) (by omega) h).1 (by omega))
theorem v_force {day : Int32} (R : RR P c z) : ez_ev g 111 [.ref m, .int day] (md_h H m z) = some (some (.int (pfd z day)), md_h H m z) := q_force' (R_sts R)
theorem v_licence {a b s : Int32} (R : RR P c z) : ez_ev g 116 [.ref m, .int a, .int b, .int s] (md_h H m z) = some (some (.int (pm_licence z a b s).2), md_h H m (pm_licence z a b s).1) := q_licence (mi_s (R_2 R))
theorem v_left {l : Int32} (R : RR P c z) : ez_ev g 117 [.ref m, .int l] (md_h H m z) = some (some (.int (pm_left z l)), md_h H m z) := q_left (fun h => (mi_i (R_2 R) (by omega) h).1)
theorem v_bring {a sh so s : Int32} (R : RR P c z) : ez_ev g 118 [.ref m, .int a, .int sh, .int so, .int s] (md_h H m z) = some (some (.int (pm_bring z a sh so s).2), md_h H m (pm_bring z a sh so s).1) := q_bring (R_sts R) (fun h => (mi_i (R_1 R) (by omega) h).1) (R_2 R) (mi_s (R_3 R))
theorem v_custom {l : Int32} (R : RR P c z) : ez_ev g 119 [.ref m, .int l] (md_h H m z) = some (some (.int (pm_custom z l).2), md_h H m (pm_custom z l).1) := q_custom (R_sts R) (R_l R)
theorem v_half {l w : Int32} (R : RR P c z) : ez_ev g 121 [.ref m, .int l, .int w] (md_h H m z) = some (some (.int (pm_half z l w)), md_h H m z) := q_half (fun h => (R_l R h).1)
theorem v_rate {k u l : Int32} (R : RR P c z) : ez_ev g 122 [.ref m, .int k, .int u, .int l] (md_h H m z) = some (some (.int (pm_rate z k u l).2), md_h H m (pm_rate z k u l).1) := q_rate (fun h => md_inB (n := 3) (Int32.le_trans (by decide) h.1) h.2 (by omega))
theorem v_pay {l k a : Int32} (R : RR P c z) : ez_ev g 123 [.ref m, .int l, .int k, .int a] (md_h H m z) = some (some (.int (pm_pay z l k a).2), md_h H m (pm_pay z l k a).1) := q_pay (fun h => (R_l R h).1) (fun h => md_inB (n := 3) h.1 h.2 (by omega))
theorem v_lot {l w : Int32} (R : RR P c z) : ez_ev g 127 [.ref m, .int l, .int w] (md_h H m z) = some (some (.int (pm_lot z l w)), md_h H m z) := q_lot (R_lds R) (fun h => (R_l R h).1)
theorem v_over {l : Int32} (R : RR P c z) : ez_ev g 128 [.ref m, .int l] (md_h H m z) = some (some (.int (pm_over z l)), md_h H m z) := q_over (R_sts R) (R_l R)
theorem v_fleet (R : RR P c z) : ez_ev g 129 [.ref m] (md_h H m z) = some (some (.int (pm_fleet z).2), md_h H m (pm_fleet z).1) := q_fleet
theorem v_ship {f r : Int32} (R : RR P c z) : ez_ev g 130 [.ref m, .int f, .int r] (md_h H m z) = some (some (.int (pm_ship z f r).2), md_h H m (pm_ship z f r).1) := q_ship (mi_s (R_5 R)) (fun h => (mi_i (R_4 R) (by omega) h).1)
theorem v_load {s a b n : Int32} (R : RR P c z) : ez_ev g 132 [.ref m, .int s, .int a, .int b, .int n] (md_h H m z) = some (some (.int (pm_load z s a b n).2), md_h H m (pm_load z s a b n).1) := q_load (R_lds R) (R_s R) (fun _ h => (mi_i (R_3 R) (by omega) h).1)
theorem v_sail {f : Int32} (R : RR P c z) : ez_ev g 133 [.ref m, .int f] (md_h H m z) = some (some (.int (pm_sail z f).2), md_h H m (pm_sail z f).1) := q_sail (R_6 R) (R_5 R) (fun h => (mi_i (R_4 R) (by omega) h).1)
theorem v_sink {s : Int32} (R : RR P c z) : ez_ev g 134 [.ref m, .int s] (md_h H m z) = some (some (.int (pm_sink z s).2), md_h H m (pm_sink z s).1) := q_sink (R_sts R) (R_6 R) (R_s R) (fun j hj => ((R_ldx R).2 j hj).2)
theorem v_sell {f C : Int32} (R : RR P c z) : ez_ev g 135 [.ref m, .int f, .int C] (md_h H m z) = some (some (.int (pm_sell z f C).2), md_h H m (pm_sell z f C).1) := q_sell (R_1 R) (R_ldx R) (fun h => (mi_i (R_4 R) (by omega) h).1) (fun hf hC hp => sell_md R hf hC hp)
theorem v_part {f a : Int32} (R : RR P c z) : ez_ev g 136 [.ref m, .int f, .int a] (md_h H m z) = some (some (.int (pm_part z f a)), md_h H m z) := q_part (fun hf ha => by
  obtain ⟨j, hj, rfl, -⟩ := md_inX (by omega) (mi_i (R_4 R) (by omega) hf).1
  obtain ⟨k, hk, rfl, -⟩ := md_inX (by omega) (mi_i (R_1 R) (by omega) ha).1
  rw [nI_m20, nI_add]
  exact md_inN (by omega) (by omega))
theorem v_shipOf {s w : Int32} (R : RR P c z) : ez_ev g 137 [.ref m, .int s, .int w] (md_h H m z) = some (some (.int (pm_shipOf z s w)), md_h H m z) := q_shipOf (R_6 R) (R_s R)
theorem v_sum {sh so w : Int32} (R : RR P c z) : ez_ev g 138 [.ref m, .int sh, .int so, .int w] (md_h H m z) = some (some (.int (pm_sum z sh so w)), md_h H m z) := q_sum (R_lds R) (R_3 R) mi_w
theorem v_count {w : Int32} (R : RR P c z) : ez_ev g 139 [.ref m, .int w] (md_h H m z) = some (some (.int (pm_count z w)), md_h H m z) := q_count (R_3 R)
end LQ
