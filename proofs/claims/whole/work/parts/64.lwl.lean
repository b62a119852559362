section LP
variable {g : ez_G} {h : ez_H} {z : md_S} {a n m x N N' i : Nat} {f : Nat → Int32}
theorem tg_mem {v : Int32} {ts : List Nat} {d : Nat} : ez_tgt v 0 ts d ∈ d :: ts := by
  unfold ez_tgt
  split
  · exact List.mem_cons_self
  · rw [List.getD_eq_getElem?_getD]
    cases e : ts[(v.toInt - 0).toNat]? with
    | none => exact List.mem_cons_self
    | some y => exact List.mem_cons_of_mem _ (List.mem_of_getElem? e)
def lL (a x m : Nat) (v : Int32) : ez_L := [some (.ref a), some (.ref x), some (.ref m), some (.int v)]
theorem lw_case {pc : Nat} (L : LI g a n f m x N N' z h) (hi : i + 6 ≤ n) (hn : n ≤ 3072) (hp : pc ∈ 1017 :: [156, 179, 202, 245, 308, 331, 344, 367, 390, 433, 456, 509, 532, 565, 608, 651, 684, 707, 720, 753, 806, 829, 852, 885, 918, 951, 994]) : ∃ h2 z2, ez_rn g 159 pc (lL a x m (nI i)) [] h = ez_rn g 159 1017 (lL a x m (nI i)) [] h2 ∧ LI g a n f m x (N + 1000) (N' + 12000) z2 h2 := by
  simp only [List.mem_cons, List.not_mem_nil, or_false] at hp
  rcases hp with rfl | rfl | rfl | rfl | rfl | rfl | rfl | rfl | rfl | rfl | rfl | rfl | rfl | rfl | rfl | rfl | rfl | rfl | rfl | rfl | rfl | rfl | rfl | rfl | rfl | rfl | rfl | rfl
  · refine ⟨h, z, rfl, ?_⟩
    obtain ⟨h0, P, c, e, w, R, hg, X, hx, hm, hf, hm3, ha, ha2, ha3, hg2, hs, hN, hN'⟩ := L
    exact ⟨h0, P, c, e, w, R, hg, X, hx, hm, hf, hm3, ha, ha2, ha3, hg2, hs, by omega, by omega⟩
  · obtain ⟨h1, h2, e1, e2, o9, o10, ha, ha1, L2⟩ := LI_st L (fun _ _ _ hg X w R => o_day w R) (fun _ _ R _ => v_day R)
    exact ⟨h2, _, w_day (LA_o ha hi hn) (LA_o ha1 hi hn) o9 o10 e1 e2, L2⟩
  · obtain ⟨h1, h2, e1, e2, o9, o10, ha, ha1, L2⟩ := LI_st L (fun _ _ _ hg X w R => o_merchant w R) (fun _ _ R _ => v_merchant R)
    exact ⟨h2, _, w_merchant (LA_o ha hi hn) (LA_o ha1 hi hn) o9 o10 e1 e2, L2⟩
  · obtain ⟨h1, h2, e1, e2, o9, o10, ha, ha1, L2⟩ := LI_st L (fun _ _ _ hg X w R => o_grow w R) (fun _ _ R _ => v_grow R)
    exact ⟨h2, _, w_grow (LA_o ha hi hn) (LA_o ha1 hi hn) o9 o10 e1 e2, L2⟩
  · obtain ⟨h1, h2, e1, e2, o9, o10, ha, ha1, L2⟩ := LI_st L (fun _ _ _ hg X w R => o_feed w R) (fun _ _ R _ => v_feed R)
    exact ⟨h2, _, w_feed (LA_o ha hi hn) (LA_o ha1 hi hn) o9 o10 e1 e2, L2⟩
  · obtain ⟨h1, h2, e1, e2, o9, o10, ha, ha1, L2⟩ := LI_st L (fun _ _ _ hg X w R => o_adopt hg X w R) (fun _ _ R _ => v_adopt R)
    exact ⟨h2, _, w_adopt (LA_o ha hi hn) (LA_o ha1 hi hn) o9 o10 e1 e2, L2⟩
  · obtain ⟨h1, h2, e1, e2, o9, o10, ha, ha1, L2⟩ := LI_st L (fun _ _ _ hg X w R => o_fault w R) (fun _ _ R _ => v_fault R)
    exact ⟨h2, _, w_fault (LA_o ha hi hn) (LA_o ha1 hi hn) o9 o10 e1 e2, L2⟩
  · obtain ⟨h1, h2, e1, e2, o9, o10, ha, ha1, L2⟩ := LI_st L (fun _ _ _ hg X w R => o_undo w R) (fun _ _ R _ => v_undo R)
    exact ⟨h2, _, w_undo (LA_o ha hi hn) (LA_o ha1 hi hn) o9 o10 e1 e2, L2⟩
  · obtain ⟨h1, h2, e1, e2, o9, o10, ha, ha1, L2⟩ := LI_st L (fun _ _ _ hg X w R => o_force w R) (fun _ _ R _ => v_force R)
    exact ⟨h2, _, w_force (LA_o ha hi hn) (LA_o ha1 hi hn) o9 o10 e1 e2, L2⟩
  · obtain ⟨h1, h2, e1, e2, o9, o10, ha, ha1, L2⟩ := LI_st L (fun _ _ _ hg X w R => o_licence hg w R) (fun _ _ R _ => v_licence R)
    exact ⟨h2, _, w_licence (LA_o ha hi hn) (LA_o ha1 hi hn) o9 o10 e1 e2, L2⟩
  · obtain ⟨h1, h2, e1, e2, o9, o10, ha, ha1, L2⟩ := LI_st L (fun _ _ _ hg X w R => o_left w R) (fun _ _ R _ => v_left R)
    exact ⟨h2, _, w_left (LA_o ha hi hn) (LA_o ha1 hi hn) o9 o10 e1 e2, L2⟩
  · obtain ⟨h1, h2, e1, e2, o9, o10, ha, ha1, L2⟩ := LI_st L (fun _ _ _ hg X w R => o_bring hg w R) (fun _ _ R _ => v_bring R)
    exact ⟨h2, _, w_bring (LA_o ha hi hn) (LA_o ha1 hi hn) o9 o10 e1 e2, L2⟩
  · obtain ⟨h1, h2, e1, e2, o9, o10, ha, ha1, L2⟩ := LI_st L (fun _ _ _ hg X w R => o_custom w R) (fun _ _ R _ => v_custom R)
    exact ⟨h2, _, w_custom (LA_o ha hi hn) (LA_o ha1 hi hn) o9 o10 e1 e2, L2⟩
  · obtain ⟨h1, h2, e1, e2, o9, o10, ha, ha1, L2⟩ := LI_st L (fun _ _ _ hg X w R => o_half w R) (fun _ _ R _ => v_half R)
    exact ⟨h2, _, w_half (LA_o ha hi hn) (LA_o ha1 hi hn) o9 o10 e1 e2, L2⟩
  · obtain ⟨h1, h2, e1, e2, o9, o10, ha, ha1, L2⟩ := LI_st L (fun _ _ _ hg X w R => o_rate w R) (fun _ _ R _ => v_rate R)
    exact ⟨h2, _, w_rate (LA_o ha hi hn) (LA_o ha1 hi hn) o9 o10 e1 e2, L2⟩
  · obtain ⟨h1, h2, e1, e2, o9, o10, ha, ha1, L2⟩ := LI_st L (fun _ _ _ hg X w R => o_pay w R) (fun _ _ R _ => v_pay R)
    exact ⟨h2, _, w_pay (LA_o ha hi hn) (LA_o ha1 hi hn) o9 o10 e1 e2, L2⟩
  · obtain ⟨h1, h2, e1, e2, o9, o10, ha, ha1, L2⟩ := LI_st L (fun _ _ _ hg X w R => o_lot w R) (fun _ _ R _ => v_lot R)
    exact ⟨h2, _, w_lot (LA_o ha hi hn) (LA_o ha1 hi hn) o9 o10 e1 e2, L2⟩
  · obtain ⟨h1, h2, e1, e2, o9, o10, ha, ha1, L2⟩ := LI_st L (fun _ _ _ hg X w R => o_over w R) (fun _ _ R _ => v_over R)
    exact ⟨h2, _, w_over (LA_o ha hi hn) (LA_o ha1 hi hn) o9 o10 e1 e2, L2⟩
  · obtain ⟨h1, h2, e1, e2, o9, o10, ha, ha1, L2⟩ := LI_st L (fun _ _ _ hg X w R => o_fleet hg w R) (fun _ _ R _ => v_fleet R)
    exact ⟨h2, _, w_fleet (LA_o ha hi hn) (LA_o ha1 hi hn) o9 o10 e1 e2, L2⟩
  · obtain ⟨h1, h2, e1, e2, o9, o10, ha, ha1, L2⟩ := LI_st L (fun _ _ _ hg X w R => o_ship hg w R) (fun _ _ R _ => v_ship R)
    exact ⟨h2, _, w_ship (LA_o ha hi hn) (LA_o ha1 hi hn) o9 o10 e1 e2, L2⟩
  · obtain ⟨h1, h2, e1, e2, o9, o10, ha, ha1, L2⟩ := LI_st L (fun _ _ _ hg X w R => o_load hg w R) (fun _ _ R _ => v_load R)
    exact ⟨h2, _, w_load (LA_o ha hi hn) (LA_o ha1 hi hn) o9 o10 e1 e2, L2⟩
  · obtain ⟨h1, h2, e1, e2, o9, o10, ha, ha1, L2⟩ := LI_st L (fun _ _ _ hg X w R => o_sail w R) (fun _ _ R _ => v_sail R)
    exact ⟨h2, _, w_sail (LA_o ha hi hn) (LA_o ha1 hi hn) o9 o10 e1 e2, L2⟩
  · obtain ⟨h1, h2, e1, e2, o9, o10, ha, ha1, L2⟩ := LI_st L (fun _ _ _ hg X w R => o_sink w R) (fun _ _ R _ => v_sink R)
    exact ⟨h2, _, w_sink (LA_o ha hi hn) (LA_o ha1 hi hn) o9 o10 e1 e2, L2⟩
  · obtain ⟨h1, h2, e1, e2, o9, o10, ha, ha1, L2⟩ := LI_st L (fun _ _ _ hg X w R => o_sell w R) (fun _ _ R _ => v_sell R)
    exact ⟨h2, _, w_sell (LA_o ha hi hn) (LA_o ha1 hi hn) o9 o10 e1 e2, L2⟩
  · obtain ⟨h1, h2, e1, e2, o9, o10, ha, ha1, L2⟩ := LI_st L (fun _ _ _ hg X w R => o_part w R) (fun _ _ R _ => v_part R)
    exact ⟨h2, _, w_part (LA_o ha hi hn) (LA_o ha1 hi hn) o9 o10 e1 e2, L2⟩
  · obtain ⟨h1, h2, e1, e2, o9, o10, ha, ha1, L2⟩ := LI_st L (fun _ _ _ hg X w R => o_shipOf w R) (fun _ _ R _ => v_shipOf R)
    exact ⟨h2, _, w_shipOf (LA_o ha hi hn) (LA_o ha1 hi hn) o9 o10 e1 e2, L2⟩
  · obtain ⟨h1, h2, e1, e2, o9, o10, ha, ha1, L2⟩ := LI_st L (fun _ _ _ hg X w R => o_sum w R) (fun _ _ R _ => v_sum R)
    exact ⟨h2, _, w_sum (LA_o ha hi hn) (LA_o ha1 hi hn) o9 o10 e1 e2, L2⟩
  · obtain ⟨h1, h2, e1, e2, o9, o10, ha, ha1, L2⟩ := LI_st L (fun _ _ _ hg X w R => o_count w R) (fun _ _ R _ => v_count R)
    exact ⟨h2, _, w_count (LA_o ha hi hn) (LA_o ha1 hi hn) o9 o10 e1 e2, L2⟩
theorem lw_step (L : LI g a n f m x N N' z h) (hi : i + 6 ≤ n) (hn : n ≤ 3072) : ∃ h2 z2, ez_rn g 159 18 (lL a x m (nI i)) [] h = ez_rn g 159 18 (lL a x m (nI (i + 6))) [] h2 ∧ LI g a n f m x (N + 1000) (N' + 12000) z2 h2 := by
  have ha := (LI_a L).1
  obtain ⟨h2, z2, e, L2⟩ := lw_case L hi hn (tg_mem (v := f i &&& 31))
  refine ⟨h2, z2, ?_, L2⟩
  have hA := LA_i (i := i) (j := 0) ha (by omega) hn
  rw [nI_add, Nat.add_zero] at hA
  have hlt : ¬ (nI n - 6 : Int32) < nI i := by
    rw [show (6 : Int32) = nI 6 from rfl, nI_sbl (by omega)]
    intro h
    exact absurd (nI_le (show i ≤ n - 6 by omega) (by omega)) (Int32.not_le.mpr h)
  have hv : ez_vN (h.1 a) = n := by rw [ha]; rfl
  have hv2 : ez_isN (h.1 a) = true := by rw [ha]; rfl
  unfold lL at e ⊢
  rw [s159_18, s159_19, s159_20 hv2, s159_21, s159_23, s159_24, hv, if_neg (show ¬ Int32.ofNat n - 6 < nI i from hlt), s159_27, s159_28, s159_29 hA.1, hA.2, s159_30, s159_32, s159_33, e]
  simp only [s159_1017, s159_1020, zl_n, zl_i, zl_r, zl_0, z10, z01, ez_bd_s, ez_bd_n, eq_self, true_or, or_true, if_true, if_false, zb_eq, zb_eq1, zb_em, zb_em2, ite_not, List.append_nil, List.cons_append, List.nil_append, reduceCtorEq, not_true_eq_false, not_false_eq_true]
  rw [show (6 : Int32) = nI 6 from rfl, nI_add]
theorem lw_lt (hn : n ≤ 3072) (hi : n < i + 6) (hi2 : i ≤ n) : (nI n - 6 : Int32) < nI i := by
  by_cases h6 : 6 ≤ n
  · rw [show (6 : Int32) = nI 6 from rfl, nI_sbl h6]
    exact Int32.not_le.mp (nI_ge (show n - 6 < i by omega) (by omega))
  · have h0 : (nI n - 6 : Int32) < 0 := by
      have : n = 0 ∨ n = 1 ∨ n = 2 ∨ n = 3 ∨ n = 4 ∨ n = 5 := by omega
      rcases this with rfl | rfl | rfl | rfl | rfl | rfl <;> decide
    exact Int32.lt_of_lt_of_le h0 (Int32.not_lt.mp (nI_pos (by omega)))
theorem lw_end (L : LI g a n f m x N N' z h) (hn : n ≤ 3072) (hi : n < i + 6) (hi2 : i ≤ n) : ez_rn g 159 18 (lL a x m (nI i)) [] h = some (some (.int 1), h) := by
  have ha := (LI_a L).1
  have hv : ez_vN (h.1 a) = n := by rw [ha]; rfl
  have hv2 : ez_isN (h.1 a) = true := by rw [ha]; rfl
  have hlt := lw_lt hn hi hi2
  unfold lL
  rw [s159_18, s159_19, s159_20 hv2, s159_21, s159_23, s159_24, hv]
  rw [if_pos (show Int32.ofNat n - 6 < nI i from hlt)]
  simp only [s159_1023, s159_1024, zl_n, zl_i, zl_r, zl_0, z10, z01, ez_bd_s, ez_bd_n, eq_self, true_or, or_true, if_true, if_false, zb_eq, zb_eq1, zb_em, zb_em2, ite_not, List.append_nil, List.cons_append, List.nil_append, reduceCtorEq, not_true_eq_false, not_false_eq_true]
theorem lw_loop (hn : n ≤ 3072) : ∀ (k i N N' : Nat) (z : md_S) (h : ez_H), LI g a n f m x N N' z h → n < i + 6 * k + 6 → i ≤ n → ∃ h2, ez_rn g 159 18 (lL a x m (nI i)) [] h = some (some (.int 1), h2) ∧ h2.2.1 ≤ N + 1000 * k ∧ h2.2.2 ≤ N' + 12000 * k := by
  intro k
  induction k with
  | zero =>
    intro i N N' z h L h1 h2
    obtain ⟨ha, hN, hN'⟩ := LI_a L
    exact ⟨h, lw_end L hn (by omega) h2, by omega, by omega⟩
  | succ k ih =>
    intro i N N' z h L h1 h2
    by_cases hi : i + 6 ≤ n
    · obtain ⟨h2, z2, e, L2⟩ := lw_step L hi hn
      obtain ⟨h3, e3, b1, b2⟩ := ih (i + 6) _ _ _ _ L2 (by omega) hi
      exact ⟨h3, e.trans e3, by omega, by omega⟩
    · obtain ⟨ha, hN, hN'⟩ := LI_a L
      exact ⟨h, lw_end L hn (by omega) h2, by omega, by omega⟩
end LP

