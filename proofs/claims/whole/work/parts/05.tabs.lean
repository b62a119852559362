def ez_GW : List Cond := lw_tbl.filter goodWord
theorem ez_gw {p : Nat} {w : Cond} (h : lw_tbl[p]? = some w) (hg : goodWord w = true) : w ∈ ez_GW := List.mem_filter.mpr ⟨List.mem_of_getElem? h, hg⟩
def ez_is (p : Nat) (w : Cond) : Bool := decide (lw_tbl[p]? = some w) && goodWord w
theorem ez_is_in {p : Nat} {w : Cond} (h : ez_is p w = true) : w ∈ ez_GW := by
  unfold ez_is at h
  rw [Bool.and_eq_true, decide_eq_true_eq] at h
  exact ez_gw h.1 h.2
theorem ez_uJx4a65c : ∀ w ∈ u_ws RJx4a65c TJx4a65c 3, w ∈ ez_GW := by
  have h1 : u_ws RJx4a65c TJx4a65c 3 = ([104, 100, 102] : List Nat).filterMap (fun i => lw_tbl[i]?) := by decide +kernel
  have h2 : (u_ws RJx4a65c TJx4a65c 3).all goodWord = true := by decide +kernel
  intro w hw
  have h3 := List.all_eq_true.mp h2 w hw
  rw [h1] at hw
  obtain ⟨i, -, hi⟩ := List.mem_filterMap.mp hw
  exact ez_gw hi h3
theorem ez_uX0 : ∀ w ∈ u_ws RX0 TX0 2, w ∈ ez_GW := by
  have h1 : u_ws RX0 TX0 2 = ([334, 336] : List Nat).filterMap (fun i => lw_tbl[i]?) := by decide +kernel
  have h2 : (u_ws RX0 TX0 2).all goodWord = true := by decide +kernel
  intro w hw
  have h3 := List.all_eq_true.mp h2 w hw
  rw [h1] at hw
  obtain ⟨i, -, hi⟩ := List.mem_filterMap.mp hw
  exact ez_gw hi h3
theorem ez_uX1 : ∀ w ∈ u_ws RX1 TX1 5, w ∈ ez_GW := by
  have h1 : u_ws RX1 TX1 5 = ([667, 669, 671, 673, 675] : List Nat).filterMap (fun i => lw_tbl[i]?) := by decide +kernel
  have h2 : (u_ws RX1 TX1 5).all goodWord = true := by decide +kernel
  intro w hw
  have h3 := List.all_eq_true.mp h2 w hw
  rw [h1] at hw
  obtain ⟨i, -, hi⟩ := List.mem_filterMap.mp hw
  exact ez_gw hi h3
theorem ez_uX2 : ∀ w ∈ u_ws RX2 TX2 3, w ∈ ez_GW := by
  have h1 : u_ws RX2 TX2 3 = ([477, 479, 481] : List Nat).filterMap (fun i => lw_tbl[i]?) := by decide +kernel
  have h2 : (u_ws RX2 TX2 3).all goodWord = true := by decide +kernel
  intro w hw
  have h3 := List.all_eq_true.mp h2 w hw
  rw [h1] at hw
  obtain ⟨i, -, hi⟩ := List.mem_filterMap.mp hw
  exact ez_gw hi h3
theorem ez_uX3 : ∀ w ∈ u_ws RX3 TX3 2, w ∈ ez_GW := by
  have h1 : u_ws RX3 TX3 2 = ([742, 744] : List Nat).filterMap (fun i => lw_tbl[i]?) := by decide +kernel
  have h2 : (u_ws RX3 TX3 2).all goodWord = true := by decide +kernel
  intro w hw
  have h3 := List.all_eq_true.mp h2 w hw
  rw [h1] at hw
  obtain ⟨i, -, hi⟩ := List.mem_filterMap.mp hw
  exact ez_gw hi h3
theorem ez_uX4 : ∀ w ∈ u_ws RX4 TX4 13, w ∈ ez_GW := by
  have h1 : u_ws RX4 TX4 13 = ([559, 561, 563, 565, 567, 569, 571, 573, 575, 577, 579, 581, 583] : List Nat).filterMap (fun i => lw_tbl[i]?) := by decide +kernel
  have h2 : (u_ws RX4 TX4 13).all goodWord = true := by decide +kernel
  intro w hw
  have h3 := List.all_eq_true.mp h2 w hw
  rw [h1] at hw
  obtain ⟨i, -, hi⟩ := List.mem_filterMap.mp hw
  exact ez_gw hi h3
theorem ez_uX5 : ∀ w ∈ u_ws RX5 TX5 4, w ∈ ez_GW := by
  have h1 : u_ws RX5 TX5 4 = ([238, 240, 242, 244] : List Nat).filterMap (fun i => lw_tbl[i]?) := by decide +kernel
  have h2 : (u_ws RX5 TX5 4).all goodWord = true := by decide +kernel
  intro w hw
  have h3 := List.all_eq_true.mp h2 w hw
  rw [h1] at hw
  obtain ⟨i, -, hi⟩ := List.mem_filterMap.mp hw
  exact ez_gw hi h3
theorem ez_uX6 : ∀ w ∈ u_ws RX6 TX6 5, w ∈ ez_GW := by
  have h1 : u_ws RX6 TX6 5 = ([705, 707, 709, 711, 713] : List Nat).filterMap (fun i => lw_tbl[i]?) := by decide +kernel
  have h2 : (u_ws RX6 TX6 5).all goodWord = true := by decide +kernel
  intro w hw
  have h3 := List.all_eq_true.mp h2 w hw
  rw [h1] at hw
  obtain ⟨i, -, hi⟩ := List.mem_filterMap.mp hw
  exact ez_gw hi h3
theorem ez_uX7 : ∀ w ∈ u_ws RX7 TX7 6, w ∈ ez_GW := by
  have h1 : u_ws RX7 TX7 6 = ([211, 213, 215, 217, 219, 221] : List Nat).filterMap (fun i => lw_tbl[i]?) := by decide +kernel
  have h2 : (u_ws RX7 TX7 6).all goodWord = true := by decide +kernel
  intro w hw
  have h3 := List.all_eq_true.mp h2 w hw
  rw [h1] at hw
  obtain ⟨i, -, hi⟩ := List.mem_filterMap.mp hw
  exact ez_gw hi h3
theorem ez_uX8 : ∀ w ∈ u_ws RX8 TX8 15, w ∈ ez_GW := by
  have h1 : u_ws RX8 TX8 15 = ([124, 126, 128, 130, 132, 134, 136, 138, 140, 142, 144, 146, 148, 150, 152] : List Nat).filterMap (fun i => lw_tbl[i]?) := by decide +kernel
  have h2 : (u_ws RX8 TX8 15).all goodWord = true := by decide +kernel
  intro w hw
  have h3 := List.all_eq_true.mp h2 w hw
  rw [h1] at hw
  obtain ⟨i, -, hi⟩ := List.mem_filterMap.mp hw
  exact ez_gw hi h3
theorem ez_uX9 : ∀ w ∈ u_ws RX9 TX9 53, w ∈ ez_GW := by
  have h1 : u_ws RX9 TX9 53 = ([897, 899, 901, 903, 905, 907, 909, 911, 913, 915, 917, 919, 921, 923, 925, 927, 929, 931, 933, 935, 937, 939, 941, 943, 945, 947, 949, 951, 953, 955, 957, 959, 961, 963, 965, 967, 969, 971, 973, 975, 977, 979, 981, 983, 985, 987, 989, 991, 993, 995, 997, 999, 1001] : List Nat).filterMap (fun i => lw_tbl[i]?) := by decide +kernel
  have h2 : (u_ws RX9 TX9 53).all goodWord = true := by decide +kernel
  intro w hw
  have h3 := List.all_eq_true.mp h2 w hw
  rw [h1] at hw
  obtain ⟨i, -, hi⟩ := List.mem_filterMap.mp hw
  exact ez_gw hi h3
def ez_tyf : List (Nat → FieldType) := [tyJx4a65c, tyX0, tyX1, tyX2, tyX3, tyX4, tyX5, tyX6, tyX7, tyX8, tyX9]
def ez_cw : List (Nat × Nat) := [(82, 54), (326, 63), (651, 70), (468, 68), (733, 72), (525, 69), (225, 57), (687, 71), (193, 56), (74, 51), (839, 55)]
/-- what the tables say of a class of ours -/
def ez_Cls (ci : Nat) (C : String) (T : u_T) (N : Nat) : Prop := (∀ w ∈ u_ws C T N, w ∈ ez_GW) ∧ (∀ k, k < N → parseFieldDescriptor (T k).2.2.1 = some ((ez_tyf.getD ci (fun _ => .int)) k)) ∧ (∀ a, a < N → ∀ b, b < N → a ≠ b → (T a).2.1 ≠ (T b).2.1) ∧ Cond.instantiable C N ∈ ez_GW ∧ Cond.initialized C ∈ ez_GW ∧ (ez_df.getD ci []).length = N ∧ ∀ j, j < N → defaultValue ((ez_tyf.getD ci (fun _ => .int)) j) = vp_V (ez_df.getD ci []) j
theorem ez_cls0 : ez_Cls 0 RJx4a65c TJx4a65c 3 := ⟨ez_uJx4a65c, tyJx4a65c_ok, nmJx4a65c, ez_is_in (p := 82) (by decide +kernel), ez_is_in (p := 54) (by decide +kernel), rfl, by decide +kernel⟩
theorem ez_cls1 : ez_Cls 1 RX0 TX0 2 := ⟨ez_uX0, tyX0_ok, nmX0, ez_is_in (p := 326) (by decide +kernel), ez_is_in (p := 63) (by decide +kernel), rfl, by decide +kernel⟩
theorem ez_cls2 : ez_Cls 2 RX1 TX1 5 := ⟨ez_uX1, tyX1_ok, nmX1, ez_is_in (p := 651) (by decide +kernel), ez_is_in (p := 70) (by decide +kernel), rfl, by decide +kernel⟩
theorem ez_cls3 : ez_Cls 3 RX2 TX2 3 := ⟨ez_uX2, tyX2_ok, nmX2, ez_is_in (p := 468) (by decide +kernel), ez_is_in (p := 68) (by decide +kernel), rfl, by decide +kernel⟩
theorem ez_cls4 : ez_Cls 4 RX3 TX3 2 := ⟨ez_uX3, tyX3_ok, nmX3, ez_is_in (p := 733) (by decide +kernel), ez_is_in (p := 72) (by decide +kernel), rfl, by decide +kernel⟩
theorem ez_cls5 : ez_Cls 5 RX4 TX4 13 := ⟨ez_uX4, tyX4_ok, nmX4, ez_is_in (p := 525) (by decide +kernel), ez_is_in (p := 69) (by decide +kernel), rfl, by decide +kernel⟩
theorem ez_cls6 : ez_Cls 6 RX5 TX5 4 := ⟨ez_uX5, tyX5_ok, nmX5, ez_is_in (p := 225) (by decide +kernel), ez_is_in (p := 57) (by decide +kernel), rfl, by decide +kernel⟩
theorem ez_cls7 : ez_Cls 7 RX6 TX6 5 := ⟨ez_uX6, tyX6_ok, nmX6, ez_is_in (p := 687) (by decide +kernel), ez_is_in (p := 71) (by decide +kernel), rfl, by decide +kernel⟩
theorem ez_cls8 : ez_Cls 8 RX7 TX7 6 := ⟨ez_uX7, tyX7_ok, nmX7, ez_is_in (p := 193) (by decide +kernel), ez_is_in (p := 56) (by decide +kernel), rfl, by decide +kernel⟩
theorem ez_cls9 : ez_Cls 9 RX8 TX8 15 := ⟨ez_uX8, tyX8_ok, nmX8, ez_is_in (p := 74) (by decide +kernel), ez_is_in (p := 51) (by decide +kernel), rfl, by decide +kernel⟩
theorem ez_cls10 : ez_Cls 10 RX9 TX9 53 := ⟨ez_uX9, tyX9_ok, nmX9, ez_is_in (p := 839) (by decide +kernel), ez_is_in (p := 55) (by decide +kernel), rfl, by decide +kernel⟩
theorem ez_clsOf {ci : Nat} {C : String} {T : u_T} {N : Nat} (h : ez_cl[ci]? = some (C, T, N)) : ez_Cls ci C T N := by
  match ci, h with
  | 0, h => cases h; exact ez_cls0
  | 1, h => cases h; exact ez_cls1
  | 2, h => cases h; exact ez_cls2
  | 3, h => cases h; exact ez_cls3
  | 4, h => cases h; exact ez_cls4
  | 5, h => cases h; exact ez_cls5
  | 6, h => cases h; exact ez_cls6
  | 7, h => cases h; exact ez_cls7
  | 8, h => cases h; exact ez_cls8
  | 9, h => cases h; exact ez_cls9
  | 10, h => cases h; exact ez_cls10
  | n + 11, h => simp [ez_cl] at h
theorem ez_clLt {ci : Nat} (h : ci < 11) : ∃ (C : String) (T : u_T) (N : Nat), ez_cl[ci]? = some (C, T, N) := by
  match ci, h with
  | 0, _ => exact ⟨_, _, _, rfl⟩
  | 1, _ => exact ⟨_, _, _, rfl⟩
  | 2, _ => exact ⟨_, _, _, rfl⟩
  | 3, _ => exact ⟨_, _, _, rfl⟩
  | 4, _ => exact ⟨_, _, _, rfl⟩
  | 5, _ => exact ⟨_, _, _, rfl⟩
  | 6, _ => exact ⟨_, _, _, rfl⟩
  | 7, _ => exact ⟨_, _, _, rfl⟩
  | 8, _ => exact ⟨_, _, _, rfl⟩
  | 9, _ => exact ⟨_, _, _, rfl⟩
  | 10, _ => exact ⟨_, _, _, rfl⟩
theorem ez_cnOf {ci : Nat} {C : String} {T : u_T} {N : Nat} (h : ez_cl[ci]? = some (C, T, N)) : ez_cn ci = C := by
  match ci, h with
  | 0, h => cases h; rfl
  | 1, h => cases h; rfl
  | 2, h => cases h; rfl
  | 3, h => cases h; rfl
  | 4, h => cases h; rfl
  | 5, h => cases h; rfl
  | 6, h => cases h; rfl
  | 7, h => cases h; rfl
  | 8, h => cases h; rfl
  | 9, h => cases h; rfl
  | 10, h => cases h; rfl
  | n + 11, h => simp [ez_cl] at h
/-- a link of a field, against the tables -/
def ez_chF (w : Nat) (e : Nat × Nat × Nat × Nat × Nat) : Bool := match e with
  | (i, ci, sl, tk, p) => if ci = 11 then (if sl = 0 then ez_is p (.fieldLink (ez_cn w) i "java/lang/String" "value" "[B") else sl == 1 && ez_is p (.fieldLink (ez_cn w) i "java/lang/String" "coder" "B")) else
    match ez_cl[ci]? with
    | none => false
    | some (C, T, N) => decide (sl < N) && (decide (tk = 0) && decide ((T sl).2.2.1 = "I") || (decide (tk = 1) && decide ((T sl).2.2.1 = "Z") || decide (tk = 2) && (match parseFieldDescriptor (T sl).2.2.1 with | some (.object _) => true | some (.array _) => true | _ => false))) && (ez_is p (.fieldLink (ez_cn w) i (T sl).1 (T sl).2.1 (T sl).2.2.1) || (ez_is p (.fieldLink (ez_cn w) i C (T sl).2.1 (T sl).2.2.1) && (decide (C = "java/util/ArrayList") && decide (T sl = ("java/util/AbstractList", "modCount", "I", false)))))
theorem ez_chF_ok : (List.range 20).all (fun w => (ez_ft.getD w []).all (ez_chF w)) = true := by decide +kernel
def ez_chS (w : Nat) (e : Nat × Nat × Nat) : Bool := match e with
  | (i, 0, p) => ez_is p (.fieldLink (ez_cn w) i "java/util/ArrayList" "DEFAULTCAPACITY_EMPTY_ELEMENTDATA" "[Ljava/lang/Object;")
  | (i, 1, p) => ez_is p (.fieldLink (ez_cn w) i "java/lang/String" "COMPACT_STRINGS" "Z")
  | (i, 2, p) => ez_is p (.fieldLink (ez_cn w) i "jdk/internal/util/Preconditions" "SIOOBE_FORMATTER" "Ljava/util/function/BiFunction;")
  | _ => false
theorem ez_chS_ok : (List.range 20).all (fun w => (ez_st_.getD w []).all (ez_chS w)) = true := by decide +kernel
def ez_nests : List (Nat × Nat × Nat) := [(6, 58, 0), (1, 13, 68), (7, 68, 68)]
def ez_chM (w : Nat) (e : Nat × Nat × Nat × Nat) : Bool := match e with
  | (i, k', x, p) => if k' = 9000 then ez_is p (.methodLink (ez_cn w) i objectInit) else if k' = 9001 then ez_is p (.methodLink (ez_cn w) i ⟨"java/util/Arrays", "copyOf", "([Ljava/lang/Object;I)[Ljava/lang/Object;"⟩) else if k' = 9002 then ez_is p (.methodLink (ez_cn w) i Lib.Math.max.name) else if k' = 9003 then ez_is p (.methodLink (ez_cn w) i Lib.Math.min.name) else if x = 1 then ez_nests.contains (w, i, k') else decide (x = 0) && ez_is p (.methodLink (ez_cn w) i (ez_y k'))
theorem ez_chM_ok : (List.range 20).all (fun w => (ez_mt.getD w []).all (ez_chM w)) = true := by decide +kernel
def ez_chC (w : Nat) (e : Nat × Nat × Nat) : Bool := match e with
  | (i, ci, p) => if ci = 100 then ez_is p (.classLink (ez_cn w) i "java/lang/Object") else decide (ci < 11) && ez_is p (.classLink (ez_cn w) i (ez_cn ci))
theorem ez_chC_ok : (List.range 20).all (fun w => (ez_ct.getD w []).all (ez_chC w)) = true := by decide +kernel
def ez_chI (w : Nat) (e : Nat × Int32 × Nat) : Bool := match e with
  | (i, v, p) => ez_is p (.constant (ez_cn w) i v)
theorem ez_chI_ok : (List.range 20).all (fun w => (ez_it.getD w []).all (ez_chI w)) = true := by decide +kernel
def ez_chL (w : Nat) (e : Nat × Int64 × Nat) : Bool := match e with
  | (i, v, p) => ez_is p (.constantLong (ez_cn w) i v)
theorem ez_chL_ok : (List.range 20).all (fun w => (ez_lt.getD w []).all (ez_chL w)) = true := by decide +kernel
/-- a method, against the tables: its code, its class, static or not, selected by its class; its name and number of arguments -/
def ez_chK (k : Nat) : Bool := match ez_mw.getD k (0, 0, 0, 0) with
  | (_, b, c, d) => ez_is b (.initialized (ez_y k).cls) && (if ez_kd k = 0 then ez_is c (.static (ez_y k)) else ez_is c (.instanceMethod (ez_y k))) && (if ez_kd k = 1 then ez_is d (.selects (ez_y k).cls (ez_y k) (ez_y k)) else true) && (if ez_kd k = 2 then decide ((ez_y k).name = "<init>") && decide (ez_ret k = none) else true) && decide ((ez_y k).cls = ez_cn (ez_ow k)) && plainName (ez_y k).cls && decide ((ez_y k).cls ≠ "java/lang/invoke/MethodHandle") && decide ((ez_y k).cls ≠ "java/lang/invoke/VarHandle") && decide ((parseMethodDescriptor (ez_y k).desc).map (fun d => d.parameters.length) = some (if ez_kd k = 0 then ez_na k else ez_na k - 1)) && decide (ez_ml k ≤ 11) && decide (ez_kd k < 3) && (decide (ez_kd k = 0) || decide (0 < ez_na k))
theorem ez_chK_ok : (List.range 159).all ez_chK = true := by decide +kernel
theorem ez_owLt : (List.range 160).all (fun k => decide (ez_ow k < 20)) = true := by decide +kernel
set_option maxRecDepth 100000 in
theorem ez_kc0 : Cond.code (ez_y 0) (ez_code 0) (ez_ml 0) (ez_ret 0) ∈ ez_GW := ez_gw (p := 329) rfl rfl
set_option maxRecDepth 100000 in
theorem ez_kc1 : Cond.code (ez_y 1) (ez_code 1) (ez_ml 1) (ez_ret 1) ∈ ez_GW := ez_gw (p := 353) rfl rfl
set_option maxRecDepth 100000 in
theorem ez_kc2 : Cond.code (ez_y 2) (ez_code 2) (ez_ml 2) (ez_ret 2) ∈ ez_GW := ez_gw (p := 506) rfl rfl
set_option maxRecDepth 100000 in
theorem ez_kc3 : Cond.code (ez_y 3) (ez_code 3) (ez_ml 3) (ez_ret 3) ∈ ez_GW := ez_gw (p := 510) rfl rfl
set_option maxRecDepth 100000 in
theorem ez_kc4 : Cond.code (ez_y 4) (ez_code 4) (ez_ml 4) (ez_ret 4) ∈ ez_GW := ez_gw (p := 654) rfl rfl
set_option maxRecDepth 100000 in
theorem ez_kc5 : Cond.code (ez_y 5) (ez_code 5) (ez_ml 5) (ez_ret 5) ∈ ez_GW := ez_gw (p := 755) rfl rfl
set_option maxRecDepth 100000 in
theorem ez_kc6 : Cond.code (ez_y 6) (ez_code 6) (ez_ml 6) (ez_ret 6) ∈ ez_GW := ez_gw (p := 777) rfl rfl
set_option maxRecDepth 100000 in
theorem ez_kc7 : Cond.code (ez_y 7) (ez_code 7) (ez_ml 7) (ez_ret 7) ∈ ez_GW := ez_gw (p := 781) rfl rfl
set_option maxRecDepth 100000 in
theorem ez_kc8 : Cond.code (ez_y 8) (ez_code 8) (ez_ml 8) (ez_ret 8) ∈ ez_GW := ez_gw (p := 790) rfl rfl
set_option maxRecDepth 100000 in
theorem ez_kc9 : Cond.code (ez_y 9) (ez_code 9) (ez_ml 9) (ez_ret 9) ∈ ez_GW := ez_gw (p := 793) rfl rfl
set_option maxRecDepth 100000 in
theorem ez_kc10 : Cond.code (ez_y 10) (ez_code 10) (ez_ml 10) (ez_ret 10) ∈ ez_GW := ez_gw (p := 471) rfl rfl
set_option maxRecDepth 100000 in
theorem ez_kc11 : Cond.code (ez_y 11) (ez_code 11) (ez_ml 11) (ez_ret 11) ∈ ez_GW := ez_gw (p := 518) rfl rfl
set_option maxRecDepth 100000 in
theorem ez_kc12 : Cond.code (ez_y 12) (ez_code 12) (ez_ml 12) (ez_ret 12) ∈ ez_GW := ez_gw (p := 736) rfl rfl
set_option maxRecDepth 100000 in
theorem ez_kc13 : Cond.code (ez_y 13) (ez_code 13) (ez_ml 13) (ez_ret 13) ∈ ez_GW := ez_gw (p := 528) rfl rfl
set_option maxRecDepth 100000 in
theorem ez_kc14 : Cond.code (ez_y 14) (ez_code 14) (ez_ml 14) (ez_ret 14) ∈ ez_GW := ez_gw (p := 597) rfl rfl
set_option maxRecDepth 100000 in
theorem ez_kc15 : Cond.code (ez_y 15) (ez_code 15) (ez_ml 15) (ez_ret 15) ∈ ez_GW := ez_gw (p := 641) rfl rfl
set_option maxRecDepth 100000 in
theorem ez_kc16 : Cond.code (ez_y 16) (ez_code 16) (ez_ml 16) (ez_ret 16) ∈ ez_GW := ez_gw (p := 820) rfl rfl
set_option maxRecDepth 100000 in
theorem ez_kc17 : Cond.code (ez_y 17) (ez_code 17) (ez_ml 17) (ez_ret 17) ∈ ez_GW := ez_gw (p := 636) rfl rfl
set_option maxRecDepth 100000 in
theorem ez_kc18 : Cond.code (ez_y 18) (ez_code 18) (ez_ml 18) (ez_ret 18) ∈ ez_GW := ez_gw (p := 228) rfl rfl
set_option maxRecDepth 100000 in
theorem ez_kc19 : Cond.code (ez_y 19) (ez_code 19) (ez_ml 19) (ez_ret 19) ∈ ez_GW := ez_gw (p := 250) rfl rfl
set_option maxRecDepth 100000 in
theorem ez_kc20 : Cond.code (ez_y 20) (ez_code 20) (ez_ml 20) (ez_ret 20) ∈ ez_GW := ez_gw (p := 324) rfl rfl
set_option maxRecDepth 100000 in
theorem ez_kc21 : Cond.code (ez_y 21) (ez_code 21) (ez_ml 21) (ez_ret 21) ∈ ez_GW := ez_gw (p := 417) rfl rfl
set_option maxRecDepth 100000 in
theorem ez_kc22 : Cond.code (ez_y 22) (ez_code 22) (ez_ml 22) (ez_ret 22) ∈ ez_GW := ez_gw (p := 422) rfl rfl
set_option maxRecDepth 100000 in
theorem ez_kc23 : Cond.code (ez_y 23) (ez_code 23) (ez_ml 23) (ez_ret 23) ∈ ez_GW := ez_gw (p := 427) rfl rfl
set_option maxRecDepth 100000 in
theorem ez_kc24 : Cond.code (ez_y 24) (ez_code 24) (ez_ml 24) (ez_ret 24) ∈ ez_GW := ez_gw (p := 342) rfl rfl
set_option maxRecDepth 100000 in
theorem ez_kc25 : Cond.code (ez_y 25) (ez_code 25) (ez_ml 25) (ez_ret 25) ∈ ez_GW := ez_gw (p := 272) rfl rfl
set_option maxRecDepth 100000 in
theorem ez_kc26 : Cond.code (ez_y 26) (ez_code 26) (ez_ml 26) (ez_ret 26) ∈ ez_GW := ez_gw (p := 349) rfl rfl
set_option maxRecDepth 100000 in
theorem ez_kc27 : Cond.code (ez_y 27) (ez_code 27) (ez_ml 27) (ez_ret 27) ∈ ez_GW := ez_gw (p := 254) rfl rfl
set_option maxRecDepth 100000 in
theorem ez_kc28 : Cond.code (ez_y 28) (ez_code 28) (ez_ml 28) (ez_ret 28) ∈ ez_GW := ez_gw (p := 258) rfl rfl
set_option maxRecDepth 100000 in
theorem ez_kc29 : Cond.code (ez_y 29) (ez_code 29) (ez_ml 29) (ez_ret 29) ∈ ez_GW := ez_gw (p := 261) rfl rfl
set_option maxRecDepth 100000 in
theorem ez_kc30 : Cond.code (ez_y 30) (ez_code 30) (ez_ml 30) (ez_ret 30) ∈ ez_GW := ez_gw (p := 264) rfl rfl
set_option maxRecDepth 100000 in
theorem ez_kc31 : Cond.code (ez_y 31) (ez_code 31) (ez_ml 31) (ez_ret 31) ∈ ez_GW := ez_gw (p := 267) rfl rfl
set_option maxRecDepth 100000 in
theorem ez_kc32 : Cond.code (ez_y 32) (ez_code 32) (ez_ml 32) (ez_ret 32) ∈ ez_GW := ez_gw (p := 690) rfl rfl
set_option maxRecDepth 100000 in
theorem ez_kc33 : Cond.code (ez_y 33) (ez_code 33) (ez_ml 33) (ez_ret 33) ∈ ez_GW := ez_gw (p := 731) rfl rfl
set_option maxRecDepth 100000 in
theorem ez_kc34 : Cond.code (ez_y 34) (ez_code 34) (ez_ml 34) (ez_ret 34) ∈ ez_GW := ez_gw (p := 766) rfl rfl
set_option maxRecDepth 100000 in
theorem ez_kc35 : Cond.code (ez_y 35) (ez_code 35) (ez_ml 35) (ez_ret 35) ∈ ez_GW := ez_gw (p := 785) rfl rfl
set_option maxRecDepth 100000 in
theorem ez_kc36 : Cond.code (ez_y 36) (ez_code 36) (ez_ml 36) (ez_ret 36) ∈ ez_GW := ez_gw (p := 807) rfl rfl
set_option maxRecDepth 100000 in
theorem ez_kc37 : Cond.code (ez_y 37) (ez_code 37) (ez_ml 37) (ez_ret 37) ∈ ez_GW := ez_gw (p := 196) rfl rfl
set_option maxRecDepth 100000 in
theorem ez_kc38 : Cond.code (ez_y 38) (ez_code 38) (ez_ml 38) (ez_ret 38) ∈ ez_GW := ez_gw (p := 605) rfl rfl
set_option maxRecDepth 100000 in
theorem ez_kc39 : Cond.code (ez_y 39) (ez_code 39) (ez_ml 39) (ez_ret 39) ∈ ez_GW := ez_gw (p := 499) rfl rfl
set_option maxRecDepth 100000 in
theorem ez_kc40 : Cond.code (ez_y 40) (ez_code 40) (ez_ml 40) (ez_ret 40) ∈ ez_GW := ez_gw (p := 77) rfl rfl
set_option maxRecDepth 100000 in
theorem ez_kc41 : Cond.code (ez_y 41) (ez_code 41) (ez_ml 41) (ez_ret 41) ∈ ez_GW := ez_gw (p := 158) rfl rfl
set_option maxRecDepth 100000 in
theorem ez_kc42 : Cond.code (ez_y 42) (ez_code 42) (ez_ml 42) (ez_ret 42) ∈ ez_GW := ez_gw (p := 162) rfl rfl
set_option maxRecDepth 100000 in
theorem ez_kc43 : Cond.code (ez_y 43) (ez_code 43) (ez_ml 43) (ez_ret 43) ∈ ez_GW := ez_gw (p := 169) rfl rfl
set_option maxRecDepth 100000 in
theorem ez_kc44 : Cond.code (ez_y 44) (ez_code 44) (ez_ml 44) (ez_ret 44) ∈ ez_GW := ez_gw (p := 179) rfl rfl
set_option maxRecDepth 100000 in
theorem ez_kc45 : Cond.code (ez_y 45) (ez_code 45) (ez_ml 45) (ez_ret 45) ∈ ez_GW := ez_gw (p := 187) rfl rfl
set_option maxRecDepth 100000 in
theorem ez_kc46 : Cond.code (ez_y 46) (ez_code 46) (ez_ml 46) (ez_ret 46) ∈ ez_GW := ez_gw (p := 434) rfl rfl
set_option maxRecDepth 100000 in
theorem ez_kc47 : Cond.code (ez_y 47) (ez_code 47) (ez_ml 47) (ez_ret 47) ∈ ez_GW := ez_gw (p := 438) rfl rfl
set_option maxRecDepth 100000 in
theorem ez_kc48 : Cond.code (ez_y 48) (ez_code 48) (ez_ml 48) (ez_ret 48) ∈ ez_GW := ez_gw (p := 454) rfl rfl
set_option maxRecDepth 100000 in
theorem ez_kc49 : Cond.code (ez_y 49) (ez_code 49) (ez_ml 49) (ez_ret 49) ∈ ez_GW := ez_gw (p := 462) rfl rfl
set_option maxRecDepth 100000 in
theorem ez_kc50 : Cond.code (ez_y 50) (ez_code 50) (ez_ml 50) (ez_ret 50) ∈ ez_GW := ez_gw (p := 487) rfl rfl
set_option maxRecDepth 100000 in
theorem ez_kc51 : Cond.code (ez_y 51) (ez_code 51) (ez_ml 51) (ez_ret 51) ∈ ez_GW := ez_gw (p := 491) rfl rfl
set_option maxRecDepth 100000 in
theorem ez_kc52 : Cond.code (ez_y 52) (ez_code 52) (ez_ml 52) (ez_ret 52) ∈ ez_GW := ez_gw (p := 589) rfl rfl
set_option maxRecDepth 100000 in
theorem ez_kc53 : Cond.code (ez_y 53) (ez_code 53) (ez_ml 53) (ez_ret 53) ∈ ez_GW := ez_gw (p := 609) rfl rfl
set_option maxRecDepth 100000 in
theorem ez_kc54 : Cond.code (ez_y 54) (ez_code 54) (ez_ml 54) (ez_ret 54) ∈ ez_GW := ez_gw (p := 619) rfl rfl
set_option maxRecDepth 100000 in
theorem ez_kc55 : Cond.code (ez_y 55) (ez_code 55) (ez_ml 55) (ez_ret 55) ∈ ez_GW := ez_gw (p := 623) rfl rfl
set_option maxRecDepth 100000 in
theorem ez_kc56 : Cond.code (ez_y 56) (ez_code 56) (ez_ml 56) (ez_ret 56) ∈ ez_GW := ez_gw (p := 632) rfl rfl
set_option maxRecDepth 100000 in
theorem ez_kc57 : Cond.code (ez_y 57) (ez_code 57) (ez_ml 57) (ez_ret 57) ∈ ez_GW := ez_gw (p := 645) rfl rfl
set_option maxRecDepth 100000 in
theorem ez_kc58 : Cond.code (ez_y 58) (ez_code 58) (ez_ml 58) (ez_ret 58) ∈ ez_GW := ez_gw (p := 649) rfl rfl
set_option maxRecDepth 100000 in
theorem ez_kc59 : Cond.code (ez_y 59) (ez_code 59) (ez_ml 59) (ez_ret 59) ∈ ez_GW := ez_gw (p := 681) rfl rfl
set_option maxRecDepth 100000 in
theorem ez_kc60 : Cond.code (ez_y 60) (ez_code 60) (ez_ml 60) (ez_ret 60) ∈ ez_GW := ez_gw (p := 719) rfl rfl
set_option maxRecDepth 100000 in
theorem ez_kc61 : Cond.code (ez_y 61) (ez_code 61) (ez_ml 61) (ez_ret 61) ∈ ez_GW := ez_gw (p := 751) rfl rfl
set_option maxRecDepth 100000 in
theorem ez_kc62 : Cond.code (ez_y 62) (ez_code 62) (ez_ml 62) (ez_ret 62) ∈ ez_GW := ez_gw (p := 762) rfl rfl
set_option maxRecDepth 100000 in
theorem ez_kc63 : Cond.code (ez_y 63) (ez_code 63) (ez_ml 63) (ez_ret 63) ∈ ez_GW := ez_gw (p := 772) rfl rfl
set_option maxRecDepth 100000 in
theorem ez_kc64 : Cond.code (ez_y 64) (ez_code 64) (ez_ml 64) (ez_ret 64) ∈ ez_GW := ez_gw (p := 799) rfl rfl
set_option maxRecDepth 100000 in
theorem ez_kc65 : Cond.code (ez_y 65) (ez_code 65) (ez_ml 65) (ez_ret 65) ∈ ez_GW := ez_gw (p := 803) rfl rfl
set_option maxRecDepth 100000 in
theorem ez_kc66 : Cond.code (ez_y 66) (ez_code 66) (ez_ml 66) (ez_ret 66) ∈ ez_GW := ez_gw (p := 811) rfl rfl
set_option maxRecDepth 100000 in
theorem ez_kc67 : Cond.code (ez_y 67) (ez_code 67) (ez_ml 67) (ez_ret 67) ∈ ez_GW := ez_gw (p := 824) rfl rfl
set_option maxRecDepth 100000 in
theorem ez_kc68 : Cond.code (ez_y 68) (ez_code 68) (ez_ml 68) (ez_ret 68) ∈ ez_GW := ez_gw (p := 165) rfl rfl
set_option maxRecDepth 100000 in
theorem ez_kc69 : Cond.code (ez_y 69) (ez_code 69) (ez_ml 69) (ez_ret 69) ∈ ez_GW := ez_gw (p := 172) rfl rfl
set_option maxRecDepth 100000 in
theorem ez_kc70 : Cond.code (ez_y 70) (ez_code 70) (ez_ml 70) (ez_ret 70) ∈ ez_GW := ez_gw (p := 175) rfl rfl
set_option maxRecDepth 100000 in
theorem ez_kc71 : Cond.code (ez_y 71) (ez_code 71) (ez_ml 71) (ez_ret 71) ∈ ez_GW := ez_gw (p := 466) rfl rfl
set_option maxRecDepth 100000 in
theorem ez_kc72 : Cond.code (ez_y 72) (ez_code 72) (ez_ml 72) (ez_ret 72) ∈ ez_GW := ez_gw (p := 593) rfl rfl
set_option maxRecDepth 100000 in
theorem ez_kc73 : Cond.code (ez_y 73) (ez_code 73) (ez_ml 73) (ez_ret 73) ∈ ez_GW := ez_gw (p := 685) rfl rfl
set_option maxRecDepth 100000 in
theorem ez_kc74 : Cond.code (ez_y 74) (ez_code 74) (ez_ml 74) (ez_ret 74) ∈ ez_GW := ez_gw (p := 723) rfl rfl
set_option maxRecDepth 100000 in
theorem ez_kc75 : Cond.code (ez_y 75) (ez_code 75) (ez_ml 75) (ez_ret 75) ∈ ez_GW := ez_gw (p := 183) rfl rfl
set_option maxRecDepth 100000 in
theorem ez_kc76 : Cond.code (ez_y 76) (ez_code 76) (ez_ml 76) (ez_ret 76) ∈ ez_GW := ez_gw (p := 458) rfl rfl
set_option maxRecDepth 100000 in
theorem ez_kc77 : Cond.code (ez_y 77) (ez_code 77) (ez_ml 77) (ez_ret 77) ∈ ez_GW := ez_gw (p := 495) rfl rfl
set_option maxRecDepth 100000 in
theorem ez_kc78 : Cond.code (ez_y 78) (ez_code 78) (ez_ml 78) (ez_ret 78) ∈ ez_GW := ez_gw (p := 601) rfl rfl
set_option maxRecDepth 100000 in
theorem ez_kc79 : Cond.code (ez_y 79) (ez_code 79) (ez_ml 79) (ez_ret 79) ∈ ez_GW := ez_gw (p := 514) rfl rfl
set_option maxRecDepth 100000 in
theorem ez_kc80 : Cond.code (ez_y 80) (ez_code 80) (ez_ml 80) (ez_ret 80) ∈ ez_GW := ez_gw (p := 522) rfl rfl
set_option maxRecDepth 100000 in
theorem ez_kc81 : Cond.code (ez_y 81) (ez_code 81) (ez_ml 81) (ez_ret 81) ∈ ez_GW := ez_gw (p := 612) rfl rfl
set_option maxRecDepth 100000 in
theorem ez_kc82 : Cond.code (ez_y 82) (ez_code 82) (ez_ml 82) (ez_ret 82) ∈ ez_GW := ez_gw (p := 615) rfl rfl
set_option maxRecDepth 100000 in
theorem ez_kc83 : Cond.code (ez_y 83) (ez_code 83) (ez_ml 83) (ez_ret 83) ∈ ez_GW := ez_gw (p := 727) rfl rfl
set_option maxRecDepth 100000 in
theorem ez_kc84 : Cond.code (ez_y 84) (ez_code 84) (ez_ml 84) (ez_ret 84) ∈ ez_GW := ez_gw (p := 628) rfl rfl
set_option maxRecDepth 100000 in
theorem ez_kc85 : Cond.code (ez_y 85) (ez_code 85) (ez_ml 85) (ez_ret 85) ∈ ez_GW := ez_gw (p := 816) rfl rfl
set_option maxRecDepth 100000 in
theorem ez_kc86 : Cond.code (ez_y 86) (ez_code 86) (ez_ml 86) (ez_ret 86) ∈ ez_GW := ez_gw (p := 828) rfl rfl
set_option maxRecDepth 100000 in
theorem ez_kc87 : Cond.code (ez_y 87) (ez_code 87) (ez_ml 87) (ez_ret 87) ∈ ez_GW := ez_gw (p := 832) rfl rfl
set_option maxRecDepth 100000 in
theorem ez_kc88 : Cond.code (ez_y 88) (ez_code 88) (ez_ml 88) (ez_ret 88) ∈ ez_GW := ez_gw (p := 837) rfl rfl
set_option maxRecDepth 100000 in
theorem ez_kc89 : Cond.code (ez_y 89) (ez_code 89) (ez_ml 89) (ez_ret 89) ∈ ez_GW := ez_gw (p := 842) rfl rfl
set_option maxRecDepth 100000 in
theorem ez_kc90 : Cond.code (ez_y 90) (ez_code 90) (ez_ml 90) (ez_ret 90) ∈ ez_GW := ez_gw (p := 1015) rfl rfl
set_option maxRecDepth 100000 in
theorem ez_kc91 : Cond.code (ez_y 91) (ez_code 91) (ez_ml 91) (ez_ret 91) ∈ ez_GW := ez_gw (p := 1092) rfl rfl
set_option maxRecDepth 100000 in
theorem ez_kc92 : Cond.code (ez_y 92) (ez_code 92) (ez_ml 92) (ez_ret 92) ∈ ez_GW := ez_gw (p := 1118) rfl rfl
set_option maxRecDepth 100000 in
theorem ez_kc93 : Cond.code (ez_y 93) (ez_code 93) (ez_ml 93) (ez_ret 93) ∈ ez_GW := ez_gw (p := 1174) rfl rfl
set_option maxRecDepth 100000 in
theorem ez_kc94 : Cond.code (ez_y 94) (ez_code 94) (ez_ml 94) (ez_ret 94) ∈ ez_GW := ez_gw (p := 1182) rfl rfl
set_option maxRecDepth 100000 in
theorem ez_kc95 : Cond.code (ez_y 95) (ez_code 95) (ez_ml 95) (ez_ret 95) ∈ ez_GW := ez_gw (p := 1008) rfl rfl
set_option maxRecDepth 100000 in
theorem ez_kc96 : Cond.code (ez_y 96) (ez_code 96) (ez_ml 96) (ez_ret 96) ∈ ez_GW := ez_gw (p := 1012) rfl rfl
set_option maxRecDepth 100000 in
theorem ez_kc97 : Cond.code (ez_y 97) (ez_code 97) (ez_ml 97) (ez_ret 97) ∈ ez_GW := ez_gw (p := 1022) rfl rfl
set_option maxRecDepth 100000 in
theorem ez_kc98 : Cond.code (ez_y 98) (ez_code 98) (ez_ml 98) (ez_ret 98) ∈ ez_GW := ez_gw (p := 1019) rfl rfl
set_option maxRecDepth 100000 in
theorem ez_kc99 : Cond.code (ez_y 99) (ez_code 99) (ez_ml 99) (ez_ret 99) ∈ ez_GW := ez_gw (p := 1026) rfl rfl
set_option maxRecDepth 100000 in
theorem ez_kc100 : Cond.code (ez_y 100) (ez_code 100) (ez_ml 100) (ez_ret 100) ∈ ez_GW := ez_gw (p := 1030) rfl rfl
set_option maxRecDepth 100000 in
theorem ez_kc101 : Cond.code (ez_y 101) (ez_code 101) (ez_ml 101) (ez_ret 101) ∈ ez_GW := ez_gw (p := 1038) rfl rfl
set_option maxRecDepth 100000 in
theorem ez_kc102 : Cond.code (ez_y 102) (ez_code 102) (ez_ml 102) (ez_ret 102) ∈ ez_GW := ez_gw (p := 1051) rfl rfl
set_option maxRecDepth 100000 in
theorem ez_kc103 : Cond.code (ez_y 103) (ez_code 103) (ez_ml 103) (ez_ret 103) ∈ ez_GW := ez_gw (p := 1047) rfl rfl
set_option maxRecDepth 100000 in
theorem ez_kc104 : Cond.code (ez_y 104) (ez_code 104) (ez_ml 104) (ez_ret 104) ∈ ez_GW := ez_gw (p := 1066) rfl rfl
set_option maxRecDepth 100000 in
theorem ez_kc105 : Cond.code (ez_y 105) (ez_code 105) (ez_ml 105) (ez_ret 105) ∈ ez_GW := ez_gw (p := 1059) rfl rfl
set_option maxRecDepth 100000 in
theorem ez_kc106 : Cond.code (ez_y 106) (ez_code 106) (ez_ml 106) (ez_ret 106) ∈ ez_GW := ez_gw (p := 1055) rfl rfl
set_option maxRecDepth 100000 in
theorem ez_kc107 : Cond.code (ez_y 107) (ez_code 107) (ez_ml 107) (ez_ret 107) ∈ ez_GW := ez_gw (p := 1042) rfl rfl
set_option maxRecDepth 100000 in
theorem ez_kc108 : Cond.code (ez_y 108) (ez_code 108) (ez_ml 108) (ez_ret 108) ∈ ez_GW := ez_gw (p := 1034) rfl rfl
set_option maxRecDepth 100000 in
theorem ez_kc109 : Cond.code (ez_y 109) (ez_code 109) (ez_ml 109) (ez_ret 109) ∈ ez_GW := ez_gw (p := 1076) rfl rfl
set_option maxRecDepth 100000 in
theorem ez_kc110 : Cond.code (ez_y 110) (ez_code 110) (ez_ml 110) (ez_ret 110) ∈ ez_GW := ez_gw (p := 1080) rfl rfl
set_option maxRecDepth 100000 in
theorem ez_kc111 : Cond.code (ez_y 111) (ez_code 111) (ez_ml 111) (ez_ret 111) ∈ ez_GW := ez_gw (p := 1084) rfl rfl
set_option maxRecDepth 100000 in
theorem ez_kc112 : Cond.code (ez_y 112) (ez_code 112) (ez_ml 112) (ez_ret 112) ∈ ez_GW := ez_gw (p := 1109) rfl rfl
set_option maxRecDepth 100000 in
theorem ez_kc113 : Cond.code (ez_y 113) (ez_code 113) (ez_ml 113) (ez_ret 113) ∈ ez_GW := ez_gw (p := 1122) rfl rfl
set_option maxRecDepth 100000 in
theorem ez_kc114 : Cond.code (ez_y 114) (ez_code 114) (ez_ml 114) (ez_ret 114) ∈ ez_GW := ez_gw (p := 1105) rfl rfl
set_option maxRecDepth 100000 in
theorem ez_kc115 : Cond.code (ez_y 115) (ez_code 115) (ez_ml 115) (ez_ret 115) ∈ ez_GW := ez_gw (p := 1126) rfl rfl
set_option maxRecDepth 100000 in
theorem ez_kc116 : Cond.code (ez_y 116) (ez_code 116) (ez_ml 116) (ez_ret 116) ∈ ez_GW := ez_gw (p := 1088) rfl rfl
set_option maxRecDepth 100000 in
theorem ez_kc117 : Cond.code (ez_y 117) (ez_code 117) (ez_ml 117) (ez_ret 117) ∈ ez_GW := ez_gw (p := 1096) rfl rfl
set_option maxRecDepth 100000 in
theorem ez_kc118 : Cond.code (ez_y 118) (ez_code 118) (ez_ml 118) (ez_ret 118) ∈ ez_GW := ez_gw (p := 1100) rfl rfl
set_option maxRecDepth 100000 in
theorem ez_kc119 : Cond.code (ez_y 119) (ez_code 119) (ez_ml 119) (ez_ret 119) ∈ ez_GW := ez_gw (p := 1114) rfl rfl
set_option maxRecDepth 100000 in
theorem ez_kc120 : Cond.code (ez_y 120) (ez_code 120) (ez_ml 120) (ez_ret 120) ∈ ez_GW := ez_gw (p := 1133) rfl rfl
set_option maxRecDepth 100000 in
theorem ez_kc121 : Cond.code (ez_y 121) (ez_code 121) (ez_ml 121) (ez_ret 121) ∈ ez_GW := ez_gw (p := 1130) rfl rfl
set_option maxRecDepth 100000 in
theorem ez_kc122 : Cond.code (ez_y 122) (ez_code 122) (ez_ml 122) (ez_ret 122) ∈ ez_GW := ez_gw (p := 1137) rfl rfl
set_option maxRecDepth 100000 in
theorem ez_kc123 : Cond.code (ez_y 123) (ez_code 123) (ez_ml 123) (ez_ret 123) ∈ ez_GW := ez_gw (p := 1141) rfl rfl
set_option maxRecDepth 100000 in
theorem ez_kc124 : Cond.code (ez_y 124) (ez_code 124) (ez_ml 124) (ez_ret 124) ∈ ez_GW := ez_gw (p := 1158) rfl rfl
set_option maxRecDepth 100000 in
theorem ez_kc125 : Cond.code (ez_y 125) (ez_code 125) (ez_ml 125) (ez_ret 125) ∈ ez_GW := ez_gw (p := 1154) rfl rfl
set_option maxRecDepth 100000 in
theorem ez_kc126 : Cond.code (ez_y 126) (ez_code 126) (ez_ml 126) (ez_ret 126) ∈ ez_GW := ez_gw (p := 1150) rfl rfl
set_option maxRecDepth 100000 in
theorem ez_kc127 : Cond.code (ez_y 127) (ez_code 127) (ez_ml 127) (ez_ret 127) ∈ ez_GW := ez_gw (p := 1147) rfl rfl
set_option maxRecDepth 100000 in
theorem ez_kc128 : Cond.code (ez_y 128) (ez_code 128) (ez_ml 128) (ez_ret 128) ∈ ez_GW := ez_gw (p := 1162) rfl rfl
set_option maxRecDepth 100000 in
theorem ez_kc129 : Cond.code (ez_y 129) (ez_code 129) (ez_ml 129) (ez_ret 129) ∈ ez_GW := ez_gw (p := 1166) rfl rfl
set_option maxRecDepth 100000 in
theorem ez_kc130 : Cond.code (ez_y 130) (ez_code 130) (ez_ml 130) (ez_ret 130) ∈ ez_GW := ez_gw (p := 1170) rfl rfl
set_option maxRecDepth 100000 in
theorem ez_kc131 : Cond.code (ez_y 131) (ez_code 131) (ez_ml 131) (ez_ret 131) ∈ ez_GW := ez_gw (p := 1186) rfl rfl
set_option maxRecDepth 100000 in
theorem ez_kc132 : Cond.code (ez_y 132) (ez_code 132) (ez_ml 132) (ez_ret 132) ∈ ez_GW := ez_gw (p := 1178) rfl rfl
set_option maxRecDepth 100000 in
theorem ez_kc133 : Cond.code (ez_y 133) (ez_code 133) (ez_ml 133) (ez_ret 133) ∈ ez_GW := ez_gw (p := 1190) rfl rfl
set_option maxRecDepth 100000 in
theorem ez_kc134 : Cond.code (ez_y 134) (ez_code 134) (ez_ml 134) (ez_ret 134) ∈ ez_GW := ez_gw (p := 1194) rfl rfl
set_option maxRecDepth 100000 in
theorem ez_kc135 : Cond.code (ez_y 135) (ez_code 135) (ez_ml 135) (ez_ret 135) ∈ ez_GW := ez_gw (p := 1198) rfl rfl
set_option maxRecDepth 100000 in
theorem ez_kc136 : Cond.code (ez_y 136) (ez_code 136) (ez_ml 136) (ez_ret 136) ∈ ez_GW := ez_gw (p := 1203) rfl rfl
set_option maxRecDepth 100000 in
theorem ez_kc137 : Cond.code (ez_y 137) (ez_code 137) (ez_ml 137) (ez_ret 137) ∈ ez_GW := ez_gw (p := 1207) rfl rfl
set_option maxRecDepth 100000 in
theorem ez_kc138 : Cond.code (ez_y 138) (ez_code 138) (ez_ml 138) (ez_ret 138) ∈ ez_GW := ez_gw (p := 1211) rfl rfl
set_option maxRecDepth 100000 in
theorem ez_kc139 : Cond.code (ez_y 139) (ez_code 139) (ez_ml 139) (ez_ret 139) ∈ ez_GW := ez_gw (p := 1216) rfl rfl
set_option maxRecDepth 100000 in
theorem ez_kc140 : Cond.code (ez_y 140) (ez_code 140) (ez_ml 140) (ez_ret 140) ∈ ez_GW := ez_gw (p := 276) rfl rfl
set_option maxRecDepth 100000 in
theorem ez_kc141 : Cond.code (ez_y 141) (ez_code 141) (ez_ml 141) (ez_ret 141) ∈ ez_GW := ez_gw (p := 286) rfl rfl
set_option maxRecDepth 100000 in
theorem ez_kc142 : Cond.code (ez_y 142) (ez_code 142) (ez_ml 142) (ez_ret 142) ∈ ez_GW := ez_gw (p := 280) rfl rfl
set_option maxRecDepth 100000 in
theorem ez_kc143 : Cond.code (ez_y 143) (ez_code 143) (ez_ml 143) (ez_ret 143) ∈ ez_GW := ez_gw (p := 290) rfl rfl
set_option maxRecDepth 100000 in
theorem ez_kc144 : Cond.code (ez_y 144) (ez_code 144) (ez_ml 144) (ez_ret 144) ∈ ez_GW := ez_gw (p := 296) rfl rfl
set_option maxRecDepth 100000 in
theorem ez_kc145 : Cond.code (ez_y 145) (ez_code 145) (ez_ml 145) (ez_ret 145) ∈ ez_GW := ez_gw (p := 293) rfl rfl
set_option maxRecDepth 100000 in
theorem ez_kc146 : Cond.code (ez_y 146) (ez_code 146) (ez_ml 146) (ez_ret 146) ∈ ez_GW := ez_gw (p := 91) rfl rfl
set_option maxRecDepth 100000 in
theorem ez_kc147 : Cond.code (ez_y 147) (ez_code 147) (ez_ml 147) (ez_ret 147) ∈ ez_GW := ez_gw (p := 88) rfl rfl
set_option maxRecDepth 100000 in
theorem ez_kc148 : Cond.code (ez_y 148) (ez_code 148) (ez_ml 148) (ez_ret 148) ∈ ez_GW := ez_gw (p := 85) rfl rfl
set_option maxRecDepth 100000 in
theorem ez_kc149 : Cond.code (ez_y 149) (ez_code 149) (ez_ml 149) (ez_ret 149) ∈ ez_GW := ez_gw (p := 371) rfl rfl
set_option maxRecDepth 100000 in
theorem ez_kc150 : Cond.code (ez_y 150) (ez_code 150) (ez_ml 150) (ez_ret 150) ∈ ez_GW := ez_gw (p := 367) rfl rfl
set_option maxRecDepth 100000 in
theorem ez_kc151 : Cond.code (ez_y 151) (ez_code 151) (ez_ml 151) (ez_ret 151) ∈ ez_GW := ez_gw (p := 191) rfl rfl
set_option maxRecDepth 100000 in
theorem ez_kc152 : Cond.code (ez_y 152) (ez_code 152) (ez_ml 152) (ez_ret 152) ∈ ez_GW := ez_gw (p := 450) rfl rfl
set_option maxRecDepth 100000 in
theorem ez_kc153 : Cond.code (ez_y 153) (ez_code 153) (ez_ml 153) (ez_ret 153) ∈ ez_GW := ez_gw (p := 442) rfl rfl
set_option maxRecDepth 100000 in
theorem ez_kc154 : Cond.code (ez_y 154) (ez_code 154) (ez_ml 154) (ez_ret 154) ∈ ez_GW := ez_gw (p := 363) rfl rfl
set_option maxRecDepth 100000 in
theorem ez_kc155 : Cond.code (ez_y 155) (ez_code 155) (ez_ml 155) (ez_ret 155) ∈ ez_GW := ez_gw (p := 359) rfl rfl
set_option maxRecDepth 100000 in
theorem ez_kc156 : Cond.code (ez_y 156) (ez_code 156) (ez_ml 156) (ez_ret 156) ∈ ez_GW := ez_gw (p := 445) rfl rfl
set_option maxRecDepth 100000 in
theorem ez_kc157 : Cond.code (ez_y 157) (ez_code 157) (ez_ml 157) (ez_ret 157) ∈ ez_GW := ez_gw (p := 374) rfl rfl
set_option maxRecDepth 100000 in
theorem ez_kc158 : Cond.code (ez_y 158) (ez_code 158) (ez_ml 158) (ez_ret 158) ∈ ez_GW := ez_gw (p := 301) rfl rfl
theorem ez_kcs {k : Nat} (h : k < 159) : Cond.code (ez_y k) (ez_code k) (ez_ml k) (ez_ret k) ∈ ez_GW := by
  match k, h with
  | 0, _ => exact ez_kc0
  | 1, _ => exact ez_kc1
  | 2, _ => exact ez_kc2
  | 3, _ => exact ez_kc3
  | 4, _ => exact ez_kc4
  | 5, _ => exact ez_kc5
  | 6, _ => exact ez_kc6
  | 7, _ => exact ez_kc7
  | 8, _ => exact ez_kc8
  | 9, _ => exact ez_kc9
  | 10, _ => exact ez_kc10
  | 11, _ => exact ez_kc11
  | 12, _ => exact ez_kc12
  | 13, _ => exact ez_kc13
  | 14, _ => exact ez_kc14
  | 15, _ => exact ez_kc15
  | 16, _ => exact ez_kc16
  | 17, _ => exact ez_kc17
  | 18, _ => exact ez_kc18
  | 19, _ => exact ez_kc19
  | 20, _ => exact ez_kc20
  | 21, _ => exact ez_kc21
  | 22, _ => exact ez_kc22
  | 23, _ => exact ez_kc23
  | 24, _ => exact ez_kc24
  | 25, _ => exact ez_kc25
  | 26, _ => exact ez_kc26
  | 27, _ => exact ez_kc27
  | 28, _ => exact ez_kc28
  | 29, _ => exact ez_kc29
  | 30, _ => exact ez_kc30
  | 31, _ => exact ez_kc31
  | 32, _ => exact ez_kc32
  | 33, _ => exact ez_kc33
  | 34, _ => exact ez_kc34
  | 35, _ => exact ez_kc35
  | 36, _ => exact ez_kc36
  | 37, _ => exact ez_kc37
  | 38, _ => exact ez_kc38
  | 39, _ => exact ez_kc39
  | 40, _ => exact ez_kc40
  | 41, _ => exact ez_kc41
  | 42, _ => exact ez_kc42
  | 43, _ => exact ez_kc43
  | 44, _ => exact ez_kc44
  | 45, _ => exact ez_kc45
  | 46, _ => exact ez_kc46
  | 47, _ => exact ez_kc47
  | 48, _ => exact ez_kc48
  | 49, _ => exact ez_kc49
  | 50, _ => exact ez_kc50
  | 51, _ => exact ez_kc51
  | 52, _ => exact ez_kc52
  | 53, _ => exact ez_kc53
  | 54, _ => exact ez_kc54
  | 55, _ => exact ez_kc55
  | 56, _ => exact ez_kc56
  | 57, _ => exact ez_kc57
  | 58, _ => exact ez_kc58
  | 59, _ => exact ez_kc59
  | 60, _ => exact ez_kc60
  | 61, _ => exact ez_kc61
  | 62, _ => exact ez_kc62
  | 63, _ => exact ez_kc63
  | 64, _ => exact ez_kc64
  | 65, _ => exact ez_kc65
  | 66, _ => exact ez_kc66
  | 67, _ => exact ez_kc67
  | 68, _ => exact ez_kc68
  | 69, _ => exact ez_kc69
  | 70, _ => exact ez_kc70
  | 71, _ => exact ez_kc71
  | 72, _ => exact ez_kc72
  | 73, _ => exact ez_kc73
  | 74, _ => exact ez_kc74
  | 75, _ => exact ez_kc75
  | 76, _ => exact ez_kc76
  | 77, _ => exact ez_kc77
  | 78, _ => exact ez_kc78
  | 79, _ => exact ez_kc79
  | 80, _ => exact ez_kc80
  | 81, _ => exact ez_kc81
  | 82, _ => exact ez_kc82
  | 83, _ => exact ez_kc83
  | 84, _ => exact ez_kc84
  | 85, _ => exact ez_kc85
  | 86, _ => exact ez_kc86
  | 87, _ => exact ez_kc87
  | 88, _ => exact ez_kc88
  | 89, _ => exact ez_kc89
  | 90, _ => exact ez_kc90
  | 91, _ => exact ez_kc91
  | 92, _ => exact ez_kc92
  | 93, _ => exact ez_kc93
  | 94, _ => exact ez_kc94
  | 95, _ => exact ez_kc95
  | 96, _ => exact ez_kc96
  | 97, _ => exact ez_kc97
  | 98, _ => exact ez_kc98
  | 99, _ => exact ez_kc99
  | 100, _ => exact ez_kc100
  | 101, _ => exact ez_kc101
  | 102, _ => exact ez_kc102
  | 103, _ => exact ez_kc103
  | 104, _ => exact ez_kc104
  | 105, _ => exact ez_kc105
  | 106, _ => exact ez_kc106
  | 107, _ => exact ez_kc107
  | 108, _ => exact ez_kc108
  | 109, _ => exact ez_kc109
  | 110, _ => exact ez_kc110
  | 111, _ => exact ez_kc111
  | 112, _ => exact ez_kc112
  | 113, _ => exact ez_kc113
  | 114, _ => exact ez_kc114
  | 115, _ => exact ez_kc115
  | 116, _ => exact ez_kc116
  | 117, _ => exact ez_kc117
  | 118, _ => exact ez_kc118
  | 119, _ => exact ez_kc119
  | 120, _ => exact ez_kc120
  | 121, _ => exact ez_kc121
  | 122, _ => exact ez_kc122
  | 123, _ => exact ez_kc123
  | 124, _ => exact ez_kc124
  | 125, _ => exact ez_kc125
  | 126, _ => exact ez_kc126
  | 127, _ => exact ez_kc127
  | 128, _ => exact ez_kc128
  | 129, _ => exact ez_kc129
  | 130, _ => exact ez_kc130
  | 131, _ => exact ez_kc131
  | 132, _ => exact ez_kc132
  | 133, _ => exact ez_kc133
  | 134, _ => exact ez_kc134
  | 135, _ => exact ez_kc135
  | 136, _ => exact ez_kc136
  | 137, _ => exact ez_kc137
  | 138, _ => exact ez_kc138
  | 139, _ => exact ez_kc139
  | 140, _ => exact ez_kc140
  | 141, _ => exact ez_kc141
  | 142, _ => exact ez_kc142
  | 143, _ => exact ez_kc143
  | 144, _ => exact ez_kc144
  | 145, _ => exact ez_kc145
  | 146, _ => exact ez_kc146
  | 147, _ => exact ez_kc147
  | 148, _ => exact ez_kc148
  | 149, _ => exact ez_kc149
  | 150, _ => exact ez_kc150
  | 151, _ => exact ez_kc151
  | 152, _ => exact ez_kc152
  | 153, _ => exact ez_kc153
  | 154, _ => exact ez_kc154
  | 155, _ => exact ez_kc155
  | 156, _ => exact ez_kc156
  | 157, _ => exact ez_kc157
  | 158, _ => exact ez_kc158
  | n + 159, h => omega
theorem ez_mmax1 : Cond.static Lib.Math.max.name ∈ ez_GW := ez_is_in (p := 376) (by decide +kernel)
set_option maxRecDepth 100000 in
theorem ez_mmax2 : Cond.code Lib.Math.max.name Lib.Math.max.code 2 (some .int) ∈ ez_GW := ez_is_in (p := 377) (by decide +kernel)
theorem ez_mmin1 : Cond.static Lib.Math.min.name ∈ ez_GW := ez_is_in (p := 231) (by decide +kernel)
set_option maxRecDepth 100000 in
theorem ez_mmin2 : Cond.code Lib.Math.min.name Lib.Math.min.code 2 (some .int) ∈ ez_GW := ez_is_in (p := 232) (by decide +kernel)
theorem ez_mini : Cond.initialized "java/lang/Math" ∈ ez_GW := ez_is_in (p := 58) (by decide +kernel)
theorem ez_ob1 : Cond.instanceMethod objectInit ∈ ez_GW := ez_is_in (p := 79) (by decide +kernel)
theorem ez_ob2 : Cond.code objectInit ⟨#[0xb1]⟩ 1 none ∈ ez_GW := ez_is_in (p := 80) (by decide +kernel)
