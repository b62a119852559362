section ZR
variable {g : ez_G} {k pc : Nat} {ls : ez_L} {st r : List Value} {h : ez_H}
def ez_nl (x : Option Value) : Bool := match x with
  | some v => v.category == 1
  | none => true
theorem ez_nl_n : ez_nl none = true := rfl
theorem ez_nl_i {x : Int32} : ez_nl (some (.int x)) = true := rfl
theorem ez_nl_r {x : Nat} : ez_nl (some (.ref x)) = true := rfl
theorem ez_nl_0 : ez_nl (some .null) = true := rfl
theorem ez_bd_s {v : Value} : ez_bd g k pc ls r (some (some v, h)) = ez_rn g k pc ls (v :: r) h := rfl
theorem ez_bd_n : ez_bd g k pc ls r (some (none, h)) = ez_rn g k pc ls r h := rfl
theorem ez_lp_ok {i : Nat} {v : Value} (h1 : i < ls.length) (h2 : ez_pl ls i = true) : ez_lp ls i v = some (ls.set i (some v)) := if_pos ⟨h1, h2⟩
theorem ez_lp2_ok {i : Nat} {v : Value} (h1 : i + 1 < ls.length) (h2 : ez_pl ls i = true) : ez_lp2 ls i v = some ((ls.set i (some v)).set (i + 1) none) := if_pos ⟨h1, h2⟩
theorem rl_iconst {i : Int} (hd : decode (ez_code k) pc = .ok (.iconst i, 1)) : ez_rn g k pc ls st h = ez_rn g k (pc + 1) ls (.int (Int32.ofInt i) :: st) h := ez_rn_go g ((ez_stp_of g hd).trans (rfl))
theorem rl_bipush {i : Int} (hd : decode (ez_code k) pc = .ok (.bipush i, 2)) : ez_rn g k pc ls st h = ez_rn g k (pc + 2) ls (.int (Int8.ofInt i).toInt32 :: st) h := ez_rn_go g ((ez_stp_of g hd).trans (rfl))
theorem rl_sipush {i : Int} (hd : decode (ez_code k) pc = .ok (.sipush i, 3)) : ez_rn g k pc ls st h = ez_rn g k (pc + 3) ls (.int (Int16.ofInt i).toInt32 :: st) h := ez_rn_go g ((ez_stp_of g hd).trans (rfl))
theorem rl_lconst {i : Fin 2} (hd : decode (ez_code k) pc = .ok (.lconst i, 1)) : ez_rn g k pc ls st h = ez_rn g k (pc + 1) ls (.long (Int64.ofNat (i : Nat)) :: st) h := ez_rn_go g ((ez_stp_of g hd).trans (rfl))
theorem rl_null (hd : decode (ez_code k) pc = .ok (.aconst_null, 1)) : ez_rn g k pc ls st h = ez_rn g k (pc + 1) ls (.null :: st) h := ez_rn_go g ((ez_stp_of g hd).trans (rfl))
theorem rl_iadd {a b : Int32} (hd : decode (ez_code k) pc = .ok (.iadd, 1)) : ez_rn g k pc ls (.int b :: .int a :: r) h = ez_rn g k (pc + 1) ls (.int (a + b) :: r) h := ez_rn_go g ((ez_stp_of g hd).trans (rfl))
theorem rl_isub {a b : Int32} (hd : decode (ez_code k) pc = .ok (.isub, 1)) : ez_rn g k pc ls (.int b :: .int a :: r) h = ez_rn g k (pc + 1) ls (.int (a - b) :: r) h := ez_rn_go g ((ez_stp_of g hd).trans (rfl))
theorem rl_imul {a b : Int32} (hd : decode (ez_code k) pc = .ok (.imul, 1)) : ez_rn g k pc ls (.int b :: .int a :: r) h = ez_rn g k (pc + 1) ls (.int (a * b) :: r) h := ez_rn_go g ((ez_stp_of g hd).trans (rfl))
theorem rl_iand {a b : Int32} (hd : decode (ez_code k) pc = .ok (.iand, 1)) : ez_rn g k pc ls (.int b :: .int a :: r) h = ez_rn g k (pc + 1) ls (.int (a &&& b) :: r) h := ez_rn_go g ((ez_stp_of g hd).trans (rfl))
theorem rl_ior {a b : Int32} (hd : decode (ez_code k) pc = .ok (.ior, 1)) : ez_rn g k pc ls (.int b :: .int a :: r) h = ez_rn g k (pc + 1) ls (.int (a ||| b) :: r) h := ez_rn_go g ((ez_stp_of g hd).trans (rfl))
theorem rl_ishl {a b : Int32} (hd : decode (ez_code k) pc = .ok (.ishl, 1)) : ez_rn g k pc ls (.int b :: .int a :: r) h = ez_rn g k (pc + 1) ls (.int (a <<< (b &&& 31)) :: r) h := ez_rn_go g ((ez_stp_of g hd).trans (rfl))
theorem rl_ishr {a b : Int32} (hd : decode (ez_code k) pc = .ok (.ishr, 1)) : ez_rn g k pc ls (.int b :: .int a :: r) h = ez_rn g k (pc + 1) ls (.int (a >>> (b &&& 31)) :: r) h := ez_rn_go g ((ez_stp_of g hd).trans (rfl))
theorem rl_ladd {a b : Int64} (hd : decode (ez_code k) pc = .ok (.ladd, 1)) : ez_rn g k pc ls (.long b :: .long a :: r) h = ez_rn g k (pc + 1) ls (.long (a + b) :: r) h := ez_rn_go g ((ez_stp_of g hd).trans (rfl))
theorem rl_lmul {a b : Int64} (hd : decode (ez_code k) pc = .ok (.lmul, 1)) : ez_rn g k pc ls (.long b :: .long a :: r) h = ez_rn g k (pc + 1) ls (.long (a * b) :: r) h := ez_rn_go g ((ez_stp_of g hd).trans (rfl))
theorem rl_lor {a b : Int64} (hd : decode (ez_code k) pc = .ok (.lor, 1)) : ez_rn g k pc ls (.long b :: .long a :: r) h = ez_rn g k (pc + 1) ls (.long (a ||| b) :: r) h := ez_rn_go g ((ez_stp_of g hd).trans (rfl))
theorem rl_idiv {a b : Int32} (hd : decode (ez_code k) pc = .ok (.idiv, 1)) (hb : ¬ b = 0) : ez_rn g k pc ls (.int b :: .int a :: r) h = ez_rn g k (pc + 1) ls (.int (a / b) :: r) h := ez_rn_go g ((ez_stp_of g hd).trans (if_neg hb))
theorem rl_irem {a b : Int32} (hd : decode (ez_code k) pc = .ok (.irem, 1)) (hb : ¬ b = 0) : ez_rn g k pc ls (.int b :: .int a :: r) h = ez_rn g k (pc + 1) ls (.int (a - a / b * b) :: r) h := ez_rn_go g ((ez_stp_of g hd).trans (if_neg hb))
theorem rl_ldiv {a b : Int64} (hd : decode (ez_code k) pc = .ok (.ldiv, 1)) (hb : ¬ b = 0) : ez_rn g k pc ls (.long b :: .long a :: r) h = ez_rn g k (pc + 1) ls (.long (a / b) :: r) h := ez_rn_go g ((ez_stp_of g hd).trans (if_neg hb))
theorem rl_lrem {a b : Int64} (hd : decode (ez_code k) pc = .ok (.lrem, 1)) (hb : ¬ b = 0) : ez_rn g k pc ls (.long b :: .long a :: r) h = ez_rn g k (pc + 1) ls (.long (a - a / b * b) :: r) h := ez_rn_go g ((ez_stp_of g hd).trans (if_neg hb))
theorem rl_lshl {a : Int64} {b : Int32} (hd : decode (ez_code k) pc = .ok (.lshl, 1)) : ez_rn g k pc ls (.int b :: .long a :: r) h = ez_rn g k (pc + 1) ls (.long (a <<< (b.toInt64 &&& 63)) :: r) h := ez_rn_go g ((ez_stp_of g hd).trans (rfl))
theorem rl_lcmp {a b : Int64} (hd : decode (ez_code k) pc = .ok (.lcmp, 1)) : ez_rn g k pc ls (.long b :: .long a :: r) h = ez_rn g k (pc + 1) ls (.int (lg_cmp a b) :: r) h := ez_rn_go g ((ez_stp_of g hd).trans (rfl))
theorem rl_i2l {a : Int32} (hd : decode (ez_code k) pc = .ok (.i2l, 1)) : ez_rn g k pc ls (.int a :: r) h = ez_rn g k (pc + 1) ls (.long a.toInt64 :: r) h := ez_rn_go g ((ez_stp_of g hd).trans (rfl))
theorem rl_l2i {a : Int64} (hd : decode (ez_code k) pc = .ok (.l2i, 1)) : ez_rn g k pc ls (.long a :: r) h = ez_rn g k (pc + 1) ls (.int a.toInt32 :: r) h := ez_rn_go g ((ez_stp_of g hd).trans (rfl))
theorem rl_i2b {a : Int32} (hd : decode (ez_code k) pc = .ok (.i2b, 1)) : ez_rn g k pc ls (.int a :: r) h = ez_rn g k (pc + 1) ls (.int a.toInt8.toInt32 :: r) h := ez_rn_go g ((ez_stp_of g hd).trans (rfl))
theorem rl_i2c {a : Int32} (hd : decode (ez_code k) pc = .ok (.i2c, 1)) : ez_rn g k pc ls (.int a :: r) h = ez_rn g k (pc + 1) ls (.int (a.toUInt32 % 65536).toInt32 :: r) h := ez_rn_go g ((ez_stp_of g hd).trans (rfl))
theorem rl_iload {i : Nat} {x : Int32} (hd : decode (ez_code k) pc = .ok (.iload i, 2)) (hl : ez_lg ls i = some (.int x)) : ez_rn g k pc ls st h = ez_rn g k (pc + 2) ls (.int x :: st) h := ez_rn_go g ((ez_stp_of g hd).trans (by simp only [ez_st, hl, if_true]))
theorem rl_iload_n {i : Fin 4} {x : Int32} (hd : decode (ez_code k) pc = .ok (.iload_n i, 1)) (hl : ez_lg ls (i : Nat) = some (.int x)) : ez_rn g k pc ls st h = ez_rn g k (pc + 1) ls (.int x :: st) h := ez_rn_go g ((ez_stp_of g hd).trans (by simp only [ez_st, hl, if_true]))
theorem rl_lload {i : Nat} {x : Int64} (hd : decode (ez_code k) pc = .ok (.lload i, 2)) (hl : ez_lg ls i = some (.long x)) : ez_rn g k pc ls st h = ez_rn g k (pc + 2) ls (.long x :: st) h := ez_rn_go g ((ez_stp_of g hd).trans (by simp only [ez_st, hl, if_true]))
theorem rl_lload_n {i : Fin 4} {x : Int64} (hd : decode (ez_code k) pc = .ok (.lload_n i, 1)) (hl : ez_lg ls (i : Nat) = some (.long x)) : ez_rn g k pc ls st h = ez_rn g k (pc + 1) ls (.long x :: st) h := ez_rn_go g ((ez_stp_of g hd).trans (by simp only [ez_st, hl, if_true]))
theorem rl_aload {i : Nat} {x : Nat} (hd : decode (ez_code k) pc = .ok (.aload i, 2)) (hl : ez_lg ls i = some (.ref x)) : ez_rn g k pc ls st h = ez_rn g k (pc + 2) ls (.ref x :: st) h := ez_rn_go g ((ez_stp_of g hd).trans (by simp only [ez_st, hl, if_true]))
theorem rl_aload_n {i : Fin 4} {x : Nat} (hd : decode (ez_code k) pc = .ok (.aload_n i, 1)) (hl : ez_lg ls (i : Nat) = some (.ref x)) : ez_rn g k pc ls st h = ez_rn g k (pc + 1) ls (.ref x :: st) h := ez_rn_go g ((ez_stp_of g hd).trans (by simp only [ez_st, hl, if_true]))
theorem rl_aloadN {i : Nat} (hd : decode (ez_code k) pc = .ok (.aload i, 2)) (hl : ez_lg ls i = some .null) : ez_rn g k pc ls st h = ez_rn g k (pc + 2) ls (.null :: st) h := ez_rn_go g ((ez_stp_of g hd).trans (by simp only [ez_st, hl, if_true]))
theorem rl_aload_nN {i : Fin 4} (hd : decode (ez_code k) pc = .ok (.aload_n i, 1)) (hl : ez_lg ls (i : Nat) = some .null) : ez_rn g k pc ls st h = ez_rn g k (pc + 1) ls (.null :: st) h := ez_rn_go g ((ez_stp_of g hd).trans (by simp only [ez_st, hl, if_true]))
theorem rl_istore {i : Nat} {x : Int32} (hd : decode (ez_code k) pc = .ok (.istore i, 2)) (h1 : i < ls.length) (h2 : ez_pl ls i = true) : ez_rn g k pc ls (.int x :: r) h = ez_rn g k (pc + 2) (ls.set i (some (.int x))) r h := ez_rn_go g ((ez_stp_of g hd).trans (by simp only [ez_st, ez_i1, ez_lp_ok h1 h2, Option.bind_some, if_true]))
theorem rl_istore_n {i : Fin 4} {x : Int32} (hd : decode (ez_code k) pc = .ok (.istore_n i, 1)) (h1 : (i : Nat) < ls.length) (h2 : ez_pl ls (i : Nat) = true) : ez_rn g k pc ls (.int x :: r) h = ez_rn g k (pc + 1) (ls.set (i : Nat) (some (.int x))) r h := ez_rn_go g ((ez_stp_of g hd).trans (by simp only [ez_st, ez_i1, ez_lp_ok h1 h2, Option.bind_some, if_true]))
theorem rl_astore {i : Nat} {x : Nat} (hd : decode (ez_code k) pc = .ok (.astore i, 2)) (h1 : i < ls.length) (h2 : ez_pl ls i = true) : ez_rn g k pc ls (.ref x :: r) h = ez_rn g k (pc + 2) (ls.set i (some (.ref x))) r h := ez_rn_go g ((ez_stp_of g hd).trans (by simp only [ez_st, ez_i1, ez_lp_ok h1 h2, Option.bind_some, if_true]))
theorem rl_astore_n {i : Fin 4} {x : Nat} (hd : decode (ez_code k) pc = .ok (.astore_n i, 1)) (h1 : (i : Nat) < ls.length) (h2 : ez_pl ls (i : Nat) = true) : ez_rn g k pc ls (.ref x :: r) h = ez_rn g k (pc + 1) (ls.set (i : Nat) (some (.ref x))) r h := ez_rn_go g ((ez_stp_of g hd).trans (by simp only [ez_st, ez_i1, ez_lp_ok h1 h2, Option.bind_some, if_true]))
theorem rl_astoreN {i : Nat} (hd : decode (ez_code k) pc = .ok (.astore i, 2)) (h1 : i < ls.length) (h2 : ez_pl ls i = true) : ez_rn g k pc ls (.null :: r) h = ez_rn g k (pc + 2) (ls.set i (some .null)) r h := ez_rn_go g ((ez_stp_of g hd).trans (by simp only [ez_st, ez_lp_ok h1 h2, Option.bind_some, if_true]))
theorem rl_astore_nN {i : Fin 4} (hd : decode (ez_code k) pc = .ok (.astore_n i, 1)) (h1 : (i : Nat) < ls.length) (h2 : ez_pl ls (i : Nat) = true) : ez_rn g k pc ls (.null :: r) h = ez_rn g k (pc + 1) (ls.set (i : Nat) (some .null)) r h := ez_rn_go g ((ez_stp_of g hd).trans (by simp only [ez_st, ez_lp_ok h1 h2, Option.bind_some, if_true]))
theorem rl_lstore {i : Nat} {x : Int64} (hd : decode (ez_code k) pc = .ok (.lstore i, 2)) (h1 : i + 1 < ls.length) (h2 : ez_pl ls i = true) : ez_rn g k pc ls (.long x :: r) h = ez_rn g k (pc + 2) ((ls.set i (some (.long x))).set (i + 1) none) r h := ez_rn_go g ((ez_stp_of g hd).trans (by simp only [ez_st, ez_l1, ez_lp2_ok h1 h2, Option.bind_some, if_true]))
theorem rl_lstore_n {i : Fin 4} {x : Int64} (hd : decode (ez_code k) pc = .ok (.lstore_n i, 1)) (h1 : (i : Nat) + 1 < ls.length) (h2 : ez_pl ls (i : Nat) = true) : ez_rn g k pc ls (.long x :: r) h = ez_rn g k (pc + 1) ((ls.set (i : Nat) (some (.long x))).set ((i : Nat) + 1) none) r h := ez_rn_go g ((ez_stp_of g hd).trans (by simp only [ez_st, ez_l1, ez_lp2_ok h1 h2, Option.bind_some, if_true]))
theorem rl_iinc {i : Nat} {c : Int} {x : Int32} (hd : decode (ez_code k) pc = .ok (.iinc i c, 3)) (hl : ez_lg ls i = some (.int x)) (h1 : i < ls.length) (h2 : ez_pl ls i = true) : ez_rn g k pc ls st h = ez_rn g k (pc + 3) (ls.set i (some (.int (x + Int32.ofInt c)))) st h := ez_rn_go g ((ez_stp_of g hd).trans (by simp only [ez_st, hl, ez_lp_ok h1 h2, Option.bind_some, if_true]))
theorem rl_dup {v : Value} (hd : decode (ez_code k) pc = .ok (.dup, 1)) (hv : v.category = 1) : ez_rn g k pc ls (v :: r) h = ez_rn g k (pc + 1) ls (v :: v :: r) h := ez_rn_go g ((ez_stp_of g hd).trans (if_pos hv))
theorem rl_pop {v : Value} (hd : decode (ez_code k) pc = .ok (.pop, 1)) (hv : v.category = 1) : ez_rn g k pc ls (v :: r) h = ez_rn g k (pc + 1) ls r h := ez_rn_go g ((ez_stp_of g hd).trans (if_pos hv))
theorem rl_dup_x1 {v w : Value} (hd : decode (ez_code k) pc = .ok (.dup_x1, 1)) (hv : v.category = 1) (hw : w.category = 1) : ez_rn g k pc ls (v :: w :: r) h = ez_rn g k (pc + 1) ls (v :: w :: v :: r) h := ez_rn_go g ((ez_stp_of g hd).trans (if_pos ⟨hv, hw⟩))
theorem rl_dup2 {v w : Value} (hd : decode (ez_code k) pc = .ok (.dup2, 1)) (hv : v.category = 1) (hw : w.category = 1) : ez_rn g k pc ls (v :: w :: r) h = ez_rn g k (pc + 1) ls (v :: w :: v :: w :: r) h := ez_rn_go g ((ez_stp_of g hd).trans (if_pos ⟨hv, hw⟩))
theorem ez_jmp_ok {off : Int} {t : Nat} {f : Nat → ez_O} (ht : (pc : Int) + off = (t : Int)) : ez_jmp pc off f = f t := by
  unfold ez_jmp
  rw [ht, if_pos (Int.natCast_nonneg t), Int.toNat_natCast]
theorem rl_goto {off : Int} (t : Nat) (hd : decode (ez_code k) pc = .ok (.goto off, 3)) (ht : (pc : Int) + off = (t : Int)) : ez_rn g k pc ls st h = ez_rn g k t ls st h := ez_rn_go g ((ez_stp_of g hd).trans (by simp only [ez_st, ez_jmp_ok ht, if_true]))
theorem rl_if_eq {off : Int} {x : Int32} (t : Nat) (hd : decode (ez_code k) pc = .ok (.ifCond .eq off, 3)) (ht : (pc : Int) + off = (t : Int)) : ez_rn g k pc ls (.int x :: r) h = (if x = 0 then ez_rn g k t ls r h else ez_rn g k (pc + 3) ls r h) := by
  by_cases hx : x = 0
  · rw [if_pos hx]
    exact ez_rn_go g ((ez_stp_of g hd).trans (by simp only [ez_st, ez_i1, ez_jmp_ok ht, ez_c0, hx, decide_true, not_true_eq_false, not_false_eq_true, decide_false, if_true, if_false, reduceCtorEq, Bool.false_eq_true]))
  · rw [if_neg hx]
    exact ez_rn_go g ((ez_stp_of g hd).trans (by simp only [ez_st, ez_i1, ez_jmp_ok ht, ez_c0, hx, decide_true, not_true_eq_false, not_false_eq_true, decide_false, if_true, if_false, reduceCtorEq, Bool.false_eq_true]))
theorem rl_if_ne {off : Int} {x : Int32} (t : Nat) (hd : decode (ez_code k) pc = .ok (.ifCond .ne off, 3)) (ht : (pc : Int) + off = (t : Int)) : ez_rn g k pc ls (.int x :: r) h = (if x = 0 then ez_rn g k (pc + 3) ls r h else ez_rn g k t ls r h) := by
  by_cases hx : x = 0
  · rw [if_pos hx]
    exact ez_rn_go g ((ez_stp_of g hd).trans (by simp only [ez_st, ez_i1, ez_jmp_ok ht, ez_c0, hx, decide_true, not_true_eq_false, not_false_eq_true, decide_false, if_true, if_false, reduceCtorEq, Bool.false_eq_true]))
  · rw [if_neg hx]
    exact ez_rn_go g ((ez_stp_of g hd).trans (by simp only [ez_st, ez_i1, ez_jmp_ok ht, ez_c0, hx, decide_true, not_true_eq_false, not_false_eq_true, decide_false, if_true, if_false, reduceCtorEq, Bool.false_eq_true]))
theorem rl_if_lt {off : Int} {x : Int32} (t : Nat) (hd : decode (ez_code k) pc = .ok (.ifCond .lt off, 3)) (ht : (pc : Int) + off = (t : Int)) : ez_rn g k pc ls (.int x :: r) h = (if x < 0 then ez_rn g k t ls r h else ez_rn g k (pc + 3) ls r h) := by
  by_cases hx : x < 0
  · rw [if_pos hx]
    exact ez_rn_go g ((ez_stp_of g hd).trans (by simp only [ez_st, ez_i1, ez_jmp_ok ht, ez_c0, hx, decide_true, not_true_eq_false, not_false_eq_true, decide_false, if_true, if_false, reduceCtorEq, Bool.false_eq_true]))
  · rw [if_neg hx]
    exact ez_rn_go g ((ez_stp_of g hd).trans (by simp only [ez_st, ez_i1, ez_jmp_ok ht, ez_c0, hx, decide_true, not_true_eq_false, not_false_eq_true, decide_false, if_true, if_false, reduceCtorEq, Bool.false_eq_true]))
theorem rl_if_ge {off : Int} {x : Int32} (t : Nat) (hd : decode (ez_code k) pc = .ok (.ifCond .ge off, 3)) (ht : (pc : Int) + off = (t : Int)) : ez_rn g k pc ls (.int x :: r) h = (if 0 ≤ x then ez_rn g k t ls r h else ez_rn g k (pc + 3) ls r h) := by
  by_cases hx : 0 ≤ x
  · rw [if_pos hx]
    exact ez_rn_go g ((ez_stp_of g hd).trans (by simp only [ez_st, ez_i1, ez_jmp_ok ht, ez_c0, hx, decide_true, not_true_eq_false, not_false_eq_true, decide_false, if_true, if_false, reduceCtorEq, Bool.false_eq_true]))
  · rw [if_neg hx]
    exact ez_rn_go g ((ez_stp_of g hd).trans (by simp only [ez_st, ez_i1, ez_jmp_ok ht, ez_c0, hx, decide_true, not_true_eq_false, not_false_eq_true, decide_false, if_true, if_false, reduceCtorEq, Bool.false_eq_true]))
theorem rl_if_gt {off : Int} {x : Int32} (t : Nat) (hd : decode (ez_code k) pc = .ok (.ifCond .gt off, 3)) (ht : (pc : Int) + off = (t : Int)) : ez_rn g k pc ls (.int x :: r) h = (if 0 < x then ez_rn g k t ls r h else ez_rn g k (pc + 3) ls r h) := by
  by_cases hx : 0 < x
  · rw [if_pos hx]
    exact ez_rn_go g ((ez_stp_of g hd).trans (by simp only [ez_st, ez_i1, ez_jmp_ok ht, ez_c0, hx, decide_true, not_true_eq_false, not_false_eq_true, decide_false, if_true, if_false, reduceCtorEq, Bool.false_eq_true]))
  · rw [if_neg hx]
    exact ez_rn_go g ((ez_stp_of g hd).trans (by simp only [ez_st, ez_i1, ez_jmp_ok ht, ez_c0, hx, decide_true, not_true_eq_false, not_false_eq_true, decide_false, if_true, if_false, reduceCtorEq, Bool.false_eq_true]))
theorem rl_if_le {off : Int} {x : Int32} (t : Nat) (hd : decode (ez_code k) pc = .ok (.ifCond .le off, 3)) (ht : (pc : Int) + off = (t : Int)) : ez_rn g k pc ls (.int x :: r) h = (if x ≤ 0 then ez_rn g k t ls r h else ez_rn g k (pc + 3) ls r h) := by
  by_cases hx : x ≤ 0
  · rw [if_pos hx]
    exact ez_rn_go g ((ez_stp_of g hd).trans (by simp only [ez_st, ez_i1, ez_jmp_ok ht, ez_c0, hx, decide_true, not_true_eq_false, not_false_eq_true, decide_false, if_true, if_false, reduceCtorEq, Bool.false_eq_true]))
  · rw [if_neg hx]
    exact ez_rn_go g ((ez_stp_of g hd).trans (by simp only [ez_st, ez_i1, ez_jmp_ok ht, ez_c0, hx, decide_true, not_true_eq_false, not_false_eq_true, decide_false, if_true, if_false, reduceCtorEq, Bool.false_eq_true]))
theorem rl_icmp_eq {off : Int} {x y : Int32} (t : Nat) (hd : decode (ez_code k) pc = .ok (.if_icmp .eq off, 3)) (ht : (pc : Int) + off = (t : Int)) : ez_rn g k pc ls (.int y :: .int x :: r) h = (if x = y then ez_rn g k t ls r h else ez_rn g k (pc + 3) ls r h) := by
  by_cases hx : x = y
  · rw [if_pos hx]
    exact ez_rn_go g ((ez_stp_of g hd).trans (by simp only [ez_st, ez_ii, ez_jmp_ok ht, ez_c2, hx, decide_true, not_true_eq_false, not_false_eq_true, decide_false, if_true, if_false, reduceCtorEq, Bool.false_eq_true]))
  · rw [if_neg hx]
    exact ez_rn_go g ((ez_stp_of g hd).trans (by simp only [ez_st, ez_ii, ez_jmp_ok ht, ez_c2, hx, decide_true, not_true_eq_false, not_false_eq_true, decide_false, if_true, if_false, reduceCtorEq, Bool.false_eq_true]))
theorem rl_icmp_ne {off : Int} {x y : Int32} (t : Nat) (hd : decode (ez_code k) pc = .ok (.if_icmp .ne off, 3)) (ht : (pc : Int) + off = (t : Int)) : ez_rn g k pc ls (.int y :: .int x :: r) h = (if x = y then ez_rn g k (pc + 3) ls r h else ez_rn g k t ls r h) := by
  by_cases hx : x = y
  · rw [if_pos hx]
    exact ez_rn_go g ((ez_stp_of g hd).trans (by simp only [ez_st, ez_ii, ez_jmp_ok ht, ez_c2, hx, decide_true, not_true_eq_false, not_false_eq_true, decide_false, if_true, if_false, reduceCtorEq, Bool.false_eq_true]))
  · rw [if_neg hx]
    exact ez_rn_go g ((ez_stp_of g hd).trans (by simp only [ez_st, ez_ii, ez_jmp_ok ht, ez_c2, hx, decide_true, not_true_eq_false, not_false_eq_true, decide_false, if_true, if_false, reduceCtorEq, Bool.false_eq_true]))
theorem rl_icmp_lt {off : Int} {x y : Int32} (t : Nat) (hd : decode (ez_code k) pc = .ok (.if_icmp .lt off, 3)) (ht : (pc : Int) + off = (t : Int)) : ez_rn g k pc ls (.int y :: .int x :: r) h = (if x < y then ez_rn g k t ls r h else ez_rn g k (pc + 3) ls r h) := by
  by_cases hx : x < y
  · rw [if_pos hx]
    exact ez_rn_go g ((ez_stp_of g hd).trans (by simp only [ez_st, ez_ii, ez_jmp_ok ht, ez_c2, hx, decide_true, not_true_eq_false, not_false_eq_true, decide_false, if_true, if_false, reduceCtorEq, Bool.false_eq_true]))
  · rw [if_neg hx]
    exact ez_rn_go g ((ez_stp_of g hd).trans (by simp only [ez_st, ez_ii, ez_jmp_ok ht, ez_c2, hx, decide_true, not_true_eq_false, not_false_eq_true, decide_false, if_true, if_false, reduceCtorEq, Bool.false_eq_true]))
theorem rl_icmp_ge {off : Int} {x y : Int32} (t : Nat) (hd : decode (ez_code k) pc = .ok (.if_icmp .ge off, 3)) (ht : (pc : Int) + off = (t : Int)) : ez_rn g k pc ls (.int y :: .int x :: r) h = (if y ≤ x then ez_rn g k t ls r h else ez_rn g k (pc + 3) ls r h) := by
  by_cases hx : y ≤ x
  · rw [if_pos hx]
    exact ez_rn_go g ((ez_stp_of g hd).trans (by simp only [ez_st, ez_ii, ez_jmp_ok ht, ez_c2, hx, decide_true, not_true_eq_false, not_false_eq_true, decide_false, if_true, if_false, reduceCtorEq, Bool.false_eq_true]))
  · rw [if_neg hx]
    exact ez_rn_go g ((ez_stp_of g hd).trans (by simp only [ez_st, ez_ii, ez_jmp_ok ht, ez_c2, hx, decide_true, not_true_eq_false, not_false_eq_true, decide_false, if_true, if_false, reduceCtorEq, Bool.false_eq_true]))
theorem rl_icmp_gt {off : Int} {x y : Int32} (t : Nat) (hd : decode (ez_code k) pc = .ok (.if_icmp .gt off, 3)) (ht : (pc : Int) + off = (t : Int)) : ez_rn g k pc ls (.int y :: .int x :: r) h = (if y < x then ez_rn g k t ls r h else ez_rn g k (pc + 3) ls r h) := by
  by_cases hx : y < x
  · rw [if_pos hx]
    exact ez_rn_go g ((ez_stp_of g hd).trans (by simp only [ez_st, ez_ii, ez_jmp_ok ht, ez_c2, hx, decide_true, not_true_eq_false, not_false_eq_true, decide_false, if_true, if_false, reduceCtorEq, Bool.false_eq_true]))
  · rw [if_neg hx]
    exact ez_rn_go g ((ez_stp_of g hd).trans (by simp only [ez_st, ez_ii, ez_jmp_ok ht, ez_c2, hx, decide_true, not_true_eq_false, not_false_eq_true, decide_false, if_true, if_false, reduceCtorEq, Bool.false_eq_true]))
theorem rl_icmp_le {off : Int} {x y : Int32} (t : Nat) (hd : decode (ez_code k) pc = .ok (.if_icmp .le off, 3)) (ht : (pc : Int) + off = (t : Int)) : ez_rn g k pc ls (.int y :: .int x :: r) h = (if x ≤ y then ez_rn g k t ls r h else ez_rn g k (pc + 3) ls r h) := by
  by_cases hx : x ≤ y
  · rw [if_pos hx]
    exact ez_rn_go g ((ez_stp_of g hd).trans (by simp only [ez_st, ez_ii, ez_jmp_ok ht, ez_c2, hx, decide_true, not_true_eq_false, not_false_eq_true, decide_false, if_true, if_false, reduceCtorEq, Bool.false_eq_true]))
  · rw [if_neg hx]
    exact ez_rn_go g ((ez_stp_of g hd).trans (by simp only [ez_st, ez_ii, ez_jmp_ok ht, ez_c2, hx, decide_true, not_true_eq_false, not_false_eq_true, decide_false, if_true, if_false, reduceCtorEq, Bool.false_eq_true]))
theorem rl_ifnullN {off : Int} (t : Nat) (hd : decode (ez_code k) pc = .ok (.ifnull off, 3)) (ht : (pc : Int) + off = (t : Int)) : ez_rn g k pc ls (.null :: r) h = ez_rn g k t ls r h := ez_rn_go g ((ez_stp_of g hd).trans (by simp only [ez_st, ez_jmp_ok ht, if_true]))
theorem rl_ifnullR {off : Int} {x : Nat} (hd : decode (ez_code k) pc = .ok (.ifnull off, 3)) : ez_rn g k pc ls (.ref x :: r) h = ez_rn g k (pc + 3) ls r h := ez_rn_go g ((ez_stp_of g hd).trans rfl)
theorem rl_ifnonnullR {off : Int} {x : Nat} (t : Nat) (hd : decode (ez_code k) pc = .ok (.ifnonnull off, 3)) (ht : (pc : Int) + off = (t : Int)) : ez_rn g k pc ls (.ref x :: r) h = ez_rn g k t ls r h := ez_rn_go g ((ez_stp_of g hd).trans (by simp only [ez_st, ez_jmp_ok ht, if_true]))
theorem rl_ifnonnullN {off : Int} (hd : decode (ez_code k) pc = .ok (.ifnonnull off, 3)) : ez_rn g k pc ls (.null :: r) h = ez_rn g k (pc + 3) ls r h := ez_rn_go g ((ez_stp_of g hd).trans rfl)
theorem rl_acmp_eq {off : Int} {x y : Nat} (t : Nat) (hd : decode (ez_code k) pc = .ok (.if_acmp .eq off, 3)) (ht : (pc : Int) + off = (t : Int)) : ez_rn g k pc ls (.ref y :: .ref x :: r) h = (if x = y then ez_rn g k t ls r h else ez_rn g k (pc + 3) ls r h) := by
  by_cases hx : x = y
  · rw [if_pos hx]
    exact ez_rn_go g ((ez_stp_of g hd).trans (by simp only [ez_st, ez_rf, ez_jmp_ok ht, hx, if_true]))
  · rw [if_neg hx]
    exact ez_rn_go g ((ez_stp_of g hd).trans (by simp only [ez_st, ez_rf, ez_jmp_ok ht, hx, if_true, if_false, Option.some.injEq]))
theorem rl_switch {d lo hi : Int} {offs : Array Int} {n : Nat} {x : Int32} (ts : List Nat) (dt : Nat) (hd : decode (ez_code k) pc = .ok (.tableswitch d lo hi offs, n)) (hdt : (pc : Int) + d = (dt : Int)) (hhi : hi = lo + ts.length - 1) (ho : offs.toList.map (fun o => (pc : Int) + o) = ts.map (fun (t : Nat) => (t : Int))) : ez_rn g k pc ls (.int x :: r) h = ez_rn g k (ez_tgt x lo ts dt) ls r h := by
  refine ez_rn_go g ((ez_stp_of g hd).trans ?_)
  simp only [ez_st, ez_i1]
  unfold ez_tgt
  by_cases h1 : x.toInt < lo
  · rw [if_pos (Or.inl h1), if_pos h1, ez_jmp_ok hdt]
  · by_cases h2 : hi < x.toInt
    · rw [if_pos (Or.inr h2), if_neg h1, ez_jmp_ok hdt]
      have : ts.getD (x.toInt - lo).toNat dt = dt := by
        rw [List.getD_eq_getElem?_getD, List.getElem?_eq_none (by omega)]
        rfl
      rw [this]
    · rw [if_neg (by omega), if_neg h1]
      have hlt : (x.toInt - lo).toNat < ts.length := by omega
      have e1 := congrArg (fun l => l[(x.toInt - lo).toNat]?) ho
      simp only [List.getElem?_map] at e1
      rw [List.getElem?_eq_getElem hlt] at e1
      have e2 : offs[(x.toInt - lo).toNat]? = offs.toList[(x.toInt - lo).toNat]? := by simp
      rw [e2]
      cases hz : offs.toList[(x.toInt - lo).toNat]? with
      | none => rw [hz] at e1; simp at e1
      | some o =>
        rw [hz] at e1
        simp only [Option.map_some, Option.some.injEq] at e1
        dsimp only
        rw [ez_jmp_ok e1, List.getD_eq_getElem?_getD, List.getElem?_eq_getElem hlt]
        rfl
theorem rl_getfield {i ci sl tk p a : Nat} (hd : decode (ez_code k) pc = .ok (.getfield i, 3)) (hf : ez_fl k i = some (ci, sl, tk, p)) (h11 : ¬ ci = 11) (hc : ez_isF (h.1 a) ci sl = true) : ez_rn g k pc ls (.ref a :: r) h = ez_rn g k (pc + 3) ls (ez_vF (h.1 a) sl :: r) h := ez_rn_go g ((ez_stp_of g hd).trans (by simp only [ez_st, ez_r1, hf, hc, if_true, if_neg h11]))
theorem rl_getfieldS {i sl tk p j a : Nat} (hd : decode (ez_code k) pc = .ok (.getfield i, 3)) (hf : ez_fl k i = some (11, sl, tk, p)) (hc : ez_sidx g a = some j) : ez_rn g k pc ls (.ref a :: r) h = ez_rn g k (pc + 3) ls ((if sl = 0 then Value.ref (g.2.2.2 j) else Value.int 0) :: r) h := ez_rn_go g ((ez_stp_of g hd).trans (by simp only [ez_st, ez_r1, hf, hc, if_true]))
theorem rl_putfield {i ci sl tk p a : Nat} {v : Value} (hd : decode (ez_code k) pc = .ok (.putfield i, 3)) (hf : ez_fl k i = some (ci, sl, tk, p)) (h11 : ci < 11) (hfn : ez_fn ci sl = true → ez_kd k = 2 ∧ ez_ow k = ci) (hc : ez_isF (h.1 a) ci sl = true) (hk : ez_ok tk v = true) : ez_rn g k pc ls (v :: .ref a :: r) h = ez_rn g k (pc + 3) ls r (ez_hs h a (ez_uF (h.1 a) sl v)) := ez_rn_go g ((ez_stp_of g hd).trans (by simp only [ez_st, hf, if_true]; rw [if_pos ⟨hc, h11, hk, hfn⟩]))
theorem rl_getstatic0 {i p : Nat} (hd : decode (ez_code k) pc = .ok (.getstatic i, 3)) (hf : ez_sl k i = some (0, p)) : ez_rn g k pc ls st h = ez_rn g k (pc + 3) ls (.ref g.1 :: st) h := ez_rn_go g ((ez_stp_of g hd).trans (by simp only [ez_st, hf, if_true]))
theorem rl_getstatic1 {i p : Nat} (hd : decode (ez_code k) pc = .ok (.getstatic i, 3)) (hf : ez_sl k i = some (1, p)) : ez_rn g k pc ls st h = ez_rn g k (pc + 3) ls (.int 1 :: st) h := ez_rn_go g ((ez_stp_of g hd).trans (by simp only [ez_st, hf, if_true]))
theorem rl_getstatic2 {i p : Nat} (hd : decode (ez_code k) pc = .ok (.getstatic i, 3)) (hf : ez_sl k i = some (2, p)) : ez_rn g k pc ls st h = ez_rn g k (pc + 3) ls (g.2.2.1 :: st) h := ez_rn_go g ((ez_stp_of g hd).trans (by simp only [ez_st, hf, if_true]))
theorem rl_ldc {i p : Nat} {v : Int32} (hd : decode (ez_code k) pc = .ok (.ldc i, 2)) (hf : ez_ik k i = some (v, p)) : ez_rn g k pc ls st h = ez_rn g k (pc + 2) ls (.int v :: st) h := ez_rn_go g ((ez_stp_of g hd).trans (by simp only [ez_st, hf, if_true]))
theorem rl_ldcS {i j : Nat} (hd : decode (ez_code k) pc = .ok (.ldc i, 2)) (hn : ez_ik k i = none) (hf : ez_ss k i = some j) : ez_rn g k pc ls st h = ez_rn g k (pc + 2) ls (.ref (g.2.1 j) :: st) h := ez_rn_go g ((ez_stp_of g hd).trans (by simp only [ez_st, hn, hf, if_true]))
theorem rl_ldc_w {i p : Nat} {v : Int32} (hd : decode (ez_code k) pc = .ok (.ldc_w i, 3)) (hf : ez_ik k i = some (v, p)) : ez_rn g k pc ls st h = ez_rn g k (pc + 3) ls (.int v :: st) h := ez_rn_go g ((ez_stp_of g hd).trans (by simp only [ez_st, hf, if_true]))
theorem rl_ldc2 {i p : Nat} {v : Int64} (hd : decode (ez_code k) pc = .ok (.ldc2_w i, 3)) (hf : ez_lk k i = some (v, p)) : ez_rn g k pc ls st h = ez_rn g k (pc + 3) ls (.long v :: st) h := ez_rn_go g ((ez_stp_of g hd).trans (by simp only [ez_st, hf, if_true]))
theorem rl_iaload {a : Nat} {i : Int32} (hd : decode (ez_code k) pc = .ok (.iaload, 1)) (hc : ez_isA (h.1 a) 0 i = true) : ez_rn g k pc ls (.int i :: .ref a :: r) h = ez_rn g k (pc + 1) ls (.int (ez_vA (h.1 a) i) :: r) h := ez_rn_go g ((ez_stp_of g hd).trans (by simp only [ez_st, ez_ri, hc, if_true]))
theorem rl_baload {a : Nat} {i : Int32} (hd : decode (ez_code k) pc = .ok (.baload, 1)) (hc : (ez_isA (h.1 a) 1 i || ez_isA (h.1 a) 2 i) = true) : ez_rn g k pc ls (.int i :: .ref a :: r) h = ez_rn g k (pc + 1) ls (.int (ez_vA (h.1 a) i) :: r) h := ez_rn_go g ((ez_stp_of g hd).trans (by simp only [ez_st, ez_ri, hc, if_true]))
theorem rl_laload {a : Nat} {i : Int32} (hd : decode (ez_code k) pc = .ok (.laload, 1)) (hc : ez_isL (h.1 a) i = true) : ez_rn g k pc ls (.int i :: .ref a :: r) h = ez_rn g k (pc + 1) ls (.long (ez_vL (h.1 a) i) :: r) h := ez_rn_go g ((ez_stp_of g hd).trans (by simp only [ez_st, ez_ri, hc, if_true]))
theorem rl_aaload {a : Nat} {i : Int32} (hd : decode (ez_code k) pc = .ok (.aaload, 1)) (hc : ez_isQ (h.1 a) i = true) : ez_rn g k pc ls (.int i :: .ref a :: r) h = ez_rn g k (pc + 1) ls (va_rf (ez_vQ (h.1 a) i) :: r) h := ez_rn_go g ((ez_stp_of g hd).trans (by simp only [ez_st, ez_ri, hc, if_true]))
theorem rl_iastore {a : Nat} {i x : Int32} (hd : decode (ez_code k) pc = .ok (.iastore, 1)) (hc : ez_isW (h.1 a) 0 i = true) : ez_rn g k pc ls (.int x :: .int i :: .ref a :: r) h = ez_rn g k (pc + 1) ls r (ez_hs h a (ez_uA (h.1 a) i x)) := ez_rn_go g ((ez_stp_of g hd).trans (by simp only [ez_st, hc, if_true]))
theorem rl_bastore1 {a : Nat} {i x : Int32} (hd : decode (ez_code k) pc = .ok (.bastore, 1)) (hc : ez_isW (h.1 a) 1 i = true) : ez_rn g k pc ls (.int x :: .int i :: .ref a :: r) h = ez_rn g k (pc + 1) ls r (ez_hs h a (ez_uA (h.1 a) i x.toInt8.toInt32)) := ez_rn_go g ((ez_stp_of g hd).trans (by simp only [ez_st, hc, if_true]))
theorem rl_bastore2 {a : Nat} {i x : Int32} (hd : decode (ez_code k) pc = .ok (.bastore, 1)) (hn : ez_isW (h.1 a) 1 i = false) (hc : ez_isW (h.1 a) 2 i = true) : ez_rn g k pc ls (.int x :: .int i :: .ref a :: r) h = ez_rn g k (pc + 1) ls r (ez_hs h a (ez_uA (h.1 a) i (vp_nar .boolean x))) := ez_rn_go g ((ez_stp_of g hd).trans (by simp only [ez_st, hn, hc, if_true, if_false, Bool.false_eq_true]))
theorem rl_lastore {a : Nat} {i : Int32} {x : Int64} (hd : decode (ez_code k) pc = .ok (.lastore, 1)) (hc : ez_isL (h.1 a) i = true) : ez_rn g k pc ls (.long x :: .int i :: .ref a :: r) h = ez_rn g k (pc + 1) ls r (ez_hs h a (ez_uL (h.1 a) i x)) := ez_rn_go g ((ez_stp_of g hd).trans (by simp only [ez_st, hc, if_true]))
theorem rl_aastore {a x : Nat} {i : Int32} (hd : decode (ez_code k) pc = .ok (.aastore, 1)) (hc : ez_isQ (h.1 a) i = true) (hx : ez_any (h.1 x) = true) : ez_rn g k pc ls (.ref x :: .int i :: .ref a :: r) h = ez_rn g k (pc + 1) ls r (ez_hs h a (ez_uQ (h.1 a) i x)) := ez_rn_go g ((ez_stp_of g hd).trans (by simp only [ez_st, hc, hx, and_self, if_true]))
theorem rl_arraylength {a : Nat} (hd : decode (ez_code k) pc = .ok (.arraylength, 1)) (hc : ez_isN (h.1 a) = true) : ez_rn g k pc ls (.ref a :: r) h = ez_rn g k (pc + 1) ls (.int (Int32.ofNat (ez_vN (h.1 a))) :: r) h := ez_rn_go g ((ez_stp_of g hd).trans (by simp only [ez_st, ez_r1, hc, if_true]))
theorem rl_new {i ci p : Nat} {fs : List Value} (hd : decode (ez_code k) pc = .ok (.new i, 3)) (hf : ez_ck k i = some (ci, p)) (h11 : ci < 11) (hfs : ez_df.getD ci [] = fs) : ez_rn g k pc ls st h = ez_rn g k (pc + 3) ls (.ref h.2.1 :: st) (ez_nw h (.inr (ci, fs)) fs.length) := by subst hfs; exact ez_rn_go g ((ez_stp_of g hd).trans (by simp only [ez_st, hf, h11, if_true]))
theorem rl_newarray_int {x : Int32} {n : Nat} (hd : decode (ez_code k) pc = .ok (.newarray .int, 2)) (h0 : ¬ x < 0) (hn : x.toNatClampNeg = n) (h1 : n ≤ 1000000) : ez_rn g k pc ls (.int x :: r) h = ez_rn g k (pc + 2) ls (.ref h.2.1 :: r) (ez_nw h (.inl (0, n, .inl (fun _ => 0))) n) := by subst hn; exact ez_rn_go g ((ez_stp_of g hd).trans (by simp only [ez_st, ez_i1, if_true]; rw [if_neg (fun z => z.elim h0 (fun q => absurd h1 (Nat.not_le.mpr q)))]))
theorem rl_newarray_byte {x : Int32} {n : Nat} (hd : decode (ez_code k) pc = .ok (.newarray .byte, 2)) (h0 : ¬ x < 0) (hn : x.toNatClampNeg = n) (h1 : n ≤ 1000000) : ez_rn g k pc ls (.int x :: r) h = ez_rn g k (pc + 2) ls (.ref h.2.1 :: r) (ez_nw h (.inl (1, n, .inl (fun _ => 0))) n) := by subst hn; exact ez_rn_go g ((ez_stp_of g hd).trans (by simp only [ez_st, ez_i1, if_true]; rw [if_neg (fun z => z.elim h0 (fun q => absurd h1 (Nat.not_le.mpr q)))]))
theorem rl_newarray_boolean {x : Int32} {n : Nat} (hd : decode (ez_code k) pc = .ok (.newarray .boolean, 2)) (h0 : ¬ x < 0) (hn : x.toNatClampNeg = n) (h1 : n ≤ 1000000) : ez_rn g k pc ls (.int x :: r) h = ez_rn g k (pc + 2) ls (.ref h.2.1 :: r) (ez_nw h (.inl (2, n, .inl (fun _ => 0))) n) := by subst hn; exact ez_rn_go g ((ez_stp_of g hd).trans (by simp only [ez_st, ez_i1, if_true]; rw [if_neg (fun z => z.elim h0 (fun q => absurd h1 (Nat.not_le.mpr q)))]))
theorem rl_newarray_long {x : Int32} {n : Nat} (hd : decode (ez_code k) pc = .ok (.newarray .long, 2)) (h0 : ¬ x < 0) (hn : x.toNatClampNeg = n) (h1 : n ≤ 1000000) : ez_rn g k pc ls (.int x :: r) h = ez_rn g k (pc + 2) ls (.ref h.2.1 :: r) (ez_nw h (.inl (3, n, .inr (.inl (fun _ => 0)))) n) := by subst hn; exact ez_rn_go g ((ez_stp_of g hd).trans (by simp only [ez_st, ez_i1, if_true]; rw [if_neg (fun z => z.elim h0 (fun q => absurd h1 (Nat.not_le.mpr q)))]))
theorem rl_anewarray {i p : Nat} {x : Int32} (hd : decode (ez_code k) pc = .ok (.anewarray i, 3)) (hf : ez_ck k i = some (100, p)) (h0 : ¬ x < 0) (h1 : x.toNatClampNeg ≤ 1000000) : ez_rn g k pc ls (.int x :: r) h = ez_rn g k (pc + 3) ls (.ref h.2.1 :: r) (ez_nw h (.inl (4, x.toNatClampNeg, .inr (.inr (.inr (.inr (fun _ => none)))))) x.toNatClampNeg) := ez_rn_go g ((ez_stp_of g hd).trans (by simp only [ez_st, ez_i1, hf, if_true]; rw [if_neg (fun z => z.elim h0 (fun q => absurd h1 (Nat.not_le.mpr q)))]))
theorem rl_checkcast {i ci p a : Nat} (hd : decode (ez_code k) pc = .ok (.checkcast i, 3)) (hf : ez_ck k i = some (ci, p)) (h11 : ci < 11) (hc : ez_isO (h.1 a) ci = true) : ez_rn g k pc ls (.ref a :: r) h = ez_rn g k (pc + 3) ls (.ref a :: r) h := ez_rn_go g ((ez_stp_of g hd).trans (by simp only [ez_st, ez_r1, hf, hc, h11, and_self, if_true]))
theorem rl_call0 {i k' x p : Nat} {st as rest : List Value} (hd : decode (ez_code k) pc = .ok (.invokestatic i, 3)) (hm : ez_mk k i = some (k', x, p)) (h9 : ¬ k' = 9001 ∧ ¬ k' = 9002 ∧ ¬ k' = 9003) (hk : k' < 159 ∧ ez_kd k' = 0 ∧ ez_dep k' < ez_dep k ∧ ez_na k' ≤ st.length ∧ ez_w (st.drop (ez_na k')) ≤ 8 ∧ ez_w (st.take (ez_na k')) ≤ ez_ml k') (ha : (st.take (ez_na k')).reverse = as) (hr : st.drop (ez_na k') = rest) : ez_rn g k pc ls st h = ez_bd g k (pc + 3) ls rest (ez_ev g k' as h) := by
  subst ha hr
  refine ez_rn_cl g ((ez_stp_of g hd).trans ?_)
  simp only [ez_st, hm, if_true, if_neg h9.1, if_neg h9.2.1, if_neg h9.2.2, ez_call]
  rw [if_pos hk]
theorem rl_call1 {i k' x p b : Nat} {st as rest : List Value} (hd : decode (ez_code k) pc = .ok (.invokevirtual i, 3)) (hm : ez_mk k i = some (k', x, p)) (hk : k' < 159 ∧ ez_kd k' = 1 ∧ ez_dep k' < ez_dep k ∧ ez_na k' ≤ st.length ∧ ez_w (st.drop (ez_na k')) ≤ 8 ∧ ez_w (st.take (ez_na k')) ≤ ez_ml k') (ha : (st.take (ez_na k')).reverse = .ref b :: as) (hr : st.drop (ez_na k') = rest) (hb : ez_rc g h b (ez_ow k') = true) : ez_rn g k pc ls st h = ez_bd g k (pc + 3) ls rest (ez_ev g k' (.ref b :: as) h) := by
  subst hr
  refine ez_rn_cl g ((ez_stp_of g hd).trans ?_)
  simp only [ez_st, hm, if_true, ez_call]
  rw [if_pos hk, ha]
  simp only [hb, if_true]
theorem rl_call2 {i k' x p b : Nat} {st as rest : List Value} (hd : decode (ez_code k) pc = .ok (.invokespecial i, 3)) (hm : ez_mk k i = some (k', x, p)) (h9 : ¬ k' = 9000) (hk : k' < 159 ∧ ez_kd k' = 2 ∧ ez_dep k' < ez_dep k ∧ ez_na k' ≤ st.length ∧ ez_w (st.drop (ez_na k')) ≤ 8 ∧ ez_w (st.take (ez_na k')) ≤ ez_ml k') (ha : (st.take (ez_na k')).reverse = .ref b :: as) (hr : st.drop (ez_na k') = rest) : ez_rn g k pc ls st h = ez_bd g k (pc + 3) ls rest (ez_ev g k' (.ref b :: as) h) := by
  subst hr
  refine ez_rn_cl g ((ez_stp_of g hd).trans ?_)
  simp only [ez_st, hm, if_true, if_neg h9, ez_call]
  rw [if_pos hk, ha]
  rfl
theorem rl_obj {i x p b : Nat} (hd : decode (ez_code k) pc = .ok (.invokespecial i, 3)) (hm : ez_mk k i = some (9000, x, p)) (h1 : 1 ≤ ez_dep k ∧ ez_w r ≤ 8) : ez_rn g k pc ls (.ref b :: r) h = ez_rn g k (pc + 3) ls r h := ez_rn_go g ((ez_stp_of g hd).trans (by simp only [ez_st, hm, if_true]; rw [if_pos h1]))
theorem rl_max {i x p : Nat} {a b : Int32} (hd : decode (ez_code k) pc = .ok (.invokestatic i, 3)) (hm : ez_mk k i = some (9002, x, p)) (h1 : 1 ≤ ez_dep k ∧ ez_w r ≤ 8) : ez_rn g k pc ls (.int b :: .int a :: r) h = ez_rn g k (pc + 3) ls (.int (if a < b then b else a) :: r) h := ez_rn_go g ((ez_stp_of g hd).trans (by simp only [ez_st, hm, if_true, ez_ii]; rw [if_neg (by decide), if_pos h1]))
theorem rl_min {i x p : Nat} {a b : Int32} (hd : decode (ez_code k) pc = .ok (.invokestatic i, 3)) (hm : ez_mk k i = some (9003, x, p)) (h1 : 1 ≤ ez_dep k ∧ ez_w r ≤ 8) : ez_rn g k pc ls (.int b :: .int a :: r) h = ez_rn g k (pc + 3) ls (.int (if b < a then b else a) :: r) h := ez_rn_go g ((ez_stp_of g hd).trans (by simp only [ez_st, hm, if_true, ez_ii]; rw [if_neg (by decide), if_neg (by decide), if_pos h1]))
theorem rl_copy {i x p a m : Nat} {n : Int32} {f : Nat → Option Nat} (hd : decode (ez_code k) pc = .ok (.invokestatic i, 3)) (hm : ez_mk k i = some (9001, x, p)) (hw : 3 ≤ ez_dep k ∧ ez_w r ≤ 8) (ha : h.1 a = some (.inl (4, m, .inr (.inr (.inr (.inr f)))))) (h0 : ¬ n < 0) (h1 : n.toNatClampNeg ≤ 1000000) (h2 : m ≤ n.toNatClampNeg) (hf : ez_ks h f m) : ez_rn g k pc ls (.int n :: .ref a :: r) h = ez_rn g k (pc + 3) ls (.ref h.2.1 :: r) (ez_nw h (.inl (4, n.toNatClampNeg, .inr (.inr (.inr (.inr (va_cpy f (fun _ => none) 0 0 m)))))) n.toNatClampNeg) := ez_rn_go g ((ez_stp_of g hd).trans (by simp only [ez_st, hm, if_true, ez_cp, ha]; rw [if_pos ⟨h0, h1, h2, hw.1, hw.2, hf⟩]))
theorem rl_ireturn {x : Int32} (hd : decode (ez_code k) pc = .ok (.ireturn, 1)) (hr : ez_ret k = some .int) : ez_rn g k pc ls [.int x] h = some (some (.int x), h) := ez_rn_rt g ((ez_stp_of g hd).trans (by simp only [ez_st, ez_ir, hr, if_true]))
theorem rl_zreturn {x : Int32} (hd : decode (ez_code k) pc = .ok (.ireturn, 1)) (hr : ez_ret k = some .boolean) (hx : x = 0 ∨ x = 1) : ez_rn g k pc ls [.int x] h = some (some (.int x), h) := ez_rn_rt g ((ez_stp_of g hd).trans (by simp only [ez_st, ez_ir, hr, if_true, if_pos hx]))
theorem rl_breturn {x : Int32} (hd : decode (ez_code k) pc = .ok (.ireturn, 1)) (hr : ez_ret k = some .byte) (hx : x.toInt8.toInt32 = x) : ez_rn g k pc ls [.int x] h = some (some (.int x), h) := ez_rn_rt g ((ez_stp_of g hd).trans (by simp only [ez_st, ez_ir, hr, if_true]; rw [if_pos hx]))
theorem rl_creturn {x : Int32} (hd : decode (ez_code k) pc = .ok (.ireturn, 1)) (hr : ez_ret k = some .char) (hx : (x.toUInt32 % 65536).toInt32 = x) : ez_rn g k pc ls [.int x] h = some (some (.int x), h) := ez_rn_rt g ((ez_stp_of g hd).trans (by simp only [ez_st, ez_ir, hr, if_true]; rw [if_pos hx]))
theorem rl_lreturn {x : Int64} (hd : decode (ez_code k) pc = .ok (.lreturn, 1)) (hr : ez_ret k = some .long) : ez_rn g k pc ls [.long x] h = some (some (.long x), h) := ez_rn_rt g ((ez_stp_of g hd).trans (by simp only [ez_st, hr, if_true]))
theorem rl_areturn {v : Value} {a : Option Nat} (hd : decode (ez_code k) pc = .ok (.areturn, 1)) (hr : (∃ n, ez_ret k = some (.object n)) ∨ ∃ t, ez_ret k = some (.array t)) (hv : ez_rf v = some a) : ez_rn g k pc ls [v] h = some (some v, h) := by
  refine ez_rn_rt g ((ez_stp_of g hd).trans ?_)
  rcases hr with ⟨n, hr⟩ | ⟨t, hr⟩
  · simp only [ez_st, ez_ar, hr, hv, if_true]
  · simp only [ez_st, ez_ar, hr, hv, if_true]
theorem rl_return (hd : decode (ez_code k) pc = .ok (.return_, 1)) (hr : ez_ret k = none) : ez_rn g k pc ls [] h = some (none, h) := ez_rn_rt g ((ez_stp_of g hd).trans (by simp only [ez_st, hr, if_true]))
end ZR
