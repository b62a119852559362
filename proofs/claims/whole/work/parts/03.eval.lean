/-! An evaluator of the bytecode over abstract heaps: cells by address, the next address, the slots in use. -/
abbrev ez_E : Type := (Nat × vp_A) ⊕ (Nat × List Value)
abbrev ez_H : Type := (Nat → Option ez_E) × Nat × Nat
abbrev ez_L : Type := List (Option Value)
abbrev ez_G : Type := Nat × (Nat → Nat) × Value × (Nat → Nat)
abbrev ez_X : Type := Option Value × ez_H
abbrev ez_O : Type := Option ((Nat × ez_L × List Value × ez_H) ⊕ (Option Value) ⊕ (Nat × List Value × List Value))
def ez_go (pc : Nat) (ls : ez_L) (st : List Value) (h : ez_H) : ez_O := some (.inl (pc, ls, st, h))
def ez_rt (r : Option Value) : ez_O := some (.inr (.inl r))
def ez_hs (h : ez_H) (a : Nat) (e : ez_E) : ez_H := (fun q => if q = a then some e else h.1 q, h.2)
def ez_nw (h : ez_H) (e : ez_E) (n : Nat) : ez_H := (fun q => if q = h.2.1 then some e else h.1 q, h.2.1 + 1, h.2.2 + n)
def ez_lg (ls : ez_L) (i : Nat) : Option Value := match ls[i]? with
  | some (some v) => some v
  | _ => none
def ez_pl (ls : ez_L) (i : Nat) : Bool := match i with
  | 0 => true
  | j + 1 => match ez_lg ls j with
    | some v => v.category == 1
    | none => true
def ez_lp (ls : ez_L) (i : Nat) (v : Value) : Option ez_L := if i < ls.length ∧ ez_pl ls i = true then some (ls.set i (some v)) else none
def ez_lp2 (ls : ez_L) (i : Nat) (v : Value) : Option ez_L := if i + 1 < ls.length ∧ ez_pl ls i = true then some ((ls.set i (some v)).set (i + 1) none) else none
def ez_w (st : List Value) : Nat := (st.map fun v => v.category).sum
def ez_c0 (c : ClassFile.Cond) (x : Int32) : Bool := match c with
  | .eq => decide (x = 0)
  | .ne => decide (¬ x = 0)
  | .lt => decide (x < 0)
  | .ge => decide (0 ≤ x)
  | .gt => decide (0 < x)
  | .le => decide (x ≤ 0)
def ez_c2 (c : ClassFile.Cond) (x y : Int32) : Bool := match c with
  | .eq => decide (x = y)
  | .ne => decide (¬ x = y)
  | .lt => decide (x < y)
  | .ge => decide (y ≤ x)
  | .gt => decide (y < x)
  | .le => decide (x ≤ y)
def ez_jmp (pc : Nat) (off : Int) (f : Nat → ez_O) : ez_O := if 0 ≤ (pc : Int) + off then f ((pc : Int) + off).toNat else none
def ez_ii (st : List Value) (f : Int32 → Int32 → List Value → ez_O) : ez_O := match st with
  | .int b :: .int a :: r => f a b r
  | _ => none
def ez_i1 (st : List Value) (f : Int32 → List Value → ez_O) : ez_O := match st with
  | .int a :: r => f a r
  | _ => none
def ez_ll (st : List Value) (f : Int64 → Int64 → List Value → ez_O) : ez_O := match st with
  | .long b :: .long a :: r => f a b r
  | _ => none
def ez_l1 (st : List Value) (f : Int64 → List Value → ez_O) : ez_O := match st with
  | .long a :: r => f a r
  | _ => none
def ez_r1 (st : List Value) (f : Nat → List Value → ez_O) : ez_O := match st with
  | .ref a :: r => f a r
  | _ => none
def ez_ri (st : List Value) (f : Nat → Int32 → List Value → ez_O) : ez_O := match st with
  | .int i :: .ref a :: r => f a i r
  | _ => none
def ez_rf (v : Value) : Option (Option Nat) := match v with
  | .ref a => some (some a)
  | .null => some none
  | _ => none
/-- an int, byte or boolean array of kind t (0, 1, 2), also one that nobody writes (t + 10), with a place i -/
def ez_isA (c : Option ez_E) (t : Nat) (i : Int32) : Bool := match c with
  | some (.inl (t', n, .inl _)) => (t' == t || t' == t + 10) && (decide (¬ i < 0) && decide (i.toNatClampNeg < n))
  | _ => false
def ez_isW (c : Option ez_E) (t : Nat) (i : Int32) : Bool := match c with
  | some (.inl (t', n, .inl _)) => t' == t && (decide (¬ i < 0) && decide (i.toNatClampNeg < n))
  | _ => false
def ez_vA (c : Option ez_E) (i : Int32) : Int32 := match c with
  | some (.inl (_, _, .inl f)) => f i.toNatClampNeg
  | _ => 0
def ez_uA (c : Option ez_E) (i : Int32) (x : Int32) : ez_E := match c with
  | some (.inl (t, n, .inl f)) => .inl (t, n, .inl (upd f i.toNatClampNeg x))
  | _ => .inr (0, [])
def ez_isL (c : Option ez_E) (i : Int32) : Bool := match c with
  | some (.inl (t', n, .inr (.inl _))) => t' == 3 && (decide (¬ i < 0) && decide (i.toNatClampNeg < n))
  | _ => false
def ez_vL (c : Option ez_E) (i : Int32) : Int64 := match c with
  | some (.inl (_, _, .inr (.inl f))) => f i.toNatClampNeg
  | _ => 0
def ez_uL (c : Option ez_E) (i : Int32) (x : Int64) : ez_E := match c with
  | some (.inl (t, n, .inr (.inl f))) => .inl (t, n, .inr (.inl (vp_updL f i.toNatClampNeg x)))
  | _ => .inr (0, [])
def ez_isQ (c : Option ez_E) (i : Int32) : Bool := match c with
  | some (.inl (t', n, .inr (.inr (.inr (.inr _))))) => t' == 4 && (decide (¬ i < 0) && decide (i.toNatClampNeg < n))
  | _ => false
def ez_vQ (c : Option ez_E) (i : Int32) : Option Nat := match c with
  | some (.inl (_, _, .inr (.inr (.inr (.inr f))))) => f i.toNatClampNeg
  | _ => none
def ez_uQ (c : Option ez_E) (i : Int32) (x : Nat) : ez_E := match c with
  | some (.inl (t, n, .inr (.inr (.inr (.inr f))))) => .inl (t, n, .inr (.inr (.inr (.inr (va_up f i.toNatClampNeg (some x))))))
  | _ => .inr (0, [])
def ez_isN (c : Option ez_E) : Bool := match c with
  | some (.inl (t', _, _)) => t' < 5 || t' == 10 || t' == 11 || t' == 14
  | _ => false
def ez_vN (c : Option ez_E) : Nat := match c with
  | some (.inl (_, n, _)) => n
  | _ => 0
/-- an object of class ci with a field sl -/
def ez_isF (c : Option ez_E) (ci sl : Nat) : Bool := match c with
  | some (.inr (c', fs)) => c' == ci && decide (sl < fs.length)
  | _ => false
def ez_vF (c : Option ez_E) (sl : Nat) : Value := match c with
  | some (.inr (_, fs)) => fs.getD sl .null
  | _ => .null
def ez_uF (c : Option ez_E) (sl : Nat) (v : Value) : ez_E := match c with
  | some (.inr (c', fs)) => .inr (c', fs.set sl v)
  | _ => .inr (0, [])
def ez_isO (c : Option ez_E) (ci : Nat) : Bool := match c with
  | some (.inr (c', _)) => c' == ci
  | _ => false
/-- which String constant an address is -/
def ez_sidx (g : ez_G) (a : Nat) : Option Nat := (List.range 11).find? (fun j => g.2.1 j == a)
def ez_rc (g : ez_G) (h : ez_H) (b w : Nat) : Bool := if w = 11 then (ez_sidx g b).isSome else ez_isO (h.1 b) w
def ez_any (c : Option ez_E) : Bool := match c with
  | some (.inr (c', _)) => decide (c' < 11)
  | _ => false
def ez_ok (tk : Nat) (v : Value) : Bool := match tk, v with
  | 0, .int _ => true
  | 1, .int x => decide (x = 0 ∨ x = 1)
  | 2, .ref _ => true
  | 2, .null => true
  | _, _ => false
def ez_fn (ci sl : Nat) : Bool := ((ez_cl.getD ci ("", (fun _ => ("", "", "", false)), 0)).2.1 sl).2.2.2
def ez_df : List (List Value) := [[.int 0, .null, .int 0], [.int 0, .null], [.int 0, .int 0, .int 0, .null, .null], [.int 0, .int 0, .int 0], [.null, .int 0], [.int 0, .int 0, .int 0, .int 0, .int 0, .int 0, .int 0, .int 0, .int 0, .int 0, .int 0, .int 0, .int 0], [.null, .int 0, .int 0, .int 0], [.null, .int 0, .int 0, .int 0, .null], [.int 0, .int 0, .int 0, .int 0, .null, .null], [.int 0, .null, .int 0, .null, .null, .int 0, .int 0, .null, .null, .null, .null, .null, .null, .null, .int 0], [.int 0, .int 0, .int 0, .int 0, .int 0, .int 0, .int 0, .null, .null, .null, .null, .null, .null, .null, .null, .null, .null, .null, .null, .null, .null, .null, .null, .null, .null, .null, .null, .null, .null, .null, .null, .null, .null, .null, .null, .null, .int 0, .int 0, .int 0, .int 0, .int 0, .null, .null, .null, .null, .null, .null, .null, .null, .int 0, .int 0, .null, .null]]
def ez_ks (h : ez_H) (f : Nat → Option Nat) (n : Nat) : Prop := ∀ i : Nat, i < n → ∀ y : Nat, f i = some y → ez_any (h.1 y) = true
/-- the last part of Arrays.copyOf(Object[], int) -/
noncomputable def ez_cp (k pc : Nat) (ls : ez_L) (st : List Value) (h : ez_H) : ez_O := match st with
  | .int n :: .ref a :: r => match h.1 a with
    | some (.inl (4, m, .inr (.inr (.inr (.inr f))))) =>
      @ite _ (¬ n < 0 ∧ n.toNatClampNeg ≤ 1000000 ∧ m ≤ n.toNatClampNeg ∧ 3 ≤ ez_dep k ∧ ez_w r ≤ 8 ∧ ez_ks h f m) (Classical.propDecidable _)
        (ez_go (pc + 3) ls (.ref h.2.1 :: r) (ez_nw h (.inl (4, n.toNatClampNeg, .inr (.inr (.inr (.inr (va_cpy f (fun _ => none) 0 0 m)))))) n.toNatClampNeg)) none
    | _ => none
  | _ => none
def ez_call (g : ez_G) (k k' kd : Nat) (st : List Value) (h : ez_H) : ez_O :=
  if k' < 159 ∧ ez_kd k' = kd ∧ ez_dep k' < ez_dep k ∧ ez_na k' ≤ st.length ∧ ez_w (st.drop (ez_na k')) ≤ 8 ∧ ez_w (st.take (ez_na k')) ≤ ez_ml k' then
    match kd, (st.take (ez_na k')).reverse with
    | 0, as => some (.inr (.inr (k', as, st.drop (ez_na k'))))
    | 1, .ref b :: as => if ez_rc g h b (ez_ow k') = true then some (.inr (.inr (k', .ref b :: as, st.drop (ez_na k')))) else none
    | 2, .ref b :: as => some (.inr (.inr (k', .ref b :: as, st.drop (ez_na k'))))
    | _, _ => none
  else none
def ez_ir (k : Nat) (st : List Value) : ez_O := match st with
  | [.int x] => match ez_ret k with
    | some .int => ez_rt (some (.int x))
    | some .boolean => if x = 0 ∨ x = 1 then ez_rt (some (.int x)) else none
    | some .byte => if x.toInt8.toInt32 = x then ez_rt (some (.int x)) else none
    | some .char => if (x.toUInt32 % 65536).toInt32 = x then ez_rt (some (.int x)) else none
    | _ => none
  | _ => none
def ez_ar (k : Nat) (st : List Value) : ez_O := match st with
  | [v] => match ez_ret k, ez_rf v with
    | some (.object _), some _ => ez_rt (some v)
    | some (.array _), some _ => ez_rt (some v)
    | _, _ => none
  | _ => none
def ez_tgt (x : Int32) (lo : Int) (ts : List Nat) (d : Nat) : Nat := if x.toInt < lo then d else ts.getD (x.toInt - lo).toNat d
noncomputable def ez_st (g : ez_G) (k : Nat) (I : Instr) (n pc : Nat) (ls : ez_L) (st : List Value) (h : ez_H) : ez_O := match I with
  | .iconst i => if n = 1 then ez_go (pc + 1) ls (.int (Int32.ofInt i) :: st) h else none
  | .bipush i => if n = 2 then ez_go (pc + 2) ls (.int (Int8.ofInt i).toInt32 :: st) h else none
  | .sipush i => if n = 3 then ez_go (pc + 3) ls (.int (Int16.ofInt i).toInt32 :: st) h else none
  | .lconst i => if n = 1 then ez_go (pc + 1) ls (.long (Int64.ofNat (i : Nat)) :: st) h else none
  | .aconst_null => if n = 1 then ez_go (pc + 1) ls (.null :: st) h else none
  | .iload i => if n = 2 then (match ez_lg ls i with | some (.int x) => ez_go (pc + 2) ls (.int x :: st) h | _ => none) else none
  | .iload_n i => if n = 1 then (match ez_lg ls (i : Nat) with | some (.int x) => ez_go (pc + 1) ls (.int x :: st) h | _ => none) else none
  | .lload i => if n = 2 then (match ez_lg ls i with | some (.long x) => ez_go (pc + 2) ls (.long x :: st) h | _ => none) else none
  | .lload_n i => if n = 1 then (match ez_lg ls (i : Nat) with | some (.long x) => ez_go (pc + 1) ls (.long x :: st) h | _ => none) else none
  | .aload i => if n = 2 then (match ez_lg ls i with | some (.ref x) => ez_go (pc + 2) ls (.ref x :: st) h | some .null => ez_go (pc + 2) ls (.null :: st) h | _ => none) else none
  | .aload_n i => if n = 1 then (match ez_lg ls (i : Nat) with | some (.ref x) => ez_go (pc + 1) ls (.ref x :: st) h | some .null => ez_go (pc + 1) ls (.null :: st) h | _ => none) else none
  | .istore i => if n = 2 then ez_i1 st fun x r => (ez_lp ls i (.int x)).bind fun l => ez_go (pc + 2) l r h else none
  | .istore_n i => if n = 1 then ez_i1 st fun x r => (ez_lp ls (i : Nat) (.int x)).bind fun l => ez_go (pc + 1) l r h else none
  | .lstore i => if n = 2 then ez_l1 st fun x r => (ez_lp2 ls i (.long x)).bind fun l => ez_go (pc + 2) l r h else none
  | .lstore_n i => if n = 1 then ez_l1 st fun x r => (ez_lp2 ls (i : Nat) (.long x)).bind fun l => ez_go (pc + 1) l r h else none
  | .astore i => if n = 2 then (match st with | .ref x :: r => (ez_lp ls i (.ref x)).bind fun l => ez_go (pc + 2) l r h | .null :: r => (ez_lp ls i .null).bind fun l => ez_go (pc + 2) l r h | _ => none) else none
  | .astore_n i => if n = 1 then (match st with | .ref x :: r => (ez_lp ls (i : Nat) (.ref x)).bind fun l => ez_go (pc + 1) l r h | .null :: r => (ez_lp ls (i : Nat) .null).bind fun l => ez_go (pc + 1) l r h | _ => none) else none
  | .iinc i c => if n = 3 then (match ez_lg ls i with | some (.int x) => (ez_lp ls i (.int (x + Int32.ofInt c))).bind fun l => ez_go (pc + 3) l st h | _ => none) else none
  | .iadd => if n = 1 then ez_ii st fun a b r => ez_go (pc + 1) ls (.int (a + b) :: r) h else none
  | .isub => if n = 1 then ez_ii st fun a b r => ez_go (pc + 1) ls (.int (a - b) :: r) h else none
  | .imul => if n = 1 then ez_ii st fun a b r => ez_go (pc + 1) ls (.int (a * b) :: r) h else none
  | .iand => if n = 1 then ez_ii st fun a b r => ez_go (pc + 1) ls (.int (a &&& b) :: r) h else none
  | .ior => if n = 1 then ez_ii st fun a b r => ez_go (pc + 1) ls (.int (a ||| b) :: r) h else none
  | .ishl => if n = 1 then ez_ii st fun a b r => ez_go (pc + 1) ls (.int (a <<< (b &&& 31)) :: r) h else none
  | .ishr => if n = 1 then ez_ii st fun a b r => ez_go (pc + 1) ls (.int (a >>> (b &&& 31)) :: r) h else none
  | .idiv => if n = 1 then ez_ii st fun a b r => if b = 0 then none else ez_go (pc + 1) ls (.int (a / b) :: r) h else none
  | .irem => if n = 1 then ez_ii st fun a b r => if b = 0 then none else ez_go (pc + 1) ls (.int (a - a / b * b) :: r) h else none
  | .ladd => if n = 1 then ez_ll st fun a b r => ez_go (pc + 1) ls (.long (a + b) :: r) h else none
  | .lmul => if n = 1 then ez_ll st fun a b r => ez_go (pc + 1) ls (.long (a * b) :: r) h else none
  | .lor => if n = 1 then ez_ll st fun a b r => ez_go (pc + 1) ls (.long (a ||| b) :: r) h else none
  | .ldiv => if n = 1 then ez_ll st fun a b r => if b = 0 then none else ez_go (pc + 1) ls (.long (a / b) :: r) h else none
  | .lrem => if n = 1 then ez_ll st fun a b r => if b = 0 then none else ez_go (pc + 1) ls (.long (a - a / b * b) :: r) h else none
  | .lshl => if n = 1 then (match st with | .int b :: .long a :: r => ez_go (pc + 1) ls (.long (a <<< (b.toInt64 &&& 63)) :: r) h | _ => none) else none
  | .lcmp => if n = 1 then ez_ll st fun a b r => ez_go (pc + 1) ls (.int (lg_cmp a b) :: r) h else none
  | .i2l => if n = 1 then ez_i1 st fun a r => ez_go (pc + 1) ls (.long a.toInt64 :: r) h else none
  | .l2i => if n = 1 then ez_l1 st fun a r => ez_go (pc + 1) ls (.int a.toInt32 :: r) h else none
  | .i2b => if n = 1 then ez_i1 st fun a r => ez_go (pc + 1) ls (.int a.toInt8.toInt32 :: r) h else none
  | .i2c => if n = 1 then ez_i1 st fun a r => ez_go (pc + 1) ls (.int (a.toUInt32 % 65536).toInt32 :: r) h else none
  | .dup => if n = 1 then (match st with | v :: r => if v.category = 1 then ez_go (pc + 1) ls (v :: v :: r) h else none | _ => none) else none
  | .pop => if n = 1 then (match st with | v :: r => if v.category = 1 then ez_go (pc + 1) ls r h else none | _ => none) else none
  | .dup_x1 => if n = 1 then (match st with | v :: w :: r => if v.category = 1 ∧ w.category = 1 then ez_go (pc + 1) ls (v :: w :: v :: r) h else none | _ => none) else none
  | .dup2 => if n = 1 then (match st with | v :: w :: r => if v.category = 1 ∧ w.category = 1 then ez_go (pc + 1) ls (v :: w :: v :: w :: r) h else none | _ => none) else none
  | .ifCond c off => if n = 3 then ez_i1 st fun x r => ez_jmp pc off fun t => if ez_c0 c x = true then ez_go t ls r h else ez_go (pc + 3) ls r h else none
  | .if_icmp c off => if n = 3 then ez_ii st fun x y r => ez_jmp pc off fun t => if ez_c2 c x y = true then ez_go t ls r h else ez_go (pc + 3) ls r h else none
  | .ifnull off => if n = 3 then (match st with | .null :: r => ez_jmp pc off fun t => ez_go t ls r h | .ref _ :: r => ez_go (pc + 3) ls r h | _ => none) else none
  | .ifnonnull off => if n = 3 then (match st with | .ref _ :: r => ez_jmp pc off fun t => ez_go t ls r h | .null :: r => ez_go (pc + 3) ls r h | _ => none) else none
  | .if_acmp c off => if n = 3 then (match st with | y :: x :: r => (match c, ez_rf x, ez_rf y with | .eq, some a, some b => ez_jmp pc off fun t => if a = b then ez_go t ls r h else ez_go (pc + 3) ls r h | .ne, some a, some b => ez_jmp pc off fun t => if a = b then ez_go (pc + 3) ls r h else ez_go t ls r h | _, _, _ => none) | _ => none) else none
  | .goto off => if n = 3 then ez_jmp pc off fun t => ez_go t ls st h else none
  | .tableswitch d lo hi offs => ez_i1 st fun x r => if x.toInt < lo ∨ hi < x.toInt then ez_jmp pc d fun t => ez_go t ls r h else (match offs[(x.toInt - lo).toNat]? with | some off => ez_jmp pc off fun t => ez_go t ls r h | none => none)
  | .getfield i => if n = 3 then ez_r1 st fun a r => (match ez_fl k i with | some (ci, sl, _, _) => if ci = 11 then (match ez_sidx g a with | some j => ez_go (pc + 3) ls ((if sl = 0 then Value.ref (g.2.2.2 j) else Value.int 0) :: r) h | none => none) else if ez_isF (h.1 a) ci sl = true then ez_go (pc + 3) ls (ez_vF (h.1 a) sl :: r) h else none | none => none) else none
  | .putfield i => if n = 3 then (match st with | v :: .ref a :: r => (match ez_fl k i with | some (ci, sl, tk, _) => if ez_isF (h.1 a) ci sl = true ∧ ci < 11 ∧ ez_ok tk v = true ∧ (ez_fn ci sl = true → ez_kd k = 2 ∧ ez_ow k = ci) then ez_go (pc + 3) ls r (ez_hs h a (ez_uF (h.1 a) sl v)) else none | none => none) | _ => none) else none
  | .getstatic i => if n = 3 then (match ez_sl k i with | some (0, _) => ez_go (pc + 3) ls (.ref g.1 :: st) h | some (1, _) => ez_go (pc + 3) ls (.int 1 :: st) h | some (2, _) => ez_go (pc + 3) ls (g.2.2.1 :: st) h | _ => none) else none
  | .ldc i => if n = 2 then (match ez_ik k i with | some (v, _) => ez_go (pc + 2) ls (.int v :: st) h | none => match ez_ss k i with | some j => ez_go (pc + 2) ls (.ref (g.2.1 j) :: st) h | none => none) else none
  | .ldc_w i => if n = 3 then (match ez_ik k i with | some (v, _) => ez_go (pc + 3) ls (.int v :: st) h | none => none) else none
  | .ldc2_w i => if n = 3 then (match ez_lk k i with | some (v, _) => ez_go (pc + 3) ls (.long v :: st) h | none => none) else none
  | .iaload => if n = 1 then ez_ri st fun a i r => if ez_isA (h.1 a) 0 i = true then ez_go (pc + 1) ls (.int (ez_vA (h.1 a) i) :: r) h else none else none
  | .baload => if n = 1 then ez_ri st fun a i r => if (ez_isA (h.1 a) 1 i || ez_isA (h.1 a) 2 i) = true then ez_go (pc + 1) ls (.int (ez_vA (h.1 a) i) :: r) h else none else none
  | .laload => if n = 1 then ez_ri st fun a i r => if ez_isL (h.1 a) i = true then ez_go (pc + 1) ls (.long (ez_vL (h.1 a) i) :: r) h else none else none
  | .aaload => if n = 1 then ez_ri st fun a i r => if ez_isQ (h.1 a) i = true then ez_go (pc + 1) ls (va_rf (ez_vQ (h.1 a) i) :: r) h else none else none
  | .iastore => if n = 1 then (match st with | .int x :: .int i :: .ref a :: r => if ez_isW (h.1 a) 0 i = true then ez_go (pc + 1) ls r (ez_hs h a (ez_uA (h.1 a) i x)) else none | _ => none) else none
  | .bastore => if n = 1 then (match st with | .int x :: .int i :: .ref a :: r => if ez_isW (h.1 a) 1 i = true then ez_go (pc + 1) ls r (ez_hs h a (ez_uA (h.1 a) i x.toInt8.toInt32)) else if ez_isW (h.1 a) 2 i = true then ez_go (pc + 1) ls r (ez_hs h a (ez_uA (h.1 a) i (vp_nar .boolean x))) else none | _ => none) else none
  | .lastore => if n = 1 then (match st with | .long x :: .int i :: .ref a :: r => if ez_isL (h.1 a) i = true then ez_go (pc + 1) ls r (ez_hs h a (ez_uL (h.1 a) i x)) else none | _ => none) else none
  | .aastore => if n = 1 then (match st with | .ref x :: .int i :: .ref a :: r => if ez_isQ (h.1 a) i = true ∧ ez_any (h.1 x) = true then ez_go (pc + 1) ls r (ez_hs h a (ez_uQ (h.1 a) i x)) else none | _ => none) else none
  | .arraylength => if n = 1 then ez_r1 st fun a r => if ez_isN (h.1 a) = true then ez_go (pc + 1) ls (.int (Int32.ofNat (ez_vN (h.1 a))) :: r) h else none else none
  | .new i => if n = 3 then (match ez_ck k i with | some (ci, _) => if ci < 11 then ez_go (pc + 3) ls (.ref h.2.1 :: st) (ez_nw h (.inr (ci, ez_df.getD ci [])) (ez_df.getD ci []).length) else none | none => none) else none
  | .newarray t => if n = 2 then ez_i1 st fun x r => if x < 0 ∨ 1000000 < x.toNatClampNeg then none else (match t with
      | .int => ez_go (pc + 2) ls (.ref h.2.1 :: r) (ez_nw h (.inl (0, x.toNatClampNeg, .inl (fun _ => 0))) x.toNatClampNeg)
      | .byte => ez_go (pc + 2) ls (.ref h.2.1 :: r) (ez_nw h (.inl (1, x.toNatClampNeg, .inl (fun _ => 0))) x.toNatClampNeg)
      | .boolean => ez_go (pc + 2) ls (.ref h.2.1 :: r) (ez_nw h (.inl (2, x.toNatClampNeg, .inl (fun _ => 0))) x.toNatClampNeg)
      | .long => ez_go (pc + 2) ls (.ref h.2.1 :: r) (ez_nw h (.inl (3, x.toNatClampNeg, .inr (.inl (fun _ => 0)))) x.toNatClampNeg)
      | _ => none) else none
  | .anewarray i => if n = 3 then ez_i1 st fun x r => (match ez_ck k i with | some (100, _) => if x < 0 ∨ 1000000 < x.toNatClampNeg then none else ez_go (pc + 3) ls (.ref h.2.1 :: r) (ez_nw h (.inl (4, x.toNatClampNeg, .inr (.inr (.inr (.inr (fun _ => none)))))) x.toNatClampNeg) | _ => none) else none
  | .checkcast i => if n = 3 then ez_r1 st fun a r => (match ez_ck k i with | some (ci, _) => if ez_isO (h.1 a) ci = true ∧ ci < 11 then ez_go (pc + 3) ls (.ref a :: r) h else none | none => none) else none
  | .invokestatic i => if n = 3 then (match ez_mk k i with | some (k', _, _) => if k' = 9001 then ez_cp k pc ls st h else if k' = 9002 then (ez_ii st fun x y r => if 1 ≤ ez_dep k ∧ ez_w r ≤ 8 then ez_go (pc + 3) ls (.int (if x < y then y else x) :: r) h else none) else if k' = 9003 then (ez_ii st fun x y r => if 1 ≤ ez_dep k ∧ ez_w r ≤ 8 then ez_go (pc + 3) ls (.int (if y < x then y else x) :: r) h else none) else ez_call g k k' 0 st h | none => none) else none
  | .invokevirtual i => if n = 3 then (match ez_mk k i with | some (k', _, _) => ez_call g k k' 1 st h | none => none) else none
  | .invokespecial i => if n = 3 then (match ez_mk k i with | some (k', _, _) => if k' = 9000 then (match st with | .ref _ :: r => if 1 ≤ ez_dep k ∧ ez_w r ≤ 8 then ez_go (pc + 3) ls r h else none | _ => none) else ez_call g k k' 2 st h | none => none) else none
  | .ireturn => if n = 1 then ez_ir k st else none
  | .lreturn => if n = 1 then (match st with | [.long x] => if ez_ret k = some .long then ez_rt (some (.long x)) else none | _ => none) else none
  | .areturn => if n = 1 then ez_ar k st else none
  | .return_ => if n = 1 then (match st with | [] => if ez_ret k = none then ez_rt none else none | _ => none) else none
  | _ => none
noncomputable def ez_stp (g : ez_G) (k pc : Nat) (ls : ez_L) (st : List Value) (h : ez_H) : ez_O := match decode (ez_code k) pc with
  | .ok (I, n) => ez_st g k I n pc ls st h
  | .error _ => none
def ez_sl0 : List Value → ez_L
  | [] => []
  | v :: r => if v.category = 2 then some v :: none :: ez_sl0 r else some v :: ez_sl0 r
def ez_l0 (n : Nat) (as : List Value) : ez_L := ez_sl0 as ++ List.replicate (n - (ez_sl0 as).length) none
noncomputable def ez_run (g : ez_G) : Nat → Nat → Nat → ez_L → List Value → ez_H → Option ez_X
  | 0, _, _, _, _, _ => none
  | n + 1, k, pc, ls, st, h => match ez_stp g k pc ls st h with
    | none => none
    | some (.inl (pc', ls', st', h')) => ez_run g n k pc' ls' st' h'
    | some (.inr (.inl r)) => some (r, h)
    | some (.inr (.inr (k', as, rest))) => match ez_run g n k' 0 (ez_l0 (ez_ml k') as) [] h with
      | none => none
      | some (r, h') => ez_run g n k (pc + 3) ls (r.toList ++ rest) h'
theorem ez_mono (g : ez_G) : ∀ (n k pc : Nat) (ls : ez_L) (st : List Value) (h : ez_H) (x : ez_X), ez_run g n k pc ls st h = some x → ez_run g (n + 1) k pc ls st h = some x := by
  intro n
  induction n with
  | zero => intro k pc ls st h x hx; simp [ez_run] at hx
  | succ n ih =>
    intro k pc ls st h x hx
    rw [ez_run] at hx ⊢
    generalize ez_stp g k pc ls st h = z at hx ⊢
    match z with
    | none => exact hx
    | some (.inl (pc', ls', st', h')) => exact ih _ _ _ _ _ _ hx
    | some (.inr (.inl r)) => exact hx
    | some (.inr (.inr (k', as, rest))) =>
      dsimp only at hx ⊢
      cases hc : ez_run g n k' 0 (ez_l0 (ez_ml k') as) [] h with
      | none => rw [hc] at hx; cases hx
      | some y =>
        rw [hc] at hx
        rw [ih _ _ _ _ _ _ hc]
        exact ih _ _ _ _ _ _ hx
theorem ez_monoL (g : ez_G) {n : Nat} (d : Nat) {k pc : Nat} {ls : ez_L} {st : List Value} {h : ez_H} {x : ez_X} (hx : ez_run g n k pc ls st h = some x) : ez_run g (n + d) k pc ls st h = some x := by
  induction d with
  | zero => exact hx
  | succ d ih => exact ez_mono g _ _ _ _ _ _ _ ih
theorem ez_det (g : ez_G) {n m : Nat} {k pc : Nat} {ls : ez_L} {st : List Value} {h : ez_H} {x y : ez_X} (hx : ez_run g n k pc ls st h = some x) (hy : ez_run g m k pc ls st h = some y) : x = y := by
  have h1 := ez_monoL g m hx
  have h2 := ez_monoL g n hy
  rw [Nat.add_comm] at h2
  exact Option.some.inj (h1.symm.trans h2)
noncomputable def ez_rn (g : ez_G) (k pc : Nat) (ls : ez_L) (st : List Value) (h : ez_H) : Option ez_X :=
  @dite _ (∃ n x, ez_run g n k pc ls st h = some x) (Classical.propDecidable _) (fun hx => ez_run g (Classical.choose hx) k pc ls st h) (fun _ => none)
theorem ez_rn_of (g : ez_G) {n k pc : Nat} {ls : ez_L} {st : List Value} {h : ez_H} {x : ez_X} (hx : ez_run g n k pc ls st h = some x) : ez_rn g k pc ls st h = some x := by
  have he : ∃ n x, ez_run g n k pc ls st h = some x := ⟨n, x, hx⟩
  unfold ez_rn
  rw [dif_pos he]
  obtain ⟨y, hy⟩ := Classical.choose_spec he
  rw [hy, ez_det g hy hx]
theorem ez_rn_ex (g : ez_G) {k pc : Nat} {ls : ez_L} {st : List Value} {h : ez_H} {x : ez_X} (hx : ez_rn g k pc ls st h = some x) : ∃ n, ez_run g n k pc ls st h = some x := by
  unfold ez_rn at hx
  by_cases he : ∃ n x, ez_run g n k pc ls st h = some x
  · rw [dif_pos he] at hx
    exact ⟨_, hx⟩
  · rw [dif_neg he] at hx
    cases hx
theorem ez_rn_eq (g : ez_G) {k pc k2 pc2 : Nat} {ls ls2 : ez_L} {st st2 : List Value} {h h2 : ez_H} (e : ∀ x, (∃ n, ez_run g n k pc ls st h = some x) ↔ ∃ n, ez_run g n k2 pc2 ls2 st2 h2 = some x) : ez_rn g k pc ls st h = ez_rn g k2 pc2 ls2 st2 h2 := by
  cases hx : ez_rn g k pc ls st h with
  | some x =>
    obtain ⟨n, hn⟩ := (e x).mp (ez_rn_ex g hx)
    rw [ez_rn_of g hn]
  | none =>
    cases hy : ez_rn g k2 pc2 ls2 st2 h2 with
    | none => rfl
    | some y =>
      obtain ⟨n, hn⟩ := (e y).mpr (ez_rn_ex g hy)
      rw [ez_rn_of g hn] at hx
      cases hx
theorem ez_rn_go (g : ez_G) {k pc pc2 : Nat} {ls ls2 : ez_L} {st st2 : List Value} {h h2 : ez_H} (hs : ez_stp g k pc ls st h = ez_go pc2 ls2 st2 h2) : ez_rn g k pc ls st h = ez_rn g k pc2 ls2 st2 h2 := by
  refine ez_rn_eq g fun x => ⟨fun ⟨n, hn⟩ => ?_, fun ⟨n, hn⟩ => ⟨n + 1, ?_⟩⟩
  · cases n with
    | zero => simp [ez_run] at hn
    | succ n =>
      rw [ez_run, hs] at hn
      exact ⟨n, hn⟩
  · rw [ez_run, hs]
    exact hn
theorem ez_rn_rt (g : ez_G) {k pc : Nat} {ls : ez_L} {st : List Value} {h : ez_H} {r : Option Value} (hs : ez_stp g k pc ls st h = ez_rt r) : ez_rn g k pc ls st h = some (r, h) := by
  refine ez_rn_of g (n := 1) ?_
  rw [ez_run, hs]
  rfl
/-- what a call answers -/
noncomputable def ez_ev (g : ez_G) (k : Nat) (as : List Value) (h : ez_H) : Option ez_X := ez_rn g k 0 (ez_l0 (ez_ml k) as) [] h
/-- how the caller goes on with it -/
noncomputable def ez_bd (g : ez_G) (k pc : Nat) (ls : ez_L) (rest : List Value) (o : Option ez_X) : Option ez_X := match o with
  | none => none
  | some (none, h) => ez_rn g k pc ls rest h
  | some (some v, h) => ez_rn g k pc ls (v :: rest) h
theorem ez_rn_cl (g : ez_G) {k pc k2 : Nat} {ls : ez_L} {st as rest : List Value} {h : ez_H} (hs : ez_stp g k pc ls st h = some (.inr (.inr (k2, as, rest)))) : ez_rn g k pc ls st h = ez_bd g k (pc + 3) ls rest (ez_ev g k2 as h) := by
  cases hc : ez_ev g k2 as h with
  | none =>
    show _ = none
    cases hx : ez_rn g k pc ls st h with
    | none => rfl
    | some x =>
      obtain ⟨n, hn⟩ := ez_rn_ex g hx
      cases n with
      | zero => simp [ez_run] at hn
      | succ n =>
        rw [ez_run, hs] at hn
        dsimp only at hn
        cases hd : ez_run g n k2 0 (ez_l0 (ez_ml k2) as) [] h with
        | none => rw [hd] at hn; cases hn
        | some y =>
          have := ez_rn_of g hd
          rw [ez_ev] at hc
          rw [hc] at this
          cases this
  | some y =>
    obtain ⟨r, h2⟩ := y
    have e : ez_bd g k (pc + 3) ls rest (some (r, h2)) = ez_rn g k (pc + 3) ls (r.toList ++ rest) h2 := by cases r <;> rfl
    rw [e]
    obtain ⟨m, hm⟩ := ez_rn_ex g hc
    refine ez_rn_eq g fun x => ⟨fun ⟨n, hn⟩ => ?_, fun ⟨n, hn⟩ => ⟨n + m + 1, ?_⟩⟩
    · cases n with
      | zero => simp [ez_run] at hn
      | succ n =>
        rw [ez_run, hs] at hn
        dsimp only at hn
        cases hd : ez_run g n k2 0 (ez_l0 (ez_ml k2) as) [] h with
        | none => rw [hd] at hn; cases hn
        | some y =>
          rw [hd] at hn
          have e2 := ez_det g hm hd
          subst e2
          exact ⟨n, hn⟩
    · rw [ez_run, hs]
      dsimp only
      have h3 := ez_monoL g n hm
      rw [Nat.add_comm] at h3
      rw [h3]
      exact ez_monoL g m hn
theorem ez_stp_of (g : ez_G) {k pc n : Nat} {ls : ez_L} {st : List Value} {h : ez_H} {I : Instr} (hd : decode (ez_code k) pc = .ok (I, n)) : ez_stp g k pc ls st h = ez_st g k I n pc ls st h := by
  rw [ez_stp, hd]
