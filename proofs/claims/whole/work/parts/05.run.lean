abbrev x_E : Type := (Nat × List Int32) ⊕ (Nat × List Value)
abbrev x_H : Type := (Nat → x_E) × Nat × Nat × Nat
abbrev x_R : Type := Option Value ⊕ String
abbrev x_A : Type := (Nat × List Value × List Value × x_H) ⊕ ((x_R × x_H) ⊕ (Nat × List Value × Nat × List Value))
def x_up (f : Nat → x_E) (k : Nat) (v : x_E) : Nat → x_E := fun j => if j = k then v else f j
def x_go (pc : Nat) (ls st : List Value) (h : x_H) : Option x_A := some (.inl (pc, ls, st, h))
def x_fin (v : Option Value) (h : x_H) : Option x_A := some (.inr (.inl (.inl v, h)))
def x_thr (E : String) (h : x_H) : Option x_A := some (.inr (.inl (.inr E, (h.1, h.2.1, h.2.2.1 + 1, h.2.2.2 + 6))))
def x_wt : List Value → Nat
  | [] => 0
  | v :: r => v.category + x_wt r
def x_fit (ty : FieldType) (v : Value) : Bool := decide (narrow ty v = v) && fits ty v
def x_alloc (h : x_H) (pc : Nat) (ls st : List Value) (e : x_E) (n : Nat) : Option x_A :=
  if h.2.2.1 = h.2.1 ∧ h.2.1 < 9000 then x_go pc ls (.ref h.2.1 :: st) (x_up h.1 h.2.1 e, h.2.1 + 1, h.2.2.1 + 1, h.2.2.2 + n) else none
def x_bj (pc : Nat) (off : Int) : Option Nat := if 0 ≤ (pc : Int) + off then some ((pc : Int) + off).toNat else none
def x_if1 (P : Int32 → Bool) (pc nx : Nat) (off : Int) (ls st : List Value) (h : x_H) : Option x_A :=
  match st with
  | .int x :: r => match x_bj pc off with
    | some t => if P x = true then x_go t ls r h else x_go nx ls r h
    | none => none
  | _ => none
def x_if2 (P : Int32 → Int32 → Bool) (pc nx : Nat) (off : Int) (ls st : List Value) (h : x_H) : Option x_A :=
  match st with
  | .int y :: .int x :: r => match x_bj pc off with
    | some t => if P x y = true then x_go t ls r h else x_go nx ls r h
    | none => none
  | _ => none
def x_push (nx : Nat) (ls st : List Value) (h : x_H) (v : Value) : Option x_A := x_go nx ls (v :: st) h
def x_ldi (nx k : Nat) (ls st : List Value) (h : x_H) : Option x_A := match ls[k]? with
  | some (.int x) => x_go nx ls (.int x :: st) h
  | _ => none
def x_lda (nx k : Nat) (ls st : List Value) (h : x_H) : Option x_A := match ls[k]? with
  | some (.ref x) => x_go nx ls (.ref x :: st) h
  | _ => none
def x_ldf (nx k : Nat) (ls st : List Value) (h : x_H) : Option x_A := match ls[k]? with
  | some (.float x) => x_go nx ls (.float x :: st) h
  | _ => none
def x_ldd (nx k : Nat) (ls st : List Value) (h : x_H) : Option x_A := match ls[k]? with
  | some (.double x) => x_go nx ls (.double x :: st) h
  | _ => none
def x_nd (ls : List Value) (k : Nat) : Bool := k == 0 || (match ls[k - 1]? with
  | some v => decide (v.category ≠ 2)
  | none => true)
def x_sti (nx k : Nat) (ls st : List Value) (h : x_H) : Option x_A := match st with
  | .int x :: r => if k < ls.length ∧ x_nd ls k = true then x_go nx (ls.set k (.int x)) r h else none
  | _ => none
def x_sta (nx k : Nat) (ls st : List Value) (h : x_H) : Option x_A := match st with
  | .ref x :: r => if k < ls.length ∧ x_nd ls k = true then x_go nx (ls.set k (.ref x)) r h else none
  | _ => none
def x_stf (nx k : Nat) (ls st : List Value) (h : x_H) : Option x_A := match st with
  | .float x :: r => if k < ls.length ∧ x_nd ls k = true then x_go nx (ls.set k (.float x)) r h else none
  | _ => none
def x_std (nx k : Nat) (ls st : List Value) (h : x_H) : Option x_A := match st with
  | .double x :: r => if k + 1 < ls.length ∧ x_nd ls k = true then x_go nx ((ls.set (k + 1) .null).set k (.double x)) r h else none
  | _ => none
def x_inc (nx k : Nat) (n : Int) (ls st : List Value) (h : x_H) : Option x_A := match ls[k]? with
  | some (.int x) => if x_nd ls k = true then x_go nx (ls.set k (.int (x + Int32.ofInt n))) st h else none
  | _ => none
def x_a1 (f : Int32 → Value) (nx : Nat) (ls st : List Value) (h : x_H) : Option x_A := match st with
  | .int x :: r => x_go nx ls (f x :: r) h
  | _ => none
def x_a2 (f : Int32 → Int32 → Int32) (nx : Nat) (ls st : List Value) (h : x_H) : Option x_A := match st with
  | .int y :: .int x :: r => x_go nx ls (.int (f x y) :: r) h
  | _ => none
def x_dv (f : Int32 → Int32 → Int32) (nx : Nat) (ls st : List Value) (h : x_H) : Option x_A := match st with
  | .int y :: .int x :: r => if y = 0 then none else x_go nx ls (.int (f x y) :: r) h
  | _ => none
def x_at (i : Int32) (l : List Int32) : Option Int32 := if i < 0 then none else l[i.toNatClampNeg]?
def x_av (i : Int32) (l : List Value) : Option Value := if i < 0 then none else l[i.toNatClampNeg]?
def x_ald (t nx : Nat) (ls st : List Value) (h : x_H) : Option x_A := match st with
  | .int i :: .ref a :: r => match h.1 a with
    | .inl (t', l) => if t' = t ∧ (a < h.2.1 ∨ (a = 10000 ∧ t = 0)) then match x_at i l with
      | some x => x_go nx ls (.int x :: r) h
      | none => none else none
    | _ => none
  | _ => none
def x_ast (t nx : Nat) (nar : Int32 → Int32) (ls st : List Value) (h : x_H) : Option x_A := match st with
  | .int x :: .int i :: .ref a :: r => match h.1 a with
    | .inl (t', l) => if t' = t ∧ a < h.2.1 ∧ ¬ i < 0 ∧ i.toNatClampNeg < l.length then x_go nx ls r (x_up h.1 a (.inl (t, l.set i.toNatClampNeg (nar x))), h.2) else none
    | _ => none
  | _ => none
def x_isL : Value → Bool
  | .long _ => true
  | _ => false
def x_isD : Value → Bool
  | .double _ => true
  | _ => false
def x_isA : Value → Bool
  | .ref _ => true
  | .null => true
  | _ => false
def x_vld (t : Nat) (q : Value → Bool) (nx : Nat) (ls st : List Value) (h : x_H) : Option x_A := match st with
  | .int i :: .ref a :: r => match h.1 a with
    | .inr (t', l) => if t' = t ∧ a < h.2.1 ∧ l.all q = true then match x_av i l with
      | some x => x_go nx ls (x :: r) h
      | none => none else none
    | _ => none
  | _ => none
def x_vst (t : Nat) (q : Value → Bool) (nx : Nat) (ls st : List Value) (h : x_H) : Option x_A := match st with
  | x :: .int i :: .ref a :: r => match h.1 a with
    | .inr (t', l) => if t' = t ∧ a < h.2.1 ∧ l.all q = true ∧ q x = true ∧ ¬ i < 0 ∧ i.toNatClampNeg < l.length then x_go nx ls r (x_up h.1 a (.inr (t, l.set i.toNatClampNeg x)), h.2) else none
    | _ => none
  | _ => none
def x_isB : x_E → Bool
  | .inr (2, _) => true
  | _ => false
def x_bst (nx : Nat) (ls st : List Value) (h : x_H) : Option x_A := match st with
  | .ref x :: .int i :: .ref a :: r => match h.1 a with
    | .inr (t', l) => if t' = 102 ∧ a < h.2.1 ∧ l.all x_isA = true ∧ x < h.2.1 ∧ x_isB (h.1 x) = true ∧ ¬ i < 0 ∧ i.toNatClampNeg < l.length then x_go nx ls r (x_up h.1 a (.inr (102, l.set i.toNatClampNeg (.ref x))), h.2) else none
    | _ => none
  | _ => none
def x_len (nx : Nat) (ls st : List Value) (h : x_H) : Option x_A := match st with
  | .ref a :: r => match h.1 a with
    | .inl (t, l) => if t < 3 ∧ (a < h.2.1 ∨ (a = 10000 ∧ t = 0)) then x_go nx ls (.int (Int32.ofNat l.length) :: r) h else none
    | _ => none
  | _ => none
def x_getf (ci k nx : Nat) (ls st : List Value) (h : x_H) : Option x_A := match st with
  | .ref a :: r => match h.1 a with
    | .inr (c, vs) => if c = ci ∧ a < h.2.1 then match vs[k]? with
      | some v => x_go nx ls (v :: r) h
      | none => none else none
    | _ => none
  | _ => none
def x_putf (M ci k nx : Nat) (ls st : List Value) (h : x_H) : Option x_A := match st with
  | v :: .ref a :: r => match h.1 a with
    | .inr (c, vs) => if c = ci ∧ a < h.2.1 ∧ k < vs.length ∧ x_fit (x_ty ci k) v = true ∧ ((x_T ci k).2.2.2 = false ∨ ((x_y M).name = "<init>" ∧ (x_T ci k).1 = x_cn (M / 100))) then x_go nx ls r (x_up h.1 a (.inr (ci, vs.set k v)), h.2) else none
    | _ => none
  | _ => none
def x_news (t : Nat) (nx : Nat) (ls st : List Value) (h : x_H) (e : Nat → x_E) : Option x_A := match st with
  | .int n :: r => if ¬ n < 0 ∧ n.toNatClampNeg ≤ 10000 then x_alloc h nx ls r (e n.toNatClampNeg) n.toNatClampNeg else none
  | _ => none
def x_defs (ci : Nat) : List Value := (List.range (x_N ci)).map (fun k => defaultValue (x_ty ci k))
def x_cpy (nx : Nat) (ls st : List Value) (h : x_H) : Option x_A := match st with
  | .int n :: .int dp :: .ref a :: .int sp :: .ref b :: r => match h.1 a, h.1 b with
    | .inl (t, l), .inl (u, g) => if t = 0 ∧ u = 0 ∧ a < h.2.1 ∧ b < h.2.1 ∧ sp = 0 ∧ dp = 0 ∧ ¬ n < 0 ∧ n.toNatClampNeg = l.length ∧ n.toNatClampNeg = g.length ∧ x_wt r ≤ 8 then x_go nx ls r (x_up h.1 a (.inl (0, g)), h.2) else none
    | _, _ => none
  | _ => none
def x_chs (j : Nat) : List Int32 := ((x_stab.getD j (0, 0, "")).2.2.toList.map (fun c => Int32.ofNat c.toNat))
def x_str (kind nx : Nat) (ls st : List Value) (h : x_H) : Option x_A :=
  if kind = 7 then match st with
    | .ref a :: r => if 20000 ≤ a ∧ a < 20004 ∧ x_wt r ≤ 8 then x_go nx ls (.int (Int32.ofNat (x_chs (a - 20000)).length) :: r) h else none
    | _ => none
  else if kind = 8 then match st with
    | .ref a :: r => if 20000 ≤ a ∧ a < 20004 ∧ x_wt r ≤ 8 then x_go nx ls (.int (if (x_chs (a - 20000)).length = 0 then 1 else 0) :: r) h else none
    | _ => none
  else match st with
    | .int i :: .ref a :: r => if 20000 ≤ a ∧ a < 20004 ∧ x_wt r ≤ 8 then match x_at i (x_chs (a - 20000)) with
      | some x => x_go nx ls (.int x :: r) h
      | none => none else none
    | _ => none
def x_args (M' n nx : Nat) (st : List Value) : Option x_A := if n ≤ st.length ∧ x_wt (st.drop n) ≤ 8 ∧ x_wt (st.take n) = n then some (.inr (.inr (M', (st.take n).reverse, nx, st.drop n))) else none
def x_call (M M' n nx : Nat) (st : List Value) : Option x_A := if x_hgt M' < x_hgt M then x_args M' n nx st else none
def x_recv (M' n : Nat) (st : List Value) (h : x_H) : Bool := match st[n - 1]? with
  | some (.ref b) => match h.1 b with
    | .inr (c, _) => decide (b < h.2.1 ∧ c = M' / 100 + 2)
    | _ => false
  | _ => false
def x_tsw (dflt lo hi : Int) (offs : Array Int) (x : Int32) : Option Int := if x.toInt < lo then some dflt else if hi < x.toInt then some dflt else offs[(x.toInt - lo).toNat]?
def x_sw (off : Int32 → Option Int) (pc : Nat) (ls st : List Value) (h : x_H) : Option x_A := match st with
  | .int x :: r => match off x with
    | some o => match x_bj pc o with
      | some t => x_go t ls r h
      | none => none
    | none => none
  | _ => none
def x_tth (M pc : Nat) : Option String := (x_lk x_ttab M pc).map (fun q => q.1)
def x_do1 (M pc : Nat) (ls st : List Value) (h : x_H) : Instr → Option x_A
  | .aload_n k => x_lda (pc + 1) k ls st h
  | .aload k => x_lda (pc + 2) k ls st h
  | .iload_n k => x_ldi (pc + 1) k ls st h
  | .iload k => x_ldi (pc + 2) k ls st h
  | .fload k => x_ldf (pc + 2) k ls st h
  | .dload k => x_ldd (pc + 2) k ls st h
  | .iconst n => x_push (pc + 1) ls st h (.int (Int32.ofInt n))
  | .bipush n => x_push (pc + 2) ls st h (.int (Int8.ofInt n).toInt32)
  | .sipush n => x_push (pc + 3) ls st h (.int (Int16.ofInt n).toInt32)
  | .lconst n => x_push (pc + 1) ls st h (.long (Int64.ofNat (n : Nat)))
  | .fconst n => if n = 0 then x_push (pc + 1) ls st h (.float FP.fconst0) else none
  | .ldc i => match x_lk x_ktab (M / 100) i with
    | some v => x_push (pc + 2) ls st h (.int v)
    | none => if (M / 100) = 2 then (if i = 47 then x_push (pc + 2) ls st h (.ref 20000) else if i = 49 then x_push (pc + 2) ls st h (.ref 20001) else if i = 51 then x_push (pc + 2) ls st h (.ref 20002) else if i = 53 then x_push (pc + 2) ls st h (.ref 20003) else none) else none
  | .ldc2_w i => match x_lk x_dtab (M / 100) i with
    | some v => x_push (pc + 3) ls st h (.double v)
    | none => none
  | .istore_n k => x_sti (pc + 1) k ls st h
  | .istore k => x_sti (pc + 2) k ls st h
  | .astore_n k => x_sta (pc + 1) k ls st h
  | .astore k => x_sta (pc + 2) k ls st h
  | .fstore k => x_stf (pc + 2) k ls st h
  | .dstore k => x_std (pc + 2) k ls st h
  | .iinc k n => x_inc (pc + 3) k n ls st h
  | .iadd => x_a2 (fun x y => x + y) (pc + 1) ls st h
  | .isub => x_a2 (fun x y => x - y) (pc + 1) ls st h
  | .imul => x_a2 (fun x y => x * y) (pc + 1) ls st h
  | .iand => x_a2 (fun x y => x &&& y) (pc + 1) ls st h
  | .ior => x_a2 (fun x y => x ||| y) (pc + 1) ls st h
  | .ishl => x_a2 (fun x y => x <<< (y &&& 31)) (pc + 1) ls st h
  | .ishr => x_a2 (fun x y => x >>> (y &&& 31)) (pc + 1) ls st h
  | .idiv => x_dv (fun x y => x / y) (pc + 1) ls st h
  | .irem => x_dv (fun x y => x - (x / y) * y) (pc + 1) ls st h
  | .i2l => x_a1 (fun x => .long x.toInt64) (pc + 1) ls st h
  | .i2c => x_a1 (fun x => .int (x.toUInt32 % 65536).toInt32) (pc + 1) ls st h
  | .i2f => x_a1 (fun x => .float (FP.i2f x)) (pc + 1) ls st h
  | .i2d => x_a1 (fun x => .double (FP.i2d x)) (pc + 1) ls st h
  | _ => none
def x_do2 (M pc : Nat) (ls st : List Value) (h : x_H) : Instr → Option x_A
  | .ifCond .eq off => x_if1 (fun x => decide (x = 0)) pc (pc + 3) off ls st h
  | .ifCond .ne off => x_if1 (fun x => decide (¬ x = 0)) pc (pc + 3) off ls st h
  | .ifCond .lt off => x_if1 (fun x => decide (x < 0)) pc (pc + 3) off ls st h
  | .ifCond .ge off => x_if1 (fun x => decide (0 ≤ x)) pc (pc + 3) off ls st h
  | .ifCond .gt off => x_if1 (fun x => decide (0 < x)) pc (pc + 3) off ls st h
  | .ifCond .le off => x_if1 (fun x => decide (x ≤ 0)) pc (pc + 3) off ls st h
  | .if_icmp .eq off => x_if2 (fun x y => decide (x = y)) pc (pc + 3) off ls st h
  | .if_icmp .ne off => x_if2 (fun x y => decide (¬ x = y)) pc (pc + 3) off ls st h
  | .if_icmp .lt off => x_if2 (fun x y => decide (x < y)) pc (pc + 3) off ls st h
  | .if_icmp .ge off => x_if2 (fun x y => decide (y ≤ x)) pc (pc + 3) off ls st h
  | .if_icmp .gt off => x_if2 (fun x y => decide (y < x)) pc (pc + 3) off ls st h
  | .if_icmp .le off => x_if2 (fun x y => decide (x ≤ y)) pc (pc + 3) off ls st h
  | .goto off => match x_bj pc off with
    | some t => x_go t ls st h
    | none => none
  | .lcmp => match st with
    | .long y :: .long x :: r => x_go (pc + 1) ls (.int (lg_cmp x y) :: r) h
    | _ => none
  | .fcmp op => match st with
    | .float y :: .float x :: r => x_go (pc + 1) ls (.int (Op.cmpValue (FP.fcmp x y) op) :: r) h
    | _ => none
  | .dcmp op => match st with
    | .double y :: .double x :: r => x_go (pc + 1) ls (.int (Op.cmpValue (FP.dcmp x y) op) :: r) h
    | _ => none
  | .fdiv => match st with
    | .float y :: .float x :: r => if FP.fdiv x y &&& 0x7fffffff ≤ 0x7f800000 then x_go (pc + 1) ls (.float (FP.fdiv x y) :: r) h else none
    | _ => none
  | .ddiv => match st with
    | .double y :: .double x :: r => if FP.ddiv x y &&& 0x7fffffffffffffff ≤ 0x7ff0000000000000 then x_go (pc + 1) ls (.double (FP.ddiv x y) :: r) h else none
    | _ => none
  | .f2d => match st with
    | .float x :: r => if FP.f2d x &&& 0x7fffffffffffffff ≤ 0x7ff0000000000000 then x_go (pc + 1) ls (.double (FP.f2d x) :: r) h else none
    | _ => none
  | .dup => match st with
    | v :: r => if v.category = 1 then x_go (pc + 1) ls (v :: v :: r) h else none
    | _ => none
  | .dup2 => match st with
    | v :: w :: r => if v.category = 1 ∧ w.category = 1 then x_go (pc + 1) ls (v :: w :: v :: w :: r) h else none
    | _ => none
  | .pop => match st with
    | v :: r => if v.category = 1 then x_go (pc + 1) ls r h else none
    | _ => none
  | _ => none
def x_do3 (M pc : Nat) (ls st : List Value) (h : x_H) : Instr → Option x_A
  | .iaload => x_ald 0 (pc + 1) ls st h
  | .baload => x_ald 1 (pc + 1) ls st h
  | .caload => x_ald 2 (pc + 1) ls st h
  | .iastore => x_ast 0 (pc + 1) (fun x => x) ls st h
  | .bastore => x_ast 1 (pc + 1) (vp_nar .boolean) ls st h
  | .castore => x_ast 2 (pc + 1) (vp_nar .char) ls st h
  | .laload => x_vld 100 x_isL (pc + 1) ls st h
  | .daload => x_vld 101 x_isD (pc + 1) ls st h
  | .aaload => x_vld 102 x_isA (pc + 1) ls st h
  | .lastore => x_vst 100 x_isL (pc + 1) ls st h
  | .dastore => x_vst 101 x_isD (pc + 1) ls st h
  | .aastore => x_bst (pc + 1) ls st h
  | .arraylength => x_len (pc + 1) ls st h
  | .newarray .int => x_news 0 (pc + 2) ls st h (fun n => .inl (0, List.replicate n 0))
  | .newarray .boolean => x_news 1 (pc + 2) ls st h (fun n => .inl (1, List.replicate n 0))
  | .newarray .char => x_news 2 (pc + 2) ls st h (fun n => .inl (2, List.replicate n 0))
  | .newarray .long => x_news 100 (pc + 2) ls st h (fun n => .inr (100, List.replicate n (.long 0)))
  | .newarray .double => x_news 101 (pc + 2) ls st h (fun n => .inr (101, List.replicate n (.double 0)))
  | .anewarray i => if x_lk x_ctab (M / 100) i = some 2 then x_news 102 (pc + 3) ls st h (fun n => .inr (102, List.replicate n .null)) else none
  | .getfield i => match x_lk x_ftab (M / 100) i with
    | some q => x_getf q.1 q.2.1 (pc + 3) ls st h
    | none => none
  | .putfield i => match x_lk x_ftab (M / 100) i with
    | some q => x_putf M q.1 q.2.1 (pc + 3) ls st h
    | none => none
  | .new i => match x_lk x_ctab (M / 100) i with
    | some ci => x_alloc h (pc + 3) ls st (.inr (ci, x_defs ci)) (x_N ci)
    | none => match x_tth M pc with
      | some E => if x_wt st ≤ 8 ∧ h.2.1 ≤ h.2.2.1 then x_thr E h else none
      | none => none
  | .invokevirtual i => match x_lk x_itab (M / 100) i with
    | some q => if q.1 = 0 then (if x_recv q.2.1 q.2.2 st h = true then x_call M q.2.1 q.2.2 (pc + 3) st else none) else if q.1 = 7 ∨ q.1 = 8 ∨ q.1 = 9 then (if 5 ≤ x_hgt M then x_str q.1 (pc + 3) ls st h else none) else none
    | none => none
  | .invokestatic i => match x_lk x_itab (M / 100) i with
    | some q => if q.1 = 1 ∨ q.1 = 3 ∨ q.1 = 10 then x_call M q.2.1 q.2.2 (pc + 3) st else if q.1 = 6 then x_cpy (pc + 3) ls st h else none
    | none => none
  | .invokespecial i => match x_lk x_itab (M / 100) i with
    | some q => if q.1 = 2 ∨ q.1 = 4 then (if x_recv q.2.1 q.2.2 st h = true then x_call M q.2.1 q.2.2 (pc + 3) st else none) else if q.1 = 5 then (match st with
      | .ref _ :: r => if x_wt r ≤ 8 then x_go (pc + 3) ls r h else none
      | _ => none) else none
    | none => none
  | _ => none
def x_do4 (M pc : Nat) (ls st : List Value) (h : x_H) : Instr → Option x_A
  | .ireturn => match st with
    | [.int x] => (match x_ret M with
      | some ty => if narrow ty (.int x) = .int x then x_fin (some (.int x)) h else none
      | none => none)
    | _ => none
  | .areturn => match st with
    | [.ref a] => if x_ret M = some (.object "java/lang/String") then x_fin (some (.ref a)) h else none
    | _ => none
  | .freturn => match st with
    | [.float x] => if x_ret M = some .float then x_fin (some (.float x)) h else none
    | _ => none
  | .dreturn => match st with
    | [.double x] => if x_ret M = some .double then x_fin (some (.double x)) h else none
    | _ => none
  | .return_ => match st with
    | [] => if x_ret M = none then x_fin none h else none
    | _ => none
  | .tableswitch dflt lo hi offs => x_sw (x_tsw dflt lo hi offs) pc ls st h
  | .lookupswitch dflt ps => if (ps.toList.zip (ps.toList.drop 1)).all (fun (a, next) => a.1 < next.1) = true then x_sw (fun x => some (Op.lookupswitch.offset ps.toList dflt x.toInt)) pc ls st h else none
  | _ => none
def x_len1 : Instr → Nat
  | .aload _ | .iload _ | .fload _ | .dload _ | .istore _ | .astore _ | .fstore _ | .dstore _ | .bipush _ | .ldc _ | .newarray _ => 2
  | .sipush _ | .ldc2_w _ | .iinc _ _ | .ifCond _ _ | .if_icmp _ _ | .goto _ | .anewarray _ | .getfield _ | .putfield _ | .new _ | .invokevirtual _ | .invokestatic _ | .invokespecial _ => 3
  | _ => 1
def x_isw : Instr → Bool
  | .tableswitch .. => true
  | .lookupswitch .. => true
  | _ => false
def x_act (M pc : Nat) (ls st : List Value) (h : x_H) : Option x_A :=
  match decode (x_code M) pc with
  | .ok (i, len) => if len = x_len1 i ∨ x_isw i = true then (x_do1 M pc ls st h i).or ((x_do2 M pc ls st h i).or ((x_do3 M pc ls st h i).or (x_do4 M pc ls st h i))) else none
  | .error _ => none
def x_hdl (M pc : Nat) (E : String) : Option (Nat × Nat) := ((x_hs M).find? (fun z => decide (z.1 ≤ pc ∧ pc < z.2.1) && z.2.2.2.2.1 == E)).map (fun z => z.2.2.2.2.2)
def x_ent (M : Nat) (args : List Value) : List Value := args ++ List.replicate (x_nl M - args.length) .null
def x_F (rec : Nat → Nat → List Value → List Value → x_H → Option (x_R × x_H)) (M pc : Nat) (ls st : List Value) (h : x_H) : Option (x_R × x_H) :=
  match x_act M pc ls st h with
  | none => none
  | some (.inl q) => rec M q.1 q.2.1 q.2.2.1 q.2.2.2
  | some (.inr (.inl r)) => some r
  | some (.inr (.inr q)) => match rec q.1 0 (x_ent q.1 q.2.1) [] h with
    | none => none
    | some (.inl v, h') => rec M q.2.2.1 ls (v.toList ++ q.2.2.2) h'
    | some (.inr E, h') => if x_tm.contains q.1 = true then match x_hdl M pc E with
      | some z => rec M z.1 (List.replicate (x_nl M) .null) [] h'
      | none => some (.inr E, h') else none
def x_exec : Nat → Nat → Nat → List Value → List Value → x_H → Option (x_R × x_H)
  | 0 => fun _ _ _ _ _ => none
  | n + 1 => x_F (x_exec n)
theorem x_F_mono {r1 r2 : Nat → Nat → List Value → List Value → x_H → Option (x_R × x_H)} (hr : ∀ M pc ls st h z, r1 M pc ls st h = some z → r2 M pc ls st h = some z) {M pc : Nat} {ls st : List Value} {h : x_H} {z : x_R × x_H} (hz : x_F r1 M pc ls st h = some z) : x_F r2 M pc ls st h = some z := by
  unfold x_F at hz ⊢
  split at hz
  · cases hz
  · exact hr _ _ _ _ _ _ hz
  · exact hz
  · split at hz
    · cases hz
    · rename_i e1
      rw [hr _ _ _ _ _ _ e1]
      exact hr _ _ _ _ _ _ hz
    · rename_i e1
      rw [hr _ _ _ _ _ _ e1]
      dsimp only
      split at hz
      · rename_i e0
        rw [if_pos e0]
        split at hz
        · rename_i e2
          exact hr _ _ _ _ _ _ hz
        · exact hz
      · cases hz
theorem x_exec_succ (n : Nat) : ∀ (M pc : Nat) (ls st : List Value) (h : x_H) (z : x_R × x_H), x_exec n M pc ls st h = some z → x_exec (n + 1) M pc ls st h = some z := by
  induction n with
  | zero => intro M pc ls st h z hz; cases hz
  | succ n ih => intro M pc ls st h z hz; exact x_F_mono ih hz
theorem x_exec_le {n m : Nat} (hnm : n ≤ m) {M pc : Nat} {ls st : List Value} {h : x_H} {z : x_R × x_H} (hz : x_exec n M pc ls st h = some z) : x_exec m M pc ls st h = some z := by
  induction hnm with
  | refl => exact hz
  | step _ ih => exact x_exec_succ _ _ _ _ _ _ _ ih
noncomputable def x_run (M pc : Nat) (ls st : List Value) (h : x_H) : Option (x_R × x_H) :=
  haveI := Classical.propDecidable
  if hx : ∃ z, ∃ n, x_exec n M pc ls st h = some z then some hx.choose else none
theorem x_run_iff {M pc : Nat} {ls st : List Value} {h : x_H} {z : x_R × x_H} : x_run M pc ls st h = some z ↔ ∃ n, x_exec n M pc ls st h = some z := by
  unfold x_run
  constructor
  · intro e
    split at e
    · rename_i hx
      cases e
      exact hx.choose_spec
    · cases e
  · intro ⟨n, e⟩
    have hx : ∃ z, ∃ n, x_exec n M pc ls st h = some z := ⟨z, n, e⟩
    rw [dif_pos hx]
    obtain ⟨m, em⟩ := hx.choose_spec
    have e1 := x_exec_le (Nat.le_max_left n m) e
    have e2 := x_exec_le (Nat.le_max_right n m) em
    rw [e1] at e2
    exact e2.symm
theorem x_run_eq (M pc : Nat) (ls st : List Value) (h : x_H) : x_run M pc ls st h = x_F x_run M pc ls st h := by
  apply Option.ext
  intro z
  constructor
  · intro e
    obtain ⟨n, en⟩ := x_run_iff.mp e
    cases n with
    | zero => cases en
    | succ n => exact x_F_mono (fun M pc ls st h z hz => x_run_iff.mpr ⟨n, hz⟩) en
  · intro e
    apply x_run_iff.mpr
    unfold x_F at e
    have key : ∃ n, x_F (x_exec n) M pc ls st h = some z := by
      unfold x_F
      split at e
      · cases e
      · obtain ⟨n, en⟩ := x_run_iff.mp e
        exact ⟨n, en⟩
      · exact ⟨0, e⟩
      · split at e
        · cases e
        · rename_i e1
          obtain ⟨n, en⟩ := x_run_iff.mp e1
          obtain ⟨m, em⟩ := x_run_iff.mp e
          refine ⟨max n m, ?_⟩
          rw [x_exec_le (Nat.le_max_left n m) en]
          exact x_exec_le (Nat.le_max_right n m) em
        · rename_i e1
          obtain ⟨n, en⟩ := x_run_iff.mp e1
          split at e
          · rename_i e0
            split at e
            · rename_i e2
              obtain ⟨m, em⟩ := x_run_iff.mp e
              refine ⟨max n m, ?_⟩
              rw [x_exec_le (Nat.le_max_left n m) en]
              dsimp only
              rw [if_pos e0, e2]
              exact x_exec_le (Nat.le_max_right n m) em
            · rename_i e2
              refine ⟨n, ?_⟩
              rw [en]
              dsimp only
              rw [if_pos e0, e2]
              exact e
          · cases e
    obtain ⟨n, en⟩ := key
    exact ⟨n + 1, en⟩
noncomputable def x_m (M : Nat) (args : List Value) (h : x_H) : Option (x_R × x_H) := x_run M 0 (x_ent M args) [] h
