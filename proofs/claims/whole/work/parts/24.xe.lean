def q_i (z : Int) : Int32 := Int32.ofInt z
abbrev q_O : Type := Option (x_R × x_H)
noncomputable def q_K (M pc : Nat) (ls : List Value) (h : x_H) : Option x_A → q_O
  | none => none
  | some (.inl q) => x_run M q.1 q.2.1 q.2.2.1 q.2.2.2
  | some (.inr (.inl r)) => some r
  | some (.inr (.inr q)) => match x_run q.1 0 (x_ent q.1 q.2.1) [] h with
    | none => none
    | some (.inl v, h') => x_run M q.2.2.1 ls (v.toList ++ q.2.2.2) h'
    | some (.inr E, h') => if x_tm.contains q.1 = true then match x_hdl M pc E with
      | some z => x_run M z.1 (List.replicate (x_nl M) .null) [] h'
      | none => some (.inr E, h') else none
def q_gi (ls : List Value) (k : Nat) (F : Int32 → q_O) : q_O := match ls[k]? with
  | some (.int v) => F v
  | _ => none
def q_gr (ls : List Value) (k : Nat) (F : Nat → q_O) : q_O := match ls[k]? with
  | some (.ref v) => F v
  | _ => none
def q_gfl (ls : List Value) (k : Nat) (F : UInt32 → q_O) : q_O := match ls[k]? with
  | some (.float v) => F v
  | _ => none
def q_gd (ls : List Value) (k : Nat) (F : UInt64 → q_O) : q_O := match ls[k]? with
  | some (.double v) => F v
  | _ => none
def q_ls (ls : List Value) (k : Nat) (v : Value) (F : List Value → q_O) : q_O := if k < ls.length ∧ x_nd ls k = true then F (ls.set k v) else none
def q_gf (h : x_H) (a ci k : Nat) (F : Value → q_O) : q_O := match h.1 a with
  | .inr (c, vs) => if c = ci ∧ a < h.2.1 then match vs[k]? with
    | some v => F v
    | none => none else none
  | _ => none
def q_pf (h : x_H) (a ci k : Nat) (v : Value) (F : x_H → q_O) : q_O := match h.1 a with
  | .inr (c, vs) => if c = ci ∧ a < h.2.1 ∧ k < vs.length then F (x_up h.1 a (.inr (ci, vs.set k v)), h.2) else none
  | _ => none
def q_ra (h : x_H) (a t : Nat) (i : Int32) (F : Int32 → q_O) : q_O := match h.1 a with
  | .inl (t', l) => if t' = t ∧ (a < h.2.1 ∨ (a = 10000 ∧ t = 0)) then match x_at i l with
    | some x => F x
    | none => none else none
  | _ => none
def q_wa (h : x_H) (a t : Nat) (i x : Int32) (F : x_H → q_O) : q_O := match h.1 a with
  | .inl (t', l) => if t' = t ∧ a < h.2.1 ∧ ¬ i < 0 ∧ i.toNatClampNeg < l.length then F (x_up h.1 a (.inl (t, l.set i.toNatClampNeg x)), h.2) else none
  | _ => none
def q_rv2 (h : x_H) (a t : Nat) (q : Value → Bool) (i : Int32) (F : Value → q_O) : q_O := match h.1 a with
  | .inr (t', l) => if t' = t ∧ a < h.2.1 ∧ l.all q = true then match x_av i l with
    | some x => F x
    | none => none else none
  | _ => none
def q_wv (h : x_H) (a t : Nat) (q : Value → Bool) (i : Int32) (x : Value) (F : x_H → q_O) : q_O := match h.1 a with
  | .inr (t', l) => if t' = t ∧ a < h.2.1 ∧ l.all q = true ∧ q x = true ∧ ¬ i < 0 ∧ i.toNatClampNeg < l.length then F (x_up h.1 a (.inr (t, l.set i.toNatClampNeg x)), h.2) else none
  | _ => none
def q_wb (h : x_H) (a x : Nat) (i : Int32) (F : x_H → q_O) : q_O := match h.1 a with
  | .inr (t', l) => if t' = 102 ∧ a < h.2.1 ∧ l.all x_isA = true ∧ x < h.2.1 ∧ x_isB (h.1 x) = true ∧ ¬ i < 0 ∧ i.toNatClampNeg < l.length then F (x_up h.1 a (.inr (102, l.set i.toNatClampNeg (.ref x))), h.2) else none
  | _ => none
def q_ln (h : x_H) (a : Nat) (F : Int32 → q_O) : q_O := match h.1 a with
  | .inl (t, l) => if t < 3 ∧ (a < h.2.1 ∨ (a = 10000 ∧ t = 0)) then F (Int32.ofNat l.length) else none
  | _ => none
def q_al2 (h : x_H) (e : x_E) (n : Nat) (F : Nat → x_H → q_O) : q_O := if h.2.2.1 = h.2.1 ∧ h.2.1 < 9000 then F h.2.1 (x_up h.1 h.2.1 e, h.2.1 + 1, h.2.2.1 + 1, h.2.2.2 + n) else none
def q_na (h : x_H) (n : Int32) (e : Nat → x_E) (F : Nat → x_H → q_O) : q_O := if ¬ n < 0 ∧ n.toNatClampNeg ≤ 10000 then q_al2 h (e n.toNatClampNeg) n.toNatClampNeg F else none
/-- a callee that returns -/
def q_cl (o : q_O) (F : Option Value → x_H → q_O) : q_O := match o with
  | some (.inl v, h) => F v h
  | _ => none
/-- a callee that may throw -/
def q_ct (o : q_O) (G : String → x_H → q_O) (F : Option Value → x_H → q_O) : q_O := match o with
  | some (.inl v, h) => F v h
  | some (.inr E, h) => G E h
  | none => none
noncomputable def q_ho (M pc : Nat) (E : String) (h : x_H) : q_O := match x_hdl M pc E with
  | some z => x_run M z.1 (List.replicate (x_nl M) .null) [] h
  | none => some (.inr E, h)
def q_rc (h : x_H) (b c : Nat) : Prop := x_recv (c * 100 - 200) 1 [.ref b] h = true
def q_so (pc : Nat) (o : Option Int) (F : Nat → q_O) : q_O := match o with
  | some o => match x_bj pc o with
    | some t => F t
    | none => none
  | none => none
theorem xe_K {M pc : Nat} {cc : ByteArray} {i : Instr} {len : Nat} {ls st : List Value} {h : x_H} (hc : x_code M = cc) (hd : decode cc pc = .ok (i, len)) (hl : len = x_len1 i ∨ x_isw i = true) :
    x_run M pc ls st h = q_K M pc ls h ((x_do1 M pc ls st h i).or ((x_do2 M pc ls st h i).or ((x_do3 M pc ls st h i).or (x_do4 M pc ls st h i)))) := by
  rw [x_run_eq]
  unfold x_F x_act
  rw [hc, hd]
  dsimp only
  rw [if_pos hl]
  rfl
section XE
variable {M pc k : Nat} {cc : ByteArray} {ls st : List Value} {h : x_H} {x y : Int32} {a b : Nat}
theorem xe_iload_n {k : Fin 4} (hc : x_code M = cc) (hd : decode cc pc = .ok (.iload_n k, 1)) : x_run M pc ls st h = q_gi ls k (fun v => x_run M (pc + 1) ls (.int v :: st) h) := by
  rw [xe_K hc hd (Or.inl rfl)]
  show q_K M pc ls h ((x_ldi (pc + 1) k ls st h).or none) = _
  unfold x_ldi q_gi
  generalize ls[(k : Nat)]? = o
  rcases o with _ | v
  · rfl
  · cases v <;> rfl
theorem xe_iload {k : Nat} (hc : x_code M = cc) (hd : decode cc pc = .ok (.iload k, 2)) : x_run M pc ls st h = q_gi ls k (fun v => x_run M (pc + 2) ls (.int v :: st) h) := by
  rw [xe_K hc hd (Or.inl rfl)]
  show q_K M pc ls h ((x_ldi (pc + 2) k ls st h).or none) = _
  unfold x_ldi q_gi
  generalize ls[(k : Nat)]? = o
  rcases o with _ | v
  · rfl
  · cases v <;> rfl
theorem xe_aload_n {k : Fin 4} (hc : x_code M = cc) (hd : decode cc pc = .ok (.aload_n k, 1)) : x_run M pc ls st h = q_gr ls k (fun v => x_run M (pc + 1) ls (.ref v :: st) h) := by
  rw [xe_K hc hd (Or.inl rfl)]
  show q_K M pc ls h ((x_lda (pc + 1) k ls st h).or none) = _
  unfold x_lda q_gr
  generalize ls[(k : Nat)]? = o
  rcases o with _ | v
  · rfl
  · cases v <;> rfl
theorem xe_aload {k : Nat} (hc : x_code M = cc) (hd : decode cc pc = .ok (.aload k, 2)) : x_run M pc ls st h = q_gr ls k (fun v => x_run M (pc + 2) ls (.ref v :: st) h) := by
  rw [xe_K hc hd (Or.inl rfl)]
  show q_K M pc ls h ((x_lda (pc + 2) k ls st h).or none) = _
  unfold x_lda q_gr
  generalize ls[(k : Nat)]? = o
  rcases o with _ | v
  · rfl
  · cases v <;> rfl
theorem xe_fload {k : Nat} (hc : x_code M = cc) (hd : decode cc pc = .ok (.fload k, 2)) : x_run M pc ls st h = q_gfl ls k (fun v => x_run M (pc + 2) ls (.float v :: st) h) := by
  rw [xe_K hc hd (Or.inl rfl)]
  show q_K M pc ls h ((x_ldf (pc + 2) k ls st h).or none) = _
  unfold x_ldf q_gfl
  generalize ls[(k : Nat)]? = o
  rcases o with _ | v
  · rfl
  · cases v <;> rfl
theorem xe_dload {k : Nat} (hc : x_code M = cc) (hd : decode cc pc = .ok (.dload k, 2)) : x_run M pc ls st h = q_gd ls k (fun v => x_run M (pc + 2) ls (.double v :: st) h) := by
  rw [xe_K hc hd (Or.inl rfl)]
  show q_K M pc ls h ((x_ldd (pc + 2) k ls st h).or none) = _
  unfold x_ldd q_gd
  generalize ls[(k : Nat)]? = o
  rcases o with _ | v
  · rfl
  · cases v <;> rfl
theorem xe_istore_n {k : Fin 4} (hc : x_code M = cc) (hd : decode cc pc = .ok (.istore_n k, 1)) : x_run M pc ls (.int x :: st) h = q_ls ls k (.int x) (fun ls' => x_run M (pc + 1) ls' st h) := by
  rw [xe_K hc hd (Or.inl rfl)]
  show q_K M pc ls h ((x_sti (pc + 1) k ls (.int x :: st) h).or none) = _
  unfold x_sti q_ls
  dsimp only
  split <;> rfl
theorem xe_istore {k : Nat} (hc : x_code M = cc) (hd : decode cc pc = .ok (.istore k, 2)) : x_run M pc ls (.int x :: st) h = q_ls ls k (.int x) (fun ls' => x_run M (pc + 2) ls' st h) := by
  rw [xe_K hc hd (Or.inl rfl)]
  show q_K M pc ls h ((x_sti (pc + 2) k ls (.int x :: st) h).or none) = _
  unfold x_sti q_ls
  dsimp only
  split <;> rfl
theorem xe_astore_n {k : Fin 4} (hc : x_code M = cc) (hd : decode cc pc = .ok (.astore_n k, 1)) : x_run M pc ls (.ref a :: st) h = q_ls ls k (.ref a) (fun ls' => x_run M (pc + 1) ls' st h) := by
  rw [xe_K hc hd (Or.inl rfl)]
  show q_K M pc ls h ((x_sta (pc + 1) k ls (.ref a :: st) h).or none) = _
  unfold x_sta q_ls
  dsimp only
  split <;> rfl
theorem xe_astore {k : Nat} (hc : x_code M = cc) (hd : decode cc pc = .ok (.astore k, 2)) : x_run M pc ls (.ref a :: st) h = q_ls ls k (.ref a) (fun ls' => x_run M (pc + 2) ls' st h) := by
  rw [xe_K hc hd (Or.inl rfl)]
  show q_K M pc ls h ((x_sta (pc + 2) k ls (.ref a :: st) h).or none) = _
  unfold x_sta q_ls
  dsimp only
  split <;> rfl
theorem xe_fstore {k : Nat} {u : UInt32} (hc : x_code M = cc) (hd : decode cc pc = .ok (.fstore k, 2)) : x_run M pc ls (.float u :: st) h = q_ls ls k (.float u) (fun ls' => x_run M (pc + 2) ls' st h) := by
  rw [xe_K hc hd (Or.inl rfl)]
  show q_K M pc ls h ((x_stf (pc + 2) k ls (.float u :: st) h).or none) = _
  unfold x_stf q_ls
  dsimp only
  split <;> rfl
theorem xe_dstore {u : UInt64} (hc : x_code M = cc) (hd : decode cc pc = .ok (.dstore k, 2)) : x_run M pc ls (.double u :: st) h = if k + 1 < ls.length ∧ x_nd ls k = true then x_run M (pc + 2) ((ls.set (k + 1) .null).set k (.double u)) st h else none := by
  rw [xe_K hc hd (Or.inl rfl)]
  show q_K M pc ls h ((x_std (pc + 2) k ls (.double u :: st) h).or none) = _
  unfold x_std
  dsimp only
  split <;> rfl
theorem xe_iconst {n : Int} (hc : x_code M = cc) (hd : decode cc pc = .ok (.iconst n, 1)) : x_run M pc ls st h = x_run M (pc + 1) ls (.int (q_i n) :: st) h := by
  rw [xe_K hc hd (Or.inl rfl)]
  rfl
theorem xe_bipush {n : Int} (hc : x_code M = cc) (hd : decode cc pc = .ok (.bipush n, 2)) (hv : (Int8.ofInt n).toInt32 = q_i n) : x_run M pc ls st h = x_run M (pc + 2) ls (.int (q_i n) :: st) h := by
  rw [xe_K hc hd (Or.inl rfl)]
  rw [← hv]
  rfl
theorem xe_sipush {n : Int} (hc : x_code M = cc) (hd : decode cc pc = .ok (.sipush n, 3)) (hv : (Int16.ofInt n).toInt32 = q_i n) : x_run M pc ls st h = x_run M (pc + 3) ls (.int (q_i n) :: st) h := by
  rw [xe_K hc hd (Or.inl rfl)]
  rw [← hv]
  rfl
theorem xe_lconst {n : Fin 2} (hc : x_code M = cc) (hd : decode cc pc = .ok (.lconst n, 1)) : x_run M pc ls st h = x_run M (pc + 1) ls (.long (Int64.ofNat (n : Nat)) :: st) h := by
  rw [xe_K hc hd (Or.inl rfl)]
  rfl
theorem xe_fconst (hc : x_code M = cc) (hd : decode cc pc = .ok (.fconst 0, 1)) : x_run M pc ls st h = x_run M (pc + 1) ls (.float FP.fconst0 :: st) h := by
  rw [xe_K hc hd (Or.inl rfl)]
  rfl
theorem xe_ldc {i : Nat} {z : Int} (hc : x_code M = cc) (hd : decode cc pc = .ok (.ldc i, 2)) (hk : x_lk x_ktab (M / 100) i = some (q_i z)) : x_run M pc ls st h = x_run M (pc + 2) ls (.int (q_i z) :: st) h := by
  rw [xe_K hc hd (Or.inl rfl)]
  show q_K M pc ls h (Option.or (match x_lk x_ktab (M / 100) i with
    | some v => x_push (pc + 2) ls st h (.int v)
    | none => _) none) = _
  rw [hk]
  rfl
theorem xe_ldc2 {i : Nat} {u : UInt64} (hc : x_code M = cc) (hd : decode cc pc = .ok (.ldc2_w i, 3)) (hk : x_lk x_dtab (M / 100) i = some u) : x_run M pc ls st h = x_run M (pc + 3) ls (.double u :: st) h := by
  rw [xe_K hc hd (Or.inl rfl)]
  show q_K M pc ls h (Option.or (match x_lk x_dtab (M / 100) i with
    | some v => x_push (pc + 3) ls st h (.double v)
    | none => none) none) = _
  rw [hk]
  rfl
theorem xe_iinc {n : Int} (hc : x_code M = cc) (hd : decode cc pc = .ok (.iinc k n, 3)) : x_run M pc ls st h = q_gi ls k (fun v => if x_nd ls k = true then x_run M (pc + 3) (ls.set k (.int (v + q_i n))) st h else none) := by
  rw [xe_K hc hd (Or.inl rfl)]
  show q_K M pc ls h ((x_inc (pc + 3) k n ls st h).or none) = _
  unfold x_inc q_gi
  generalize ls[k]? = o
  rcases o with _ | v
  · rfl
  · cases v <;> first | rfl | (dsimp only; split <;> rfl)
theorem xe_iadd (hc : x_code M = cc) (hd : decode cc pc = .ok (.iadd, 1)) : x_run M pc ls (.int y :: .int x :: st) h = x_run M (pc + 1) ls (.int (x + y) :: st) h := by
  rw [xe_K hc hd (Or.inl rfl)]
  rfl
theorem xe_isub (hc : x_code M = cc) (hd : decode cc pc = .ok (.isub, 1)) : x_run M pc ls (.int y :: .int x :: st) h = x_run M (pc + 1) ls (.int (x - y) :: st) h := by
  rw [xe_K hc hd (Or.inl rfl)]
  rfl
theorem xe_imul (hc : x_code M = cc) (hd : decode cc pc = .ok (.imul, 1)) : x_run M pc ls (.int y :: .int x :: st) h = x_run M (pc + 1) ls (.int (x * y) :: st) h := by
  rw [xe_K hc hd (Or.inl rfl)]
  rfl
theorem xe_iand (hc : x_code M = cc) (hd : decode cc pc = .ok (.iand, 1)) : x_run M pc ls (.int y :: .int x :: st) h = x_run M (pc + 1) ls (.int (x &&& y) :: st) h := by
  rw [xe_K hc hd (Or.inl rfl)]
  rfl
theorem xe_ior (hc : x_code M = cc) (hd : decode cc pc = .ok (.ior, 1)) : x_run M pc ls (.int y :: .int x :: st) h = x_run M (pc + 1) ls (.int (x ||| y) :: st) h := by
  rw [xe_K hc hd (Or.inl rfl)]
  rfl
theorem xe_ishl (hc : x_code M = cc) (hd : decode cc pc = .ok (.ishl, 1)) : x_run M pc ls (.int y :: .int x :: st) h = x_run M (pc + 1) ls (.int (x <<< (y &&& 31)) :: st) h := by
  rw [xe_K hc hd (Or.inl rfl)]
  rfl
theorem xe_ishr (hc : x_code M = cc) (hd : decode cc pc = .ok (.ishr, 1)) : x_run M pc ls (.int y :: .int x :: st) h = x_run M (pc + 1) ls (.int (x >>> (y &&& 31)) :: st) h := by
  rw [xe_K hc hd (Or.inl rfl)]
  rfl
theorem xe_idiv (hc : x_code M = cc) (hd : decode cc pc = .ok (.idiv, 1)) : x_run M pc ls (.int y :: .int x :: st) h = if y = 0 then none else x_run M (pc + 1) ls (.int (x / y) :: st) h := by
  rw [xe_K hc hd (Or.inl rfl)]
  show q_K M pc ls h ((if y = 0 then none else x_go (pc + 1) ls (.int (x / y) :: st) h).or none) = _
  split <;> rfl
theorem xe_irem (hc : x_code M = cc) (hd : decode cc pc = .ok (.irem, 1)) : x_run M pc ls (.int y :: .int x :: st) h = if y = 0 then none else x_run M (pc + 1) ls (.int (x - (x / y) * y) :: st) h := by
  rw [xe_K hc hd (Or.inl rfl)]
  show q_K M pc ls h ((if y = 0 then none else x_go (pc + 1) ls (.int (x - (x / y) * y) :: st) h).or none) = _
  split <;> rfl
theorem xe_i2l (hc : x_code M = cc) (hd : decode cc pc = .ok (.i2l, 1)) : x_run M pc ls (.int x :: st) h = x_run M (pc + 1) ls (.long x.toInt64 :: st) h := by
  rw [xe_K hc hd (Or.inl rfl)]
  rfl
theorem xe_i2c (hc : x_code M = cc) (hd : decode cc pc = .ok (.i2c, 1)) : x_run M pc ls (.int x :: st) h = x_run M (pc + 1) ls (.int (x.toUInt32 % 65536).toInt32 :: st) h := by
  rw [xe_K hc hd (Or.inl rfl)]
  rfl
theorem xe_i2f (hc : x_code M = cc) (hd : decode cc pc = .ok (.i2f, 1)) : x_run M pc ls (.int x :: st) h = x_run M (pc + 1) ls (.float (FP.i2f x) :: st) h := by
  rw [xe_K hc hd (Or.inl rfl)]
  rfl
theorem xe_i2d (hc : x_code M = cc) (hd : decode cc pc = .ok (.i2d, 1)) : x_run M pc ls (.int x :: st) h = x_run M (pc + 1) ls (.double (FP.i2d x) :: st) h := by
  rw [xe_K hc hd (Or.inl rfl)]
  rfl
theorem xe_if_eq {off : Int} {t : Nat} (hc : x_code M = cc) (hd : decode cc pc = .ok (.ifCond .eq off, 3)) (hj : x_bj pc off = some t) : x_run M pc ls (.int x :: st) h = if x = 0 then x_run M t ls st h else x_run M (pc + 3) ls st h := by
  rw [xe_K hc hd (Or.inl rfl)]
  show q_K M pc ls h ((x_if1 (fun x => decide (x = 0)) pc (pc + 3) off ls (.int x :: st) h).or none) = _
  unfold x_if1
  dsimp only
  rw [hj]
  dsimp only
  by_cases hP : x = 0
  · rw [if_pos hP, if_pos (decide_eq_true hP)]
    rfl
  · rw [if_neg hP, if_neg (by simpa using hP)]
    rfl
theorem xe_if_ne {off : Int} {t : Nat} (hc : x_code M = cc) (hd : decode cc pc = .ok (.ifCond .ne off, 3)) (hj : x_bj pc off = some t) : x_run M pc ls (.int x :: st) h = if ¬ x = 0 then x_run M t ls st h else x_run M (pc + 3) ls st h := by
  rw [xe_K hc hd (Or.inl rfl)]
  show q_K M pc ls h ((x_if1 (fun x => decide (¬ x = 0)) pc (pc + 3) off ls (.int x :: st) h).or none) = _
  unfold x_if1
  dsimp only
  rw [hj]
  dsimp only
  by_cases hP : ¬ x = 0
  · rw [if_pos hP, if_pos (decide_eq_true hP)]
    rfl
  · rw [if_neg hP, if_neg (by simpa using hP)]
    rfl
theorem xe_if_lt {off : Int} {t : Nat} (hc : x_code M = cc) (hd : decode cc pc = .ok (.ifCond .lt off, 3)) (hj : x_bj pc off = some t) : x_run M pc ls (.int x :: st) h = if x < 0 then x_run M t ls st h else x_run M (pc + 3) ls st h := by
  rw [xe_K hc hd (Or.inl rfl)]
  show q_K M pc ls h ((x_if1 (fun x => decide (x < 0)) pc (pc + 3) off ls (.int x :: st) h).or none) = _
  unfold x_if1
  dsimp only
  rw [hj]
  dsimp only
  by_cases hP : x < 0
  · rw [if_pos hP, if_pos (decide_eq_true hP)]
    rfl
  · rw [if_neg hP, if_neg (by simpa using hP)]
    rfl
theorem xe_if_ge {off : Int} {t : Nat} (hc : x_code M = cc) (hd : decode cc pc = .ok (.ifCond .ge off, 3)) (hj : x_bj pc off = some t) : x_run M pc ls (.int x :: st) h = if 0 ≤ x then x_run M t ls st h else x_run M (pc + 3) ls st h := by
  rw [xe_K hc hd (Or.inl rfl)]
  show q_K M pc ls h ((x_if1 (fun x => decide (0 ≤ x)) pc (pc + 3) off ls (.int x :: st) h).or none) = _
  unfold x_if1
  dsimp only
  rw [hj]
  dsimp only
  by_cases hP : 0 ≤ x
  · rw [if_pos hP, if_pos (decide_eq_true hP)]
    rfl
  · rw [if_neg hP, if_neg (by simpa using hP)]
    rfl
theorem xe_if_gt {off : Int} {t : Nat} (hc : x_code M = cc) (hd : decode cc pc = .ok (.ifCond .gt off, 3)) (hj : x_bj pc off = some t) : x_run M pc ls (.int x :: st) h = if 0 < x then x_run M t ls st h else x_run M (pc + 3) ls st h := by
  rw [xe_K hc hd (Or.inl rfl)]
  show q_K M pc ls h ((x_if1 (fun x => decide (0 < x)) pc (pc + 3) off ls (.int x :: st) h).or none) = _
  unfold x_if1
  dsimp only
  rw [hj]
  dsimp only
  by_cases hP : 0 < x
  · rw [if_pos hP, if_pos (decide_eq_true hP)]
    rfl
  · rw [if_neg hP, if_neg (by simpa using hP)]
    rfl
theorem xe_if_le {off : Int} {t : Nat} (hc : x_code M = cc) (hd : decode cc pc = .ok (.ifCond .le off, 3)) (hj : x_bj pc off = some t) : x_run M pc ls (.int x :: st) h = if x ≤ 0 then x_run M t ls st h else x_run M (pc + 3) ls st h := by
  rw [xe_K hc hd (Or.inl rfl)]
  show q_K M pc ls h ((x_if1 (fun x => decide (x ≤ 0)) pc (pc + 3) off ls (.int x :: st) h).or none) = _
  unfold x_if1
  dsimp only
  rw [hj]
  dsimp only
  by_cases hP : x ≤ 0
  · rw [if_pos hP, if_pos (decide_eq_true hP)]
    rfl
  · rw [if_neg hP, if_neg (by simpa using hP)]
    rfl
theorem xe_ic_eq {off : Int} {t : Nat} (hc : x_code M = cc) (hd : decode cc pc = .ok (.if_icmp .eq off, 3)) (hj : x_bj pc off = some t) : x_run M pc ls (.int y :: .int x :: st) h = if x = y then x_run M t ls st h else x_run M (pc + 3) ls st h := by
  rw [xe_K hc hd (Or.inl rfl)]
  show q_K M pc ls h ((x_if2 (fun x y => decide (x = y)) pc (pc + 3) off ls (.int y :: .int x :: st) h).or none) = _
  unfold x_if2
  dsimp only
  rw [hj]
  dsimp only
  by_cases hP : x = y
  · rw [if_pos hP, if_pos (decide_eq_true hP)]
    rfl
  · rw [if_neg hP, if_neg (by simpa using hP)]
    rfl
theorem xe_ic_ne {off : Int} {t : Nat} (hc : x_code M = cc) (hd : decode cc pc = .ok (.if_icmp .ne off, 3)) (hj : x_bj pc off = some t) : x_run M pc ls (.int y :: .int x :: st) h = if ¬ x = y then x_run M t ls st h else x_run M (pc + 3) ls st h := by
  rw [xe_K hc hd (Or.inl rfl)]
  show q_K M pc ls h ((x_if2 (fun x y => decide (¬ x = y)) pc (pc + 3) off ls (.int y :: .int x :: st) h).or none) = _
  unfold x_if2
  dsimp only
  rw [hj]
  dsimp only
  by_cases hP : ¬ x = y
  · rw [if_pos hP, if_pos (decide_eq_true hP)]
    rfl
  · rw [if_neg hP, if_neg (by simpa using hP)]
    rfl
theorem xe_ic_lt {off : Int} {t : Nat} (hc : x_code M = cc) (hd : decode cc pc = .ok (.if_icmp .lt off, 3)) (hj : x_bj pc off = some t) : x_run M pc ls (.int y :: .int x :: st) h = if x < y then x_run M t ls st h else x_run M (pc + 3) ls st h := by
  rw [xe_K hc hd (Or.inl rfl)]
  show q_K M pc ls h ((x_if2 (fun x y => decide (x < y)) pc (pc + 3) off ls (.int y :: .int x :: st) h).or none) = _
  unfold x_if2
  dsimp only
  rw [hj]
  dsimp only
  by_cases hP : x < y
  · rw [if_pos hP, if_pos (decide_eq_true hP)]
    rfl
  · rw [if_neg hP, if_neg (by simpa using hP)]
    rfl
theorem xe_ic_ge {off : Int} {t : Nat} (hc : x_code M = cc) (hd : decode cc pc = .ok (.if_icmp .ge off, 3)) (hj : x_bj pc off = some t) : x_run M pc ls (.int y :: .int x :: st) h = if y ≤ x then x_run M t ls st h else x_run M (pc + 3) ls st h := by
  rw [xe_K hc hd (Or.inl rfl)]
  show q_K M pc ls h ((x_if2 (fun x y => decide (y ≤ x)) pc (pc + 3) off ls (.int y :: .int x :: st) h).or none) = _
  unfold x_if2
  dsimp only
  rw [hj]
  dsimp only
  by_cases hP : y ≤ x
  · rw [if_pos hP, if_pos (decide_eq_true hP)]
    rfl
  · rw [if_neg hP, if_neg (by simpa using hP)]
    rfl
theorem xe_ic_gt {off : Int} {t : Nat} (hc : x_code M = cc) (hd : decode cc pc = .ok (.if_icmp .gt off, 3)) (hj : x_bj pc off = some t) : x_run M pc ls (.int y :: .int x :: st) h = if y < x then x_run M t ls st h else x_run M (pc + 3) ls st h := by
  rw [xe_K hc hd (Or.inl rfl)]
  show q_K M pc ls h ((x_if2 (fun x y => decide (y < x)) pc (pc + 3) off ls (.int y :: .int x :: st) h).or none) = _
  unfold x_if2
  dsimp only
  rw [hj]
  dsimp only
  by_cases hP : y < x
  · rw [if_pos hP, if_pos (decide_eq_true hP)]
    rfl
  · rw [if_neg hP, if_neg (by simpa using hP)]
    rfl
theorem xe_ic_le {off : Int} {t : Nat} (hc : x_code M = cc) (hd : decode cc pc = .ok (.if_icmp .le off, 3)) (hj : x_bj pc off = some t) : x_run M pc ls (.int y :: .int x :: st) h = if x ≤ y then x_run M t ls st h else x_run M (pc + 3) ls st h := by
  rw [xe_K hc hd (Or.inl rfl)]
  show q_K M pc ls h ((x_if2 (fun x y => decide (x ≤ y)) pc (pc + 3) off ls (.int y :: .int x :: st) h).or none) = _
  unfold x_if2
  dsimp only
  rw [hj]
  dsimp only
  by_cases hP : x ≤ y
  · rw [if_pos hP, if_pos (decide_eq_true hP)]
    rfl
  · rw [if_neg hP, if_neg (by simpa using hP)]
    rfl
theorem xe_goto {off : Int} {t : Nat} (hc : x_code M = cc) (hd : decode cc pc = .ok (.goto off, 3)) (hj : x_bj pc off = some t) : x_run M pc ls st h = x_run M t ls st h := by
  rw [xe_K hc hd (Or.inl rfl)]
  show q_K M pc ls h (Option.or (match x_bj pc off with
    | some t => x_go t ls st h
    | none => none) none) = _
  rw [hj]
  rfl
theorem xe_lcmp {v w : Int64} (hc : x_code M = cc) (hd : decode cc pc = .ok (.lcmp, 1)) : x_run M pc ls (.long v :: .long w :: st) h = x_run M (pc + 1) ls (.int (lg_cmp w v) :: st) h := by
  rw [xe_K hc hd (Or.inl rfl)]
  rfl
theorem xe_fcmp {v w : UInt32} {op : _} (hc : x_code M = cc) (hd : decode cc pc = .ok (.fcmp op, 1)) : x_run M pc ls (.float v :: .float w :: st) h = x_run M (pc + 1) ls (.int (Op.cmpValue (FP.fcmp w v) op) :: st) h := by
  rw [xe_K hc hd (Or.inl rfl)]
  rfl
theorem xe_dcmp {v w : UInt64} {op : _} (hc : x_code M = cc) (hd : decode cc pc = .ok (.dcmp op, 1)) : x_run M pc ls (.double v :: .double w :: st) h = x_run M (pc + 1) ls (.int (Op.cmpValue (FP.dcmp w v) op) :: st) h := by
  rw [xe_K hc hd (Or.inl rfl)]
  rfl
theorem xe_fdiv {v w : UInt32} (hc : x_code M = cc) (hd : decode cc pc = .ok (.fdiv, 1)) : x_run M pc ls (.float v :: .float w :: st) h = if FP.fdiv w v &&& 0x7fffffff ≤ 0x7f800000 then x_run M (pc + 1) ls (.float (FP.fdiv w v) :: st) h else none := by
  rw [xe_K hc hd (Or.inl rfl)]
  show q_K M pc ls h ((if FP.fdiv w v &&& 0x7fffffff ≤ 0x7f800000 then x_go (pc + 1) ls (.float (FP.fdiv w v) :: st) h else none).or none) = _
  split <;> rfl
theorem xe_ddiv {v w : UInt64} (hc : x_code M = cc) (hd : decode cc pc = .ok (.ddiv, 1)) : x_run M pc ls (.double v :: .double w :: st) h = if FP.ddiv w v &&& 0x7fffffffffffffff ≤ 0x7ff0000000000000 then x_run M (pc + 1) ls (.double (FP.ddiv w v) :: st) h else none := by
  rw [xe_K hc hd (Or.inl rfl)]
  show q_K M pc ls h ((if FP.ddiv w v &&& 0x7fffffffffffffff ≤ 0x7ff0000000000000 then x_go (pc + 1) ls (.double (FP.ddiv w v) :: st) h else none).or none) = _
  split <;> rfl
theorem xe_f2d {v : UInt32} (hc : x_code M = cc) (hd : decode cc pc = .ok (.f2d, 1)) : x_run M pc ls (.float v :: st) h = if FP.f2d v &&& 0x7fffffffffffffff ≤ 0x7ff0000000000000 then x_run M (pc + 1) ls (.double (FP.f2d v) :: st) h else none := by
  rw [xe_K hc hd (Or.inl rfl)]
  show q_K M pc ls h ((if FP.f2d v &&& 0x7fffffffffffffff ≤ 0x7ff0000000000000 then x_go (pc + 1) ls (.double (FP.f2d v) :: st) h else none).or none) = _
  split <;> rfl
theorem xe_dup {v : Value} (hc : x_code M = cc) (hd : decode cc pc = .ok (.dup, 1)) (hv : v.category = 1) : x_run M pc ls (v :: st) h = x_run M (pc + 1) ls (v :: v :: st) h := by
  rw [xe_K hc hd (Or.inl rfl)]
  show q_K M pc ls h ((if v.category = 1 then x_go (pc + 1) ls (v :: v :: st) h else none).or none) = _
  rw [if_pos hv]
  rfl
theorem xe_dup2 {v w : Value} (hc : x_code M = cc) (hd : decode cc pc = .ok (.dup2, 1)) (hv : v.category = 1 ∧ w.category = 1) : x_run M pc ls (v :: w :: st) h = x_run M (pc + 1) ls (v :: w :: v :: w :: st) h := by
  rw [xe_K hc hd (Or.inl rfl)]
  show q_K M pc ls h ((if v.category = 1 ∧ w.category = 1 then x_go (pc + 1) ls (v :: w :: v :: w :: st) h else none).or none) = _
  rw [if_pos hv]
  rfl
theorem xe_pop {v : Value} (hc : x_code M = cc) (hd : decode cc pc = .ok (.pop, 1)) (hv : v.category = 1) : x_run M pc ls (v :: st) h = x_run M (pc + 1) ls st h := by
  rw [xe_K hc hd (Or.inl rfl)]
  show q_K M pc ls h ((if v.category = 1 then x_go (pc + 1) ls st h else none).or none) = _
  rw [if_pos hv]
  rfl
theorem xe_iaload (hc : x_code M = cc) (hd : decode cc pc = .ok (.iaload, 1)) : x_run M pc ls (.int x :: .ref a :: st) h = q_ra h a 0 x (fun v => x_run M (pc + 1) ls (.int v :: st) h) := by
  rw [xe_K hc hd (Or.inl rfl)]
  show q_K M pc ls h ((x_ald 0 (pc + 1) ls (.int x :: .ref a :: st) h).or none) = _
  unfold x_ald q_ra
  dsimp only
  generalize h.1 a = o
  rcases o with ⟨t, l⟩ | ⟨t, l⟩
  · dsimp only
    split
    · generalize x_at x l = o2
      cases o2 <;> rfl
    · rfl
  · rfl
theorem xe_baload (hc : x_code M = cc) (hd : decode cc pc = .ok (.baload, 1)) : x_run M pc ls (.int x :: .ref a :: st) h = q_ra h a 1 x (fun v => x_run M (pc + 1) ls (.int v :: st) h) := by
  rw [xe_K hc hd (Or.inl rfl)]
  show q_K M pc ls h ((x_ald 1 (pc + 1) ls (.int x :: .ref a :: st) h).or none) = _
  unfold x_ald q_ra
  dsimp only
  generalize h.1 a = o
  rcases o with ⟨t, l⟩ | ⟨t, l⟩
  · dsimp only
    split
    · generalize x_at x l = o2
      cases o2 <;> rfl
    · rfl
  · rfl
theorem xe_caload (hc : x_code M = cc) (hd : decode cc pc = .ok (.caload, 1)) : x_run M pc ls (.int x :: .ref a :: st) h = q_ra h a 2 x (fun v => x_run M (pc + 1) ls (.int v :: st) h) := by
  rw [xe_K hc hd (Or.inl rfl)]
  show q_K M pc ls h ((x_ald 2 (pc + 1) ls (.int x :: .ref a :: st) h).or none) = _
  unfold x_ald q_ra
  dsimp only
  generalize h.1 a = o
  rcases o with ⟨t, l⟩ | ⟨t, l⟩
  · dsimp only
    split
    · generalize x_at x l = o2
      cases o2 <;> rfl
    · rfl
  · rfl
theorem xe_iastore (hc : x_code M = cc) (hd : decode cc pc = .ok (.iastore, 1)) : x_run M pc ls (.int y :: .int x :: .ref a :: st) h = q_wa h a 0 x y (fun h' => x_run M (pc + 1) ls st h') := by
  rw [xe_K hc hd (Or.inl rfl)]
  show q_K M pc ls h ((x_ast 0 (pc + 1) (fun x => x) ls (.int y :: .int x :: .ref a :: st) h).or none) = _
  unfold x_ast q_wa
  dsimp only
  generalize h.1 a = o
  rcases o with ⟨t, l⟩ | ⟨t, l⟩
  · dsimp only
    split <;> rfl
  · rfl
theorem xe_bastore (hc : x_code M = cc) (hd : decode cc pc = .ok (.bastore, 1)) : x_run M pc ls (.int y :: .int x :: .ref a :: st) h = q_wa h a 1 x (vp_nar .boolean y) (fun h' => x_run M (pc + 1) ls st h') := by
  rw [xe_K hc hd (Or.inl rfl)]
  show q_K M pc ls h ((x_ast 1 (pc + 1) (vp_nar .boolean) ls (.int y :: .int x :: .ref a :: st) h).or none) = _
  unfold x_ast q_wa
  dsimp only
  generalize h.1 a = o
  rcases o with ⟨t, l⟩ | ⟨t, l⟩
  · dsimp only
    split <;> rfl
  · rfl
theorem xe_castore (hc : x_code M = cc) (hd : decode cc pc = .ok (.castore, 1)) : x_run M pc ls (.int y :: .int x :: .ref a :: st) h = q_wa h a 2 x (vp_nar .char y) (fun h' => x_run M (pc + 1) ls st h') := by
  rw [xe_K hc hd (Or.inl rfl)]
  show q_K M pc ls h ((x_ast 2 (pc + 1) (vp_nar .char) ls (.int y :: .int x :: .ref a :: st) h).or none) = _
  unfold x_ast q_wa
  dsimp only
  generalize h.1 a = o
  rcases o with ⟨t, l⟩ | ⟨t, l⟩
  · dsimp only
    split <;> rfl
  · rfl
theorem xe_laload (hc : x_code M = cc) (hd : decode cc pc = .ok (.laload, 1)) : x_run M pc ls (.int x :: .ref a :: st) h = q_rv2 h a 100 x_isL x (fun v => x_run M (pc + 1) ls (v :: st) h) := by
  rw [xe_K hc hd (Or.inl rfl)]
  show q_K M pc ls h ((x_vld 100 x_isL (pc + 1) ls (.int x :: .ref a :: st) h).or none) = _
  unfold x_vld q_rv2
  dsimp only
  generalize h.1 a = o
  rcases o with ⟨t, l⟩ | ⟨t, l⟩
  · rfl
  · dsimp only
    split
    · generalize x_av x l = o2
      cases o2 <;> rfl
    · rfl
theorem xe_daload (hc : x_code M = cc) (hd : decode cc pc = .ok (.daload, 1)) : x_run M pc ls (.int x :: .ref a :: st) h = q_rv2 h a 101 x_isD x (fun v => x_run M (pc + 1) ls (v :: st) h) := by
  rw [xe_K hc hd (Or.inl rfl)]
  show q_K M pc ls h ((x_vld 101 x_isD (pc + 1) ls (.int x :: .ref a :: st) h).or none) = _
  unfold x_vld q_rv2
  dsimp only
  generalize h.1 a = o
  rcases o with ⟨t, l⟩ | ⟨t, l⟩
  · rfl
  · dsimp only
    split
    · generalize x_av x l = o2
      cases o2 <;> rfl
    · rfl
theorem xe_aaload (hc : x_code M = cc) (hd : decode cc pc = .ok (.aaload, 1)) : x_run M pc ls (.int x :: .ref a :: st) h = q_rv2 h a 102 x_isA x (fun v => x_run M (pc + 1) ls (v :: st) h) := by
  rw [xe_K hc hd (Or.inl rfl)]
  show q_K M pc ls h ((x_vld 102 x_isA (pc + 1) ls (.int x :: .ref a :: st) h).or none) = _
  unfold x_vld q_rv2
  dsimp only
  generalize h.1 a = o
  rcases o with ⟨t, l⟩ | ⟨t, l⟩
  · rfl
  · dsimp only
    split
    · generalize x_av x l = o2
      cases o2 <;> rfl
    · rfl
theorem xe_lastore {v : Value} (hc : x_code M = cc) (hd : decode cc pc = .ok (.lastore, 1)) : x_run M pc ls (v :: .int x :: .ref a :: st) h = q_wv h a 100 x_isL x v (fun h' => x_run M (pc + 1) ls st h') := by
  rw [xe_K hc hd (Or.inl rfl)]
  show q_K M pc ls h ((x_vst 100 x_isL (pc + 1) ls (v :: .int x :: .ref a :: st) h).or none) = _
  unfold x_vst q_wv
  dsimp only
  generalize h.1 a = o
  rcases o with ⟨t, l⟩ | ⟨t, l⟩
  · rfl
  · dsimp only
    split <;> rfl
theorem xe_dastore {v : Value} (hc : x_code M = cc) (hd : decode cc pc = .ok (.dastore, 1)) : x_run M pc ls (v :: .int x :: .ref a :: st) h = q_wv h a 101 x_isD x v (fun h' => x_run M (pc + 1) ls st h') := by
  rw [xe_K hc hd (Or.inl rfl)]
  show q_K M pc ls h ((x_vst 101 x_isD (pc + 1) ls (v :: .int x :: .ref a :: st) h).or none) = _
  unfold x_vst q_wv
  dsimp only
  generalize h.1 a = o
  rcases o with ⟨t, l⟩ | ⟨t, l⟩
  · rfl
  · dsimp only
    split <;> rfl
theorem xe_aastore (hc : x_code M = cc) (hd : decode cc pc = .ok (.aastore, 1)) : x_run M pc ls (.ref b :: .int x :: .ref a :: st) h = q_wb h a b x (fun h' => x_run M (pc + 1) ls st h') := by
  rw [xe_K hc hd (Or.inl rfl)]
  show q_K M pc ls h ((x_bst (pc + 1) ls (.ref b :: .int x :: .ref a :: st) h).or none) = _
  unfold x_bst q_wb
  dsimp only
  generalize h.1 a = o
  rcases o with ⟨t, l⟩ | ⟨t, l⟩
  · rfl
  · dsimp only
    split <;> rfl
theorem xe_arraylength (hc : x_code M = cc) (hd : decode cc pc = .ok (.arraylength, 1)) : x_run M pc ls (.ref a :: st) h = q_ln h a (fun v => x_run M (pc + 1) ls (.int v :: st) h) := by
  rw [xe_K hc hd (Or.inl rfl)]
  show q_K M pc ls h ((x_len (pc + 1) ls (.ref a :: st) h).or none) = _
  unfold x_len q_ln
  dsimp only
  generalize h.1 a = o
  rcases o with ⟨t, l⟩ | ⟨t, l⟩
  · dsimp only
    split <;> rfl
  · rfl
theorem xe_newarray_int (hc : x_code M = cc) (hd : decode cc pc = .ok (.newarray .int, 2)) : x_run M pc ls (.int x :: st) h = q_na h x (fun n => .inl (0, List.replicate n 0)) (fun a h' => x_run M (pc + 2) ls (.ref a :: st) h') := by
  rw [xe_K hc hd (Or.inl rfl)]
  show q_K M pc ls h ((x_news 0 (pc + 2) ls (.int x :: st) h (fun n => .inl (0, List.replicate n 0))).or none) = _
  unfold x_news q_na
  dsimp only
  split
  · unfold x_alloc q_al2
    split <;> rfl
  · rfl
theorem xe_newarray_boolean (hc : x_code M = cc) (hd : decode cc pc = .ok (.newarray .boolean, 2)) : x_run M pc ls (.int x :: st) h = q_na h x (fun n => .inl (1, List.replicate n 0)) (fun a h' => x_run M (pc + 2) ls (.ref a :: st) h') := by
  rw [xe_K hc hd (Or.inl rfl)]
  show q_K M pc ls h ((x_news 1 (pc + 2) ls (.int x :: st) h (fun n => .inl (1, List.replicate n 0))).or none) = _
  unfold x_news q_na
  dsimp only
  split
  · unfold x_alloc q_al2
    split <;> rfl
  · rfl
theorem xe_newarray_char (hc : x_code M = cc) (hd : decode cc pc = .ok (.newarray .char, 2)) : x_run M pc ls (.int x :: st) h = q_na h x (fun n => .inl (2, List.replicate n 0)) (fun a h' => x_run M (pc + 2) ls (.ref a :: st) h') := by
  rw [xe_K hc hd (Or.inl rfl)]
  show q_K M pc ls h ((x_news 2 (pc + 2) ls (.int x :: st) h (fun n => .inl (2, List.replicate n 0))).or none) = _
  unfold x_news q_na
  dsimp only
  split
  · unfold x_alloc q_al2
    split <;> rfl
  · rfl
theorem xe_newarray_long (hc : x_code M = cc) (hd : decode cc pc = .ok (.newarray .long, 2)) : x_run M pc ls (.int x :: st) h = q_na h x (fun n => .inr (100, List.replicate n (.long 0))) (fun a h' => x_run M (pc + 2) ls (.ref a :: st) h') := by
  rw [xe_K hc hd (Or.inl rfl)]
  show q_K M pc ls h ((x_news 100 (pc + 2) ls (.int x :: st) h (fun n => .inr (100, List.replicate n (.long 0)))).or none) = _
  unfold x_news q_na
  dsimp only
  split
  · unfold x_alloc q_al2
    split <;> rfl
  · rfl
theorem xe_newarray_double (hc : x_code M = cc) (hd : decode cc pc = .ok (.newarray .double, 2)) : x_run M pc ls (.int x :: st) h = q_na h x (fun n => .inr (101, List.replicate n (.double 0))) (fun a h' => x_run M (pc + 2) ls (.ref a :: st) h') := by
  rw [xe_K hc hd (Or.inl rfl)]
  show q_K M pc ls h ((x_news 101 (pc + 2) ls (.int x :: st) h (fun n => .inr (101, List.replicate n (.double 0)))).or none) = _
  unfold x_news q_na
  dsimp only
  split
  · unfold x_alloc q_al2
    split <;> rfl
  · rfl
theorem xe_anewarray {i : Nat} (hc : x_code M = cc) (hd : decode cc pc = .ok (.anewarray i, 3)) (hk : x_lk x_ctab (M / 100) i = some 2) : x_run M pc ls (.int x :: st) h = q_na h x (fun n => .inr (102, List.replicate n .null)) (fun a h' => x_run M (pc + 3) ls (.ref a :: st) h') := by
  rw [xe_K hc hd (Or.inl rfl)]
  show q_K M pc ls h (Option.or (if x_lk x_ctab (M / 100) i = some 2 then x_news 102 (pc + 3) ls (.int x :: st) h (fun n => .inr (102, List.replicate n .null)) else none) none) = _
  rw [if_pos hk]
  unfold x_news q_na
  dsimp only
  split
  · unfold x_alloc q_al2
    split <;> rfl
  · rfl
theorem xe_new {i ci : Nat} (hc : x_code M = cc) (hd : decode cc pc = .ok (.new i, 3)) (hk : x_lk x_ctab (M / 100) i = some ci) : x_run M pc ls st h = q_al2 h (.inr (ci, x_defs ci)) (x_N ci) (fun a h' => x_run M (pc + 3) ls (.ref a :: st) h') := by
  rw [xe_K hc hd (Or.inl rfl)]
  show q_K M pc ls h (Option.or (match x_lk x_ctab (M / 100) i with
    | some ci => x_alloc h (pc + 3) ls st (.inr (ci, x_defs ci)) (x_N ci)
    | none => match x_tth M pc with
      | some E => if x_wt st ≤ 8 ∧ h.2.1 ≤ h.2.2.1 then x_thr E h else none
      | none => none) none) = _
  rw [hk]
  dsimp only
  unfold x_alloc q_al2
  split <;> rfl
theorem xe_newthrow {i : Nat} {E : String} (hc : x_code M = cc) (hd : decode cc pc = .ok (.new i, 3)) (hk : x_lk x_ctab (M / 100) i = none) (ht : x_tth M pc = some E) : x_run M pc ls st h = if x_wt st ≤ 8 ∧ h.2.1 ≤ h.2.2.1 then some (.inr E, (h.1, h.2.1, h.2.2.1 + 1, h.2.2.2 + 6)) else none := by
  rw [xe_K hc hd (Or.inl rfl)]
  show q_K M pc ls h (Option.or (match x_lk x_ctab (M / 100) i with
    | some ci => x_alloc h (pc + 3) ls st (.inr (ci, x_defs ci)) (x_N ci)
    | none => match x_tth M pc with
      | some E => if x_wt st ≤ 8 ∧ h.2.1 ≤ h.2.2.1 then x_thr E h else none
      | none => none) none) = _
  rw [hk]
  dsimp only
  rw [ht]
  dsimp only
  split <;> rfl
theorem xe_getfield {i ci k z : Nat} (hc : x_code M = cc) (hd : decode cc pc = .ok (.getfield i, 3)) (hf : x_lk x_ftab (M / 100) i = some (ci, k, z)) : x_run M pc ls (.ref a :: st) h = q_gf h a ci k (fun v => x_run M (pc + 3) ls (v :: st) h) := by
  rw [xe_K hc hd (Or.inl rfl)]
  show q_K M pc ls h ((match x_lk x_ftab (M / 100) i with
    | some q => x_getf q.1 q.2.1 (pc + 3) ls (.ref a :: st) h
    | none => none).or none) = _
  rw [hf]
  dsimp only
  unfold x_getf q_gf
  dsimp only
  generalize h.1 a = o
  rcases o with ⟨t, l⟩ | ⟨t, vs⟩
  · rfl
  · dsimp only
    split
    · generalize vs[k]? = o2
      cases o2 <;> rfl
    · rfl
theorem xe_putfield {i ci k z : Nat} {v : Value} (hc : x_code M = cc) (hd : decode cc pc = .ok (.putfield i, 3)) (hf : x_lk x_ftab (M / 100) i = some (ci, k, z)) (hfin : (x_T ci k).2.2.2 = false ∨ ((x_y M).name = "<init>" ∧ (x_T ci k).1 = x_cn (M / 100))) : x_run M pc ls (v :: .ref a :: st) h = if x_fit (x_ty ci k) v = true then q_pf h a ci k v (fun h' => x_run M (pc + 3) ls st h') else none := by
  rw [xe_K hc hd (Or.inl rfl)]
  show q_K M pc ls h ((match x_lk x_ftab (M / 100) i with
    | some q => x_putf M q.1 q.2.1 (pc + 3) ls (v :: .ref a :: st) h
    | none => none).or none) = _
  rw [hf]
  dsimp only
  unfold x_putf q_pf
  dsimp only
  generalize h.1 a = o
  rcases o with ⟨t, l⟩ | ⟨t, vs⟩
  · dsimp only
    split <;> rfl
  · dsimp only
    by_cases h1 : x_fit (x_ty ci k) v = true
    · rw [if_pos h1]
      by_cases h2 : t = ci ∧ a < h.2.1 ∧ k < vs.length
      · rw [if_pos h2, if_pos ⟨h2.1, h2.2.1, h2.2.2, h1, hfin⟩]
        rfl
      · rw [if_neg h2, if_neg (fun z => h2 ⟨z.1, z.2.1, z.2.2.1⟩)]
        rfl
    · rw [if_neg h1, if_neg (fun z => h1 z.2.2.2.1)]
      rfl
theorem xe_ireturn {ty : FieldType} (hc : x_code M = cc) (hd : decode cc pc = .ok (.ireturn, 1)) (hr : x_ret M = some ty) : x_run M pc ls [.int x] h = if narrow ty (.int x) = .int x then some (.inl (some (.int x)), h) else none := by
  rw [xe_K hc hd (Or.inl rfl)]
  show q_K M pc ls h (Option.or none (match x_ret M with
      | some ty => if narrow ty (.int x) = .int x then x_fin (some (.int x)) h else none
      | none => none)) = _
  rw [hr]
  dsimp only
  split <;> rfl
theorem xe_areturn (hc : x_code M = cc) (hd : decode cc pc = .ok (.areturn, 1)) (hr : x_ret M = some (.object "java/lang/String")) : x_run M pc ls [.ref a] h = some (.inl (some (.ref a)), h) := by
  rw [xe_K hc hd (Or.inl rfl)]
  show q_K M pc ls h (Option.or none (if x_ret M = some (.object "java/lang/String") then x_fin (some (.ref a)) h else none)) = _
  rw [if_pos hr]
  rfl
theorem xe_freturn {v : UInt32} (hc : x_code M = cc) (hd : decode cc pc = .ok (.freturn, 1)) (hr : x_ret M = some .float) : x_run M pc ls [.float v] h = some (.inl (some (.float v)), h) := by
  rw [xe_K hc hd (Or.inl rfl)]
  show q_K M pc ls h (Option.or none (if x_ret M = some .float then x_fin (some (.float v)) h else none)) = _
  rw [if_pos hr]
  rfl
theorem xe_dreturn {v : UInt64} (hc : x_code M = cc) (hd : decode cc pc = .ok (.dreturn, 1)) (hr : x_ret M = some .double) : x_run M pc ls [.double v] h = some (.inl (some (.double v)), h) := by
  rw [xe_K hc hd (Or.inl rfl)]
  show q_K M pc ls h (Option.or none (if x_ret M = some .double then x_fin (some (.double v)) h else none)) = _
  rw [if_pos hr]
  rfl
theorem xe_return (hc : x_code M = cc) (hd : decode cc pc = .ok (.return_, 1)) (hr : x_ret M = none) : x_run M pc ls [] h = some (.inl none, h) := by
  rw [xe_K hc hd (Or.inl rfl)]
  show q_K M pc ls h (Option.or none (if x_ret M = none then x_fin none h else none)) = _
  rw [if_pos hr]
  rfl
end XE
