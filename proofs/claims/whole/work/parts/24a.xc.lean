def q_rcv (h : x_H) (b c : Nat) : Bool := match h.1 b with
  | .inr (c', _) => decide (b < h.2.1 ∧ c' = c)
  | _ => false
theorem q_recv {M' n b : Nat} {r st : List Value} {h : x_H} (hn : (Value.ref b :: r).length = n) : x_recv M' n ((Value.ref b :: r).reverse ++ st) h = q_rcv h b (M' / 100 + 2) := by
  have h1 : ((Value.ref b :: r).reverse ++ st)[n - 1]? = some (.ref b) := by
    rw [← hn, List.reverse_cons, List.append_assoc, List.length_cons, Nat.add_sub_cancel, List.getElem?_append_right (by rw [List.length_reverse]; exact Nat.le_refl _), List.length_reverse, Nat.sub_self]
    rfl
  unfold x_recv q_rcv
  rw [h1]
  dsimp only
  generalize h.1 b = o
  rcases o with ⟨t, l⟩ | ⟨t, l⟩ <;> rfl
theorem q_args {M' n nx : Nat} {args st : List Value} (hn : args.length = n) : x_args M' n nx (args.reverse ++ st) = if x_wt st ≤ 8 ∧ x_wt args = n then some (.inr (.inr (M', args, nx, st))) else none := by
  have hl : args.reverse.length = n := by rw [List.length_reverse]; exact hn
  have hd : (args.reverse ++ st).drop n = st := by rw [← hl, List.drop_left]
  have ht : (args.reverse ++ st).take n = args.reverse := by rw [← hl, List.take_left]
  unfold x_args
  rw [hd, ht, x_wt_rev, List.reverse_reverse]
  by_cases hc : x_wt st ≤ 8 ∧ x_wt args = n
  · rw [if_pos hc, if_pos ⟨by rw [List.length_append, hl]; omega, hc.1, hc.2⟩]
  · rw [if_neg hc, if_neg (fun z => hc z.2)]
theorem q_callK {M M' n pc nx : Nat} {args st ls : List Value} {h : x_H} (hn : args.length = n) (hh : x_hgt M' < x_hgt M) (ht : x_tm.contains M' = false) :
    q_K M pc ls h ((x_call M M' n nx (args.reverse ++ st)).or none) = if x_wt st ≤ 8 ∧ x_wt args = n then q_cl (x_m M' args h) (fun v h' => x_run M nx ls (v.toList ++ st) h') else none := by
  unfold x_call
  rw [if_pos hh, q_args hn]
  split
  · show (match x_run M' 0 (x_ent M' args) [] h with
      | none => none
      | some (.inl v, h') => x_run M nx ls (v.toList ++ st) h'
      | some (.inr E, h') => if x_tm.contains M' = true then q_ho M pc E h' else none) = _
    unfold q_cl x_m
    generalize x_run M' 0 (x_ent M' args) [] h = o
    rcases o with _ | ⟨v | E, h'⟩
    · rfl
    · rfl
    · dsimp only
      rw [if_neg (by rw [ht]; decide)]
  · rfl
theorem q_callT {M M' n pc nx : Nat} {args st ls : List Value} {h : x_H} (hn : args.length = n) (hh : x_hgt M' < x_hgt M) (ht : x_tm.contains M' = true) :
    q_K M pc ls h ((x_call M M' n nx (args.reverse ++ st)).or none) = if x_wt st ≤ 8 ∧ x_wt args = n then q_ct (x_m M' args h) (q_ho M pc) (fun v h' => x_run M nx ls (v.toList ++ st) h') else none := by
  unfold x_call
  rw [if_pos hh, q_args hn]
  split
  · show (match x_run M' 0 (x_ent M' args) [] h with
      | none => none
      | some (.inl v, h') => x_run M nx ls (v.toList ++ st) h'
      | some (.inr E, h') => if x_tm.contains M' = true then q_ho M pc E h' else none) = _
    unfold q_ct x_m
    generalize x_run M' 0 (x_ent M' args) [] h = o
    rcases o with _ | ⟨v | E, h'⟩
    · rfl
    · rfl
    · dsimp only
      rw [if_pos ht]
  · rfl
section XC
variable {M pc : Nat} {cc : ByteArray} {ls st r args : List Value} {h : x_H} {x : Int32} {a b i M' n kd : Nat}
theorem xe_virt (hc : x_code M = cc) (hd : decode cc pc = .ok (.invokevirtual i, 3)) (hk : x_lk x_itab (M / 100) i = some (0, M', n)) (hn : (Value.ref b :: r).length = n) (hh : x_hgt M' < x_hgt M) (ht : x_tm.contains M' = false) :
    x_run M pc ls ((Value.ref b :: r).reverse ++ st) h = if q_rcv h b (M' / 100 + 2) = true then (if x_wt st ≤ 8 ∧ x_wt (.ref b :: r) = n then q_cl (x_m M' (.ref b :: r) h) (fun v h' => x_run M (pc + 3) ls (v.toList ++ st) h') else none) else none := by
  rw [xe_K hc hd (Or.inl rfl)]
  show q_K M pc ls h (Option.or (match x_lk x_itab (M / 100) i with
    | some q => if q.1 = 0 then (if x_recv q.2.1 q.2.2 ((Value.ref b :: r).reverse ++ st) h = true then x_call M q.2.1 q.2.2 (pc + 3) ((Value.ref b :: r).reverse ++ st) else none) else if q.1 = 7 ∨ q.1 = 8 ∨ q.1 = 9 then (if 5 ≤ x_hgt M then x_str q.1 (pc + 3) ls ((Value.ref b :: r).reverse ++ st) h else none) else none
    | none => none) none) = _
  rw [hk]
  dsimp only
  rw [if_pos rfl]
  rw [q_recv hn]
  by_cases hq : q_rcv h b (M' / 100 + 2) = true
  · rw [if_pos hq, if_pos hq, q_callK hn hh ht]
  · rw [if_neg hq, if_neg hq]
    rfl
theorem xe_virtT (hc : x_code M = cc) (hd : decode cc pc = .ok (.invokevirtual i, 3)) (hk : x_lk x_itab (M / 100) i = some (0, M', n)) (hn : (Value.ref b :: r).length = n) (hh : x_hgt M' < x_hgt M) (ht : x_tm.contains M' = true) :
    x_run M pc ls ((Value.ref b :: r).reverse ++ st) h = if q_rcv h b (M' / 100 + 2) = true then (if x_wt st ≤ 8 ∧ x_wt (.ref b :: r) = n then q_ct (x_m M' (.ref b :: r) h) (q_ho M pc) (fun v h' => x_run M (pc + 3) ls (v.toList ++ st) h') else none) else none := by
  rw [xe_K hc hd (Or.inl rfl)]
  show q_K M pc ls h (Option.or (match x_lk x_itab (M / 100) i with
    | some q => if q.1 = 0 then (if x_recv q.2.1 q.2.2 ((Value.ref b :: r).reverse ++ st) h = true then x_call M q.2.1 q.2.2 (pc + 3) ((Value.ref b :: r).reverse ++ st) else none) else if q.1 = 7 ∨ q.1 = 8 ∨ q.1 = 9 then (if 5 ≤ x_hgt M then x_str q.1 (pc + 3) ls ((Value.ref b :: r).reverse ++ st) h else none) else none
    | none => none) none) = _
  rw [hk]
  dsimp only
  rw [if_pos rfl]
  rw [q_recv hn]
  by_cases hq : q_rcv h b (M' / 100 + 2) = true
  · rw [if_pos hq, if_pos hq, q_callT hn hh ht]
  · rw [if_neg hq, if_neg hq]
    rfl
theorem xe_spec (hc : x_code M = cc) (hd : decode cc pc = .ok (.invokespecial i, 3)) (hk : x_lk x_itab (M / 100) i = some (kd, M', n)) (hkd : kd = 2 ∨ kd = 4) (hn : (Value.ref b :: r).length = n) (hh : x_hgt M' < x_hgt M) (ht : x_tm.contains M' = false) :
    x_run M pc ls ((Value.ref b :: r).reverse ++ st) h = if q_rcv h b (M' / 100 + 2) = true then (if x_wt st ≤ 8 ∧ x_wt (.ref b :: r) = n then q_cl (x_m M' (.ref b :: r) h) (fun v h' => x_run M (pc + 3) ls (v.toList ++ st) h') else none) else none := by
  rw [xe_K hc hd (Or.inl rfl)]
  show q_K M pc ls h (Option.or (match x_lk x_itab (M / 100) i with
    | some q => if q.1 = 2 ∨ q.1 = 4 then (if x_recv q.2.1 q.2.2 ((Value.ref b :: r).reverse ++ st) h = true then x_call M q.2.1 q.2.2 (pc + 3) ((Value.ref b :: r).reverse ++ st) else none) else if q.1 = 5 then (match ((Value.ref b :: r).reverse ++ st) with
      | .ref _ :: r => if x_wt r ≤ 8 then x_go (pc + 3) ls r h else none
      | _ => none) else none
    | none => none) none) = _
  rw [hk]
  dsimp only
  rw [if_pos hkd]
  rw [q_recv hn]
  by_cases hq : q_rcv h b (M' / 100 + 2) = true
  · rw [if_pos hq, if_pos hq, q_callK hn hh ht]
  · rw [if_neg hq, if_neg hq]
    rfl
theorem xe_specT (hc : x_code M = cc) (hd : decode cc pc = .ok (.invokespecial i, 3)) (hk : x_lk x_itab (M / 100) i = some (kd, M', n)) (hkd : kd = 2 ∨ kd = 4) (hn : (Value.ref b :: r).length = n) (hh : x_hgt M' < x_hgt M) (ht : x_tm.contains M' = true) :
    x_run M pc ls ((Value.ref b :: r).reverse ++ st) h = if q_rcv h b (M' / 100 + 2) = true then (if x_wt st ≤ 8 ∧ x_wt (.ref b :: r) = n then q_ct (x_m M' (.ref b :: r) h) (q_ho M pc) (fun v h' => x_run M (pc + 3) ls (v.toList ++ st) h') else none) else none := by
  rw [xe_K hc hd (Or.inl rfl)]
  show q_K M pc ls h (Option.or (match x_lk x_itab (M / 100) i with
    | some q => if q.1 = 2 ∨ q.1 = 4 then (if x_recv q.2.1 q.2.2 ((Value.ref b :: r).reverse ++ st) h = true then x_call M q.2.1 q.2.2 (pc + 3) ((Value.ref b :: r).reverse ++ st) else none) else if q.1 = 5 then (match ((Value.ref b :: r).reverse ++ st) with
      | .ref _ :: r => if x_wt r ≤ 8 then x_go (pc + 3) ls r h else none
      | _ => none) else none
    | none => none) none) = _
  rw [hk]
  dsimp only
  rw [if_pos hkd]
  rw [q_recv hn]
  by_cases hq : q_rcv h b (M' / 100 + 2) = true
  · rw [if_pos hq, if_pos hq, q_callT hn hh ht]
  · rw [if_neg hq, if_neg hq]
    rfl
theorem xe_obj (hc : x_code M = cc) (hd : decode cc pc = .ok (.invokespecial i, 3)) (hk : x_lk x_itab (M / 100) i = some (5, M', n)) : x_run M pc ls (.ref a :: st) h = if x_wt st ≤ 8 then x_run M (pc + 3) ls st h else none := by
  rw [xe_K hc hd (Or.inl rfl)]
  show q_K M pc ls h (Option.or (match x_lk x_itab (M / 100) i with
    | some q => if q.1 = 2 ∨ q.1 = 4 then (if x_recv q.2.1 q.2.2 (.ref a :: st) h = true then x_call M q.2.1 q.2.2 (pc + 3) (.ref a :: st) else none) else if q.1 = 5 then (if x_wt st ≤ 8 then x_go (pc + 3) ls st h else none) else none
    | none => none) none) = _
  rw [hk]
  dsimp only
  rw [if_neg (by decide), if_pos rfl]
  split <;> rfl
theorem xe_stat (hc : x_code M = cc) (hd : decode cc pc = .ok (.invokestatic i, 3)) (hk : x_lk x_itab (M / 100) i = some (kd, M', n)) (hkd : kd = 1 ∨ kd = 3 ∨ kd = 10) (hn : args.length = n) (hh : x_hgt M' < x_hgt M) (ht : x_tm.contains M' = false) :
    x_run M pc ls (args.reverse ++ st) h = if x_wt st ≤ 8 ∧ x_wt args = n then q_cl (x_m M' args h) (fun v h' => x_run M (pc + 3) ls (v.toList ++ st) h') else none := by
  rw [xe_K hc hd (Or.inl rfl)]
  show q_K M pc ls h (Option.or (match x_lk x_itab (M / 100) i with
    | some q => if q.1 = 1 ∨ q.1 = 3 ∨ q.1 = 10 then x_call M q.2.1 q.2.2 (pc + 3) (args.reverse ++ st) else if q.1 = 6 then x_cpy (pc + 3) ls (args.reverse ++ st) h else none
    | none => none) none) = _
  rw [hk]
  dsimp only
  rw [if_pos hkd, q_callK hn hh ht]
theorem xe_cpy {u v w : Int32} (hc : x_code M = cc) (hd : decode cc pc = .ok (.invokestatic i, 3)) (hk : x_lk x_itab (M / 100) i = some (6, M', n)) :
    x_run M pc ls (.int u :: .int v :: .ref a :: .int w :: .ref b :: st) h = match h.1 a, h.1 b with
      | .inl (t, l), .inl (u', g) => if t = 0 ∧ u' = 0 ∧ a < h.2.1 ∧ b < h.2.1 ∧ w = 0 ∧ v = 0 ∧ ¬ u < 0 ∧ u.toNatClampNeg = l.length ∧ u.toNatClampNeg = g.length ∧ x_wt st ≤ 8 then x_run M (pc + 3) ls st (x_up h.1 a (.inl (0, g)), h.2) else none
      | _, _ => none := by
  rw [xe_K hc hd (Or.inl rfl)]
  show q_K M pc ls h (Option.or (match x_lk x_itab (M / 100) i with
    | some q => if q.1 = 1 ∨ q.1 = 3 ∨ q.1 = 10 then x_call M q.2.1 q.2.2 (pc + 3) (.int u :: .int v :: .ref a :: .int w :: .ref b :: st) else if q.1 = 6 then x_cpy (pc + 3) ls (.int u :: .int v :: .ref a :: .int w :: .ref b :: st) h else none
    | none => none) none) = _
  rw [hk]
  dsimp only
  rw [if_neg (by decide), if_pos rfl]
  unfold x_cpy
  dsimp only
  generalize h.1 a = o1
  generalize h.1 b = o2
  rcases o1 with ⟨t, l⟩ | ⟨t, l⟩ <;> rcases o2 with ⟨t', l'⟩ | ⟨t', l'⟩
  · dsimp only
    split <;> rfl
  · rfl
  · rfl
  · rfl
theorem xe_str (hc : x_code M = cc) (hd : decode cc pc = .ok (.invokevirtual i, 3)) (hk : x_lk x_itab (M / 100) i = some (kd, M', n)) (hkd : kd = 7 ∨ kd = 8 ∨ kd = 9) (h5 : 5 ≤ x_hgt M) : x_run M pc ls st h = q_K M pc ls h (x_str kd (pc + 3) ls st h) := by
  rw [xe_K hc hd (Or.inl rfl)]
  show q_K M pc ls h (Option.or (match x_lk x_itab (M / 100) i with
    | some q => if q.1 = 0 then (if x_recv q.2.1 q.2.2 st h = true then x_call M q.2.1 q.2.2 (pc + 3) st else none) else if q.1 = 7 ∨ q.1 = 8 ∨ q.1 = 9 then (if 5 ≤ x_hgt M then x_str q.1 (pc + 3) ls st h else none) else none
    | none => none) none) = _
  rw [hk]
  dsimp only
  rw [if_neg (by omega), if_pos hkd, if_pos h5]
  cases x_str kd (pc + 3) ls st h <;> rfl
theorem xe_tsw {dflt lo hi : Int} {offs : Array Int} {len : Nat} (hc : x_code M = cc) (hd : decode cc pc = .ok (.tableswitch dflt lo hi offs, len)) : x_run M pc ls (.int x :: st) h = q_so pc (x_tsw dflt lo hi offs x) (fun t => x_run M t ls st h) := by
  rw [xe_K hc hd (Or.inr rfl)]
  show q_K M pc ls h (Option.or none (x_sw (x_tsw dflt lo hi offs) pc ls (.int x :: st) h)) = _
  unfold x_sw q_so
  dsimp only
  generalize x_tsw dflt lo hi offs x = o
  rcases o with _ | o
  · rfl
  · dsimp only
    generalize x_bj pc o = o2
    cases o2 <;> rfl
theorem xe_lsw {dflt : Int} {ps : Array (Int × Int)} {len : Nat} (hc : x_code M = cc) (hd : decode cc pc = .ok (.lookupswitch dflt ps, len)) (hs : (ps.toList.zip (ps.toList.drop 1)).all (fun (a, next) => a.1 < next.1) = true) : x_run M pc ls (.int x :: st) h = q_so pc (some (Op.lookupswitch.offset ps.toList dflt x.toInt)) (fun t => x_run M t ls st h) := by
  rw [xe_K hc hd (Or.inr rfl)]
  show q_K M pc ls h (Option.or none (if (ps.toList.zip (ps.toList.drop 1)).all (fun (a, next) => a.1 < next.1) = true then x_sw (fun x => some (Op.lookupswitch.offset ps.toList dflt x.toInt)) pc ls (.int x :: st) h else none)) = _
  rw [if_pos hs]
  unfold x_sw q_so
  dsimp only
  generalize x_bj pc _ = o2
  cases o2 <;> rfl
theorem xe_ldcs {q : Nat} (hc : x_code M = cc) (hd : decode cc pc = .ok (.ldc i, 2)) (hk : x_lk x_ktab (M / 100) i = none) (hM : M / 100 = 2) (hq : (i = 47 ∧ q = 20000) ∨ (i = 49 ∧ q = 20001) ∨ (i = 51 ∧ q = 20002) ∨ (i = 53 ∧ q = 20003)) : x_run M pc ls st h = x_run M (pc + 2) ls (.ref q :: st) h := by
  rw [xe_K hc hd (Or.inl rfl)]
  show q_K M pc ls h (Option.or (match x_lk x_ktab (M / 100) i with
    | some v => x_push (pc + 2) ls st h (.int v)
    | none => if (M / 100) = 2 then (if i = 47 then x_push (pc + 2) ls st h (.ref 20000) else if i = 49 then x_push (pc + 2) ls st h (.ref 20001) else if i = 51 then x_push (pc + 2) ls st h (.ref 20002) else if i = 53 then x_push (pc + 2) ls st h (.ref 20003) else none) else none) none) = _
  rw [hk]
  dsimp only
  rw [if_pos hM]
  rcases hq with ⟨rfl, rfl⟩ | ⟨rfl, rfl⟩ | ⟨rfl, rfl⟩ | ⟨rfl, rfl⟩ <;> rfl
end XC
