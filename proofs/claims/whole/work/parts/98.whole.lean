theorem whole_run {L : Nat} (hL : L ≤ 2560) (xs : Nat → Int32) : ∃ (n : Nat) (h' : x_H), x_exec n 928 0 (x_ent 928 [.ref 10000]) [] (x_h0 L xs) = some (.inl (some (.int 1)), h') ∧ h'.2.2.1 ≤ 603072 ∧ h'.2.2.2 ≤ 7202922 := by
  sorry
theorem whole_start {p : Program} {e : Env} {s : State} {m : MethodId} {below : List Frame} {meth : Method} {c : Code} (l : Launch) (hflags : l.flags = flags0) {b L : Nat} {xs : Nat → Int32} (hL : L ≤ 2560) (C0 : lw_At p s m meth c b L xs) : W p l e room_1 s m #[Value.ref b] below meth c s.heap [] 0 0 (lw_Z below #[Value.ref b] s) (entryFrame m ([Value.ref b] : List Value).toArray 10) := by
  obtain ⟨n, h', h1, h2, h3⟩ := whole_run hL xs
  exact x_start l hflags C0 h1 h2 h3
