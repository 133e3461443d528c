theorem q_cnt_0 {P : Nat → Bool} {n : Nat} (h : ∀ i, i < n → P i = false) : q_cnt P n = 0 := by
  induction n with
  | zero => rfl
  | succ n ih =>
    show q_cnt P n + (if P n = true then 1 else 0) = 0
    rw [ih fun i hi => h i (by omega), h n (by omega)]
    rfl
theorem q_W0 : q_W (fun _ => 0) := by
  have hR : q_R 0 := by unfold q_R; omega
  have h0 : (0 : Int) ≤ 0 := by decide
  have h4 : (0 : Int) ≤ 4 := by decide
  have h6 : (0 : Int) ≤ 6 := by decide
  have h5 : (0 : Int) ≤ 5000 := by decide
  have h48 : (0 : Int) < 48 := by decide
  refine ⟨fun _ => hR, ⟨h0, h6⟩, fun _ _ => .inl rfl, fun _ _ => ⟨h0, h4⟩, fun _ _ => .inl rfl, fun _ _ => ⟨h0, h5⟩, fun _ _ _ _ => ⟨h0, h48⟩, fun n k _ h => by dsimp only at h; omega, fun _ _ _ _ _ => rfl, fun _ _ => by dsimp only; omega, fun c n _ _ h => by dsimp only at h; omega, fun _ _ _ => rfl, fun _ _ => ⟨h0, h6, fun h => absurd rfl h⟩⟩
theorem q_Bd0 : q_Bd q_mem0 1 (fun _ => 0) := by
  have e1 : ∀ {P : Nat → Bool} {n : Nat}, (∀ i, i < n → P i = false) → (0 : Int) = (q_cnt P n : Nat) := fun h => by rw [q_cnt_0 h]; rfl
  refine ⟨rfl, e1 fun _ _ => rfl, fun _ _ => rfl, fun _ _ => rfl, fun _ _ => rfl, fun _ _ => rfl, fun n _ => e1 fun _ _ => decide_eq_false (by dsimp only; omega), fun n _ => e1 fun _ _ => decide_eq_false (by dsimp only; omega), fun _ _ => rfl, fun _ _ _ _ => rfl, fun _ _ => rfl, fun c _ => ?_, fun p _ => ?_⟩
  · rw [q_b0]
    · rfl
    · intro h
      have h1 : (2 : Int) ≤ 0 := h.1
      omega
  · rw [q_b0]
    · rfl
    · dsimp only
      omega
theorem q_Iv0 : q_Iv q_mem0 := by
  have e : q_mem0 150 = fun _ => 0 := rfl
  refine ⟨⟨by rw [e]; exact q_W0, by rw [e]; exact q_Bd0, fun _ _ => rfl⟩, ⟨⟨by decide, by decide⟩, rfl, rfl, fun i hi => ?_⟩, ⟨.inl rfl, rfl, fun _ _ => rfl, fun h => ?_⟩, ⟨rfl, rfl, rfl, rfl, by decide, by decide⟩, ⟨rfl, by decide, by decide, fun i hi => ?_⟩, ⟨rfl, by decide, by decide⟩, ⟨rfl, by decide, by decide, fun i hi => ?_⟩, fun _ _ => rfl⟩
  · exfalso
    rw [show q_mem0 23 4 = 0 from rfl] at hi
    omega
  · exfalso
    rw [show q_mem0 23 5 = 0 from rfl] at h
    omega
  · exfalso
    rw [show q_mem0 149 12 = 0 from rfl] at hi
    omega
  · exfalso
    rw [show q_mem0 149 15 = 0 from rfl] at hi
    omega
theorem q_whole {L : Nat} (hL : L ≤ 2560) (xs : Nat → Int32) : ∃ (n : Nat) (h' : x_H), x_exec n 928 0 (x_ent 928 [.ref 10000]) [] (x_h0 L xs) = some (.inl (some (.int 1)), h') ∧ h'.2.2.1 ≤ 603072 ∧ h'.2.2.2 ≤ 7202922 := by
  obtain ⟨k, hk, e⟩ := q_beg (L := L) (xs := xs)
  obtain ⟨m', K', e2, h1, h2⟩ := q_turns (f := fun j => (xs j).toInt) (L := L) (fun i m K => case27) (by omega) (fun j => ⟨Int32.le_toInt _, Int32.toInt_lt _⟩) 513 0 q_mem0 (162, k) .null .null .null .null (by omega) (by omega) q_Iv0 (Nat.le_refl _)
  obtain ⟨n, hn⟩ := x_run_iff.mp (e.trans e2)
  dsimp only at h1 h2
  exact ⟨n, _, hn, by show K'.1 ≤ _; omega, by show K'.2 ≤ _; omega⟩
