/-- the memory at the start -/
def q_mem0 (a k : Nat) : Int := if a = 0 then (if k = 7 then -1 else 0) else if a = 149 then (if k = 13 then -1 else 0) else if a % 12 = 10 ∧ (a = 10 ∨ 34 ≤ a ∧ a < 145) then -1 else 0
def q_lst : List x_E := .inr (9, [.ref 1, .ref 13, .ref 21, .ref 22, .ref 23, .ref 145, .ref 147, .int (q_i (-1))]) :: (((q_r7 ++ q_md) ++ [.inr (100, [.long 0])]) ++ [.inr (101, [.double 0])])
theorem q_lst_e : q_lst = (List.range 162).map (fun a => q_tab.getD a (fun _ => .inl (0, [])) (q_mem0 a)) := by decide +kernel
theorem q_HT_0 {k : Nat} {s : List Int32} : q_HT [] q_lst k s = q_H q_mem0 (162, k) s := by
  have hl : q_lst.length = 162 := by decide +kernel
  unfold q_HT q_H
  rw [List.nil_append, hl]
  refine congrArg (fun z => ((z, 162, 162, k) : x_H)) ?_
  funext a
  unfold q_hf
  rw [hl]
  by_cases h : a < 162
  · rw [if_pos h, if_pos h, q_lst_e]
    simp [List.getD, h]
  · rw [if_neg h, if_neg h]
theorem x_h0_e {L : Nat} {xs : Nat → Int32} : x_h0 L xs = q_HT [] [] 0 ((List.range L).map xs) := by
  unfold x_h0 q_HT
  refine congrArg (fun z => ((z, 0, 0, 0) : x_H)) ?_
  funext a
  unfold q_hf
  exact (if_neg (Nat.not_lt_zero a)).symm
theorem q_k_le : q_k7 (0 + x_N 9) + x_N 10 + 2637 + 1 + 1 ≤ 10000 := by decide +kernel
theorem q_beg {L : Nat} {xs : Nat → Int32} : ∃ k, k ≤ 10000 ∧ x_run 928 0 [.ref 10000, .null, .null, .null, .null, .null, .null, .null, .null, .null] [] (x_h0 L xs) = x_run 928 28 [.ref 10000, .ref 0, .ref 149, .ref 160, .ref 161, .int (q_i 0), .null, .null, .null, .null] [] (q_H q_mem0 (162, k) (q_ar L fun j => (xs j).toInt)) := by
  refine ⟨_, q_k_le, ?_⟩
  rw [x_h0_e, k0, k1 q_r7l, ← q_HT_0]
  have e : (List.range L).map xs = q_ar L fun j => (xs j).toInt := by
    unfold q_ar
    congr 1
    funext i
    exact (Int32.ofInt_toInt _).symm
  rw [e]
  rfl
