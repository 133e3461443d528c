/-- a heap by lists: what was there, and what is new -/
def q_hf (l : List x_E) (s : List Int32) : Nat → x_E := fun a => if a < l.length then l.getD a (.inl (0, [])) else if a = 10000 then .inl (0, s) else .inl (0, [])
def q_HT (l t : List x_E) (k : Nat) (s : List Int32) : x_H := (q_hf (l ++ t) s, (l ++ t).length, (l ++ t).length, k)
section M97x
variable {l t : List x_E} {k : Nat} {s : List Int32}
theorem q_hf_up {l : List x_E} {e : x_E} (h : l.length < 9000) : x_up (q_hf l s) l.length e = q_hf (l ++ [e]) s := by
  funext a
  unfold x_up q_hf
  rw [List.length_append]
  by_cases h1 : a = l.length
  · subst h1
    rw [if_pos rfl, if_pos (by simp)]
    simp [List.getD]
  · rw [if_neg h1]
    by_cases h2 : a < l.length
    · rw [if_pos h2, if_pos (by simp; omega)]
      simp [List.getD, List.getElem?_append, h2]
    · rw [if_neg h2, if_neg (show ¬ a < l.length + [e].length by simp only [List.length_cons, List.length_nil]; omega)]
theorem q_hf_set {l : List x_E} {a : Nat} {e : x_E} (h : a < l.length) : x_up (q_hf l s) a e = q_hf (l.set a e) s := by
  funext b
  unfold x_up q_hf
  rw [List.length_set]
  by_cases h1 : b = a
  · subst h1
    rw [if_pos rfl, if_pos h]
    simp [List.getD, h]
  · rw [if_neg h1]
    by_cases h2 : b < l.length
    · rw [if_pos h2, if_pos h2]
      simp [List.getD, List.getElem?_set, Ne.symm h1]
    · rw [if_neg h2, if_neg h2]
theorem q_hf_at {j : Nat} {e : x_E} (h : t[j]? = some e) : q_hf (l ++ t) s (l.length + j) = e := by
  have hj : j < t.length := by
    by_cases z : j < t.length
    · exact z
    · rw [List.getElem?_eq_none (by omega)] at h
      cases h
  unfold q_hf
  rw [if_pos (by rw [List.length_append]; omega)]
  simp [List.getD, List.getElem?_append, h]
  rw [if_neg (by omega)]
  rfl
theorem ht_al {e : x_E} {n : Nat} {F : Nat → x_H → q_O} (h : (l ++ t).length < 9000) : q_al2 (q_HT l t k s) e n F = F (l ++ t).length (q_HT l (t ++ [e]) (k + n) s) := by
  unfold q_al2 q_HT
  try dsimp only
  rw [if_pos ⟨rfl, h⟩, q_hf_up h, List.append_assoc, show (l ++ t).length + 1 = (l ++ (t ++ [e])).length by simp; omega]
theorem ht_na {e : Nat → x_E} {n : Nat} {F : Nat → x_H → q_O} (h : (l ++ t).length < 9000) (hn : n < 2000) : q_na (q_HT l t k s) (q_i n) e F = F (l ++ t).length (q_HT l (t ++ [e n]) (k + n) s) := by
  unfold q_na
  have e1 : (q_i (n : Int)).toNatClampNeg = n := by
    rw [q_nat (by omega) (by unfold q_R; omega)]
    rfl
  rw [e1, if_pos ⟨by rw [show (0 : Int32) = q_i 0 from rfl, q_lt (by unfold q_R; omega) (by unfold q_R; omega)]; omega, by omega⟩, ht_al h]
theorem ht_lt {j : Nat} {e : x_E} (h : t[j]? = some e) : l.length + j < (l ++ t).length := by
  have hj : j < t.length := by
    by_cases z : j < t.length
    · exact z
    · rw [List.getElem?_eq_none (by omega)] at h
      cases h
  rw [List.length_append]
  omega
theorem ht_set {j : Nat} {e e' : x_E} (h : t[j]? = some e) : (x_up (q_HT l t k s).1 (l.length + j) e', (q_HT l t k s).2) = q_HT l (t.set j e') k s := by
  unfold q_HT
  try dsimp only
  rw [q_hf_set (ht_lt h), List.set_append_right _ _ (by omega), show l.length + j - l.length = j by omega]
  simp
theorem ht_pf {j ci i : Nat} {vs : List Value} {v : Value} {F : x_H → q_O} (h : t[j]? = some (.inr (ci, vs))) (hi : i < vs.length) : q_pf (q_HT l t k s) (l.length + j) ci i v F = F (q_HT l (t.set j (.inr (ci, vs.set i v))) k s) := by
  unfold q_pf
  rw [show (q_HT l t k s).1 (l.length + j) = .inr (ci, vs) from q_hf_at h]
  try dsimp only
  rw [if_pos ⟨rfl, ht_lt h, hi⟩, ht_set h]
theorem ht_gf {j ci i : Nat} {vs : List Value} {v : Value} {F : Value → q_O} (h : t[j]? = some (.inr (ci, vs))) (hv : vs[i]? = some v) : q_gf (q_HT l t k s) (l.length + j) ci i F = F v := by
  unfold q_gf
  rw [show (q_HT l t k s).1 (l.length + j) = .inr (ci, vs) from q_hf_at h]
  try dsimp only
  rw [if_pos ⟨rfl, ht_lt h⟩, hv]
theorem ht_rcv {j ci : Nat} {vs : List Value} (h : t[j]? = some (.inr (ci, vs))) : q_rcv (q_HT l t k s) (l.length + j) ci = true := by
  unfold q_rcv
  rw [show (q_HT l t k s).1 (l.length + j) = .inr (ci, vs) from q_hf_at h]
  try dsimp only
  exact decide_eq_true ⟨ht_lt h, rfl⟩
end M97x
