theorem m804 {a b c : Int} (ha : q_R a) (hb : q_R b) (hc : q_R c) {h : x_H} : x_m 804 [.int (q_i a), .int (q_i b), .int (q_i c)] h = some (.inl (some (.int (q_i (if b ≤ a ∧ a ≤ c then 1 else 0)))), h) := by
  simp only [en804, e804_0, e804_1, e804_2, e804_5, e804_6, e804_7, e804_10, e804_11, e804_14, e804_15, q_gi0, q_gi1, q_gi2, q_lt ha hb, q_lt hc ha, q_narb0, q_narb1, ↓reduceIte]
  by_cases h1 : a < b
  · rw [if_pos h1, if_neg (by omega)]
  · rw [if_neg h1]
    by_cases h2 : c < a
    · rw [if_pos h2, if_neg (by omega)]
    · rw [if_neg h2, if_pos (by omega)]
theorem m809 {a b c : Int} {h : x_H} : x_m 809 [.int (q_i a), .int (q_i b), .int (q_i c)] h = some (.inl (some (.int (q_i (48 * c + 8 * a + b)))), h) := by
  simp only [en809, e809_0, e809_2, e809_3, e809_4, e809_6, e809_7, e809_8, e809_9, e809_10, e809_11, q_gi0, q_gi1, q_gi2, q_add, q_mul, q_nari, ↓reduceIte]
