def q_isB (b : Nat) : Prop := b + 12 ≤ 162 ∧ (q_tab.getD b (fun _ => .inl (0, [])) = fun f => .inr (2, [.int (q_i (f 0)), .int (q_i (f 1)), .ref (b + 1), .ref (b + 2), .ref (b + 3), .ref (b + 4), .ref (b + 5), .ref (b + 6), .ref (b + 7), .ref (b + 8), .ref (b + 9), .ref (b + 10), .ref (b + 11)])) ∧ (q_tab.getD (b + 1) (fun _ => .inl (0, [])) = fun f => .inl (1, q_ar 6 f)) ∧ (q_tab.getD (b + 2) (fun _ => .inl (0, [])) = fun f => .inl (1, q_ar 6 f)) ∧ (q_tab.getD (b + 3) (fun _ => .inl (0, [])) = fun f => .inl (0, q_ar 6 f)) ∧ (q_tab.getD (b + 4) (fun _ => .inl (0, [])) = fun f => .inl (0, q_ar 6 f)) ∧ (q_tab.getD (b + 5) (fun _ => .inl (0, [])) = fun f => .inl (0, q_ar 6 f)) ∧ (q_tab.getD (b + 6) (fun _ => .inl (0, [])) = fun f => .inl (0, q_ar 6 f)) ∧ (q_tab.getD (b + 7) (fun _ => .inl (0, [])) = fun f => .inl (0, q_ar 6 f)) ∧ (q_tab.getD (b + 8) (fun _ => .inl (0, [])) = fun f => .inl (0, q_ar 24 f)) ∧ (q_tab.getD (b + 9) (fun _ => .inl (0, [])) = fun f => .inl (0, q_ar 96 f)) ∧ (q_tab.getD (b + 10) (fun _ => .inl (0, [])) = fun f => .inl (1, q_ar 48 f)) ∧ (q_tab.getD (b + 11) (fun _ => .inl (0, [])) = fun f => .inl (1, q_ar 48 f))
theorem isB1 : q_isB 1 := ⟨by decide, rfl, rfl, rfl, rfl, rfl, rfl, rfl, rfl, rfl, rfl, rfl, rfl⟩
theorem isB25 : q_isB 25 := ⟨by decide, rfl, rfl, rfl, rfl, rfl, rfl, rfl, rfl, rfl, rfl, rfl, rfl⟩
theorem isB37 : q_isB 37 := ⟨by decide, rfl, rfl, rfl, rfl, rfl, rfl, rfl, rfl, rfl, rfl, rfl, rfl⟩
theorem isB49 : q_isB 49 := ⟨by decide, rfl, rfl, rfl, rfl, rfl, rfl, rfl, rfl, rfl, rfl, rfl, rfl⟩
theorem isB61 : q_isB 61 := ⟨by decide, rfl, rfl, rfl, rfl, rfl, rfl, rfl, rfl, rfl, rfl, rfl, rfl⟩
theorem isB73 : q_isB 73 := ⟨by decide, rfl, rfl, rfl, rfl, rfl, rfl, rfl, rfl, rfl, rfl, rfl, rfl⟩
theorem isB85 : q_isB 85 := ⟨by decide, rfl, rfl, rfl, rfl, rfl, rfl, rfl, rfl, rfl, rfl, rfl, rfl⟩
theorem isB97 : q_isB 97 := ⟨by decide, rfl, rfl, rfl, rfl, rfl, rfl, rfl, rfl, rfl, rfl, rfl, rfl⟩
theorem isB109 : q_isB 109 := ⟨by decide, rfl, rfl, rfl, rfl, rfl, rfl, rfl, rfl, rfl, rfl, rfl, rfl⟩
theorem isB121 : q_isB 121 := ⟨by decide, rfl, rfl, rfl, rfl, rfl, rfl, rfl, rfl, rfl, rfl, rfl, rfl⟩
theorem isB133 : q_isB 133 := ⟨by decide, rfl, rfl, rfl, rfl, rfl, rfl, rfl, rfl, rfl, rfl, rfl, rfl⟩
section M47
variable {m : Nat → Nat → Int} {K : Nat × Nat} {s : List Int32} {b : Nat}
theorem hoB (hb : q_isB b) : q_Ob (q_H m K s) b 2 [.int (q_i (m b 0)), .int (q_i (m b 1)), .ref (b + 1), .ref (b + 2), .ref (b + 3), .ref (b + 4), .ref (b + 5), .ref (b + 6), .ref (b + 7), .ref (b + 8), .ref (b + 9), .ref (b + 10), .ref (b + 11)] := ⟨by rw [q_H_at (by have := hb.1; omega), hb.2.1], show b < 162 by have := hb.1; omega⟩
theorem rcB (hb : q_isB b) : q_rcv (q_H m K s) b 2 = true := q_rcv_of (hoB hb)
theorem gfB_0 {F : Value → q_O} (hb : q_isB b) : q_gf (q_H m K s) b 2 0 F = F (.int (q_i (m b 0))) := q_gf_of (hoB hb)
theorem gfB_1 {F : Value → q_O} (hb : q_isB b) : q_gf (q_H m K s) b 2 1 F = F (.int (q_i (m b 1))) := q_gf_of (hoB hb)
theorem gfB_2 {F : Value → q_O} (hb : q_isB b) : q_gf (q_H m K s) b 2 2 F = F (.ref (b + 1)) := q_gf_of (hoB hb)
theorem gfB_3 {F : Value → q_O} (hb : q_isB b) : q_gf (q_H m K s) b 2 3 F = F (.ref (b + 2)) := q_gf_of (hoB hb)
theorem gfB_4 {F : Value → q_O} (hb : q_isB b) : q_gf (q_H m K s) b 2 4 F = F (.ref (b + 3)) := q_gf_of (hoB hb)
theorem gfB_5 {F : Value → q_O} (hb : q_isB b) : q_gf (q_H m K s) b 2 5 F = F (.ref (b + 4)) := q_gf_of (hoB hb)
theorem gfB_6 {F : Value → q_O} (hb : q_isB b) : q_gf (q_H m K s) b 2 6 F = F (.ref (b + 5)) := q_gf_of (hoB hb)
theorem gfB_7 {F : Value → q_O} (hb : q_isB b) : q_gf (q_H m K s) b 2 7 F = F (.ref (b + 6)) := q_gf_of (hoB hb)
theorem gfB_8 {F : Value → q_O} (hb : q_isB b) : q_gf (q_H m K s) b 2 8 F = F (.ref (b + 7)) := q_gf_of (hoB hb)
theorem gfB_9 {F : Value → q_O} (hb : q_isB b) : q_gf (q_H m K s) b 2 9 F = F (.ref (b + 8)) := q_gf_of (hoB hb)
theorem gfB_10 {F : Value → q_O} (hb : q_isB b) : q_gf (q_H m K s) b 2 10 F = F (.ref (b + 9)) := q_gf_of (hoB hb)
theorem gfB_11 {F : Value → q_O} (hb : q_isB b) : q_gf (q_H m K s) b 2 11 F = F (.ref (b + 10)) := q_gf_of (hoB hb)
theorem gfB_12 {F : Value → q_O} (hb : q_isB b) : q_gf (q_H m K s) b 2 12 F = F (.ref (b + 11)) := q_gf_of (hoB hb)
theorem pfB_0 {F : x_H → q_O} {x : Int} (hb : q_isB b) : q_pf (q_H m K s) b 2 0 (.int (q_i x)) F = F (q_H (q_M m b 0 x) K s) := by
  rw [q_pf_of (hoB hb) (show 0 < 13 by decide)]
  exact congrArg F (q_H_up (by have := hb.1; omega) (by rw [hb.2.1]; simp [q_M]))
theorem pfB_1 {F : x_H → q_O} {x : Int} (hb : q_isB b) : q_pf (q_H m K s) b 2 1 (.int (q_i x)) F = F (q_H (q_M m b 1 x) K s) := by
  rw [q_pf_of (hoB hb) (show 1 < 13 by decide)]
  exact congrArg F (q_H_up (by have := hb.1; omega) (by rw [hb.2.1]; simp [q_M]))
theorem hAB1 (hb : q_isB b) : q_A (q_H m K s) (b + 1) 1 6 (m (b + 1)) := q_A_H (by have := hb.1; omega) hb.2.2.1
theorem raB1 {F : Int32 → q_O} {i : Int} (hb : q_isB b) (h0 : 0 ≤ i) (h1 : i < 6) : q_ra (q_H m K s) (b + 1) 1 (q_i i) F = F (q_i (m (b + 1) i.toNat)) := q_rH (hAB1 hb) (by decide) h0 h1
theorem waB1 {F : x_H → q_O} {i x : Int} (hb : q_isB b) (h0 : 0 ≤ i) (h1 : i < 6) : q_wa (q_H m K s) (b + 1) 1 (q_i i) (q_i x) F = F (q_H (q_M m (b + 1) i.toNat x) K s) := q_wH (by have := hb.1; omega) hb.2.2.1 (by decide) h0 h1
theorem hAB2 (hb : q_isB b) : q_A (q_H m K s) (b + 2) 1 6 (m (b + 2)) := q_A_H (by have := hb.1; omega) hb.2.2.2.1
theorem raB2 {F : Int32 → q_O} {i : Int} (hb : q_isB b) (h0 : 0 ≤ i) (h1 : i < 6) : q_ra (q_H m K s) (b + 2) 1 (q_i i) F = F (q_i (m (b + 2) i.toNat)) := q_rH (hAB2 hb) (by decide) h0 h1
theorem waB2 {F : x_H → q_O} {i x : Int} (hb : q_isB b) (h0 : 0 ≤ i) (h1 : i < 6) : q_wa (q_H m K s) (b + 2) 1 (q_i i) (q_i x) F = F (q_H (q_M m (b + 2) i.toNat x) K s) := q_wH (by have := hb.1; omega) hb.2.2.2.1 (by decide) h0 h1
theorem hAB3 (hb : q_isB b) : q_A (q_H m K s) (b + 3) 0 6 (m (b + 3)) := q_A_H (by have := hb.1; omega) hb.2.2.2.2.1
theorem wrB3 (hb : q_isB b) (f : Nat → Int) : q_wr (q_H m K s) (b + 3) 0 6 f = q_H (q_P m (b + 3) f) K s := q_wr_P (by have := hb.1; omega) hb.2.2.2.2.1
theorem hAB4 (hb : q_isB b) : q_A (q_H m K s) (b + 4) 0 6 (m (b + 4)) := q_A_H (by have := hb.1; omega) hb.2.2.2.2.2.1
theorem wrB4 (hb : q_isB b) (f : Nat → Int) : q_wr (q_H m K s) (b + 4) 0 6 f = q_H (q_P m (b + 4) f) K s := q_wr_P (by have := hb.1; omega) hb.2.2.2.2.2.1
theorem hAB5 (hb : q_isB b) : q_A (q_H m K s) (b + 5) 0 6 (m (b + 5)) := q_A_H (by have := hb.1; omega) hb.2.2.2.2.2.2.1
theorem wrB5 (hb : q_isB b) (f : Nat → Int) : q_wr (q_H m K s) (b + 5) 0 6 f = q_H (q_P m (b + 5) f) K s := q_wr_P (by have := hb.1; omega) hb.2.2.2.2.2.2.1
theorem hAB6 (hb : q_isB b) : q_A (q_H m K s) (b + 6) 0 6 (m (b + 6)) := q_A_H (by have := hb.1; omega) hb.2.2.2.2.2.2.2.1
theorem wrB6 (hb : q_isB b) (f : Nat → Int) : q_wr (q_H m K s) (b + 6) 0 6 f = q_H (q_P m (b + 6) f) K s := q_wr_P (by have := hb.1; omega) hb.2.2.2.2.2.2.2.1
theorem hAB7 (hb : q_isB b) : q_A (q_H m K s) (b + 7) 0 6 (m (b + 7)) := q_A_H (by have := hb.1; omega) hb.2.2.2.2.2.2.2.2.1
theorem wrB7 (hb : q_isB b) (f : Nat → Int) : q_wr (q_H m K s) (b + 7) 0 6 f = q_H (q_P m (b + 7) f) K s := q_wr_P (by have := hb.1; omega) hb.2.2.2.2.2.2.2.2.1
theorem hAB8 (hb : q_isB b) : q_A (q_H m K s) (b + 8) 0 24 (m (b + 8)) := q_A_H (by have := hb.1; omega) hb.2.2.2.2.2.2.2.2.2.1
theorem wrB8 (hb : q_isB b) (f : Nat → Int) : q_wr (q_H m K s) (b + 8) 0 24 f = q_H (q_P m (b + 8) f) K s := q_wr_P (by have := hb.1; omega) hb.2.2.2.2.2.2.2.2.2.1
theorem hAB9 (hb : q_isB b) : q_A (q_H m K s) (b + 9) 0 96 (m (b + 9)) := q_A_H (by have := hb.1; omega) hb.2.2.2.2.2.2.2.2.2.2.1
theorem wrB9 (hb : q_isB b) (f : Nat → Int) : q_wr (q_H m K s) (b + 9) 0 96 f = q_H (q_P m (b + 9) f) K s := q_wr_P (by have := hb.1; omega) hb.2.2.2.2.2.2.2.2.2.2.1
theorem hAB10 (hb : q_isB b) : q_A (q_H m K s) (b + 10) 1 48 (m (b + 10)) := q_A_H (by have := hb.1; omega) hb.2.2.2.2.2.2.2.2.2.2.2.1
theorem raB10 {F : Int32 → q_O} {i : Int} (hb : q_isB b) (h0 : 0 ≤ i) (h1 : i < 48) : q_ra (q_H m K s) (b + 10) 1 (q_i i) F = F (q_i (m (b + 10) i.toNat)) := q_rH (hAB10 hb) (by decide) h0 h1
theorem waB10 {F : x_H → q_O} {i x : Int} (hb : q_isB b) (h0 : 0 ≤ i) (h1 : i < 48) : q_wa (q_H m K s) (b + 10) 1 (q_i i) (q_i x) F = F (q_H (q_M m (b + 10) i.toNat x) K s) := q_wH (by have := hb.1; omega) hb.2.2.2.2.2.2.2.2.2.2.2.1 (by decide) h0 h1
theorem hAB11 (hb : q_isB b) : q_A (q_H m K s) (b + 11) 1 48 (m (b + 11)) := q_A_H (by have := hb.1; omega) hb.2.2.2.2.2.2.2.2.2.2.2.2
theorem raB11 {F : Int32 → q_O} {i : Int} (hb : q_isB b) (h0 : 0 ≤ i) (h1 : i < 48) : q_ra (q_H m K s) (b + 11) 1 (q_i i) F = F (q_i (m (b + 11) i.toNat)) := q_rH (hAB11 hb) (by decide) h0 h1
theorem waB11 {F : x_H → q_O} {i x : Int} (hb : q_isB b) (h0 : 0 ≤ i) (h1 : i < 48) : q_wa (q_H m K s) (b + 11) 1 (q_i i) (q_i x) F = F (q_H (q_M m (b + 11) i.toNat x) K s) := q_wH (by have := hb.1; omega) hb.2.2.2.2.2.2.2.2.2.2.2.2 (by decide) h0 h1
theorem c1_104 {ls : List Value} {o : Nat} (hb : q_isB b) (ho : q_isB o) : x_run 1 104 ls [.int (q_i 6), .int (q_i 0), .ref (b + 3), .int (q_i 0), .ref (o + 3)] (q_H m K s) = x_run 1 107 ls [] (q_H (q_P m (b + 3) (m (o + 3))) K s) := by
  rw [e1_104, (hAB3 hb).1, (hAB3 ho).1]
  try dsimp only
  rw [if_pos ⟨rfl, rfl, (hAB3 hb).2, (hAB3 ho).2, rfl, rfl, by decide, by rw [q_ar_len]; decide, by rw [q_ar_len]; decide, by decide⟩]
  rw [← wrB3 hb]
  rfl
theorem c1_119 {ls : List Value} {o : Nat} (hb : q_isB b) (ho : q_isB o) : x_run 1 119 ls [.int (q_i 6), .int (q_i 0), .ref (b + 4), .int (q_i 0), .ref (o + 4)] (q_H m K s) = x_run 1 122 ls [] (q_H (q_P m (b + 4) (m (o + 4))) K s) := by
  rw [e1_119, (hAB4 hb).1, (hAB4 ho).1]
  try dsimp only
  rw [if_pos ⟨rfl, rfl, (hAB4 hb).2, (hAB4 ho).2, rfl, rfl, by decide, by rw [q_ar_len]; decide, by rw [q_ar_len]; decide, by decide⟩]
  rw [← wrB4 hb]
  rfl
theorem c1_134 {ls : List Value} {o : Nat} (hb : q_isB b) (ho : q_isB o) : x_run 1 134 ls [.int (q_i 6), .int (q_i 0), .ref (b + 5), .int (q_i 0), .ref (o + 5)] (q_H m K s) = x_run 1 137 ls [] (q_H (q_P m (b + 5) (m (o + 5))) K s) := by
  rw [e1_134, (hAB5 hb).1, (hAB5 ho).1]
  try dsimp only
  rw [if_pos ⟨rfl, rfl, (hAB5 hb).2, (hAB5 ho).2, rfl, rfl, by decide, by rw [q_ar_len]; decide, by rw [q_ar_len]; decide, by decide⟩]
  rw [← wrB5 hb]
  rfl
theorem c1_149 {ls : List Value} {o : Nat} (hb : q_isB b) (ho : q_isB o) : x_run 1 149 ls [.int (q_i 6), .int (q_i 0), .ref (b + 6), .int (q_i 0), .ref (o + 6)] (q_H m K s) = x_run 1 152 ls [] (q_H (q_P m (b + 6) (m (o + 6))) K s) := by
  rw [e1_149, (hAB6 hb).1, (hAB6 ho).1]
  try dsimp only
  rw [if_pos ⟨rfl, rfl, (hAB6 hb).2, (hAB6 ho).2, rfl, rfl, by decide, by rw [q_ar_len]; decide, by rw [q_ar_len]; decide, by decide⟩]
  rw [← wrB6 hb]
  rfl
theorem c1_164 {ls : List Value} {o : Nat} (hb : q_isB b) (ho : q_isB o) : x_run 1 164 ls [.int (q_i 6), .int (q_i 0), .ref (b + 7), .int (q_i 0), .ref (o + 7)] (q_H m K s) = x_run 1 167 ls [] (q_H (q_P m (b + 7) (m (o + 7))) K s) := by
  rw [e1_164, (hAB7 hb).1, (hAB7 ho).1]
  try dsimp only
  rw [if_pos ⟨rfl, rfl, (hAB7 hb).2, (hAB7 ho).2, rfl, rfl, by decide, by rw [q_ar_len]; decide, by rw [q_ar_len]; decide, by decide⟩]
  rw [← wrB7 hb]
  rfl
theorem c1_179 {ls : List Value} {o : Nat} (hb : q_isB b) (ho : q_isB o) : x_run 1 179 ls [.int (q_i 24), .int (q_i 0), .ref (b + 8), .int (q_i 0), .ref (o + 8)] (q_H m K s) = x_run 1 182 ls [] (q_H (q_P m (b + 8) (m (o + 8))) K s) := by
  rw [e1_179, (hAB8 hb).1, (hAB8 ho).1]
  try dsimp only
  rw [if_pos ⟨rfl, rfl, (hAB8 hb).2, (hAB8 ho).2, rfl, rfl, by decide, by rw [q_ar_len]; decide, by rw [q_ar_len]; decide, by decide⟩]
  rw [← wrB8 hb]
  rfl
theorem c1_194 {ls : List Value} {o : Nat} (hb : q_isB b) (ho : q_isB o) : x_run 1 194 ls [.int (q_i 96), .int (q_i 0), .ref (b + 9), .int (q_i 0), .ref (o + 9)] (q_H m K s) = x_run 1 197 ls [] (q_H (q_P m (b + 9) (m (o + 9))) K s) := by
  rw [e1_194, (hAB9 hb).1, (hAB9 ho).1]
  try dsimp only
  rw [if_pos ⟨rfl, rfl, (hAB9 hb).2, (hAB9 ho).2, rfl, rfl, by decide, by rw [q_ar_len]; decide, by rw [q_ar_len]; decide, by decide⟩]
  rw [← wrB9 hb]
  rfl
end M47
