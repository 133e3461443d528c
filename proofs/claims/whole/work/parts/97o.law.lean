section M97o
variable {m : Nat → Nat → Int} {K : Nat × Nat} {f : Nat → Int} {L : Nat}
theorem ra_scr {z : Int} {F : Int32 → q_O} (hL : L < 3000) (h0 : 0 ≤ z) (h1 : z < L) : q_ra (q_H m K (q_ar L f)) 10000 0 (q_i z) F = F (q_i (f z.toNat)) := by
  unfold q_ra
  rw [q_H_scr]
  try dsimp only
  rw [if_pos ⟨rfl, Or.inr ⟨rfl, rfl⟩⟩]
  have hz : q_R z := by unfold q_R; omega
  have e : x_at (q_i z) (q_ar L f) = some (q_i (f z.toNat)) := by
    unfold x_at
    rw [if_neg (by rw [show (0 : Int32) = q_i 0 from rfl, q_lt hz (by unfold q_R; omega)]; omega), q_nat h0 hz, q_ar_at f (by omega)]
  rw [e]
theorem ln_scr {F : Int32 → q_O} : q_ln (q_H m K (q_ar L f)) 10000 F = F (q_i L) := by
  unfold q_ln
  rw [q_H_scr]
  try dsimp only
  rw [if_pos ⟨by decide, Or.inr ⟨rfl, rfl⟩⟩, q_ar_len]
  rfl
theorem q_lcmp {x : Int64} : lg_cmp x x = q_i 0 := by
  unfold lg_cmp
  simp
  try rfl
end M97o
