theorem q_and63 (x : Int32) : ∃ w : Nat, w < 64 ∧ x &&& q_i 63 = q_i (w : Int) := by
  refine ⟨(x &&& q_i 63).toBitVec.toNat, ?_, ?_⟩
  · show (x.toBitVec &&& 63#32).toNat < 64
    rw [BitVec.toNat_and]
    exact Nat.lt_of_le_of_lt Nat.and_le_right (by decide)
  · generalize x &&& q_i 63 = u
    apply Int32.toBitVec_inj.mp
    show u.toBitVec = BitVec.ofInt 32 (u.toBitVec.toNat : Int)
    simp
