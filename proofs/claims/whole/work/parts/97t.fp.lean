theorem q_fp1 : ∀ n, n < 97 → FP.ddiv (FP.i2d (q_i ((n : Nat) : Int))) 4636455816377925632 &&& 0x7fffffffffffffff ≤ 0x7ff0000000000000 := by decide +kernel
theorem q_fp2 : ∀ n, n < 97 → Op.cmpValue (FP.dcmp (FP.ddiv (FP.i2d (q_i ((n : Nat) : Int))) 4636455816377925632) (FP.ddiv (FP.i2d (q_i ((n : Nat) : Int))) 4636455816377925632)) .l = 0 := by decide +kernel
