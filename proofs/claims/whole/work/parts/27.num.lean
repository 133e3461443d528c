def q_R (a : Int) : Prop := -2147483648 ≤ a ∧ a < 2147483648
theorem q_ti {a : Int} (h : q_R a) : (q_i a).toInt = a := Int32.toInt_ofInt_of_le h.1 h.2
theorem q_add (a b : Int) : q_i a + q_i b = q_i (a + b) := (Int32.ofInt_add a b).symm
theorem q_sub (a b : Int) : q_i a - q_i b = q_i (a - b) := (Int32.ofInt_sub a b).symm
theorem q_mul (a b : Int) : q_i a * q_i b = q_i (a * b) := (Int32.ofInt_mul a b).symm
theorem q_zero : (0 : Int32) = q_i 0 := rfl
theorem q_lt {a b : Int} (ha : q_R a) (hb : q_R b) : q_i a < q_i b ↔ a < b := by rw [Int32.lt_iff_toInt_lt, q_ti ha, q_ti hb]
theorem q_le {a b : Int} (ha : q_R a) (hb : q_R b) : q_i a ≤ q_i b ↔ a ≤ b := by rw [Int32.le_iff_toInt_le, q_ti ha, q_ti hb]
theorem q_eq {a b : Int} (ha : q_R a) (hb : q_R b) : q_i a = q_i b ↔ a = b := by rw [← Int32.toInt_inj, q_ti ha, q_ti hb]
theorem q_lt0 {a : Int} (ha : q_R a) : q_i a < 0 ↔ a < 0 := q_lt (b := 0) ha (show q_R 0 by unfold q_R; omega)
theorem q_ge0 {a : Int} (ha : q_R a) : 0 ≤ q_i a ↔ 0 ≤ a := q_le (a := 0) (show q_R 0 by unfold q_R; omega) ha
theorem q_gt0 {a : Int} (ha : q_R a) : 0 < q_i a ↔ 0 < a := q_lt (a := 0) (show q_R 0 by unfold q_R; omega) ha
theorem q_le0 {a : Int} (ha : q_R a) : q_i a ≤ 0 ↔ a ≤ 0 := q_le (b := 0) ha (show q_R 0 by unfold q_R; omega)
theorem q_eq0 {a : Int} (ha : q_R a) : q_i a = 0 ↔ a = 0 := q_eq (b := 0) ha (show q_R 0 by unfold q_R; omega)
theorem q_of (x : Int32) : ∃ a : Int, q_R a ∧ x = q_i a := ⟨x.toInt, ⟨Int32.le_toInt x, Int32.toInt_lt x⟩, (Int32.ofInt_toInt x).symm⟩
theorem q_nat {a : Int} (h0 : 0 ≤ a) (h : q_R a) : (q_i a).toNatClampNeg = a.toNat := by
  show (q_i a).toInt.toNat = a.toNat
  rw [q_ti h]
theorem q_div {a b : Int} (h0 : 0 ≤ a) (h : q_R a) (hb : 0 < b) (hb2 : q_R b) : q_i a / q_i b = q_i (a / b) := by
  rw [← Int32.toInt_inj, Int32.toInt_div, q_ti h, q_ti hb2, q_ti (by
    unfold q_R at *
    constructor
    · have := Int.ediv_nonneg h0 (Int.le_of_lt hb); omega
    · have := Int.ediv_le_self b h0; omega), Int.tdiv_eq_ediv_of_nonneg h0]
  have h1 := Int.ediv_le_self b h0
  have h2 := Int.ediv_nonneg h0 (Int.le_of_lt hb)
  unfold q_R at *
  exact Int.bmod_eq_of_le (by omega) (by omega)
theorem q_rem {a b : Int} (h0 : 0 ≤ a) (h : q_R a) (hb : 0 < b) (hb2 : q_R b) : q_i a - q_i a / q_i b * q_i b = q_i (a % b) := by
  rw [q_div h0 h hb hb2, q_mul, q_sub]
  congr 1
  have := Int.mul_ediv_add_emod a b
  rw [Int.mul_comm] at this
  omega
theorem q_nari {x : Int32} : narrow .int (.int x) = .int x := rfl
theorem q_narb0 : narrow .boolean (.int (q_i 0)) = .int (q_i 0) := by decide
theorem q_narb1 : narrow .boolean (.int (q_i 1)) = .int (q_i 1) := by decide
theorem q_narb (P : Prop) [Decidable P] : narrow .boolean (.int (q_i (if P then 1 else 0))) = .int (q_i (if P then 1 else 0)) := by
  split
  · exact q_narb1
  · exact q_narb0
/-- x_fit by a field's type -/
theorem q_fiti {x : Int32} : x_fit .int (.int x) = true := by
  unfold x_fit
  rw [q_nari]
  simp [fits]
theorem q_fitb0 : x_fit .boolean (.int (q_i 0)) = true := by
  unfold x_fit
  rw [q_narb0]
  decide
theorem q_fitb1 : x_fit .boolean (.int (q_i 1)) = true := by
  unfold x_fit
  rw [q_narb1]
  decide
