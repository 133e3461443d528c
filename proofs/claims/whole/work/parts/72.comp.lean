def q_I1 (m : Nat → Nat → Int) : Prop := q_W (m 150) ∧ q_Bd m 1 (m 150) ∧ q_Z (m 150)
def q_I2 (m : Nat → Nat → Int) : Prop := q_HC m ∧ m 149 5 = m 23 4 ∧ m 149 6 = 0 ∧ ∀ i : Nat, (i : Int) < m 23 4 → q_Bd m (q_sp9 (m 23 3) i) (q_row m i) ∧ q_W (q_row m i)
def q_I3 (m : Nat → Nat → Int) : Prop := (m 23 5 = 0 ∨ m 23 5 = 1) ∧ m 149 4 = m 23 5 ∧ q_Z (m 152) ∧ (m 23 5 = 1 → q_Bd m 25 (m 152) ∧ q_W (m 152))
def q_I4 (m : Nat → Nat → Int) : Prop := m 149 8 = m 21 0 ∧ m 149 9 = m 21 1 ∧ m 149 10 = m 21 2 ∧ m 21 3 = 0 ∧ 0 ≤ m 21 0 ∧ m 21 0 ≤ 11
def q_I5 (m : Nat → Nat → Int) : Prop := m 145 1 = m 149 12 ∧ 0 ≤ m 149 12 ∧ m 149 12 ≤ 60 ∧ ∀ i : Nat, (i : Int) < m 149 12 → m 146 i = m 154 i ∧ 0 ≤ m 154 i ∧ m 154 i < 65536
def q_I6 (m : Nat → Nat → Int) : Prop := m 0 7 = m 149 13 ∧ -1 ≤ m 149 13 ∧ m 149 13 ≤ 60
def q_I7 (m : Nat → Nat → Int) : Prop := m 147 1 = m 149 15 ∧ 0 ≤ m 149 15 ∧ m 149 15 ≤ 16 ∧ (∀ i : Nat, (i : Int) < m 149 15 → m 148 i = m 155 i ∧ 0 ≤ m 155 i ∧ m 155 i < 65536)
theorem q_Iv_mk {m : Nat → Nat → Int} (h1 : q_I1 m) (h2 : q_I2 m) (h3 : q_I3 m) (h4 : q_I4 m) (h5 : q_I5 m) (h6 : q_I6 m) (h7 : q_I7 m) (h8 : q_Z (m 153)) : q_Iv m := ⟨h1, h2, h3, h4, h5, h6, h7, h8⟩
theorem q_Iv_1 {m : Nat → Nat → Int} (h : q_Iv m) : q_I1 m := h.1
theorem q_Iv_2 {m : Nat → Nat → Int} (h : q_Iv m) : q_I2 m := h.2.1
theorem q_Iv_3 {m : Nat → Nat → Int} (h : q_Iv m) : q_I3 m := h.2.2.1
theorem q_Iv_4 {m : Nat → Nat → Int} (h : q_Iv m) : q_I4 m := h.2.2.2.1
theorem q_Iv_5 {m : Nat → Nat → Int} (h : q_Iv m) : q_I5 m := h.2.2.2.2.1
theorem q_Iv_6 {m : Nat → Nat → Int} (h : q_Iv m) : q_I6 m := h.2.2.2.2.2.1
theorem q_Iv_7 {m : Nat → Nat → Int} (h : q_Iv m) : q_I7 m := h.2.2.2.2.2.2.1
theorem q_Iv_8 {m : Nat → Nat → Int} (h : q_Iv m) : q_Z (m 153) := h.2.2.2.2.2.2.2
theorem q_I1_fr {m mm : Nat → Nat → Int} (h : q_I1 m) (e : mm 150 = m 150) (f : ∀ k, k < 12 → mm (1 + k) = m (1 + k)) : q_I1 mm := by
  unfold q_I1
  rw [e]
  exact ⟨h.1, q_Bd_fr h.2.1 f, h.2.2⟩
theorem q_I2_fr {m mm : Nat → Nat → Int} (h : q_I2 m) (e3 : mm 23 3 = m 23 3) (e4 : mm 23 4 = m 23 4) (e5 : mm 149 5 = m 149 5) (e6 : mm 149 6 = m 149 6) (e : mm 151 = m 151) (f : ∀ a, 37 ≤ a → a < 145 → mm a = m a) : q_I2 mm := by
  obtain ⟨b1, b2, b3, b4⟩ := h
  have erow : ∀ i, q_row mm i = q_row m i := fun i => by
    unfold q_row
    rw [e]
  refine ⟨?_, by rw [e5, e4]; exact b2, by rw [e6]; exact b3, ?_⟩
  · unfold q_HC
    rw [e3, e4]
    exact b1
  · rw [e4, e3]
    intro i hi
    rw [erow]
    have hl := q_sp9_lt (st := m 23 3) i
    exact ⟨q_Bd_fr (b4 i hi).1 (fun k hk => f _ (by omega) (by omega)), (b4 i hi).2⟩
theorem q_I3_fr {m mm : Nat → Nat → Int} (h : q_I3 m) (e5 : mm 23 5 = m 23 5) (e4 : mm 149 4 = m 149 4) (e : mm 152 = m 152) (f : ∀ k, k < 12 → mm (25 + k) = m (25 + k)) : q_I3 mm := by
  unfold q_I3
  rw [e5, e4, e]
  exact ⟨h.1, h.2.1, h.2.2.1, fun z => ⟨q_Bd_fr (h.2.2.2 z).1 f, (h.2.2.2 z).2⟩⟩
theorem q_I4_fr {m mm : Nat → Nat → Int} (h : q_I4 m) (e : mm 21 = m 21) (e8 : mm 149 8 = m 149 8) (e9 : mm 149 9 = m 149 9) (e10 : mm 149 10 = m 149 10) : q_I4 mm := by
  unfold q_I4
  rw [e, e8, e9, e10]
  exact h
theorem q_I5_fr {m mm : Nat → Nat → Int} (h : q_I5 m) (e : mm 145 1 = m 145 1) (e1 : mm 149 12 = m 149 12) (e2 : mm 146 = m 146) (e3 : mm 154 = m 154) : q_I5 mm := by
  unfold q_I5
  rw [e, e1, e2, e3]
  exact h
theorem q_I6_fr {m mm : Nat → Nat → Int} (h : q_I6 m) (e : mm 0 7 = m 0 7) (e1 : mm 149 13 = m 149 13) : q_I6 mm := by
  unfold q_I6
  rw [e, e1]
  exact h
theorem q_I7_fr {m mm : Nat → Nat → Int} (h : q_I7 m) (e : mm 147 1 = m 147 1) (e1 : mm 149 15 = m 149 15) (e2 : mm 148 = m 148) (e3 : mm 155 = m 155) : q_I7 mm := by
  unfold q_I7
  rw [e, e1, e2, e3]
  exact h
theorem q_char0 : ∀ a, a < 256 → ∀ b, b < 256 → (q_i ((256 * a + b : Nat) : Int)).toUInt32.toUInt16.toUInt32.toInt32 = q_i ((256 * a + b : Nat) : Int) := by decide +kernel
theorem q_char {v : Int} (h0 : 0 ≤ v) (h1 : v < 65536) : (q_i v).toUInt32.toUInt16.toUInt32.toInt32 = q_i v := by
  have h := q_char0 (v.toNat / 256) (by omega) (v.toNat % 256) (by omega)
  rw [show ((256 * (v.toNat / 256) + v.toNat % 256 : Nat) : Int) = v by omega] at h
  exact h
theorem q_narc {v : Int} (h0 : 0 ≤ v) (h1 : v < 65536) : narrow .char (.int (q_i v)) = .int (q_i v) := congrArg Value.int (q_char h0 h1)
theorem q_nc {v : Int} (h0 : 0 ≤ v) (h1 : v < 65536) : vp_nar .char (q_i v) = q_i v := q_char h0 h1
theorem q_i2c (x : Int32) : ∃ v : Int, 0 ≤ v ∧ v < 65536 ∧ (x.toUInt32 % 65536).toInt32 = q_i v := by
  refine ⟨((x.toUInt32 % 65536).toNat : Int), by omega, ?_, ?_⟩
  · have : (x.toUInt32 % 65536).toNat < 65536 := by
      rw [UInt32.toNat_mod]
      exact Nat.mod_lt _ (by decide)
    omega
  · generalize x.toUInt32 % 65536 = u
    apply Int32.toBitVec_inj.mp
    show u.toBitVec = BitVec.ofInt 32 (u.toNat : Int)
    apply BitVec.eq_of_toNat_eq
    simp
