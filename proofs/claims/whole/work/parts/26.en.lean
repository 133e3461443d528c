theorem q_gi0 {v : Int32} {l : List Value} {F : Int32 → q_O} : q_gi (.int v :: l) 0 F = F v := rfl
theorem q_gr0 {v : Nat} {l : List Value} {F : Nat → q_O} : q_gr (.ref v :: l) 0 F = F v := rfl
theorem q_ls0 {a v : Value} {l : List Value} {F : List Value → q_O} : q_ls (a :: l) 0 v F = F (v :: l) := by
  unfold q_ls x_nd
  rw [if_pos]
  · rfl
  · exact ⟨by simp only [List.length_cons]; omega, rfl⟩
theorem q_nd0 {a : Value} {l : List Value} : x_nd (a :: l) 0 = true := rfl
theorem q_st0 {a v : Value} {l : List Value} : (a :: l).set 0 v = v :: l := rfl
theorem q_gi1 {a0 : Value} {v : Int32} {l : List Value} {F : Int32 → q_O} : q_gi (a0 :: .int v :: l) 1 F = F v := rfl
theorem q_gr1 {a0 : Value} {v : Nat} {l : List Value} {F : Nat → q_O} : q_gr (a0 :: .ref v :: l) 1 F = F v := rfl
theorem q_ls1 {a0 : Value} {a v : Value} {l : List Value} {F : List Value → q_O} (h : a0.category = 1) : q_ls (a0 :: a :: l) 1 v F = F (a0 :: v :: l) := by
  unfold q_ls x_nd
  rw [if_pos]
  · rfl
  · refine ⟨by simp only [List.length_cons]; omega, ?_⟩
    show (1 == 0 || decide (a0.category ≠ 2)) = true
    rw [h]
    rfl
theorem q_nd1 {a0 : Value} {a : Value} {l : List Value} (h : a0.category = 1) : x_nd (a0 :: a :: l) 1 = true := by
  unfold x_nd
  show (1 == 0 || decide (a0.category ≠ 2)) = true
  rw [h]
  rfl
theorem q_st1 {a0 : Value} {a v : Value} {l : List Value} : (a0 :: a :: l).set 1 v = a0 :: v :: l := rfl
theorem q_gi2 {a0 a1 : Value} {v : Int32} {l : List Value} {F : Int32 → q_O} : q_gi (a0 :: a1 :: .int v :: l) 2 F = F v := rfl
theorem q_gr2 {a0 a1 : Value} {v : Nat} {l : List Value} {F : Nat → q_O} : q_gr (a0 :: a1 :: .ref v :: l) 2 F = F v := rfl
theorem q_ls2 {a0 a1 : Value} {a v : Value} {l : List Value} {F : List Value → q_O} (h : a1.category = 1) : q_ls (a0 :: a1 :: a :: l) 2 v F = F (a0 :: a1 :: v :: l) := by
  unfold q_ls x_nd
  rw [if_pos]
  · rfl
  · refine ⟨by simp only [List.length_cons]; omega, ?_⟩
    show (2 == 0 || decide (a1.category ≠ 2)) = true
    rw [h]
    rfl
theorem q_nd2 {a0 a1 : Value} {a : Value} {l : List Value} (h : a1.category = 1) : x_nd (a0 :: a1 :: a :: l) 2 = true := by
  unfold x_nd
  show (2 == 0 || decide (a1.category ≠ 2)) = true
  rw [h]
  rfl
theorem q_st2 {a0 a1 : Value} {a v : Value} {l : List Value} : (a0 :: a1 :: a :: l).set 2 v = a0 :: a1 :: v :: l := rfl
theorem q_gi3 {a0 a1 a2 : Value} {v : Int32} {l : List Value} {F : Int32 → q_O} : q_gi (a0 :: a1 :: a2 :: .int v :: l) 3 F = F v := rfl
theorem q_gr3 {a0 a1 a2 : Value} {v : Nat} {l : List Value} {F : Nat → q_O} : q_gr (a0 :: a1 :: a2 :: .ref v :: l) 3 F = F v := rfl
theorem q_ls3 {a0 a1 a2 : Value} {a v : Value} {l : List Value} {F : List Value → q_O} (h : a2.category = 1) : q_ls (a0 :: a1 :: a2 :: a :: l) 3 v F = F (a0 :: a1 :: a2 :: v :: l) := by
  unfold q_ls x_nd
  rw [if_pos]
  · rfl
  · refine ⟨by simp only [List.length_cons]; omega, ?_⟩
    show (3 == 0 || decide (a2.category ≠ 2)) = true
    rw [h]
    rfl
theorem q_nd3 {a0 a1 a2 : Value} {a : Value} {l : List Value} (h : a2.category = 1) : x_nd (a0 :: a1 :: a2 :: a :: l) 3 = true := by
  unfold x_nd
  show (3 == 0 || decide (a2.category ≠ 2)) = true
  rw [h]
  rfl
theorem q_st3 {a0 a1 a2 : Value} {a v : Value} {l : List Value} : (a0 :: a1 :: a2 :: a :: l).set 3 v = a0 :: a1 :: a2 :: v :: l := rfl
theorem q_gi4 {a0 a1 a2 a3 : Value} {v : Int32} {l : List Value} {F : Int32 → q_O} : q_gi (a0 :: a1 :: a2 :: a3 :: .int v :: l) 4 F = F v := rfl
theorem q_gr4 {a0 a1 a2 a3 : Value} {v : Nat} {l : List Value} {F : Nat → q_O} : q_gr (a0 :: a1 :: a2 :: a3 :: .ref v :: l) 4 F = F v := rfl
theorem q_ls4 {a0 a1 a2 a3 : Value} {a v : Value} {l : List Value} {F : List Value → q_O} (h : a3.category = 1) : q_ls (a0 :: a1 :: a2 :: a3 :: a :: l) 4 v F = F (a0 :: a1 :: a2 :: a3 :: v :: l) := by
  unfold q_ls x_nd
  rw [if_pos]
  · rfl
  · refine ⟨by simp only [List.length_cons]; omega, ?_⟩
    show (4 == 0 || decide (a3.category ≠ 2)) = true
    rw [h]
    rfl
theorem q_nd4 {a0 a1 a2 a3 : Value} {a : Value} {l : List Value} (h : a3.category = 1) : x_nd (a0 :: a1 :: a2 :: a3 :: a :: l) 4 = true := by
  unfold x_nd
  show (4 == 0 || decide (a3.category ≠ 2)) = true
  rw [h]
  rfl
theorem q_st4 {a0 a1 a2 a3 : Value} {a v : Value} {l : List Value} : (a0 :: a1 :: a2 :: a3 :: a :: l).set 4 v = a0 :: a1 :: a2 :: a3 :: v :: l := rfl
theorem q_gi5 {a0 a1 a2 a3 a4 : Value} {v : Int32} {l : List Value} {F : Int32 → q_O} : q_gi (a0 :: a1 :: a2 :: a3 :: a4 :: .int v :: l) 5 F = F v := rfl
theorem q_gr5 {a0 a1 a2 a3 a4 : Value} {v : Nat} {l : List Value} {F : Nat → q_O} : q_gr (a0 :: a1 :: a2 :: a3 :: a4 :: .ref v :: l) 5 F = F v := rfl
theorem q_ls5 {a0 a1 a2 a3 a4 : Value} {a v : Value} {l : List Value} {F : List Value → q_O} (h : a4.category = 1) : q_ls (a0 :: a1 :: a2 :: a3 :: a4 :: a :: l) 5 v F = F (a0 :: a1 :: a2 :: a3 :: a4 :: v :: l) := by
  unfold q_ls x_nd
  rw [if_pos]
  · rfl
  · refine ⟨by simp only [List.length_cons]; omega, ?_⟩
    show (5 == 0 || decide (a4.category ≠ 2)) = true
    rw [h]
    rfl
theorem q_nd5 {a0 a1 a2 a3 a4 : Value} {a : Value} {l : List Value} (h : a4.category = 1) : x_nd (a0 :: a1 :: a2 :: a3 :: a4 :: a :: l) 5 = true := by
  unfold x_nd
  show (5 == 0 || decide (a4.category ≠ 2)) = true
  rw [h]
  rfl
theorem q_st5 {a0 a1 a2 a3 a4 : Value} {a v : Value} {l : List Value} : (a0 :: a1 :: a2 :: a3 :: a4 :: a :: l).set 5 v = a0 :: a1 :: a2 :: a3 :: a4 :: v :: l := rfl
theorem q_gi6 {a0 a1 a2 a3 a4 a5 : Value} {v : Int32} {l : List Value} {F : Int32 → q_O} : q_gi (a0 :: a1 :: a2 :: a3 :: a4 :: a5 :: .int v :: l) 6 F = F v := rfl
theorem q_gr6 {a0 a1 a2 a3 a4 a5 : Value} {v : Nat} {l : List Value} {F : Nat → q_O} : q_gr (a0 :: a1 :: a2 :: a3 :: a4 :: a5 :: .ref v :: l) 6 F = F v := rfl
theorem q_ls6 {a0 a1 a2 a3 a4 a5 : Value} {a v : Value} {l : List Value} {F : List Value → q_O} (h : a5.category = 1) : q_ls (a0 :: a1 :: a2 :: a3 :: a4 :: a5 :: a :: l) 6 v F = F (a0 :: a1 :: a2 :: a3 :: a4 :: a5 :: v :: l) := by
  unfold q_ls x_nd
  rw [if_pos]
  · rfl
  · refine ⟨by simp only [List.length_cons]; omega, ?_⟩
    show (6 == 0 || decide (a5.category ≠ 2)) = true
    rw [h]
    rfl
theorem q_nd6 {a0 a1 a2 a3 a4 a5 : Value} {a : Value} {l : List Value} (h : a5.category = 1) : x_nd (a0 :: a1 :: a2 :: a3 :: a4 :: a5 :: a :: l) 6 = true := by
  unfold x_nd
  show (6 == 0 || decide (a5.category ≠ 2)) = true
  rw [h]
  rfl
theorem q_st6 {a0 a1 a2 a3 a4 a5 : Value} {a v : Value} {l : List Value} : (a0 :: a1 :: a2 :: a3 :: a4 :: a5 :: a :: l).set 6 v = a0 :: a1 :: a2 :: a3 :: a4 :: a5 :: v :: l := rfl
theorem q_gi7 {a0 a1 a2 a3 a4 a5 a6 : Value} {v : Int32} {l : List Value} {F : Int32 → q_O} : q_gi (a0 :: a1 :: a2 :: a3 :: a4 :: a5 :: a6 :: .int v :: l) 7 F = F v := rfl
theorem q_gr7 {a0 a1 a2 a3 a4 a5 a6 : Value} {v : Nat} {l : List Value} {F : Nat → q_O} : q_gr (a0 :: a1 :: a2 :: a3 :: a4 :: a5 :: a6 :: .ref v :: l) 7 F = F v := rfl
theorem q_ls7 {a0 a1 a2 a3 a4 a5 a6 : Value} {a v : Value} {l : List Value} {F : List Value → q_O} (h : a6.category = 1) : q_ls (a0 :: a1 :: a2 :: a3 :: a4 :: a5 :: a6 :: a :: l) 7 v F = F (a0 :: a1 :: a2 :: a3 :: a4 :: a5 :: a6 :: v :: l) := by
  unfold q_ls x_nd
  rw [if_pos]
  · rfl
  · refine ⟨by simp only [List.length_cons]; omega, ?_⟩
    show (7 == 0 || decide (a6.category ≠ 2)) = true
    rw [h]
    rfl
theorem q_nd7 {a0 a1 a2 a3 a4 a5 a6 : Value} {a : Value} {l : List Value} (h : a6.category = 1) : x_nd (a0 :: a1 :: a2 :: a3 :: a4 :: a5 :: a6 :: a :: l) 7 = true := by
  unfold x_nd
  show (7 == 0 || decide (a6.category ≠ 2)) = true
  rw [h]
  rfl
theorem q_st7 {a0 a1 a2 a3 a4 a5 a6 : Value} {a v : Value} {l : List Value} : (a0 :: a1 :: a2 :: a3 :: a4 :: a5 :: a6 :: a :: l).set 7 v = a0 :: a1 :: a2 :: a3 :: a4 :: a5 :: a6 :: v :: l := rfl
theorem q_gi8 {a0 a1 a2 a3 a4 a5 a6 a7 : Value} {v : Int32} {l : List Value} {F : Int32 → q_O} : q_gi (a0 :: a1 :: a2 :: a3 :: a4 :: a5 :: a6 :: a7 :: .int v :: l) 8 F = F v := rfl
theorem q_gr8 {a0 a1 a2 a3 a4 a5 a6 a7 : Value} {v : Nat} {l : List Value} {F : Nat → q_O} : q_gr (a0 :: a1 :: a2 :: a3 :: a4 :: a5 :: a6 :: a7 :: .ref v :: l) 8 F = F v := rfl
theorem q_ls8 {a0 a1 a2 a3 a4 a5 a6 a7 : Value} {a v : Value} {l : List Value} {F : List Value → q_O} (h : a7.category = 1) : q_ls (a0 :: a1 :: a2 :: a3 :: a4 :: a5 :: a6 :: a7 :: a :: l) 8 v F = F (a0 :: a1 :: a2 :: a3 :: a4 :: a5 :: a6 :: a7 :: v :: l) := by
  unfold q_ls x_nd
  rw [if_pos]
  · rfl
  · refine ⟨by simp only [List.length_cons]; omega, ?_⟩
    show (8 == 0 || decide (a7.category ≠ 2)) = true
    rw [h]
    rfl
theorem q_nd8 {a0 a1 a2 a3 a4 a5 a6 a7 : Value} {a : Value} {l : List Value} (h : a7.category = 1) : x_nd (a0 :: a1 :: a2 :: a3 :: a4 :: a5 :: a6 :: a7 :: a :: l) 8 = true := by
  unfold x_nd
  show (8 == 0 || decide (a7.category ≠ 2)) = true
  rw [h]
  rfl
theorem q_st8 {a0 a1 a2 a3 a4 a5 a6 a7 : Value} {a v : Value} {l : List Value} : (a0 :: a1 :: a2 :: a3 :: a4 :: a5 :: a6 :: a7 :: a :: l).set 8 v = a0 :: a1 :: a2 :: a3 :: a4 :: a5 :: a6 :: a7 :: v :: l := rfl
theorem q_gi9 {a0 a1 a2 a3 a4 a5 a6 a7 a8 : Value} {v : Int32} {l : List Value} {F : Int32 → q_O} : q_gi (a0 :: a1 :: a2 :: a3 :: a4 :: a5 :: a6 :: a7 :: a8 :: .int v :: l) 9 F = F v := rfl
theorem q_gr9 {a0 a1 a2 a3 a4 a5 a6 a7 a8 : Value} {v : Nat} {l : List Value} {F : Nat → q_O} : q_gr (a0 :: a1 :: a2 :: a3 :: a4 :: a5 :: a6 :: a7 :: a8 :: .ref v :: l) 9 F = F v := rfl
theorem q_ls9 {a0 a1 a2 a3 a4 a5 a6 a7 a8 : Value} {a v : Value} {l : List Value} {F : List Value → q_O} (h : a8.category = 1) : q_ls (a0 :: a1 :: a2 :: a3 :: a4 :: a5 :: a6 :: a7 :: a8 :: a :: l) 9 v F = F (a0 :: a1 :: a2 :: a3 :: a4 :: a5 :: a6 :: a7 :: a8 :: v :: l) := by
  unfold q_ls x_nd
  rw [if_pos]
  · rfl
  · refine ⟨by simp only [List.length_cons]; omega, ?_⟩
    show (9 == 0 || decide (a8.category ≠ 2)) = true
    rw [h]
    rfl
theorem q_nd9 {a0 a1 a2 a3 a4 a5 a6 a7 a8 : Value} {a : Value} {l : List Value} (h : a8.category = 1) : x_nd (a0 :: a1 :: a2 :: a3 :: a4 :: a5 :: a6 :: a7 :: a8 :: a :: l) 9 = true := by
  unfold x_nd
  show (9 == 0 || decide (a8.category ≠ 2)) = true
  rw [h]
  rfl
theorem q_st9 {a0 a1 a2 a3 a4 a5 a6 a7 a8 : Value} {a v : Value} {l : List Value} : (a0 :: a1 :: a2 :: a3 :: a4 :: a5 :: a6 :: a7 :: a8 :: a :: l).set 9 v = a0 :: a1 :: a2 :: a3 :: a4 :: a5 :: a6 :: a7 :: a8 :: v :: l := rfl
theorem q_ls1i {w : Int32} {a v : Value} {l : List Value} {F : List Value → q_O} : q_ls (.int w :: a :: l) 1 v F = F (.int w :: v :: l) := q_ls1 rfl
theorem q_nd1i {w : Int32} {a : Value} {l : List Value} : x_nd (.int w :: a :: l) 1 = true := q_nd1 rfl
theorem q_ls1r {w : Nat} {a v : Value} {l : List Value} {F : List Value → q_O} : q_ls (.ref w :: a :: l) 1 v F = F (.ref w :: v :: l) := q_ls1 rfl
theorem q_nd1r {w : Nat} {a : Value} {l : List Value} : x_nd (.ref w :: a :: l) 1 = true := q_nd1 rfl
theorem q_ls1n {a v : Value} {l : List Value} {F : List Value → q_O} : q_ls (.null :: a :: l) 1 v F = F (.null :: v :: l) := q_ls1 rfl
theorem q_nd1n {a : Value} {l : List Value} : x_nd (.null :: a :: l) 1 = true := q_nd1 rfl
theorem q_ls2i {a0 : Value} {w : Int32} {a v : Value} {l : List Value} {F : List Value → q_O} : q_ls (a0 :: .int w :: a :: l) 2 v F = F (a0 :: .int w :: v :: l) := q_ls2 rfl
theorem q_nd2i {a0 : Value} {w : Int32} {a : Value} {l : List Value} : x_nd (a0 :: .int w :: a :: l) 2 = true := q_nd2 rfl
theorem q_ls2r {a0 : Value} {w : Nat} {a v : Value} {l : List Value} {F : List Value → q_O} : q_ls (a0 :: .ref w :: a :: l) 2 v F = F (a0 :: .ref w :: v :: l) := q_ls2 rfl
theorem q_nd2r {a0 : Value} {w : Nat} {a : Value} {l : List Value} : x_nd (a0 :: .ref w :: a :: l) 2 = true := q_nd2 rfl
theorem q_ls2n {a0 : Value} {a v : Value} {l : List Value} {F : List Value → q_O} : q_ls (a0 :: .null :: a :: l) 2 v F = F (a0 :: .null :: v :: l) := q_ls2 rfl
theorem q_nd2n {a0 : Value} {a : Value} {l : List Value} : x_nd (a0 :: .null :: a :: l) 2 = true := q_nd2 rfl
theorem q_ls3i {a0 a1 : Value} {w : Int32} {a v : Value} {l : List Value} {F : List Value → q_O} : q_ls (a0 :: a1 :: .int w :: a :: l) 3 v F = F (a0 :: a1 :: .int w :: v :: l) := q_ls3 rfl
theorem q_nd3i {a0 a1 : Value} {w : Int32} {a : Value} {l : List Value} : x_nd (a0 :: a1 :: .int w :: a :: l) 3 = true := q_nd3 rfl
theorem q_ls3r {a0 a1 : Value} {w : Nat} {a v : Value} {l : List Value} {F : List Value → q_O} : q_ls (a0 :: a1 :: .ref w :: a :: l) 3 v F = F (a0 :: a1 :: .ref w :: v :: l) := q_ls3 rfl
theorem q_nd3r {a0 a1 : Value} {w : Nat} {a : Value} {l : List Value} : x_nd (a0 :: a1 :: .ref w :: a :: l) 3 = true := q_nd3 rfl
theorem q_ls3n {a0 a1 : Value} {a v : Value} {l : List Value} {F : List Value → q_O} : q_ls (a0 :: a1 :: .null :: a :: l) 3 v F = F (a0 :: a1 :: .null :: v :: l) := q_ls3 rfl
theorem q_nd3n {a0 a1 : Value} {a : Value} {l : List Value} : x_nd (a0 :: a1 :: .null :: a :: l) 3 = true := q_nd3 rfl
theorem q_ls4i {a0 a1 a2 : Value} {w : Int32} {a v : Value} {l : List Value} {F : List Value → q_O} : q_ls (a0 :: a1 :: a2 :: .int w :: a :: l) 4 v F = F (a0 :: a1 :: a2 :: .int w :: v :: l) := q_ls4 rfl
theorem q_nd4i {a0 a1 a2 : Value} {w : Int32} {a : Value} {l : List Value} : x_nd (a0 :: a1 :: a2 :: .int w :: a :: l) 4 = true := q_nd4 rfl
theorem q_ls4r {a0 a1 a2 : Value} {w : Nat} {a v : Value} {l : List Value} {F : List Value → q_O} : q_ls (a0 :: a1 :: a2 :: .ref w :: a :: l) 4 v F = F (a0 :: a1 :: a2 :: .ref w :: v :: l) := q_ls4 rfl
theorem q_nd4r {a0 a1 a2 : Value} {w : Nat} {a : Value} {l : List Value} : x_nd (a0 :: a1 :: a2 :: .ref w :: a :: l) 4 = true := q_nd4 rfl
theorem q_ls4n {a0 a1 a2 : Value} {a v : Value} {l : List Value} {F : List Value → q_O} : q_ls (a0 :: a1 :: a2 :: .null :: a :: l) 4 v F = F (a0 :: a1 :: a2 :: .null :: v :: l) := q_ls4 rfl
theorem q_nd4n {a0 a1 a2 : Value} {a : Value} {l : List Value} : x_nd (a0 :: a1 :: a2 :: .null :: a :: l) 4 = true := q_nd4 rfl
theorem q_ls5i {a0 a1 a2 a3 : Value} {w : Int32} {a v : Value} {l : List Value} {F : List Value → q_O} : q_ls (a0 :: a1 :: a2 :: a3 :: .int w :: a :: l) 5 v F = F (a0 :: a1 :: a2 :: a3 :: .int w :: v :: l) := q_ls5 rfl
theorem q_nd5i {a0 a1 a2 a3 : Value} {w : Int32} {a : Value} {l : List Value} : x_nd (a0 :: a1 :: a2 :: a3 :: .int w :: a :: l) 5 = true := q_nd5 rfl
theorem q_ls5r {a0 a1 a2 a3 : Value} {w : Nat} {a v : Value} {l : List Value} {F : List Value → q_O} : q_ls (a0 :: a1 :: a2 :: a3 :: .ref w :: a :: l) 5 v F = F (a0 :: a1 :: a2 :: a3 :: .ref w :: v :: l) := q_ls5 rfl
theorem q_nd5r {a0 a1 a2 a3 : Value} {w : Nat} {a : Value} {l : List Value} : x_nd (a0 :: a1 :: a2 :: a3 :: .ref w :: a :: l) 5 = true := q_nd5 rfl
theorem q_ls5n {a0 a1 a2 a3 : Value} {a v : Value} {l : List Value} {F : List Value → q_O} : q_ls (a0 :: a1 :: a2 :: a3 :: .null :: a :: l) 5 v F = F (a0 :: a1 :: a2 :: a3 :: .null :: v :: l) := q_ls5 rfl
theorem q_nd5n {a0 a1 a2 a3 : Value} {a : Value} {l : List Value} : x_nd (a0 :: a1 :: a2 :: a3 :: .null :: a :: l) 5 = true := q_nd5 rfl
theorem q_ls6i {a0 a1 a2 a3 a4 : Value} {w : Int32} {a v : Value} {l : List Value} {F : List Value → q_O} : q_ls (a0 :: a1 :: a2 :: a3 :: a4 :: .int w :: a :: l) 6 v F = F (a0 :: a1 :: a2 :: a3 :: a4 :: .int w :: v :: l) := q_ls6 rfl
theorem q_nd6i {a0 a1 a2 a3 a4 : Value} {w : Int32} {a : Value} {l : List Value} : x_nd (a0 :: a1 :: a2 :: a3 :: a4 :: .int w :: a :: l) 6 = true := q_nd6 rfl
theorem q_ls6r {a0 a1 a2 a3 a4 : Value} {w : Nat} {a v : Value} {l : List Value} {F : List Value → q_O} : q_ls (a0 :: a1 :: a2 :: a3 :: a4 :: .ref w :: a :: l) 6 v F = F (a0 :: a1 :: a2 :: a3 :: a4 :: .ref w :: v :: l) := q_ls6 rfl
theorem q_nd6r {a0 a1 a2 a3 a4 : Value} {w : Nat} {a : Value} {l : List Value} : x_nd (a0 :: a1 :: a2 :: a3 :: a4 :: .ref w :: a :: l) 6 = true := q_nd6 rfl
theorem q_ls6n {a0 a1 a2 a3 a4 : Value} {a v : Value} {l : List Value} {F : List Value → q_O} : q_ls (a0 :: a1 :: a2 :: a3 :: a4 :: .null :: a :: l) 6 v F = F (a0 :: a1 :: a2 :: a3 :: a4 :: .null :: v :: l) := q_ls6 rfl
theorem q_nd6n {a0 a1 a2 a3 a4 : Value} {a : Value} {l : List Value} : x_nd (a0 :: a1 :: a2 :: a3 :: a4 :: .null :: a :: l) 6 = true := q_nd6 rfl
theorem q_ls7i {a0 a1 a2 a3 a4 a5 : Value} {w : Int32} {a v : Value} {l : List Value} {F : List Value → q_O} : q_ls (a0 :: a1 :: a2 :: a3 :: a4 :: a5 :: .int w :: a :: l) 7 v F = F (a0 :: a1 :: a2 :: a3 :: a4 :: a5 :: .int w :: v :: l) := q_ls7 rfl
theorem q_nd7i {a0 a1 a2 a3 a4 a5 : Value} {w : Int32} {a : Value} {l : List Value} : x_nd (a0 :: a1 :: a2 :: a3 :: a4 :: a5 :: .int w :: a :: l) 7 = true := q_nd7 rfl
theorem q_ls7r {a0 a1 a2 a3 a4 a5 : Value} {w : Nat} {a v : Value} {l : List Value} {F : List Value → q_O} : q_ls (a0 :: a1 :: a2 :: a3 :: a4 :: a5 :: .ref w :: a :: l) 7 v F = F (a0 :: a1 :: a2 :: a3 :: a4 :: a5 :: .ref w :: v :: l) := q_ls7 rfl
theorem q_nd7r {a0 a1 a2 a3 a4 a5 : Value} {w : Nat} {a : Value} {l : List Value} : x_nd (a0 :: a1 :: a2 :: a3 :: a4 :: a5 :: .ref w :: a :: l) 7 = true := q_nd7 rfl
theorem q_ls7n {a0 a1 a2 a3 a4 a5 : Value} {a v : Value} {l : List Value} {F : List Value → q_O} : q_ls (a0 :: a1 :: a2 :: a3 :: a4 :: a5 :: .null :: a :: l) 7 v F = F (a0 :: a1 :: a2 :: a3 :: a4 :: a5 :: .null :: v :: l) := q_ls7 rfl
theorem q_nd7n {a0 a1 a2 a3 a4 a5 : Value} {a : Value} {l : List Value} : x_nd (a0 :: a1 :: a2 :: a3 :: a4 :: a5 :: .null :: a :: l) 7 = true := q_nd7 rfl
theorem q_ls8i {a0 a1 a2 a3 a4 a5 a6 : Value} {w : Int32} {a v : Value} {l : List Value} {F : List Value → q_O} : q_ls (a0 :: a1 :: a2 :: a3 :: a4 :: a5 :: a6 :: .int w :: a :: l) 8 v F = F (a0 :: a1 :: a2 :: a3 :: a4 :: a5 :: a6 :: .int w :: v :: l) := q_ls8 rfl
theorem q_nd8i {a0 a1 a2 a3 a4 a5 a6 : Value} {w : Int32} {a : Value} {l : List Value} : x_nd (a0 :: a1 :: a2 :: a3 :: a4 :: a5 :: a6 :: .int w :: a :: l) 8 = true := q_nd8 rfl
theorem q_ls8r {a0 a1 a2 a3 a4 a5 a6 : Value} {w : Nat} {a v : Value} {l : List Value} {F : List Value → q_O} : q_ls (a0 :: a1 :: a2 :: a3 :: a4 :: a5 :: a6 :: .ref w :: a :: l) 8 v F = F (a0 :: a1 :: a2 :: a3 :: a4 :: a5 :: a6 :: .ref w :: v :: l) := q_ls8 rfl
theorem q_nd8r {a0 a1 a2 a3 a4 a5 a6 : Value} {w : Nat} {a : Value} {l : List Value} : x_nd (a0 :: a1 :: a2 :: a3 :: a4 :: a5 :: a6 :: .ref w :: a :: l) 8 = true := q_nd8 rfl
theorem q_ls8n {a0 a1 a2 a3 a4 a5 a6 : Value} {a v : Value} {l : List Value} {F : List Value → q_O} : q_ls (a0 :: a1 :: a2 :: a3 :: a4 :: a5 :: a6 :: .null :: a :: l) 8 v F = F (a0 :: a1 :: a2 :: a3 :: a4 :: a5 :: a6 :: .null :: v :: l) := q_ls8 rfl
theorem q_nd8n {a0 a1 a2 a3 a4 a5 a6 : Value} {a : Value} {l : List Value} : x_nd (a0 :: a1 :: a2 :: a3 :: a4 :: a5 :: a6 :: .null :: a :: l) 8 = true := q_nd8 rfl
theorem q_ls9i {a0 a1 a2 a3 a4 a5 a6 a7 : Value} {w : Int32} {a v : Value} {l : List Value} {F : List Value → q_O} : q_ls (a0 :: a1 :: a2 :: a3 :: a4 :: a5 :: a6 :: a7 :: .int w :: a :: l) 9 v F = F (a0 :: a1 :: a2 :: a3 :: a4 :: a5 :: a6 :: a7 :: .int w :: v :: l) := q_ls9 rfl
theorem q_nd9i {a0 a1 a2 a3 a4 a5 a6 a7 : Value} {w : Int32} {a : Value} {l : List Value} : x_nd (a0 :: a1 :: a2 :: a3 :: a4 :: a5 :: a6 :: a7 :: .int w :: a :: l) 9 = true := q_nd9 rfl
theorem q_ls9r {a0 a1 a2 a3 a4 a5 a6 a7 : Value} {w : Nat} {a v : Value} {l : List Value} {F : List Value → q_O} : q_ls (a0 :: a1 :: a2 :: a3 :: a4 :: a5 :: a6 :: a7 :: .ref w :: a :: l) 9 v F = F (a0 :: a1 :: a2 :: a3 :: a4 :: a5 :: a6 :: a7 :: .ref w :: v :: l) := q_ls9 rfl
theorem q_nd9r {a0 a1 a2 a3 a4 a5 a6 a7 : Value} {w : Nat} {a : Value} {l : List Value} : x_nd (a0 :: a1 :: a2 :: a3 :: a4 :: a5 :: a6 :: a7 :: .ref w :: a :: l) 9 = true := q_nd9 rfl
theorem q_ls9n {a0 a1 a2 a3 a4 a5 a6 a7 : Value} {a v : Value} {l : List Value} {F : List Value → q_O} : q_ls (a0 :: a1 :: a2 :: a3 :: a4 :: a5 :: a6 :: a7 :: .null :: a :: l) 9 v F = F (a0 :: a1 :: a2 :: a3 :: a4 :: a5 :: a6 :: a7 :: .null :: v :: l) := q_ls9 rfl
theorem q_nd9n {a0 a1 a2 a3 a4 a5 a6 a7 : Value} {a : Value} {l : List Value} : x_nd (a0 :: a1 :: a2 :: a3 :: a4 :: a5 :: a6 :: a7 :: .null :: a :: l) 9 = true := q_nd9 rfl
theorem q_cat_i {v : Int32} : (Value.int v).category = 1 := rfl
theorem q_cat_r {v : Nat} : (Value.ref v).category = 1 := rfl
theorem q_cat_n : Value.null.category = 1 := rfl
theorem q_cat_f {v : UInt32} : (Value.float v).category = 1 := rfl
theorem q_wt0 : x_wt [] = 0 := rfl
theorem q_wt1 {v : Value} {r : List Value} : x_wt (v :: r) = v.category + x_wt r := rfl
theorem q_tl0 : (none : Option Value).toList = [] := rfl
theorem q_tl1 {v : Value} : (some v).toList = [v] := rfl
theorem en0 {a0 : Value} {h : x_H} : x_m 0 [a0] h = x_run 0 0 [a0, .null] [] h := rfl
theorem en1 {a0 a1 : Value} {h : x_H} : x_m 1 [a0, a1] h = x_run 1 0 [a0, a1, .null] [] h := rfl
theorem en2 {a0 a1 : Value} {h : x_H} : x_m 2 [a0, a1] h = x_run 2 0 [a0, a1] [] h := rfl
theorem en3 {a0 a1 a2 : Value} {h : x_H} : x_m 3 [a0, a1, a2] h = x_run 3 0 [a0, a1, a2] [] h := rfl
theorem en4 {a0 a1 a2 a3 a4 : Value} {h : x_H} : x_m 4 [a0, a1, a2, a3, a4] h = x_run 4 0 [a0, a1, a2, a3, a4, .null, .null, .null, .null] [] h := rfl
theorem en5 {a0 a1 a2 : Value} {h : x_H} : x_m 5 [a0, a1, a2] h = x_run 5 0 [a0, a1, a2, .null, .null] [] h := rfl
theorem en6 {a0 a1 a2 : Value} {h : x_H} : x_m 6 [a0, a1, a2] h = x_run 6 0 [a0, a1, a2, .null, .null, .null] [] h := rfl
theorem en7 {a0 a1 : Value} {h : x_H} : x_m 7 [a0, a1] h = x_run 7 0 [a0, a1, .null, .null] [] h := rfl
theorem en8 {a0 : Value} {h : x_H} : x_m 8 [a0] h = x_run 8 0 [a0, .null, .null] [] h := rfl
theorem en9 {a0 : Value} {h : x_H} : x_m 9 [a0] h = x_run 9 0 [a0, .null, .null] [] h := rfl
theorem en10 {a0 a1 : Value} {h : x_H} : x_m 10 [a0, a1] h = x_run 10 0 [a0, a1, .null, .null, .null, .null] [] h := rfl
theorem en11 {a0 a1 : Value} {h : x_H} : x_m 11 [a0, a1] h = x_run 11 0 [a0, a1, .null, .null] [] h := rfl
theorem en12 {a0 a1 : Value} {h : x_H} : x_m 12 [a0, a1] h = x_run 12 0 [a0, a1, .null, .null] [] h := rfl
theorem en13 {a0 a1 : Value} {h : x_H} : x_m 13 [a0, a1] h = x_run 13 0 [a0, a1] [] h := rfl
theorem en14 {a0 a1 a2 : Value} {h : x_H} : x_m 14 [a0, a1, a2] h = x_run 14 0 [a0, a1, a2, .null] [] h := rfl
theorem en15 {a0 a1 a2 a3 : Value} {h : x_H} : x_m 15 [a0, a1, a2, a3] h = x_run 15 0 [a0, a1, a2, a3, .null] [] h := rfl
theorem en16 {a0 a1 : Value} {h : x_H} : x_m 16 [a0, a1] h = x_run 16 0 [a0, a1, .null, .null] [] h := rfl
theorem en100 {a0 a1 a2 a3 : Value} {h : x_H} : x_m 100 [a0, a1, a2, a3] h = x_run 100 0 [a0, a1, a2, a3] [] h := rfl
theorem en101 {a0 a1 : Value} {h : x_H} : x_m 101 [a0, a1] h = x_run 101 0 [a0, a1] [] h := rfl
theorem en102 {a0 a1 a2 a3 : Value} {h : x_H} : x_m 102 [a0, a1, a2, a3] h = x_run 102 0 [a0, a1, a2, a3, .null, .null, .null] [] h := rfl
theorem en103 {a0 a1 a2 a3 : Value} {h : x_H} : x_m 103 [a0, a1, a2, a3] h = x_run 103 0 [a0, a1, a2, a3, .null] [] h := rfl
theorem en104 {a0 a1 a2 a3 : Value} {h : x_H} : x_m 104 [a0, a1, a2, a3] h = x_run 104 0 [a0, a1, a2, a3, .null] [] h := rfl
theorem en105 {a0 a1 a2 : Value} {h : x_H} : x_m 105 [a0, a1, a2] h = x_run 105 0 [a0, a1, a2, .null, .null] [] h := rfl
theorem en106 {a0 a1 : Value} {h : x_H} : x_m 106 [a0, a1] h = x_run 106 0 [a0, a1, .null] [] h := rfl
theorem en107 {a0 a1 : Value} {h : x_H} : x_m 107 [a0, a1] h = x_run 107 0 [a0, a1, .null] [] h := rfl
theorem en108 {a0 a1 : Value} {h : x_H} : x_m 108 [a0, a1] h = x_run 108 0 [a0, a1, .null, .null] [] h := rfl
theorem en109 {a0 a1 : Value} {h : x_H} : x_m 109 [a0, a1] h = x_run 109 0 [a0, a1, .null] [] h := rfl
theorem en110 {a0 : Value} {h : x_H} : x_m 110 [a0] h = x_run 110 0 [a0, .null] [] h := rfl
theorem en200 {a0 : Value} {h : x_H} : x_m 200 [a0] h = x_run 200 0 [a0] [] h := rfl
theorem en201 {a0 a1 : Value} {h : x_H} : x_m 201 [a0, a1] h = x_run 201 0 [a0, a1] [] h := rfl
theorem en202 {a0 a1 : Value} {h : x_H} : x_m 202 [a0, a1] h = x_run 202 0 [a0, a1] [] h := rfl
theorem en203 {a0 a1 : Value} {h : x_H} : x_m 203 [a0, a1] h = x_run 203 0 [a0, a1] [] h := rfl
theorem en204 {a0 a1 : Value} {h : x_H} : x_m 204 [a0, a1] h = x_run 204 0 [a0, a1] [] h := rfl
theorem en205 {a0 : Value} {h : x_H} : x_m 205 [a0] h = x_run 205 0 [a0, .null, .null, .null, .null] [] h := rfl
theorem en206 {a0 a1 a2 : Value} {h : x_H} : x_m 206 [a0, a1, a2] h = x_run 206 0 [a0, a1, a2, .null, .null] [] h := rfl
theorem en207 {a0 a1 : Value} {h : x_H} : x_m 207 [a0, a1] h = x_run 207 0 [a0, a1] [] h := rfl
theorem en208 {a0 : Value} {h : x_H} : x_m 208 [a0] h = x_run 208 0 [a0] [] h := rfl
theorem en300 {a0 a1 : Value} {h : x_H} : x_m 300 [a0, a1] h = x_run 300 0 [a0, a1, .null] [] h := rfl
theorem en301 {a0 : Value} {h : x_H} : x_m 301 [a0] h = x_run 301 0 [a0] [] h := rfl
theorem en302 {a0 : Value} {h : x_H} : x_m 302 [a0] h = x_run 302 0 [a0] [] h := rfl
theorem en303 {a0 : Value} {h : x_H} : x_m 303 [a0] h = x_run 303 0 [a0] [] h := rfl
theorem en304 {a0 : Value} {h : x_H} : x_m 304 [a0] h = x_run 304 0 [a0] [] h := rfl
theorem en305 {a0 : Value} {h : x_H} : x_m 305 [a0] h = x_run 305 0 [a0] [] h := rfl
theorem en306 {a0 : Value} {h : x_H} : x_m 306 [a0] h = x_run 306 0 [a0] [] h := rfl
theorem en400 {a0 : Value} {h : x_H} : x_m 400 [a0] h = x_run 400 0 [a0] [] h := rfl
theorem en401 {a0 a1 a2 : Value} {h : x_H} : x_m 401 [a0, a1, a2] h = x_run 401 0 [a0, a1, a2] [] h := rfl
theorem en500 {a0 a1 : Value} {h : x_H} : x_m 500 [a0, a1] h = x_run 500 0 [a0, a1] [] h := rfl
theorem en501 {a0 a1 : Value} {h : x_H} : x_m 501 [a0, a1] h = x_run 501 0 [a0, a1, .null, .null] [] h := rfl
theorem en502 {a0 a1 a2 : Value} {h : x_H} : x_m 502 [a0, a1, a2] h = x_run 502 0 [a0, a1, a2] [] h := rfl
theorem en503 {a0 a1 : Value} {h : x_H} : x_m 503 [a0, a1] h = x_run 503 0 [a0, a1, .null, .null, .null] [] h := rfl
theorem en504 {a0 : Value} {h : x_H} : x_m 504 [a0] h = x_run 504 0 [a0, .null, .null] [] h := rfl
theorem en505 {a0 a1 : Value} {h : x_H} : x_m 505 [a0, a1] h = x_run 505 0 [a0, a1, .null, .null] [] h := rfl
theorem en506 {a0 : Value} {h : x_H} : x_m 506 [a0] h = x_run 506 0 [a0, .null] [] h := rfl
theorem en507 {a0 a1 : Value} {h : x_H} : x_m 507 [a0, a1] h = x_run 507 0 [a0, a1] [] h := rfl
theorem en508 {a0 : Value} {h : x_H} : x_m 508 [a0] h = x_run 508 0 [a0, .null, .null] [] h := rfl
theorem en509 {a0 a1 : Value} {h : x_H} : x_m 509 [a0, a1] h = x_run 509 0 [a0, a1, .null, .null, .null] [] h := rfl
theorem en510 {a0 a1 : Value} {h : x_H} : x_m 510 [a0, a1] h = x_run 510 0 [a0, a1] [] h := rfl
theorem en511 {a0 a1 a2 : Value} {h : x_H} : x_m 511 [a0, a1, a2] h = x_run 511 0 [a0, a1, a2, .null, .null, .null] [] h := rfl
theorem en512 {a0 a1 : Value} {h : x_H} : x_m 512 [a0, a1] h = x_run 512 0 [a0, a1, .null, .null, .null] [] h := rfl
theorem en513 {a0 a1 : Value} {h : x_H} : x_m 513 [a0, a1] h = x_run 513 0 [a0, a1, .null, .null] [] h := rfl
theorem en600 {a0 : Value} {h : x_H} : x_m 600 [a0] h = x_run 600 0 [a0] [] h := rfl
theorem en601 {a0 a1 a2 : Value} {h : x_H} : x_m 601 [a0, a1, a2] h = x_run 601 0 [a0, a1, a2, .null] [] h := rfl
theorem en602 {a0 a1 : Value} {h : x_H} : x_m 602 [a0, a1] h = x_run 602 0 [a0, a1] [] h := rfl
theorem en603 {a0 a1 : Value} {h : x_H} : x_m 603 [a0, a1] h = x_run 603 0 [a0, a1, .null] [] h := rfl
theorem en700 {a0 : Value} {h : x_H} : x_m 700 [a0] h = x_run 700 0 [a0] [] h := rfl
theorem en701 {a0 a1 : Value} {h : x_H} : x_m 701 [a0, a1] h = x_run 701 0 [a0, a1] [] h := rfl
theorem en702 {a0 a1 a2 a3 : Value} {h : x_H} : x_m 702 [a0, a1, a2, a3] h = x_run 702 0 [a0, a1, a2, a3] [] h := rfl
theorem en703 {a0 a1 a2 a3 : Value} {h : x_H} : x_m 703 [a0, a1, a2, a3] h = x_run 703 0 [a0, a1, a2, a3] [] h := rfl
theorem en704 {a0 a1 a2 a3 : Value} {h : x_H} : x_m 704 [a0, a1, a2, a3] h = x_run 704 0 [a0, a1, a2, a3] [] h := rfl
theorem en705 {a0 a1 : Value} {h : x_H} : x_m 705 [a0, a1] h = x_run 705 0 [a0, a1] [] h := rfl
theorem en706 {a0 a1 : Value} {h : x_H} : x_m 706 [a0, a1] h = x_run 706 0 [a0, a1] [] h := rfl
theorem en707 {a0 a1 : Value} {h : x_H} : x_m 707 [a0, a1] h = x_run 707 0 [a0, a1] [] h := rfl
theorem en708 {a0 a1 a2 : Value} {h : x_H} : x_m 708 [a0, a1, a2] h = x_run 708 0 [a0, a1, a2] [] h := rfl
theorem en709 {a0 a1 a2 : Value} {h : x_H} : x_m 709 [a0, a1, a2] h = x_run 709 0 [a0, a1, a2] [] h := rfl
theorem en710 {a0 a1 a2 a3 : Value} {h : x_H} : x_m 710 [a0, a1, a2, a3] h = x_run 710 0 [a0, a1, a2, a3] [] h := rfl
theorem en711 {a0 a1 a2 : Value} {h : x_H} : x_m 711 [a0, a1, a2] h = x_run 711 0 [a0, a1, a2] [] h := rfl
theorem en712 {a0 a1 a2 a3 a4 : Value} {h : x_H} : x_m 712 [a0, a1, a2, a3, a4] h = x_run 712 0 [a0, a1, a2, a3, a4] [] h := rfl
theorem en713 {a0 a1 : Value} {h : x_H} : x_m 713 [a0, a1] h = x_run 713 0 [a0, a1] [] h := rfl
theorem en714 {a0 a1 : Value} {h : x_H} : x_m 714 [a0, a1] h = x_run 714 0 [a0, a1] [] h := rfl
theorem en715 {a0 a1 a2 : Value} {h : x_H} : x_m 715 [a0, a1, a2] h = x_run 715 0 [a0, a1, a2] [] h := rfl
theorem en716 {a0 a1 : Value} {h : x_H} : x_m 716 [a0, a1] h = x_run 716 0 [a0, a1] [] h := rfl
theorem en717 {a0 a1 : Value} {h : x_H} : x_m 717 [a0, a1] h = x_run 717 0 [a0, a1] [] h := rfl
theorem en718 {a0 : Value} {h : x_H} : x_m 718 [a0] h = x_run 718 0 [a0] [] h := rfl
theorem en719 {a0 : Value} {h : x_H} : x_m 719 [a0] h = x_run 719 0 [a0] [] h := rfl
theorem en720 {a0 a1 : Value} {h : x_H} : x_m 720 [a0, a1] h = x_run 720 0 [a0, a1] [] h := rfl
theorem en721 {a0 a1 : Value} {h : x_H} : x_m 721 [a0, a1] h = x_run 721 0 [a0, a1, .null, .null] [] h := rfl
theorem en722 {a0 a1 : Value} {h : x_H} : x_m 722 [a0, a1] h = x_run 722 0 [a0, a1] [] h := rfl
theorem en723 {a0 : Value} {h : x_H} : x_m 723 [a0] h = x_run 723 0 [a0, .null, .null, .null] [] h := rfl
theorem en724 {a0 : Value} {h : x_H} : x_m 724 [a0] h = x_run 724 0 [a0] [] h := rfl
theorem en725 {a0 a1 : Value} {h : x_H} : x_m 725 [a0, a1] h = x_run 725 0 [a0, a1] [] h := rfl
theorem en726 {a0 a1 a2 : Value} {h : x_H} : x_m 726 [a0, a1, a2] h = x_run 726 0 [a0, a1, a2] [] h := rfl
theorem en727 {a0 a1 : Value} {h : x_H} : x_m 727 [a0, a1] h = x_run 727 0 [a0, a1] [] h := rfl
theorem en728 {a0 : Value} {h : x_H} : x_m 728 [a0] h = x_run 728 0 [a0, .null] [] h := rfl
theorem en729 {a0 : Value} {h : x_H} : x_m 729 [a0] h = x_run 729 0 [a0] [] h := rfl
theorem en730 {a0 a1 : Value} {h : x_H} : x_m 730 [a0, a1] h = x_run 730 0 [a0, a1] [] h := rfl
theorem en731 {a0 : Value} {h : x_H} : x_m 731 [a0] h = x_run 731 0 [a0] [] h := rfl
theorem en732 {a0 : Value} {h : x_H} : x_m 732 [a0] h = x_run 732 0 [a0] [] h := rfl
theorem en733 {a0 : Value} {h : x_H} : x_m 733 [a0] h = x_run 733 0 [a0] [] h := rfl
theorem en734 {a0 a1 : Value} {h : x_H} : x_m 734 [a0, a1] h = x_run 734 0 [a0, a1] [] h := rfl
theorem en735 {a0 a1 : Value} {h : x_H} : x_m 735 [a0, a1] h = x_run 735 0 [a0, a1, .null, .null] [] h := rfl
theorem en736 {a0 a1 : Value} {h : x_H} : x_m 736 [a0, a1] h = x_run 736 0 [a0, a1] [] h := rfl
theorem en737 {a0 a1 a2 : Value} {h : x_H} : x_m 737 [a0, a1, a2] h = x_run 737 0 [a0, a1, a2] [] h := rfl
theorem en738 {a0 a1 a2 a3 : Value} {h : x_H} : x_m 738 [a0, a1, a2, a3] h = x_run 738 0 [a0, a1, a2, a3] [] h := rfl
theorem en739 {a0 a1 a2 : Value} {h : x_H} : x_m 739 [a0, a1, a2] h = x_run 739 0 [a0, a1, a2] [] h := rfl
theorem en740 {a0 a1 a2 : Value} {h : x_H} : x_m 740 [a0, a1, a2] h = x_run 740 0 [a0, a1, a2] [] h := rfl
theorem en741 {a0 a1 : Value} {h : x_H} : x_m 741 [a0, a1] h = x_run 741 0 [a0, a1, .null] [] h := rfl
theorem en800 {a0 : Value} {h : x_H} : x_m 800 [a0] h = x_run 800 0 [a0] [] h := rfl
theorem en801 {a0 : Value} {h : x_H} : x_m 801 [a0] h = x_run 801 0 [a0] [] h := rfl
theorem en802 {a0 a1 : Value} {h : x_H} : x_m 802 [a0, a1] h = x_run 802 0 [a0, a1] [] h := rfl
theorem en803 {a0 a1 a2 : Value} {h : x_H} : x_m 803 [a0, a1, a2] h = x_run 803 0 [a0, a1, a2] [] h := rfl
theorem en804 {a0 a1 a2 : Value} {h : x_H} : x_m 804 [a0, a1, a2] h = x_run 804 0 [a0, a1, a2] [] h := rfl
theorem en805 {a0 a1 a2 a3 : Value} {h : x_H} : x_m 805 [a0, a1, a2, a3] h = x_run 805 0 [a0, a1, a2, a3, .null] [] h := rfl
theorem en806 {a0 a1 : Value} {h : x_H} : x_m 806 [a0, a1] h = x_run 806 0 [a0, a1, .null] [] h := rfl
theorem en807 {a0 a1 : Value} {h : x_H} : x_m 807 [a0, a1] h = x_run 807 0 [a0, a1] [] h := rfl
theorem en808 {a0 a1 a2 : Value} {h : x_H} : x_m 808 [a0, a1, a2] h = x_run 808 0 [a0, a1, a2] [] h := rfl
theorem en809 {a0 a1 a2 : Value} {h : x_H} : x_m 809 [a0, a1, a2] h = x_run 809 0 [a0, a1, a2] [] h := rfl
theorem en810 {a0 a1 : Value} {h : x_H} : x_m 810 [a0, a1] h = x_run 810 0 [a0, a1] [] h := rfl
theorem en811 {a0 a1 a2 : Value} {h : x_H} : x_m 811 [a0, a1, a2] h = x_run 811 0 [a0, a1, a2] [] h := rfl
theorem en812 {a0 a1 a2 a3 : Value} {h : x_H} : x_m 812 [a0, a1, a2, a3] h = x_run 812 0 [a0, a1, a2, a3] [] h := rfl
theorem en813 {a0 a1 : Value} {h : x_H} : x_m 813 [a0, a1] h = x_run 813 0 [a0, a1] [] h := rfl
theorem en814 {a0 a1 : Value} {h : x_H} : x_m 814 [a0, a1] h = x_run 814 0 [a0, a1] [] h := rfl
theorem en815 {a0 a1 : Value} {h : x_H} : x_m 815 [a0, a1] h = x_run 815 0 [a0, a1] [] h := rfl
theorem en816 {a0 a1 : Value} {h : x_H} : x_m 816 [a0, a1] h = x_run 816 0 [a0, a1, .null] [] h := rfl
theorem en817 {a0 a1 a2 : Value} {h : x_H} : x_m 817 [a0, a1, a2] h = x_run 817 0 [a0, a1, a2] [] h := rfl
theorem en818 {a0 a1 a2 a3 : Value} {h : x_H} : x_m 818 [a0, a1, a2, a3] h = x_run 818 0 [a0, a1, a2, a3, .null, .null, .null, .null] [] h := rfl
theorem en819 {a0 a1 a2 : Value} {h : x_H} : x_m 819 [a0, a1, a2] h = x_run 819 0 [a0, a1, a2, .null] [] h := rfl
theorem en820 {a0 a1 : Value} {h : x_H} : x_m 820 [a0, a1] h = x_run 820 0 [a0, a1, .null, .null] [] h := rfl
theorem en821 {a0 a1 a2 a3 : Value} {h : x_H} : x_m 821 [a0, a1, a2, a3] h = x_run 821 0 [a0, a1, a2, a3, .null, .null, .null] [] h := rfl
theorem en822 {a0 : Value} {h : x_H} : x_m 822 [a0] h = x_run 822 0 [a0, .null, .null] [] h := rfl
theorem en823 {a0 a1 a2 a3 : Value} {h : x_H} : x_m 823 [a0, a1, a2, a3] h = x_run 823 0 [a0, a1, a2, a3, .null] [] h := rfl
theorem en824 {a0 a1 a2 a3 : Value} {h : x_H} : x_m 824 [a0, a1, a2, a3] h = x_run 824 0 [a0, a1, a2, a3, .null] [] h := rfl
theorem en825 {a0 a1 a2 : Value} {h : x_H} : x_m 825 [a0, a1, a2] h = x_run 825 0 [a0, a1, a2] [] h := rfl
theorem en826 {a0 a1 a2 a3 : Value} {h : x_H} : x_m 826 [a0, a1, a2, a3] h = x_run 826 0 [a0, a1, a2, a3, .null] [] h := rfl
theorem en827 {a0 a1 a2 a3 : Value} {h : x_H} : x_m 827 [a0, a1, a2, a3] h = x_run 827 0 [a0, a1, a2, a3, .null] [] h := rfl
theorem en828 {a0 a1 a2 : Value} {h : x_H} : x_m 828 [a0, a1, a2] h = x_run 828 0 [a0, a1, a2, .null, .null, .null, .null, .null] [] h := rfl
theorem en829 {a0 a1 a2 a3 : Value} {h : x_H} : x_m 829 [a0, a1, a2, a3] h = x_run 829 0 [a0, a1, a2, a3, .null, .null] [] h := rfl
theorem en830 {a0 a1 : Value} {h : x_H} : x_m 830 [a0, a1] h = x_run 830 0 [a0, a1] [] h := rfl
theorem en831 {a0 a1 a2 : Value} {h : x_H} : x_m 831 [a0, a1, a2] h = x_run 831 0 [a0, a1, a2, .null, .null, .null] [] h := rfl
theorem en832 {a0 : Value} {h : x_H} : x_m 832 [a0] h = x_run 832 0 [a0, .null, .null] [] h := rfl
theorem en833 {a0 a1 : Value} {h : x_H} : x_m 833 [a0, a1] h = x_run 833 0 [a0, a1, .null, .null, .null, .null, .null] [] h := rfl
theorem en834 {a0 a1 : Value} {h : x_H} : x_m 834 [a0, a1] h = x_run 834 0 [a0, a1, .null, .null] [] h := rfl
theorem en835 {a0 a1 : Value} {h : x_H} : x_m 835 [a0, a1] h = x_run 835 0 [a0, a1, .null, .null] [] h := rfl
theorem en836 {a0 a1 : Value} {h : x_H} : x_m 836 [a0, a1] h = x_run 836 0 [a0, a1, .null] [] h := rfl
theorem en837 {a0 : Value} {h : x_H} : x_m 837 [a0] h = x_run 837 0 [a0, .null, .null] [] h := rfl
theorem en838 {a0 a1 a2 : Value} {h : x_H} : x_m 838 [a0, a1, a2] h = x_run 838 0 [a0, a1, a2, .null] [] h := rfl
theorem en839 {a0 a1 : Value} {h : x_H} : x_m 839 [a0, a1] h = x_run 839 0 [a0, a1, .null] [] h := rfl
theorem en840 {a0 a1 : Value} {h : x_H} : x_m 840 [a0, a1] h = x_run 840 0 [a0, a1, .null] [] h := rfl
theorem en841 {a0 a1 : Value} {h : x_H} : x_m 841 [a0, a1] h = x_run 841 0 [a0, a1, .null, .null, .null] [] h := rfl
theorem en842 {a0 a1 : Value} {h : x_H} : x_m 842 [a0, a1] h = x_run 842 0 [a0, a1, .null] [] h := rfl
theorem en843 {a0 a1 a2 : Value} {h : x_H} : x_m 843 [a0, a1, a2] h = x_run 843 0 [a0, a1, a2] [] h := rfl
theorem en844 {a0 a1 a2 : Value} {h : x_H} : x_m 844 [a0, a1, a2] h = x_run 844 0 [a0, a1, a2] [] h := rfl
theorem en845 {a0 a1 a2 a3 : Value} {h : x_H} : x_m 845 [a0, a1, a2, a3] h = x_run 845 0 [a0, a1, a2, a3, .null] [] h := rfl
theorem en846 {a0 a1 a2 : Value} {h : x_H} : x_m 846 [a0, a1, a2] h = x_run 846 0 [a0, a1, a2] [] h := rfl
theorem en847 {a0 a1 a2 a3 a4 : Value} {h : x_H} : x_m 847 [a0, a1, a2, a3, a4] h = x_run 847 0 [a0, a1, a2, a3, a4] [] h := rfl
theorem en848 {a0 a1 a2 : Value} {h : x_H} : x_m 848 [a0, a1, a2] h = x_run 848 0 [a0, a1, a2] [] h := rfl
theorem en849 {a0 a1 : Value} {h : x_H} : x_m 849 [a0, a1] h = x_run 849 0 [a0, a1] [] h := rfl
theorem en850 {a0 a1 : Value} {h : x_H} : x_m 850 [a0, a1] h = x_run 850 0 [a0, a1] [] h := rfl
theorem en851 {a0 a1 a2 : Value} {h : x_H} : x_m 851 [a0, a1, a2] h = x_run 851 0 [a0, a1, a2, .null, .null] [] h := rfl
theorem en852 {a0 a1 : Value} {h : x_H} : x_m 852 [a0, a1] h = x_run 852 0 [a0, a1, .null, .null] [] h := rfl
theorem en853 {a0 a1 : Value} {h : x_H} : x_m 853 [a0, a1] h = x_run 853 0 [a0, a1] [] h := rfl
theorem en854 {a0 : Value} {h : x_H} : x_m 854 [a0] h = x_run 854 0 [a0] [] h := rfl
theorem en855 {a0 : Value} {h : x_H} : x_m 855 [a0] h = x_run 855 0 [a0, .null, .null] [] h := rfl
theorem en856 {a0 a1 : Value} {h : x_H} : x_m 856 [a0, a1] h = x_run 856 0 [a0, a1, .null, .null, .null, .null] [] h := rfl
theorem en857 {a0 a1 a2 : Value} {h : x_H} : x_m 857 [a0, a1, a2] h = x_run 857 0 [a0, a1, a2] [] h := rfl
theorem en858 {a0 a1 : Value} {h : x_H} : x_m 858 [a0, a1] h = x_run 858 0 [a0, a1, .null, .null, .null] [] h := rfl
theorem en859 {a0 a1 : Value} {h : x_H} : x_m 859 [a0, a1] h = x_run 859 0 [a0, a1] [] h := rfl
theorem en860 {a0 : Value} {h : x_H} : x_m 860 [a0] h = x_run 860 0 [a0] [] h := rfl
theorem en861 {a0 a1 : Value} {h : x_H} : x_m 861 [a0, a1] h = x_run 861 0 [a0, a1] [] h := rfl
theorem en862 {a0 a1 a2 : Value} {h : x_H} : x_m 862 [a0, a1, a2] h = x_run 862 0 [a0, a1, a2, .null] [] h := rfl
theorem en863 {a0 : Value} {h : x_H} : x_m 863 [a0] h = x_run 863 0 [a0, .null] [] h := rfl
theorem en864 {a0 : Value} {h : x_H} : x_m 864 [a0] h = x_run 864 0 [a0] [] h := rfl
theorem en865 {a0 a1 : Value} {h : x_H} : x_m 865 [a0, a1] h = x_run 865 0 [a0, a1] [] h := rfl
theorem en866 {a0 : Value} {h : x_H} : x_m 866 [a0] h = x_run 866 0 [a0, .null, .null, .null] [] h := rfl
theorem en867 {a0 : Value} {h : x_H} : x_m 867 [a0] h = x_run 867 0 [a0] [] h := rfl
theorem en868 {a0 a1 : Value} {h : x_H} : x_m 868 [a0, a1] h = x_run 868 0 [a0, a1] [] h := rfl
theorem en869 {a0 a1 : Value} {h : x_H} : x_m 869 [a0, a1] h = x_run 869 0 [a0, a1] [] h := rfl
theorem en870 {a0 a1 a2 : Value} {h : x_H} : x_m 870 [a0, a1, a2] h = x_run 870 0 [a0, a1, a2, .null, .null] [] h := rfl
theorem en871 {a0 a1 : Value} {h : x_H} : x_m 871 [a0, a1] h = x_run 871 0 [a0, a1] [] h := rfl
theorem en872 {a0 a1 : Value} {h : x_H} : x_m 872 [a0, a1] h = x_run 872 0 [a0, a1, .null, .null] [] h := rfl
theorem en873 {a0 : Value} {h : x_H} : x_m 873 [a0] h = x_run 873 0 [a0, .null, .null] [] h := rfl
theorem en874 {a0 : Value} {h : x_H} : x_m 874 [a0] h = x_run 874 0 [a0, .null, .null] [] h := rfl
theorem en875 {a0 : Value} {h : x_H} : x_m 875 [a0] h = x_run 875 0 [a0] [] h := rfl
theorem en876 {a0 : Value} {h : x_H} : x_m 876 [a0] h = x_run 876 0 [a0] [] h := rfl
theorem en877 {a0 a1 : Value} {h : x_H} : x_m 877 [a0, a1] h = x_run 877 0 [a0, a1] [] h := rfl
theorem en878 {a0 : Value} {h : x_H} : x_m 878 [a0] h = x_run 878 0 [a0] [] h := rfl
theorem en879 {a0 : Value} {h : x_H} : x_m 879 [a0] h = x_run 879 0 [a0] [] h := rfl
theorem en880 {a0 : Value} {h : x_H} : x_m 880 [a0] h = x_run 880 0 [a0] [] h := rfl
theorem en900 {a0 a1 a2 : Value} {h : x_H} : x_m 900 [a0, a1, a2] h = x_run 900 0 [a0, a1, a2, .null] [] h := rfl
theorem en901 {a0 a1 a2 a3 a4 : Value} {h : x_H} : x_m 901 [a0, a1, a2, a3, a4] h = x_run 901 0 [a0, a1, a2, a3, a4, .null] [] h := rfl
theorem en902 {a0 a1 a2 a3 a4 : Value} {h : x_H} : x_m 902 [a0, a1, a2, a3, a4] h = x_run 902 0 [a0, a1, a2, a3, a4, .null] [] h := rfl
theorem en903 {a0 a1 a2 a3 a4 : Value} {h : x_H} : x_m 903 [a0, a1, a2, a3, a4] h = x_run 903 0 [a0, a1, a2, a3, a4, .null] [] h := rfl
theorem en904 {a0 a1 a2 : Value} {h : x_H} : x_m 904 [a0, a1, a2] h = x_run 904 0 [a0, a1, a2, .null] [] h := rfl
theorem en905 {a0 a1 a2 : Value} {h : x_H} : x_m 905 [a0, a1, a2] h = x_run 905 0 [a0, a1, a2, .null] [] h := rfl
theorem en906 {a0 a1 a2 : Value} {h : x_H} : x_m 906 [a0, a1, a2] h = x_run 906 0 [a0, a1, a2, .null] [] h := rfl
theorem en907 {a0 a1 a2 a3 : Value} {h : x_H} : x_m 907 [a0, a1, a2, a3] h = x_run 907 0 [a0, a1, a2, a3, .null] [] h := rfl
theorem en908 {a0 a1 a2 a3 : Value} {h : x_H} : x_m 908 [a0, a1, a2, a3] h = x_run 908 0 [a0, a1, a2, a3, .null] [] h := rfl
theorem en909 {a0 a1 a2 a3 a4 : Value} {h : x_H} : x_m 909 [a0, a1, a2, a3, a4] h = x_run 909 0 [a0, a1, a2, a3, a4, .null] [] h := rfl
theorem en910 {a0 a1 a2 a3 : Value} {h : x_H} : x_m 910 [a0, a1, a2, a3] h = x_run 910 0 [a0, a1, a2, a3, .null] [] h := rfl
theorem en911 {a0 a1 a2 a3 a4 a5 : Value} {h : x_H} : x_m 911 [a0, a1, a2, a3, a4, a5] h = x_run 911 0 [a0, a1, a2, a3, a4, a5, .null] [] h := rfl
theorem en912 {a0 a1 a2 : Value} {h : x_H} : x_m 912 [a0, a1, a2] h = x_run 912 0 [a0, a1, a2, .null] [] h := rfl
theorem en913 {a0 a1 a2 : Value} {h : x_H} : x_m 913 [a0, a1, a2] h = x_run 913 0 [a0, a1, a2, .null] [] h := rfl
theorem en914 {a0 a1 a2 a3 : Value} {h : x_H} : x_m 914 [a0, a1, a2, a3] h = x_run 914 0 [a0, a1, a2, a3, .null] [] h := rfl
theorem en915 {a0 a1 a2 : Value} {h : x_H} : x_m 915 [a0, a1, a2] h = x_run 915 0 [a0, a1, a2, .null] [] h := rfl
theorem en916 {a0 a1 a2 : Value} {h : x_H} : x_m 916 [a0, a1, a2] h = x_run 916 0 [a0, a1, a2, .null] [] h := rfl
theorem en917 {a0 a1 a2 : Value} {h : x_H} : x_m 917 [a0, a1, a2] h = x_run 917 0 [a0, a1, a2, .null] [] h := rfl
theorem en918 {a0 a1 a2 : Value} {h : x_H} : x_m 918 [a0, a1, a2] h = x_run 918 0 [a0, a1, a2, .null] [] h := rfl
theorem en919 {a0 a1 a2 : Value} {h : x_H} : x_m 919 [a0, a1, a2] h = x_run 919 0 [a0, a1, a2, .null] [] h := rfl
theorem en920 {a0 a1 : Value} {h : x_H} : x_m 920 [a0, a1] h = x_run 920 0 [a0, a1, .null] [] h := rfl
theorem en921 {a0 a1 a2 : Value} {h : x_H} : x_m 921 [a0, a1, a2] h = x_run 921 0 [a0, a1, a2, .null] [] h := rfl
theorem en922 {a0 a1 a2 a3 : Value} {h : x_H} : x_m 922 [a0, a1, a2, a3] h = x_run 922 0 [a0, a1, a2, a3, .null] [] h := rfl
theorem en923 {a0 a1 a2 : Value} {h : x_H} : x_m 923 [a0, a1, a2] h = x_run 923 0 [a0, a1, a2, .null] [] h := rfl
theorem en924 {a0 a1 : Value} {h : x_H} : x_m 924 [a0, a1] h = x_run 924 0 [a0, a1, .null] [] h := rfl
theorem en925 {a0 a1 a2 : Value} {h : x_H} : x_m 925 [a0, a1, a2] h = x_run 925 0 [a0, a1, a2, .null] [] h := rfl
theorem en926 {a0 a1 : Value} {h : x_H} : x_m 926 [a0, a1] h = x_run 926 0 [a0, a1, .null] [] h := rfl
theorem en927 {a0 a1 : Value} {h : x_H} : x_m 927 [a0, a1] h = x_run 927 0 [a0, a1, .null] [] h := rfl
theorem en928 {a0 : Value} {h : x_H} : x_m 928 [a0] h = x_run 928 0 [a0, .null, .null, .null, .null, .null, .null, .null, .null, .null] [] h := rfl
