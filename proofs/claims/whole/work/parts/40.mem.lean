def q_tab : List ((Nat → Int) → x_E) := [
  fun f => .inr (9, [.ref 1, .ref 13, .ref 21, .ref 22, .ref 23, .ref 145, .ref 147, .int (q_i (f 7))]),
  fun f => .inr (2, [.int (q_i (f 0)), .int (q_i (f 1)), .ref 2, .ref 3, .ref 4, .ref 5, .ref 6, .ref 7, .ref 8, .ref 9, .ref 10, .ref 11, .ref 12]),
  fun f => .inl (1, q_ar 6 f),
  fun f => .inl (1, q_ar 6 f),
  fun f => .inl (0, q_ar 6 f),
  fun f => .inl (0, q_ar 6 f),
  fun f => .inl (0, q_ar 6 f),
  fun f => .inl (0, q_ar 6 f),
  fun f => .inl (0, q_ar 6 f),
  fun f => .inl (0, q_ar 24 f),
  fun f => .inl (0, q_ar 96 f),
  fun f => .inl (1, q_ar 48 f),
  fun f => .inl (1, q_ar 48 f),
  fun f => .inr (7, [.ref 1, .ref 14, .ref 15, .ref 16, .ref 17, .ref 18, .int (q_i (f 6)), .int (q_i (f 7)), .int (q_i (f 8)), .int (q_i (f 9)), .ref 19, .ref 20, .int (q_i (f 12)), .int (q_i (f 13)), .int (q_i (f 14))]),
  fun f => .inl (0, q_ar 96 f),
  fun f => .inl (0, q_ar 48 f),
  fun f => .inl (0, q_ar 96 f),
  fun f => .inl (0, q_ar 96 f),
  fun f => .inl (1, q_ar 96 f),
  fun f => .inl (1, q_ar 96 f),
  fun f => .inl (1, q_ar 48 f),
  fun f => .inr (6, [.int (q_i (f 0)), .int (q_i (f 1)), .int (q_i (f 2)), .int (q_i (f 3))]),
  fun f => .inr (3, [.ref 1, .ref 13, .ref 21]),
  fun f => .inr (5, [.ref 1, .ref 24, .ref 25, .int (q_i (f 3)), .int (q_i (f 4)), .int (q_i (f 5))]),
  fun f => .inr (102, [.ref 37, .ref 49, .ref 61, .ref 73, .ref 85, .ref 97, .ref 109, .ref 121, .ref 133]),
  fun f => .inr (2, [.int (q_i (f 0)), .int (q_i (f 1)), .ref 26, .ref 27, .ref 28, .ref 29, .ref 30, .ref 31, .ref 32, .ref 33, .ref 34, .ref 35, .ref 36]),
  fun f => .inl (1, q_ar 6 f),
  fun f => .inl (1, q_ar 6 f),
  fun f => .inl (0, q_ar 6 f),
  fun f => .inl (0, q_ar 6 f),
  fun f => .inl (0, q_ar 6 f),
  fun f => .inl (0, q_ar 6 f),
  fun f => .inl (0, q_ar 6 f),
  fun f => .inl (0, q_ar 24 f),
  fun f => .inl (0, q_ar 96 f),
  fun f => .inl (1, q_ar 48 f),
  fun f => .inl (1, q_ar 48 f),
  fun f => .inr (2, [.int (q_i (f 0)), .int (q_i (f 1)), .ref 38, .ref 39, .ref 40, .ref 41, .ref 42, .ref 43, .ref 44, .ref 45, .ref 46, .ref 47, .ref 48]),
  fun f => .inl (1, q_ar 6 f),
  fun f => .inl (1, q_ar 6 f),
  fun f => .inl (0, q_ar 6 f),
  fun f => .inl (0, q_ar 6 f),
  fun f => .inl (0, q_ar 6 f),
  fun f => .inl (0, q_ar 6 f),
  fun f => .inl (0, q_ar 6 f),
  fun f => .inl (0, q_ar 24 f),
  fun f => .inl (0, q_ar 96 f),
  fun f => .inl (1, q_ar 48 f),
  fun f => .inl (1, q_ar 48 f),
  fun f => .inr (2, [.int (q_i (f 0)), .int (q_i (f 1)), .ref 50, .ref 51, .ref 52, .ref 53, .ref 54, .ref 55, .ref 56, .ref 57, .ref 58, .ref 59, .ref 60]),
  fun f => .inl (1, q_ar 6 f),
  fun f => .inl (1, q_ar 6 f),
  fun f => .inl (0, q_ar 6 f),
  fun f => .inl (0, q_ar 6 f),
  fun f => .inl (0, q_ar 6 f),
  fun f => .inl (0, q_ar 6 f),
  fun f => .inl (0, q_ar 6 f),
  fun f => .inl (0, q_ar 24 f),
  fun f => .inl (0, q_ar 96 f),
  fun f => .inl (1, q_ar 48 f),
  fun f => .inl (1, q_ar 48 f),
  fun f => .inr (2, [.int (q_i (f 0)), .int (q_i (f 1)), .ref 62, .ref 63, .ref 64, .ref 65, .ref 66, .ref 67, .ref 68, .ref 69, .ref 70, .ref 71, .ref 72]),
  fun f => .inl (1, q_ar 6 f),
  fun f => .inl (1, q_ar 6 f),
  fun f => .inl (0, q_ar 6 f),
  fun f => .inl (0, q_ar 6 f),
  fun f => .inl (0, q_ar 6 f),
  fun f => .inl (0, q_ar 6 f),
  fun f => .inl (0, q_ar 6 f),
  fun f => .inl (0, q_ar 24 f),
  fun f => .inl (0, q_ar 96 f),
  fun f => .inl (1, q_ar 48 f),
  fun f => .inl (1, q_ar 48 f),
  fun f => .inr (2, [.int (q_i (f 0)), .int (q_i (f 1)), .ref 74, .ref 75, .ref 76, .ref 77, .ref 78, .ref 79, .ref 80, .ref 81, .ref 82, .ref 83, .ref 84]),
  fun f => .inl (1, q_ar 6 f),
  fun f => .inl (1, q_ar 6 f),
  fun f => .inl (0, q_ar 6 f),
  fun f => .inl (0, q_ar 6 f),
  fun f => .inl (0, q_ar 6 f),
  fun f => .inl (0, q_ar 6 f),
  fun f => .inl (0, q_ar 6 f),
  fun f => .inl (0, q_ar 24 f),
  fun f => .inl (0, q_ar 96 f),
  fun f => .inl (1, q_ar 48 f),
  fun f => .inl (1, q_ar 48 f),
  fun f => .inr (2, [.int (q_i (f 0)), .int (q_i (f 1)), .ref 86, .ref 87, .ref 88, .ref 89, .ref 90, .ref 91, .ref 92, .ref 93, .ref 94, .ref 95, .ref 96]),
  fun f => .inl (1, q_ar 6 f),
  fun f => .inl (1, q_ar 6 f),
  fun f => .inl (0, q_ar 6 f),
  fun f => .inl (0, q_ar 6 f),
  fun f => .inl (0, q_ar 6 f),
  fun f => .inl (0, q_ar 6 f),
  fun f => .inl (0, q_ar 6 f),
  fun f => .inl (0, q_ar 24 f),
  fun f => .inl (0, q_ar 96 f),
  fun f => .inl (1, q_ar 48 f),
  fun f => .inl (1, q_ar 48 f),
  fun f => .inr (2, [.int (q_i (f 0)), .int (q_i (f 1)), .ref 98, .ref 99, .ref 100, .ref 101, .ref 102, .ref 103, .ref 104, .ref 105, .ref 106, .ref 107, .ref 108]),
  fun f => .inl (1, q_ar 6 f),
  fun f => .inl (1, q_ar 6 f),
  fun f => .inl (0, q_ar 6 f),
  fun f => .inl (0, q_ar 6 f),
  fun f => .inl (0, q_ar 6 f),
  fun f => .inl (0, q_ar 6 f),
  fun f => .inl (0, q_ar 6 f),
  fun f => .inl (0, q_ar 24 f),
  fun f => .inl (0, q_ar 96 f),
  fun f => .inl (1, q_ar 48 f),
  fun f => .inl (1, q_ar 48 f),
  fun f => .inr (2, [.int (q_i (f 0)), .int (q_i (f 1)), .ref 110, .ref 111, .ref 112, .ref 113, .ref 114, .ref 115, .ref 116, .ref 117, .ref 118, .ref 119, .ref 120]),
  fun f => .inl (1, q_ar 6 f),
  fun f => .inl (1, q_ar 6 f),
  fun f => .inl (0, q_ar 6 f),
  fun f => .inl (0, q_ar 6 f),
  fun f => .inl (0, q_ar 6 f),
  fun f => .inl (0, q_ar 6 f),
  fun f => .inl (0, q_ar 6 f),
  fun f => .inl (0, q_ar 24 f),
  fun f => .inl (0, q_ar 96 f),
  fun f => .inl (1, q_ar 48 f),
  fun f => .inl (1, q_ar 48 f),
  fun f => .inr (2, [.int (q_i (f 0)), .int (q_i (f 1)), .ref 122, .ref 123, .ref 124, .ref 125, .ref 126, .ref 127, .ref 128, .ref 129, .ref 130, .ref 131, .ref 132]),
  fun f => .inl (1, q_ar 6 f),
  fun f => .inl (1, q_ar 6 f),
  fun f => .inl (0, q_ar 6 f),
  fun f => .inl (0, q_ar 6 f),
  fun f => .inl (0, q_ar 6 f),
  fun f => .inl (0, q_ar 6 f),
  fun f => .inl (0, q_ar 6 f),
  fun f => .inl (0, q_ar 24 f),
  fun f => .inl (0, q_ar 96 f),
  fun f => .inl (1, q_ar 48 f),
  fun f => .inl (1, q_ar 48 f),
  fun f => .inr (2, [.int (q_i (f 0)), .int (q_i (f 1)), .ref 134, .ref 135, .ref 136, .ref 137, .ref 138, .ref 139, .ref 140, .ref 141, .ref 142, .ref 143, .ref 144]),
  fun f => .inl (1, q_ar 6 f),
  fun f => .inl (1, q_ar 6 f),
  fun f => .inl (0, q_ar 6 f),
  fun f => .inl (0, q_ar 6 f),
  fun f => .inl (0, q_ar 6 f),
  fun f => .inl (0, q_ar 6 f),
  fun f => .inl (0, q_ar 6 f),
  fun f => .inl (0, q_ar 24 f),
  fun f => .inl (0, q_ar 96 f),
  fun f => .inl (1, q_ar 48 f),
  fun f => .inl (1, q_ar 48 f),
  fun f => .inr (4, [.ref 146, .int (q_i (f 1))]),
  fun f => .inl (2, q_ar 60 f),
  fun f => .inr (8, [.ref 148, .int (q_i (f 1))]),
  fun f => .inl (2, q_ar 16 f),
  fun f => .inr (10, [.ref 150, .ref 151, .ref 152, .ref 153, .int (q_i (f 4)), .int (q_i (f 5)), .int (q_i (f 6)), .int (q_i (f 7)), .int (q_i (f 8)), .int (q_i (f 9)), .int (q_i (f 10)), .ref 154, .int (q_i (f 12)), .int (q_i (f 13)), .ref 155, .int (q_i (f 15)), .ref 156, .ref 157, .ref 158, .int (q_i (f 19)), .int (q_i (f 20)), .ref 159, .int (q_i (f 22))]),
  fun f => .inl (0, q_ar 199 f),
  fun f => .inl (0, q_ar 1592 f),
  fun f => .inl (0, q_ar 199 f),
  fun f => .inl (0, q_ar 199 f),
  fun f => .inl (0, q_ar 60 f),
  fun f => .inl (2, q_ar 20 f),
  fun f => .inl (0, q_ar 96 f),
  fun f => .inl (0, q_ar 96 f),
  fun f => .inl (0, q_ar 48 f),
  fun f => .inl (0, q_ar 128 f),
  fun f => .inr (100, [.long (q_i (f 0)).toInt64]),
  fun f => .inr (101, [.double (UInt64.ofNat (f 0).toNat)])]
/-- the heap of a memory: what lies at each address is told by a row of ints -/
def q_H (m : Nat → Nat → Int) (K : Nat × Nat) (s : List Int32) : x_H := (fun a => if a < 162 then (q_tab.getD a (fun _ => .inl (0, []))) (m a) else if a = 10000 then .inl (0, s) else .inl (0, []), 162, K.1, K.2)
def q_M (m : Nat → Nat → Int) (a k : Nat) (v : Int) : Nat → Nat → Int := fun b j => if b = a ∧ j = k then v else m b j
theorem q_M_s {m : Nat → Nat → Int} {a k : Nat} {v : Int} : q_M m a k v a k = v := if_pos ⟨rfl, rfl⟩
theorem q_M_a {m : Nat → Nat → Int} {a b k : Nat} {v : Int} (h : b ≠ a) : q_M m a k v b = m b := funext fun _ => if_neg fun z => h z.1
theorem q_M_k {m : Nat → Nat → Int} {a k j : Nat} {v : Int} (h : j ≠ k) : q_M m a k v a j = m a j := if_neg fun z => h z.2
theorem q_M_u {m : Nat → Nat → Int} {a k : Nat} {v : Int} : q_M m a k v a = q_upd (m a) k v := funext fun j => by unfold q_M q_upd; simp
theorem q_M_M {m : Nat → Nat → Int} {a k : Nat} {u v : Int} : q_M (q_M m a k u) a k v = q_M m a k v := by funext b j; unfold q_M; split <;> simp_all
theorem q_H_at {m : Nat → Nat → Int} {K : Nat × Nat} {s : List Int32} {a : Nat} (h : a < 162) : (q_H m K s).1 a = (q_tab.getD a (fun _ => .inl (0, []))) (m a) := if_pos h
theorem q_H_scr {m : Nat → Nat → Int} {K : Nat × Nat} {s : List Int32} : (q_H m K s).1 10000 = .inl (0, s) := rfl
/-- a row of the memory is put anew -/
def q_P (m : Nat → Nat → Int) (a : Nat) (f : Nat → Int) : Nat → Nat → Int := fun b => if b = a then f else m b
theorem q_P_s {m : Nat → Nat → Int} {a : Nat} {f : Nat → Int} : q_P m a f a = f := if_pos rfl
theorem q_P_a {m : Nat → Nat → Int} {a b : Nat} {f : Nat → Int} (h : b ≠ a) : q_P m a f b = m b := if_neg h
theorem q_P_P {m : Nat → Nat → Int} {a : Nat} {f g : Nat → Int} : q_P (q_P m a f) a g = q_P m a g := by funext b; unfold q_P; split <;> rfl
theorem q_P_id {m : Nat → Nat → Int} {a : Nat} : q_P m a (m a) = m := by
  funext b
  unfold q_P
  split
  · rename_i h
    rw [h]
  · rfl
theorem q_M_P {m : Nat → Nat → Int} {a k : Nat} {v : Int} : q_M m a k v = q_P m a (q_upd (m a) k v) := by
  funext b j
  unfold q_M q_P q_upd
  by_cases h : b = a
  · subst h
    simp
  · simp [h]
theorem q_P_M {m : Nat → Nat → Int} {a k : Nat} {v : Int} {f : Nat → Int} : q_M (q_P m a f) a k v = q_P m a (q_upd f k v) := by rw [q_M_P, q_P_s, q_P_P]
theorem q_H_up {m : Nat → Nat → Int} {K : Nat × Nat} {s : List Int32} {a k : Nat} {v : Int} {e : x_E} (h : a < 162) (he : e = (q_tab.getD a (fun _ => .inl (0, []))) (q_M m a k v a)) : (x_up (q_H m K s).1 a e, (q_H m K s).2) = q_H (q_M m a k v) K s := by
  unfold q_H x_up
  congr 1
  funext j
  by_cases hj : j = a
  · subst hj
    rw [if_pos rfl, if_pos h]
    exact he
  · rw [if_neg hj, q_M_a hj]
theorem q_loop {M pc n : Nat} (I : Nat → List Value → x_H → Prop) (step : ∀ i ls h, i < n → I i ls h → ∃ ls' h', I (i + 1) ls' h' ∧ x_run M pc ls [] h = x_run M pc ls' [] h') {ls : List Value} {h : x_H} (h0 : I 0 ls h) : ∃ ls' h', I n ls' h' ∧ x_run M pc ls [] h = x_run M pc ls' [] h' := by
  have key : ∀ k, k ≤ n → ∃ ls' h', I k ls' h' ∧ x_run M pc ls [] h = x_run M pc ls' [] h' := by
    intro k
    induction k with
    | zero => exact fun _ => ⟨ls, h, h0, rfl⟩
    | succ k ih =>
      intro hk
      obtain ⟨l1, h1, i1, e1⟩ := ih (by omega)
      obtain ⟨l2, h2, i2, e2⟩ := step k l1 h1 (by omega) i1
      exact ⟨l2, h2, i2, e1.trans e2⟩
  exact key n (Nat.le_refl n)
section MEM
variable {m : Nat → Nat → Int} {K : Nat × Nat} {s : List Int32} {i x : Int}
theorem q_A_H {a t n : Nat} (h : a < 162) (e : q_tab.getD a (fun _ => .inl (0, [])) = fun f => .inl (t, q_ar n f)) : q_A (q_H m K s) a t n (m a) := ⟨by rw [q_H_at h, e], h⟩
theorem q_rH {a t n : Nat} {F : Int32 → q_O} (hA : q_A (q_H m K s) a t n (m a)) (hn : n < 2000) (h0 : 0 ≤ i) (h1 : i < n) : q_ra (q_H m K s) a t (q_i i) F = F (q_i (m a i.toNat)) := q_ra_of hA h0 h1 ⟨by omega, by omega⟩
theorem q_wH {a t n : Nat} {F : x_H → q_O} (h : a < 162) (e : q_tab.getD a (fun _ => .inl (0, [])) = fun f => .inl (t, q_ar n f)) (hn : n < 2000) (h0 : 0 ≤ i) (h1 : i < n) : q_wa (q_H m K s) a t (q_i i) (q_i x) F = F (q_H (q_M m a i.toNat x) K s) := by
  rw [q_wa_of (q_A_H h e) h0 h1 ⟨by omega, by omega⟩]
  congr 1
  exact q_H_up h (by rw [e, q_M_u])
theorem q_H_upP {a : Nat} {f : Nat → Int} {e : x_E} (h : a < 162) (he : e = (q_tab.getD a (fun _ => .inl (0, []))) f) : (x_up (q_H m K s).1 a e, (q_H m K s).2) = q_H (q_P m a f) K s := by
  unfold q_H x_up
  congr 1
  funext j
  by_cases hj : j = a
  · subst hj
    rw [if_pos rfl, if_pos h, q_P_s]
    exact he
  · rw [if_neg hj, q_P_a hj]
theorem q_wr_P {a t n : Nat} {f : Nat → Int} (h : a < 162) (e : q_tab.getD a (fun _ => .inl (0, [])) = fun f => .inl (t, q_ar n f)) : q_wr (q_H m K s) a t n f = q_H (q_P m a f) K s := q_H_upP h (by rw [e])
theorem q_H_ext {m' : Nat → Nat → Int} (h : ∀ a, a < 162 → (q_tab.getD a (fun _ => .inl (0, []))) (m a) = (q_tab.getD a (fun _ => .inl (0, []))) (m' a)) : q_H m K s = q_H m' K s := by
  unfold q_H
  congr 1
  funext a
  by_cases ha : a < 162
  · rw [if_pos ha, if_pos ha, h a ha]
  · rw [if_neg ha, if_neg ha]
theorem ho0 : q_Ob (q_H m K s) 0 9 [.ref 1, .ref 13, .ref 21, .ref 22, .ref 23, .ref 145, .ref 147, .int (q_i (m 0 7))] := ⟨rfl, show 0 < 162 by decide⟩
theorem rc0 : q_rcv (q_H m K s) 0 9 = true := rfl
theorem gf0_0 {F : Value → q_O} : q_gf (q_H m K s) 0 9 0 F = F (.ref 1) := rfl
theorem gf0_1 {F : Value → q_O} : q_gf (q_H m K s) 0 9 1 F = F (.ref 13) := rfl
theorem gf0_2 {F : Value → q_O} : q_gf (q_H m K s) 0 9 2 F = F (.ref 21) := rfl
theorem gf0_3 {F : Value → q_O} : q_gf (q_H m K s) 0 9 3 F = F (.ref 22) := rfl
theorem gf0_4 {F : Value → q_O} : q_gf (q_H m K s) 0 9 4 F = F (.ref 23) := rfl
theorem gf0_5 {F : Value → q_O} : q_gf (q_H m K s) 0 9 5 F = F (.ref 145) := rfl
theorem gf0_6 {F : Value → q_O} : q_gf (q_H m K s) 0 9 6 F = F (.ref 147) := rfl
theorem gf0_7 {F : Value → q_O} : q_gf (q_H m K s) 0 9 7 F = F (.int (q_i (m 0 7))) := rfl
theorem pf0_7 {F : x_H → q_O} : q_pf (q_H m K s) 0 9 7 (.int (q_i x)) F = F (q_H (q_M m 0 7 x) K s) := congrArg F (q_H_up (by decide) rfl)
theorem ft0_7 {x : Int32} : x_fit (x_ty 9 7) (.int x) = true := q_fiti
theorem ho1 : q_Ob (q_H m K s) 1 2 [.int (q_i (m 1 0)), .int (q_i (m 1 1)), .ref 2, .ref 3, .ref 4, .ref 5, .ref 6, .ref 7, .ref 8, .ref 9, .ref 10, .ref 11, .ref 12] := ⟨rfl, show 1 < 162 by decide⟩
theorem rc1 : q_rcv (q_H m K s) 1 2 = true := rfl
theorem gf1_0 {F : Value → q_O} : q_gf (q_H m K s) 1 2 0 F = F (.int (q_i (m 1 0))) := rfl
theorem pf1_0 {F : x_H → q_O} : q_pf (q_H m K s) 1 2 0 (.int (q_i x)) F = F (q_H (q_M m 1 0 x) K s) := congrArg F (q_H_up (by decide) rfl)
theorem ft1_0 {x : Int32} : x_fit (x_ty 2 0) (.int x) = true := q_fiti
theorem gf1_1 {F : Value → q_O} : q_gf (q_H m K s) 1 2 1 F = F (.int (q_i (m 1 1))) := rfl
theorem pf1_1 {F : x_H → q_O} : q_pf (q_H m K s) 1 2 1 (.int (q_i x)) F = F (q_H (q_M m 1 1 x) K s) := congrArg F (q_H_up (by decide) rfl)
theorem ft1_1 {x : Int32} : x_fit (x_ty 2 1) (.int x) = true := q_fiti
theorem gf1_2 {F : Value → q_O} : q_gf (q_H m K s) 1 2 2 F = F (.ref 2) := rfl
theorem gf1_3 {F : Value → q_O} : q_gf (q_H m K s) 1 2 3 F = F (.ref 3) := rfl
theorem gf1_4 {F : Value → q_O} : q_gf (q_H m K s) 1 2 4 F = F (.ref 4) := rfl
theorem gf1_5 {F : Value → q_O} : q_gf (q_H m K s) 1 2 5 F = F (.ref 5) := rfl
theorem gf1_6 {F : Value → q_O} : q_gf (q_H m K s) 1 2 6 F = F (.ref 6) := rfl
theorem gf1_7 {F : Value → q_O} : q_gf (q_H m K s) 1 2 7 F = F (.ref 7) := rfl
theorem gf1_8 {F : Value → q_O} : q_gf (q_H m K s) 1 2 8 F = F (.ref 8) := rfl
theorem gf1_9 {F : Value → q_O} : q_gf (q_H m K s) 1 2 9 F = F (.ref 9) := rfl
theorem gf1_10 {F : Value → q_O} : q_gf (q_H m K s) 1 2 10 F = F (.ref 10) := rfl
theorem gf1_11 {F : Value → q_O} : q_gf (q_H m K s) 1 2 11 F = F (.ref 11) := rfl
theorem gf1_12 {F : Value → q_O} : q_gf (q_H m K s) 1 2 12 F = F (.ref 12) := rfl
theorem hA2 : q_A (q_H m K s) 2 1 6 (m 2) := q_A_H (by decide) rfl
theorem ra2 {F : Int32 → q_O} (h0 : 0 ≤ i) (h1 : i < 6) : q_ra (q_H m K s) 2 1 (q_i i) F = F (q_i (m 2 i.toNat)) := q_rH hA2 (by decide) h0 h1
theorem wa2 {F : x_H → q_O} (h0 : 0 ≤ i) (h1 : i < 6) : q_wa (q_H m K s) 2 1 (q_i i) (q_i x) F = F (q_H (q_M m 2 i.toNat x) K s) := q_wH (by decide) rfl (by decide) h0 h1
theorem ln2 {F : Int32 → q_O} : q_ln (q_H m K s) 2 F = F (q_i 6) := q_ln_of hA2 (by decide)
theorem hA3 : q_A (q_H m K s) 3 1 6 (m 3) := q_A_H (by decide) rfl
theorem ra3 {F : Int32 → q_O} (h0 : 0 ≤ i) (h1 : i < 6) : q_ra (q_H m K s) 3 1 (q_i i) F = F (q_i (m 3 i.toNat)) := q_rH hA3 (by decide) h0 h1
theorem wa3 {F : x_H → q_O} (h0 : 0 ≤ i) (h1 : i < 6) : q_wa (q_H m K s) 3 1 (q_i i) (q_i x) F = F (q_H (q_M m 3 i.toNat x) K s) := q_wH (by decide) rfl (by decide) h0 h1
theorem ln3 {F : Int32 → q_O} : q_ln (q_H m K s) 3 F = F (q_i 6) := q_ln_of hA3 (by decide)
theorem hA4 : q_A (q_H m K s) 4 0 6 (m 4) := q_A_H (by decide) rfl
theorem ra4 {F : Int32 → q_O} (h0 : 0 ≤ i) (h1 : i < 6) : q_ra (q_H m K s) 4 0 (q_i i) F = F (q_i (m 4 i.toNat)) := q_rH hA4 (by decide) h0 h1
theorem wa4 {F : x_H → q_O} (h0 : 0 ≤ i) (h1 : i < 6) : q_wa (q_H m K s) 4 0 (q_i i) (q_i x) F = F (q_H (q_M m 4 i.toNat x) K s) := q_wH (by decide) rfl (by decide) h0 h1
theorem ln4 {F : Int32 → q_O} : q_ln (q_H m K s) 4 F = F (q_i 6) := q_ln_of hA4 (by decide)
theorem hA5 : q_A (q_H m K s) 5 0 6 (m 5) := q_A_H (by decide) rfl
theorem ra5 {F : Int32 → q_O} (h0 : 0 ≤ i) (h1 : i < 6) : q_ra (q_H m K s) 5 0 (q_i i) F = F (q_i (m 5 i.toNat)) := q_rH hA5 (by decide) h0 h1
theorem wa5 {F : x_H → q_O} (h0 : 0 ≤ i) (h1 : i < 6) : q_wa (q_H m K s) 5 0 (q_i i) (q_i x) F = F (q_H (q_M m 5 i.toNat x) K s) := q_wH (by decide) rfl (by decide) h0 h1
theorem ln5 {F : Int32 → q_O} : q_ln (q_H m K s) 5 F = F (q_i 6) := q_ln_of hA5 (by decide)
theorem hA6 : q_A (q_H m K s) 6 0 6 (m 6) := q_A_H (by decide) rfl
theorem ra6 {F : Int32 → q_O} (h0 : 0 ≤ i) (h1 : i < 6) : q_ra (q_H m K s) 6 0 (q_i i) F = F (q_i (m 6 i.toNat)) := q_rH hA6 (by decide) h0 h1
theorem wa6 {F : x_H → q_O} (h0 : 0 ≤ i) (h1 : i < 6) : q_wa (q_H m K s) 6 0 (q_i i) (q_i x) F = F (q_H (q_M m 6 i.toNat x) K s) := q_wH (by decide) rfl (by decide) h0 h1
theorem ln6 {F : Int32 → q_O} : q_ln (q_H m K s) 6 F = F (q_i 6) := q_ln_of hA6 (by decide)
theorem hA7 : q_A (q_H m K s) 7 0 6 (m 7) := q_A_H (by decide) rfl
theorem ra7 {F : Int32 → q_O} (h0 : 0 ≤ i) (h1 : i < 6) : q_ra (q_H m K s) 7 0 (q_i i) F = F (q_i (m 7 i.toNat)) := q_rH hA7 (by decide) h0 h1
theorem wa7 {F : x_H → q_O} (h0 : 0 ≤ i) (h1 : i < 6) : q_wa (q_H m K s) 7 0 (q_i i) (q_i x) F = F (q_H (q_M m 7 i.toNat x) K s) := q_wH (by decide) rfl (by decide) h0 h1
theorem ln7 {F : Int32 → q_O} : q_ln (q_H m K s) 7 F = F (q_i 6) := q_ln_of hA7 (by decide)
theorem hA8 : q_A (q_H m K s) 8 0 6 (m 8) := q_A_H (by decide) rfl
theorem ra8 {F : Int32 → q_O} (h0 : 0 ≤ i) (h1 : i < 6) : q_ra (q_H m K s) 8 0 (q_i i) F = F (q_i (m 8 i.toNat)) := q_rH hA8 (by decide) h0 h1
theorem wa8 {F : x_H → q_O} (h0 : 0 ≤ i) (h1 : i < 6) : q_wa (q_H m K s) 8 0 (q_i i) (q_i x) F = F (q_H (q_M m 8 i.toNat x) K s) := q_wH (by decide) rfl (by decide) h0 h1
theorem ln8 {F : Int32 → q_O} : q_ln (q_H m K s) 8 F = F (q_i 6) := q_ln_of hA8 (by decide)
theorem hA9 : q_A (q_H m K s) 9 0 24 (m 9) := q_A_H (by decide) rfl
theorem ra9 {F : Int32 → q_O} (h0 : 0 ≤ i) (h1 : i < 24) : q_ra (q_H m K s) 9 0 (q_i i) F = F (q_i (m 9 i.toNat)) := q_rH hA9 (by decide) h0 h1
theorem wa9 {F : x_H → q_O} (h0 : 0 ≤ i) (h1 : i < 24) : q_wa (q_H m K s) 9 0 (q_i i) (q_i x) F = F (q_H (q_M m 9 i.toNat x) K s) := q_wH (by decide) rfl (by decide) h0 h1
theorem ln9 {F : Int32 → q_O} : q_ln (q_H m K s) 9 F = F (q_i 24) := q_ln_of hA9 (by decide)
theorem hA10 : q_A (q_H m K s) 10 0 96 (m 10) := q_A_H (by decide) rfl
theorem ra10 {F : Int32 → q_O} (h0 : 0 ≤ i) (h1 : i < 96) : q_ra (q_H m K s) 10 0 (q_i i) F = F (q_i (m 10 i.toNat)) := q_rH hA10 (by decide) h0 h1
theorem wa10 {F : x_H → q_O} (h0 : 0 ≤ i) (h1 : i < 96) : q_wa (q_H m K s) 10 0 (q_i i) (q_i x) F = F (q_H (q_M m 10 i.toNat x) K s) := q_wH (by decide) rfl (by decide) h0 h1
theorem ln10 {F : Int32 → q_O} : q_ln (q_H m K s) 10 F = F (q_i 96) := q_ln_of hA10 (by decide)
theorem hA11 : q_A (q_H m K s) 11 1 48 (m 11) := q_A_H (by decide) rfl
theorem ra11 {F : Int32 → q_O} (h0 : 0 ≤ i) (h1 : i < 48) : q_ra (q_H m K s) 11 1 (q_i i) F = F (q_i (m 11 i.toNat)) := q_rH hA11 (by decide) h0 h1
theorem wa11 {F : x_H → q_O} (h0 : 0 ≤ i) (h1 : i < 48) : q_wa (q_H m K s) 11 1 (q_i i) (q_i x) F = F (q_H (q_M m 11 i.toNat x) K s) := q_wH (by decide) rfl (by decide) h0 h1
theorem ln11 {F : Int32 → q_O} : q_ln (q_H m K s) 11 F = F (q_i 48) := q_ln_of hA11 (by decide)
theorem hA12 : q_A (q_H m K s) 12 1 48 (m 12) := q_A_H (by decide) rfl
theorem ra12 {F : Int32 → q_O} (h0 : 0 ≤ i) (h1 : i < 48) : q_ra (q_H m K s) 12 1 (q_i i) F = F (q_i (m 12 i.toNat)) := q_rH hA12 (by decide) h0 h1
theorem wa12 {F : x_H → q_O} (h0 : 0 ≤ i) (h1 : i < 48) : q_wa (q_H m K s) 12 1 (q_i i) (q_i x) F = F (q_H (q_M m 12 i.toNat x) K s) := q_wH (by decide) rfl (by decide) h0 h1
theorem ln12 {F : Int32 → q_O} : q_ln (q_H m K s) 12 F = F (q_i 48) := q_ln_of hA12 (by decide)
theorem ho13 : q_Ob (q_H m K s) 13 7 [.ref 1, .ref 14, .ref 15, .ref 16, .ref 17, .ref 18, .int (q_i (m 13 6)), .int (q_i (m 13 7)), .int (q_i (m 13 8)), .int (q_i (m 13 9)), .ref 19, .ref 20, .int (q_i (m 13 12)), .int (q_i (m 13 13)), .int (q_i (m 13 14))] := ⟨rfl, show 13 < 162 by decide⟩
theorem rc13 : q_rcv (q_H m K s) 13 7 = true := rfl
theorem gf13_0 {F : Value → q_O} : q_gf (q_H m K s) 13 7 0 F = F (.ref 1) := rfl
theorem gf13_1 {F : Value → q_O} : q_gf (q_H m K s) 13 7 1 F = F (.ref 14) := rfl
theorem gf13_2 {F : Value → q_O} : q_gf (q_H m K s) 13 7 2 F = F (.ref 15) := rfl
theorem gf13_3 {F : Value → q_O} : q_gf (q_H m K s) 13 7 3 F = F (.ref 16) := rfl
theorem gf13_4 {F : Value → q_O} : q_gf (q_H m K s) 13 7 4 F = F (.ref 17) := rfl
theorem gf13_5 {F : Value → q_O} : q_gf (q_H m K s) 13 7 5 F = F (.ref 18) := rfl
theorem gf13_6 {F : Value → q_O} : q_gf (q_H m K s) 13 7 6 F = F (.int (q_i (m 13 6))) := rfl
theorem pf13_6 {F : x_H → q_O} : q_pf (q_H m K s) 13 7 6 (.int (q_i x)) F = F (q_H (q_M m 13 6 x) K s) := congrArg F (q_H_up (by decide) rfl)
theorem ft13_6 {x : Int32} : x_fit (x_ty 7 6) (.int x) = true := q_fiti
theorem gf13_7 {F : Value → q_O} : q_gf (q_H m K s) 13 7 7 F = F (.int (q_i (m 13 7))) := rfl
theorem pf13_7 {F : x_H → q_O} : q_pf (q_H m K s) 13 7 7 (.int (q_i x)) F = F (q_H (q_M m 13 7 x) K s) := congrArg F (q_H_up (by decide) rfl)
theorem ft13_7 {x : Int32} : x_fit (x_ty 7 7) (.int x) = true := q_fiti
theorem gf13_8 {F : Value → q_O} : q_gf (q_H m K s) 13 7 8 F = F (.int (q_i (m 13 8))) := rfl
theorem pf13_8 {F : x_H → q_O} : q_pf (q_H m K s) 13 7 8 (.int (q_i x)) F = F (q_H (q_M m 13 8 x) K s) := congrArg F (q_H_up (by decide) rfl)
theorem ft13_8 {x : Int32} : x_fit (x_ty 7 8) (.int x) = true := q_fiti
theorem gf13_9 {F : Value → q_O} : q_gf (q_H m K s) 13 7 9 F = F (.int (q_i (m 13 9))) := rfl
theorem pf13_9 {F : x_H → q_O} : q_pf (q_H m K s) 13 7 9 (.int (q_i x)) F = F (q_H (q_M m 13 9 x) K s) := congrArg F (q_H_up (by decide) rfl)
theorem ft13_90 : x_fit (x_ty 7 9) (.int (q_i 0)) = true := q_fitb0
theorem ft13_91 : x_fit (x_ty 7 9) (.int (q_i 1)) = true := q_fitb1
theorem gf13_10 {F : Value → q_O} : q_gf (q_H m K s) 13 7 10 F = F (.ref 19) := rfl
theorem gf13_11 {F : Value → q_O} : q_gf (q_H m K s) 13 7 11 F = F (.ref 20) := rfl
theorem gf13_12 {F : Value → q_O} : q_gf (q_H m K s) 13 7 12 F = F (.int (q_i (m 13 12))) := rfl
theorem pf13_12 {F : x_H → q_O} : q_pf (q_H m K s) 13 7 12 (.int (q_i x)) F = F (q_H (q_M m 13 12 x) K s) := congrArg F (q_H_up (by decide) rfl)
theorem ft13_12 {x : Int32} : x_fit (x_ty 7 12) (.int x) = true := q_fiti
theorem gf13_13 {F : Value → q_O} : q_gf (q_H m K s) 13 7 13 F = F (.int (q_i (m 13 13))) := rfl
theorem pf13_13 {F : x_H → q_O} : q_pf (q_H m K s) 13 7 13 (.int (q_i x)) F = F (q_H (q_M m 13 13 x) K s) := congrArg F (q_H_up (by decide) rfl)
theorem ft13_13 {x : Int32} : x_fit (x_ty 7 13) (.int x) = true := q_fiti
theorem gf13_14 {F : Value → q_O} : q_gf (q_H m K s) 13 7 14 F = F (.int (q_i (m 13 14))) := rfl
theorem pf13_14 {F : x_H → q_O} : q_pf (q_H m K s) 13 7 14 (.int (q_i x)) F = F (q_H (q_M m 13 14 x) K s) := congrArg F (q_H_up (by decide) rfl)
theorem ft13_14 {x : Int32} : x_fit (x_ty 7 14) (.int x) = true := q_fiti
theorem hA14 : q_A (q_H m K s) 14 0 96 (m 14) := q_A_H (by decide) rfl
theorem ra14 {F : Int32 → q_O} (h0 : 0 ≤ i) (h1 : i < 96) : q_ra (q_H m K s) 14 0 (q_i i) F = F (q_i (m 14 i.toNat)) := q_rH hA14 (by decide) h0 h1
theorem wa14 {F : x_H → q_O} (h0 : 0 ≤ i) (h1 : i < 96) : q_wa (q_H m K s) 14 0 (q_i i) (q_i x) F = F (q_H (q_M m 14 i.toNat x) K s) := q_wH (by decide) rfl (by decide) h0 h1
theorem ln14 {F : Int32 → q_O} : q_ln (q_H m K s) 14 F = F (q_i 96) := q_ln_of hA14 (by decide)
theorem hA15 : q_A (q_H m K s) 15 0 48 (m 15) := q_A_H (by decide) rfl
theorem ra15 {F : Int32 → q_O} (h0 : 0 ≤ i) (h1 : i < 48) : q_ra (q_H m K s) 15 0 (q_i i) F = F (q_i (m 15 i.toNat)) := q_rH hA15 (by decide) h0 h1
theorem wa15 {F : x_H → q_O} (h0 : 0 ≤ i) (h1 : i < 48) : q_wa (q_H m K s) 15 0 (q_i i) (q_i x) F = F (q_H (q_M m 15 i.toNat x) K s) := q_wH (by decide) rfl (by decide) h0 h1
theorem ln15 {F : Int32 → q_O} : q_ln (q_H m K s) 15 F = F (q_i 48) := q_ln_of hA15 (by decide)
theorem hA16 : q_A (q_H m K s) 16 0 96 (m 16) := q_A_H (by decide) rfl
theorem ra16 {F : Int32 → q_O} (h0 : 0 ≤ i) (h1 : i < 96) : q_ra (q_H m K s) 16 0 (q_i i) F = F (q_i (m 16 i.toNat)) := q_rH hA16 (by decide) h0 h1
theorem wa16 {F : x_H → q_O} (h0 : 0 ≤ i) (h1 : i < 96) : q_wa (q_H m K s) 16 0 (q_i i) (q_i x) F = F (q_H (q_M m 16 i.toNat x) K s) := q_wH (by decide) rfl (by decide) h0 h1
theorem ln16 {F : Int32 → q_O} : q_ln (q_H m K s) 16 F = F (q_i 96) := q_ln_of hA16 (by decide)
theorem hA17 : q_A (q_H m K s) 17 0 96 (m 17) := q_A_H (by decide) rfl
theorem ra17 {F : Int32 → q_O} (h0 : 0 ≤ i) (h1 : i < 96) : q_ra (q_H m K s) 17 0 (q_i i) F = F (q_i (m 17 i.toNat)) := q_rH hA17 (by decide) h0 h1
theorem wa17 {F : x_H → q_O} (h0 : 0 ≤ i) (h1 : i < 96) : q_wa (q_H m K s) 17 0 (q_i i) (q_i x) F = F (q_H (q_M m 17 i.toNat x) K s) := q_wH (by decide) rfl (by decide) h0 h1
theorem ln17 {F : Int32 → q_O} : q_ln (q_H m K s) 17 F = F (q_i 96) := q_ln_of hA17 (by decide)
theorem hA18 : q_A (q_H m K s) 18 1 96 (m 18) := q_A_H (by decide) rfl
theorem ra18 {F : Int32 → q_O} (h0 : 0 ≤ i) (h1 : i < 96) : q_ra (q_H m K s) 18 1 (q_i i) F = F (q_i (m 18 i.toNat)) := q_rH hA18 (by decide) h0 h1
theorem wa18 {F : x_H → q_O} (h0 : 0 ≤ i) (h1 : i < 96) : q_wa (q_H m K s) 18 1 (q_i i) (q_i x) F = F (q_H (q_M m 18 i.toNat x) K s) := q_wH (by decide) rfl (by decide) h0 h1
theorem ln18 {F : Int32 → q_O} : q_ln (q_H m K s) 18 F = F (q_i 96) := q_ln_of hA18 (by decide)
theorem hA19 : q_A (q_H m K s) 19 1 96 (m 19) := q_A_H (by decide) rfl
theorem ra19 {F : Int32 → q_O} (h0 : 0 ≤ i) (h1 : i < 96) : q_ra (q_H m K s) 19 1 (q_i i) F = F (q_i (m 19 i.toNat)) := q_rH hA19 (by decide) h0 h1
theorem wa19 {F : x_H → q_O} (h0 : 0 ≤ i) (h1 : i < 96) : q_wa (q_H m K s) 19 1 (q_i i) (q_i x) F = F (q_H (q_M m 19 i.toNat x) K s) := q_wH (by decide) rfl (by decide) h0 h1
theorem ln19 {F : Int32 → q_O} : q_ln (q_H m K s) 19 F = F (q_i 96) := q_ln_of hA19 (by decide)
theorem hA20 : q_A (q_H m K s) 20 1 48 (m 20) := q_A_H (by decide) rfl
theorem ra20 {F : Int32 → q_O} (h0 : 0 ≤ i) (h1 : i < 48) : q_ra (q_H m K s) 20 1 (q_i i) F = F (q_i (m 20 i.toNat)) := q_rH hA20 (by decide) h0 h1
theorem wa20 {F : x_H → q_O} (h0 : 0 ≤ i) (h1 : i < 48) : q_wa (q_H m K s) 20 1 (q_i i) (q_i x) F = F (q_H (q_M m 20 i.toNat x) K s) := q_wH (by decide) rfl (by decide) h0 h1
theorem ln20 {F : Int32 → q_O} : q_ln (q_H m K s) 20 F = F (q_i 48) := q_ln_of hA20 (by decide)
theorem ho21 : q_Ob (q_H m K s) 21 6 [.int (q_i (m 21 0)), .int (q_i (m 21 1)), .int (q_i (m 21 2)), .int (q_i (m 21 3))] := ⟨rfl, show 21 < 162 by decide⟩
theorem rc21 : q_rcv (q_H m K s) 21 6 = true := rfl
theorem gf21_0 {F : Value → q_O} : q_gf (q_H m K s) 21 6 0 F = F (.int (q_i (m 21 0))) := rfl
theorem pf21_0 {F : x_H → q_O} : q_pf (q_H m K s) 21 6 0 (.int (q_i x)) F = F (q_H (q_M m 21 0 x) K s) := congrArg F (q_H_up (by decide) rfl)
theorem ft21_0 {x : Int32} : x_fit (x_ty 6 0) (.int x) = true := q_fiti
theorem gf21_1 {F : Value → q_O} : q_gf (q_H m K s) 21 6 1 F = F (.int (q_i (m 21 1))) := rfl
theorem pf21_1 {F : x_H → q_O} : q_pf (q_H m K s) 21 6 1 (.int (q_i x)) F = F (q_H (q_M m 21 1 x) K s) := congrArg F (q_H_up (by decide) rfl)
theorem ft21_1 {x : Int32} : x_fit (x_ty 6 1) (.int x) = true := q_fiti
theorem gf21_2 {F : Value → q_O} : q_gf (q_H m K s) 21 6 2 F = F (.int (q_i (m 21 2))) := rfl
theorem pf21_2 {F : x_H → q_O} : q_pf (q_H m K s) 21 6 2 (.int (q_i x)) F = F (q_H (q_M m 21 2 x) K s) := congrArg F (q_H_up (by decide) rfl)
theorem ft21_2 {x : Int32} : x_fit (x_ty 6 2) (.int x) = true := q_fiti
theorem gf21_3 {F : Value → q_O} : q_gf (q_H m K s) 21 6 3 F = F (.int (q_i (m 21 3))) := rfl
theorem pf21_3 {F : x_H → q_O} : q_pf (q_H m K s) 21 6 3 (.int (q_i x)) F = F (q_H (q_M m 21 3 x) K s) := congrArg F (q_H_up (by decide) rfl)
theorem ft21_3 {x : Int32} : x_fit (x_ty 6 3) (.int x) = true := q_fiti
theorem ho22 : q_Ob (q_H m K s) 22 3 [.ref 1, .ref 13, .ref 21] := ⟨rfl, show 22 < 162 by decide⟩
theorem rc22 : q_rcv (q_H m K s) 22 3 = true := rfl
theorem gf22_0 {F : Value → q_O} : q_gf (q_H m K s) 22 3 0 F = F (.ref 1) := rfl
theorem gf22_1 {F : Value → q_O} : q_gf (q_H m K s) 22 3 1 F = F (.ref 13) := rfl
theorem gf22_2 {F : Value → q_O} : q_gf (q_H m K s) 22 3 2 F = F (.ref 21) := rfl
theorem ho23 : q_Ob (q_H m K s) 23 5 [.ref 1, .ref 24, .ref 25, .int (q_i (m 23 3)), .int (q_i (m 23 4)), .int (q_i (m 23 5))] := ⟨rfl, show 23 < 162 by decide⟩
theorem rc23 : q_rcv (q_H m K s) 23 5 = true := rfl
theorem gf23_0 {F : Value → q_O} : q_gf (q_H m K s) 23 5 0 F = F (.ref 1) := rfl
theorem gf23_1 {F : Value → q_O} : q_gf (q_H m K s) 23 5 1 F = F (.ref 24) := rfl
theorem gf23_2 {F : Value → q_O} : q_gf (q_H m K s) 23 5 2 F = F (.ref 25) := rfl
theorem gf23_3 {F : Value → q_O} : q_gf (q_H m K s) 23 5 3 F = F (.int (q_i (m 23 3))) := rfl
theorem pf23_3 {F : x_H → q_O} : q_pf (q_H m K s) 23 5 3 (.int (q_i x)) F = F (q_H (q_M m 23 3 x) K s) := congrArg F (q_H_up (by decide) rfl)
theorem ft23_3 {x : Int32} : x_fit (x_ty 5 3) (.int x) = true := q_fiti
theorem gf23_4 {F : Value → q_O} : q_gf (q_H m K s) 23 5 4 F = F (.int (q_i (m 23 4))) := rfl
theorem pf23_4 {F : x_H → q_O} : q_pf (q_H m K s) 23 5 4 (.int (q_i x)) F = F (q_H (q_M m 23 4 x) K s) := congrArg F (q_H_up (by decide) rfl)
theorem ft23_4 {x : Int32} : x_fit (x_ty 5 4) (.int x) = true := q_fiti
theorem gf23_5 {F : Value → q_O} : q_gf (q_H m K s) 23 5 5 F = F (.int (q_i (m 23 5))) := rfl
theorem pf23_5 {F : x_H → q_O} : q_pf (q_H m K s) 23 5 5 (.int (q_i x)) F = F (q_H (q_M m 23 5 x) K s) := congrArg F (q_H_up (by decide) rfl)
theorem ft23_50 : x_fit (x_ty 5 5) (.int (q_i 0)) = true := q_fitb0
theorem ft23_51 : x_fit (x_ty 5 5) (.int (q_i 1)) = true := q_fitb1
theorem ho145 : q_Ob (q_H m K s) 145 4 [.ref 146, .int (q_i (m 145 1))] := ⟨rfl, show 145 < 162 by decide⟩
theorem rc145 : q_rcv (q_H m K s) 145 4 = true := rfl
theorem gf145_0 {F : Value → q_O} : q_gf (q_H m K s) 145 4 0 F = F (.ref 146) := rfl
theorem gf145_1 {F : Value → q_O} : q_gf (q_H m K s) 145 4 1 F = F (.int (q_i (m 145 1))) := rfl
theorem pf145_1 {F : x_H → q_O} : q_pf (q_H m K s) 145 4 1 (.int (q_i x)) F = F (q_H (q_M m 145 1 x) K s) := congrArg F (q_H_up (by decide) rfl)
theorem ft145_1 {x : Int32} : x_fit (x_ty 4 1) (.int x) = true := q_fiti
theorem hA146 : q_A (q_H m K s) 146 2 60 (m 146) := q_A_H (by decide) rfl
theorem ra146 {F : Int32 → q_O} (h0 : 0 ≤ i) (h1 : i < 60) : q_ra (q_H m K s) 146 2 (q_i i) F = F (q_i (m 146 i.toNat)) := q_rH hA146 (by decide) h0 h1
theorem wa146 {F : x_H → q_O} (h0 : 0 ≤ i) (h1 : i < 60) : q_wa (q_H m K s) 146 2 (q_i i) (q_i x) F = F (q_H (q_M m 146 i.toNat x) K s) := q_wH (by decide) rfl (by decide) h0 h1
theorem ln146 {F : Int32 → q_O} : q_ln (q_H m K s) 146 F = F (q_i 60) := q_ln_of hA146 (by decide)
theorem ho147 : q_Ob (q_H m K s) 147 8 [.ref 148, .int (q_i (m 147 1))] := ⟨rfl, show 147 < 162 by decide⟩
theorem rc147 : q_rcv (q_H m K s) 147 8 = true := rfl
theorem gf147_0 {F : Value → q_O} : q_gf (q_H m K s) 147 8 0 F = F (.ref 148) := rfl
theorem gf147_1 {F : Value → q_O} : q_gf (q_H m K s) 147 8 1 F = F (.int (q_i (m 147 1))) := rfl
theorem pf147_1 {F : x_H → q_O} : q_pf (q_H m K s) 147 8 1 (.int (q_i x)) F = F (q_H (q_M m 147 1 x) K s) := congrArg F (q_H_up (by decide) rfl)
theorem ft147_1 {x : Int32} : x_fit (x_ty 8 1) (.int x) = true := q_fiti
theorem hA148 : q_A (q_H m K s) 148 2 16 (m 148) := q_A_H (by decide) rfl
theorem ra148 {F : Int32 → q_O} (h0 : 0 ≤ i) (h1 : i < 16) : q_ra (q_H m K s) 148 2 (q_i i) F = F (q_i (m 148 i.toNat)) := q_rH hA148 (by decide) h0 h1
theorem wa148 {F : x_H → q_O} (h0 : 0 ≤ i) (h1 : i < 16) : q_wa (q_H m K s) 148 2 (q_i i) (q_i x) F = F (q_H (q_M m 148 i.toNat x) K s) := q_wH (by decide) rfl (by decide) h0 h1
theorem ln148 {F : Int32 → q_O} : q_ln (q_H m K s) 148 F = F (q_i 16) := q_ln_of hA148 (by decide)
theorem ho149 : q_Ob (q_H m K s) 149 10 [.ref 150, .ref 151, .ref 152, .ref 153, .int (q_i (m 149 4)), .int (q_i (m 149 5)), .int (q_i (m 149 6)), .int (q_i (m 149 7)), .int (q_i (m 149 8)), .int (q_i (m 149 9)), .int (q_i (m 149 10)), .ref 154, .int (q_i (m 149 12)), .int (q_i (m 149 13)), .ref 155, .int (q_i (m 149 15)), .ref 156, .ref 157, .ref 158, .int (q_i (m 149 19)), .int (q_i (m 149 20)), .ref 159, .int (q_i (m 149 22))] := ⟨rfl, show 149 < 162 by decide⟩
theorem rc149 : q_rcv (q_H m K s) 149 10 = true := rfl
theorem gf149_0 {F : Value → q_O} : q_gf (q_H m K s) 149 10 0 F = F (.ref 150) := rfl
theorem gf149_1 {F : Value → q_O} : q_gf (q_H m K s) 149 10 1 F = F (.ref 151) := rfl
theorem gf149_2 {F : Value → q_O} : q_gf (q_H m K s) 149 10 2 F = F (.ref 152) := rfl
theorem gf149_3 {F : Value → q_O} : q_gf (q_H m K s) 149 10 3 F = F (.ref 153) := rfl
theorem gf149_4 {F : Value → q_O} : q_gf (q_H m K s) 149 10 4 F = F (.int (q_i (m 149 4))) := rfl
theorem pf149_4 {F : x_H → q_O} : q_pf (q_H m K s) 149 10 4 (.int (q_i x)) F = F (q_H (q_M m 149 4 x) K s) := congrArg F (q_H_up (by decide) rfl)
theorem ft149_40 : x_fit (x_ty 10 4) (.int (q_i 0)) = true := q_fitb0
theorem ft149_41 : x_fit (x_ty 10 4) (.int (q_i 1)) = true := q_fitb1
theorem gf149_5 {F : Value → q_O} : q_gf (q_H m K s) 149 10 5 F = F (.int (q_i (m 149 5))) := rfl
theorem pf149_5 {F : x_H → q_O} : q_pf (q_H m K s) 149 10 5 (.int (q_i x)) F = F (q_H (q_M m 149 5 x) K s) := congrArg F (q_H_up (by decide) rfl)
theorem ft149_5 {x : Int32} : x_fit (x_ty 10 5) (.int x) = true := q_fiti
theorem gf149_6 {F : Value → q_O} : q_gf (q_H m K s) 149 10 6 F = F (.int (q_i (m 149 6))) := rfl
theorem pf149_6 {F : x_H → q_O} : q_pf (q_H m K s) 149 10 6 (.int (q_i x)) F = F (q_H (q_M m 149 6 x) K s) := congrArg F (q_H_up (by decide) rfl)
theorem ft149_60 : x_fit (x_ty 10 6) (.int (q_i 0)) = true := q_fitb0
theorem ft149_61 : x_fit (x_ty 10 6) (.int (q_i 1)) = true := q_fitb1
theorem gf149_7 {F : Value → q_O} : q_gf (q_H m K s) 149 10 7 F = F (.int (q_i (m 149 7))) := rfl
theorem pf149_7 {F : x_H → q_O} : q_pf (q_H m K s) 149 10 7 (.int (q_i x)) F = F (q_H (q_M m 149 7 x) K s) := congrArg F (q_H_up (by decide) rfl)
theorem ft149_7 {x : Int32} : x_fit (x_ty 10 7) (.int x) = true := q_fiti
theorem gf149_8 {F : Value → q_O} : q_gf (q_H m K s) 149 10 8 F = F (.int (q_i (m 149 8))) := rfl
theorem pf149_8 {F : x_H → q_O} : q_pf (q_H m K s) 149 10 8 (.int (q_i x)) F = F (q_H (q_M m 149 8 x) K s) := congrArg F (q_H_up (by decide) rfl)
theorem ft149_8 {x : Int32} : x_fit (x_ty 10 8) (.int x) = true := q_fiti
theorem gf149_9 {F : Value → q_O} : q_gf (q_H m K s) 149 10 9 F = F (.int (q_i (m 149 9))) := rfl
theorem pf149_9 {F : x_H → q_O} : q_pf (q_H m K s) 149 10 9 (.int (q_i x)) F = F (q_H (q_M m 149 9 x) K s) := congrArg F (q_H_up (by decide) rfl)
theorem ft149_9 {x : Int32} : x_fit (x_ty 10 9) (.int x) = true := q_fiti
theorem gf149_10 {F : Value → q_O} : q_gf (q_H m K s) 149 10 10 F = F (.int (q_i (m 149 10))) := rfl
theorem pf149_10 {F : x_H → q_O} : q_pf (q_H m K s) 149 10 10 (.int (q_i x)) F = F (q_H (q_M m 149 10 x) K s) := congrArg F (q_H_up (by decide) rfl)
theorem ft149_10 {x : Int32} : x_fit (x_ty 10 10) (.int x) = true := q_fiti
theorem gf149_11 {F : Value → q_O} : q_gf (q_H m K s) 149 10 11 F = F (.ref 154) := rfl
theorem gf149_12 {F : Value → q_O} : q_gf (q_H m K s) 149 10 12 F = F (.int (q_i (m 149 12))) := rfl
theorem pf149_12 {F : x_H → q_O} : q_pf (q_H m K s) 149 10 12 (.int (q_i x)) F = F (q_H (q_M m 149 12 x) K s) := congrArg F (q_H_up (by decide) rfl)
theorem ft149_12 {x : Int32} : x_fit (x_ty 10 12) (.int x) = true := q_fiti
theorem gf149_13 {F : Value → q_O} : q_gf (q_H m K s) 149 10 13 F = F (.int (q_i (m 149 13))) := rfl
theorem pf149_13 {F : x_H → q_O} : q_pf (q_H m K s) 149 10 13 (.int (q_i x)) F = F (q_H (q_M m 149 13 x) K s) := congrArg F (q_H_up (by decide) rfl)
theorem ft149_13 {x : Int32} : x_fit (x_ty 10 13) (.int x) = true := q_fiti
theorem gf149_14 {F : Value → q_O} : q_gf (q_H m K s) 149 10 14 F = F (.ref 155) := rfl
theorem gf149_15 {F : Value → q_O} : q_gf (q_H m K s) 149 10 15 F = F (.int (q_i (m 149 15))) := rfl
theorem pf149_15 {F : x_H → q_O} : q_pf (q_H m K s) 149 10 15 (.int (q_i x)) F = F (q_H (q_M m 149 15 x) K s) := congrArg F (q_H_up (by decide) rfl)
theorem ft149_15 {x : Int32} : x_fit (x_ty 10 15) (.int x) = true := q_fiti
theorem gf149_16 {F : Value → q_O} : q_gf (q_H m K s) 149 10 16 F = F (.ref 156) := rfl
theorem gf149_17 {F : Value → q_O} : q_gf (q_H m K s) 149 10 17 F = F (.ref 157) := rfl
theorem gf149_18 {F : Value → q_O} : q_gf (q_H m K s) 149 10 18 F = F (.ref 158) := rfl
theorem gf149_19 {F : Value → q_O} : q_gf (q_H m K s) 149 10 19 F = F (.int (q_i (m 149 19))) := rfl
theorem pf149_19 {F : x_H → q_O} : q_pf (q_H m K s) 149 10 19 (.int (q_i x)) F = F (q_H (q_M m 149 19 x) K s) := congrArg F (q_H_up (by decide) rfl)
theorem ft149_19 {x : Int32} : x_fit (x_ty 10 19) (.int x) = true := q_fiti
theorem gf149_20 {F : Value → q_O} : q_gf (q_H m K s) 149 10 20 F = F (.int (q_i (m 149 20))) := rfl
theorem pf149_20 {F : x_H → q_O} : q_pf (q_H m K s) 149 10 20 (.int (q_i x)) F = F (q_H (q_M m 149 20 x) K s) := congrArg F (q_H_up (by decide) rfl)
theorem ft149_20 {x : Int32} : x_fit (x_ty 10 20) (.int x) = true := q_fiti
theorem gf149_21 {F : Value → q_O} : q_gf (q_H m K s) 149 10 21 F = F (.ref 159) := rfl
theorem gf149_22 {F : Value → q_O} : q_gf (q_H m K s) 149 10 22 F = F (.int (q_i (m 149 22))) := rfl
theorem pf149_22 {F : x_H → q_O} : q_pf (q_H m K s) 149 10 22 (.int (q_i x)) F = F (q_H (q_M m 149 22 x) K s) := congrArg F (q_H_up (by decide) rfl)
theorem ft149_22 {x : Int32} : x_fit (x_ty 10 22) (.int x) = true := q_fiti
theorem hA150 : q_A (q_H m K s) 150 0 199 (m 150) := q_A_H (by decide) rfl
theorem ra150 {F : Int32 → q_O} (h0 : 0 ≤ i) (h1 : i < 199) : q_ra (q_H m K s) 150 0 (q_i i) F = F (q_i (m 150 i.toNat)) := q_rH hA150 (by decide) h0 h1
theorem wa150 {F : x_H → q_O} (h0 : 0 ≤ i) (h1 : i < 199) : q_wa (q_H m K s) 150 0 (q_i i) (q_i x) F = F (q_H (q_M m 150 i.toNat x) K s) := q_wH (by decide) rfl (by decide) h0 h1
theorem ln150 {F : Int32 → q_O} : q_ln (q_H m K s) 150 F = F (q_i 199) := q_ln_of hA150 (by decide)
theorem hA151 : q_A (q_H m K s) 151 0 1592 (m 151) := q_A_H (by decide) rfl
theorem ra151 {F : Int32 → q_O} (h0 : 0 ≤ i) (h1 : i < 1592) : q_ra (q_H m K s) 151 0 (q_i i) F = F (q_i (m 151 i.toNat)) := q_rH hA151 (by decide) h0 h1
theorem wa151 {F : x_H → q_O} (h0 : 0 ≤ i) (h1 : i < 1592) : q_wa (q_H m K s) 151 0 (q_i i) (q_i x) F = F (q_H (q_M m 151 i.toNat x) K s) := q_wH (by decide) rfl (by decide) h0 h1
theorem ln151 {F : Int32 → q_O} : q_ln (q_H m K s) 151 F = F (q_i 1592) := q_ln_of hA151 (by decide)
theorem hA152 : q_A (q_H m K s) 152 0 199 (m 152) := q_A_H (by decide) rfl
theorem ra152 {F : Int32 → q_O} (h0 : 0 ≤ i) (h1 : i < 199) : q_ra (q_H m K s) 152 0 (q_i i) F = F (q_i (m 152 i.toNat)) := q_rH hA152 (by decide) h0 h1
theorem wa152 {F : x_H → q_O} (h0 : 0 ≤ i) (h1 : i < 199) : q_wa (q_H m K s) 152 0 (q_i i) (q_i x) F = F (q_H (q_M m 152 i.toNat x) K s) := q_wH (by decide) rfl (by decide) h0 h1
theorem ln152 {F : Int32 → q_O} : q_ln (q_H m K s) 152 F = F (q_i 199) := q_ln_of hA152 (by decide)
theorem hA153 : q_A (q_H m K s) 153 0 199 (m 153) := q_A_H (by decide) rfl
theorem ra153 {F : Int32 → q_O} (h0 : 0 ≤ i) (h1 : i < 199) : q_ra (q_H m K s) 153 0 (q_i i) F = F (q_i (m 153 i.toNat)) := q_rH hA153 (by decide) h0 h1
theorem wa153 {F : x_H → q_O} (h0 : 0 ≤ i) (h1 : i < 199) : q_wa (q_H m K s) 153 0 (q_i i) (q_i x) F = F (q_H (q_M m 153 i.toNat x) K s) := q_wH (by decide) rfl (by decide) h0 h1
theorem ln153 {F : Int32 → q_O} : q_ln (q_H m K s) 153 F = F (q_i 199) := q_ln_of hA153 (by decide)
theorem hA154 : q_A (q_H m K s) 154 0 60 (m 154) := q_A_H (by decide) rfl
theorem ra154 {F : Int32 → q_O} (h0 : 0 ≤ i) (h1 : i < 60) : q_ra (q_H m K s) 154 0 (q_i i) F = F (q_i (m 154 i.toNat)) := q_rH hA154 (by decide) h0 h1
theorem wa154 {F : x_H → q_O} (h0 : 0 ≤ i) (h1 : i < 60) : q_wa (q_H m K s) 154 0 (q_i i) (q_i x) F = F (q_H (q_M m 154 i.toNat x) K s) := q_wH (by decide) rfl (by decide) h0 h1
theorem ln154 {F : Int32 → q_O} : q_ln (q_H m K s) 154 F = F (q_i 60) := q_ln_of hA154 (by decide)
theorem hA155 : q_A (q_H m K s) 155 2 20 (m 155) := q_A_H (by decide) rfl
theorem ra155 {F : Int32 → q_O} (h0 : 0 ≤ i) (h1 : i < 20) : q_ra (q_H m K s) 155 2 (q_i i) F = F (q_i (m 155 i.toNat)) := q_rH hA155 (by decide) h0 h1
theorem wa155 {F : x_H → q_O} (h0 : 0 ≤ i) (h1 : i < 20) : q_wa (q_H m K s) 155 2 (q_i i) (q_i x) F = F (q_H (q_M m 155 i.toNat x) K s) := q_wH (by decide) rfl (by decide) h0 h1
theorem ln155 {F : Int32 → q_O} : q_ln (q_H m K s) 155 F = F (q_i 20) := q_ln_of hA155 (by decide)
theorem hA156 : q_A (q_H m K s) 156 0 96 (m 156) := q_A_H (by decide) rfl
theorem ra156 {F : Int32 → q_O} (h0 : 0 ≤ i) (h1 : i < 96) : q_ra (q_H m K s) 156 0 (q_i i) F = F (q_i (m 156 i.toNat)) := q_rH hA156 (by decide) h0 h1
theorem wa156 {F : x_H → q_O} (h0 : 0 ≤ i) (h1 : i < 96) : q_wa (q_H m K s) 156 0 (q_i i) (q_i x) F = F (q_H (q_M m 156 i.toNat x) K s) := q_wH (by decide) rfl (by decide) h0 h1
theorem ln156 {F : Int32 → q_O} : q_ln (q_H m K s) 156 F = F (q_i 96) := q_ln_of hA156 (by decide)
theorem hA157 : q_A (q_H m K s) 157 0 96 (m 157) := q_A_H (by decide) rfl
theorem ra157 {F : Int32 → q_O} (h0 : 0 ≤ i) (h1 : i < 96) : q_ra (q_H m K s) 157 0 (q_i i) F = F (q_i (m 157 i.toNat)) := q_rH hA157 (by decide) h0 h1
theorem wa157 {F : x_H → q_O} (h0 : 0 ≤ i) (h1 : i < 96) : q_wa (q_H m K s) 157 0 (q_i i) (q_i x) F = F (q_H (q_M m 157 i.toNat x) K s) := q_wH (by decide) rfl (by decide) h0 h1
theorem ln157 {F : Int32 → q_O} : q_ln (q_H m K s) 157 F = F (q_i 96) := q_ln_of hA157 (by decide)
theorem hA158 : q_A (q_H m K s) 158 0 48 (m 158) := q_A_H (by decide) rfl
theorem ra158 {F : Int32 → q_O} (h0 : 0 ≤ i) (h1 : i < 48) : q_ra (q_H m K s) 158 0 (q_i i) F = F (q_i (m 158 i.toNat)) := q_rH hA158 (by decide) h0 h1
theorem wa158 {F : x_H → q_O} (h0 : 0 ≤ i) (h1 : i < 48) : q_wa (q_H m K s) 158 0 (q_i i) (q_i x) F = F (q_H (q_M m 158 i.toNat x) K s) := q_wH (by decide) rfl (by decide) h0 h1
theorem ln158 {F : Int32 → q_O} : q_ln (q_H m K s) 158 F = F (q_i 48) := q_ln_of hA158 (by decide)
theorem hA159 : q_A (q_H m K s) 159 0 128 (m 159) := q_A_H (by decide) rfl
theorem ra159 {F : Int32 → q_O} (h0 : 0 ≤ i) (h1 : i < 128) : q_ra (q_H m K s) 159 0 (q_i i) F = F (q_i (m 159 i.toNat)) := q_rH hA159 (by decide) h0 h1
theorem wa159 {F : x_H → q_O} (h0 : 0 ≤ i) (h1 : i < 128) : q_wa (q_H m K s) 159 0 (q_i i) (q_i x) F = F (q_H (q_M m 159 i.toNat x) K s) := q_wH (by decide) rfl (by decide) h0 h1
theorem ln159 {F : Int32 → q_O} : q_ln (q_H m K s) 159 F = F (q_i 128) := q_ln_of hA159 (by decide)
theorem q_toN {n : Nat} : ((n : Nat) : Int).toNat = n := rfl
theorem q_i00 : (q_i 0 = 0) = True := eq_true rfl
theorem q_i10 : (q_i 1 = 0) = False := eq_false (by decide)
theorem q_j00 : ((0 : Int) = 0) = True := eq_true rfl
theorem q_j10 : ((1 : Int) = 0) = False := eq_false (by decide)
theorem q_K1 : (q_H m K s).2.1 = 162 := rfl
end MEM
