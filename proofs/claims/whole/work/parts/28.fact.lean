theorem q_cl1 {v : Option Value} {h : x_H} {F : Option Value → x_H → q_O} : q_cl (some (.inl v, h)) F = F v h := rfl
def q_ar (n : Nat) (f : Nat → Int) : List Int32 := (List.range n).map (fun i => q_i (f i))
theorem q_ar_len (n : Nat) (f : Nat → Int) : (q_ar n f).length = n := by simp [q_ar]
theorem q_ar_at {n k : Nat} (f : Nat → Int) (hk : k < n) : (q_ar n f)[k]? = some (q_i (f k)) := by
  unfold q_ar
  rw [List.getElem?_map, List.getElem?_range hk]
  rfl
theorem q_ar_ext {n : Nat} {f g : Nat → Int} (h : ∀ i, i < n → f i = g i) : q_ar n f = q_ar n g := by
  unfold q_ar
  exact List.map_congr_left fun i hi => by rw [h i (List.mem_range.mp hi)]
def q_upd (f : Nat → Int) (k : Nat) (x : Int) : Nat → Int := fun j => if j = k then x else f j
theorem q_ar_set {n k : Nat} (f : Nat → Int) (x : Int) : (q_ar n f).set k (q_i x) = q_ar n (q_upd f k x) := by
  apply List.ext_getElem?
  intro j
  rw [List.getElem?_set]
  by_cases hj : j < n
  · rw [q_ar_at _ hj, q_ar_len, q_ar_at _ hj]
    unfold q_upd
    by_cases h : k = j
    · subst h
      rw [if_pos rfl, if_pos hj, if_pos rfl]
    · rw [if_neg h, if_neg (fun e => h e.symm)]
  · have h1 : (q_ar n f)[j]? = none := List.getElem?_eq_none (by rw [q_ar_len]; omega)
    have h2 : (q_ar n (q_upd f k x))[j]? = none := List.getElem?_eq_none (by rw [q_ar_len]; omega)
    rw [h1, h2, q_ar_len]
    by_cases h : k = j
    · rw [if_pos h, if_neg (by omega)]
    · rw [if_neg h]
/-- an array of ints (t: 0 int, 1 boolean, 2 char), an object of a place of vwCl -/
def q_A (h : x_H) (a t n : Nat) (f : Nat → Int) : Prop := h.1 a = .inl (t, q_ar n f) ∧ a < h.2.1
def q_Ob (h : x_H) (a c : Nat) (vs : List Value) : Prop := h.1 a = .inr (c, vs) ∧ a < h.2.1
def q_nv (vs : List Value) (k : Nat) (F : Value → q_O) : q_O := match vs[k]? with
  | some v => F v
  | none => none
theorem q_ra_of {h : x_H} {a t n : Nat} {f : Nat → Int} (ha : q_A h a t n f) {i : Int} (h0 : 0 ≤ i) (hi : i < n) (hR : q_R i) {F : Int32 → q_O} : q_ra h a t (q_i i) F = F (q_i (f i.toNat)) := by
  unfold q_ra
  rw [ha.1]
  dsimp only
  rw [if_pos ⟨rfl, Or.inl ha.2⟩]
  have h1 : x_at (q_i i) (q_ar n f) = some (q_i (f i.toNat)) := by
    unfold x_at
    rw [if_neg (by rw [q_lt0 hR]; omega), q_nat h0 hR, q_ar_at _ (by omega)]
  rw [h1]
def q_wr (h : x_H) (a t n : Nat) (f : Nat → Int) : x_H := (x_up h.1 a (.inl (t, q_ar n f)), h.2)
theorem q_wa_of {h : x_H} {a t n : Nat} {f : Nat → Int} (ha : q_A h a t n f) {i x : Int} (h0 : 0 ≤ i) (hi : i < n) (hR : q_R i) {F : x_H → q_O} : q_wa h a t (q_i i) (q_i x) F = F (q_wr h a t n (q_upd f i.toNat x)) := by
  unfold q_wa
  rw [ha.1]
  dsimp only
  rw [if_pos ⟨rfl, ha.2, by rw [q_lt0 hR]; omega, by rw [q_nat h0 hR, q_ar_len]; omega⟩, q_nat h0 hR, q_ar_set]
  rfl
theorem q_ln_of {h : x_H} {a t n : Nat} {f : Nat → Int} (ha : q_A h a t n f) (ht : t < 3) {F : Int32 → q_O} : q_ln h a F = F (q_i n) := by
  unfold q_ln
  rw [ha.1]
  dsimp only
  rw [if_pos ⟨ht, Or.inl ha.2⟩, q_ar_len]
  rfl
theorem q_gf_of {h : x_H} {a c k : Nat} {vs : List Value} (ho : q_Ob h a c vs) {F : Value → q_O} : q_gf h a c k F = q_nv vs k F := by
  unfold q_gf q_nv
  rw [ho.1]
  dsimp only
  rw [if_pos ⟨rfl, ho.2⟩]
  cases vs[k]? <;> rfl
def q_wo (h : x_H) (a c : Nat) (vs : List Value) : x_H := (x_up h.1 a (.inr (c, vs)), h.2)
theorem q_pf_of {h : x_H} {a c k : Nat} {vs : List Value} (ho : q_Ob h a c vs) (hk : k < vs.length) {v : Value} {F : x_H → q_O} : q_pf h a c k v F = F (q_wo h a c (vs.set k v)) := by
  unfold q_pf
  rw [ho.1]
  dsimp only
  rw [if_pos ⟨rfl, ho.2, hk⟩]
  rfl
theorem q_rcv_of {h : x_H} {a c : Nat} {vs : List Value} (ho : q_Ob h a c vs) : q_rcv h a c = true := by
  unfold q_rcv
  rw [ho.1]
  dsimp only
  exact decide_eq_true ⟨ho.2, rfl⟩
theorem q_A_wr {h : x_H} {a t n : Nat} {f g : Nat → Int} (ha : q_A h a t n f) : q_A (q_wr h a t n g) a t n g := ⟨if_pos rfl, ha.2⟩
theorem q_A_wr2 {h : x_H} {a t n b u m : Nat} {f g : Nat → Int} (ha : q_A h a t n f) (hb : a ≠ b) : q_A (q_wr h b u m g) a t n f := ⟨(if_neg hb).trans ha.1, ha.2⟩
theorem q_A_wo {h : x_H} {a t n b c : Nat} {f : Nat → Int} {vs : List Value} (ha : q_A h a t n f) (hb : a ≠ b) : q_A (q_wo h b c vs) a t n f := ⟨(if_neg hb).trans ha.1, ha.2⟩
theorem q_O_wr {h : x_H} {a c b u m : Nat} {g : Nat → Int} {vs : List Value} (ha : q_Ob h a c vs) (hb : a ≠ b) : q_Ob (q_wr h b u m g) a c vs := ⟨(if_neg hb).trans ha.1, ha.2⟩
theorem q_O_wo {h : x_H} {a c : Nat} {vs ws : List Value} (ha : q_Ob h a c vs) : q_Ob (q_wo h a c ws) a c ws := ⟨if_pos rfl, ha.2⟩
theorem q_O_wo2 {h : x_H} {a c b d : Nat} {vs ws : List Value} (ha : q_Ob h a c vs) (hb : a ≠ b) : q_Ob (q_wo h b d ws) a c vs := ⟨(if_neg hb).trans ha.1, ha.2⟩
theorem q_wr_wr {h : x_H} {a t n : Nat} {f g : Nat → Int} : q_wr (q_wr h a t n f) a t n g = q_wr h a t n g := by
  unfold q_wr x_up
  congr 1
  funext j
  dsimp only
  split <;> rfl
theorem q_wo_wo {h : x_H} {a c : Nat} {vs ws : List Value} : q_wo (q_wo h a c vs) a c ws = q_wo h a c ws := by
  unfold q_wo x_up
  congr 1
  funext j
  dsimp only
  split <;> rfl
/-- a loop whose head is left unchanged: its steps one by one -/
theorem q_for {M pc n : Nat} (ls : Nat → List Value) (hh : Nat → x_H) (step : ∀ i, i < n → x_run M pc (ls i) [] (hh i) = x_run M pc (ls (i + 1)) [] (hh (i + 1))) : x_run M pc (ls 0) [] (hh 0) = x_run M pc (ls n) [] (hh n) := by
  have h : ∀ k, k ≤ n → x_run M pc (ls 0) [] (hh 0) = x_run M pc (ls k) [] (hh k) := by
    intro k
    induction k with
    | zero => intro _; rfl
    | succ k ih => intro hk; rw [ih (by omega)]; exact step k (by omega)
  exact h n (Nat.le_refl n)
theorem q_nv0 {v : Value} {l : List Value} {F : Value → q_O} : q_nv (v :: l) 0 F = F v := rfl
theorem q_nv1 {a0 : Value} {v : Value} {l : List Value} {F : Value → q_O} : q_nv (a0 :: v :: l) 1 F = F v := rfl
theorem q_nv2 {a0 a1 : Value} {v : Value} {l : List Value} {F : Value → q_O} : q_nv (a0 :: a1 :: v :: l) 2 F = F v := rfl
theorem q_nv3 {a0 a1 a2 : Value} {v : Value} {l : List Value} {F : Value → q_O} : q_nv (a0 :: a1 :: a2 :: v :: l) 3 F = F v := rfl
theorem q_nv4 {a0 a1 a2 a3 : Value} {v : Value} {l : List Value} {F : Value → q_O} : q_nv (a0 :: a1 :: a2 :: a3 :: v :: l) 4 F = F v := rfl
theorem q_nv5 {a0 a1 a2 a3 a4 : Value} {v : Value} {l : List Value} {F : Value → q_O} : q_nv (a0 :: a1 :: a2 :: a3 :: a4 :: v :: l) 5 F = F v := rfl
theorem q_nv6 {a0 a1 a2 a3 a4 a5 : Value} {v : Value} {l : List Value} {F : Value → q_O} : q_nv (a0 :: a1 :: a2 :: a3 :: a4 :: a5 :: v :: l) 6 F = F v := rfl
theorem q_nv7 {a0 a1 a2 a3 a4 a5 a6 : Value} {v : Value} {l : List Value} {F : Value → q_O} : q_nv (a0 :: a1 :: a2 :: a3 :: a4 :: a5 :: a6 :: v :: l) 7 F = F v := rfl
theorem q_nv8 {a0 a1 a2 a3 a4 a5 a6 a7 : Value} {v : Value} {l : List Value} {F : Value → q_O} : q_nv (a0 :: a1 :: a2 :: a3 :: a4 :: a5 :: a6 :: a7 :: v :: l) 8 F = F v := rfl
theorem q_nv9 {a0 a1 a2 a3 a4 a5 a6 a7 a8 : Value} {v : Value} {l : List Value} {F : Value → q_O} : q_nv (a0 :: a1 :: a2 :: a3 :: a4 :: a5 :: a6 :: a7 :: a8 :: v :: l) 9 F = F v := rfl
theorem q_nv10 {a0 a1 a2 a3 a4 a5 a6 a7 a8 a9 : Value} {v : Value} {l : List Value} {F : Value → q_O} : q_nv (a0 :: a1 :: a2 :: a3 :: a4 :: a5 :: a6 :: a7 :: a8 :: a9 :: v :: l) 10 F = F v := rfl
theorem q_nv11 {a0 a1 a2 a3 a4 a5 a6 a7 a8 a9 a10 : Value} {v : Value} {l : List Value} {F : Value → q_O} : q_nv (a0 :: a1 :: a2 :: a3 :: a4 :: a5 :: a6 :: a7 :: a8 :: a9 :: a10 :: v :: l) 11 F = F v := rfl
theorem q_nv12 {a0 a1 a2 a3 a4 a5 a6 a7 a8 a9 a10 a11 : Value} {v : Value} {l : List Value} {F : Value → q_O} : q_nv (a0 :: a1 :: a2 :: a3 :: a4 :: a5 :: a6 :: a7 :: a8 :: a9 :: a10 :: a11 :: v :: l) 12 F = F v := rfl
theorem q_nv13 {a0 a1 a2 a3 a4 a5 a6 a7 a8 a9 a10 a11 a12 : Value} {v : Value} {l : List Value} {F : Value → q_O} : q_nv (a0 :: a1 :: a2 :: a3 :: a4 :: a5 :: a6 :: a7 :: a8 :: a9 :: a10 :: a11 :: a12 :: v :: l) 13 F = F v := rfl
theorem q_nv14 {a0 a1 a2 a3 a4 a5 a6 a7 a8 a9 a10 a11 a12 a13 : Value} {v : Value} {l : List Value} {F : Value → q_O} : q_nv (a0 :: a1 :: a2 :: a3 :: a4 :: a5 :: a6 :: a7 :: a8 :: a9 :: a10 :: a11 :: a12 :: a13 :: v :: l) 14 F = F v := rfl
theorem q_nv15 {a0 a1 a2 a3 a4 a5 a6 a7 a8 a9 a10 a11 a12 a13 a14 : Value} {v : Value} {l : List Value} {F : Value → q_O} : q_nv (a0 :: a1 :: a2 :: a3 :: a4 :: a5 :: a6 :: a7 :: a8 :: a9 :: a10 :: a11 :: a12 :: a13 :: a14 :: v :: l) 15 F = F v := rfl
theorem q_nv16 {a0 a1 a2 a3 a4 a5 a6 a7 a8 a9 a10 a11 a12 a13 a14 a15 : Value} {v : Value} {l : List Value} {F : Value → q_O} : q_nv (a0 :: a1 :: a2 :: a3 :: a4 :: a5 :: a6 :: a7 :: a8 :: a9 :: a10 :: a11 :: a12 :: a13 :: a14 :: a15 :: v :: l) 16 F = F v := rfl
theorem q_nv17 {a0 a1 a2 a3 a4 a5 a6 a7 a8 a9 a10 a11 a12 a13 a14 a15 a16 : Value} {v : Value} {l : List Value} {F : Value → q_O} : q_nv (a0 :: a1 :: a2 :: a3 :: a4 :: a5 :: a6 :: a7 :: a8 :: a9 :: a10 :: a11 :: a12 :: a13 :: a14 :: a15 :: a16 :: v :: l) 17 F = F v := rfl
theorem q_nv18 {a0 a1 a2 a3 a4 a5 a6 a7 a8 a9 a10 a11 a12 a13 a14 a15 a16 a17 : Value} {v : Value} {l : List Value} {F : Value → q_O} : q_nv (a0 :: a1 :: a2 :: a3 :: a4 :: a5 :: a6 :: a7 :: a8 :: a9 :: a10 :: a11 :: a12 :: a13 :: a14 :: a15 :: a16 :: a17 :: v :: l) 18 F = F v := rfl
theorem q_nv19 {a0 a1 a2 a3 a4 a5 a6 a7 a8 a9 a10 a11 a12 a13 a14 a15 a16 a17 a18 : Value} {v : Value} {l : List Value} {F : Value → q_O} : q_nv (a0 :: a1 :: a2 :: a3 :: a4 :: a5 :: a6 :: a7 :: a8 :: a9 :: a10 :: a11 :: a12 :: a13 :: a14 :: a15 :: a16 :: a17 :: a18 :: v :: l) 19 F = F v := rfl
theorem q_nv20 {a0 a1 a2 a3 a4 a5 a6 a7 a8 a9 a10 a11 a12 a13 a14 a15 a16 a17 a18 a19 : Value} {v : Value} {l : List Value} {F : Value → q_O} : q_nv (a0 :: a1 :: a2 :: a3 :: a4 :: a5 :: a6 :: a7 :: a8 :: a9 :: a10 :: a11 :: a12 :: a13 :: a14 :: a15 :: a16 :: a17 :: a18 :: a19 :: v :: l) 20 F = F v := rfl
theorem q_nv21 {a0 a1 a2 a3 a4 a5 a6 a7 a8 a9 a10 a11 a12 a13 a14 a15 a16 a17 a18 a19 a20 : Value} {v : Value} {l : List Value} {F : Value → q_O} : q_nv (a0 :: a1 :: a2 :: a3 :: a4 :: a5 :: a6 :: a7 :: a8 :: a9 :: a10 :: a11 :: a12 :: a13 :: a14 :: a15 :: a16 :: a17 :: a18 :: a19 :: a20 :: v :: l) 21 F = F v := rfl
theorem q_nv22 {a0 a1 a2 a3 a4 a5 a6 a7 a8 a9 a10 a11 a12 a13 a14 a15 a16 a17 a18 a19 a20 a21 : Value} {v : Value} {l : List Value} {F : Value → q_O} : q_nv (a0 :: a1 :: a2 :: a3 :: a4 :: a5 :: a6 :: a7 :: a8 :: a9 :: a10 :: a11 :: a12 :: a13 :: a14 :: a15 :: a16 :: a17 :: a18 :: a19 :: a20 :: a21 :: v :: l) 22 F = F v := rfl
