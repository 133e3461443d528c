theorem q_bs_ne {c : Int} (h0 : 0 ≤ c) (h1 : c < 96) (w : Nat) : q_bs c w ≠ c := by
  unfold q_bs
  repeat' split
  all_goals omega
/-- a row of bounds that no step of the search can break -/
def q_fe (P al : Nat → Prop) (W : Nat → Nat → Int) (X : Nat → Int) : Prop := (∀ c, c < 96 → X c ≤ 100000) ∧ (∀ c, c < 96 → P c → X c ≤ 0) ∧ ∀ c w d : Nat, c < 96 → w < 5 → d < 96 → q_bs c w = d → al c → ¬ P c → X d < 100000 → X c ≤ X d + W c w
/-- the greatest of them: what each cell costs -/
def q_mx (P al : Nat → Prop) (W : Nat → Nat → Int) (D : Nat → Int) : Prop := q_fe P al W D ∧ (∀ c, c < 96 → P c → D c = 0) ∧ ∀ X, q_fe P al W X → ∀ c, c < 96 → X c ≤ D c
theorem q_mx_one {P al : Nat → Prop} {W : Nat → Nat → Int} {D E : Nat → Int} (h1 : q_mx P al W D) (h2 : q_mx P al W E) (c : Nat) (hc : c < 96) : D c = E c := Int.le_antisymm (h2.2.2 D h1.1 c hc) (h1.2.2 E h2.1 c hc)
theorem q_mx_0 {P al : Nat → Prop} {W : Nat → Nat → Int} {D : Nat → Int} (h : q_mx P al W D) (hW : ∀ c w, 0 ≤ W c w) (c : Nat) (hc : c < 96) : 0 ≤ D c := by
  refine h.2.2 (fun _ => 0) ⟨fun _ _ => show (0 : Int) ≤ 100000 by decide, fun _ _ _ => Int.le_refl _, fun c w d _ _ _ _ _ _ _ => ?_⟩ c hc
  have := hW c w
  show (0 : Int) ≤ 0 + W c w
  omega
theorem q_mx_al {P al : Nat → Prop} {W : Nat → Nat → Int} {D : Nat → Int} (h : q_mx P al W D) {c : Nat} (hc : c < 96) (hP : ¬ P c) (hF : D c < 100000) : al c := by
  by_cases ha : al c
  · exact ha
  · exfalso
    have hX := h.2.2 (fun j => if j = c then 100000 else D j) ⟨fun j hj => ?_, fun j hj hp => ?_, fun j w d hj hw hd hb hal hp hx => ?_⟩ c hc
    · rw [if_pos rfl] at hX
      omega
    · dsimp only
      split
      · exact Int.le_refl _
      · exact h.1.1 j hj
    · dsimp only
      split
      · rename_i e
        exact absurd (e ▸ hp) hP
      · exact h.1.2.1 j hj hp
    · dsimp only at hx ⊢
      have hj2 : j ≠ c := fun e => ha (e ▸ hal)
      rw [if_neg hj2]
      split at hx
      · omega
      · rename_i e
        rw [if_neg e]
        exact h.1.2.2 j w d hj hw hd hb hal hp hx
theorem q_mx_tight {P al : Nat → Prop} {W : Nat → Nat → Int} {D : Nat → Int} (h : q_mx P al W D) (hW : ∀ c w, 0 ≤ W c w) {c : Nat} (hc : c < 96) (hP : ¬ P c) (hF : D c < 100000) : ∃ w d : Nat, w < 5 ∧ d < 96 ∧ q_bs c w = d ∧ D d + W c w = D c := by
  apply Classical.byContradiction
  intro hn
  have ha := q_mx_al h hc hP hF
  have hX := h.2.2 (fun j => if j = c then D c + 1 else D j) ⟨fun j hj => ?_, fun j hj hp => ?_, fun j w d hj hw hd hb hal hp hx => ?_⟩ c hc
  · rw [if_pos rfl] at hX
    omega
  · dsimp only
    split
    · omega
    · exact h.1.1 j hj
  · dsimp only
    split
    · rename_i e
      exact absurd (e ▸ hp) hP
    · exact h.1.2.1 j hj hp
  · dsimp only at hx ⊢
    by_cases e1 : j = c
    · subst e1
      have e2 : d ≠ j := by
        intro e2
        subst e2
        exact q_bs_ne (by omega) (by omega) w hb
      rw [if_neg e2] at hx ⊢
      rw [if_pos rfl]
      have h3 := h.1.2.2 j w d hj hw hd hb hal hp hx
      by_cases h4 : D d + W j w = D j
      · exact absurd ⟨w, d, hw, hd, hb, h4⟩ hn
      · omega
    · rw [if_neg e1]
      by_cases e2 : d = c
      · subst e2
        rw [if_pos rfl] at hx ⊢
        have h3 := h.1.2.2 j w d hj hw hd hb hal hp hF
        omega
      · rw [if_neg e2] at hx ⊢
        exact h.1.2.2 j w d hj hw hd hb hal hp hx
theorem q_mx_congr {P Q al bl : Nat → Prop} {W V : Nat → Nat → Int} {D : Nat → Int} (h : q_mx P al W D) (hP : ∀ c, c < 96 → (P c ↔ Q c)) (ha : ∀ c, c < 96 → (al c ↔ bl c)) (hV : ∀ c w, c < 96 → w < 5 → al c → W c w = V c w) : q_mx Q bl V D := by
  have key : ∀ X, q_fe P al W X ↔ q_fe Q bl V X := fun X => by
    constructor
    · rintro ⟨a, b, c⟩
      refine ⟨a, fun i hi hq => b i hi ((hP i hi).mpr hq), fun i w d hi hw hd hb hal hp hx => ?_⟩
      have := c i w d hi hw hd hb ((ha i hi).mpr hal) (fun z => hp ((hP i hi).mp z)) hx
      rw [hV i w hi hw ((ha i hi).mpr hal)] at this
      exact this
    · rintro ⟨a, b, c⟩
      refine ⟨a, fun i hi hq => b i hi ((hP i hi).mp hq), fun i w d hi hw hd hb hal hp hx => ?_⟩
      have := c i w d hi hw hd hb ((ha i hi).mp hal) (fun z => hp ((hP i hi).mpr z)) hx
      rw [← hV i w hi hw hal] at this
      exact this
  exact ⟨(key D).mp h.1, fun c hc hq => h.2.1 c hc ((hP c hc).mpr hq), fun X hX => h.2.2 X ((key X).mpr hX)⟩
/-- the costs, by choice -/
noncomputable def q_ds (P al : Nat → Prop) (W : Nat → Nat → Int) : Nat → Int := Classical.epsilon (q_mx P al W)
theorem q_ds_gr {P al : Nat → Prop} {W : Nat → Nat → Int} {D : Nat → Int} (h : q_mx P al W D) : q_mx P al W (q_ds P al W) := Classical.epsilon_spec ⟨D, h⟩
theorem q_ds_eq {P al : Nat → Prop} {W : Nat → Nat → Int} {D : Nat → Int} (h : q_mx P al W D) (c : Nat) (hc : c < 96) : D c = q_ds P al W c := q_mx_one h (q_ds_gr h) c hc
/-- the first way back from a cell -/
noncomputable def q_tg (D : Nat → Int) (W : Nat → Nat → Int) (c w : Nat) : Prop := 0 ≤ q_bs c w ∧ D (q_bs c w).toNat + W c w = D c
noncomputable def q_bw (D : Nat → Int) (W : Nat → Nat → Int) (c : Nat) : Nat := haveI := Classical.propDecidable; if q_tg D W c 0 then 0 else if q_tg D W c 1 then 1 else if q_tg D W c 2 then 2 else if q_tg D W c 3 then 3 else 4
theorem q_bw_spec {P al : Nat → Prop} {W : Nat → Nat → Int} {D : Nat → Int} (h : q_mx P al W D) (hW : ∀ c w, 0 ≤ W c w) {c : Nat} (hc : c < 96) (hP : ¬ P c) (hF : D c < 100000) : q_bw D W c < 5 ∧ q_tg D W c (q_bw D W c) ∧ ∀ v, v < q_bw D W c → ¬ q_tg D W c v := by
  obtain ⟨w, d, hw, hd, hb, he⟩ := q_mx_tight h hW hc hP hF
  have ht : q_tg D W c w := ⟨by omega, by rw [show (q_bs c w).toNat = d by omega]; exact he⟩
  unfold q_bw
  split
  · exact ⟨by decide, ‹_›, fun v hv => absurd hv (by omega)⟩
  · rename_i h0
    split
    · refine ⟨by decide, ‹_›, fun v hv => ?_⟩
      obtain rfl : v = 0 := by omega
      exact h0
    · rename_i h1
      split
      · refine ⟨by decide, ‹_›, fun v hv => ?_⟩
        rcases (show v = 0 ∨ v = 1 by omega) with rfl | rfl
        · exact h0
        · exact h1
      · rename_i h2
        split
        · refine ⟨by decide, ‹_›, fun v hv => ?_⟩
          rcases (show v = 0 ∨ v = 1 ∨ v = 2 by omega) with rfl | rfl | rfl
          · exact h0
          · exact h1
          · exact h2
        · rename_i h3
          obtain rfl : w = 4 := by
            rcases (show w = 0 ∨ w = 1 ∨ w = 2 ∨ w = 3 ∨ w = 4 by omega) with rfl | rfl | rfl | rfl | rfl
            · exact absurd ht h0
            · exact absurd ht h1
            · exact absurd ht h2
            · exact absurd ht h3
            · rfl
          refine ⟨by decide, ht, fun v hv => ?_⟩
          rcases (show v = 0 ∨ v = 1 ∨ v = 2 ∨ v = 3 by omega) with rfl | rfl | rfl | rfl
          · exact h0
          · exact h1
          · exact h2
          · exact h3
def q_set (P : Nat → Bool) (c : Nat) : Nat → Bool := fun j => j == c || P j
/-- the way back from a cell to the part: the part and the holes then -/
noncomputable def q_gb (D : Nat → Int) (W : Nat → Nat → Int) (own : Nat → Prop) : Nat → Nat → (Nat → Bool) × (Nat → Bool) → (Nat → Bool) × (Nat → Bool)
  | 0, _, S => S
  | f + 1, c, S => haveI := Classical.propDecidable; if S.1 c = true then S else q_gb D W own f (q_bs c (q_bw D W c)).toNat (q_set S.1 c, if q_bw D W c = 4 ∧ ¬ own c then q_set S.2 (c % 48) else S.2)
def q_un (P : Nat → Bool) : Nat := q_cnt (fun c => !P c) 96
theorem q_cnt_succ {P : Nat → Bool} {n : Nat} : q_cnt P (n + 1) = q_cnt P n + (if P n = true then 1 else 0) := rfl
theorem q_cnt_set {P : Nat → Bool} {c : Nat} (hP : P c = false) (n : Nat) : q_cnt (fun j => !q_set P c j) n + (if c < n then 1 else 0) = q_cnt (fun j => !P j) n := by
  induction n with
  | zero => rfl
  | succ n ih =>
    rw [q_cnt_succ, q_cnt_succ, ← ih]
    by_cases h : n = c
    · subst h
      have e1 : q_set P n n = true := by simp [q_set]
      simp [e1, hP]
    · have e1 : q_set P c n = P n := by simp [q_set, h]
      rw [e1]
      by_cases h2 : c < n
      · rw [if_pos h2, if_pos (show c < n + 1 by omega)]
        omega
      · rw [if_neg h2, if_neg (show ¬ c < n + 1 by omega)]
        omega
theorem q_un_set {P : Nat → Bool} {c : Nat} (hc : c < 96) (hP : P c = false) : q_un (q_set P c) + 1 = q_un P := by
  have h := q_cnt_set hP 96
  rw [if_pos hc] at h
  exact h
theorem q_gb_stop {D : Nat → Int} {W : Nat → Nat → Int} {own : Nat → Prop} {f c : Nat} {S : (Nat → Bool) × (Nat → Bool)} (h : S.1 c = true) : q_gb D W own f c S = S := by
  cases f with
  | zero => rfl
  | succ f => unfold q_gb; rw [if_pos h]
theorem q_gb_step {D : Nat → Int} {W : Nat → Nat → Int} {own : Nat → Prop} {f c : Nat} {S : (Nat → Bool) × (Nat → Bool)} (h : S.1 c = false) : q_gb D W own (f + 1) c S = q_gb D W own f (q_bs c (q_bw D W c)).toNat (q_set S.1 c, haveI := Classical.propDecidable; if q_bw D W c = 4 ∧ ¬ own c then q_set S.2 (c % 48) else S.2) := by
  rw [q_gb, if_neg (by rw [h]; decide)]
theorem q_bs_nat {c : Int} (h0 : 0 ≤ c) (h1 : c < 96) (w : Nat) (h : 0 ≤ q_bs c w) : (q_bs c w).toNat < 96 := by
  have := q_bs_lt h0 h1 w
  omega
