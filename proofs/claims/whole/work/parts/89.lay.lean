/-- a hole of a way is at no pin of the net -/
theorem q_gb_H {g : Nat → Int} {n : Int} {D : Nat → Int} {W : Nat → Nat → Int} (ho : ∀ p : Nat, p < 48 → (q_own g n p ↔ q_own g n ((p + 48 : Nat) : Int))) (f : Nat) : ∀ (c : Nat) (S : (Nat → Bool) × (Nat → Bool)), c < 96 → (∀ p : Nat, p < 48 → S.2 p = true → ¬ q_own g n p) → ∀ p : Nat, p < 48 → (q_gb D W (fun c => q_own g n c) f c S).2 p = true → ¬ q_own g n p := by
  induction f with
  | zero => exact fun c S _ h => h
  | succ f ih =>
    intro c S hc h
    unfold q_gb
    try dsimp only
    by_cases h1 : S.1 c = true
    · rw [if_pos h1]
      exact h
    · rw [if_neg h1]
      have hb := q_bs_lt (c := c) (by omega) (by omega) (q_bw D W c)
      refine ih _ _ (by omega) fun p hp hs => ?_
      dsimp only at hs
      split at hs
      · rename_i h2
        unfold q_set at hs
        rw [Bool.or_eq_true] at hs
        rcases hs with hs | hs
        · have e : p = c % 48 := by simpa using hs
          intro hown
          apply h2.2
          by_cases hc48 : c < 48
          · rw [show c = p by omega]
            exact hown
          · rw [show c = p + 48 by omega]
            exact (ho p hp).mp hown
        · exact h p hp hs
      · exact h p hp hs
theorem q_own_48 {g : Nat → Int} {n : Int} (hW : q_W g) {p : Nat} (hp : p < 48) : q_own g n p ↔ q_own g n ((p + 48 : Nat) : Int) := by
  have h12 := hW.2.2.2.2.2.2.2.2.2.2.2.1 p hp
  have i1 : q_is g (p : Int) = g (55 + p) := q_is_nat
  have i2 : q_is g ((p + 48 : Nat) : Int) = g (103 + p) := by rw [q_is_nat]; congr 1; omega
  have i3 : q_is g ((p : Int) + 48) = g (103 + p) := i2
  unfold q_own q_net q_pin at *
  rw [i1, i3] at h12
  rw [i1, i2]
  constructor
  · rintro ⟨h1, h2⟩
    rw [← h12 (Or.inl h2)]
    exact ⟨h1, h2⟩
  · rintro ⟨h1, h2⟩
    rw [h12 (Or.inr h2)]
    exact ⟨h1, h2⟩
theorem q_fs_H {g : Nat → Int} {n hard : Int} (hW : q_W g) (hn0 : 0 ≤ n) (hn : n < 6) : ∀ k : Nat, k < 4 → ∀ p : Nat, p < 48 → (q_fs g n hard k).1.2 p = true → ¬ q_own g n p := by
  intro k
  induction k with
  | zero =>
    intro _ p _ hs
    exact absurd (show false = true from hs) (by decide)
  | succ k ih =>
    intro hk
    have hi := ih (by omega)
    obtain ⟨hp1, hp2⟩ := q_pl_lt (k := k + 1) hW hn0 hn hk
    rw [q_fs]
    split
    · split
      · dsimp only
        refine q_gb_H (fun p hp => q_own_48 hW hp) 96 _ _ ?_ hi
        unfold q_to
        split <;> omega
      · exact hi
    · exact hi
theorem q_fd_H {g : Nat → Int} {n hard : Int} (hW : q_W g) (hn0 : 0 ≤ n) (hn : n < 6) {p : Nat} (hp : p < 48) (h : (q_fd g n hard).1.2 p = true) : ¬ q_own g n p ∧ ¬ q_own g n ((p + 48 : Nat) : Int) := by
  have hmany := hW.2.2.2.1 n.toNat (by omega)
  have h1 := q_fs_H (hard := hard) hW hn0 hn ((g (2 + 9 * n.toNat)).toNat - 1) (by omega) p hp h
  exact ⟨h1, fun z => h1 ((q_own_48 hW hp).mpr z)⟩
theorem q_iw_lt {g : Nat → Int} {n : Int} {P : Nat → Bool} {i k : Nat} (hW : q_W g) (hi : i ≤ 96) (h : q_iw g n P i k = true) : (k : Int) < g 0 ∧ (k : Int) ≠ n := by
  unfold q_iw at h
  rw [q_bl_eq] at h
  obtain ⟨c, h1, h2, h3⟩ := h
  have hc10 := hW.2.2.2.2.2.2.2.2.2.1
  have hnet : ∀ d : Int, 0 ≤ d → d < 96 → q_net g d < g 0 := fun d d0 d1 => by
    have := hc10 d.toNat (by omega)
    have h6 := hW.2.1
    unfold q_net
    have e : q_is g d = g (55 + d.toNat) := by
      unfold q_is
      congr 1
      omega
    rw [e]
    split <;> omega
  rcases h3 with ⟨h3, h4⟩ | ⟨w, h3, h4, h5⟩
  · have := hnet c (by omega) (by omega)
    omega
  · have hb := q_bs_lt (c := c) (by omega) (by omega) w
    have := hnet _ h4.1 hb.2
    have h6 := h4.2.1
    have h7 := h4.2.2.1
    omega
/-- the nets of a set are ripped, those before k -/
def q_rps (g : Nat → Int) (S : Nat → Bool) : Nat → Nat → Int
  | 0 => g
  | k + 1 => if S k = true then q_grp (q_rps g S k) k else q_rps g S k
theorem q_rps_stop {g : Nat → Int} {S : Nat → Bool} {a : Nat} (h : ∀ k, a ≤ k → S k = false) (j : Nat) : q_rps g S (a + j) = q_rps g S a := by
  induction j with
  | zero => rfl
  | succ j ih =>
    rw [show a + (j + 1) = (a + j) + 1 by omega, q_rps, if_neg (by rw [h (a + j) (by omega)]; decide), ih]
theorem q_rps_W {g : Nat → Int} {S : Nat → Bool} (hW : q_W g) (hZ : q_Z g) (hS : ∀ k, S k = true → (k : Int) < g 0) (k : Nat) : q_W (q_rps g S k) ∧ q_Z (q_rps g S k) ∧ q_rps g S k 0 = g 0 := by
  have h6 := hW.2.1
  induction k with
  | zero => exact ⟨hW, hZ, rfl⟩
  | succ k ih =>
    obtain ⟨i1, i2, i3⟩ := ih
    rw [q_rps]
    split
    · rename_i h
      have hk := hS k h
      exact ⟨q_W_rip i1 (by rw [i3]; exact hk), q_Z_rip i2 (by omega), by rw [q_grp_lo (by omega) (by omega) (by omega) (by omega)]; exact i3⟩
    · exact ⟨i1, i2, i3⟩
theorem q_rps_lo {g : Nat → Int} {S : Nat → Bool} {n j : Nat} (hj : j < 9) (hS : S n = false) (k : Nat) : q_rps g S k (1 + 9 * n + j) = g (1 + 9 * n + j) ∨ 6 ≤ n ∨ 6 < k := by
  by_cases hk6 : 6 < k
  · exact Or.inr (Or.inr hk6)
  by_cases hn6 : 6 ≤ n
  · exact Or.inr (Or.inl hn6)
  left
  induction k with
  | zero => rfl
  | succ k ih =>
    rw [q_rps]
    split
    · rename_i h
      have hne : k ≠ n := fun e => by
        rw [e, hS] at h
        cases h
      rw [q_grp_lo (by omega) (by omega) (by omega) (by omega)]
      exact ih (by omega)
    · exact ih (by omega)
theorem q_rps_c {g : Nat → Int} {S : Nat → Bool} {c : Nat} (hc : c < 96) (k : Nat) (hk : k ≤ 6) : ((∃ j, j < k ∧ S j = true ∧ g (55 + c) = 3 + 2 * (j : Int)) → q_rps g S k (55 + c) = 0) ∧ (¬ (∃ j, j < k ∧ S j = true ∧ g (55 + c) = 3 + 2 * (j : Int)) → q_rps g S k (55 + c) = g (55 + c)) := by
  induction k with
  | zero =>
    refine ⟨?_, fun _ => rfl⟩
    rintro ⟨j, h, _⟩
    omega
  | succ k ih =>
    have i := ih (by omega)
    rw [q_rps]
    split
    · rename_i h
      rw [q_grp_c (by omega) hc]
      constructor
      · rintro ⟨j, j1, j2, j3⟩
        by_cases e : j = k
        · subst e
          by_cases h1 : ∃ i, i < j ∧ S i = true ∧ g (55 + c) = 3 + 2 * (i : Int)
          · rw [i.1 h1]
            split <;> rfl
          · rw [i.2 h1, if_pos j3]
        · rw [i.1 ⟨j, by omega, j2, j3⟩]
          split <;> rfl
      · intro hx
        have h1 : ¬ ∃ j, j < k ∧ S j = true ∧ g (55 + c) = 3 + 2 * (j : Int) := fun ⟨j, j1, j2, j3⟩ => hx ⟨j, by omega, j2, j3⟩
        rw [i.2 h1, if_neg (fun z => hx ⟨k, by omega, h, z⟩)]
    · rename_i h
      constructor
      · rintro ⟨j, j1, j2, j3⟩
        by_cases e : j = k
        · subst e
          exact absurd j2 h
        · exact i.1 ⟨j, by omega, j2, j3⟩
      · intro hx
        exact i.2 fun ⟨j, j1, j2, j3⟩ => hx ⟨j, by omega, j2, j3⟩
/-- a cell of the way, when those in the way are ripped: empty, or a pin of the net's own -/
theorem q_rps_P {g : Nat → Int} {n hard : Int} {P : Nat → Bool} {S : Nat → Bool} {c : Nat} (hW : q_W g) (hn0 : 0 ≤ n) (hn : n < 6) (h7 : g (7 + 9 * n.toNat) = 0) (hc : c < 96) (hP : P c = true) (hR : q_RR g n hard c) (hS : hard = 1 → S = q_iw g n P 96) : (q_rps g S 6 (55 + c) = 0 ∧ ¬ q_own g n c) ∨ (q_own g n c ∧ q_rps g S 6 (55 + c) = g (55 + c) ∧ g (55 + c) = 2 + 2 * n) := by
  have hcc := hW.2.2.2.2.2.2.2.2.2.1 c hc
  have h11 := hW.2.2.2.2.2.2.2.2.2.2.1 c n.toNat hc (by omega)
  have hi : q_is g (c : Int) = g (55 + c) := q_is_nat
  obtain ⟨r1, r2⟩ := q_rps_c (g := g) (S := S) hc 6 (by decide)
  have hown : q_own g n c ↔ g (55 + c) = 2 + 2 * n := by
    unfold q_own q_net q_pin
    rw [hi]
    constructor
    · rintro ⟨h1, h2⟩
      split at h1 <;> omega
    · intro h
      rw [if_neg (by omega)]
      omega
  have hnw : ¬ g (55 + c) = 3 + 2 * n := fun z => by
    have := h11 (by omega)
    omega
  by_cases ho : q_own g n c
  · right
    have h2 := hown.mp ho
    refine ⟨ho, r2 ?_, h2⟩
    rintro ⟨j, j1, j2, j3⟩
    omega
  · left
    refine ⟨?_, ho⟩
    have h2 : ¬ g (55 + c) = 2 + 2 * n := fun z => ho (hown.mpr z)
    have hal : q_al g n hard c := by
      rcases hR with h | h
      · exact h
      · exact absurd h ho
    have hpr : q_pr g n c ≠ -1 := by
      unfold q_al at hal
      omega
    have hm1 : ¬ (q_is g c = 1 ∨ (0 ≤ q_net g c ∧ q_net g c ≠ n ∧ q_pin g c) ∨ 0 ≤ q_tn g n c 1 4) := fun z => hpr (by unfold q_pr; rw [if_pos z])
    have c1 : ¬ g (55 + c) = 1 := fun z => hm1 (Or.inl (by rw [hi]; exact z))
    by_cases h0 : g (55 + c) = 0
    · rw [r2 ?_, h0]
      rintro ⟨j, j1, j2, j3⟩
      omega
    · have hnet : q_net g c = g (55 + c) / 2 - 1 := by
        unfold q_net
        rw [hi, if_neg (by omega)]
      have hnn : q_net g c ≠ n := by
        rw [hnet]
        omega
      have hnp : ¬ q_pin g c := fun z => hm1 (Or.inr (Or.inl ⟨by omega, hnn, z⟩))
      have hodd : g (55 + c) % 2 = 1 := by
        unfold q_pin at hnp
        rw [hi] at hnp
        omega
      have hne0 : ¬ q_pr g n c = 0 := fun z => by
        unfold q_pr at z
        rw [if_neg hm1, if_pos (Or.inl ⟨by omega, hnn⟩)] at z
        omega
      have hard1 : hard = 1 := by
        rcases hal with h | h
        · exact absurd h hne0
        · exact h.1
      have hg0 := hW.2.1
      refine r1 ⟨(q_net g c).toNat, by omega, ?_, by omega⟩
      rw [hS hard1]
      unfold q_iw
      rw [q_bl_eq]
      exact ⟨c, hc, hP, Or.inl ⟨by omega, hnn⟩⟩
