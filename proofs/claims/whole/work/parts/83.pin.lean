theorem q_tn_min {g : Nat → Int} {n c bp : Int} {W : Nat} : (∀ w, w < W → q_nr g n c bp w → 0 ≤ q_tn g n c bp W ∧ q_tn g n c bp W ≤ q_net g (q_bs c w)) ∧ (0 ≤ q_tn g n c bp W → ∃ w, w < W ∧ q_nr g n c bp w ∧ q_net g (q_bs c w) = q_tn g n c bp W) := by
  induction W with
  | zero => exact ⟨fun w h => absurd h (by omega), fun h => absurd (show (0 : Int) ≤ -1 from h) (by decide)⟩
  | succ W ih =>
    by_cases h : q_nr g n c bp W
    · by_cases h2 : q_tn g n c bp W < 0 ∨ q_net g (q_bs c W) < q_tn g n c bp W
      · rw [q_tn1 h h2]
        refine ⟨fun w hw hn => ?_, fun _ => ⟨W, by omega, h, rfl⟩⟩
        have hb := h.2.1
        by_cases e : w = W
        · subst e
          exact ⟨hb, Int.le_refl _⟩
        · have := ih.1 w (by omega) hn
          omega
      · rw [q_tn2 (Or.inr h2)]
        refine ⟨fun w hw hn => ?_, fun h0 => ?_⟩
        · by_cases e : w = W
          · subst e
            omega
          · exact ih.1 w (by omega) hn
        · obtain ⟨w, w1, w2, w3⟩ := ih.2 h0
          exact ⟨w, by omega, w2, w3⟩
    · rw [q_tn2 (Or.inl h)]
      refine ⟨fun w hw hn => ?_, fun h0 => ?_⟩
      · by_cases e : w = W
        · subst e
          exact absurd hn h
        · exact ih.1 w (by omega) hn
      · obtain ⟨w, w1, w2, w3⟩ := ih.2 h0
        exact ⟨w, by omega, w2, w3⟩
theorem q_nw11 {g : Nat → Int} {n c : Int} {w : Nat} : q_nw g n c 1 1 w ↔ q_nr g n c 0 w := by
  unfold q_nw q_nr
  by_cases h : q_pin g (q_bs c w) <;> simp [h]
theorem q_low_is {S : Nat → Bool} {k : Nat} (hk : k < 6) (h : S k = true) (h2 : ∀ j, j < k → S j = false) : q_low S = k := by
  unfold q_low
  rcases (show k = 0 ∨ k = 1 ∨ k = 2 ∨ k = 3 ∨ k = 4 ∨ k = 5 by omega) with rfl | rfl | rfl | rfl | rfl | rfl
  · rw [if_pos h]
  · simp [h2 0 (by decide), h]
  · simp [h2 0 (by decide), h2 1 (by decide), h]
  · simp [h2 0 (by decide), h2 1 (by decide), h2 2 (by decide), h]
  · simp [h2 0 (by decide), h2 1 (by decide), h2 2 (by decide), h2 3 (by decide), h]
  · simp [h2 0 (by decide), h2 1 (by decide), h2 2 (by decide), h2 3 (by decide), h2 4 (by decide), h]
theorem q_near_all {g : Nat → Int} (hc : q_cells g) {n c : Int} (h0 : 0 ≤ c) (h1 : c < 96) : (q_i (q_bits (q_ns g n c 1 1 4)) = 0) = ¬ (0 ≤ q_tn g n c 0 4) := by
  rw [q_ns_z hc h0 h1, q_tn_iff]
  simp only [q_nw11]
theorem q_near_low {g : Nat → Int} (hc : q_cells g) {n c : Int} (h0 : 0 ≤ c) (h1 : c < 96) (h : 0 ≤ q_tn g n c 0 4) : (q_low (q_ns g n c 1 1 4) : Int) = q_tn g n c 0 4 := by
  obtain ⟨a, b⟩ := q_tn_min (g := g) (n := n) (c := c) (bp := 0) (W := 4)
  obtain ⟨w, w1, w2, w3⟩ := b h
  have hlt := q_tn_lt hc (n := n) (bp := 0) h0 h1 4
  have e : q_low (q_ns g n c 1 1 4) = (q_tn g n c 0 4).toNat := by
    refine q_low_is (by omega) (q_ns_iff.mpr ⟨w, w1, q_nw11.mpr w2, by rw [w3]⟩) fun j hj => ?_
    cases hs : q_ns g n c 1 1 4 j
    · rfl
    · obtain ⟨v, v1, v2, v3⟩ := q_ns_iff.mp hs
      have := (a v v1 (q_nw11.mp v2)).2
      omega
  rw [e]
  omega
/-- the row after a pin -/
def q_gp (g : Nat → Int) (n k p : Nat) : Nat → Int := q_upd (q_upd (q_upd (q_upd g (3 + 9 * n + k) p) (2 + 9 * n) (k + 1)) (55 + p) (2 + 2 * n)) (103 + p) (2 + 2 * n)
theorem q_gp_o {g : Nat → Int} {n k p j : Nat} (h1 : j ≠ 3 + 9 * n + k) (h2 : j ≠ 2 + 9 * n) (h3 : j ≠ 55 + p) (h4 : j ≠ 103 + p) : q_gp g n k p j = g j := by
  unfold q_gp
  rw [q_upd_o h4, q_upd_o h3, q_upd_o h2, q_upd_o h1]
theorem q_gp_1 {g : Nat → Int} {n k p : Nat} (hn : n < 6) (hk : k < 4) : q_gp g n k p (3 + 9 * n + k) = p := by
  unfold q_gp
  rw [q_upd_o (by omega), q_upd_o (by omega), q_upd_o (by omega), q_upd_s]
theorem q_gp_2 {g : Nat → Int} {n k p : Nat} (hn : n < 6) : q_gp g n k p (2 + 9 * n) = k + 1 := by
  unfold q_gp
  rw [q_upd_o (by omega), q_upd_o (by omega), q_upd_s]
theorem q_gp_3 {g : Nat → Int} {n k p : Nat} : q_gp g n k p (55 + p) = 2 + 2 * n := by
  unfold q_gp
  rw [q_upd_o (by omega), q_upd_s]
theorem q_gp_4 {g : Nat → Int} {n k p : Nat} : q_gp g n k p (103 + p) = 2 + 2 * n := by
  unfold q_gp
  rw [q_upd_s]
theorem q_gp_cell {g : Nat → Int} {n k p c : Nat} (hn : n < 6) (hk : k < 4) (hc : c < 96) : q_gp g n k p (55 + c) = if c = p ∨ c = p + 48 then 2 + 2 * (n : Int) else g (55 + c) := by
  by_cases h1 : c = p
  · subst h1
    rw [if_pos (Or.inl rfl), q_gp_3]
  · by_cases h2 : c = p + 48
    · subst h2
      rw [if_pos (Or.inr rfl), show 55 + (p + 48) = 103 + p by omega, q_gp_4]
    · rw [if_neg (by omega), q_gp_o (by omega) (by omega) (by omega) (by omega)]
theorem q_W_pin {g : Nat → Int} {n k p : Nat} (hW : q_W g) (hn : (n : Int) < g 0) (hk : g (2 + 9 * n) = k) (hk4 : k < 4) (hp : p < 48) (f1 : g (55 + p) = 0) (f2 : g (103 + p) = 0) : q_W (q_gp g n k p) := by
  obtain ⟨w1, w2, w3, w4, w5, w6, w7, w8, w9, w10, w11, w12, w13⟩ := hW
  have hn6 : n < 6 := by omega
  have hcell := fun c (hc : c < 96) => q_gp_cell (g := g) (p := p) hn6 hk4 hc
  have e0 : q_gp g n k p 0 = g 0 := q_gp_o (by omega) (by omega) (by omega) (by omega)
  have hi : ∀ j : Nat, j < 96 → q_is (q_gp g n k p) j = if j = p ∨ j = p + 48 then 2 + 2 * (n : Int) else q_is g j := fun j hj => by
    rw [q_is_nat, q_is_nat]
    exact hcell j hj
  refine ⟨fun j => ?_, ?_, fun a ha => ?_, fun a ha => ?_, fun a ha => ?_, fun a ha => ?_, fun a b ha hb => ?_, fun a b ha hb => ?_, fun a b ha h2 hb => ?_, fun j hj => ?_, fun j a hj ha h2 => ?_, fun q hq h2 => ?_, fun q hq => ?_⟩
  · have := w1 j
    unfold q_gp q_upd q_R at *
    repeat' split
    all_goals omega
  · rw [e0]
    exact w2
  · rw [q_gp_o (by omega) (by omega) (by omega) (by omega)]
    exact w3 a ha
  · by_cases e : a = n
    · subst e
      rw [q_gp_2 ha]
      omega
    · rw [q_gp_o (by omega) (by omega) (by omega) (by omega)]
      exact w4 a ha
  · rw [q_gp_o (by omega) (by omega) (by omega) (by omega)]
    exact w5 a ha
  · rw [q_gp_o (by omega) (by omega) (by omega) (by omega)]
    exact w6 a ha
  · by_cases e : a = n ∧ b = k
    · obtain ⟨rfl, rfl⟩ := e
      rw [q_gp_1 ha hb]
      omega
    · rw [q_gp_o (by omega) (by omega) (by omega) (by omega)]
      exact w7 a b ha hb
  · have hm := w4 a ha
    by_cases e : a = n ∧ b = k
    · obtain ⟨rfl, rfl⟩ := e
      rw [q_gp_1 ha hk4, hi p (by omega), show (p : Int) + 48 = ((p + 48 : Nat) : Int) by omega, hi (p + 48) (by omega), if_pos (Or.inl rfl), if_pos (Or.inr rfl)]
      exact ⟨rfl, rfl⟩
    · have hb2 : (b : Int) < g (2 + 9 * a) := by
        by_cases e2 : a = n
        · subst e2
          rw [q_gp_2 ha] at hb
          omega
        · rw [q_gp_o (by omega) (by omega) (by omega) (by omega)] at hb
          exact hb
      have h7 := w7 a b ha (by omega)
      obtain ⟨h8, h9⟩ := w8 a b ha hb2
      rw [q_gp_o (by omega) (by omega) (by omega) (by omega)]
      obtain ⟨q, hq⟩ : ∃ q : Nat, g (3 + 9 * a + b) = q := ⟨(g (3 + 9 * a + b)).toNat, by omega⟩
      rw [hq] at h7 h8 h9 ⊢
      have hqp : q ≠ p := fun e2 => by
        rw [e2, q_is_nat] at h8
        omega
      rw [hi q (by omega), show (q : Int) + 48 = ((q + 48 : Nat) : Int) by omega, hi (q + 48) (by omega), if_neg (by omega), if_neg (by omega)]
      exact ⟨h8, h9⟩
  · rw [e0] at h2
    have hne : a ≠ n := by omega
    rw [q_gp_o (by omega) (by omega) (by omega) (by omega)]
    exact w9 a b ha h2 hb
  · have := w10 j hj
    rw [e0, hcell j hj]
    split <;> omega
  · rw [hcell j hj] at h2
    rw [q_gp_o (by omega) (by omega) (by omega) (by omega)]
    split at h2
    · omega
    · exact w11 j a hj ha h2
  · have c1 := hcell q (by omega)
    have c2 := hcell (q + 48) (by omega)
    rw [show 55 + (q + 48) = 103 + q by omega] at c2
    rw [c1, c2]
    by_cases e : q = p
    · rw [if_pos (Or.inl e), if_pos (by omega)]
    · rw [if_neg (by omega), if_neg (by omega)]
      refine w12 q hq ?_
      unfold q_pin at h2 ⊢
      rw [hi q (by omega), show (q : Int) + 48 = ((q + 48 : Nat) : Int) by omega, hi (q + 48) (by omega), if_neg (by omega), if_neg (by omega)] at h2
      exact h2
  · have h9 := w13 q hq
    rw [q_gp_o (show 151 + q ≠ 3 + 9 * n + k by omega) (by omega) (by omega) (by omega)]
    refine ⟨h9.1, h9.2.1, fun h => ?_⟩
    have h10 := h9.2.2 h
    have hqp : q ≠ p := fun e => by
      rw [e] at h10
      omega
    have c1 := hcell q (by omega)
    have c2 := hcell (q + 48) (by omega)
    rw [show 55 + (q + 48) = 103 + q by omega] at c2
    rw [c1, c2, if_neg (by omega), if_neg (by omega)]
    exact h10
theorem q_Z_pin {g : Nat → Int} {n k p : Nat} (h : q_Z g) (hn : n < 6) (hk : k < 4) (hp : p < 48) : q_Z (q_gp g n k p) := q_Z_upd (q_Z_upd (q_Z_upd (q_Z_upd h (by omega)) (by omega)) (by omega)) (by omega)
theorem q_Bd_gp {m mm : Nat → Nat → Int} {g : Nat → Int} {n k p : Nat} (hB : q_Bd m 1 g) (hn : n < 6) (hk : g (2 + 9 * n) = k) (hk4 : k < 4) (hp : p < 48) (f1 : g (55 + p) = 0) (f2 : g (103 + p) = 0) (h9 : mm 9 = q_upd (m 9) (4 * n + k) p) (h4 : mm 4 = q_upd (m 4) n (k + 1)) (h11 : mm 11 = q_upd (m 11) p 1) (h10 : mm 10 = q_upd (q_upd (m 10) p n) (p + 48) n) (hf : ∀ a, 0 < a → a < 13 → a ≠ 9 → a ≠ 4 → a ≠ 11 → a ≠ 10 → mm a = m a) : q_Bd mm 1 (q_gp g n k p) := by
  obtain ⟨b1, b2, b3, b4, b5, b6, b7, b8, b9, b10, b11, b12, b13⟩ := hB
  have hcell := fun c (hc : c < 96) => q_gp_cell (g := g) (p := p) hn hk4 hc
  have hi : ∀ j : Nat, j < 96 → q_is (q_gp g n k p) j = if j = p ∨ j = p + 48 then 2 + 2 * (n : Int) else q_is g j := fun j hj => by
    rw [q_is_nat, q_is_nat]
    exact hcell j hj
  have fr : ∀ c, c < 96 → (c = p ∨ c = p + 48) → g (55 + c) = 0 := fun c hc h => by
    rcases h with rfl | rfl
    · exact f1
    · rw [show 55 + (p + 48) = 103 + p by omega]
      exact f2
  refine ⟨?_, ?_, fun a ha => ?_, fun a ha => ?_, fun a ha => ?_, fun a ha => ?_, fun a ha => ?_, fun a ha => ?_, fun a ha => ?_, fun a b ha hb => ?_, fun j hj => ?_, fun j hj => ?_, fun q hq => ?_⟩
  · rw [hf 1 (by decide) (by decide) (by decide) (by decide) (by decide) (by decide), q_gp_o (by omega) (by omega) (by omega) (by omega)]
    exact b1
  · rw [hf 1 (by decide) (by decide) (by decide) (by decide) (by decide) (by decide), b2]
    refine congrArg Nat.cast (q_cnt_congr fun i hi => ?_)
    rw [hcell i hi]
    by_cases e : i = p ∨ i = p + 48
    · have := fr i hi e
      rw [if_pos e, decide_eq_false (by omega), decide_eq_false (by omega)]
    · rw [if_neg e]
  · rw [hf _ (by decide) (by decide) (by decide) (by decide) (by decide) (by decide), q_gp_o (by omega) (by omega) (by omega) (by omega)]
    exact b3 a ha
  · rw [hf _ (by decide) (by decide) (by decide) (by decide) (by decide) (by decide), q_gp_o (by omega) (by omega) (by omega) (by omega)]
    exact b4 a ha
  · rw [show (1 + 3 : Nat) = 4 from rfl, h4]
    by_cases e : a = n
    · subst e
      rw [q_upd_s, q_gp_2 ha]
    · rw [q_upd_o e, q_gp_o (by omega) (by omega) (by omega) (by omega)]
      exact b5 a ha
  · rw [hf _ (by decide) (by decide) (by decide) (by decide) (by decide) (by decide), q_gp_o (by omega) (by omega) (by omega) (by omega)]
    exact b6 a ha
  · rw [hf _ (by decide) (by decide) (by decide) (by decide) (by decide) (by decide), b7 a ha]
    refine congrArg Nat.cast (q_cnt_congr fun i hi => ?_)
    rw [hcell i hi]
    by_cases e : i = p ∨ i = p + 48
    · have := fr i hi e
      rw [if_pos e, decide_eq_false (by omega), decide_eq_false (by omega)]
    · rw [if_neg e]
  · rw [hf _ (by decide) (by decide) (by decide) (by decide) (by decide) (by decide), b8 a ha]
    refine congrArg Nat.cast (q_cnt_congr fun i hi => ?_)
    rw [q_gp_o (by omega) (by omega) (by omega) (by omega)]
  · rw [hf _ (by decide) (by decide) (by decide) (by decide) (by decide) (by decide), q_gp_o (by omega) (by omega) (by omega) (by omega)]
    exact b9 a ha
  · rw [show (1 + 8 : Nat) = 9 from rfl, h9]
    by_cases e : a = n ∧ b = k
    · obtain ⟨rfl, rfl⟩ := e
      rw [q_upd_s, q_gp_1 ha hb]
    · rw [q_upd_o (by omega), q_gp_o (by omega) (by omega) (by omega) (by omega)]
      exact b10 a b ha hb
  · rw [show (1 + 9 : Nat) = 10 from rfl, h10]
    unfold q_hl
    rw [hi j hj]
    by_cases e1 : j = p + 48
    · rw [if_pos (Or.inr e1), e1, q_upd_s, if_neg (by omega), if_neg (by omega)]
      omega
    · by_cases e2 : j = p
      · rw [if_pos (Or.inl e2), q_upd_o e1, e2, q_upd_s, if_neg (by omega), if_neg (by omega)]
        omega
      · rw [if_neg (show ¬ (j = p ∨ j = p + 48) by omega), q_upd_o e1, q_upd_o e2]
        exact b11 j hj
  · rw [show (1 + 10 : Nat) = 11 from rfl, h11]
    unfold q_pin
    rw [hi j hj]
    by_cases e : j = p ∨ j = p + 48
    · rw [if_pos e, show j % 48 = p by omega, q_upd_s, q_b1 (by omega)]
    · rw [if_neg e, q_upd_o (by omega)]
      exact b12 j hj
  · rw [hf _ (by decide) (by decide) (by decide) (by decide) (by decide) (by decide), q_gp_o (by omega) (by omega) (by omega) (by omega)]
    exact b13 q hq
