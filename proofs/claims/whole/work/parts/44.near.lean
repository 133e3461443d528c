def q_bits (S : Nat → Bool) : Int := (if S 0 = true then 1 else 0) + (if S 1 = true then 2 else 0) + (if S 2 = true then 4 else 0) + (if S 3 = true then 8 else 0) + (if S 4 = true then 16 else 0) + (if S 5 = true then 32 else 0)
theorem q_bits_R (S : Nat → Bool) : 0 ≤ q_bits S ∧ q_bits S ≤ 63 := by
  unfold q_bits
  repeat' split
  all_goals omega
def q_bb (a b c d e f : Bool) : Int := (if a = true then 1 else 0) + (if b = true then 2 else 0) + (if c = true then 4 else 0) + (if d = true then 8 else 0) + (if e = true then 16 else 0) + (if f = true then 32 else 0)
theorem q_bb0 : ∀ a b c d e f : Bool, q_bb a b c d e f = 0 ↔ a = false ∧ b = false ∧ c = false ∧ d = false ∧ e = false ∧ f = false := by decide
theorem q_bits0 (S : Nat → Bool) : q_bits S = 0 ↔ ∀ k, k < 6 → S k = false := by
  refine (q_bb0 (S 0) (S 1) (S 2) (S 3) (S 4) (S 5)).trans ⟨fun ⟨h0, h1, h2, h3, h4, h5⟩ k hk => ?_, fun h => ⟨h 0 (by decide), h 1 (by decide), h 2 (by decide), h 3 (by decide), h 4 (by decide), h 5 (by decide)⟩⟩
  rcases (show k = 0 ∨ k = 1 ∨ k = 2 ∨ k = 3 ∨ k = 4 ∨ k = 5 by omega) with rfl | rfl | rfl | rfl | rfl | rfl
  · exact h0
  · exact h1
  · exact h2
  · exact h3
  · exact h4
  · exact h5
theorem q_bb_or : ∀ a b c d e f : Bool, (q_i (q_bb a b c d e f) ||| (q_i 1 <<< (q_i 0 &&& 31)) = q_i (q_bb true b c d e f)) ∧ (q_i (q_bb a b c d e f) ||| (q_i 1 <<< (q_i 1 &&& 31)) = q_i (q_bb a true c d e f)) ∧ (q_i (q_bb a b c d e f) ||| (q_i 1 <<< (q_i 2 &&& 31)) = q_i (q_bb a b true d e f)) ∧ (q_i (q_bb a b c d e f) ||| (q_i 1 <<< (q_i 3 &&& 31)) = q_i (q_bb a b c true e f)) ∧ (q_i (q_bb a b c d e f) ||| (q_i 1 <<< (q_i 4 &&& 31)) = q_i (q_bb a b c d true f)) ∧ (q_i (q_bb a b c d e f) ||| (q_i 1 <<< (q_i 5 &&& 31)) = q_i (q_bb a b c d e true)) := by decide +kernel
theorem q_bb_and : ∀ a b c d e f : Bool, ((q_i (q_bb a b c d e f) &&& (q_i 1 <<< (q_i 0 &&& 31)) = 0) = (a = false)) ∧ ((q_i (q_bb a b c d e f) &&& (q_i 1 <<< (q_i 1 &&& 31)) = 0) = (b = false)) ∧ ((q_i (q_bb a b c d e f) &&& (q_i 1 <<< (q_i 2 &&& 31)) = 0) = (c = false)) ∧ ((q_i (q_bb a b c d e f) &&& (q_i 1 <<< (q_i 3 &&& 31)) = 0) = (d = false)) ∧ ((q_i (q_bb a b c d e f) &&& (q_i 1 <<< (q_i 4 &&& 31)) = 0) = (e = false)) ∧ ((q_i (q_bb a b c d e f) &&& (q_i 1 <<< (q_i 5 &&& 31)) = 0) = (f = false)) := by
  have h : ∀ a b c d e f : Bool, ((q_i (q_bb a b c d e f) &&& (q_i 1 <<< (q_i 0 &&& 31)) = 0) ↔ (a = false)) ∧ ((q_i (q_bb a b c d e f) &&& (q_i 1 <<< (q_i 1 &&& 31)) = 0) ↔ (b = false)) ∧ ((q_i (q_bb a b c d e f) &&& (q_i 1 <<< (q_i 2 &&& 31)) = 0) ↔ (c = false)) ∧ ((q_i (q_bb a b c d e f) &&& (q_i 1 <<< (q_i 3 &&& 31)) = 0) ↔ (d = false)) ∧ ((q_i (q_bb a b c d e f) &&& (q_i 1 <<< (q_i 4 &&& 31)) = 0) ↔ (e = false)) ∧ ((q_i (q_bb a b c d e f) &&& (q_i 1 <<< (q_i 5 &&& 31)) = 0) ↔ (f = false)) := by decide +kernel
  intro a b c d e f
  obtain ⟨h0, h1, h2, h3, h4, h5⟩ := h a b c d e f
  exact ⟨propext h0, propext h1, propext h2, propext h3, propext h4, propext h5⟩
theorem q_bb_shr : ∀ a b c d e f : Bool, (((q_i (q_bb a b c d e f) >>> (q_i 0 &&& 31)) &&& q_i 1 = q_i 1) ↔ (a = true)) ∧ (((q_i (q_bb a b c d e f) >>> (q_i 1 &&& 31)) &&& q_i 1 = q_i 1) ↔ (b = true)) ∧ (((q_i (q_bb a b c d e f) >>> (q_i 2 &&& 31)) &&& q_i 1 = q_i 1) ↔ (c = true)) ∧ (((q_i (q_bb a b c d e f) >>> (q_i 3 &&& 31)) &&& q_i 1 = q_i 1) ↔ (d = true)) ∧ (((q_i (q_bb a b c d e f) >>> (q_i 4 &&& 31)) &&& q_i 1 = q_i 1) ↔ (e = true)) ∧ (((q_i (q_bb a b c d e f) >>> (q_i 5 &&& 31)) &&& q_i 1 = q_i 1) ↔ (f = true)) := by decide +kernel
theorem q_bb_or2 : ∀ a b c d e f a2 b2 c2 d2 e2 f2 : Bool, q_i (q_bb a b c d e f) ||| q_i (q_bb a2 b2 c2 d2 e2 f2) = q_i (q_bb (a || a2) (b || b2) (c || c2) (d || d2) (e || e2) (f || f2)) := by decide +kernel
theorem q_six {o : Int} (h0 : 0 ≤ o) (h6 : o < 6) : o = 0 ∨ o = 1 ∨ o = 2 ∨ o = 3 ∨ o = 4 ∨ o = 5 := by omega
def q_ins (S : Nat → Bool) (o : Nat) : Nat → Bool := fun k => S k || k == o
theorem q_bits_or (S : Nat → Bool) {o : Int} (h0 : 0 ≤ o) (h6 : o < 6) : q_i (q_bits S) ||| (q_i 1 <<< (q_i o &&& 31)) = q_i (q_bits (q_ins S o.toNat)) := by
  unfold q_ins
  obtain ⟨e0, e1, e2, e3, e4, e5⟩ := q_bb_or (S 0) (S 1) (S 2) (S 3) (S 4) (S 5)
  rcases q_six h0 h6 with rfl | rfl | rfl | rfl | rfl | rfl
  · refine e0.trans (congrArg q_i ?_)
    simp [q_bb, q_bits]
  · refine e1.trans (congrArg q_i ?_)
    simp [q_bb, q_bits]
  · refine e2.trans (congrArg q_i ?_)
    simp [q_bb, q_bits]
  · refine e3.trans (congrArg q_i ?_)
    simp [q_bb, q_bits]
  · refine e4.trans (congrArg q_i ?_)
    simp [q_bb, q_bits]
  · refine e5.trans (congrArg q_i ?_)
    simp [q_bb, q_bits]
theorem q_bits_or2 (S T : Nat → Bool) : q_i (q_bits S) ||| q_i (q_bits T) = q_i (q_bits (fun k => S k || T k)) := q_bb_or2 (S 0) (S 1) (S 2) (S 3) (S 4) (S 5) (T 0) (T 1) (T 2) (T 3) (T 4) (T 5)
theorem q_bits_and (S : Nat → Bool) {o : Int} (h0 : 0 ≤ o) (h6 : o < 6) : (q_i (q_bits S) &&& (q_i 1 <<< (q_i o &&& 31)) = 0) = (S o.toNat = false) := by
  obtain ⟨e0, e1, e2, e3, e4, e5⟩ := q_bb_and (S 0) (S 1) (S 2) (S 3) (S 4) (S 5)
  rcases q_six h0 h6 with rfl | rfl | rfl | rfl | rfl | rfl
  · exact e0
  · exact e1
  · exact e2
  · exact e3
  · exact e4
  · exact e5
theorem q_bits_shr (S : Nat → Bool) {o : Int} (h0 : 0 ≤ o) (h6 : o < 6) : ((q_i (q_bits S) >>> (q_i o &&& 31)) &&& q_i 1 = q_i 1) = (S o.toNat = true) := by
  obtain ⟨e0, e1, e2, e3, e4, e5⟩ := q_bb_shr (S 0) (S 1) (S 2) (S 3) (S 4) (S 5)
  rcases q_six h0 h6 with rfl | rfl | rfl | rfl | rfl | rfl
  · exact propext e0
  · exact propext e1
  · exact propext e2
  · exact propext e3
  · exact propext e4
  · exact propext e5
/-- what the class has in a cell -/
def q_hl (g : Nat → Int) (c : Int) : Int := if q_is g c = 0 then -1 else if q_is g c = 1 then -2 else q_is g c / 2 - 1
theorem q_hl_net {g : Nat → Int} {c : Int} (h : 0 ≤ q_hl g c) : q_hl g c = q_net g c := by
  unfold q_hl q_net at *
  split at h
  · omega
  · split at h
    · omega
    · rename_i h0 h1
      rw [if_neg h0, if_neg h1]
      split <;> omega
theorem q_hl_ge {g : Nat → Int} (hc : q_cells g) {c : Int} (h0 : 0 ≤ c) (h1 : c < 96) : (0 ≤ q_hl g c ↔ 0 ≤ q_net g c) ∧ -2 ≤ q_hl g c ∧ q_hl g c < 6 := by
  have h := hc c.toNat (by omega)
  have e : q_is g c = g (55 + c.toNat) := congrArg g (by omega)
  unfold q_hl q_net
  rw [e]
  split
  · rw [if_pos (by omega)]; omega
  · split
    · rw [if_pos (by omega)]; omega
    · rw [if_neg (by omega)]; omega
def q_wir (g : Nat → Int) (n : Nat) : Nat := q_cnt (fun c => decide (g (55 + c) = 3 + 2 * n)) 96
def q_hls (g : Nat → Int) (n : Nat) : Nat := q_cnt (fun p => decide (g (151 + p) = n + 1)) 48
/-- the class's board at b holds the row g -/
def q_Bd (m : Nat → Nat → Int) (b : Nat) (g : Nat → Int) : Prop :=
  m b 0 = g 0 ∧ m b 1 = q_cnt (fun c => decide (g (55 + c) = 1)) 96 ∧
  (∀ n, n < 6 → m (b + 1) n = g (1 + 9 * n)) ∧ (∀ n, n < 6 → m (b + 2) n = g (7 + 9 * n)) ∧ (∀ n, n < 6 → m (b + 3) n = g (2 + 9 * n)) ∧ (∀ n, n < 6 → m (b + 4) n = g (8 + 9 * n)) ∧
  (∀ n, n < 6 → m (b + 5) n = q_wir g n) ∧ (∀ n, n < 6 → m (b + 6) n = q_hls g n) ∧ (∀ n, n < 6 → m (b + 7) n = g (9 + 9 * n)) ∧
  (∀ n k, n < 6 → k < 4 → m (b + 8) (4 * n + k) = g (3 + 9 * n + k)) ∧ (∀ c : Nat, c < 96 → m (b + 9) c = q_hl g c) ∧ (∀ c : Nat, c < 96 → m (b + 10) (c % 48) = q_b (q_pin g c)) ∧ (∀ p : Nat, p < 48 → m (b + 11) p = q_b (0 < g (151 + p)))
theorem q_Bd_0 {m : Nat → Nat → Int} {b : Nat} {g : Nat → Int} (h : q_Bd m b g) : m b 0 = g 0 := h.1
theorem q_Bd_wide {m : Nat → Nat → Int} {b : Nat} {g : Nat → Int} (h : q_Bd m b g) {n : Int} (h0 : 0 ≤ n) (h6 : n < 6) : m (b + 1) n.toNat = g (1 + 9 * n).toNat := by
  rw [h.2.2.1 _ (by omega)]
  congr 1
  omega
theorem q_Bd_held {m : Nat → Nat → Int} {b : Nat} {g : Nat → Int} (h : q_Bd m b g) {c : Int} (h0 : 0 ≤ c) (h1 : c < 96) : m (b + 9) c.toNat = q_hl g c := by
  rw [h.2.2.2.2.2.2.2.2.2.2.1 _ (by omega), show ((c.toNat : Nat) : Int) = c by omega]
theorem q_Bd_pin {m : Nat → Nat → Int} {b : Nat} {g : Nat → Int} (h : q_Bd m b g) {c : Int} (h0 : 0 ≤ c) (h1 : c < 96) : m (b + 10) (c % 48).toNat = q_b (q_pin g c) := by
  have e := h.2.2.2.2.2.2.2.2.2.2.2.1 c.toNat (by omega)
  rw [show ((c.toNat : Nat) : Int) = c by omega] at e
  rw [← e]
  congr 1
  omega
/-- what holds of the row of a state -/
def q_W (g : Nat → Int) : Prop := (∀ k, q_R (g k)) ∧ (0 ≤ g 0 ∧ g 0 ≤ 6) ∧ (∀ n, n < 6 → g (1 + 9 * n) = 0 ∨ g (1 + 9 * n) = 1) ∧ (∀ n, n < 6 → 0 ≤ g (2 + 9 * n) ∧ g (2 + 9 * n) ≤ 4) ∧ (∀ n, n < 6 → g (7 + 9 * n) = 0 ∨ g (7 + 9 * n) = 1) ∧ (∀ n, n < 6 → 0 ≤ g (8 + 9 * n) ∧ g (8 + 9 * n) ≤ 5000) ∧
  (∀ n k, n < 6 → k < 4 → 0 ≤ g (3 + 9 * n + k) ∧ g (3 + 9 * n + k) < 48) ∧ (∀ n k : Nat, n < 6 → (k : Int) < g (2 + 9 * n) → q_is g (g (3 + 9 * n + k)) = 2 + 2 * n ∧ q_is g (g (3 + 9 * n + k) + 48) = 2 + 2 * n) ∧ (∀ n k : Nat, n < 6 → g 0 ≤ n → k < 9 → g (1 + 9 * n + k) = 0) ∧
  (∀ c, c < 96 → 0 ≤ g (55 + c) ∧ g (55 + c) ≤ 1 + 2 * g 0) ∧ (∀ c n : Nat, c < 96 → n < 6 → g (55 + c) = 3 + 2 * n → g (7 + 9 * n) = 1) ∧ (∀ p : Nat, p < 48 → q_pin g p ∨ q_pin g (p + 48) → g (55 + p) = g (103 + p)) ∧
  (∀ p : Nat, p < 48 → 0 ≤ g (151 + p) ∧ g (151 + p) ≤ 6 ∧ (g (151 + p) ≠ 0 → g (55 + p) = 1 + 2 * g (151 + p) ∧ g (103 + p) = 1 + 2 * g (151 + p)))
theorem q_W_R {g : Nat → Int} (h : q_W g) : ∀ k, q_R (g k) := h.1
theorem q_W_0 {g : Nat → Int} (h : q_W g) : 0 ≤ g 0 ∧ g 0 ≤ 6 := h.2.1
theorem q_W_cells {g : Nat → Int} (h : q_W g) : q_cells g := fun c hc => by
  have h1 := h.2.2.2.2.2.2.2.2.2.1 c hc
  have h2 := h.2.1
  omega
theorem q_W_wide {g : Nat → Int} (h : q_W g) {n : Int} (h0 : 0 ≤ n) (h6 : n < 6) : (g (1 + 9 * n).toNat = 0) = ¬ q_wide g n := by
  have h1 := h.2.2.1 n.toNat (by omega)
  rw [show 1 + 9 * n.toNat = (1 + 9 * n).toNat by omega] at h1
  unfold q_wide
  apply propext
  omega
