section M79
variable {m : Nat → Nat → Int} {K : Nat × Nat} {s : List Int32}
theorem q_chg {C c r : x_H → q_O} (hI : q_Iv m) (hK : 162 ≤ K.1) (hop : q_Op (m 150) c r)
    (hok : ∀ (v : Int) (m0 m1 m2 : Nat → Nat → Int), x_m 301 [.ref 23] (q_H m K s) = some (.inl none, q_H m0 K s) → c (q_H m0 K s) = some (.inl (some (.int (q_i v))), q_H m1 K s) → x_m 734 [.ref 0, .int (q_i v)] (q_H m1 K s) = some (.inl (some (.int (q_i v))), q_H m2 K s) → C (q_H m K s) = some (.inl (some (.int (q_i v))), q_H m2 K s))
    (hno : ∀ (v : Int) (m0 m1 : Nat → Nat → Int), x_m 301 [.ref 23] (q_H m K s) = some (.inl none, q_H m0 K s) → c (q_H m0 K s) = some (.inl (some (.int (q_i v))), q_H m1 K s) → x_m 734 [.ref 0, .int (q_i v)] (q_H m1 K s) = some (.inr "java/lang/UnsupportedOperationException", q_H m1 (K.1 + 1, K.2 + 6) s) → C (q_H m K s) = some (.inr "java/lang/UnsupportedOperationException", q_H m1 (K.1 + 1, K.2 + 6) s)) : q_ok m K s C r ∨ q_no m K s C r "java/lang/UnsupportedOperationException" 1 := by
  have hW := q_Iv_W hI
  have hB := q_Iv_B hI
  obtain ⟨hHC, h5, h6, -⟩ := q_Iv_2 hI
  have hsl := q_sl_lt hHC
  have e301 := m301 (K := K) (s := s) hHC (q_Bd_Bb hB hW)
  have f0 : ∀ a, (a < 37 ∨ 145 ≤ a) → q_cB m (q_sl m) 1 a = m a := fun a ha => q_cB_a (by omega)
  have hB0 : q_Bd (q_cB m (q_sl m) 1) 1 (m 150) := q_Bd_fr hB fun k hk => f0 _ (by omega)
  obtain ⟨hHC1, hHC2⟩ := hHC
  rcases hop with ⟨R, d, b, r1, r2, hc, hr⟩ | ⟨v, g', v0, v1, w1, z1, hc, hr⟩
  · right
    obtain ⟨m1, c1, c2, c3, c4, c5, c6⟩ := hc (q_cB m (q_sl m) 1) K s hB0
    have e149 : m1 149 = m 149 := (c6 149 (by decide)).trans (f0 149 (by decide))
    obtain ⟨m2, d1, d2, d3, d4, d5, d6, d7⟩ := hr m1 (K.1 + 1, K.2 + 6) s ((c6 150 (by decide)).trans (f0 150 (by decide))) ⟨Or.inl (by rw [e149]; exact h6), by rw [e149, h5]; exact hHC2.1, by rw [e149, h5]; exact hHC2.2⟩
    refine ⟨b, m1, m2, hno _ _ _ e301 c1 (m734n hK), d1, d2, q_refd (r := R) (d := d) hI r1 r2 ?_ ?_ d3 d4 ?_ ?_ ?_ ?_⟩
    · intro a a1 a2 a3 a4
      rw [d6 a a1 (by omega) (by omega) (by omega)]
      exact c6 a (by omega)
    · intro k k1 k2 k3 k4 k5 _ _
      rw [d7 k k1 k2 k3 k4 k5, e149]
    · rw [d5, d6 21 (by decide) (by decide) (by decide) (by decide), c4, f0 21 (by decide)]
      exact (q_Iv_4 hI).2.2.2.1.symm
    · rw [d6 21 (by decide) (by decide) (by decide) (by decide), c2]
    · rw [d6 21 (by decide) (by decide) (by decide) (by decide), c3]
    · rw [d6 21 (by decide) (by decide) (by decide) (by decide), c5, f0 21 (by decide)]
      exact (q_Iv_4 hI).2.2.2.1
  · left
    obtain ⟨m1, c1, c2, c3⟩ := hc (q_cB m (q_sl m) 1) K s hB0
    have e23 : m1 23 = m 23 := (c3 23 (by decide)).trans (f0 23 (by decide))
    have e734 := m734y (m := m1) (K := K) (s := s) v0 v1 (by unfold q_HC; rw [e23]; exact ⟨hHC1, hHC2⟩)
    have n1 : ∀ a, a ≠ 23 → (if m1 23 4 < 8 then q_M m1 23 4 (m1 23 4 + 1) else q_M m1 23 3 ((m1 23 3 + 1) % 9)) a = m1 a := fun a ha => by
      split <;> rw [q_M_a ha]
    have n3 : (if m1 23 4 < 8 then q_M m1 23 4 (m1 23 4 + 1) else q_M m1 23 3 ((m1 23 3 + 1) % 9)) 23 3 = if m 23 4 < 8 then m 23 3 else (m 23 3 + 1) % 9 := by
      rw [e23]
      split
      · rw [q_M_k (by decide), e23]
      · rw [q_M_s]
    have n4 : (if m1 23 4 < 8 then q_M m1 23 4 (m1 23 4 + 1) else q_M m1 23 3 ((m1 23 3 + 1) % 9)) 23 4 = if m 23 4 < 8 then m 23 4 + 1 else m 23 4 := by
      rw [e23]
      split
      · rw [q_M_s]
      · rw [q_M_k (by decide), e23]
    have n5 : (if m1 23 4 < 8 then q_M m1 23 4 (m1 23 4 + 1) else q_M m1 23 3 ((m1 23 3 + 1) % 9)) 23 5 = m 23 5 := by
      rw [e23]
      split
      · rw [q_M_k (by decide), e23]
      · rw [q_M_k (by decide), e23]
    generalize (if m1 23 4 < 8 then q_M m1 23 4 (m1 23 4 + 1) else q_M m1 23 3 ((m1 23 3 + 1) % 9)) = m2 at *
    have o1 : ∀ a, a ≠ 23 → a ≠ 160 → (a = 0 ∨ 21 ≤ a) → q_M m2 160 0 v a = q_cB m (q_sl m) 1 a := fun a a1 a2 a3 => by rw [q_M_a a2, n1 a a1, c3 a a3]
    have o2 : ∀ a, a ≠ 160 → q_M m2 160 0 v a = m2 a := fun a a1 => q_M_a a1
    have e149 : q_M m2 160 0 v 149 = m 149 := by rw [o1 149 (by decide) (by decide) (by decide), f0 149 (by decide)]
    obtain ⟨m3, d1, d2, d3, d4, d5, d6, d7⟩ := hr (q_M m2 160 0 v) K s (by rw [o1 150 (by decide) (by decide) (by decide), f0 150 (by decide)]) ⟨Or.inl (by rw [e149]; exact h6), by rw [e149, h5]; exact hHC2.1, by rw [e149, h5]; exact hHC2.2⟩
    have o3 : ∀ a, a ≠ 149 → a ≠ 150 → a ≠ 151 → a ≠ 156 → a ≠ 157 → a ≠ 158 → m3 a = q_M m2 160 0 v a := d6
    refine ⟨v, m2, m3, hok _ _ _ _ e301 c1 e734, d1, d4, ?_, q_done (mk := q_M m2 160 0 v) (row := 150) hI w1 z1 ?_ d2 ?_ ?_ ?_ ?_ ?_ ?_ d5 d3 ?_ ?_ ?_ ?_ (by decide) (by decide)⟩
    · rw [o3 160 (by decide) (by decide) (by decide) (by decide) (by decide) (by decide), q_M_s]
    · exact q_Bd_fr c2 fun k hk => by rw [o3 _ (by omega) (by omega) (by omega) (by omega) (by omega) (by omega), o2 _ (by omega), n1 _ (by omega)]
    · intro a ha
      rw [o3 a (by omega) (by omega) (by omega) (by omega) (by omega) (by omega)]
      exact o1 a (by omega) (by omega) (by omega)
    · rw [o3 153 (by decide) (by decide) (by decide) (by decide) (by decide) (by decide), o1 153 (by decide) (by decide) (by decide), f0 153 (by decide)]
      exact q_Iv_8 hI
    · rw [o3 23 (by decide) (by decide) (by decide) (by decide) (by decide) (by decide), o2 23 (by decide), n5]
    · rw [o3 23 (by decide) (by decide) (by decide) (by decide) (by decide) (by decide), o2 23 (by decide), n3]
    · rw [o3 23 (by decide) (by decide) (by decide) (by decide) (by decide) (by decide), o2 23 (by decide), n4]
    · intro k k1 k2 k3 _ _
      rw [d7 k k1 k2 k3, e149]
    · rw [e149]
      exact h6
    · rw [e149]
    · rw [o1 151 (by decide) (by decide) (by decide), f0 151 (by decide)]
    · rw [o1 150 (by decide) (by decide) (by decide), f0 150 (by decide)]
end M79
