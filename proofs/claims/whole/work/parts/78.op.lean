section M78
variable {m : Nat → Nat → Int} {K : Nat × Nat} {s : List Int32}
/-- the class refuses; the class has changed its board; the reference refuses; the reference has changed its row -/
def q_Cr (m m1 : Nat → Nat → Int) (r d : Int) : Prop := m1 21 0 = r ∧ m1 21 1 = d ∧ m1 21 2 = m 21 3 ∧ m1 21 3 = m 21 3 ∧ ∀ a, (a < 13 ∨ 22 ≤ a) → m1 a = m a
def q_Cs (m m1 : Nat → Nat → Int) (g' : Nat → Int) : Prop := q_Bd m1 1 g' ∧ ∀ a, (a = 0 ∨ 21 ≤ a) → m1 a = m a
def q_Mr (m m2 : Nat → Nat → Int) (r d : Int) : Prop := m2 149 7 = 1 ∧ m2 149 8 = r ∧ m2 149 9 = d ∧ m2 149 10 = 0 ∧ (∀ a, a ≠ 149 → a ≠ 156 → a ≠ 157 → a ≠ 158 → m2 a = m a) ∧ ∀ k, k ≠ 7 → k ≠ 8 → k ≠ 9 → k ≠ 10 → k ≠ 19 → m2 149 k = m 149 k
def q_Ms (m m2 : Nat → Nat → Int) (g' : Nat → Int) : Prop := m2 150 = g' ∧ m2 151 = q_ks m 150 151 ∧ m2 149 7 = 0 ∧ m2 149 5 = q_ks m 150 149 5 ∧ (∀ a, a ≠ 149 → a ≠ 150 → a ≠ 151 → a ≠ 156 → a ≠ 157 → a ≠ 158 → m2 a = m a) ∧ ∀ k, k ≠ 5 → k ≠ 7 → k ≠ 19 → m2 149 k = m 149 k
def q_KC (m : Nat → Nat → Int) : Prop := (m 149 6 = 0 ∨ m 149 6 = 1) ∧ 0 ≤ m 149 5 ∧ m 149 5 ≤ 8
/-- one change, by the class and by the reference, on the same row g -/
def q_Op (g : Nat → Int) (c r : x_H → q_O) : Prop := (∃ (R d b : Int), 1 ≤ R ∧ R ≤ 11 ∧ (∀ (m : Nat → Nat → Int) (K : Nat × Nat) (s : List Int32), q_Bd m 1 g → ∃ m1, c (q_H m K s) = some (.inl (some (.int (q_i (-1)))), q_H m1 K s) ∧ q_Cr m m1 R d) ∧ ∀ (m : Nat → Nat → Int) (K : Nat × Nat) (s : List Int32), m 150 = g → q_KC m → ∃ m2, r (q_H m K s) = some (.inl (some (.int (q_i b))), q_H m2 K s) ∧ q_Mr m m2 R d) ∨
  (∃ (v : Int) (g' : Nat → Int), 0 ≤ v ∧ v < 2000000000 ∧ q_W g' ∧ q_Z g' ∧ (∀ (m : Nat → Nat → Int) (K : Nat × Nat) (s : List Int32), q_Bd m 1 g → ∃ m1, c (q_H m K s) = some (.inl (some (.int (q_i v))), q_H m1 K s) ∧ q_Cs m m1 g') ∧ ∀ (m : Nat → Nat → Int) (K : Nat × Nat) (s : List Int32), m 150 = g → q_KC m → ∃ m2, r (q_H m K s) = some (.inl (some (.int (q_i v))), q_H m2 K s) ∧ q_Ms m m2 g')
theorem m401 {r d : Int} : x_m 401 [.ref 21, .int (q_i r), .int (q_i d)] (q_H m K s) = some (.inl (some (.int (q_i (-1)))), q_H (q_M (q_M (q_M m 21 0 r) 21 1 d) 21 2 (m 21 3)) K s) := by
  simp (disch := first | rfl | assumption | decide | omega | (unfold q_R; omega)) only [en401, e401_0, e401_1, e401_2, e401_5, e401_6, e401_7, e401_10, e401_11, e401_12, e401_15, e401_18, e401_19, ↓q_nv0, ↓q_nv1, ↓q_nv2, ↓q_nv3, ↓q_nv4, ↓q_nv5, ↓q_nv6, ↓q_nv7, ↓q_nv8, ↓q_nv9, ↓q_nv10, ↓q_nv11, ↓q_nv12, ↓q_nv13, ↓q_nv14, ↓q_nv15, ↓q_nv16, ↓q_nv17, ↓q_nv18, ↓q_nv19, ↓q_nv20, ↓q_nv21, ↓q_nv22, ↓q_gi0, ↓q_gi1, ↓q_gi2, ↓q_gi3, ↓q_gi4, ↓q_gi5, ↓q_gi6, ↓q_gi7, ↓q_gi8, ↓q_gi9, ↓q_gr0, ↓q_gr1, ↓q_gr2, ↓q_gr3, ↓q_gr4, ↓q_gr5, ↓q_gr6, ↓q_gr7, ↓q_gr8, ↓q_gr9, ↓q_ls0, ↓q_ls1i, ↓q_ls1r, ↓q_ls1n, ↓q_ls2i, ↓q_ls2r, ↓q_ls2n, ↓q_ls3i, ↓q_ls3r, ↓q_ls3n, ↓q_ls4i, ↓q_ls4r, ↓q_ls4n, ↓q_ls5i, ↓q_ls5r, ↓q_ls5n, ↓q_ls6i, ↓q_ls6r, ↓q_ls6n, ↓q_ls7i, ↓q_ls7r, ↓q_ls7n, ↓q_ls8i, ↓q_ls8r, ↓q_ls8n, ↓q_ls9i, ↓q_ls9r, ↓q_ls9n, q_nd0, q_nd1i, q_nd1r, q_nd1n, q_nd2i, q_nd2r, q_nd2n, q_nd3i, q_nd3r, q_nd3n, q_nd4i, q_nd4r, q_nd4n, q_nd5i, q_nd5r, q_nd5n, q_nd6i, q_nd6r, q_nd6n, q_nd7i, q_nd7r, q_nd7n, q_nd8i, q_nd8r, q_nd8n, q_nd9i, q_nd9r, q_nd9n, q_st0, q_st1, q_st2, q_st3, q_st4, q_st5, q_st6, q_st7, q_st8, q_st9, q_cat_i, q_cat_r, q_cat_n, q_wt0, q_wt1, q_tl0, q_tl1, ↓q_cl1, q_add, q_sub, q_mul, q_nari, q_narb0, q_narb1, q_fiti, q_fitb0, q_fitb1, List.cons_append, List.nil_append, Nat.reduceAdd, Nat.reduceLeDiff, and_self, and_true, true_and, ↓reduceIte, ↓rc0, ↓gf0_0, ↓gf0_1, ↓gf0_2, ↓gf0_3, ↓gf0_4, ↓gf0_5, ↓gf0_6, ↓gf0_7, ↓pf0_7, ft0_7, ↓rc1, ↓gf1_0, ↓pf1_0, ft1_0, ↓gf1_1, ↓pf1_1, ft1_1, ↓gf1_2, ↓gf1_3, ↓gf1_4, ↓gf1_5, ↓gf1_6, ↓gf1_7, ↓gf1_8, ↓gf1_9, ↓gf1_10, ↓gf1_11, ↓gf1_12, ↓rc13, ↓gf13_0, ↓gf13_1, ↓gf13_2, ↓gf13_3, ↓gf13_4, ↓gf13_5, ↓gf13_6, ↓pf13_6, ft13_6, ↓gf13_7, ↓pf13_7, ft13_7, ↓gf13_8, ↓pf13_8, ft13_8, ↓gf13_9, ↓pf13_9, ft13_90, ft13_91, ↓gf13_10, ↓gf13_11, ↓gf13_12, ↓pf13_12, ft13_12, ↓gf13_13, ↓pf13_13, ft13_13, ↓gf13_14, ↓pf13_14, ft13_14, ↓rc21, ↓gf21_0, ↓pf21_0, ft21_0, ↓gf21_1, ↓pf21_1, ft21_1, ↓gf21_2, ↓pf21_2, ft21_2, ↓gf21_3, ↓pf21_3, ft21_3, ↓rc22, ↓gf22_0, ↓gf22_1, ↓gf22_2, ↓rc23, ↓gf23_0, ↓gf23_1, ↓gf23_2, ↓gf23_3, ↓pf23_3, ft23_3, ↓gf23_4, ↓pf23_4, ft23_4, ↓gf23_5, ↓pf23_5, ft23_50, ft23_51, ↓rc145, ↓gf145_0, ↓gf145_1, ↓pf145_1, ft145_1, ↓rc147, ↓gf147_0, ↓gf147_1, ↓pf147_1, ft147_1, ↓rc149, ↓gf149_0, ↓gf149_1, ↓gf149_2, ↓gf149_3, ↓gf149_4, ↓pf149_4, ft149_40, ft149_41, ↓gf149_5, ↓pf149_5, ft149_5, ↓gf149_6, ↓pf149_6, ft149_60, ft149_61, ↓gf149_7, ↓pf149_7, ft149_7, ↓gf149_8, ↓pf149_8, ft149_8, ↓gf149_9, ↓pf149_9, ft149_9, ↓gf149_10, ↓pf149_10, ft149_10, ↓gf149_11, ↓gf149_12, ↓pf149_12, ft149_12, ↓gf149_13, ↓pf149_13, ft149_13, ↓gf149_14, ↓gf149_15, ↓pf149_15, ft149_15, ↓gf149_16, ↓gf149_17, ↓gf149_18, ↓gf149_19, ↓pf149_19, ft149_19, ↓gf149_20, ↓pf149_20, ft149_20, ↓gf149_21, ↓gf149_22, ↓pf149_22, ft149_22, q_M_s, q_M_k, q_M_a, q_P_s, q_P_a, q_toN, q_i00, q_i10, q_j00, q_j10, ft21_0, ft21_1, ft21_2, not_true_eq_false, not_false_eq_true, if_true, if_false]
theorem q_Cr_401 {r d : Int} : q_Cr m (q_M (q_M (q_M m 21 0 r) 21 1 d) 21 2 (m 21 3)) r d := by
  refine ⟨?_, ?_, ?_, ?_, ?_⟩
  · rw [q_M_k (by decide), q_M_k (by decide), q_M_s]
  · rw [q_M_k (by decide), q_M_s]
  · rw [q_M_s]
  · rw [q_M_k (by decide), q_M_k (by decide), q_M_k (by decide)]
  · intro a ha
    rw [q_M_a (by omega), q_M_a (by omega), q_M_a (by omega)]
theorem q_Mr_803 {r d : Int} : q_Mr m (q_rf m r d) r d := by
  unfold q_rf
  refine ⟨?_, ?_, ?_, ?_, ?_, ?_⟩
  · rw [q_M_k (by decide), q_M_k (by decide), q_M_k (by decide), q_M_s]
  · rw [q_M_k (by decide), q_M_k (by decide), q_M_s]
  · rw [q_M_k (by decide), q_M_s]
  · rw [q_M_s]
  · intro a a1 _ _ _
    rw [q_M_a a1, q_M_a a1, q_M_a a1, q_M_a a1]
  · intro k k1 k2 k3 k4 _
    rw [q_M_k k4, q_M_k k3, q_M_k k2, q_M_k k1]
theorem m734n (hK : 162 ≤ K.1) : x_m 734 [.ref 0, .int (q_i (-1))] (q_H m K s) = some (.inr "java/lang/UnsupportedOperationException", q_H m (K.1 + 1, K.2 + 6) s) := by
  simp (disch := first | rfl | assumption | decide | omega | (unfold q_R; omega)) only [en734, e734_0, e734_1, e734_2, e734_5, e734_16, e734_17, e734_20, e734_23, e734_24, ↓q_nv0, ↓q_nv1, ↓q_nv2, ↓q_nv3, ↓q_nv4, ↓q_nv5, ↓q_nv6, ↓q_nv7, ↓q_nv8, ↓q_nv9, ↓q_nv10, ↓q_nv11, ↓q_nv12, ↓q_nv13, ↓q_nv14, ↓q_nv15, ↓q_nv16, ↓q_nv17, ↓q_nv18, ↓q_nv19, ↓q_nv20, ↓q_nv21, ↓q_nv22, ↓q_gi0, ↓q_gi1, ↓q_gi2, ↓q_gi3, ↓q_gi4, ↓q_gi5, ↓q_gi6, ↓q_gi7, ↓q_gi8, ↓q_gi9, ↓q_gr0, ↓q_gr1, ↓q_gr2, ↓q_gr3, ↓q_gr4, ↓q_gr5, ↓q_gr6, ↓q_gr7, ↓q_gr8, ↓q_gr9, ↓q_ls0, ↓q_ls1i, ↓q_ls1r, ↓q_ls1n, ↓q_ls2i, ↓q_ls2r, ↓q_ls2n, ↓q_ls3i, ↓q_ls3r, ↓q_ls3n, ↓q_ls4i, ↓q_ls4r, ↓q_ls4n, ↓q_ls5i, ↓q_ls5r, ↓q_ls5n, ↓q_ls6i, ↓q_ls6r, ↓q_ls6n, ↓q_ls7i, ↓q_ls7r, ↓q_ls7n, ↓q_ls8i, ↓q_ls8r, ↓q_ls8n, ↓q_ls9i, ↓q_ls9r, ↓q_ls9n, q_nd0, q_nd1i, q_nd1r, q_nd1n, q_nd2i, q_nd2r, q_nd2n, q_nd3i, q_nd3r, q_nd3n, q_nd4i, q_nd4r, q_nd4n, q_nd5i, q_nd5r, q_nd5n, q_nd6i, q_nd6r, q_nd6n, q_nd7i, q_nd7r, q_nd7n, q_nd8i, q_nd8r, q_nd8n, q_nd9i, q_nd9r, q_nd9n, q_st0, q_st1, q_st2, q_st3, q_st4, q_st5, q_st6, q_st7, q_st8, q_st9, q_cat_i, q_cat_r, q_cat_n, q_wt0, q_wt1, q_tl0, q_tl1, ↓q_cl1, q_add, q_sub, q_mul, q_nari, q_narb0, q_narb1, q_fiti, q_fitb0, q_fitb1, List.cons_append, List.nil_append, Nat.reduceAdd, Nat.reduceLeDiff, and_self, and_true, true_and, ↓reduceIte, ↓rc0, ↓gf0_0, ↓gf0_1, ↓gf0_2, ↓gf0_3, ↓gf0_4, ↓gf0_5, ↓gf0_6, ↓gf0_7, ↓pf0_7, ft0_7, ↓rc1, ↓gf1_0, ↓pf1_0, ft1_0, ↓gf1_1, ↓pf1_1, ft1_1, ↓gf1_2, ↓gf1_3, ↓gf1_4, ↓gf1_5, ↓gf1_6, ↓gf1_7, ↓gf1_8, ↓gf1_9, ↓gf1_10, ↓gf1_11, ↓gf1_12, ↓rc13, ↓gf13_0, ↓gf13_1, ↓gf13_2, ↓gf13_3, ↓gf13_4, ↓gf13_5, ↓gf13_6, ↓pf13_6, ft13_6, ↓gf13_7, ↓pf13_7, ft13_7, ↓gf13_8, ↓pf13_8, ft13_8, ↓gf13_9, ↓pf13_9, ft13_90, ft13_91, ↓gf13_10, ↓gf13_11, ↓gf13_12, ↓pf13_12, ft13_12, ↓gf13_13, ↓pf13_13, ft13_13, ↓gf13_14, ↓pf13_14, ft13_14, ↓rc21, ↓gf21_0, ↓pf21_0, ft21_0, ↓gf21_1, ↓pf21_1, ft21_1, ↓gf21_2, ↓pf21_2, ft21_2, ↓gf21_3, ↓pf21_3, ft21_3, ↓rc22, ↓gf22_0, ↓gf22_1, ↓gf22_2, ↓rc23, ↓gf23_0, ↓gf23_1, ↓gf23_2, ↓gf23_3, ↓pf23_3, ft23_3, ↓gf23_4, ↓pf23_4, ft23_4, ↓gf23_5, ↓pf23_5, ft23_50, ft23_51, ↓rc145, ↓gf145_0, ↓gf145_1, ↓pf145_1, ft145_1, ↓rc147, ↓gf147_0, ↓gf147_1, ↓pf147_1, ft147_1, ↓rc149, ↓gf149_0, ↓gf149_1, ↓gf149_2, ↓gf149_3, ↓gf149_4, ↓pf149_4, ft149_40, ft149_41, ↓gf149_5, ↓pf149_5, ft149_5, ↓gf149_6, ↓pf149_6, ft149_60, ft149_61, ↓gf149_7, ↓pf149_7, ft149_7, ↓gf149_8, ↓pf149_8, ft149_8, ↓gf149_9, ↓pf149_9, ft149_9, ↓gf149_10, ↓pf149_10, ft149_10, ↓gf149_11, ↓gf149_12, ↓pf149_12, ft149_12, ↓gf149_13, ↓pf149_13, ft149_13, ↓gf149_14, ↓gf149_15, ↓pf149_15, ft149_15, ↓gf149_16, ↓gf149_17, ↓gf149_18, ↓gf149_19, ↓pf149_19, ft149_19, ↓gf149_20, ↓pf149_20, ft149_20, ↓gf149_21, ↓gf149_22, ↓pf149_22, ft149_22, q_M_s, q_M_k, q_M_a, q_P_s, q_P_a, q_toN, q_i00, q_i10, q_j00, q_j10, show ((q_H m K s)).2.1 ≤ ((q_H m K s)).2.2.1 from hK, show ¬ ¬ q_i (-1) = q_i (-1) from fun z => z rfl, not_true_eq_false, not_false_eq_true, if_true, if_false]
  rfl
theorem m734y {v : Int} (hv : 0 ≤ v) (hv2 : v < 2000000000) (h : q_HC m) : x_m 734 [.ref 0, .int (q_i v)] (q_H m K s) = some (.inl (some (.int (q_i v))), q_H (if m 23 4 < 8 then q_M m 23 4 (m 23 4 + 1) else q_M m 23 3 ((m 23 3 + 1) % 9)) K s) := by
  have e := m302 (m := m) (K := K) (s := s) h
  simp (disch := first | rfl | assumption | decide | omega | (unfold q_R; omega)) only [en734, e734_0, e734_1, e734_2, e734_5, e734_16, e734_17, e734_20, e734_23, e734_24, ↓q_nv0, ↓q_nv1, ↓q_nv2, ↓q_nv3, ↓q_nv4, ↓q_nv5, ↓q_nv6, ↓q_nv7, ↓q_nv8, ↓q_nv9, ↓q_nv10, ↓q_nv11, ↓q_nv12, ↓q_nv13, ↓q_nv14, ↓q_nv15, ↓q_nv16, ↓q_nv17, ↓q_nv18, ↓q_nv19, ↓q_nv20, ↓q_nv21, ↓q_nv22, ↓q_gi0, ↓q_gi1, ↓q_gi2, ↓q_gi3, ↓q_gi4, ↓q_gi5, ↓q_gi6, ↓q_gi7, ↓q_gi8, ↓q_gi9, ↓q_gr0, ↓q_gr1, ↓q_gr2, ↓q_gr3, ↓q_gr4, ↓q_gr5, ↓q_gr6, ↓q_gr7, ↓q_gr8, ↓q_gr9, ↓q_ls0, ↓q_ls1i, ↓q_ls1r, ↓q_ls1n, ↓q_ls2i, ↓q_ls2r, ↓q_ls2n, ↓q_ls3i, ↓q_ls3r, ↓q_ls3n, ↓q_ls4i, ↓q_ls4r, ↓q_ls4n, ↓q_ls5i, ↓q_ls5r, ↓q_ls5n, ↓q_ls6i, ↓q_ls6r, ↓q_ls6n, ↓q_ls7i, ↓q_ls7r, ↓q_ls7n, ↓q_ls8i, ↓q_ls8r, ↓q_ls8n, ↓q_ls9i, ↓q_ls9r, ↓q_ls9n, q_nd0, q_nd1i, q_nd1r, q_nd1n, q_nd2i, q_nd2r, q_nd2n, q_nd3i, q_nd3r, q_nd3n, q_nd4i, q_nd4r, q_nd4n, q_nd5i, q_nd5r, q_nd5n, q_nd6i, q_nd6r, q_nd6n, q_nd7i, q_nd7r, q_nd7n, q_nd8i, q_nd8r, q_nd8n, q_nd9i, q_nd9r, q_nd9n, q_st0, q_st1, q_st2, q_st3, q_st4, q_st5, q_st6, q_st7, q_st8, q_st9, q_cat_i, q_cat_r, q_cat_n, q_wt0, q_wt1, q_tl0, q_tl1, ↓q_cl1, q_add, q_sub, q_mul, q_nari, q_narb0, q_narb1, q_fiti, q_fitb0, q_fitb1, List.cons_append, List.nil_append, Nat.reduceAdd, Nat.reduceLeDiff, and_self, and_true, true_and, ↓reduceIte, ↓rc0, ↓gf0_0, ↓gf0_1, ↓gf0_2, ↓gf0_3, ↓gf0_4, ↓gf0_5, ↓gf0_6, ↓gf0_7, ↓pf0_7, ft0_7, ↓rc1, ↓gf1_0, ↓pf1_0, ft1_0, ↓gf1_1, ↓pf1_1, ft1_1, ↓gf1_2, ↓gf1_3, ↓gf1_4, ↓gf1_5, ↓gf1_6, ↓gf1_7, ↓gf1_8, ↓gf1_9, ↓gf1_10, ↓gf1_11, ↓gf1_12, ↓rc13, ↓gf13_0, ↓gf13_1, ↓gf13_2, ↓gf13_3, ↓gf13_4, ↓gf13_5, ↓gf13_6, ↓pf13_6, ft13_6, ↓gf13_7, ↓pf13_7, ft13_7, ↓gf13_8, ↓pf13_8, ft13_8, ↓gf13_9, ↓pf13_9, ft13_90, ft13_91, ↓gf13_10, ↓gf13_11, ↓gf13_12, ↓pf13_12, ft13_12, ↓gf13_13, ↓pf13_13, ft13_13, ↓gf13_14, ↓pf13_14, ft13_14, ↓rc21, ↓gf21_0, ↓pf21_0, ft21_0, ↓gf21_1, ↓pf21_1, ft21_1, ↓gf21_2, ↓pf21_2, ft21_2, ↓gf21_3, ↓pf21_3, ft21_3, ↓rc22, ↓gf22_0, ↓gf22_1, ↓gf22_2, ↓rc23, ↓gf23_0, ↓gf23_1, ↓gf23_2, ↓gf23_3, ↓pf23_3, ft23_3, ↓gf23_4, ↓pf23_4, ft23_4, ↓gf23_5, ↓pf23_5, ft23_50, ft23_51, ↓rc145, ↓gf145_0, ↓gf145_1, ↓pf145_1, ft145_1, ↓rc147, ↓gf147_0, ↓gf147_1, ↓pf147_1, ft147_1, ↓rc149, ↓gf149_0, ↓gf149_1, ↓gf149_2, ↓gf149_3, ↓gf149_4, ↓pf149_4, ft149_40, ft149_41, ↓gf149_5, ↓pf149_5, ft149_5, ↓gf149_6, ↓pf149_6, ft149_60, ft149_61, ↓gf149_7, ↓pf149_7, ft149_7, ↓gf149_8, ↓pf149_8, ft149_8, ↓gf149_9, ↓pf149_9, ft149_9, ↓gf149_10, ↓pf149_10, ft149_10, ↓gf149_11, ↓gf149_12, ↓pf149_12, ft149_12, ↓gf149_13, ↓pf149_13, ft149_13, ↓gf149_14, ↓gf149_15, ↓pf149_15, ft149_15, ↓gf149_16, ↓gf149_17, ↓gf149_18, ↓gf149_19, ↓pf149_19, ft149_19, ↓gf149_20, ↓pf149_20, ft149_20, ↓gf149_21, ↓gf149_22, ↓pf149_22, ft149_22, q_M_s, q_M_k, q_M_a, q_P_s, q_P_a, q_toN, q_i00, q_i10, q_j00, q_j10, q_eq, show ¬ v = -1 by omega, e, not_true_eq_false, not_false_eq_true, if_true, if_false]
theorem q_sl_lt (h : q_HC m) : 37 ≤ q_sl m ∧ q_sl m < 134 := by
  obtain ⟨⟨a, b⟩, c, d⟩ := h
  exact (q_sl_B (m := m) (by omega)).2
/-- the slot ahead is none of those that count -/
theorem q_I2_prep (h : q_I2 m) (i : Nat) (hi : (i : Int) < m 23 4) : q_Bd (q_cB m (q_sl m) 1) (q_sp9 (m 23 3) i) (q_row m i) := by
  obtain ⟨⟨⟨a, b⟩, c, d⟩, h2, h3, h4⟩ := h
  have hl := q_sp9_lt (st := m 23 3) i
  refine q_Bd_fr (h4 i hi).1 fun k hk => q_cB_a ?_
  have hne : ((m 23 3 + i) % 9).toNat ≠ ((m 23 3 + m 23 4) % 9).toNat := by omega
  unfold q_sp9 q_sl
  omega
/-- a call that was refused leaves all as it should be -/
theorem q_refd {mm : Nat → Nat → Int} {r d : Int} (hI : q_Iv m) (hr : 1 ≤ r) (hr2 : r ≤ 11) (ha : ∀ a, a ≠ 149 → a ≠ 21 → (a < 13 ∨ 21 ≤ a) → (a < 156 ∨ 161 < a) → mm a = q_cB m (q_sl m) 1 a) (hk : ∀ k, k ≠ 7 → k ≠ 8 → k ≠ 9 → k ≠ 10 → k ≠ 19 → k ≠ 20 → k ≠ 22 → mm 149 k = m 149 k) (h8 : mm 149 8 = r) (h9 : mm 149 9 = d) (h10 : mm 149 10 = mm 21 2) (c0 : mm 21 0 = r) (c1 : mm 21 1 = d) (c3 : mm 21 3 = 0) : q_Iv mm := by
  have h2 := q_Iv_2 hI
  have hsl := q_sl_lt h2.1
  have g1 : ∀ a, a ≠ 149 → a ≠ 21 → (a < 13 ∨ 21 ≤ a) → (a < 156 ∨ 161 < a) → (a < 37 ∨ 145 ≤ a) → mm a = m a := fun a a1 a2 a3 a4 a5 => by rw [ha a a1 a2 a3 a4, q_cB_a (by omega)]
  refine q_Iv_mk (q_I1_fr (q_Iv_1 hI) (g1 150 (by decide) (by decide) (by decide) (by decide) (by decide)) fun k hk => g1 _ (by omega) (by omega) (by omega) (by omega) (by omega)) ⟨?_, ?_, ?_, ?_⟩ (q_I3_fr (q_Iv_3 hI) (by rw [g1 23 (by decide) (by decide) (by decide) (by decide) (by decide)]) (hk 4 (by decide) (by decide) (by decide) (by decide) (by decide) (by decide) (by decide)) (g1 152 (by decide) (by decide) (by decide) (by decide) (by decide)) fun k hk => g1 _ (by omega) (by omega) (by omega) (by omega) (by omega)) ⟨by rw [h8, c0], by rw [h9, c1], h10, c3, by rw [c0]; omega, by rw [c0]; omega⟩ (q_I5_fr (q_Iv_5 hI) (by rw [g1 145 (by decide) (by decide) (by decide) (by decide) (by decide)]) (hk 12 (by decide) (by decide) (by decide) (by decide) (by decide) (by decide) (by decide)) (g1 146 (by decide) (by decide) (by decide) (by decide) (by decide)) (g1 154 (by decide) (by decide) (by decide) (by decide) (by decide))) (q_I6_fr (q_Iv_6 hI) (by rw [g1 0 (by decide) (by decide) (by decide) (by decide) (by decide)]) (hk 13 (by decide) (by decide) (by decide) (by decide) (by decide) (by decide) (by decide))) (q_I7_fr (q_Iv_7 hI) (by rw [g1 147 (by decide) (by decide) (by decide) (by decide) (by decide)]) (hk 15 (by decide) (by decide) (by decide) (by decide) (by decide) (by decide) (by decide)) (g1 148 (by decide) (by decide) (by decide) (by decide) (by decide)) (g1 155 (by decide) (by decide) (by decide) (by decide) (by decide))) (by rw [g1 153 (by decide) (by decide) (by decide) (by decide) (by decide)]; exact q_Iv_8 hI)
  · unfold q_HC
    rw [g1 23 (by decide) (by decide) (by decide) (by decide) (by decide)]
    exact h2.1
  · rw [g1 23 (by decide) (by decide) (by decide) (by decide) (by decide), hk 5 (by decide) (by decide) (by decide) (by decide) (by decide) (by decide) (by decide)]
    exact h2.2.1
  · rw [hk 6 (by decide) (by decide) (by decide) (by decide) (by decide) (by decide) (by decide)]
    exact h2.2.2.1
  · rw [g1 23 (by decide) (by decide) (by decide) (by decide) (by decide)]
    intro i hi
    have er : q_row mm i = q_row m i := by
      unfold q_row
      rw [g1 151 (by decide) (by decide) (by decide) (by decide) (by decide)]
    rw [er]
    have hl := q_sp9_lt (st := m 23 3) i
    exact ⟨q_Bd_fr (q_I2_prep h2 i hi) fun k hk => ha _ (by omega) (by omega) (by omega) (by omega), (h2.2.2.2 i hi).2⟩
/-- a change is done -/
theorem q_done {mm mk : Nat → Nat → Int} {g' : Nat → Int} {row : Nat} (hI : q_Iv m) (hW : q_W g') (hZ : q_Z g') (hB : q_Bd mm 1 g') (h150 : mm 150 = g')
    (ha : ∀ a, a = 0 ∨ a = 21 ∨ (24 < a ∧ a < 149) ∨ a = 152 ∨ a = 154 ∨ a = 155 → mm a = q_cB m (q_sl m) 1 a) (h153 : q_Z (mm 153)) (h5 : mm 23 5 = m 23 5) (h3 : mm 23 3 = if m 23 4 < 8 then m 23 3 else (m 23 3 + 1) % 9) (h4 : mm 23 4 = if m 23 4 < 8 then m 23 4 + 1 else m 23 4)
    (hk : ∀ k, k ≠ 5 → k ≠ 7 → k ≠ 19 → k ≠ 20 → k ≠ 22 → mm 149 k = m 149 k) (hm5 : mm 149 5 = q_ks mk row 149 5) (h151 : mm 151 = q_ks mk row 151) (hmk6 : mk 149 6 = 0) (hmk5 : mk 149 5 = m 149 5) (hmk1 : mk 151 = m 151) (hrow : mk row = m 150) (hr1 : row ≠ 149) (hr2 : row ≠ 151) : q_Iv mm := by
  have h2 := q_Iv_2 hI
  obtain ⟨⟨⟨p1, p2⟩, p3, p4⟩, p5, p6, p7⟩ := h2
  have hsl := q_sl_lt (q_Iv_2 hI).1
  have g1 : ∀ a, a = 0 ∨ a = 21 ∨ (24 < a ∧ a < 37) ∨ (144 < a ∧ a < 149) ∨ a = 152 ∨ a = 154 ∨ a = 155 → mm a = m a := fun a a1 => by rw [ha a (by omega), q_cB_a (by omega)]
  obtain ⟨c, hc⟩ : ∃ c : Nat, m 23 4 = c := ⟨(m 23 4).toNat, by omega⟩
  obtain ⟨k5, krow⟩ := q_ks_rows (m := mk) (row := row) (c := c) hmk6 (by rw [hmk5, p5, hc]) (by omega) (by rw [hrow]; exact (q_Iv_1 hI).2.2) hr1 hr2
  have erow : ∀ i, q_row mm i = q_row (q_ks mk row) i := fun i => by
    unfold q_row
    rw [h151]
  have emk : ∀ i, q_row mk i = q_row m i := fun i => by
    unfold q_row
    rw [hmk1]
  refine q_Iv_mk ⟨by rw [h150]; exact hW, by rw [h150]; exact hB, by rw [h150]; exact hZ⟩ ⟨?_, ?_, ?_, ?_⟩ (q_I3_fr (q_Iv_3 hI) h5 (hk 4 (by decide) (by decide) (by decide) (by decide) (by decide)) (g1 152 (by decide)) fun k hk => g1 _ (by omega)) (q_I4_fr (q_Iv_4 hI) (g1 21 (by decide)) (hk 8 (by decide) (by decide) (by decide) (by decide) (by decide)) (hk 9 (by decide) (by decide) (by decide) (by decide) (by decide)) (hk 10 (by decide) (by decide) (by decide) (by decide) (by decide))) (q_I5_fr (q_Iv_5 hI) (by rw [g1 145 (by decide)]) (hk 12 (by decide) (by decide) (by decide) (by decide) (by decide)) (g1 146 (by decide)) (g1 154 (by decide))) (q_I6_fr (q_Iv_6 hI) (by rw [g1 0 (by decide)]) (hk 13 (by decide) (by decide) (by decide) (by decide) (by decide))) (q_I7_fr (q_Iv_7 hI) (by rw [g1 147 (by decide)]) (hk 15 (by decide) (by decide) (by decide) (by decide) (by decide)) (g1 148 (by decide)) (g1 155 (by decide))) h153
  · unfold q_HC
    rw [h3, h4]
    split <;> omega
  · rw [hm5, k5, h4, hc]
    by_cases h8 : c = 8
    · rw [if_pos h8, if_neg (by omega)]
      omega
    · rw [if_neg h8, if_pos (by omega)]
      rfl
  · rw [hk 6 (by decide) (by decide) (by decide) (by decide) (by decide)]
    exact p6
  · intro i hi
    have hlt := q_sp9_lt (st := mm 23 3) i
    have hlt2 := q_sp9_lt (st := m 23 3) i
    rw [erow]
    have hi8 : i < 8 := by
      rw [h4] at hi
      split at hi <;> omega
    rw [krow i hi8, emk, emk, hrow]
    have hnew : q_Bd (q_cB m (q_sl m) 1) (q_sl m) (m 150) := q_Bd_mv (q_Iv_1 hI).2.1 fun k hk => q_cB_b hk
    have fin : ∀ (o : Nat) (g : Nat → Int), 37 ≤ o → o < 134 → q_Bd (q_cB m (q_sl m) 1) o g → q_Bd mm o g := fun o g o1 o2 h => q_Bd_fr h fun k hk => ha _ (by omega)
    by_cases h8 : c = 8
    · rw [if_pos h8]
      rw [h3, if_neg (by omega)]
      by_cases h7 : i = 7
      · rw [if_pos h7]
        have e : q_sp9 ((m 23 3 + 1) % 9) i = q_sl m := by
          unfold q_sp9 q_sl
          omega
        rw [e]
        exact ⟨fin _ _ hsl.1 hsl.2 hnew, (q_Iv_1 hI).1⟩
      · rw [if_neg h7]
        have e : q_sp9 ((m 23 3 + 1) % 9) i = q_sp9 (m 23 3) (i + 1) := by
          unfold q_sp9
          omega
        have hlt3 := q_sp9_lt (st := m 23 3) (i + 1)
        rw [e]
        exact ⟨fin _ _ hlt3.1 hlt3.2 (q_I2_prep (q_Iv_2 hI) (i + 1) (by omega)), (p7 (i + 1) (by omega)).2⟩
    · rw [if_neg h8]
      rw [h3, if_pos (by omega)]
      by_cases h7 : i = c
      · rw [if_pos h7]
        have e : q_sp9 (m 23 3) i = q_sl m := by
          unfold q_sp9 q_sl
          rw [h7, hc]
        rw [e]
        exact ⟨fin _ _ hsl.1 hsl.2 hnew, (q_Iv_1 hI).1⟩
      · rw [if_neg h7]
        have hic : (i : Int) < m 23 4 := by
          rw [h4, if_pos (by omega)] at hi
          omega
        exact ⟨fin _ _ hlt2.1 hlt2.2 (q_I2_prep (q_Iv_2 hI) i hic), (p7 i hic).2⟩
end M78
