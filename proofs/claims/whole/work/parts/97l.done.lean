section M97l
variable {m : Nat → Nat → Int} {K : Nat × Nat} {s : List Int32} {L : Nat}
theorem m805_fb : x_m 805 [.ref 153, .int (q_i 0), .ref 150, .int (q_i 0)] (q_H m K s) = some (.inl none, q_H (q_cp m 153 0 150 0 199) K s) := m805 (at' := 0) (on := 0) (na := 199) (nb := 199) (fun _ _ _ h0 h1 => ra153 h0 h1) (fun _ _ _ _ h0 h1 => wa150 h0 h1) (by decide) (by decide) (by decide) (by decide) (by decide)
theorem q_cp_ZZ {a b : Nat} (h1 : q_Z (m a)) (h2 : q_Z (m b)) : q_cp m a 0 b 0 199 = q_P m b (m a) := by
  unfold q_cp
  congr 1
  funext j
  by_cases h : 0 ≤ j ∧ j < 0 + 199
  · rw [if_pos h]
    congr 1
    omega
  · rw [if_neg h, h1 j (by omega), h2 j (by omega)]
theorem q_cp_H {a : Nat} (h1 : q_Z (m a)) : q_H (q_cp m a 0 150 0 199) K s = q_H (q_P m 150 (m a)) K s := by
  apply q_H_ext
  intro b hb
  by_cases e : b = 150
  · subst e
    unfold q_cp
    rw [q_P_s, q_P_s]
    show Sum.inl (0, q_ar 199 _) = Sum.inl (0, q_ar 199 _)
    rw [q_ar_i fun i hi => ?_]
    rw [if_pos ⟨by omega, by omega⟩]
    congr 2
    omega
  · unfold q_cp
    rw [q_P_a e, q_P_a e]
/-- the class's memory when the commands begin -/
def q_c0 (m : Nat → Nat → Int) : Nat → Nat → Int := q_cB (q_M m 0 7 (-1)) (q_sl m) 1
theorem q_c0_a {a : Nat} (hI : q_Iv m) (h0 : a ≠ 0) (h : a < 37 ∨ 145 ≤ a) : q_c0 m a = m a := by
  have := q_sl_lt (q_Iv_2 hI).1
  unfold q_c0
  rw [q_cB_a (by omega), q_M_a h0]
theorem q_c0_0 (hI : q_Iv m) : q_c0 m 0 = q_M m 0 7 (-1) 0 := by
  have := q_sl_lt (q_Iv_2 hI).1
  unfold q_c0
  rw [q_cB_a (by omega)]
theorem q_c0_C (hI : q_Iv m) (hT : q_T m L) (ht : ∀ i, i < L → m 146 i = m 154 i) : q_cC0 (m 154) L (m 150) (q_c0 m) (q_c0 m) := by
  have f : ∀ a, a ≠ 0 → (a < 37 ∨ 145 ≤ a) → q_c0 m a = m a := fun a a0 a1 => q_c0_a hI a0 a1
  refine ⟨⟨by rw [f 145 (by decide) (by decide)]; exact hT.1, hT.2.1, fun i hi => by rw [f 146 (by decide) (by decide)]; exact hT.2.2 i hi⟩, fun i hi => by rw [f 146 (by decide) (by decide)]; exact ht i hi, q_Bd_fr (q_Iv_B hI) fun k hk => f _ (by omega) (by omega), ⟨fun _ _ => rfl, fun _ _ => rfl⟩⟩
theorem q_c0_run (hI : q_Iv m) : x_m 301 [.ref 23] (q_H (q_M m 0 7 (-1)) K s) = some (.inl none, q_H (q_c0 m) K s) := by
  have e := m301 (m := q_M m 0 7 (-1)) (K := K) (s := s) (by unfold q_HC; rw [q_M_a (by decide)]; exact (q_Iv_2 hI).1) (q_Bd_Bb (q_Bd_fr (q_Iv_B hI) fun k hk => q_M_a (by omega)) (q_Iv_W hI))
  rw [show q_sl (q_M m 0 7 (-1)) = q_sl m by unfold q_sl; rw [q_M_a (by decide)]] at e
  exact e
/-- the reference's memory when the commands begin -/
theorem q_m0 {b : Nat → Nat → Int} {N : Nat} (hTt : q_tt (m 154) L) (h150 : b 150 = m 150) (h153 : b 153 = m 153) (h154 : b 154 = m 154) (h149 : ∀ k, b 149 k = m 149 k) (h12 : m 149 12 = L) (h5 : 0 ≤ m 149 5 ∧ m 149 5 ≤ 8) (hZ : q_Z (m 150)) (hZ3 : q_Z (m 153)) (hF : q_flt (m 154) L 62 0 = -1) (hNE : q_at (m 154) N = L + 1) :
    ∃ m0, x_m 866 [.ref 149] (q_H b K s) = x_run 866 66 [.ref 149, .int (q_i 1), .int (q_i (0 : Nat)), .int (q_i 0)] [] (q_H m0 K s) ∧ q_cM0 (m 154) N (m 150) m0 m0 ∧ m0 153 = m 150 ∧ (∀ a, a ≠ 149 → a ≠ 153 → a ≠ 159 → m0 a = b a) ∧ m0 149 12 = 0 ∧ m0 149 13 = -1 ∧ ∀ k, k ≠ 6 → k ≠ 7 → k ≠ 12 → k ≠ 13 → k ≠ 20 → k ≠ 22 → m0 149 k = m 149 k := by
  obtain ⟨b1, e864, a1, a2, -, a4⟩ := m864 (m := b) (K := K) (s := s) hTt (by rw [h149]; exact h12) h154
  obtain ⟨N', n1, n2, n3, n4, n5⟩ := a4 hF
  obtain rfl : N' = N := q_at_inj (n4.trans hNE.symm)
  rw [q_b1 hF] at e864
  have e02 := m802 (m := q_M (q_M b1 149 13 (-1)) 149 12 0) (K := K) (s := s) (p := 0) (by decide) (by decide)
  rw [if_neg (by decide)] at e02
  have x150 : q_M (q_M (q_M b1 149 13 (-1)) 149 12 0) 149 7 0 150 = m 150 := by rw [q_M_a (by decide), q_M_a (by decide), q_M_a (by decide), a1 150 (by decide) (by decide), h150]
  have x153 : q_M (q_M (q_M b1 149 13 (-1)) 149 12 0) 149 7 0 153 = m 153 := by rw [q_M_a (by decide), q_M_a (by decide), q_M_a (by decide), a1 153 (by decide) (by decide), h153]
  have e805 := m805_bf (m := q_M (q_M (q_M b1 149 13 (-1)) 149 12 0) 149 7 0) (K := K) (s := s)
  rw [q_cp_ZZ (by rw [x150]; exact hZ) (by rw [x153]; exact hZ3), x150] at e805
  have fr : ∀ a, a ≠ 149 → a ≠ 153 → a ≠ 159 → q_M (q_P (q_M (q_M (q_M b1 149 13 (-1)) 149 12 0) 149 7 0) 153 (m 150)) 149 6 1 a = b a := fun a x1 x2 x3 => by rw [q_M_a x1, q_P_a x2, q_M_a x1, q_M_a x1, q_M_a x1, a1 a x1 x3]
  have fk : ∀ k, k ≠ 6 → k ≠ 7 → k ≠ 12 → k ≠ 13 → k ≠ 20 → k ≠ 22 → q_M (q_P (q_M (q_M (q_M b1 149 13 (-1)) 149 12 0) 149 7 0) 153 (m 150)) 149 6 1 149 k = m 149 k := fun k x1 x2 x3 x4 x5 x6 => by rw [q_M_k x1, q_P_a (by decide), q_M_k x2, q_M_k x3, q_M_k x4, a2 k x5 x6, h149]
  refine ⟨q_M (q_P (q_M (q_M (q_M b1 149 13 (-1)) 149 12 0) 149 7 0) 153 (m 150)) 149 6 1, ?_, ⟨q_M_s, ?_, ?_, fun j hj => ?_, ?_, ?_, rfl, fun _ _ _ _ _ _ _ => rfl, fun _ _ _ => rfl⟩, ?_, fr, ?_, ?_, fk⟩
  · simp (disch := first | rfl | assumption | decide | omega | (unfold q_R; omega)) only [en866, e866_0, e866_1, e866_4, e866_5, e866_6, e866_7, e866_10, e866_11, e866_14, e866_15, e866_18, e866_21, e866_22, e866_23, e866_26, e866_27, e866_28, e866_31, e866_32, e866_35, e866_36, e866_39, e866_42, e866_43, e866_44, e866_45, e866_48, e866_49, e866_50, e866_53, e866_54, e866_57, e866_58, e866_59, e866_62, e866_63, e866_64, e866_65, e866_67, e866_68, e866_71, e866_74, e866_75, e866_78, e866_81, e866_82, e866_83, e866_84, e866_85, e866_88, e866_89, e866_92, e866_96, e866_97, e866_100, e866_101, e866_104, e866_107, e866_108, e866_111, e866_112, e866_113, e866_116, e866_117, e866_120, e866_121, e866_122, e866_123, e866_124, e866_127, e866_128, e866_129, e866_132, e866_133, e866_136, e866_137, e866_140, e866_141, e866_142, e866_143, e866_144, e866_147, e866_150, e866_151, e866_154, ↓q_nv0, ↓q_nv1, ↓q_nv2, ↓q_nv3, ↓q_nv4, ↓q_nv5, ↓q_nv6, ↓q_nv7, ↓q_nv8, ↓q_nv9, ↓q_nv10, ↓q_nv11, ↓q_nv12, ↓q_nv13, ↓q_nv14, ↓q_nv15, ↓q_nv16, ↓q_nv17, ↓q_nv18, ↓q_nv19, ↓q_nv20, ↓q_nv21, ↓q_nv22, ↓q_gi0, ↓q_gi1, ↓q_gi2, ↓q_gi3, ↓q_gi4, ↓q_gi5, ↓q_gi6, ↓q_gi7, ↓q_gi8, ↓q_gi9, ↓q_gr0, ↓q_gr1, ↓q_gr2, ↓q_gr3, ↓q_gr4, ↓q_gr5, ↓q_gr6, ↓q_gr7, ↓q_gr8, ↓q_gr9, ↓q_ls0, ↓q_ls1i, ↓q_ls1r, ↓q_ls1n, ↓q_ls2i, ↓q_ls2r, ↓q_ls2n, ↓q_ls3i, ↓q_ls3r, ↓q_ls3n, ↓q_ls4i, ↓q_ls4r, ↓q_ls4n, ↓q_ls5i, ↓q_ls5r, ↓q_ls5n, ↓q_ls6i, ↓q_ls6r, ↓q_ls6n, ↓q_ls7i, ↓q_ls7r, ↓q_ls7n, ↓q_ls8i, ↓q_ls8r, ↓q_ls8n, ↓q_ls9i, ↓q_ls9r, ↓q_ls9n, q_nd0, q_nd1i, q_nd1r, q_nd1n, q_nd2i, q_nd2r, q_nd2n, q_nd3i, q_nd3r, q_nd3n, q_nd4i, q_nd4r, q_nd4n, q_nd5i, q_nd5r, q_nd5n, q_nd6i, q_nd6r, q_nd6n, q_nd7i, q_nd7r, q_nd7n, q_nd8i, q_nd8r, q_nd8n, q_nd9i, q_nd9r, q_nd9n, q_st0, q_st1, q_st2, q_st3, q_st4, q_st5, q_st6, q_st7, q_st8, q_st9, q_cat_i, q_cat_r, q_cat_n, q_wt0, q_wt1, q_tl0, q_tl1, ↓q_cl1, q_add, q_sub, q_mul, q_nari, q_narb0, q_narb1, q_fiti, q_fitb0, q_fitb1, List.cons_append, List.nil_append, Nat.reduceAdd, Nat.reduceLeDiff, and_self, and_true, true_and, ↓reduceIte, ↓rc0, ↓gf0_0, ↓gf0_1, ↓gf0_2, ↓gf0_3, ↓gf0_4, ↓gf0_5, ↓gf0_6, ↓gf0_7, ↓pf0_7, ft0_7, ↓rc1, ↓gf1_0, ↓pf1_0, ft1_0, ↓gf1_1, ↓pf1_1, ft1_1, ↓gf1_2, ↓gf1_3, ↓gf1_4, ↓gf1_5, ↓gf1_6, ↓gf1_7, ↓gf1_8, ↓gf1_9, ↓gf1_10, ↓gf1_11, ↓gf1_12, ↓rc13, ↓gf13_0, ↓gf13_1, ↓gf13_2, ↓gf13_3, ↓gf13_4, ↓gf13_5, ↓gf13_6, ↓pf13_6, ft13_6, ↓gf13_7, ↓pf13_7, ft13_7, ↓gf13_8, ↓pf13_8, ft13_8, ↓gf13_9, ↓pf13_9, ft13_90, ft13_91, ↓gf13_10, ↓gf13_11, ↓gf13_12, ↓pf13_12, ft13_12, ↓gf13_13, ↓pf13_13, ft13_13, ↓gf13_14, ↓pf13_14, ft13_14, ↓rc21, ↓gf21_0, ↓pf21_0, ft21_0, ↓gf21_1, ↓pf21_1, ft21_1, ↓gf21_2, ↓pf21_2, ft21_2, ↓gf21_3, ↓pf21_3, ft21_3, ↓rc22, ↓gf22_0, ↓gf22_1, ↓gf22_2, ↓rc23, ↓gf23_0, ↓gf23_1, ↓gf23_2, ↓gf23_3, ↓pf23_3, ft23_3, ↓gf23_4, ↓pf23_4, ft23_4, ↓gf23_5, ↓pf23_5, ft23_50, ft23_51, ↓rc145, ↓gf145_0, ↓gf145_1, ↓pf145_1, ft145_1, ↓rc147, ↓gf147_0, ↓gf147_1, ↓pf147_1, ft147_1, ↓rc149, ↓gf149_0, ↓gf149_1, ↓gf149_2, ↓gf149_3, ↓gf149_4, ↓pf149_4, ft149_40, ft149_41, ↓gf149_5, ↓pf149_5, ft149_5, ↓gf149_6, ↓pf149_6, ft149_60, ft149_61, ↓gf149_7, ↓pf149_7, ft149_7, ↓gf149_8, ↓pf149_8, ft149_8, ↓gf149_9, ↓pf149_9, ft149_9, ↓gf149_10, ↓pf149_10, ft149_10, ↓gf149_11, ↓gf149_12, ↓pf149_12, ft149_12, ↓gf149_13, ↓pf149_13, ft149_13, ↓gf149_14, ↓gf149_15, ↓pf149_15, ft149_15, ↓gf149_16, ↓gf149_17, ↓gf149_18, ↓gf149_19, ↓pf149_19, ft149_19, ↓gf149_20, ↓pf149_20, ft149_20, ↓gf149_21, ↓gf149_22, ↓pf149_22, ft149_22, q_M_s, q_M_k, q_M_a, q_P_s, q_P_a, q_toN, q_i00, q_i10, q_j00, q_j10, e864, not_true_eq_false, not_false_eq_true, if_true, if_false, ft149_13, ft149_12, e02, e805, ft149_61]
    rfl
  · rw [fk 5 (by decide) (by decide) (by decide) (by decide) (by decide) (by decide)]
    exact h5
  · rw [q_M_k (by decide), q_P_a (by decide), q_M_k (by decide), q_M_k (by decide), q_M_k (by decide)]
    exact n1
  · rw [q_M_a (by decide), q_P_a (by decide), q_M_a (by decide), q_M_a (by decide), q_M_a (by decide)]
    exact (n5 j hj).2
  · rw [q_M_a (by decide), q_P_a (by decide)]
    exact x150
  · rw [q_M_k (by decide), q_P_a (by decide), q_M_s]
  · rw [q_M_a (by decide), q_P_s]
  · rw [q_M_k (by decide), q_P_a (by decide), q_M_k (by decide), q_M_s]
  · rw [q_M_k (by decide), q_P_a (by decide), q_M_k (by decide), q_M_k (by decide), q_M_s]
end M97l
