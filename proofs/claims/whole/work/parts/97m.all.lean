section M97m
variable {m : Nat → Nat → Int} {K : Nat × Nat} {s : List Int32} {L : Nat}
theorem A723a {N : Nat} {g' : Nat → Int} (hI : q_Iv m) (hK : 162 ≤ K.1) (h12 : m 149 12 = L) (hT : q_T m L) (hTt : q_tt (m 154) L) (htt : ∀ i, i < L → m 146 i = m 154 i) (e205 : ∀ (K : Nat × Nat) (s : List Int32), x_m 205 [.ref 145] (q_H m K s) = some (.inl (some (.int (q_i (q_flt (m 154) L 62 0)))), q_H m K s)) (hF : q_flt (m 154) L 62 0 = -1) (hNE : q_at (m 154) N = L + 1) (hN : N ≤ 21) (w : q_W g') (z : q_Z g') (hC : q_AC (m 154) L N 0 (m 150) g') (hM : q_AM (m 154) N 0 (m 150) g') : q_ok m K s (x_m 723 [.ref 0]) (x_m 866 [.ref 149]) := by
  have hI2 := q_Iv_2 hI
  have hsl := q_sl_lt hI2.1
  obtain ⟨mc, k1, k2, k3⟩ := hC (q_c0 m) (q_c0 m) K s (q_c0_C hI hT htt)
  have e301 := q_c0_run (K := K) (s := s) hI
  have e5 := e205 K s
  rw [hF] at e5
  have h23 : q_M (q_M mc 21 3 0) 145 1 0 23 = m 23 := by
    rw [q_M_a (by decide), q_M_a (by decide), k3.1 23 (by decide)]
    exact q_c0_a hI (by decide) (by decide)
  have e302 := m302 (m := q_M (q_M mc 21 3 0) 145 1 0) (K := K) (s := s) (by unfold q_HC; rw [h23]; exact hI2.1)
  rw [h23] at e302
  have n1 : ∀ a, a ≠ 23 → (if m 23 4 < 8 then q_M (q_M (q_M mc 21 3 0) 145 1 0) 23 4 (m 23 4 + 1) else q_M (q_M (q_M mc 21 3 0) 145 1 0) 23 3 ((m 23 3 + 1) % 9)) a = q_M (q_M mc 21 3 0) 145 1 0 a := fun a ha => by
    split <;> rw [q_M_a ha]
  have n3 : (if m 23 4 < 8 then q_M (q_M (q_M mc 21 3 0) 145 1 0) 23 4 (m 23 4 + 1) else q_M (q_M (q_M mc 21 3 0) 145 1 0) 23 3 ((m 23 3 + 1) % 9)) 23 3 = if m 23 4 < 8 then m 23 3 else (m 23 3 + 1) % 9 := by
    split
    · rw [q_M_k (by decide), h23]
    · rw [q_M_s]
  have n4 : (if m 23 4 < 8 then q_M (q_M (q_M mc 21 3 0) 145 1 0) 23 4 (m 23 4 + 1) else q_M (q_M (q_M mc 21 3 0) 145 1 0) 23 3 ((m 23 3 + 1) % 9)) 23 4 = if m 23 4 < 8 then m 23 4 + 1 else m 23 4 := by
    split
    · rw [q_M_s]
    · rw [q_M_k (by decide), h23]
  have n5 : (if m 23 4 < 8 then q_M (q_M (q_M mc 21 3 0) 145 1 0) 23 4 (m 23 4 + 1) else q_M (q_M (q_M mc 21 3 0) 145 1 0) 23 3 ((m 23 3 + 1) % 9)) 23 5 = m 23 5 := by
    split
    · rw [q_M_k (by decide), h23]
    · rw [q_M_k (by decide), h23]
  generalize (if m 23 4 < 8 then q_M (q_M (q_M mc 21 3 0) 145 1 0) 23 4 (m 23 4 + 1) else q_M (q_M (q_M mc 21 3 0) 145 1 0) 23 3 ((m 23 3 + 1) % 9)) = cA at *
  have fA : ∀ a, a ≠ 0 → a ≠ 21 → a ≠ 23 → a ≠ 145 → (22 ≤ a) → cA a = q_c0 m a := fun a a0 a1 a2 a3 a4 => by rw [n1 a a2, q_M_a a3, q_M_a a1, k3.1 a (Or.inr a4)]
  have fB : ∀ a, a ≠ 23 → 145 < a → cA a = m a := fun a a1 a2 => by rw [fA a (by omega) (by omega) a1 (by omega) (by omega), q_c0_a hI (by omega) (by omega)]
  have b150 : q_M cA 160 0 N 150 = m 150 := by rw [q_M_a (by decide), fB 150 (by decide) (by decide)]
  have b153 : q_M cA 160 0 N 153 = m 153 := by rw [q_M_a (by decide), fB 153 (by decide) (by decide)]
  have b154 : q_M cA 160 0 N 154 = m 154 := by rw [q_M_a (by decide), fB 154 (by decide) (by decide)]
  have b149 : ∀ k, q_M cA 160 0 N 149 k = m 149 k := fun k => by rw [q_M_a (by decide), fB 149 (by decide) (by decide)]
  have h5 : 0 ≤ m 149 5 ∧ m 149 5 ≤ 8 := by rw [hI2.2.1]; exact hI2.1.2
  obtain ⟨m0, em, c0, c153, ca, c12, c13, ck⟩ := q_m0 (m := m) (K := K) (s := s) (b := q_M cA 160 0 N) hTt b150 b153 b154 b149 h12 h5 (q_Iv_1 hI).2.2 (q_Iv_8 hI) hF hNE
  obtain ⟨mm, got, k4, k5, k6, k7, k8, k9⟩ := hM m0 m0 K s 0 c0
  have d5 : q_M mm 149 6 0 149 5 = m 149 5 := by rw [q_M_k (by decide), k9 5 (by decide) (by decide), ck 5 (by decide) (by decide) (by decide) (by decide) (by decide) (by decide)]
  have e806 := m806 (m := q_M mm 149 6 0) (K := K) (s := s) (row := 153) (Or.inr rfl) (Or.inl q_M_s) (by rw [d5]; exact h5.1) (by rw [d5]; exact h5.2)
  have d22 : q_ks (q_M mm 149 6 0) 153 149 22 = N := by rw [q_ks_k (by decide) (by decide), q_M_k (by decide), k9 22 (by decide) (by decide)]; exact c0.2.2.1
  have hle0 : q_i (0 : Int) ≤ 0 := by decide
  have k6' : q_M mm 149 6 0 149 7 = 0 := by rw [q_M_k (by decide)]; exact k6
  have d153 : q_M mm 149 6 0 153 = m 150 := by rw [q_M_a (by decide), k8 153 (by decide) (by decide) (by decide) (by decide) (by decide) (by decide)]; exact c153
  have F2 : ∀ a, a ≠ 149 → a ≠ 150 → a ≠ 151 → a ≠ 153 → a ≠ 156 → a ≠ 157 → a ≠ 158 → a ≠ 159 → a ≠ 160 → q_ks (q_M mm 149 6 0) 153 a = cA a := fun a a1 a2 a3 a4 a5 a6 a7 a8 a9 => by rw [q_ks_a a1 a3, q_M_a a1, k8 a a1 a2 a3 a5 a6 a7, ca a a1 a4 a8, q_M_a a9]
  have esl : q_sl (q_tr m (-1)) = q_sl m := by unfold q_sl; rw [q_tr_a (by decide) (by decide) (by decide)]
  refine ⟨N, cA, q_ks (q_M mm 149 6 0) 153, ?_, ?_, q_ks_7, ?_, q_done (m := q_tr m (-1)) (mk := q_M mm 149 6 0) (row := 153) (q_Iv_tr hI (by decide) (by decide)) w z ?_ ?_ ?_ ?_ ?_ ?_ ?_ ?_ rfl rfl q_M_s ?_ ?_ ?_ (by decide) (by decide)⟩
  · rw [en723, e723_0]
    simp (disch := first | rfl | assumption | decide | omega | (unfold q_R; omega)) only [en723, e723_1, e723_2, e723_5, e723_8, e723_11, e723_12, e723_15, e723_18, e723_19, e723_22, e723_23, e723_26, e723_36, e723_37, e723_40, e723_43, e723_44, e723_45, e723_46, e723_47, e723_48, e723_50, e723_52, e723_55, e723_56, e723_57, e723_60, e723_63, e723_66, e723_67, e723_70, e723_71, e723_74, e723_75, e723_78, e723_79, e723_80, e723_83, e723_84, e723_87, e723_88, e723_91, e723_92, e723_93, e723_94, e723_95, e723_98, e723_99, e723_102, e723_103, e723_104, e723_105, e723_106, e723_109, e723_113, e723_116, e723_117, e723_120, e723_121, e723_124, e723_125, e723_128, e723_129, e723_132, e723_133, e723_136, e723_139, e723_149, e723_150, e723_153, e723_156, e723_157, ↓q_nv0, ↓q_nv1, ↓q_nv2, ↓q_nv3, ↓q_nv4, ↓q_nv5, ↓q_nv6, ↓q_nv7, ↓q_nv8, ↓q_nv9, ↓q_nv10, ↓q_nv11, ↓q_nv12, ↓q_nv13, ↓q_nv14, ↓q_nv15, ↓q_nv16, ↓q_nv17, ↓q_nv18, ↓q_nv19, ↓q_nv20, ↓q_nv21, ↓q_nv22, ↓q_gi0, ↓q_gi1, ↓q_gi2, ↓q_gi3, ↓q_gi4, ↓q_gi5, ↓q_gi6, ↓q_gi7, ↓q_gi8, ↓q_gi9, ↓q_gr0, ↓q_gr1, ↓q_gr2, ↓q_gr3, ↓q_gr4, ↓q_gr5, ↓q_gr6, ↓q_gr7, ↓q_gr8, ↓q_gr9, ↓q_ls0, ↓q_ls1i, ↓q_ls1r, ↓q_ls1n, ↓q_ls2i, ↓q_ls2r, ↓q_ls2n, ↓q_ls3i, ↓q_ls3r, ↓q_ls3n, ↓q_ls4i, ↓q_ls4r, ↓q_ls4n, ↓q_ls5i, ↓q_ls5r, ↓q_ls5n, ↓q_ls6i, ↓q_ls6r, ↓q_ls6n, ↓q_ls7i, ↓q_ls7r, ↓q_ls7n, ↓q_ls8i, ↓q_ls8r, ↓q_ls8n, ↓q_ls9i, ↓q_ls9r, ↓q_ls9n, q_nd0, q_nd1i, q_nd1r, q_nd1n, q_nd2i, q_nd2r, q_nd2n, q_nd3i, q_nd3r, q_nd3n, q_nd4i, q_nd4r, q_nd4n, q_nd5i, q_nd5r, q_nd5n, q_nd6i, q_nd6r, q_nd6n, q_nd7i, q_nd7r, q_nd7n, q_nd8i, q_nd8r, q_nd8n, q_nd9i, q_nd9r, q_nd9n, q_st0, q_st1, q_st2, q_st3, q_st4, q_st5, q_st6, q_st7, q_st8, q_st9, q_cat_i, q_cat_r, q_cat_n, q_wt0, q_wt1, q_tl0, q_tl1, ↓q_cl1, q_add, q_sub, q_mul, q_nari, q_narb0, q_narb1, q_fiti, q_fitb0, q_fitb1, List.cons_append, List.nil_append, Nat.reduceAdd, Nat.reduceLeDiff, and_self, and_true, true_and, ↓reduceIte, ↓rc0, ↓gf0_0, ↓gf0_1, ↓gf0_2, ↓gf0_3, ↓gf0_4, ↓gf0_5, ↓gf0_6, ↓gf0_7, ↓pf0_7, ft0_7, ↓rc1, ↓gf1_0, ↓pf1_0, ft1_0, ↓gf1_1, ↓pf1_1, ft1_1, ↓gf1_2, ↓gf1_3, ↓gf1_4, ↓gf1_5, ↓gf1_6, ↓gf1_7, ↓gf1_8, ↓gf1_9, ↓gf1_10, ↓gf1_11, ↓gf1_12, ↓rc13, ↓gf13_0, ↓gf13_1, ↓gf13_2, ↓gf13_3, ↓gf13_4, ↓gf13_5, ↓gf13_6, ↓pf13_6, ft13_6, ↓gf13_7, ↓pf13_7, ft13_7, ↓gf13_8, ↓pf13_8, ft13_8, ↓gf13_9, ↓pf13_9, ft13_90, ft13_91, ↓gf13_10, ↓gf13_11, ↓gf13_12, ↓pf13_12, ft13_12, ↓gf13_13, ↓pf13_13, ft13_13, ↓gf13_14, ↓pf13_14, ft13_14, ↓rc21, ↓gf21_0, ↓pf21_0, ft21_0, ↓gf21_1, ↓pf21_1, ft21_1, ↓gf21_2, ↓pf21_2, ft21_2, ↓gf21_3, ↓pf21_3, ft21_3, ↓rc22, ↓gf22_0, ↓gf22_1, ↓gf22_2, ↓rc23, ↓gf23_0, ↓gf23_1, ↓gf23_2, ↓gf23_3, ↓pf23_3, ft23_3, ↓gf23_4, ↓pf23_4, ft23_4, ↓gf23_5, ↓pf23_5, ft23_50, ft23_51, ↓rc145, ↓gf145_0, ↓gf145_1, ↓pf145_1, ft145_1, ↓rc147, ↓gf147_0, ↓gf147_1, ↓pf147_1, ft147_1, ↓rc149, ↓gf149_0, ↓gf149_1, ↓gf149_2, ↓gf149_3, ↓gf149_4, ↓pf149_4, ft149_40, ft149_41, ↓gf149_5, ↓pf149_5, ft149_5, ↓gf149_6, ↓pf149_6, ft149_60, ft149_61, ↓gf149_7, ↓pf149_7, ft149_7, ↓gf149_8, ↓pf149_8, ft149_8, ↓gf149_9, ↓pf149_9, ft149_9, ↓gf149_10, ↓pf149_10, ft149_10, ↓gf149_11, ↓gf149_12, ↓pf149_12, ft149_12, ↓gf149_13, ↓pf149_13, ft149_13, ↓gf149_14, ↓gf149_15, ↓pf149_15, ft149_15, ↓gf149_16, ↓gf149_17, ↓gf149_18, ↓gf149_19, ↓pf149_19, ft149_19, ↓gf149_20, ↓pf149_20, ft149_20, ↓gf149_21, ↓gf149_22, ↓pf149_22, ft149_22, q_M_s, q_M_k, q_M_a, q_P_s, q_P_a, q_toN, q_i00, q_i10, q_j00, q_j10, e5, ft0_7, q_lt0, show (-1 : Int) < 0 by decide, not_true_eq_false, not_false_eq_true, if_true, if_false, e301]
    refine Eq.trans k1 ?_
    rw [e723_112]
    simp (disch := first | rfl | assumption | decide | omega | (unfold q_R; omega)) only [en723, e723_1, e723_2, e723_5, e723_8, e723_11, e723_12, e723_15, e723_18, e723_19, e723_22, e723_23, e723_26, e723_36, e723_37, e723_40, e723_43, e723_44, e723_45, e723_46, e723_47, e723_48, e723_50, e723_52, e723_55, e723_56, e723_57, e723_60, e723_63, e723_66, e723_67, e723_70, e723_71, e723_74, e723_75, e723_78, e723_79, e723_80, e723_83, e723_84, e723_87, e723_88, e723_91, e723_92, e723_93, e723_94, e723_95, e723_98, e723_99, e723_102, e723_103, e723_104, e723_105, e723_106, e723_109, e723_113, e723_116, e723_117, e723_120, e723_121, e723_124, e723_125, e723_128, e723_129, e723_132, e723_133, e723_136, e723_139, e723_149, e723_150, e723_153, e723_156, e723_157, ↓q_nv0, ↓q_nv1, ↓q_nv2, ↓q_nv3, ↓q_nv4, ↓q_nv5, ↓q_nv6, ↓q_nv7, ↓q_nv8, ↓q_nv9, ↓q_nv10, ↓q_nv11, ↓q_nv12, ↓q_nv13, ↓q_nv14, ↓q_nv15, ↓q_nv16, ↓q_nv17, ↓q_nv18, ↓q_nv19, ↓q_nv20, ↓q_nv21, ↓q_nv22, ↓q_gi0, ↓q_gi1, ↓q_gi2, ↓q_gi3, ↓q_gi4, ↓q_gi5, ↓q_gi6, ↓q_gi7, ↓q_gi8, ↓q_gi9, ↓q_gr0, ↓q_gr1, ↓q_gr2, ↓q_gr3, ↓q_gr4, ↓q_gr5, ↓q_gr6, ↓q_gr7, ↓q_gr8, ↓q_gr9, ↓q_ls0, ↓q_ls1i, ↓q_ls1r, ↓q_ls1n, ↓q_ls2i, ↓q_ls2r, ↓q_ls2n, ↓q_ls3i, ↓q_ls3r, ↓q_ls3n, ↓q_ls4i, ↓q_ls4r, ↓q_ls4n, ↓q_ls5i, ↓q_ls5r, ↓q_ls5n, ↓q_ls6i, ↓q_ls6r, ↓q_ls6n, ↓q_ls7i, ↓q_ls7r, ↓q_ls7n, ↓q_ls8i, ↓q_ls8r, ↓q_ls8n, ↓q_ls9i, ↓q_ls9r, ↓q_ls9n, q_nd0, q_nd1i, q_nd1r, q_nd1n, q_nd2i, q_nd2r, q_nd2n, q_nd3i, q_nd3r, q_nd3n, q_nd4i, q_nd4r, q_nd4n, q_nd5i, q_nd5r, q_nd5n, q_nd6i, q_nd6r, q_nd6n, q_nd7i, q_nd7r, q_nd7n, q_nd8i, q_nd8r, q_nd8n, q_nd9i, q_nd9r, q_nd9n, q_st0, q_st1, q_st2, q_st3, q_st4, q_st5, q_st6, q_st7, q_st8, q_st9, q_cat_i, q_cat_r, q_cat_n, q_wt0, q_wt1, q_tl0, q_tl1, ↓q_cl1, q_add, q_sub, q_mul, q_nari, q_narb0, q_narb1, q_fiti, q_fitb0, q_fitb1, List.cons_append, List.nil_append, Nat.reduceAdd, Nat.reduceLeDiff, and_self, and_true, true_and, ↓reduceIte, ↓rc0, ↓gf0_0, ↓gf0_1, ↓gf0_2, ↓gf0_3, ↓gf0_4, ↓gf0_5, ↓gf0_6, ↓gf0_7, ↓pf0_7, ft0_7, ↓rc1, ↓gf1_0, ↓pf1_0, ft1_0, ↓gf1_1, ↓pf1_1, ft1_1, ↓gf1_2, ↓gf1_3, ↓gf1_4, ↓gf1_5, ↓gf1_6, ↓gf1_7, ↓gf1_8, ↓gf1_9, ↓gf1_10, ↓gf1_11, ↓gf1_12, ↓rc13, ↓gf13_0, ↓gf13_1, ↓gf13_2, ↓gf13_3, ↓gf13_4, ↓gf13_5, ↓gf13_6, ↓pf13_6, ft13_6, ↓gf13_7, ↓pf13_7, ft13_7, ↓gf13_8, ↓pf13_8, ft13_8, ↓gf13_9, ↓pf13_9, ft13_90, ft13_91, ↓gf13_10, ↓gf13_11, ↓gf13_12, ↓pf13_12, ft13_12, ↓gf13_13, ↓pf13_13, ft13_13, ↓gf13_14, ↓pf13_14, ft13_14, ↓rc21, ↓gf21_0, ↓pf21_0, ft21_0, ↓gf21_1, ↓pf21_1, ft21_1, ↓gf21_2, ↓pf21_2, ft21_2, ↓gf21_3, ↓pf21_3, ft21_3, ↓rc22, ↓gf22_0, ↓gf22_1, ↓gf22_2, ↓rc23, ↓gf23_0, ↓gf23_1, ↓gf23_2, ↓gf23_3, ↓pf23_3, ft23_3, ↓gf23_4, ↓pf23_4, ft23_4, ↓gf23_5, ↓pf23_5, ft23_50, ft23_51, ↓rc145, ↓gf145_0, ↓gf145_1, ↓pf145_1, ft145_1, ↓rc147, ↓gf147_0, ↓gf147_1, ↓pf147_1, ft147_1, ↓rc149, ↓gf149_0, ↓gf149_1, ↓gf149_2, ↓gf149_3, ↓gf149_4, ↓pf149_4, ft149_40, ft149_41, ↓gf149_5, ↓pf149_5, ft149_5, ↓gf149_6, ↓pf149_6, ft149_60, ft149_61, ↓gf149_7, ↓pf149_7, ft149_7, ↓gf149_8, ↓pf149_8, ft149_8, ↓gf149_9, ↓pf149_9, ft149_9, ↓gf149_10, ↓pf149_10, ft149_10, ↓gf149_11, ↓gf149_12, ↓pf149_12, ft149_12, ↓gf149_13, ↓pf149_13, ft149_13, ↓gf149_14, ↓gf149_15, ↓pf149_15, ft149_15, ↓gf149_16, ↓gf149_17, ↓gf149_18, ↓gf149_19, ↓pf149_19, ft149_19, ↓gf149_20, ↓pf149_20, ft149_20, ↓gf149_21, ↓gf149_22, ↓pf149_22, ft149_22, q_M_s, q_M_k, q_M_a, q_P_s, q_P_a, q_toN, q_i00, q_i10, q_j00, q_j10, ft21_3, ft145_1, e302, not_true_eq_false, not_false_eq_true, if_true, if_false]
  · rw [em]
    refine Eq.trans k4 ?_
    rw [e866_95]
    simp (disch := first | rfl | assumption | decide | omega | (unfold q_R; omega)) only [en866, e866_0, e866_1, e866_4, e866_5, e866_6, e866_7, e866_10, e866_11, e866_14, e866_15, e866_18, e866_21, e866_22, e866_23, e866_26, e866_27, e866_28, e866_31, e866_32, e866_35, e866_36, e866_39, e866_42, e866_43, e866_44, e866_45, e866_48, e866_49, e866_50, e866_53, e866_54, e866_57, e866_58, e866_59, e866_62, e866_63, e866_64, e866_65, e866_67, e866_68, e866_71, e866_74, e866_75, e866_78, e866_81, e866_82, e866_83, e866_84, e866_85, e866_88, e866_89, e866_92, e866_96, e866_97, e866_100, e866_101, e866_104, e866_107, e866_108, e866_111, e866_112, e866_113, e866_116, e866_117, e866_120, e866_121, e866_122, e866_123, e866_124, e866_127, e866_128, e866_129, e866_132, e866_133, e866_136, e866_137, e866_140, e866_141, e866_142, e866_143, e866_144, e866_147, e866_150, e866_151, e866_154, ↓q_nv0, ↓q_nv1, ↓q_nv2, ↓q_nv3, ↓q_nv4, ↓q_nv5, ↓q_nv6, ↓q_nv7, ↓q_nv8, ↓q_nv9, ↓q_nv10, ↓q_nv11, ↓q_nv12, ↓q_nv13, ↓q_nv14, ↓q_nv15, ↓q_nv16, ↓q_nv17, ↓q_nv18, ↓q_nv19, ↓q_nv20, ↓q_nv21, ↓q_nv22, ↓q_gi0, ↓q_gi1, ↓q_gi2, ↓q_gi3, ↓q_gi4, ↓q_gi5, ↓q_gi6, ↓q_gi7, ↓q_gi8, ↓q_gi9, ↓q_gr0, ↓q_gr1, ↓q_gr2, ↓q_gr3, ↓q_gr4, ↓q_gr5, ↓q_gr6, ↓q_gr7, ↓q_gr8, ↓q_gr9, ↓q_ls0, ↓q_ls1i, ↓q_ls1r, ↓q_ls1n, ↓q_ls2i, ↓q_ls2r, ↓q_ls2n, ↓q_ls3i, ↓q_ls3r, ↓q_ls3n, ↓q_ls4i, ↓q_ls4r, ↓q_ls4n, ↓q_ls5i, ↓q_ls5r, ↓q_ls5n, ↓q_ls6i, ↓q_ls6r, ↓q_ls6n, ↓q_ls7i, ↓q_ls7r, ↓q_ls7n, ↓q_ls8i, ↓q_ls8r, ↓q_ls8n, ↓q_ls9i, ↓q_ls9r, ↓q_ls9n, q_nd0, q_nd1i, q_nd1r, q_nd1n, q_nd2i, q_nd2r, q_nd2n, q_nd3i, q_nd3r, q_nd3n, q_nd4i, q_nd4r, q_nd4n, q_nd5i, q_nd5r, q_nd5n, q_nd6i, q_nd6r, q_nd6n, q_nd7i, q_nd7r, q_nd7n, q_nd8i, q_nd8r, q_nd8n, q_nd9i, q_nd9r, q_nd9n, q_st0, q_st1, q_st2, q_st3, q_st4, q_st5, q_st6, q_st7, q_st8, q_st9, q_cat_i, q_cat_r, q_cat_n, q_wt0, q_wt1, q_tl0, q_tl1, ↓q_cl1, q_add, q_sub, q_mul, q_nari, q_narb0, q_narb1, q_fiti, q_fitb0, q_fitb1, List.cons_append, List.nil_append, Nat.reduceAdd, Nat.reduceLeDiff, and_self, and_true, true_and, ↓reduceIte, ↓rc0, ↓gf0_0, ↓gf0_1, ↓gf0_2, ↓gf0_3, ↓gf0_4, ↓gf0_5, ↓gf0_6, ↓gf0_7, ↓pf0_7, ft0_7, ↓rc1, ↓gf1_0, ↓pf1_0, ft1_0, ↓gf1_1, ↓pf1_1, ft1_1, ↓gf1_2, ↓gf1_3, ↓gf1_4, ↓gf1_5, ↓gf1_6, ↓gf1_7, ↓gf1_8, ↓gf1_9, ↓gf1_10, ↓gf1_11, ↓gf1_12, ↓rc13, ↓gf13_0, ↓gf13_1, ↓gf13_2, ↓gf13_3, ↓gf13_4, ↓gf13_5, ↓gf13_6, ↓pf13_6, ft13_6, ↓gf13_7, ↓pf13_7, ft13_7, ↓gf13_8, ↓pf13_8, ft13_8, ↓gf13_9, ↓pf13_9, ft13_90, ft13_91, ↓gf13_10, ↓gf13_11, ↓gf13_12, ↓pf13_12, ft13_12, ↓gf13_13, ↓pf13_13, ft13_13, ↓gf13_14, ↓pf13_14, ft13_14, ↓rc21, ↓gf21_0, ↓pf21_0, ft21_0, ↓gf21_1, ↓pf21_1, ft21_1, ↓gf21_2, ↓pf21_2, ft21_2, ↓gf21_3, ↓pf21_3, ft21_3, ↓rc22, ↓gf22_0, ↓gf22_1, ↓gf22_2, ↓rc23, ↓gf23_0, ↓gf23_1, ↓gf23_2, ↓gf23_3, ↓pf23_3, ft23_3, ↓gf23_4, ↓pf23_4, ft23_4, ↓gf23_5, ↓pf23_5, ft23_50, ft23_51, ↓rc145, ↓gf145_0, ↓gf145_1, ↓pf145_1, ft145_1, ↓rc147, ↓gf147_0, ↓gf147_1, ↓pf147_1, ft147_1, ↓rc149, ↓gf149_0, ↓gf149_1, ↓gf149_2, ↓gf149_3, ↓gf149_4, ↓pf149_4, ft149_40, ft149_41, ↓gf149_5, ↓pf149_5, ft149_5, ↓gf149_6, ↓pf149_6, ft149_60, ft149_61, ↓gf149_7, ↓pf149_7, ft149_7, ↓gf149_8, ↓pf149_8, ft149_8, ↓gf149_9, ↓pf149_9, ft149_9, ↓gf149_10, ↓pf149_10, ft149_10, ↓gf149_11, ↓gf149_12, ↓pf149_12, ft149_12, ↓gf149_13, ↓pf149_13, ft149_13, ↓gf149_14, ↓gf149_15, ↓pf149_15, ft149_15, ↓gf149_16, ↓gf149_17, ↓gf149_18, ↓gf149_19, ↓pf149_19, ft149_19, ↓gf149_20, ↓pf149_20, ft149_20, ↓gf149_21, ↓gf149_22, ↓pf149_22, ft149_22, q_M_s, q_M_k, q_M_a, q_P_s, q_P_a, q_toN, q_i00, q_i10, q_j00, q_j10, ft149_60, k6, k6', hle0, not_true_eq_false, not_false_eq_true, if_true, if_false, e806, d22]
  · rw [q_ks_a (by decide) (by decide), q_M_a (by decide), k8 160 (by decide) (by decide) (by decide) (by decide) (by decide) (by decide), ca 160 (by decide) (by decide) (by decide), q_M_s]
  · refine q_Bd_fr k2 fun k hk => ?_
    rw [F2 _ (by omega) (by omega) (by omega) (by omega) (by omega) (by omega) (by omega) (by omega) (by omega), n1 _ (by omega), q_M_a (by omega), q_M_a (by omega)]
  · rw [q_ks_a (by decide) (by decide), q_M_a (by decide)]
    exact k5
  · intro a ha
    rw [F2 a (by omega) (by omega) (by omega) (by omega) (by omega) (by omega) (by omega) (by omega) (by omega), esl]
    by_cases a0 : a = 0
    · subst a0
      rw [n1 0 (by decide), q_M_a (by decide), q_M_a (by decide), k3.1 0 (Or.inl rfl), q_c0_0 hI, q_cB_a (by omega), q_tr_0]
    · by_cases a21 : a = 21
      · subst a21
        rw [n1 21 (by decide), q_M_a (by decide), q_cB_a (by omega), q_tr_a (by decide) (by decide) (by decide)]
        funext k
        by_cases hk : k = 3
        · subst hk
          rw [q_M_s]
          exact (q_Iv_4 hI).2.2.2.1.symm
        · rw [q_M_k hk, k3.2 k hk, q_c0_a hI (by decide) (by decide)]
      · by_cases a145 : a = 145
        · subst a145
          rw [n1 145 (by decide), q_cB_a (by omega), q_tr_145a]
          funext k
          by_cases hk : k = 1
          · subst hk
            rw [q_M_s, q_M_s]
          · rw [q_M_k hk, q_M_k hk, q_M_a (by decide), k3.1 145 (by decide), q_c0_a hI (by decide) (by decide)]
        · rw [fA a a0 a21 (by omega) a145 (by omega)]
          unfold q_c0
          by_cases hs : q_sl m ≤ a ∧ a < q_sl m + 12
          · obtain ⟨k, rfl⟩ : ∃ k, a = q_sl m + k := ⟨a - q_sl m, by omega⟩
            rw [q_cB_b (by omega), q_cB_b (by omega), q_M_a (by omega), q_tr_a (by omega) (by omega) (by omega)]
          · rw [q_cB_a (by omega), q_cB_a (by omega), q_M_a a0, q_tr_a a0 (by omega) a145]
  · rw [q_ks_a (by decide) (by decide), d153]
    exact (q_Iv_1 hI).2.2
  · rw [F2 23 (by decide) (by decide) (by decide) (by decide) (by decide) (by decide) (by decide) (by decide) (by decide), q_tr_a (by decide) (by decide) (by decide)]
    exact n5
  · rw [F2 23 (by decide) (by decide) (by decide) (by decide) (by decide) (by decide) (by decide) (by decide) (by decide), q_tr_a (by decide) (by decide) (by decide)]
    exact n3
  · rw [F2 23 (by decide) (by decide) (by decide) (by decide) (by decide) (by decide) (by decide) (by decide) (by decide), q_tr_a (by decide) (by decide) (by decide)]
    exact n4
  · intro k x1 x2 x3 x4 x5
    rw [q_ks_k x1 x2]
    by_cases y6 : k = 6
    · subst y6
      rw [q_M_s, q_tr_k (by decide) (by decide)]
      exact hI2.2.2.1.symm
    · rw [q_M_k y6, k9 k x2 x3]
      by_cases y12 : k = 12
      · subst y12
        rw [c12, q_tr_12]
      · by_cases y13 : k = 13
        · subst y13
          rw [c13, q_tr_13]
        · rw [ck k y6 x2 y12 y13 x4 x5, q_tr_k y12 y13]
  · rw [d5, q_tr_k (by decide) (by decide)]
  · rw [q_M_a (by decide), k7, ca 151 (by decide) (by decide) (by decide), q_M_a (by decide), fB 151 (by decide) (by decide), q_tr_a (by decide) (by decide) (by decide)]
  · rw [d153, q_tr_a (by decide) (by decide) (by decide)]
end M97m
