section M77
variable {m : Nat → Nat → Int} {K : Nat × Nat} {s : List Int32}
theorem A731 (hI : q_Iv m) (hK : 162 ≤ K.1) : q_ok m K s (x_m 731 [.ref 0]) (x_m 878 [.ref 149]) ∨ q_no m K s (x_m 731 [.ref 0]) (x_m 878 [.ref 149]) "java/lang/IllegalStateException" 1 := by
  have hK2 : ((q_H m K s)).2.1 ≤ ((q_H m K s)).2.2.1 := hK
  obtain ⟨h1, h2, h3, h4⟩ := q_Iv_2 hI
  obtain ⟨⟨a1, a2⟩, a3, a4⟩ := h1
  by_cases h0 : m 23 4 = 0
  · right
    refine q_ask2 (b := 0) hI (m1 := m) ?_ q_sc1_refl (q_an1 ?_)
    · simp (disch := first | rfl | assumption | decide | omega | (unfold q_R; omega)) only [en731, e731_0, e731_1, e731_4, e731_7, e731_10, e731_21, e731_22, e731_25, e731_28, e731_29, e731_32, e731_35, ↓q_nv0, ↓q_nv1, ↓q_nv2, ↓q_nv3, ↓q_nv4, ↓q_nv5, ↓q_nv6, ↓q_nv7, ↓q_nv8, ↓q_nv9, ↓q_nv10, ↓q_nv11, ↓q_nv12, ↓q_nv13, ↓q_nv14, ↓q_nv15, ↓q_nv16, ↓q_nv17, ↓q_nv18, ↓q_nv19, ↓q_nv20, ↓q_nv21, ↓q_nv22, ↓q_gi0, ↓q_gi1, ↓q_gi2, ↓q_gi3, ↓q_gi4, ↓q_gi5, ↓q_gi6, ↓q_gi7, ↓q_gi8, ↓q_gi9, ↓q_gr0, ↓q_gr1, ↓q_gr2, ↓q_gr3, ↓q_gr4, ↓q_gr5, ↓q_gr6, ↓q_gr7, ↓q_gr8, ↓q_gr9, ↓q_ls0, ↓q_ls1i, ↓q_ls1r, ↓q_ls1n, ↓q_ls2i, ↓q_ls2r, ↓q_ls2n, ↓q_ls3i, ↓q_ls3r, ↓q_ls3n, ↓q_ls4i, ↓q_ls4r, ↓q_ls4n, ↓q_ls5i, ↓q_ls5r, ↓q_ls5n, ↓q_ls6i, ↓q_ls6r, ↓q_ls6n, ↓q_ls7i, ↓q_ls7r, ↓q_ls7n, ↓q_ls8i, ↓q_ls8r, ↓q_ls8n, ↓q_ls9i, ↓q_ls9r, ↓q_ls9n, q_nd0, q_nd1i, q_nd1r, q_nd1n, q_nd2i, q_nd2r, q_nd2n, q_nd3i, q_nd3r, q_nd3n, q_nd4i, q_nd4r, q_nd4n, q_nd5i, q_nd5r, q_nd5n, q_nd6i, q_nd6r, q_nd6n, q_nd7i, q_nd7r, q_nd7n, q_nd8i, q_nd8r, q_nd8n, q_nd9i, q_nd9r, q_nd9n, q_st0, q_st1, q_st2, q_st3, q_st4, q_st5, q_st6, q_st7, q_st8, q_st9, q_cat_i, q_cat_r, q_cat_n, q_wt0, q_wt1, q_tl0, q_tl1, ↓q_cl1, q_add, q_sub, q_mul, q_nari, q_narb0, q_narb1, q_fiti, q_fitb0, q_fitb1, List.cons_append, List.nil_append, Nat.reduceAdd, Nat.reduceLeDiff, and_self, and_true, true_and, ↓reduceIte, ↓rc0, ↓gf0_0, ↓gf0_1, ↓gf0_2, ↓gf0_3, ↓gf0_4, ↓gf0_5, ↓gf0_6, ↓gf0_7, ↓pf0_7, ft0_7, ↓rc1, ↓gf1_0, ↓pf1_0, ft1_0, ↓gf1_1, ↓pf1_1, ft1_1, ↓gf1_2, ↓gf1_3, ↓gf1_4, ↓gf1_5, ↓gf1_6, ↓gf1_7, ↓gf1_8, ↓gf1_9, ↓gf1_10, ↓gf1_11, ↓gf1_12, ↓rc13, ↓gf13_0, ↓gf13_1, ↓gf13_2, ↓gf13_3, ↓gf13_4, ↓gf13_5, ↓gf13_6, ↓pf13_6, ft13_6, ↓gf13_7, ↓pf13_7, ft13_7, ↓gf13_8, ↓pf13_8, ft13_8, ↓gf13_9, ↓pf13_9, ft13_90, ft13_91, ↓gf13_10, ↓gf13_11, ↓gf13_12, ↓pf13_12, ft13_12, ↓gf13_13, ↓pf13_13, ft13_13, ↓gf13_14, ↓pf13_14, ft13_14, ↓rc21, ↓gf21_0, ↓pf21_0, ft21_0, ↓gf21_1, ↓pf21_1, ft21_1, ↓gf21_2, ↓pf21_2, ft21_2, ↓gf21_3, ↓pf21_3, ft21_3, ↓rc22, ↓gf22_0, ↓gf22_1, ↓gf22_2, ↓rc23, ↓gf23_0, ↓gf23_1, ↓gf23_2, ↓gf23_3, ↓pf23_3, ft23_3, ↓gf23_4, ↓pf23_4, ft23_4, ↓gf23_5, ↓pf23_5, ft23_50, ft23_51, ↓rc145, ↓gf145_0, ↓gf145_1, ↓pf145_1, ft145_1, ↓rc147, ↓gf147_0, ↓gf147_1, ↓pf147_1, ft147_1, ↓rc149, ↓gf149_0, ↓gf149_1, ↓gf149_2, ↓gf149_3, ↓gf149_4, ↓pf149_4, ft149_40, ft149_41, ↓gf149_5, ↓pf149_5, ft149_5, ↓gf149_6, ↓pf149_6, ft149_60, ft149_61, ↓gf149_7, ↓pf149_7, ft149_7, ↓gf149_8, ↓pf149_8, ft149_8, ↓gf149_9, ↓pf149_9, ft149_9, ↓gf149_10, ↓pf149_10, ft149_10, ↓gf149_11, ↓gf149_12, ↓pf149_12, ft149_12, ↓gf149_13, ↓pf149_13, ft149_13, ↓gf149_14, ↓gf149_15, ↓pf149_15, ft149_15, ↓gf149_16, ↓gf149_17, ↓gf149_18, ↓gf149_19, ↓pf149_19, ft149_19, ↓gf149_20, ↓pf149_20, ft149_20, ↓gf149_21, ↓gf149_22, ↓pf149_22, ft149_22, q_M_s, q_M_k, q_M_a, q_P_s, q_P_a, q_toN, q_i00, q_i10, q_j00, q_j10, h0, hK2, not_true_eq_false, not_false_eq_true, if_true, if_false]
      rfl
    · rw [h0] at h2
      simp (disch := first | rfl | assumption | decide | omega | (unfold q_R; omega)) only [en878, e878_0, e878_1, e878_2, e878_5, e878_8, e878_9, e878_12, e878_13, e878_16, e878_19, e878_20, e878_21, e878_22, e878_23, e878_26, e878_27, e878_28, e878_31, e878_32, e878_35, e878_38, e878_39, e878_42, e878_43, e878_44, e878_47, e878_48, e878_51, e878_52, e878_55, ↓q_nv0, ↓q_nv1, ↓q_nv2, ↓q_nv3, ↓q_nv4, ↓q_nv5, ↓q_nv6, ↓q_nv7, ↓q_nv8, ↓q_nv9, ↓q_nv10, ↓q_nv11, ↓q_nv12, ↓q_nv13, ↓q_nv14, ↓q_nv15, ↓q_nv16, ↓q_nv17, ↓q_nv18, ↓q_nv19, ↓q_nv20, ↓q_nv21, ↓q_nv22, ↓q_gi0, ↓q_gi1, ↓q_gi2, ↓q_gi3, ↓q_gi4, ↓q_gi5, ↓q_gi6, ↓q_gi7, ↓q_gi8, ↓q_gi9, ↓q_gr0, ↓q_gr1, ↓q_gr2, ↓q_gr3, ↓q_gr4, ↓q_gr5, ↓q_gr6, ↓q_gr7, ↓q_gr8, ↓q_gr9, ↓q_ls0, ↓q_ls1i, ↓q_ls1r, ↓q_ls1n, ↓q_ls2i, ↓q_ls2r, ↓q_ls2n, ↓q_ls3i, ↓q_ls3r, ↓q_ls3n, ↓q_ls4i, ↓q_ls4r, ↓q_ls4n, ↓q_ls5i, ↓q_ls5r, ↓q_ls5n, ↓q_ls6i, ↓q_ls6r, ↓q_ls6n, ↓q_ls7i, ↓q_ls7r, ↓q_ls7n, ↓q_ls8i, ↓q_ls8r, ↓q_ls8n, ↓q_ls9i, ↓q_ls9r, ↓q_ls9n, q_nd0, q_nd1i, q_nd1r, q_nd1n, q_nd2i, q_nd2r, q_nd2n, q_nd3i, q_nd3r, q_nd3n, q_nd4i, q_nd4r, q_nd4n, q_nd5i, q_nd5r, q_nd5n, q_nd6i, q_nd6r, q_nd6n, q_nd7i, q_nd7r, q_nd7n, q_nd8i, q_nd8r, q_nd8n, q_nd9i, q_nd9r, q_nd9n, q_st0, q_st1, q_st2, q_st3, q_st4, q_st5, q_st6, q_st7, q_st8, q_st9, q_cat_i, q_cat_r, q_cat_n, q_wt0, q_wt1, q_tl0, q_tl1, ↓q_cl1, q_add, q_sub, q_mul, q_nari, q_narb0, q_narb1, q_fiti, q_fitb0, q_fitb1, List.cons_append, List.nil_append, Nat.reduceAdd, Nat.reduceLeDiff, and_self, and_true, true_and, ↓reduceIte, ↓rc0, ↓gf0_0, ↓gf0_1, ↓gf0_2, ↓gf0_3, ↓gf0_4, ↓gf0_5, ↓gf0_6, ↓gf0_7, ↓pf0_7, ft0_7, ↓rc1, ↓gf1_0, ↓pf1_0, ft1_0, ↓gf1_1, ↓pf1_1, ft1_1, ↓gf1_2, ↓gf1_3, ↓gf1_4, ↓gf1_5, ↓gf1_6, ↓gf1_7, ↓gf1_8, ↓gf1_9, ↓gf1_10, ↓gf1_11, ↓gf1_12, ↓rc13, ↓gf13_0, ↓gf13_1, ↓gf13_2, ↓gf13_3, ↓gf13_4, ↓gf13_5, ↓gf13_6, ↓pf13_6, ft13_6, ↓gf13_7, ↓pf13_7, ft13_7, ↓gf13_8, ↓pf13_8, ft13_8, ↓gf13_9, ↓pf13_9, ft13_90, ft13_91, ↓gf13_10, ↓gf13_11, ↓gf13_12, ↓pf13_12, ft13_12, ↓gf13_13, ↓pf13_13, ft13_13, ↓gf13_14, ↓pf13_14, ft13_14, ↓rc21, ↓gf21_0, ↓pf21_0, ft21_0, ↓gf21_1, ↓pf21_1, ft21_1, ↓gf21_2, ↓pf21_2, ft21_2, ↓gf21_3, ↓pf21_3, ft21_3, ↓rc22, ↓gf22_0, ↓gf22_1, ↓gf22_2, ↓rc23, ↓gf23_0, ↓gf23_1, ↓gf23_2, ↓gf23_3, ↓pf23_3, ft23_3, ↓gf23_4, ↓pf23_4, ft23_4, ↓gf23_5, ↓pf23_5, ft23_50, ft23_51, ↓rc145, ↓gf145_0, ↓gf145_1, ↓pf145_1, ft145_1, ↓rc147, ↓gf147_0, ↓gf147_1, ↓pf147_1, ft147_1, ↓rc149, ↓gf149_0, ↓gf149_1, ↓gf149_2, ↓gf149_3, ↓gf149_4, ↓pf149_4, ft149_40, ft149_41, ↓gf149_5, ↓pf149_5, ft149_5, ↓gf149_6, ↓pf149_6, ft149_60, ft149_61, ↓gf149_7, ↓pf149_7, ft149_7, ↓gf149_8, ↓pf149_8, ft149_8, ↓gf149_9, ↓pf149_9, ft149_9, ↓gf149_10, ↓pf149_10, ft149_10, ↓gf149_11, ↓gf149_12, ↓pf149_12, ft149_12, ↓gf149_13, ↓pf149_13, ft149_13, ↓gf149_14, ↓gf149_15, ↓pf149_15, ft149_15, ↓gf149_16, ↓gf149_17, ↓gf149_18, ↓gf149_19, ↓pf149_19, ft149_19, ↓gf149_20, ↓pf149_20, ft149_20, ↓gf149_21, ↓gf149_22, ↓pf149_22, ft149_22, q_M_s, q_M_k, q_M_a, q_P_s, q_P_a, q_toN, q_i00, q_i10, q_j00, q_j10, h2, not_true_eq_false, not_false_eq_true, if_true, if_false, m802_1]
  · left
    obtain ⟨c, hc⟩ : ∃ c : Nat, m 23 4 = (c + 1 : Nat) := ⟨(m 23 4).toNat - 1, by omega⟩
    obtain ⟨s5, s6⟩ := h4 c (by omega)
    have hidx : 37 + 12 * ((m 23 3 + (m 23 4 - 1)) % 9).toNat = q_sp9 (m 23 3) c := by
      unfold q_sp9
      rw [show m 23 3 + (m 23 4 - 1) = m 23 3 + (c : Int) by omega]
    have hlt := q_sp9_lt (st := m 23 3) c
    have e304 := m304 (m := m) (K := K) (s := s) ⟨⟨a1, a2⟩, a3, a4⟩ (by omega) (by rw [hidx]; exact q_Bd_Bb s5 s6)
    rw [hidx, hc, show ((c + 1 : Nat) : Int) - 1 = (c : Int) by omega] at e304
    have fb : ∀ a, a ≠ 23 → (a < 1 ∨ 13 ≤ a) → q_cB (q_M m 23 4 (c : Int)) 1 (q_sp9 (m 23 3) c) a = m a := fun a a1 a2 => by rw [q_cB_a (by omega), q_M_a a1]
    have fb23 : ∀ k, k ≠ 4 → q_cB (q_M m 23 4 (c : Int)) 1 (q_sp9 (m 23 3) c) 23 k = m 23 k := fun k hk => by rw [q_cB_a (by omega), q_M_k hk]
    have f4 : q_cB (q_M m 23 4 (c : Int)) 1 (q_sp9 (m 23 3) c) 23 4 = c := by rw [q_cB_a (by omega), q_M_s]
    have fs : ∀ k, k < 12 → q_cB (q_M m 23 4 (c : Int)) 1 (q_sp9 (m 23 3) c) (1 + k) = m (q_sp9 (m 23 3) c + k) := fun k hk => by rw [q_cB_b hk, q_M_a (by omega)]
    generalize q_cB (q_M m 23 4 (c : Int)) 1 (q_sp9 (m 23 3) c) = m1 at e304 fb fb23 f4 fs
    have e805 := m805_un (m := q_M (q_M (q_M m1 160 0 c) 149 7 0) 149 5 c) (K := K) (s := s) (c := c) (by omega)
    have e149 : m 149 5 = (c + 1 : Nat) := by rw [h2]; exact hc
    have eM : q_M (q_M (q_M m1 160 0 c) 149 7 0) 149 5 c 151 = m 151 := by rw [q_M_a (by decide), q_M_a (by decide), q_M_a (by decide), fb 151 (by decide) (by decide)]
    have g0 : q_cp (q_M (q_M (q_M m1 160 0 c) 149 7 0) 149 5 c) 151 (199 * c) 150 0 199 150 = q_row m c := by
      rw [q_cp_row]
      · unfold q_row
        rw [eM]
      · rw [q_M_a (by decide), q_M_a (by decide), q_M_a (by decide), fb 150 (by decide) (by decide)]
        exact (q_Iv_1 hI).2.2
    have hne : ¬ q_i ((c + 1 : Nat) : Int) = 0 := by
      rw [q_eq0 ⟨by omega, by omega⟩]
      omega
    refine ⟨c, m1, q_cp (q_M (q_M (q_M m1 160 0 c) 149 7 0) 149 5 c) 151 (199 * c) 150 0 199, ?_, ?_, ?_, ?_, ?_⟩
    · simp (disch := first | rfl | assumption | decide | omega | (unfold q_R; omega)) only [en731, e731_0, e731_1, e731_4, e731_7, e731_10, e731_21, e731_22, e731_25, e731_28, e731_29, e731_32, e731_35, ↓q_nv0, ↓q_nv1, ↓q_nv2, ↓q_nv3, ↓q_nv4, ↓q_nv5, ↓q_nv6, ↓q_nv7, ↓q_nv8, ↓q_nv9, ↓q_nv10, ↓q_nv11, ↓q_nv12, ↓q_nv13, ↓q_nv14, ↓q_nv15, ↓q_nv16, ↓q_nv17, ↓q_nv18, ↓q_nv19, ↓q_nv20, ↓q_nv21, ↓q_nv22, ↓q_gi0, ↓q_gi1, ↓q_gi2, ↓q_gi3, ↓q_gi4, ↓q_gi5, ↓q_gi6, ↓q_gi7, ↓q_gi8, ↓q_gi9, ↓q_gr0, ↓q_gr1, ↓q_gr2, ↓q_gr3, ↓q_gr4, ↓q_gr5, ↓q_gr6, ↓q_gr7, ↓q_gr8, ↓q_gr9, ↓q_ls0, ↓q_ls1i, ↓q_ls1r, ↓q_ls1n, ↓q_ls2i, ↓q_ls2r, ↓q_ls2n, ↓q_ls3i, ↓q_ls3r, ↓q_ls3n, ↓q_ls4i, ↓q_ls4r, ↓q_ls4n, ↓q_ls5i, ↓q_ls5r, ↓q_ls5n, ↓q_ls6i, ↓q_ls6r, ↓q_ls6n, ↓q_ls7i, ↓q_ls7r, ↓q_ls7n, ↓q_ls8i, ↓q_ls8r, ↓q_ls8n, ↓q_ls9i, ↓q_ls9r, ↓q_ls9n, q_nd0, q_nd1i, q_nd1r, q_nd1n, q_nd2i, q_nd2r, q_nd2n, q_nd3i, q_nd3r, q_nd3n, q_nd4i, q_nd4r, q_nd4n, q_nd5i, q_nd5r, q_nd5n, q_nd6i, q_nd6r, q_nd6n, q_nd7i, q_nd7r, q_nd7n, q_nd8i, q_nd8r, q_nd8n, q_nd9i, q_nd9r, q_nd9n, q_st0, q_st1, q_st2, q_st3, q_st4, q_st5, q_st6, q_st7, q_st8, q_st9, q_cat_i, q_cat_r, q_cat_n, q_wt0, q_wt1, q_tl0, q_tl1, ↓q_cl1, q_add, q_sub, q_mul, q_nari, q_narb0, q_narb1, q_fiti, q_fitb0, q_fitb1, List.cons_append, List.nil_append, Nat.reduceAdd, Nat.reduceLeDiff, and_self, and_true, true_and, ↓reduceIte, ↓rc0, ↓gf0_0, ↓gf0_1, ↓gf0_2, ↓gf0_3, ↓gf0_4, ↓gf0_5, ↓gf0_6, ↓gf0_7, ↓pf0_7, ft0_7, ↓rc1, ↓gf1_0, ↓pf1_0, ft1_0, ↓gf1_1, ↓pf1_1, ft1_1, ↓gf1_2, ↓gf1_3, ↓gf1_4, ↓gf1_5, ↓gf1_6, ↓gf1_7, ↓gf1_8, ↓gf1_9, ↓gf1_10, ↓gf1_11, ↓gf1_12, ↓rc13, ↓gf13_0, ↓gf13_1, ↓gf13_2, ↓gf13_3, ↓gf13_4, ↓gf13_5, ↓gf13_6, ↓pf13_6, ft13_6, ↓gf13_7, ↓pf13_7, ft13_7, ↓gf13_8, ↓pf13_8, ft13_8, ↓gf13_9, ↓pf13_9, ft13_90, ft13_91, ↓gf13_10, ↓gf13_11, ↓gf13_12, ↓pf13_12, ft13_12, ↓gf13_13, ↓pf13_13, ft13_13, ↓gf13_14, ↓pf13_14, ft13_14, ↓rc21, ↓gf21_0, ↓pf21_0, ft21_0, ↓gf21_1, ↓pf21_1, ft21_1, ↓gf21_2, ↓pf21_2, ft21_2, ↓gf21_3, ↓pf21_3, ft21_3, ↓rc22, ↓gf22_0, ↓gf22_1, ↓gf22_2, ↓rc23, ↓gf23_0, ↓gf23_1, ↓gf23_2, ↓gf23_3, ↓pf23_3, ft23_3, ↓gf23_4, ↓pf23_4, ft23_4, ↓gf23_5, ↓pf23_5, ft23_50, ft23_51, ↓rc145, ↓gf145_0, ↓gf145_1, ↓pf145_1, ft145_1, ↓rc147, ↓gf147_0, ↓gf147_1, ↓pf147_1, ft147_1, ↓rc149, ↓gf149_0, ↓gf149_1, ↓gf149_2, ↓gf149_3, ↓gf149_4, ↓pf149_4, ft149_40, ft149_41, ↓gf149_5, ↓pf149_5, ft149_5, ↓gf149_6, ↓pf149_6, ft149_60, ft149_61, ↓gf149_7, ↓pf149_7, ft149_7, ↓gf149_8, ↓pf149_8, ft149_8, ↓gf149_9, ↓pf149_9, ft149_9, ↓gf149_10, ↓pf149_10, ft149_10, ↓gf149_11, ↓gf149_12, ↓pf149_12, ft149_12, ↓gf149_13, ↓pf149_13, ft149_13, ↓gf149_14, ↓gf149_15, ↓pf149_15, ft149_15, ↓gf149_16, ↓gf149_17, ↓gf149_18, ↓gf149_19, ↓pf149_19, ft149_19, ↓gf149_20, ↓pf149_20, ft149_20, ↓gf149_21, ↓gf149_22, ↓pf149_22, ft149_22, q_M_s, q_M_k, q_M_a, q_P_s, q_P_a, q_toN, q_i00, q_i10, q_j00, q_j10, hc, hne, not_true_eq_false, not_false_eq_true, if_true, if_false, e304, f4]
    · have x5 : m1 149 5 = (c + 1 : Nat) := by rw [fb 149 (by decide) (by decide)]; exact e149
      have y5 : q_cp (q_M (q_M (q_M m1 160 0 c) 149 7 0) 149 5 c) 151 (199 * c) 150 0 199 149 5 = c := by rw [q_cp_a (by decide), q_M_s]
      simp (disch := first | rfl | assumption | decide | omega | (unfold q_R; omega)) only [en878, e878_0, e878_1, e878_2, e878_5, e878_8, e878_9, e878_12, e878_13, e878_16, e878_19, e878_20, e878_21, e878_22, e878_23, e878_26, e878_27, e878_28, e878_31, e878_32, e878_35, e878_38, e878_39, e878_42, e878_43, e878_44, e878_47, e878_48, e878_51, e878_52, e878_55, ↓q_nv0, ↓q_nv1, ↓q_nv2, ↓q_nv3, ↓q_nv4, ↓q_nv5, ↓q_nv6, ↓q_nv7, ↓q_nv8, ↓q_nv9, ↓q_nv10, ↓q_nv11, ↓q_nv12, ↓q_nv13, ↓q_nv14, ↓q_nv15, ↓q_nv16, ↓q_nv17, ↓q_nv18, ↓q_nv19, ↓q_nv20, ↓q_nv21, ↓q_nv22, ↓q_gi0, ↓q_gi1, ↓q_gi2, ↓q_gi3, ↓q_gi4, ↓q_gi5, ↓q_gi6, ↓q_gi7, ↓q_gi8, ↓q_gi9, ↓q_gr0, ↓q_gr1, ↓q_gr2, ↓q_gr3, ↓q_gr4, ↓q_gr5, ↓q_gr6, ↓q_gr7, ↓q_gr8, ↓q_gr9, ↓q_ls0, ↓q_ls1i, ↓q_ls1r, ↓q_ls1n, ↓q_ls2i, ↓q_ls2r, ↓q_ls2n, ↓q_ls3i, ↓q_ls3r, ↓q_ls3n, ↓q_ls4i, ↓q_ls4r, ↓q_ls4n, ↓q_ls5i, ↓q_ls5r, ↓q_ls5n, ↓q_ls6i, ↓q_ls6r, ↓q_ls6n, ↓q_ls7i, ↓q_ls7r, ↓q_ls7n, ↓q_ls8i, ↓q_ls8r, ↓q_ls8n, ↓q_ls9i, ↓q_ls9r, ↓q_ls9n, q_nd0, q_nd1i, q_nd1r, q_nd1n, q_nd2i, q_nd2r, q_nd2n, q_nd3i, q_nd3r, q_nd3n, q_nd4i, q_nd4r, q_nd4n, q_nd5i, q_nd5r, q_nd5n, q_nd6i, q_nd6r, q_nd6n, q_nd7i, q_nd7r, q_nd7n, q_nd8i, q_nd8r, q_nd8n, q_nd9i, q_nd9r, q_nd9n, q_st0, q_st1, q_st2, q_st3, q_st4, q_st5, q_st6, q_st7, q_st8, q_st9, q_cat_i, q_cat_r, q_cat_n, q_wt0, q_wt1, q_tl0, q_tl1, ↓q_cl1, q_add, q_sub, q_mul, q_nari, q_narb0, q_narb1, q_fiti, q_fitb0, q_fitb1, List.cons_append, List.nil_append, Nat.reduceAdd, Nat.reduceLeDiff, and_self, and_true, true_and, ↓reduceIte, ↓rc0, ↓gf0_0, ↓gf0_1, ↓gf0_2, ↓gf0_3, ↓gf0_4, ↓gf0_5, ↓gf0_6, ↓gf0_7, ↓pf0_7, ft0_7, ↓rc1, ↓gf1_0, ↓pf1_0, ft1_0, ↓gf1_1, ↓pf1_1, ft1_1, ↓gf1_2, ↓gf1_3, ↓gf1_4, ↓gf1_5, ↓gf1_6, ↓gf1_7, ↓gf1_8, ↓gf1_9, ↓gf1_10, ↓gf1_11, ↓gf1_12, ↓rc13, ↓gf13_0, ↓gf13_1, ↓gf13_2, ↓gf13_3, ↓gf13_4, ↓gf13_5, ↓gf13_6, ↓pf13_6, ft13_6, ↓gf13_7, ↓pf13_7, ft13_7, ↓gf13_8, ↓pf13_8, ft13_8, ↓gf13_9, ↓pf13_9, ft13_90, ft13_91, ↓gf13_10, ↓gf13_11, ↓gf13_12, ↓pf13_12, ft13_12, ↓gf13_13, ↓pf13_13, ft13_13, ↓gf13_14, ↓pf13_14, ft13_14, ↓rc21, ↓gf21_0, ↓pf21_0, ft21_0, ↓gf21_1, ↓pf21_1, ft21_1, ↓gf21_2, ↓pf21_2, ft21_2, ↓gf21_3, ↓pf21_3, ft21_3, ↓rc22, ↓gf22_0, ↓gf22_1, ↓gf22_2, ↓rc23, ↓gf23_0, ↓gf23_1, ↓gf23_2, ↓gf23_3, ↓pf23_3, ft23_3, ↓gf23_4, ↓pf23_4, ft23_4, ↓gf23_5, ↓pf23_5, ft23_50, ft23_51, ↓rc145, ↓gf145_0, ↓gf145_1, ↓pf145_1, ft145_1, ↓rc147, ↓gf147_0, ↓gf147_1, ↓pf147_1, ft147_1, ↓rc149, ↓gf149_0, ↓gf149_1, ↓gf149_2, ↓gf149_3, ↓gf149_4, ↓pf149_4, ft149_40, ft149_41, ↓gf149_5, ↓pf149_5, ft149_5, ↓gf149_6, ↓pf149_6, ft149_60, ft149_61, ↓gf149_7, ↓pf149_7, ft149_7, ↓gf149_8, ↓pf149_8, ft149_8, ↓gf149_9, ↓pf149_9, ft149_9, ↓gf149_10, ↓pf149_10, ft149_10, ↓gf149_11, ↓gf149_12, ↓pf149_12, ft149_12, ↓gf149_13, ↓pf149_13, ft149_13, ↓gf149_14, ↓gf149_15, ↓pf149_15, ft149_15, ↓gf149_16, ↓gf149_17, ↓gf149_18, ↓gf149_19, ↓pf149_19, ft149_19, ↓gf149_20, ↓pf149_20, ft149_20, ↓gf149_21, ↓gf149_22, ↓pf149_22, ft149_22, ↓ra2, ↓wa2, ↓ln2, ↓ra3, ↓wa3, ↓ln3, ↓ra4, ↓wa4, ↓ln4, ↓ra5, ↓wa5, ↓ln5, ↓ra6, ↓wa6, ↓ln6, ↓ra7, ↓wa7, ↓ln7, ↓ra8, ↓wa8, ↓ln8, ↓ra9, ↓wa9, ↓ln9, ↓ra10, ↓wa10, ↓ln10, ↓ra11, ↓wa11, ↓ln11, ↓ra12, ↓wa12, ↓ln12, ↓ra14, ↓wa14, ↓ln14, ↓ra15, ↓wa15, ↓ln15, ↓ra16, ↓wa16, ↓ln16, ↓ra17, ↓wa17, ↓ln17, ↓ra18, ↓wa18, ↓ln18, ↓ra19, ↓wa19, ↓ln19, ↓ra20, ↓wa20, ↓ln20, ↓ra146, ↓wa146, ↓ln146, ↓ra148, ↓wa148, ↓ln148, ↓ra150, ↓wa150, ↓ln150, ↓ra151, ↓wa151, ↓ln151, ↓ra152, ↓wa152, ↓ln152, ↓ra153, ↓wa153, ↓ln153, ↓ra154, ↓wa154, ↓ln154, ↓ra155, ↓wa155, ↓ln155, ↓ra156, ↓wa156, ↓ln156, ↓ra157, ↓wa157, ↓ln157, ↓ra158, ↓wa158, ↓ln158, ↓ra159, ↓wa159, ↓ln159, q_M_s, q_M_k, q_M_a, q_P_s, q_P_a, q_toN, q_i00, q_i10, q_j00, q_j10, x5, hne, not_true_eq_false, not_false_eq_true, if_true, if_false, m802_0, ft149_5, show ((c + 1 : Nat) : Int) - 1 = (c : Int) by omega, e805, y5]
    · rw [q_cp_a (by decide), q_M_k (by decide), q_M_s]
    · rw [q_cp_a (by decide), q_M_a (by decide), q_M_a (by decide), q_M_s]
    · have g1 : ∀ a, a ≠ 23 → a ≠ 149 → a ≠ 150 → a ≠ 160 → (a < 1 ∨ 13 ≤ a) → q_cp (q_M (q_M (q_M m1 160 0 c) 149 7 0) 149 5 c) 151 (199 * c) 150 0 199 a = m a := fun a a1 a2 a3 a4 a5 => by rw [q_cp_a a3, q_M_a a2, q_M_a a2, q_M_a a4, fb a a1 a5]
      have g2 : ∀ k, k ≠ 7 → k ≠ 5 → q_cp (q_M (q_M (q_M m1 160 0 c) 149 7 0) 149 5 c) 151 (199 * c) 150 0 199 149 k = m 149 k := fun k k1 k2 => by rw [q_cp_a (by decide), q_M_k k2, q_M_k k1, q_M_a (by decide), fb 149 (by decide) (by decide)]
      have g3 : ∀ a, a ≠ 149 → a ≠ 150 → a ≠ 160 → q_cp (q_M (q_M (q_M m1 160 0 c) 149 7 0) 149 5 c) 151 (199 * c) 150 0 199 a = m1 a := fun a a1 a2 a3 => by rw [q_cp_a a2, q_M_a a1, q_M_a a1, q_M_a a3]
      have g5 : q_cp (q_M (q_M (q_M m1 160 0 c) 149 7 0) 149 5 c) 151 (199 * c) 150 0 199 149 5 = c := by rw [q_cp_a (by decide), q_M_s]
      generalize q_cp (q_M (q_M (q_M m1 160 0 c) 149 7 0) 149 5 c) 151 (199 * c) 150 0 199 = m2 at *
      refine q_Iv_mk ⟨by rw [g0]; exact s6, ?_, by rw [g0]; exact q_row_Z⟩ ⟨?_, ?_, ?_, ?_⟩ (q_I3_fr (q_Iv_3 hI) (by rw [g3 23 (by decide) (by decide) (by decide), fb23 5 (by decide)]) (g2 4 (by decide) (by decide)) (g1 152 (by decide) (by decide) (by decide) (by decide) (by decide)) fun k hk => g1 _ (by omega) (by omega) (by omega) (by omega) (by omega)) (q_I4_fr (q_Iv_4 hI) (g1 21 (by decide) (by decide) (by decide) (by decide) (by decide)) (g2 8 (by decide) (by decide)) (g2 9 (by decide) (by decide)) (g2 10 (by decide) (by decide))) (q_I5_fr (q_Iv_5 hI) (by rw [g1 145 (by decide) (by decide) (by decide) (by decide) (by decide)]) (g2 12 (by decide) (by decide)) (g1 146 (by decide) (by decide) (by decide) (by decide) (by decide)) (g1 154 (by decide) (by decide) (by decide) (by decide) (by decide))) (q_I6_fr (q_Iv_6 hI) (by rw [g1 0 (by decide) (by decide) (by decide) (by decide) (by decide)]) (g2 13 (by decide) (by decide))) (q_I7_fr (q_Iv_7 hI) (by rw [g1 147 (by decide) (by decide) (by decide) (by decide) (by decide)]) (g2 15 (by decide) (by decide)) (g1 148 (by decide) (by decide) (by decide) (by decide) (by decide)) (g1 155 (by decide) (by decide) (by decide) (by decide) (by decide))) (by rw [g1 153 (by decide) (by decide) (by decide) (by decide) (by decide)]; exact q_Iv_8 hI)
      · rw [g0]
        exact q_Bd_mv s5 fun k hk => by rw [g3 _ (by omega) (by omega) (by omega), fs k hk]
      · unfold q_HC
        rw [g3 23 (by decide) (by decide) (by decide), fb23 3 (by decide), f4]
        exact ⟨⟨a1, a2⟩, by omega, by omega⟩
      · rw [g5, g3 23 (by decide) (by decide) (by decide), f4]
      · rw [g2 6 (by decide) (by decide)]
        exact h3
      · rw [g3 23 (by decide) (by decide) (by decide), f4, fb23 3 (by decide)]
        intro i hi
        obtain ⟨t1, t2⟩ := h4 i (by omega)
        have hl2 := q_sp9_lt (st := m 23 3) i
        have er : q_row m2 i = q_row m i := by
          unfold q_row
          rw [g1 151 (by decide) (by decide) (by decide) (by decide) (by decide)]
        rw [er]
        exact ⟨q_Bd_fr t1 fun k hk => g1 _ (by omega) (by omega) (by omega) (by omega) (by omega), t2⟩
/-- the kept rows after a change -/
theorem q_ks_rows {row c : Nat} (h6 : m 149 6 = 0) (hc : m 149 5 = c) (hc8 : c ≤ 8) (hZ : q_Z (m row)) (hr1 : row ≠ 149) (hr2 : row ≠ 151) : (q_ks m row 149 5 = if c = 8 then 8 else (c + 1 : Nat)) ∧ ∀ i, i < 8 → q_row (q_ks m row) i = if c = 8 then (if i = 7 then m row else q_row m (i + 1)) else (if i = c then m row else q_row m i) := by
  unfold q_ks
  rw [if_pos h6, hc, q_toN]
  unfold q_kp
  by_cases h8 : c = 8
  · subst h8
    rw [if_pos rfl, if_pos rfl]
    refine ⟨q_M_s, fun i hi => ?_⟩
    rw [if_pos rfl]
    unfold q_row q_cp
    funext k
    rw [q_M_a (by decide), q_P_s, q_M_a hr1, q_M_a (show (151 : Nat) ≠ 149 by decide)]
    have es : ∀ j, q_sh m 1393 151 j = if j < 1393 then m 151 (j + 199) else m 151 j := fun j => by
      unfold q_sh
      rw [q_P_s]
    have er : q_sh m 1393 row = m row := by
      unfold q_sh
      rw [q_P_a hr2, q_M_a hr1]
    rw [er]
    by_cases hk : k < 199
    · rw [if_pos hk]
      by_cases h7 : i = 7
      · subst h7
        rw [if_pos rfl, if_pos (by omega), show 0 + (199 * 7 + k - 1393) = k by omega]
      · rw [if_neg h7, if_neg (by omega), es, if_pos (by omega), if_pos hk, show 199 * i + k + 199 = 199 * (i + 1) + k by omega]
    · rw [if_neg hk]
      by_cases h7 : i = 7
      · rw [if_pos h7, hZ k (by omega)]
      · rw [if_neg h7, if_neg hk]
  · rw [if_neg h8, if_neg h8]
    refine ⟨q_M_s, fun i hi => ?_⟩
    rw [if_neg h8]
    unfold q_row q_cp
    funext k
    rw [q_M_a (by decide), q_P_s, q_M_a hr1, q_M_a (show (151 : Nat) ≠ 149 by decide)]
    by_cases hk : k < 199
    · rw [if_pos hk]
      by_cases h7 : i = c
      · subst h7
        rw [if_pos rfl, if_pos (by omega), show 0 + (199 * i + k - 199 * i) = k by omega]
      · rw [if_neg h7, if_neg (by omega), if_pos hk]
    · rw [if_neg hk]
      by_cases h7 : i = c
      · rw [if_pos h7, hZ k (by omega)]
      · rw [if_neg h7, if_neg hk]
end M77
