section M97k
variable {m : Nat → Nat → Int} {K : Nat × Nat} {s : List Int32} {L : Nat}
/-- the text is read: the fault is kept, the text is empty -/
def q_tr (m : Nat → Nat → Int) (F : Int) : Nat → Nat → Int := q_M (q_M (q_M (q_M m 0 7 F) 149 13 F) 145 1 0) 149 12 0
theorem q_tr_a {F : Int} {a : Nat} (h0 : a ≠ 0) (h1 : a ≠ 149) (h2 : a ≠ 145) : q_tr m F a = m a := by
  unfold q_tr
  rw [q_M_a h1, q_M_a h2, q_M_a h1, q_M_a h0]
theorem q_tr_k {F : Int} {k : Nat} (h1 : k ≠ 12) (h2 : k ≠ 13) : q_tr m F 149 k = m 149 k := by
  unfold q_tr
  rw [q_M_k h1, q_M_a (by decide), q_M_k h2, q_M_a (by decide)]
theorem q_tr_0 {F : Int} : q_tr m F 0 = q_M m 0 7 F 0 := by
  unfold q_tr
  rw [q_M_a (by decide), q_M_a (by decide), q_M_a (by decide)]
theorem q_tr_12 {F : Int} : q_tr m F 149 12 = 0 := q_M_s
theorem q_tr_13 {F : Int} : q_tr m F 149 13 = F := by
  unfold q_tr
  rw [q_M_k (by decide), q_M_a (by decide), q_M_s]
theorem q_tr_145 {F : Int} : q_tr m F 145 1 = 0 := by
  unfold q_tr
  rw [q_M_a (by decide), q_M_s]
theorem q_tr_145a {F : Int} : q_tr m F 145 = q_M m 145 1 0 145 := by
  unfold q_tr
  rw [q_M_a (by decide)]
  funext k
  by_cases h : k = 1
  · subst h
    rw [q_M_s, q_M_s]
  · rw [q_M_k h, q_M_k h, q_M_a (by decide), q_M_a (by decide)]
theorem q_Iv_tr {F : Int} (hI : q_Iv m) (h0 : -1 ≤ F) (h1 : F ≤ 60) : q_Iv (q_tr m F) := by
  have fr : ∀ a, a ≠ 0 → a ≠ 149 → a ≠ 145 → q_tr m F a = m a := fun a a1 a2 a3 => q_tr_a a1 a2 a3
  refine q_Iv_mk (q_I1_fr (q_Iv_1 hI) (fr 150 (by decide) (by decide) (by decide)) fun k hk => fr _ (by omega) (by omega) (by omega)) (q_I2_fr (q_Iv_2 hI) (by rw [fr 23 (by decide) (by decide) (by decide)]) (by rw [fr 23 (by decide) (by decide) (by decide)]) (q_tr_k (by decide) (by decide)) (q_tr_k (by decide) (by decide)) (fr 151 (by decide) (by decide) (by decide)) fun a a1 a2 => fr a (by omega) (by omega) (by omega)) (q_I3_fr (q_Iv_3 hI) (by rw [fr 23 (by decide) (by decide) (by decide)]) (q_tr_k (by decide) (by decide)) (fr 152 (by decide) (by decide) (by decide)) fun k hk => fr _ (by omega) (by omega) (by omega)) (q_I4_fr (q_Iv_4 hI) (fr 21 (by decide) (by decide) (by decide)) (q_tr_k (by decide) (by decide)) (q_tr_k (by decide) (by decide)) (q_tr_k (by decide) (by decide))) ⟨by rw [q_tr_145, q_tr_12], by rw [q_tr_12]; decide, by rw [q_tr_12]; decide, fun i hi => absurd hi (by rw [q_tr_12]; omega)⟩ ⟨by rw [q_tr_0, q_M_s, q_tr_13], by rw [q_tr_13]; exact h0, by rw [q_tr_13]; exact h1⟩ (q_I7_fr (q_Iv_7 hI) (by rw [fr 147 (by decide) (by decide) (by decide)]) (q_tr_k (by decide) (by decide)) (fr 148 (by decide) (by decide) (by decide)) (fr 155 (by decide) (by decide) (by decide))) (by rw [fr 153 (by decide) (by decide) (by decide)]; exact q_Iv_8 hI)
theorem q_txt (hI : q_Iv m) : ∃ L : Nat, m 149 12 = L ∧ q_T m L ∧ q_tt (m 154) L ∧ (∀ i, i < L → m 146 i = m 154 i) ∧ x_m 205 [.ref 145] (q_H m K s) = some (.inl (some (.int (q_i (q_flt (m 154) L 62 0)))), (q_H m K s)) := by
  obtain ⟨t1, t2, t3, t4⟩ := q_Iv_5 hI
  obtain ⟨L, hL⟩ : ∃ L : Nat, m 149 12 = L := ⟨(m 149 12).toNat, by omega⟩
  rw [hL] at t4
  have hT : q_T m L := ⟨t1.trans hL, by omega, fun i hi => by
    have := t4 i (by omega)
    rw [this.1]
    exact this.2⟩
  have e := m205 (K := K) (s := s) hT
  rw [q_flt_cg (fun i hi => (t4 i (by omega)).1)] at e
  exact ⟨L, hL, hT, ⟨by omega, fun i hi => (t4 i (by omega)).2⟩, fun i hi => (t4 i (by omega)).1, e⟩
theorem A723f {t : Nat → Int} (hI : q_Iv m) (hK : 162 ≤ K.1) (ht : m 154 = t) (h12 : m 149 12 = L) (hTt : q_tt t L) (e205 : x_m 205 [.ref 145] (q_H m K s) = some (.inl (some (.int (q_i (q_flt t L 62 0)))), q_H m K s)) (hF : q_flt t L 62 0 ≠ -1) : q_no m K s (x_m 723 [.ref 0]) (x_m 866 [.ref 149]) "java/lang/IllegalArgumentException" 1 := by
  have b12 : q_M (q_M m 0 7 (q_flt t L 62 0)) 145 1 0 149 12 = L := by rw [q_M_a (by decide), q_M_a (by decide)]; exact h12
  have b154 : q_M (q_M m 0 7 (q_flt t L 62 0)) 145 1 0 154 = t := by rw [q_M_a (by decide), q_M_a (by decide)]; exact ht
  obtain ⟨mm, e864, a1, a2, a3, -⟩ := m864 (m := q_M (q_M m 0 7 (q_flt t L 62 0)) 145 1 0) (K := (K.1 + 1, K.2 + 6)) (s := s) hTt b12 b154
  obtain ⟨a20, f0, f1⟩ := a3 hF
  rw [q_b0 hF] at e864
  have h60 := hTt.1
  generalize q_flt t L 62 0 = F at *
  have e02 := m802 (m := q_M (q_M mm 149 13 F) 149 12 0) (K := (K.1 + 1, K.2 + 6)) (s := s) (p := 1) (by decide) (by decide)
  rw [if_pos (by decide)] at e02
  refine ⟨0, q_M (q_M m 0 7 F) 145 1 0, q_M (q_M (q_M mm 149 13 F) 149 12 0) 149 7 1, ?_, ?_, q_M_s, q_Iv_sc (q_Iv_tr (F := F) hI (by omega) (by omega)) ⟨fun a ha => ?_, fun k k1 k2 k3 k4 => ?_, ?_⟩⟩
  · simp (disch := first | rfl | assumption | decide | omega | (unfold q_R; omega)) only [en723, e723_0, e723_1, e723_2, e723_5, e723_8, e723_11, e723_12, e723_15, e723_18, e723_19, e723_22, e723_23, e723_26, e723_36, e723_37, e723_40, e723_43, e723_44, e723_45, e723_46, e723_47, e723_48, e723_50, e723_52, e723_55, e723_56, e723_57, e723_60, e723_63, e723_66, e723_67, e723_70, e723_71, e723_74, e723_75, e723_78, e723_79, e723_80, e723_83, e723_84, e723_87, e723_88, e723_91, e723_92, e723_93, e723_94, e723_95, e723_98, e723_99, e723_102, e723_103, e723_104, e723_105, e723_106, e723_109, e723_113, e723_116, e723_117, e723_120, e723_121, e723_124, e723_125, e723_128, e723_129, e723_132, e723_133, e723_136, e723_139, e723_149, e723_150, e723_153, e723_156, e723_157, ↓q_nv0, ↓q_nv1, ↓q_nv2, ↓q_nv3, ↓q_nv4, ↓q_nv5, ↓q_nv6, ↓q_nv7, ↓q_nv8, ↓q_nv9, ↓q_nv10, ↓q_nv11, ↓q_nv12, ↓q_nv13, ↓q_nv14, ↓q_nv15, ↓q_nv16, ↓q_nv17, ↓q_nv18, ↓q_nv19, ↓q_nv20, ↓q_nv21, ↓q_nv22, ↓q_gi0, ↓q_gi1, ↓q_gi2, ↓q_gi3, ↓q_gi4, ↓q_gi5, ↓q_gi6, ↓q_gi7, ↓q_gi8, ↓q_gi9, ↓q_gr0, ↓q_gr1, ↓q_gr2, ↓q_gr3, ↓q_gr4, ↓q_gr5, ↓q_gr6, ↓q_gr7, ↓q_gr8, ↓q_gr9, ↓q_ls0, ↓q_ls1i, ↓q_ls1r, ↓q_ls1n, ↓q_ls2i, ↓q_ls2r, ↓q_ls2n, ↓q_ls3i, ↓q_ls3r, ↓q_ls3n, ↓q_ls4i, ↓q_ls4r, ↓q_ls4n, ↓q_ls5i, ↓q_ls5r, ↓q_ls5n, ↓q_ls6i, ↓q_ls6r, ↓q_ls6n, ↓q_ls7i, ↓q_ls7r, ↓q_ls7n, ↓q_ls8i, ↓q_ls8r, ↓q_ls8n, ↓q_ls9i, ↓q_ls9r, ↓q_ls9n, q_nd0, q_nd1i, q_nd1r, q_nd1n, q_nd2i, q_nd2r, q_nd2n, q_nd3i, q_nd3r, q_nd3n, q_nd4i, q_nd4r, q_nd4n, q_nd5i, q_nd5r, q_nd5n, q_nd6i, q_nd6r, q_nd6n, q_nd7i, q_nd7r, q_nd7n, q_nd8i, q_nd8r, q_nd8n, q_nd9i, q_nd9r, q_nd9n, q_st0, q_st1, q_st2, q_st3, q_st4, q_st5, q_st6, q_st7, q_st8, q_st9, q_cat_i, q_cat_r, q_cat_n, q_wt0, q_wt1, q_tl0, q_tl1, ↓q_cl1, q_add, q_sub, q_mul, q_nari, q_narb0, q_narb1, q_fiti, q_fitb0, q_fitb1, List.cons_append, List.nil_append, Nat.reduceAdd, Nat.reduceLeDiff, and_self, and_true, true_and, ↓reduceIte, ↓rc0, ↓gf0_0, ↓gf0_1, ↓gf0_2, ↓gf0_3, ↓gf0_4, ↓gf0_5, ↓gf0_6, ↓gf0_7, ↓pf0_7, ft0_7, ↓rc1, ↓gf1_0, ↓pf1_0, ft1_0, ↓gf1_1, ↓pf1_1, ft1_1, ↓gf1_2, ↓gf1_3, ↓gf1_4, ↓gf1_5, ↓gf1_6, ↓gf1_7, ↓gf1_8, ↓gf1_9, ↓gf1_10, ↓gf1_11, ↓gf1_12, ↓rc13, ↓gf13_0, ↓gf13_1, ↓gf13_2, ↓gf13_3, ↓gf13_4, ↓gf13_5, ↓gf13_6, ↓pf13_6, ft13_6, ↓gf13_7, ↓pf13_7, ft13_7, ↓gf13_8, ↓pf13_8, ft13_8, ↓gf13_9, ↓pf13_9, ft13_90, ft13_91, ↓gf13_10, ↓gf13_11, ↓gf13_12, ↓pf13_12, ft13_12, ↓gf13_13, ↓pf13_13, ft13_13, ↓gf13_14, ↓pf13_14, ft13_14, ↓rc21, ↓gf21_0, ↓pf21_0, ft21_0, ↓gf21_1, ↓pf21_1, ft21_1, ↓gf21_2, ↓pf21_2, ft21_2, ↓gf21_3, ↓pf21_3, ft21_3, ↓rc22, ↓gf22_0, ↓gf22_1, ↓gf22_2, ↓rc23, ↓gf23_0, ↓gf23_1, ↓gf23_2, ↓gf23_3, ↓pf23_3, ft23_3, ↓gf23_4, ↓pf23_4, ft23_4, ↓gf23_5, ↓pf23_5, ft23_50, ft23_51, ↓rc145, ↓gf145_0, ↓gf145_1, ↓pf145_1, ft145_1, ↓rc147, ↓gf147_0, ↓gf147_1, ↓pf147_1, ft147_1, ↓rc149, ↓gf149_0, ↓gf149_1, ↓gf149_2, ↓gf149_3, ↓gf149_4, ↓pf149_4, ft149_40, ft149_41, ↓gf149_5, ↓pf149_5, ft149_5, ↓gf149_6, ↓pf149_6, ft149_60, ft149_61, ↓gf149_7, ↓pf149_7, ft149_7, ↓gf149_8, ↓pf149_8, ft149_8, ↓gf149_9, ↓pf149_9, ft149_9, ↓gf149_10, ↓pf149_10, ft149_10, ↓gf149_11, ↓gf149_12, ↓pf149_12, ft149_12, ↓gf149_13, ↓pf149_13, ft149_13, ↓gf149_14, ↓gf149_15, ↓pf149_15, ft149_15, ↓gf149_16, ↓gf149_17, ↓gf149_18, ↓gf149_19, ↓pf149_19, ft149_19, ↓gf149_20, ↓pf149_20, ft149_20, ↓gf149_21, ↓gf149_22, ↓pf149_22, ft149_22, q_M_s, q_M_k, q_M_a, q_P_s, q_P_a, q_toN, q_i00, q_i10, q_j00, q_j10, e205, ft0_7, q_lt0, show ¬ F < 0 by omega, not_true_eq_false, not_false_eq_true, if_true, if_false, ft145_1, show (q_H (q_M (q_M m 0 7 F) 145 1 0) K s).2.1 ≤ (q_H (q_M (q_M m 0 7 F) 145 1 0) K s).2.2.1 from hK, q_thr]
  · simp (disch := first | rfl | assumption | decide | omega | (unfold q_R; omega)) only [en866, e866_0, e866_1, e866_4, e866_5, e866_6, e866_7, e866_10, e866_11, e866_14, e866_15, e866_18, e866_21, e866_22, e866_23, e866_26, e866_27, e866_28, e866_31, e866_32, e866_35, e866_36, e866_39, e866_42, e866_43, e866_44, e866_45, e866_48, e866_49, e866_50, e866_53, e866_54, e866_57, e866_58, e866_59, e866_62, e866_63, e866_64, e866_65, e866_67, e866_68, e866_71, e866_74, e866_75, e866_78, e866_81, e866_82, e866_83, e866_84, e866_85, e866_88, e866_89, e866_92, e866_96, e866_97, e866_100, e866_101, e866_104, e866_107, e866_108, e866_111, e866_112, e866_113, e866_116, e866_117, e866_120, e866_121, e866_122, e866_123, e866_124, e866_127, e866_128, e866_129, e866_132, e866_133, e866_136, e866_137, e866_140, e866_141, e866_142, e866_143, e866_144, e866_147, e866_150, e866_151, e866_154, ↓q_nv0, ↓q_nv1, ↓q_nv2, ↓q_nv3, ↓q_nv4, ↓q_nv5, ↓q_nv6, ↓q_nv7, ↓q_nv8, ↓q_nv9, ↓q_nv10, ↓q_nv11, ↓q_nv12, ↓q_nv13, ↓q_nv14, ↓q_nv15, ↓q_nv16, ↓q_nv17, ↓q_nv18, ↓q_nv19, ↓q_nv20, ↓q_nv21, ↓q_nv22, ↓q_gi0, ↓q_gi1, ↓q_gi2, ↓q_gi3, ↓q_gi4, ↓q_gi5, ↓q_gi6, ↓q_gi7, ↓q_gi8, ↓q_gi9, ↓q_gr0, ↓q_gr1, ↓q_gr2, ↓q_gr3, ↓q_gr4, ↓q_gr5, ↓q_gr6, ↓q_gr7, ↓q_gr8, ↓q_gr9, ↓q_ls0, ↓q_ls1i, ↓q_ls1r, ↓q_ls1n, ↓q_ls2i, ↓q_ls2r, ↓q_ls2n, ↓q_ls3i, ↓q_ls3r, ↓q_ls3n, ↓q_ls4i, ↓q_ls4r, ↓q_ls4n, ↓q_ls5i, ↓q_ls5r, ↓q_ls5n, ↓q_ls6i, ↓q_ls6r, ↓q_ls6n, ↓q_ls7i, ↓q_ls7r, ↓q_ls7n, ↓q_ls8i, ↓q_ls8r, ↓q_ls8n, ↓q_ls9i, ↓q_ls9r, ↓q_ls9n, q_nd0, q_nd1i, q_nd1r, q_nd1n, q_nd2i, q_nd2r, q_nd2n, q_nd3i, q_nd3r, q_nd3n, q_nd4i, q_nd4r, q_nd4n, q_nd5i, q_nd5r, q_nd5n, q_nd6i, q_nd6r, q_nd6n, q_nd7i, q_nd7r, q_nd7n, q_nd8i, q_nd8r, q_nd8n, q_nd9i, q_nd9r, q_nd9n, q_st0, q_st1, q_st2, q_st3, q_st4, q_st5, q_st6, q_st7, q_st8, q_st9, q_cat_i, q_cat_r, q_cat_n, q_wt0, q_wt1, q_tl0, q_tl1, ↓q_cl1, q_add, q_sub, q_mul, q_nari, q_narb0, q_narb1, q_fiti, q_fitb0, q_fitb1, List.cons_append, List.nil_append, Nat.reduceAdd, Nat.reduceLeDiff, and_self, and_true, true_and, ↓reduceIte, ↓rc0, ↓gf0_0, ↓gf0_1, ↓gf0_2, ↓gf0_3, ↓gf0_4, ↓gf0_5, ↓gf0_6, ↓gf0_7, ↓pf0_7, ft0_7, ↓rc1, ↓gf1_0, ↓pf1_0, ft1_0, ↓gf1_1, ↓pf1_1, ft1_1, ↓gf1_2, ↓gf1_3, ↓gf1_4, ↓gf1_5, ↓gf1_6, ↓gf1_7, ↓gf1_8, ↓gf1_9, ↓gf1_10, ↓gf1_11, ↓gf1_12, ↓rc13, ↓gf13_0, ↓gf13_1, ↓gf13_2, ↓gf13_3, ↓gf13_4, ↓gf13_5, ↓gf13_6, ↓pf13_6, ft13_6, ↓gf13_7, ↓pf13_7, ft13_7, ↓gf13_8, ↓pf13_8, ft13_8, ↓gf13_9, ↓pf13_9, ft13_90, ft13_91, ↓gf13_10, ↓gf13_11, ↓gf13_12, ↓pf13_12, ft13_12, ↓gf13_13, ↓pf13_13, ft13_13, ↓gf13_14, ↓pf13_14, ft13_14, ↓rc21, ↓gf21_0, ↓pf21_0, ft21_0, ↓gf21_1, ↓pf21_1, ft21_1, ↓gf21_2, ↓pf21_2, ft21_2, ↓gf21_3, ↓pf21_3, ft21_3, ↓rc22, ↓gf22_0, ↓gf22_1, ↓gf22_2, ↓rc23, ↓gf23_0, ↓gf23_1, ↓gf23_2, ↓gf23_3, ↓pf23_3, ft23_3, ↓gf23_4, ↓pf23_4, ft23_4, ↓gf23_5, ↓pf23_5, ft23_50, ft23_51, ↓rc145, ↓gf145_0, ↓gf145_1, ↓pf145_1, ft145_1, ↓rc147, ↓gf147_0, ↓gf147_1, ↓pf147_1, ft147_1, ↓rc149, ↓gf149_0, ↓gf149_1, ↓gf149_2, ↓gf149_3, ↓gf149_4, ↓pf149_4, ft149_40, ft149_41, ↓gf149_5, ↓pf149_5, ft149_5, ↓gf149_6, ↓pf149_6, ft149_60, ft149_61, ↓gf149_7, ↓pf149_7, ft149_7, ↓gf149_8, ↓pf149_8, ft149_8, ↓gf149_9, ↓pf149_9, ft149_9, ↓gf149_10, ↓pf149_10, ft149_10, ↓gf149_11, ↓gf149_12, ↓pf149_12, ft149_12, ↓gf149_13, ↓pf149_13, ft149_13, ↓gf149_14, ↓gf149_15, ↓pf149_15, ft149_15, ↓gf149_16, ↓gf149_17, ↓gf149_18, ↓gf149_19, ↓pf149_19, ft149_19, ↓gf149_20, ↓pf149_20, ft149_20, ↓gf149_21, ↓gf149_22, ↓pf149_22, ft149_22, q_M_s, q_M_k, q_M_a, q_P_s, q_P_a, q_toN, q_i00, q_i10, q_j00, q_j10, e864, a20, ft149_13, ft149_12, e02, not_true_eq_false, not_false_eq_true, if_true, if_false]
  · rw [q_M_a (by omega), q_M_a (by omega), q_M_a (by omega), a1 a (by omega) (by omega)]
    by_cases e0 : a = 0
    · subst e0
      rw [q_tr_0, q_M_a (by decide)]
    · by_cases e5 : a = 145
      · subst e5
        rw [q_tr_145a]
        funext k
        by_cases h : k = 1
        · subst h
          rw [q_M_s, q_M_s]
        · rw [q_M_k h, q_M_k h, q_M_a (by decide)]
      · rw [q_tr_a e0 (by omega) e5, q_M_a e5, q_M_a e0]
  · rw [q_M_k k1]
    by_cases h12 : k = 12
    · subst h12
      rw [q_M_s, q_tr_12]
    · rw [q_M_k h12]
      by_cases h13 : k = 13
      · subst h13
        rw [q_M_s, q_tr_13]
      · rw [q_M_k h13, a2 k k3 k4, q_M_a (by decide), q_M_a (by decide), q_tr_k h12 h13]
  · rw [q_M_a (by decide), q_M_a (by decide), q_M_a (by decide), a1 153 (by decide) (by decide), q_M_a (by decide), q_M_a (by decide), q_tr_a (by decide) (by decide) (by decide)]
end M97k
