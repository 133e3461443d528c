section M46
variable {m : Nat → Nat → Int} {K : Nat × Nat} {s : List Int32}
theorem q_tn_iff {g : Nat → Int} {n c bp : Int} {W : Nat} : 0 ≤ q_tn g n c bp W ↔ ∃ w, w < W ∧ q_nr g n c bp w := by
  induction W with
  | zero => exact ⟨fun z => absurd (show (0 : Int) ≤ -1 from z) (by decide), fun ⟨v, h, _⟩ => absurd h (by omega)⟩
  | succ W ih =>
    by_cases h : q_nr g n c bp W
    · refine ⟨fun _ => ⟨W, by omega, h⟩, fun _ => ?_⟩
      by_cases h2 : q_tn g n c bp W < 0 ∨ q_net g (q_bs c W) < q_tn g n c bp W
      · rw [q_tn1 h h2]
        exact h.2.1
      · rw [q_tn2 (Or.inr h2)]
        omega
    · rw [q_tn2 (Or.inl h), ih]
      constructor
      · rintro ⟨v, h1, h2⟩
        exact ⟨v, by omega, h2⟩
      · rintro ⟨v, h1, h2⟩
        by_cases hv : v = W
        · subst hv
          exact absurd h2 h
        · exact ⟨v, by omega, h2⟩
theorem q_ns_z {g : Nat → Int} (hc : q_cells g) {n c bp bw : Int} (h0 : 0 ≤ c) (h1 : c < 96) : (q_i (q_bits (q_ns g n c bp bw 4)) = 0) = ¬ ∃ w, w < 4 ∧ q_nw g n c bp bw w := by
  apply propext
  have hb := q_bits_R (q_ns g n c bp bw 4)
  rw [q_eq0 ⟨by omega, by omega⟩, q_bits0]
  constructor
  · rintro h ⟨w, hw, hn⟩
    have hb := q_bs_lt h0 h1 w
    have h2 := q_net_lt hc hn.1 hb.2
    have h3 := h (q_net g (q_bs c w)).toNat (by omega)
    rw [Bool.eq_false_iff] at h3
    exact h3 (q_ns_iff.mpr ⟨w, hw, hn, rfl⟩)
  · intro h k hk
    rw [Bool.eq_false_iff]
    intro h2
    obtain ⟨v, h3, h4, h5⟩ := q_ns_iff.mp h2
    exact h ⟨v, h3, h4⟩
theorem q_nw10 {g : Nat → Int} {n c : Int} {w : Nat} : q_nw g n c 1 0 w ↔ q_nr g n c 1 w := by
  unfold q_nw q_nr
  simp
theorem q_nw01 {g : Nat → Int} {n c : Int} {W : Nat} (h : ¬ 0 ≤ q_tn g n c 1 W) : (∃ w, w < W ∧ q_nw g n c 0 1 w) ↔ 0 ≤ q_tn g n c 0 W := by
  rw [q_tn_iff] at h
  rw [q_tn_iff]
  constructor
  · rintro ⟨w, h1, h2, h3, h4, h5, h6⟩
    exact ⟨w, h1, h2, h3, h4, h5, Or.inl rfl⟩
  · rintro ⟨w, h1, h2, h3, h4, h5, h6⟩
    refine ⟨w, h1, h2, h3, h4, h5, Or.inr ⟨fun hp => h ⟨w, h1, h2, h3, h4, h5, Or.inr hp⟩, rfl⟩⟩
noncomputable def q_pr (g : Nat → Int) (n c : Int) : Int := haveI := Classical.propDecidable
  if q_is g c = 1 ∨ (0 ≤ q_net g c ∧ q_net g c ≠ n ∧ q_pin g c) ∨ 0 ≤ q_tn g n c 1 4 then -1 else if (0 ≤ q_net g c ∧ q_net g c ≠ n) ∨ 0 ≤ q_tn g n c 0 4 then 8 else 0
theorem q_pr_3 (g : Nat → Int) (n c : Int) : q_pr g n c = 0 ∨ q_pr g n c = 8 ∨ q_pr g n c = -1 := by
  unfold q_pr
  split
  · exact Or.inr (Or.inr rfl)
  · split
    · exact Or.inr (Or.inl rfl)
    · exact Or.inl rfl
theorem q_is_R {g : Nat → Int} (h : q_W g) (c : Int) : q_R (q_is g c) := q_W_R h _
theorem m819 {n c : Int} (hW : q_W (m 150)) (hn0 : 0 ≤ n) (hn : n < 6) (h0 : 0 ≤ c) (h1 : c < 96) : x_m 819 [.ref 149, .int (q_i n), .int (q_i c)] (q_H m K s) = some (.inl (some (.int (q_i (q_pr (m 150) n c)))), (q_H m K s)) := by
  have hg := q_W_R hW
  have hc := q_W_cells hW
  have hi := q_is_R hW c
  have hnt := q_net_lt hc h0 h1
  have e1 := m818 (m := m) (K := K) (s := s) (bp := 1) hn0 hn h0 h1 (Or.inr rfl) hg hc
  have e0 := m818 (m := m) (K := K) (s := s) (bp := 0) hn0 hn h0 h1 (Or.inl rfl) hg hc
  have t1 := q_tn_lt hc (n := n) (bp := 1) h0 h1 4
  have t0 := q_tn_lt hc (n := n) (bp := 0) h0 h1 4
  simp (disch := first | rfl | assumption | decide | omega | (unfold q_R; omega)) only [en819, e819_0, e819_1, e819_2, e819_5, e819_6, e819_7, e819_8, e819_11, e819_12, e819_15, e819_16, e819_19, e819_20, e819_21, e819_24, e819_25, e819_26, e819_29, e819_32, e819_33, e819_34, e819_35, e819_36, e819_39, e819_42, e819_43, e819_44, e819_45, e819_48, e819_49, e819_50, e819_53, e819_54, e819_55, e819_56, e819_57, e819_60, e819_63, e819_65, e819_68, e819_69, ↓q_nv0, ↓q_nv1, ↓q_nv2, ↓q_nv3, ↓q_nv4, ↓q_nv5, ↓q_nv6, ↓q_nv7, ↓q_nv8, ↓q_nv9, ↓q_nv10, ↓q_nv11, ↓q_nv12, ↓q_nv13, ↓q_nv14, ↓q_nv15, ↓q_nv16, ↓q_nv17, ↓q_nv18, ↓q_nv19, ↓q_nv20, ↓q_nv21, ↓q_nv22, ↓q_gi0, ↓q_gi1, ↓q_gi2, ↓q_gi3, ↓q_gi4, ↓q_gi5, ↓q_gi6, ↓q_gi7, ↓q_gi8, ↓q_gi9, ↓q_gr0, ↓q_gr1, ↓q_gr2, ↓q_gr3, ↓q_gr4, ↓q_gr5, ↓q_gr6, ↓q_gr7, ↓q_gr8, ↓q_gr9, ↓q_ls0, ↓q_ls1i, ↓q_ls1r, ↓q_ls1n, ↓q_ls2i, ↓q_ls2r, ↓q_ls2n, ↓q_ls3i, ↓q_ls3r, ↓q_ls3n, ↓q_ls4i, ↓q_ls4r, ↓q_ls4n, ↓q_ls5i, ↓q_ls5r, ↓q_ls5n, ↓q_ls6i, ↓q_ls6r, ↓q_ls6n, ↓q_ls7i, ↓q_ls7r, ↓q_ls7n, ↓q_ls8i, ↓q_ls8r, ↓q_ls8n, ↓q_ls9i, ↓q_ls9r, ↓q_ls9n, q_nd0, q_nd1i, q_nd1r, q_nd1n, q_nd2i, q_nd2r, q_nd2n, q_nd3i, q_nd3r, q_nd3n, q_nd4i, q_nd4r, q_nd4n, q_nd5i, q_nd5r, q_nd5n, q_nd6i, q_nd6r, q_nd6n, q_nd7i, q_nd7r, q_nd7n, q_nd8i, q_nd8r, q_nd8n, q_nd9i, q_nd9r, q_nd9n, q_st0, q_st1, q_st2, q_st3, q_st4, q_st5, q_st6, q_st7, q_st8, q_st9, q_cat_i, q_cat_r, q_cat_n, q_wt0, q_wt1, q_tl0, q_tl1, ↓q_cl1, q_add, q_sub, q_mul, q_nari, q_narb0, q_narb1, q_fiti, q_fitb0, q_fitb1, List.cons_append, List.nil_append, Nat.reduceAdd, Nat.reduceLeDiff, and_self, and_true, true_and, ↓reduceIte, ↓rc0, ↓gf0_0, ↓gf0_1, ↓gf0_2, ↓gf0_3, ↓gf0_4, ↓gf0_5, ↓gf0_6, ↓gf0_7, ↓pf0_7, ft0_7, ↓rc1, ↓gf1_0, ↓pf1_0, ft1_0, ↓gf1_1, ↓pf1_1, ft1_1, ↓gf1_2, ↓gf1_3, ↓gf1_4, ↓gf1_5, ↓gf1_6, ↓gf1_7, ↓gf1_8, ↓gf1_9, ↓gf1_10, ↓gf1_11, ↓gf1_12, ↓rc13, ↓gf13_0, ↓gf13_1, ↓gf13_2, ↓gf13_3, ↓gf13_4, ↓gf13_5, ↓gf13_6, ↓pf13_6, ft13_6, ↓gf13_7, ↓pf13_7, ft13_7, ↓gf13_8, ↓pf13_8, ft13_8, ↓gf13_9, ↓pf13_9, ft13_90, ft13_91, ↓gf13_10, ↓gf13_11, ↓gf13_12, ↓pf13_12, ft13_12, ↓gf13_13, ↓pf13_13, ft13_13, ↓gf13_14, ↓pf13_14, ft13_14, ↓rc21, ↓gf21_0, ↓pf21_0, ft21_0, ↓gf21_1, ↓pf21_1, ft21_1, ↓gf21_2, ↓pf21_2, ft21_2, ↓gf21_3, ↓pf21_3, ft21_3, ↓rc22, ↓gf22_0, ↓gf22_1, ↓gf22_2, ↓rc23, ↓gf23_0, ↓gf23_1, ↓gf23_2, ↓gf23_3, ↓pf23_3, ft23_3, ↓gf23_4, ↓pf23_4, ft23_4, ↓gf23_5, ↓pf23_5, ft23_50, ft23_51, ↓rc145, ↓gf145_0, ↓gf145_1, ↓pf145_1, ft145_1, ↓rc147, ↓gf147_0, ↓gf147_1, ↓pf147_1, ft147_1, ↓rc149, ↓gf149_0, ↓gf149_1, ↓gf149_2, ↓gf149_3, ↓gf149_4, ↓pf149_4, ft149_40, ft149_41, ↓gf149_5, ↓pf149_5, ft149_5, ↓gf149_6, ↓pf149_6, ft149_60, ft149_61, ↓gf149_7, ↓pf149_7, ft149_7, ↓gf149_8, ↓pf149_8, ft149_8, ↓gf149_9, ↓pf149_9, ft149_9, ↓gf149_10, ↓pf149_10, ft149_10, ↓gf149_11, ↓gf149_12, ↓pf149_12, ft149_12, ↓gf149_13, ↓pf149_13, ft149_13, ↓gf149_14, ↓gf149_15, ↓pf149_15, ft149_15, ↓gf149_16, ↓gf149_17, ↓gf149_18, ↓gf149_19, ↓pf149_19, ft149_19, ↓gf149_20, ↓pf149_20, ft149_20, ↓gf149_21, ↓gf149_22, ↓pf149_22, ft149_22, m814H, m813H, m815H, e1, e0, q_eq, q_lt0, q_bz]
  unfold q_pr
  by_cases x1 : q_is (m 150) c = 1 <;> by_cases x2 : q_net (m 150) c < 0 <;> by_cases x3 : q_net (m 150) c = n <;> by_cases x4 : q_pin (m 150) c <;> by_cases x5 : q_tn (m 150) n c 1 4 < 0 <;> by_cases x6 : q_tn (m 150) n c 0 4 < 0 <;>
    simp only [q_bz, ite_self, x1, x2, x3, x4, x5, x6, if_true, if_false, not_true_eq_false, not_false_eq_true, show (0 ≤ q_net (m 150) c) = ¬ (q_net (m 150) c < 0) from propext (by omega), show (0 ≤ q_tn (m 150) n c 1 4) = ¬ (q_tn (m 150) n c 1 4 < 0) from propext (by omega), show (0 ≤ q_tn (m 150) n c 0 4) = ¬ (q_tn (m 150) n c 0 4 < 0) from propext (by omega), true_or, or_true, false_or, or_false, and_true, true_and, and_false, false_and, ne_eq, or_self, and_self]
theorem m6 {g : Nat → Int} {n c : Int} (hB : q_Bd m 1 g) (hW : q_W g) (hn0 : 0 ≤ n) (hn : n < 6) (h0 : 0 ≤ c) (h1 : c < 96) : x_m 6 [.ref 1, .int (q_i n), .int (q_i c)] (q_H m K s) = some (.inl (some (.int (q_i (q_pr g n c)))), (q_H m K s)) := by
  have hg := q_W_R hW
  have hc := q_W_cells hW
  have hh := q_hl_ge hc h0 h1
  have eh : m 10 c.toNat = q_hl g c := q_Bd_held hB h0 h1
  have ep : m 11 (c % 48).toNat = q_b (q_pin g c) := q_Bd_pin hB h0 h1
  have r48 := q_rem h0 (show q_R c by unfold q_R; omega) (b := 48) (by omega) (by unfold q_R; omega)
  have z48 : ¬ q_i 48 = 0 := by decide
  have e1 := m4 (K := K) (s := s) (bp := 1) (bw := 0) hB hW hn0 hn h0 h1 (Or.inr rfl) (Or.inl rfl)
  have e0 := m4 (K := K) (s := s) (bp := 0) (bw := 1) hB hW hn0 hn h0 h1 (Or.inl rfl) (Or.inr rfl)
  have b1 := q_bits_R (q_ns g n c 1 0 4)
  have b0 := q_bits_R (q_ns g n c 0 1 4)
  have z1 : (q_i (q_bits (q_ns g n c 1 0 4)) = 0) = ¬ 0 ≤ q_tn g n c 1 4 := by
    rw [q_ns_z hc h0 h1, q_tn_iff]
    simp only [q_nw10]
  have z0 := q_ns_z hc (n := n) (bp := 0) (bw := 1) h0 h1
  have t1 := q_tn_lt hc (n := n) (bp := 1) h0 h1 4
  have t0 := q_tn_lt hc (n := n) (bp := 0) h0 h1 4
  by_cases hl : q_hl g c < 0
  · have hnn : q_net g c < 0 := by omega
    have hi1 : (q_hl g c = -2) = (q_is g c = 1) := by
      apply propext
      unfold q_hl at hl ⊢
      split at hl
      · rename_i h
        rw [if_pos h]
        omega
      · split at hl
        · rename_i h2
          rw [if_pos h2]
          omega
        · rename_i h2
          have := hc c.toNat (by omega)
          have e : q_is g c = g (55 + c.toNat) := congrArg g (by omega)
          omega
    simp (disch := first | rfl | assumption | decide | omega | (unfold q_R; omega)) only [en6, e6_0, e6_1, e6_4, e6_5, e6_6, e6_7, e6_8, e6_11, e6_12, e6_13, e6_16, e6_17, e6_20, e6_21, e6_23, e6_25, e6_28, e6_29, e6_32, e6_33, e6_35, e6_36, e6_37, e6_40, e6_41, e6_44, e6_45, e6_47, e6_48, e6_50, e6_53, e6_55, e6_58, e6_59, e6_60, e6_61, e6_62, e6_63, e6_66, e6_69, e6_70, e6_71, e6_73, e6_76, e6_77, e6_78, e6_79, e6_80, e6_81, e6_84, e6_87, e6_89, e6_92, e6_93, ↓q_nv0, ↓q_nv1, ↓q_nv2, ↓q_nv3, ↓q_nv4, ↓q_nv5, ↓q_nv6, ↓q_nv7, ↓q_nv8, ↓q_nv9, ↓q_nv10, ↓q_nv11, ↓q_nv12, ↓q_nv13, ↓q_nv14, ↓q_nv15, ↓q_nv16, ↓q_nv17, ↓q_nv18, ↓q_nv19, ↓q_nv20, ↓q_nv21, ↓q_nv22, ↓q_gi0, ↓q_gi1, ↓q_gi2, ↓q_gi3, ↓q_gi4, ↓q_gi5, ↓q_gi6, ↓q_gi7, ↓q_gi8, ↓q_gi9, ↓q_gr0, ↓q_gr1, ↓q_gr2, ↓q_gr3, ↓q_gr4, ↓q_gr5, ↓q_gr6, ↓q_gr7, ↓q_gr8, ↓q_gr9, ↓q_ls0, ↓q_ls1i, ↓q_ls1r, ↓q_ls1n, ↓q_ls2i, ↓q_ls2r, ↓q_ls2n, ↓q_ls3i, ↓q_ls3r, ↓q_ls3n, ↓q_ls4i, ↓q_ls4r, ↓q_ls4n, ↓q_ls5i, ↓q_ls5r, ↓q_ls5n, ↓q_ls6i, ↓q_ls6r, ↓q_ls6n, ↓q_ls7i, ↓q_ls7r, ↓q_ls7n, ↓q_ls8i, ↓q_ls8r, ↓q_ls8n, ↓q_ls9i, ↓q_ls9r, ↓q_ls9n, q_nd0, q_nd1i, q_nd1r, q_nd1n, q_nd2i, q_nd2r, q_nd2n, q_nd3i, q_nd3r, q_nd3n, q_nd4i, q_nd4r, q_nd4n, q_nd5i, q_nd5r, q_nd5n, q_nd6i, q_nd6r, q_nd6n, q_nd7i, q_nd7r, q_nd7n, q_nd8i, q_nd8r, q_nd8n, q_nd9i, q_nd9r, q_nd9n, q_st0, q_st1, q_st2, q_st3, q_st4, q_st5, q_st6, q_st7, q_st8, q_st9, q_cat_i, q_cat_r, q_cat_n, q_wt0, q_wt1, q_tl0, q_tl1, ↓q_cl1, q_add, q_sub, q_mul, q_nari, q_narb0, q_narb1, q_fiti, q_fitb0, q_fitb1, List.cons_append, List.nil_append, Nat.reduceAdd, Nat.reduceLeDiff, and_self, and_true, true_and, ↓reduceIte, ↓rc0, ↓gf0_0, ↓gf0_1, ↓gf0_2, ↓gf0_3, ↓gf0_4, ↓gf0_5, ↓gf0_6, ↓gf0_7, ↓pf0_7, ft0_7, ↓rc1, ↓gf1_0, ↓pf1_0, ft1_0, ↓gf1_1, ↓pf1_1, ft1_1, ↓gf1_2, ↓gf1_3, ↓gf1_4, ↓gf1_5, ↓gf1_6, ↓gf1_7, ↓gf1_8, ↓gf1_9, ↓gf1_10, ↓gf1_11, ↓gf1_12, ↓rc13, ↓gf13_0, ↓gf13_1, ↓gf13_2, ↓gf13_3, ↓gf13_4, ↓gf13_5, ↓gf13_6, ↓pf13_6, ft13_6, ↓gf13_7, ↓pf13_7, ft13_7, ↓gf13_8, ↓pf13_8, ft13_8, ↓gf13_9, ↓pf13_9, ft13_90, ft13_91, ↓gf13_10, ↓gf13_11, ↓gf13_12, ↓pf13_12, ft13_12, ↓gf13_13, ↓pf13_13, ft13_13, ↓gf13_14, ↓pf13_14, ft13_14, ↓rc21, ↓gf21_0, ↓pf21_0, ft21_0, ↓gf21_1, ↓pf21_1, ft21_1, ↓gf21_2, ↓pf21_2, ft21_2, ↓gf21_3, ↓pf21_3, ft21_3, ↓rc22, ↓gf22_0, ↓gf22_1, ↓gf22_2, ↓rc23, ↓gf23_0, ↓gf23_1, ↓gf23_2, ↓gf23_3, ↓pf23_3, ft23_3, ↓gf23_4, ↓pf23_4, ft23_4, ↓gf23_5, ↓pf23_5, ft23_50, ft23_51, ↓rc145, ↓gf145_0, ↓gf145_1, ↓pf145_1, ft145_1, ↓rc147, ↓gf147_0, ↓gf147_1, ↓pf147_1, ft147_1, ↓rc149, ↓gf149_0, ↓gf149_1, ↓gf149_2, ↓gf149_3, ↓gf149_4, ↓pf149_4, ft149_40, ft149_41, ↓gf149_5, ↓pf149_5, ft149_5, ↓gf149_6, ↓pf149_6, ft149_60, ft149_61, ↓gf149_7, ↓pf149_7, ft149_7, ↓gf149_8, ↓pf149_8, ft149_8, ↓gf149_9, ↓pf149_9, ft149_9, ↓gf149_10, ↓pf149_10, ft149_10, ↓gf149_11, ↓gf149_12, ↓pf149_12, ft149_12, ↓gf149_13, ↓pf149_13, ft149_13, ↓gf149_14, ↓gf149_15, ↓pf149_15, ft149_15, ↓gf149_16, ↓gf149_17, ↓gf149_18, ↓gf149_19, ↓pf149_19, ft149_19, ↓gf149_20, ↓pf149_20, ft149_20, ↓gf149_21, ↓gf149_22, ↓pf149_22, ft149_22, ↓ra2, ↓wa2, ↓ln2, ↓ra3, ↓wa3, ↓ln3, ↓ra4, ↓wa4, ↓ln4, ↓ra5, ↓wa5, ↓ln5, ↓ra6, ↓wa6, ↓ln6, ↓ra7, ↓wa7, ↓ln7, ↓ra8, ↓wa8, ↓ln8, ↓ra9, ↓wa9, ↓ln9, ↓ra10, ↓wa10, ↓ln10, ↓ra11, ↓wa11, ↓ln11, ↓ra12, ↓wa12, ↓ln12, ↓ra14, ↓wa14, ↓ln14, ↓ra15, ↓wa15, ↓ln15, ↓ra16, ↓wa16, ↓ln16, ↓ra17, ↓wa17, ↓ln17, ↓ra18, ↓wa18, ↓ln18, ↓ra19, ↓wa19, ↓ln19, ↓ra20, ↓wa20, ↓ln20, ↓ra146, ↓wa146, ↓ln146, ↓ra148, ↓wa148, ↓ln148, ↓ra150, ↓wa150, ↓ln150, ↓ra151, ↓wa151, ↓ln151, ↓ra152, ↓wa152, ↓ln152, ↓ra153, ↓wa153, ↓ln153, ↓ra154, ↓wa154, ↓ln154, ↓ra155, ↓wa155, ↓ln155, ↓ra156, ↓wa156, ↓ln156, ↓ra157, ↓wa157, ↓ln157, ↓ra158, ↓wa158, ↓ln158, ↓ra159, ↓wa159, ↓ln159, eh, ep, r48, z48, e1, e0, q_lt0, hl, q_eq, hi1, q_eq0, z1, z0, if_true, if_false]
    unfold q_pr
    by_cases x1 : q_is g c = 1
    · simp only [x1, true_or, if_true]
    · by_cases x5 : 0 ≤ q_tn g n c 1 4
      · simp only [q_bz, z0, z1, ite_self, x1, x5, or_true, if_true, if_false, not_true_eq_false]
      · have hw := q_nw01 x5
        by_cases x6 : 0 ≤ q_tn g n c 0 4
        · simp only [q_bz, z0, z1, ite_self, x1, x5, x6, hw, hnn, show ¬ 0 ≤ q_net g c by omega, false_and, or_false, false_or, if_true, if_false, not_true_eq_false, not_false_eq_true]
        · simp only [q_bz, z0, z1, ite_self, x1, x5, x6, hw, hnn, show ¬ 0 ≤ q_net g c by omega, false_and, or_false, if_true, if_false, not_true_eq_false, not_false_eq_true]
  · have hoe := q_hl_net (g := g) (c := c) (by omega)
    rw [hoe] at eh hl hh
    have x1 : ¬ q_is g c = 1 := by
      intro x1
      unfold q_net at hl
      rw [if_pos (by omega)] at hl
      omega
    have hn2 : ¬ q_net g c = -2 := by omega
    simp (disch := first | rfl | assumption | decide | omega | (unfold q_R; omega)) only [en6, e6_0, e6_1, e6_4, e6_5, e6_6, e6_7, e6_8, e6_11, e6_12, e6_13, e6_16, e6_17, e6_20, e6_21, e6_23, e6_25, e6_28, e6_29, e6_32, e6_33, e6_35, e6_36, e6_37, e6_40, e6_41, e6_44, e6_45, e6_47, e6_48, e6_50, e6_53, e6_55, e6_58, e6_59, e6_60, e6_61, e6_62, e6_63, e6_66, e6_69, e6_70, e6_71, e6_73, e6_76, e6_77, e6_78, e6_79, e6_80, e6_81, e6_84, e6_87, e6_89, e6_92, e6_93, ↓q_nv0, ↓q_nv1, ↓q_nv2, ↓q_nv3, ↓q_nv4, ↓q_nv5, ↓q_nv6, ↓q_nv7, ↓q_nv8, ↓q_nv9, ↓q_nv10, ↓q_nv11, ↓q_nv12, ↓q_nv13, ↓q_nv14, ↓q_nv15, ↓q_nv16, ↓q_nv17, ↓q_nv18, ↓q_nv19, ↓q_nv20, ↓q_nv21, ↓q_nv22, ↓q_gi0, ↓q_gi1, ↓q_gi2, ↓q_gi3, ↓q_gi4, ↓q_gi5, ↓q_gi6, ↓q_gi7, ↓q_gi8, ↓q_gi9, ↓q_gr0, ↓q_gr1, ↓q_gr2, ↓q_gr3, ↓q_gr4, ↓q_gr5, ↓q_gr6, ↓q_gr7, ↓q_gr8, ↓q_gr9, ↓q_ls0, ↓q_ls1i, ↓q_ls1r, ↓q_ls1n, ↓q_ls2i, ↓q_ls2r, ↓q_ls2n, ↓q_ls3i, ↓q_ls3r, ↓q_ls3n, ↓q_ls4i, ↓q_ls4r, ↓q_ls4n, ↓q_ls5i, ↓q_ls5r, ↓q_ls5n, ↓q_ls6i, ↓q_ls6r, ↓q_ls6n, ↓q_ls7i, ↓q_ls7r, ↓q_ls7n, ↓q_ls8i, ↓q_ls8r, ↓q_ls8n, ↓q_ls9i, ↓q_ls9r, ↓q_ls9n, q_nd0, q_nd1i, q_nd1r, q_nd1n, q_nd2i, q_nd2r, q_nd2n, q_nd3i, q_nd3r, q_nd3n, q_nd4i, q_nd4r, q_nd4n, q_nd5i, q_nd5r, q_nd5n, q_nd6i, q_nd6r, q_nd6n, q_nd7i, q_nd7r, q_nd7n, q_nd8i, q_nd8r, q_nd8n, q_nd9i, q_nd9r, q_nd9n, q_st0, q_st1, q_st2, q_st3, q_st4, q_st5, q_st6, q_st7, q_st8, q_st9, q_cat_i, q_cat_r, q_cat_n, q_wt0, q_wt1, q_tl0, q_tl1, ↓q_cl1, q_add, q_sub, q_mul, q_nari, q_narb0, q_narb1, q_fiti, q_fitb0, q_fitb1, List.cons_append, List.nil_append, Nat.reduceAdd, Nat.reduceLeDiff, and_self, and_true, true_and, ↓reduceIte, ↓rc0, ↓gf0_0, ↓gf0_1, ↓gf0_2, ↓gf0_3, ↓gf0_4, ↓gf0_5, ↓gf0_6, ↓gf0_7, ↓pf0_7, ft0_7, ↓rc1, ↓gf1_0, ↓pf1_0, ft1_0, ↓gf1_1, ↓pf1_1, ft1_1, ↓gf1_2, ↓gf1_3, ↓gf1_4, ↓gf1_5, ↓gf1_6, ↓gf1_7, ↓gf1_8, ↓gf1_9, ↓gf1_10, ↓gf1_11, ↓gf1_12, ↓rc13, ↓gf13_0, ↓gf13_1, ↓gf13_2, ↓gf13_3, ↓gf13_4, ↓gf13_5, ↓gf13_6, ↓pf13_6, ft13_6, ↓gf13_7, ↓pf13_7, ft13_7, ↓gf13_8, ↓pf13_8, ft13_8, ↓gf13_9, ↓pf13_9, ft13_90, ft13_91, ↓gf13_10, ↓gf13_11, ↓gf13_12, ↓pf13_12, ft13_12, ↓gf13_13, ↓pf13_13, ft13_13, ↓gf13_14, ↓pf13_14, ft13_14, ↓rc21, ↓gf21_0, ↓pf21_0, ft21_0, ↓gf21_1, ↓pf21_1, ft21_1, ↓gf21_2, ↓pf21_2, ft21_2, ↓gf21_3, ↓pf21_3, ft21_3, ↓rc22, ↓gf22_0, ↓gf22_1, ↓gf22_2, ↓rc23, ↓gf23_0, ↓gf23_1, ↓gf23_2, ↓gf23_3, ↓pf23_3, ft23_3, ↓gf23_4, ↓pf23_4, ft23_4, ↓gf23_5, ↓pf23_5, ft23_50, ft23_51, ↓rc145, ↓gf145_0, ↓gf145_1, ↓pf145_1, ft145_1, ↓rc147, ↓gf147_0, ↓gf147_1, ↓pf147_1, ft147_1, ↓rc149, ↓gf149_0, ↓gf149_1, ↓gf149_2, ↓gf149_3, ↓gf149_4, ↓pf149_4, ft149_40, ft149_41, ↓gf149_5, ↓pf149_5, ft149_5, ↓gf149_6, ↓pf149_6, ft149_60, ft149_61, ↓gf149_7, ↓pf149_7, ft149_7, ↓gf149_8, ↓pf149_8, ft149_8, ↓gf149_9, ↓pf149_9, ft149_9, ↓gf149_10, ↓pf149_10, ft149_10, ↓gf149_11, ↓gf149_12, ↓pf149_12, ft149_12, ↓gf149_13, ↓pf149_13, ft149_13, ↓gf149_14, ↓gf149_15, ↓pf149_15, ft149_15, ↓gf149_16, ↓gf149_17, ↓gf149_18, ↓gf149_19, ↓pf149_19, ft149_19, ↓gf149_20, ↓pf149_20, ft149_20, ↓gf149_21, ↓gf149_22, ↓pf149_22, ft149_22, ↓ra2, ↓wa2, ↓ln2, ↓ra3, ↓wa3, ↓ln3, ↓ra4, ↓wa4, ↓ln4, ↓ra5, ↓wa5, ↓ln5, ↓ra6, ↓wa6, ↓ln6, ↓ra7, ↓wa7, ↓ln7, ↓ra8, ↓wa8, ↓ln8, ↓ra9, ↓wa9, ↓ln9, ↓ra10, ↓wa10, ↓ln10, ↓ra11, ↓wa11, ↓ln11, ↓ra12, ↓wa12, ↓ln12, ↓ra14, ↓wa14, ↓ln14, ↓ra15, ↓wa15, ↓ln15, ↓ra16, ↓wa16, ↓ln16, ↓ra17, ↓wa17, ↓ln17, ↓ra18, ↓wa18, ↓ln18, ↓ra19, ↓wa19, ↓ln19, ↓ra20, ↓wa20, ↓ln20, ↓ra146, ↓wa146, ↓ln146, ↓ra148, ↓wa148, ↓ln148, ↓ra150, ↓wa150, ↓ln150, ↓ra151, ↓wa151, ↓ln151, ↓ra152, ↓wa152, ↓ln152, ↓ra153, ↓wa153, ↓ln153, ↓ra154, ↓wa154, ↓ln154, ↓ra155, ↓wa155, ↓ln155, ↓ra156, ↓wa156, ↓ln156, ↓ra157, ↓wa157, ↓ln157, ↓ra158, ↓wa158, ↓ln158, ↓ra159, ↓wa159, ↓ln159, eh, ep, r48, z48, e1, e0, q_lt0, hl, q_eq, hn2, q_eq0, z1, z0, q_bz, if_true, if_false]
    unfold q_pr
    by_cases x3 : q_net g c = n
    · by_cases x5 : 0 ≤ q_tn g n c 1 4
      · simp only [q_bz, z0, z1, ite_self, q_i00, q_i10, q_j00, q_j10, x1, x3, x5, or_true, if_true, if_false, not_true_eq_false]
      · have hw := q_nw01 x5
        by_cases x6 : 0 ≤ q_tn g n c 0 4
        · simp only [q_bz, z0, z1, ite_self, q_i00, q_i10, q_j00, q_j10, x1, x3, x5, x6, hw, ne_eq, not_true_eq_false, false_and, and_false, or_false, false_or, if_true, if_false, not_false_eq_true]
        · simp only [q_bz, z0, z1, ite_self, q_i00, q_i10, q_j00, q_j10, x1, x3, x5, x6, hw, ne_eq, not_true_eq_false, false_and, and_false, or_false, false_or, if_true, if_false, not_false_eq_true]
    · have hq : 0 ≤ q_net g c := by omega
      by_cases x4 : q_pin g c
      · simp only [q_bz, z0, z1, ite_self, q_i00, q_i10, q_j00, q_j10, x1, x3, x4, hq, ne_eq, not_true_eq_false, not_false_eq_true, and_self, true_or, or_true, if_true, if_false]
      · by_cases x5 : 0 ≤ q_tn g n c 1 4
        · simp only [q_bz, z0, z1, ite_self, q_i00, q_i10, q_j00, q_j10, x1, x3, x4, x5, hq, ne_eq, not_true_eq_false, not_false_eq_true, and_self, true_or, or_true, if_true, if_false]
        · simp only [q_bz, z0, z1, ite_self, q_i00, q_i10, q_j00, q_j10, x1, x3, x4, x5, hq, ne_eq, not_true_eq_false, not_false_eq_true, and_self, and_false, or_false, true_or, or_true, if_true, if_false]
end M46
