section M97h
variable {m : Nat → Nat → Int} {K : Nat × Nat} {s : List Int32} {L : Nat}
/-- where the command k begins -/
def q_at (t : Nat → Int) : Nat → Nat
  | 0 => 0
  | k + 1 => q_at t k + 2 + q_fl (q_form (t (q_at t k)))
def q_cg (t : Nat → Int) (L j : Nat) : Prop := q_at t j < L ∧ q_at t (j + 1) ≤ L + 1 ∧ q_form (t (q_at t j)) ≠ 3
theorem q_fl_pos {f : Nat} (h4 : f < 4) (h3 : f ≠ 3) : 1 ≤ q_fl f := by
  unfold q_fl
  repeat' split
  all_goals omega
theorem q_mt_L {t : Nat → Int} {L p f n : Nat} (h : q_mt t L p f (n + 1) = n + 1) : p + n < L := by
  by_cases hc : q_mt t L p f n = n ∧ p + n < L ∧ q_fit (t (p + n)) (q_fc f n)
  · exact hc.2.1
  · rw [q_mt_2 hc] at h
    have := q_mt_le (t := t) (L := L) (p := p) (f := f) n
    omega
theorem q_ctold_fr {t f g : Nat → Int} {p x : Nat} (h : q_ctold t f p x) (e : ∀ i, i < 4 → g (x + i) = f (x + i)) : q_ctold t g p x := by
  unfold q_ctold at *
  have e0 := e 0 (by decide)
  rw [Nat.add_zero] at e0
  rw [e0, e 1 (by decide), e 2 (by decide), e 3 (by decide)]
  exact h
theorem l864 {t : Nat → Int} (hT : q_tt t L) (fu : Nat) : ∀ (p k : Nat) (mm : Nat → Nat → Int), L < p + fu → p ≤ L → 3 * k ≤ p → p = q_at t k → mm 149 12 = L → mm 154 = t → mm 149 20 = p → mm 149 22 = k → (∀ j, j < k → q_cg t L j ∧ q_ctold t (mm 159) (q_at t j) (4 * j)) →
    ∃ mm', x_run 864 10 [.ref 149] [] (q_H mm K s) = some (.inl (some (.int (q_i (q_b (q_flt t L fu p = -1))))), q_H mm' K s) ∧ (∀ a, a ≠ 149 → a ≠ 159 → mm' a = mm a) ∧ (∀ i, i ≠ 20 → i ≠ 22 → mm' 149 i = mm 149 i) ∧ (q_flt t L fu p ≠ -1 → mm' 149 20 = q_flt t L fu p ∧ 0 ≤ q_flt t L fu p ∧ q_flt t L fu p ≤ L) ∧ (q_flt t L fu p = -1 → ∃ N : Nat, mm' 149 22 = N ∧ 1 ≤ N ∧ N ≤ 21 ∧ q_at t N = L + 1 ∧ ∀ j, j < N → q_cg t L j ∧ q_ctold t (mm' 159) (q_at t j) (4 * j)) := by
  have h60 := hT.1
  induction fu with
  | zero =>
    intro p k mm h1 h2
    omega
  | succ fu ih =>
    intro p k mm h1 h2 h3 hp h12 h154 h20 h22 htold
    obtain ⟨m1, e, a1, a2, a3⟩ := m863 (m := mm) (K := K) (s := s) (k := k) hT (by omega) h12 h154 h20 h22 h2
    by_cases hc : q_cok t L p
    · rw [q_b1 hc] at e
      have hd := a3 hc
      have hfl4 := q_form_lt (q_hr t L p)
      have hpos := q_fl_pos hfl4 hc.1
      have hpL : p < L := by
        by_cases z : p < L
        · exact z
        · exfalso
          have := hc.1
          unfold q_hr at this
          rw [if_neg z] at this
          exact this rfl
      have hhr : q_hr t L p = t p := if_pos hpL
      have hce : q_cend t L p = p + 1 + q_fl (q_form (t p)) := by
        unfold q_cend
        rw [if_neg hc.1, hc.2, hhr]
      obtain ⟨hc1, hc2⟩ := hc
      rw [hhr] at hc1 hc2 hpos hfl4
      have heL : p + 1 + q_fl (q_form (t p)) ≤ L := by
        obtain ⟨n, hn⟩ : ∃ n, q_fl (q_form (t p)) = n + 1 := ⟨q_fl (q_form (t p)) - 1, by omega⟩
        rw [hn] at hc2 ⊢
        have := q_mt_L hc2
        omega
      have hflt : q_flt t L (fu + 1) p = if p + 1 + q_fl (q_form (t p)) = L then -1 else if t (p + 1 + q_fl (q_form (t p))) = 59 then q_flt t L fu (p + 2 + q_fl (q_form (t p))) else ((p + 1 + q_fl (q_form (t p)) : Nat) : Int) := by
        rw [q_flt, if_pos hpL, if_neg hc1, if_neg (by omega)]
      rw [hce] at a1
      have hat : q_at t (k + 1) = p + 2 + q_fl (q_form (t p)) := by rw [q_at, ← hp]
      generalize hE : p + 1 + q_fl (q_form (t p)) = E at *
      have b12 : q_M m1 149 22 (k + 1 : Nat) 149 12 = L := by rw [q_M_k (by decide), a2.2.1 12 (by decide)]; exact h12
      have b154 : q_M m1 149 22 (k + 1 : Nat) 154 = t := by rw [q_M_a (by decide), a2.1 154 (by decide) (by decide)]; exact h154
      have b20 : q_M m1 149 22 (k + 1 : Nat) 149 20 = E := by rw [q_M_k (by decide)]; exact a1
      have c22 : m1 149 22 = k := (a2.2.1 22 (by decide)).trans h22
      have hcgk : q_cg t L k := ⟨by rw [← hp]; exact hpL, by rw [hat]; omega, by rw [← hp]; exact hc1⟩
      have told1 : ∀ j, j < k + 1 → q_cg t L j ∧ q_ctold t (m1 159) (q_at t j) (4 * j) := fun j hj => by
        by_cases ej : j = k
        · subst ej
          rw [← hp]
          exact ⟨hcgk, hd⟩
        · obtain ⟨g1, g2⟩ := htold j (by omega)
          exact ⟨g1, q_ctold_fr g2 fun i hi => a2.2.2 _ (by omega)⟩
      have w22 : q_M m1 149 22 ((k : Int) + 1) = q_M m1 149 22 (k + 1 : Nat) := rfl
      by_cases hEL : E = L
      · have y := m861n (m := q_M m1 149 22 (k + 1 : Nat)) (K := K) (s := s) (c := 59) hT b12 b154 b20 (by omega) (by decide) (by decide) (by unfold q_hr; rw [if_neg (by omega)]; decide)
        rw [hflt, if_pos hEL]
        refine ⟨q_M m1 149 22 (k + 1 : Nat), ?_, fun a x1 x2 => by rw [q_M_a x1, a2.1 a x1 x2], fun i x1 x2 => by rw [q_M_k x2, a2.2.1 i x1], fun z => absurd rfl z, fun _ => ⟨k + 1, q_M_s, by omega, by omega, by rw [hat]; omega, fun j hj => ?_⟩⟩
        · rw [q_b1 rfl, e864_10]
          have b12' : m1 149 12 = L := (a2.2.1 12 (by decide)).trans h12
          simp (disch := first | rfl | assumption | decide | omega | (unfold q_R; omega)) only [en864, e864_0, e864_1, e864_2, e864_5, e864_6, e864_7, e864_11, e864_14, e864_17, e864_18, e864_19, e864_20, e864_21, e864_24, e864_25, e864_26, e864_29, e864_30, e864_32, e864_35, e864_38, e864_39, e864_42, e864_43, e864_46, e864_49, e864_50, e864_53, e864_54, ↓q_nv0, ↓q_nv1, ↓q_nv2, ↓q_nv3, ↓q_nv4, ↓q_nv5, ↓q_nv6, ↓q_nv7, ↓q_nv8, ↓q_nv9, ↓q_nv10, ↓q_nv11, ↓q_nv12, ↓q_nv13, ↓q_nv14, ↓q_nv15, ↓q_nv16, ↓q_nv17, ↓q_nv18, ↓q_nv19, ↓q_nv20, ↓q_nv21, ↓q_nv22, ↓q_gi0, ↓q_gi1, ↓q_gi2, ↓q_gi3, ↓q_gi4, ↓q_gi5, ↓q_gi6, ↓q_gi7, ↓q_gi8, ↓q_gi9, ↓q_gr0, ↓q_gr1, ↓q_gr2, ↓q_gr3, ↓q_gr4, ↓q_gr5, ↓q_gr6, ↓q_gr7, ↓q_gr8, ↓q_gr9, ↓q_ls0, ↓q_ls1i, ↓q_ls1r, ↓q_ls1n, ↓q_ls2i, ↓q_ls2r, ↓q_ls2n, ↓q_ls3i, ↓q_ls3r, ↓q_ls3n, ↓q_ls4i, ↓q_ls4r, ↓q_ls4n, ↓q_ls5i, ↓q_ls5r, ↓q_ls5n, ↓q_ls6i, ↓q_ls6r, ↓q_ls6n, ↓q_ls7i, ↓q_ls7r, ↓q_ls7n, ↓q_ls8i, ↓q_ls8r, ↓q_ls8n, ↓q_ls9i, ↓q_ls9r, ↓q_ls9n, q_nd0, q_nd1i, q_nd1r, q_nd1n, q_nd2i, q_nd2r, q_nd2n, q_nd3i, q_nd3r, q_nd3n, q_nd4i, q_nd4r, q_nd4n, q_nd5i, q_nd5r, q_nd5n, q_nd6i, q_nd6r, q_nd6n, q_nd7i, q_nd7r, q_nd7n, q_nd8i, q_nd8r, q_nd8n, q_nd9i, q_nd9r, q_nd9n, q_st0, q_st1, q_st2, q_st3, q_st4, q_st5, q_st6, q_st7, q_st8, q_st9, q_cat_i, q_cat_r, q_cat_n, q_wt0, q_wt1, q_tl0, q_tl1, ↓q_cl1, q_add, q_sub, q_mul, q_nari, q_narb0, q_narb1, q_fiti, q_fitb0, q_fitb1, List.cons_append, List.nil_append, Nat.reduceAdd, Nat.reduceLeDiff, and_self, and_true, true_and, ↓reduceIte, ↓rc0, ↓gf0_0, ↓gf0_1, ↓gf0_2, ↓gf0_3, ↓gf0_4, ↓gf0_5, ↓gf0_6, ↓gf0_7, ↓pf0_7, ft0_7, ↓rc1, ↓gf1_0, ↓pf1_0, ft1_0, ↓gf1_1, ↓pf1_1, ft1_1, ↓gf1_2, ↓gf1_3, ↓gf1_4, ↓gf1_5, ↓gf1_6, ↓gf1_7, ↓gf1_8, ↓gf1_9, ↓gf1_10, ↓gf1_11, ↓gf1_12, ↓rc13, ↓gf13_0, ↓gf13_1, ↓gf13_2, ↓gf13_3, ↓gf13_4, ↓gf13_5, ↓gf13_6, ↓pf13_6, ft13_6, ↓gf13_7, ↓pf13_7, ft13_7, ↓gf13_8, ↓pf13_8, ft13_8, ↓gf13_9, ↓pf13_9, ft13_90, ft13_91, ↓gf13_10, ↓gf13_11, ↓gf13_12, ↓pf13_12, ft13_12, ↓gf13_13, ↓pf13_13, ft13_13, ↓gf13_14, ↓pf13_14, ft13_14, ↓rc21, ↓gf21_0, ↓pf21_0, ft21_0, ↓gf21_1, ↓pf21_1, ft21_1, ↓gf21_2, ↓pf21_2, ft21_2, ↓gf21_3, ↓pf21_3, ft21_3, ↓rc22, ↓gf22_0, ↓gf22_1, ↓gf22_2, ↓rc23, ↓gf23_0, ↓gf23_1, ↓gf23_2, ↓gf23_3, ↓pf23_3, ft23_3, ↓gf23_4, ↓pf23_4, ft23_4, ↓gf23_5, ↓pf23_5, ft23_50, ft23_51, ↓rc145, ↓gf145_0, ↓gf145_1, ↓pf145_1, ft145_1, ↓rc147, ↓gf147_0, ↓gf147_1, ↓pf147_1, ft147_1, ↓rc149, ↓gf149_0, ↓gf149_1, ↓gf149_2, ↓gf149_3, ↓gf149_4, ↓pf149_4, ft149_40, ft149_41, ↓gf149_5, ↓pf149_5, ft149_5, ↓gf149_6, ↓pf149_6, ft149_60, ft149_61, ↓gf149_7, ↓pf149_7, ft149_7, ↓gf149_8, ↓pf149_8, ft149_8, ↓gf149_9, ↓pf149_9, ft149_9, ↓gf149_10, ↓pf149_10, ft149_10, ↓gf149_11, ↓gf149_12, ↓pf149_12, ft149_12, ↓gf149_13, ↓pf149_13, ft149_13, ↓gf149_14, ↓gf149_15, ↓pf149_15, ft149_15, ↓gf149_16, ↓gf149_17, ↓gf149_18, ↓gf149_19, ↓pf149_19, ft149_19, ↓gf149_20, ↓pf149_20, ft149_20, ↓gf149_21, ↓gf149_22, ↓pf149_22, ft149_22, q_M_s, q_M_k, q_M_a, q_P_s, q_P_a, q_toN, q_i00, q_i10, q_j00, q_j10, e, c22, w22, y, b12, b20, b12', a1, q_eq, show (E : Int) = (L : Int) by omega, not_true_eq_false, not_false_eq_true, if_true, if_false]
        · rw [q_M_a (by decide)]
          exact told1 j hj
      · rw [hflt, if_neg hEL]
        have hhe : q_hr t L E = t E := if_pos (by omega)
        by_cases h59 : t E = 59
        · rw [if_pos h59]
          have y := m861y (m := q_M m1 149 22 (k + 1 : Nat)) (K := K) (s := s) (c := 59) hT b12 b154 b20 (by omega) (by decide) (by decide) (by rw [hhe]; exact h59)
          obtain ⟨mm', i1, i2, i3, i4, i5⟩ := ih (p + 2 + q_fl (q_form (t p))) (k + 1) (q_M (q_M m1 149 22 (k + 1 : Nat)) 149 20 (E + 1 : Nat)) (by omega) (by omega) (by omega) hat.symm (by rw [q_M_k (by decide)]; exact b12) (by rw [q_M_a (by decide)]; exact b154) (by rw [q_M_s]; omega) (by rw [q_M_k (by decide), q_M_s]) (fun j hj => by rw [q_M_a (by decide), q_M_a (by decide)]; exact told1 j hj)
          refine ⟨mm', ?_, fun a x1 x2 => by rw [i2 a x1 x2, q_M_a x1, q_M_a x1, a2.1 a x1 x2], fun i x1 x2 => by rw [i3 i x1 x2, q_M_k x1, q_M_k x2, a2.2.1 i x1], i4, i5⟩
          rw [← i1, e864_10]
          simp (disch := first | rfl | assumption | decide | omega | (unfold q_R; omega)) only [en864, e864_0, e864_1, e864_2, e864_5, e864_6, e864_7, e864_11, e864_14, e864_17, e864_18, e864_19, e864_20, e864_21, e864_24, e864_25, e864_26, e864_29, e864_30, e864_32, e864_35, e864_38, e864_39, e864_42, e864_43, e864_46, e864_49, e864_50, e864_53, e864_54, ↓q_nv0, ↓q_nv1, ↓q_nv2, ↓q_nv3, ↓q_nv4, ↓q_nv5, ↓q_nv6, ↓q_nv7, ↓q_nv8, ↓q_nv9, ↓q_nv10, ↓q_nv11, ↓q_nv12, ↓q_nv13, ↓q_nv14, ↓q_nv15, ↓q_nv16, ↓q_nv17, ↓q_nv18, ↓q_nv19, ↓q_nv20, ↓q_nv21, ↓q_nv22, ↓q_gi0, ↓q_gi1, ↓q_gi2, ↓q_gi3, ↓q_gi4, ↓q_gi5, ↓q_gi6, ↓q_gi7, ↓q_gi8, ↓q_gi9, ↓q_gr0, ↓q_gr1, ↓q_gr2, ↓q_gr3, ↓q_gr4, ↓q_gr5, ↓q_gr6, ↓q_gr7, ↓q_gr8, ↓q_gr9, ↓q_ls0, ↓q_ls1i, ↓q_ls1r, ↓q_ls1n, ↓q_ls2i, ↓q_ls2r, ↓q_ls2n, ↓q_ls3i, ↓q_ls3r, ↓q_ls3n, ↓q_ls4i, ↓q_ls4r, ↓q_ls4n, ↓q_ls5i, ↓q_ls5r, ↓q_ls5n, ↓q_ls6i, ↓q_ls6r, ↓q_ls6n, ↓q_ls7i, ↓q_ls7r, ↓q_ls7n, ↓q_ls8i, ↓q_ls8r, ↓q_ls8n, ↓q_ls9i, ↓q_ls9r, ↓q_ls9n, q_nd0, q_nd1i, q_nd1r, q_nd1n, q_nd2i, q_nd2r, q_nd2n, q_nd3i, q_nd3r, q_nd3n, q_nd4i, q_nd4r, q_nd4n, q_nd5i, q_nd5r, q_nd5n, q_nd6i, q_nd6r, q_nd6n, q_nd7i, q_nd7r, q_nd7n, q_nd8i, q_nd8r, q_nd8n, q_nd9i, q_nd9r, q_nd9n, q_st0, q_st1, q_st2, q_st3, q_st4, q_st5, q_st6, q_st7, q_st8, q_st9, q_cat_i, q_cat_r, q_cat_n, q_wt0, q_wt1, q_tl0, q_tl1, ↓q_cl1, q_add, q_sub, q_mul, q_nari, q_narb0, q_narb1, q_fiti, q_fitb0, q_fitb1, List.cons_append, List.nil_append, Nat.reduceAdd, Nat.reduceLeDiff, and_self, and_true, true_and, ↓reduceIte, ↓rc0, ↓gf0_0, ↓gf0_1, ↓gf0_2, ↓gf0_3, ↓gf0_4, ↓gf0_5, ↓gf0_6, ↓gf0_7, ↓pf0_7, ft0_7, ↓rc1, ↓gf1_0, ↓pf1_0, ft1_0, ↓gf1_1, ↓pf1_1, ft1_1, ↓gf1_2, ↓gf1_3, ↓gf1_4, ↓gf1_5, ↓gf1_6, ↓gf1_7, ↓gf1_8, ↓gf1_9, ↓gf1_10, ↓gf1_11, ↓gf1_12, ↓rc13, ↓gf13_0, ↓gf13_1, ↓gf13_2, ↓gf13_3, ↓gf13_4, ↓gf13_5, ↓gf13_6, ↓pf13_6, ft13_6, ↓gf13_7, ↓pf13_7, ft13_7, ↓gf13_8, ↓pf13_8, ft13_8, ↓gf13_9, ↓pf13_9, ft13_90, ft13_91, ↓gf13_10, ↓gf13_11, ↓gf13_12, ↓pf13_12, ft13_12, ↓gf13_13, ↓pf13_13, ft13_13, ↓gf13_14, ↓pf13_14, ft13_14, ↓rc21, ↓gf21_0, ↓pf21_0, ft21_0, ↓gf21_1, ↓pf21_1, ft21_1, ↓gf21_2, ↓pf21_2, ft21_2, ↓gf21_3, ↓pf21_3, ft21_3, ↓rc22, ↓gf22_0, ↓gf22_1, ↓gf22_2, ↓rc23, ↓gf23_0, ↓gf23_1, ↓gf23_2, ↓gf23_3, ↓pf23_3, ft23_3, ↓gf23_4, ↓pf23_4, ft23_4, ↓gf23_5, ↓pf23_5, ft23_50, ft23_51, ↓rc145, ↓gf145_0, ↓gf145_1, ↓pf145_1, ft145_1, ↓rc147, ↓gf147_0, ↓gf147_1, ↓pf147_1, ft147_1, ↓rc149, ↓gf149_0, ↓gf149_1, ↓gf149_2, ↓gf149_3, ↓gf149_4, ↓pf149_4, ft149_40, ft149_41, ↓gf149_5, ↓pf149_5, ft149_5, ↓gf149_6, ↓pf149_6, ft149_60, ft149_61, ↓gf149_7, ↓pf149_7, ft149_7, ↓gf149_8, ↓pf149_8, ft149_8, ↓gf149_9, ↓pf149_9, ft149_9, ↓gf149_10, ↓pf149_10, ft149_10, ↓gf149_11, ↓gf149_12, ↓pf149_12, ft149_12, ↓gf149_13, ↓pf149_13, ft149_13, ↓gf149_14, ↓gf149_15, ↓pf149_15, ft149_15, ↓gf149_16, ↓gf149_17, ↓gf149_18, ↓gf149_19, ↓pf149_19, ft149_19, ↓gf149_20, ↓pf149_20, ft149_20, ↓gf149_21, ↓gf149_22, ↓pf149_22, ft149_22, q_M_s, q_M_k, q_M_a, q_P_s, q_P_a, q_toN, q_i00, q_i10, q_j00, q_j10, e, c22, w22, y, not_true_eq_false, not_false_eq_true, if_true, if_false]
        · rw [if_neg h59]
          have y := m861n (m := q_M m1 149 22 (k + 1 : Nat)) (K := K) (s := s) (c := 59) hT b12 b154 b20 (by omega) (by decide) (by decide) (by rw [hhe]; exact h59)
          refine ⟨q_M m1 149 22 (k + 1 : Nat), ?_, fun a x1 x2 => by rw [q_M_a x1, a2.1 a x1 x2], fun i x1 x2 => by rw [q_M_k x2, a2.2.1 i x1], fun _ => ⟨b20, by omega, by omega⟩, fun z => absurd z (by omega)⟩
          rw [q_b0 (show ¬ (E : Int) = -1 by omega), e864_10]
          have b12' : m1 149 12 = L := (a2.2.1 12 (by decide)).trans h12
          simp (disch := first | rfl | assumption | decide | omega | (unfold q_R; omega)) only [en864, e864_0, e864_1, e864_2, e864_5, e864_6, e864_7, e864_11, e864_14, e864_17, e864_18, e864_19, e864_20, e864_21, e864_24, e864_25, e864_26, e864_29, e864_30, e864_32, e864_35, e864_38, e864_39, e864_42, e864_43, e864_46, e864_49, e864_50, e864_53, e864_54, ↓q_nv0, ↓q_nv1, ↓q_nv2, ↓q_nv3, ↓q_nv4, ↓q_nv5, ↓q_nv6, ↓q_nv7, ↓q_nv8, ↓q_nv9, ↓q_nv10, ↓q_nv11, ↓q_nv12, ↓q_nv13, ↓q_nv14, ↓q_nv15, ↓q_nv16, ↓q_nv17, ↓q_nv18, ↓q_nv19, ↓q_nv20, ↓q_nv21, ↓q_nv22, ↓q_gi0, ↓q_gi1, ↓q_gi2, ↓q_gi3, ↓q_gi4, ↓q_gi5, ↓q_gi6, ↓q_gi7, ↓q_gi8, ↓q_gi9, ↓q_gr0, ↓q_gr1, ↓q_gr2, ↓q_gr3, ↓q_gr4, ↓q_gr5, ↓q_gr6, ↓q_gr7, ↓q_gr8, ↓q_gr9, ↓q_ls0, ↓q_ls1i, ↓q_ls1r, ↓q_ls1n, ↓q_ls2i, ↓q_ls2r, ↓q_ls2n, ↓q_ls3i, ↓q_ls3r, ↓q_ls3n, ↓q_ls4i, ↓q_ls4r, ↓q_ls4n, ↓q_ls5i, ↓q_ls5r, ↓q_ls5n, ↓q_ls6i, ↓q_ls6r, ↓q_ls6n, ↓q_ls7i, ↓q_ls7r, ↓q_ls7n, ↓q_ls8i, ↓q_ls8r, ↓q_ls8n, ↓q_ls9i, ↓q_ls9r, ↓q_ls9n, q_nd0, q_nd1i, q_nd1r, q_nd1n, q_nd2i, q_nd2r, q_nd2n, q_nd3i, q_nd3r, q_nd3n, q_nd4i, q_nd4r, q_nd4n, q_nd5i, q_nd5r, q_nd5n, q_nd6i, q_nd6r, q_nd6n, q_nd7i, q_nd7r, q_nd7n, q_nd8i, q_nd8r, q_nd8n, q_nd9i, q_nd9r, q_nd9n, q_st0, q_st1, q_st2, q_st3, q_st4, q_st5, q_st6, q_st7, q_st8, q_st9, q_cat_i, q_cat_r, q_cat_n, q_wt0, q_wt1, q_tl0, q_tl1, ↓q_cl1, q_add, q_sub, q_mul, q_nari, q_narb0, q_narb1, q_fiti, q_fitb0, q_fitb1, List.cons_append, List.nil_append, Nat.reduceAdd, Nat.reduceLeDiff, and_self, and_true, true_and, ↓reduceIte, ↓rc0, ↓gf0_0, ↓gf0_1, ↓gf0_2, ↓gf0_3, ↓gf0_4, ↓gf0_5, ↓gf0_6, ↓gf0_7, ↓pf0_7, ft0_7, ↓rc1, ↓gf1_0, ↓pf1_0, ft1_0, ↓gf1_1, ↓pf1_1, ft1_1, ↓gf1_2, ↓gf1_3, ↓gf1_4, ↓gf1_5, ↓gf1_6, ↓gf1_7, ↓gf1_8, ↓gf1_9, ↓gf1_10, ↓gf1_11, ↓gf1_12, ↓rc13, ↓gf13_0, ↓gf13_1, ↓gf13_2, ↓gf13_3, ↓gf13_4, ↓gf13_5, ↓gf13_6, ↓pf13_6, ft13_6, ↓gf13_7, ↓pf13_7, ft13_7, ↓gf13_8, ↓pf13_8, ft13_8, ↓gf13_9, ↓pf13_9, ft13_90, ft13_91, ↓gf13_10, ↓gf13_11, ↓gf13_12, ↓pf13_12, ft13_12, ↓gf13_13, ↓pf13_13, ft13_13, ↓gf13_14, ↓pf13_14, ft13_14, ↓rc21, ↓gf21_0, ↓pf21_0, ft21_0, ↓gf21_1, ↓pf21_1, ft21_1, ↓gf21_2, ↓pf21_2, ft21_2, ↓gf21_3, ↓pf21_3, ft21_3, ↓rc22, ↓gf22_0, ↓gf22_1, ↓gf22_2, ↓rc23, ↓gf23_0, ↓gf23_1, ↓gf23_2, ↓gf23_3, ↓pf23_3, ft23_3, ↓gf23_4, ↓pf23_4, ft23_4, ↓gf23_5, ↓pf23_5, ft23_50, ft23_51, ↓rc145, ↓gf145_0, ↓gf145_1, ↓pf145_1, ft145_1, ↓rc147, ↓gf147_0, ↓gf147_1, ↓pf147_1, ft147_1, ↓rc149, ↓gf149_0, ↓gf149_1, ↓gf149_2, ↓gf149_3, ↓gf149_4, ↓pf149_4, ft149_40, ft149_41, ↓gf149_5, ↓pf149_5, ft149_5, ↓gf149_6, ↓pf149_6, ft149_60, ft149_61, ↓gf149_7, ↓pf149_7, ft149_7, ↓gf149_8, ↓pf149_8, ft149_8, ↓gf149_9, ↓pf149_9, ft149_9, ↓gf149_10, ↓pf149_10, ft149_10, ↓gf149_11, ↓gf149_12, ↓pf149_12, ft149_12, ↓gf149_13, ↓pf149_13, ft149_13, ↓gf149_14, ↓gf149_15, ↓pf149_15, ft149_15, ↓gf149_16, ↓gf149_17, ↓gf149_18, ↓gf149_19, ↓pf149_19, ft149_19, ↓gf149_20, ↓pf149_20, ft149_20, ↓gf149_21, ↓gf149_22, ↓pf149_22, ft149_22, q_M_s, q_M_k, q_M_a, q_P_s, q_P_a, q_toN, q_i00, q_i10, q_j00, q_j10, e, c22, w22, y, b12, b20, b12', a1, q_eq, show ¬ (E : Int) = (L : Int) by omega, not_true_eq_false, not_false_eq_true, if_true, if_false]
    · rw [q_b0 hc] at e
      have hflt : q_flt t L (fu + 1) p = q_cend t L p ∧ q_cend t L p ≤ L := by
        rw [q_flt]
        unfold q_cend
        by_cases hpL : p < L
        · have hhr : q_hr t L p = t p := if_pos hpL
          unfold q_cok at hc
          rw [hhr] at hc ⊢
          rw [if_pos hpL]
          by_cases hf : q_form (t p) = 3
          · rw [if_pos hf, if_pos hf]
            exact ⟨rfl, h2⟩
          · have hle := q_mt_le (t := t) (L := L) (p := p + 1) (f := q_form (t p)) (q_fl (q_form (t p)))
            rw [if_neg hf, if_neg hf, if_pos (by by_cases z : q_mt t L (p + 1) (q_form (t p)) (q_fl (q_form (t p))) = q_fl (q_form (t p)); exact absurd ⟨hf, z⟩ hc; omega)]
            refine ⟨rfl, ?_⟩
            generalize q_fl (q_form (t p)) = n
            induction n with
            | zero =>
              unfold q_mt
              omega
            | succ n ihn =>
              by_cases hc : q_mt t L (p + 1) (q_form (t p)) n = n ∧ p + 1 + n < L ∧ q_fit (t (p + 1 + n)) (q_fc (q_form (t p)) n)
              · rw [q_mt_1 hc]
                omega
              · rw [q_mt_2 hc]
                exact ihn
        · have hhr : q_hr t L p = -1 := if_neg hpL
          rw [hhr, if_neg hpL, if_pos (show q_form (-1) = 3 from rfl)]
          exact ⟨by omega, h2⟩
      obtain ⟨hf1, hf2⟩ := hflt
      rw [hf1]
      refine ⟨m1, ?_, fun a x1 x2 => a2.1 a x1 x2, fun i x1 _ => a2.2.1 i x1, fun _ => ⟨a1, by omega, by omega⟩, fun z => absurd z (by omega)⟩
      rw [q_b0 (by omega), e864_10]
      simp (disch := first | rfl | assumption | decide | omega | (unfold q_R; omega)) only [en864, e864_0, e864_1, e864_2, e864_5, e864_6, e864_7, e864_11, e864_14, e864_17, e864_18, e864_19, e864_20, e864_21, e864_24, e864_25, e864_26, e864_29, e864_30, e864_32, e864_35, e864_38, e864_39, e864_42, e864_43, e864_46, e864_49, e864_50, e864_53, e864_54, ↓q_nv0, ↓q_nv1, ↓q_nv2, ↓q_nv3, ↓q_nv4, ↓q_nv5, ↓q_nv6, ↓q_nv7, ↓q_nv8, ↓q_nv9, ↓q_nv10, ↓q_nv11, ↓q_nv12, ↓q_nv13, ↓q_nv14, ↓q_nv15, ↓q_nv16, ↓q_nv17, ↓q_nv18, ↓q_nv19, ↓q_nv20, ↓q_nv21, ↓q_nv22, ↓q_gi0, ↓q_gi1, ↓q_gi2, ↓q_gi3, ↓q_gi4, ↓q_gi5, ↓q_gi6, ↓q_gi7, ↓q_gi8, ↓q_gi9, ↓q_gr0, ↓q_gr1, ↓q_gr2, ↓q_gr3, ↓q_gr4, ↓q_gr5, ↓q_gr6, ↓q_gr7, ↓q_gr8, ↓q_gr9, ↓q_ls0, ↓q_ls1i, ↓q_ls1r, ↓q_ls1n, ↓q_ls2i, ↓q_ls2r, ↓q_ls2n, ↓q_ls3i, ↓q_ls3r, ↓q_ls3n, ↓q_ls4i, ↓q_ls4r, ↓q_ls4n, ↓q_ls5i, ↓q_ls5r, ↓q_ls5n, ↓q_ls6i, ↓q_ls6r, ↓q_ls6n, ↓q_ls7i, ↓q_ls7r, ↓q_ls7n, ↓q_ls8i, ↓q_ls8r, ↓q_ls8n, ↓q_ls9i, ↓q_ls9r, ↓q_ls9n, q_nd0, q_nd1i, q_nd1r, q_nd1n, q_nd2i, q_nd2r, q_nd2n, q_nd3i, q_nd3r, q_nd3n, q_nd4i, q_nd4r, q_nd4n, q_nd5i, q_nd5r, q_nd5n, q_nd6i, q_nd6r, q_nd6n, q_nd7i, q_nd7r, q_nd7n, q_nd8i, q_nd8r, q_nd8n, q_nd9i, q_nd9r, q_nd9n, q_st0, q_st1, q_st2, q_st3, q_st4, q_st5, q_st6, q_st7, q_st8, q_st9, q_cat_i, q_cat_r, q_cat_n, q_wt0, q_wt1, q_tl0, q_tl1, ↓q_cl1, q_add, q_sub, q_mul, q_nari, q_narb0, q_narb1, q_fiti, q_fitb0, q_fitb1, List.cons_append, List.nil_append, Nat.reduceAdd, Nat.reduceLeDiff, and_self, and_true, true_and, ↓reduceIte, ↓rc0, ↓gf0_0, ↓gf0_1, ↓gf0_2, ↓gf0_3, ↓gf0_4, ↓gf0_5, ↓gf0_6, ↓gf0_7, ↓pf0_7, ft0_7, ↓rc1, ↓gf1_0, ↓pf1_0, ft1_0, ↓gf1_1, ↓pf1_1, ft1_1, ↓gf1_2, ↓gf1_3, ↓gf1_4, ↓gf1_5, ↓gf1_6, ↓gf1_7, ↓gf1_8, ↓gf1_9, ↓gf1_10, ↓gf1_11, ↓gf1_12, ↓rc13, ↓gf13_0, ↓gf13_1, ↓gf13_2, ↓gf13_3, ↓gf13_4, ↓gf13_5, ↓gf13_6, ↓pf13_6, ft13_6, ↓gf13_7, ↓pf13_7, ft13_7, ↓gf13_8, ↓pf13_8, ft13_8, ↓gf13_9, ↓pf13_9, ft13_90, ft13_91, ↓gf13_10, ↓gf13_11, ↓gf13_12, ↓pf13_12, ft13_12, ↓gf13_13, ↓pf13_13, ft13_13, ↓gf13_14, ↓pf13_14, ft13_14, ↓rc21, ↓gf21_0, ↓pf21_0, ft21_0, ↓gf21_1, ↓pf21_1, ft21_1, ↓gf21_2, ↓pf21_2, ft21_2, ↓gf21_3, ↓pf21_3, ft21_3, ↓rc22, ↓gf22_0, ↓gf22_1, ↓gf22_2, ↓rc23, ↓gf23_0, ↓gf23_1, ↓gf23_2, ↓gf23_3, ↓pf23_3, ft23_3, ↓gf23_4, ↓pf23_4, ft23_4, ↓gf23_5, ↓pf23_5, ft23_50, ft23_51, ↓rc145, ↓gf145_0, ↓gf145_1, ↓pf145_1, ft145_1, ↓rc147, ↓gf147_0, ↓gf147_1, ↓pf147_1, ft147_1, ↓rc149, ↓gf149_0, ↓gf149_1, ↓gf149_2, ↓gf149_3, ↓gf149_4, ↓pf149_4, ft149_40, ft149_41, ↓gf149_5, ↓pf149_5, ft149_5, ↓gf149_6, ↓pf149_6, ft149_60, ft149_61, ↓gf149_7, ↓pf149_7, ft149_7, ↓gf149_8, ↓pf149_8, ft149_8, ↓gf149_9, ↓pf149_9, ft149_9, ↓gf149_10, ↓pf149_10, ft149_10, ↓gf149_11, ↓gf149_12, ↓pf149_12, ft149_12, ↓gf149_13, ↓pf149_13, ft149_13, ↓gf149_14, ↓gf149_15, ↓pf149_15, ft149_15, ↓gf149_16, ↓gf149_17, ↓gf149_18, ↓gf149_19, ↓pf149_19, ft149_19, ↓gf149_20, ↓pf149_20, ft149_20, ↓gf149_21, ↓gf149_22, ↓pf149_22, ft149_22, q_M_s, q_M_k, q_M_a, q_P_s, q_P_a, q_toN, q_i00, q_i10, q_j00, q_j10, e, not_true_eq_false, not_false_eq_true, if_true, if_false]
theorem m864 {t : Nat → Int} (hT : q_tt t L) (h12 : m 149 12 = L) (h154 : m 154 = t) : ∃ mm', x_m 864 [.ref 149] (q_H m K s) = some (.inl (some (.int (q_i (q_b (q_flt t L 62 0 = -1))))), q_H mm' K s) ∧ (∀ a, a ≠ 149 → a ≠ 159 → mm' a = m a) ∧ (∀ i, i ≠ 20 → i ≠ 22 → mm' 149 i = m 149 i) ∧ (q_flt t L 62 0 ≠ -1 → mm' 149 20 = q_flt t L 62 0 ∧ 0 ≤ q_flt t L 62 0 ∧ q_flt t L 62 0 ≤ L) ∧ (q_flt t L 62 0 = -1 → ∃ N : Nat, mm' 149 22 = N ∧ 1 ≤ N ∧ N ≤ 21 ∧ q_at t N = L + 1 ∧ ∀ j, j < N → q_cg t L j ∧ q_ctold t (mm' 159) (q_at t j) (4 * j)) := by
  have h60 := hT.1
  obtain ⟨mm', e, a1, a2, a3, a4⟩ := l864 (K := K) (s := s) hT 62 0 0 (q_M (q_M m 149 20 0) 149 22 0) (by omega) (by omega) (by omega) rfl (by rw [q_M_k (by decide), q_M_k (by decide)]; exact h12) (by rw [q_M_a (by decide), q_M_a (by decide)]; exact h154) (by rw [q_M_k (by decide), q_M_s]; rfl) q_M_s (fun j hj => absurd hj (by omega))
  refine ⟨mm', ?_, fun a x1 x2 => by rw [a1 a x1 x2, q_M_a x1, q_M_a x1], fun i x1 x2 => by rw [a2 i x1 x2, q_M_k x2, q_M_k x1], a3, a4⟩
  rw [← e, en864, e864_0]
  simp (disch := first | rfl | assumption | decide | omega | (unfold q_R; omega)) only [en864, e864_0, e864_1, e864_2, e864_5, e864_6, e864_7, e864_11, e864_14, e864_17, e864_18, e864_19, e864_20, e864_21, e864_24, e864_25, e864_26, e864_29, e864_30, e864_32, e864_35, e864_38, e864_39, e864_42, e864_43, e864_46, e864_49, e864_50, e864_53, e864_54, ↓q_nv0, ↓q_nv1, ↓q_nv2, ↓q_nv3, ↓q_nv4, ↓q_nv5, ↓q_nv6, ↓q_nv7, ↓q_nv8, ↓q_nv9, ↓q_nv10, ↓q_nv11, ↓q_nv12, ↓q_nv13, ↓q_nv14, ↓q_nv15, ↓q_nv16, ↓q_nv17, ↓q_nv18, ↓q_nv19, ↓q_nv20, ↓q_nv21, ↓q_nv22, ↓q_gi0, ↓q_gi1, ↓q_gi2, ↓q_gi3, ↓q_gi4, ↓q_gi5, ↓q_gi6, ↓q_gi7, ↓q_gi8, ↓q_gi9, ↓q_gr0, ↓q_gr1, ↓q_gr2, ↓q_gr3, ↓q_gr4, ↓q_gr5, ↓q_gr6, ↓q_gr7, ↓q_gr8, ↓q_gr9, ↓q_ls0, ↓q_ls1i, ↓q_ls1r, ↓q_ls1n, ↓q_ls2i, ↓q_ls2r, ↓q_ls2n, ↓q_ls3i, ↓q_ls3r, ↓q_ls3n, ↓q_ls4i, ↓q_ls4r, ↓q_ls4n, ↓q_ls5i, ↓q_ls5r, ↓q_ls5n, ↓q_ls6i, ↓q_ls6r, ↓q_ls6n, ↓q_ls7i, ↓q_ls7r, ↓q_ls7n, ↓q_ls8i, ↓q_ls8r, ↓q_ls8n, ↓q_ls9i, ↓q_ls9r, ↓q_ls9n, q_nd0, q_nd1i, q_nd1r, q_nd1n, q_nd2i, q_nd2r, q_nd2n, q_nd3i, q_nd3r, q_nd3n, q_nd4i, q_nd4r, q_nd4n, q_nd5i, q_nd5r, q_nd5n, q_nd6i, q_nd6r, q_nd6n, q_nd7i, q_nd7r, q_nd7n, q_nd8i, q_nd8r, q_nd8n, q_nd9i, q_nd9r, q_nd9n, q_st0, q_st1, q_st2, q_st3, q_st4, q_st5, q_st6, q_st7, q_st8, q_st9, q_cat_i, q_cat_r, q_cat_n, q_wt0, q_wt1, q_tl0, q_tl1, ↓q_cl1, q_add, q_sub, q_mul, q_nari, q_narb0, q_narb1, q_fiti, q_fitb0, q_fitb1, List.cons_append, List.nil_append, Nat.reduceAdd, Nat.reduceLeDiff, and_self, and_true, true_and, ↓reduceIte, ↓rc0, ↓gf0_0, ↓gf0_1, ↓gf0_2, ↓gf0_3, ↓gf0_4, ↓gf0_5, ↓gf0_6, ↓gf0_7, ↓pf0_7, ft0_7, ↓rc1, ↓gf1_0, ↓pf1_0, ft1_0, ↓gf1_1, ↓pf1_1, ft1_1, ↓gf1_2, ↓gf1_3, ↓gf1_4, ↓gf1_5, ↓gf1_6, ↓gf1_7, ↓gf1_8, ↓gf1_9, ↓gf1_10, ↓gf1_11, ↓gf1_12, ↓rc13, ↓gf13_0, ↓gf13_1, ↓gf13_2, ↓gf13_3, ↓gf13_4, ↓gf13_5, ↓gf13_6, ↓pf13_6, ft13_6, ↓gf13_7, ↓pf13_7, ft13_7, ↓gf13_8, ↓pf13_8, ft13_8, ↓gf13_9, ↓pf13_9, ft13_90, ft13_91, ↓gf13_10, ↓gf13_11, ↓gf13_12, ↓pf13_12, ft13_12, ↓gf13_13, ↓pf13_13, ft13_13, ↓gf13_14, ↓pf13_14, ft13_14, ↓rc21, ↓gf21_0, ↓pf21_0, ft21_0, ↓gf21_1, ↓pf21_1, ft21_1, ↓gf21_2, ↓pf21_2, ft21_2, ↓gf21_3, ↓pf21_3, ft21_3, ↓rc22, ↓gf22_0, ↓gf22_1, ↓gf22_2, ↓rc23, ↓gf23_0, ↓gf23_1, ↓gf23_2, ↓gf23_3, ↓pf23_3, ft23_3, ↓gf23_4, ↓pf23_4, ft23_4, ↓gf23_5, ↓pf23_5, ft23_50, ft23_51, ↓rc145, ↓gf145_0, ↓gf145_1, ↓pf145_1, ft145_1, ↓rc147, ↓gf147_0, ↓gf147_1, ↓pf147_1, ft147_1, ↓rc149, ↓gf149_0, ↓gf149_1, ↓gf149_2, ↓gf149_3, ↓gf149_4, ↓pf149_4, ft149_40, ft149_41, ↓gf149_5, ↓pf149_5, ft149_5, ↓gf149_6, ↓pf149_6, ft149_60, ft149_61, ↓gf149_7, ↓pf149_7, ft149_7, ↓gf149_8, ↓pf149_8, ft149_8, ↓gf149_9, ↓pf149_9, ft149_9, ↓gf149_10, ↓pf149_10, ft149_10, ↓gf149_11, ↓gf149_12, ↓pf149_12, ft149_12, ↓gf149_13, ↓pf149_13, ft149_13, ↓gf149_14, ↓gf149_15, ↓pf149_15, ft149_15, ↓gf149_16, ↓gf149_17, ↓gf149_18, ↓gf149_19, ↓pf149_19, ft149_19, ↓gf149_20, ↓pf149_20, ft149_20, ↓gf149_21, ↓gf149_22, ↓pf149_22, ft149_22, q_M_s, q_M_k, q_M_a, q_P_s, q_P_a, q_toN, q_i00, q_i10, q_j00, q_j10]
end M97h
