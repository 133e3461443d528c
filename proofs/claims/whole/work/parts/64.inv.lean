/-- a kept row -/
def q_row (m : Nat → Nat → Int) (i : Nat) : Nat → Int := fun k => if k < 199 then m 151 (199 * i + k) else 0
def q_Z (g : Nat → Int) : Prop := ∀ k, 199 ≤ k → g k = 0
/-- the place of the i-th slot -/
def q_sp9 (st : Int) (i : Nat) : Nat := 37 + 12 * ((st + i) % 9).toNat
/-- what holds between two calls -/
def q_Iv (m : Nat → Nat → Int) : Prop :=
  (q_W (m 150) ∧ q_Bd m 1 (m 150) ∧ q_Z (m 150)) ∧
  (q_HC m ∧ m 149 5 = m 23 4 ∧ m 149 6 = 0 ∧ ∀ i : Nat, (i : Int) < m 23 4 → q_Bd m (q_sp9 (m 23 3) i) (q_row m i) ∧ q_W (q_row m i)) ∧
  ((m 23 5 = 0 ∨ m 23 5 = 1) ∧ m 149 4 = m 23 5 ∧ q_Z (m 152) ∧ (m 23 5 = 1 → q_Bd m 25 (m 152) ∧ q_W (m 152))) ∧
  (m 149 8 = m 21 0 ∧ m 149 9 = m 21 1 ∧ m 149 10 = m 21 2 ∧ m 21 3 = 0 ∧ 0 ≤ m 21 0 ∧ m 21 0 ≤ 11) ∧
  (m 145 1 = m 149 12 ∧ 0 ≤ m 149 12 ∧ m 149 12 ≤ 60 ∧ ∀ i : Nat, (i : Int) < m 149 12 → m 146 i = m 154 i ∧ 0 ≤ m 154 i ∧ m 154 i < 65536) ∧
  (m 0 7 = m 149 13 ∧ -1 ≤ m 149 13 ∧ m 149 13 ≤ 60) ∧
  (m 147 1 = m 149 15 ∧ 0 ≤ m 149 15 ∧ m 149 15 ≤ 16 ∧ (∀ i : Nat, (i : Int) < m 149 15 → m 148 i = m 155 i ∧ 0 ≤ m 155 i ∧ m 155 i < 65536)) ∧ q_Z (m 153)
/-- what a call that asks may change: the router, the reference's rows of work, its code, what is given out -/
def q_sc1 (m mm : Nat → Nat → Int) : Prop := (∀ a, a < 13 ∨ (20 < a ∧ a < 149) ∨ (149 < a ∧ a < 153) ∨ (153 < a ∧ a < 156) → mm a = m a) ∧ (∀ k, k ≠ 7 → k ≠ 19 → k ≠ 20 → k ≠ 22 → mm 149 k = m 149 k) ∧ mm 153 = m 153
theorem q_sc1_refl {m : Nat → Nat → Int} : q_sc1 m m := ⟨fun _ _ => rfl, fun _ _ _ _ _ => rfl, rfl⟩
theorem q_sc1_trans {m m1 m2 : Nat → Nat → Int} (h : q_sc1 m m1) (h2 : q_sc1 m1 m2) : q_sc1 m m2 := ⟨fun a ha => (h2.1 a ha).trans (h.1 a ha), fun k k1 k2 k3 k4 => (h2.2.1 k k1 k2 k3 k4).trans (h.2.1 k k1 k2 k3 k4), h2.2.2.trans h.2.2⟩
theorem q_sp9_lt {st : Int} (i : Nat) : 37 ≤ q_sp9 st i ∧ q_sp9 st i < 134 := by
  unfold q_sp9
  omega
theorem q_Iv_sc {m mm : Nat → Nat → Int} (h : q_Iv m) (hs : q_sc1 m mm) : q_Iv mm := by
  obtain ⟨⟨a1, a2, a3⟩, ⟨b1, b2, b3, b4⟩, ⟨c1, c2, c3, c4⟩, d, e, f, k, l⟩ := h
  obtain ⟨s1, s2, s3⟩ := hs
  have e150 := s1 150 (by omega)
  have e23 := s1 23 (by omega)
  have e151 := s1 151 (by omega)
  have erow : ∀ i, q_row mm i = q_row m i := fun i => by
    unfold q_row
    rw [e151]
  refine ⟨⟨by rw [e150]; exact a1, by rw [e150]; exact q_Bd_fr a2 (fun k hk => s1 _ (by omega)), by rw [e150]; exact a3⟩, ⟨?_, ?_, ?_, ?_⟩, ⟨?_, ?_, ?_, ?_⟩, ?_, ?_, ?_, ?_, ?_⟩
  · unfold q_HC
    rw [e23]
    exact b1
  · rw [e23, s2 5 (by decide) (by decide) (by decide) (by decide)]
    exact b2
  · rw [s2 6 (by decide) (by decide) (by decide) (by decide)]
    exact b3
  · rw [e23]
    intro i hi
    rw [erow]
    have hl := q_sp9_lt (st := m 23 3) i
    exact ⟨q_Bd_fr (b4 i hi).1 (fun k hk => s1 _ (by omega)), (b4 i hi).2⟩
  · rw [e23]
    exact c1
  · rw [e23, s2 4 (by decide) (by decide) (by decide) (by decide)]
    exact c2
  · rw [s1 152 (by omega)]
    exact c3
  · rw [e23, s1 152 (by omega)]
    intro h
    exact ⟨q_Bd_fr (c4 h).1 (fun k hk => s1 _ (by omega)), (c4 h).2⟩
  · rw [s1 21 (by omega), s2 8 (by decide) (by decide) (by decide) (by decide), s2 9 (by decide) (by decide) (by decide) (by decide), s2 10 (by decide) (by decide) (by decide) (by decide)]
    exact d
  · rw [s1 145 (by omega), s1 146 (by omega), s1 154 (by omega), s2 12 (by decide) (by decide) (by decide) (by decide)]
    exact e
  · rw [s1 0 (by omega), s2 13 (by decide) (by decide) (by decide) (by decide)]
    exact f
  · rw [s1 147 (by omega), s1 148 (by omega), s1 155 (by omega), s2 15 (by decide) (by decide) (by decide) (by decide)]
    exact k
  · rw [s3]
    exact l
section M64
variable {m : Nat → Nat → Int} {K : Nat × Nat} {s : List Int32}
theorem q_Iv_W (h : q_Iv m) : q_W (m 150) := h.1.1
theorem q_Iv_B (h : q_Iv m) : q_Bd m 1 (m 150) := h.1.2.1
theorem q_sc_c {v : Int} : q_sc1 m (q_M m 149 7 v) := ⟨fun a ha => q_M_a (by omega), fun k k1 _ _ _ => q_M_k k1, q_M_a (by decide)⟩
theorem q_sc_o {v : Int} {k : Nat} : q_sc1 m (q_M m 160 k v) := ⟨fun a ha => q_M_a (by omega), fun k k1 _ _ _ => by rw [q_M_a (by decide)], q_M_a (by decide)⟩
theorem q_sc_j {mm : Nat → Nat → Int} (h : q_j0 m mm) : q_sc1 m mm := ⟨fun a ha => h.1 a (by omega) (by omega) (by omega) (by omega) (by omega) (by omega), fun k _ _ _ _ => by rw [h.1 149 (by decide) (by decide) (by decide) (by decide) (by decide) (by decide)], h.1 153 (by decide) (by decide) (by decide) (by decide) (by decide) (by decide)⟩
theorem q_sc_f {mm : Nat → Nat → Int} (h : q_f0 m mm) : q_sc1 m mm := ⟨fun a ha => h.1 a (by omega) (by omega) (by omega) (by omega), fun k _ k2 _ _ => h.2 k k2, h.1 153 (by decide) (by decide) (by decide) (by decide)⟩
/-- the exceptions' heap -/
theorem q_thr {E : String} : (some (.inr E, (((q_H m K s)).1, ((q_H m K s)).2.1, ((q_H m K s)).2.2.1 + 1, ((q_H m K s)).2.2.2 + 6)) : q_O) = some (.inr E, q_H m (K.1 + 1, K.2 + 6) s) := rfl
theorem m2H {g : Nat → Int} {n : Int} (hB : q_Bd m 1 g) (hW : q_W g) (hn : q_R n) : x_m 2 [.ref 1, .int (q_i n)] (q_H m K s) = some (.inl (some (.int (q_i (q_b (0 ≤ n ∧ n < g 0))))), (q_H m K s)) := by
  have h0 := hW.2.1
  rw [m2 q_BoH hn (by rw [hB.1]; unfold q_R; omega), q_bd, hB.1]
theorem m736 {n : Int} (hB : q_Bd m 1 (m 150)) (hW : q_W (m 150)) (hn : q_R n) (hK : 162 ≤ K.1) : x_m 736 [.ref 0, .int (q_i n)] (q_H m K s) = (haveI := Classical.propDecidable; if 0 ≤ n ∧ n < m 150 0 then some (.inl none, (q_H m K s)) else some (.inr "java/lang/IndexOutOfBoundsException", q_H m (K.1 + 1, K.2 + 6) s)) := by
  have e := m2H (K := K) (s := s) hB hW hn
  by_cases h : 0 ≤ n ∧ n < m 150 0
  · rw [if_pos h]
    rw [q_b1 h] at e
    simp (disch := first | rfl | assumption | decide | omega | (unfold q_R; omega)) only [en736, e736_0, e736_1, e736_4, e736_5, e736_8, e736_11, e736_22, ↓q_nv0, ↓q_nv1, ↓q_nv2, ↓q_nv3, ↓q_nv4, ↓q_nv5, ↓q_nv6, ↓q_nv7, ↓q_nv8, ↓q_nv9, ↓q_nv10, ↓q_nv11, ↓q_nv12, ↓q_nv13, ↓q_nv14, ↓q_nv15, ↓q_nv16, ↓q_nv17, ↓q_nv18, ↓q_nv19, ↓q_nv20, ↓q_nv21, ↓q_nv22, ↓q_gi0, ↓q_gi1, ↓q_gi2, ↓q_gi3, ↓q_gi4, ↓q_gi5, ↓q_gi6, ↓q_gi7, ↓q_gi8, ↓q_gi9, ↓q_gr0, ↓q_gr1, ↓q_gr2, ↓q_gr3, ↓q_gr4, ↓q_gr5, ↓q_gr6, ↓q_gr7, ↓q_gr8, ↓q_gr9, ↓q_ls0, ↓q_ls1i, ↓q_ls1r, ↓q_ls1n, ↓q_ls2i, ↓q_ls2r, ↓q_ls2n, ↓q_ls3i, ↓q_ls3r, ↓q_ls3n, ↓q_ls4i, ↓q_ls4r, ↓q_ls4n, ↓q_ls5i, ↓q_ls5r, ↓q_ls5n, ↓q_ls6i, ↓q_ls6r, ↓q_ls6n, ↓q_ls7i, ↓q_ls7r, ↓q_ls7n, ↓q_ls8i, ↓q_ls8r, ↓q_ls8n, ↓q_ls9i, ↓q_ls9r, ↓q_ls9n, q_nd0, q_nd1i, q_nd1r, q_nd1n, q_nd2i, q_nd2r, q_nd2n, q_nd3i, q_nd3r, q_nd3n, q_nd4i, q_nd4r, q_nd4n, q_nd5i, q_nd5r, q_nd5n, q_nd6i, q_nd6r, q_nd6n, q_nd7i, q_nd7r, q_nd7n, q_nd8i, q_nd8r, q_nd8n, q_nd9i, q_nd9r, q_nd9n, q_st0, q_st1, q_st2, q_st3, q_st4, q_st5, q_st6, q_st7, q_st8, q_st9, q_cat_i, q_cat_r, q_cat_n, q_wt0, q_wt1, q_tl0, q_tl1, ↓q_cl1, q_add, q_sub, q_mul, q_nari, q_narb0, q_narb1, q_fiti, q_fitb0, q_fitb1, List.cons_append, List.nil_append, Nat.reduceAdd, Nat.reduceLeDiff, and_self, and_true, true_and, ↓reduceIte, ↓rc0, ↓gf0_0, ↓gf0_1, ↓gf0_2, ↓gf0_3, ↓gf0_4, ↓gf0_5, ↓gf0_6, ↓gf0_7, ↓pf0_7, ft0_7, ↓rc1, ↓gf1_0, ↓pf1_0, ft1_0, ↓gf1_1, ↓pf1_1, ft1_1, ↓gf1_2, ↓gf1_3, ↓gf1_4, ↓gf1_5, ↓gf1_6, ↓gf1_7, ↓gf1_8, ↓gf1_9, ↓gf1_10, ↓gf1_11, ↓gf1_12, ↓rc13, ↓gf13_0, ↓gf13_1, ↓gf13_2, ↓gf13_3, ↓gf13_4, ↓gf13_5, ↓gf13_6, ↓pf13_6, ft13_6, ↓gf13_7, ↓pf13_7, ft13_7, ↓gf13_8, ↓pf13_8, ft13_8, ↓gf13_9, ↓pf13_9, ft13_90, ft13_91, ↓gf13_10, ↓gf13_11, ↓gf13_12, ↓pf13_12, ft13_12, ↓gf13_13, ↓pf13_13, ft13_13, ↓gf13_14, ↓pf13_14, ft13_14, ↓rc21, ↓gf21_0, ↓pf21_0, ft21_0, ↓gf21_1, ↓pf21_1, ft21_1, ↓gf21_2, ↓pf21_2, ft21_2, ↓gf21_3, ↓pf21_3, ft21_3, ↓rc22, ↓gf22_0, ↓gf22_1, ↓gf22_2, ↓rc23, ↓gf23_0, ↓gf23_1, ↓gf23_2, ↓gf23_3, ↓pf23_3, ft23_3, ↓gf23_4, ↓pf23_4, ft23_4, ↓gf23_5, ↓pf23_5, ft23_50, ft23_51, ↓rc145, ↓gf145_0, ↓gf145_1, ↓pf145_1, ft145_1, ↓rc147, ↓gf147_0, ↓gf147_1, ↓pf147_1, ft147_1, ↓rc149, ↓gf149_0, ↓gf149_1, ↓gf149_2, ↓gf149_3, ↓gf149_4, ↓pf149_4, ft149_40, ft149_41, ↓gf149_5, ↓pf149_5, ft149_5, ↓gf149_6, ↓pf149_6, ft149_60, ft149_61, ↓gf149_7, ↓pf149_7, ft149_7, ↓gf149_8, ↓pf149_8, ft149_8, ↓gf149_9, ↓pf149_9, ft149_9, ↓gf149_10, ↓pf149_10, ft149_10, ↓gf149_11, ↓gf149_12, ↓pf149_12, ft149_12, ↓gf149_13, ↓pf149_13, ft149_13, ↓gf149_14, ↓gf149_15, ↓pf149_15, ft149_15, ↓gf149_16, ↓gf149_17, ↓gf149_18, ↓gf149_19, ↓pf149_19, ft149_19, ↓gf149_20, ↓pf149_20, ft149_20, ↓gf149_21, ↓gf149_22, ↓pf149_22, ft149_22, q_M_s, q_M_k, q_M_a, q_P_s, q_P_a, q_toN, q_i00, q_i10, q_j00, q_j10, e, not_false_eq_true, if_true]
  · rw [if_neg h]
    rw [q_b0 h] at e
    simp (disch := first | rfl | assumption | decide | omega | (unfold q_R; omega)) only [en736, e736_0, e736_1, e736_4, e736_5, e736_8, e736_11, e736_22, ↓q_nv0, ↓q_nv1, ↓q_nv2, ↓q_nv3, ↓q_nv4, ↓q_nv5, ↓q_nv6, ↓q_nv7, ↓q_nv8, ↓q_nv9, ↓q_nv10, ↓q_nv11, ↓q_nv12, ↓q_nv13, ↓q_nv14, ↓q_nv15, ↓q_nv16, ↓q_nv17, ↓q_nv18, ↓q_nv19, ↓q_nv20, ↓q_nv21, ↓q_nv22, ↓q_gi0, ↓q_gi1, ↓q_gi2, ↓q_gi3, ↓q_gi4, ↓q_gi5, ↓q_gi6, ↓q_gi7, ↓q_gi8, ↓q_gi9, ↓q_gr0, ↓q_gr1, ↓q_gr2, ↓q_gr3, ↓q_gr4, ↓q_gr5, ↓q_gr6, ↓q_gr7, ↓q_gr8, ↓q_gr9, ↓q_ls0, ↓q_ls1i, ↓q_ls1r, ↓q_ls1n, ↓q_ls2i, ↓q_ls2r, ↓q_ls2n, ↓q_ls3i, ↓q_ls3r, ↓q_ls3n, ↓q_ls4i, ↓q_ls4r, ↓q_ls4n, ↓q_ls5i, ↓q_ls5r, ↓q_ls5n, ↓q_ls6i, ↓q_ls6r, ↓q_ls6n, ↓q_ls7i, ↓q_ls7r, ↓q_ls7n, ↓q_ls8i, ↓q_ls8r, ↓q_ls8n, ↓q_ls9i, ↓q_ls9r, ↓q_ls9n, q_nd0, q_nd1i, q_nd1r, q_nd1n, q_nd2i, q_nd2r, q_nd2n, q_nd3i, q_nd3r, q_nd3n, q_nd4i, q_nd4r, q_nd4n, q_nd5i, q_nd5r, q_nd5n, q_nd6i, q_nd6r, q_nd6n, q_nd7i, q_nd7r, q_nd7n, q_nd8i, q_nd8r, q_nd8n, q_nd9i, q_nd9r, q_nd9n, q_st0, q_st1, q_st2, q_st3, q_st4, q_st5, q_st6, q_st7, q_st8, q_st9, q_cat_i, q_cat_r, q_cat_n, q_wt0, q_wt1, q_tl0, q_tl1, ↓q_cl1, q_add, q_sub, q_mul, q_nari, q_narb0, q_narb1, q_fiti, q_fitb0, q_fitb1, List.cons_append, List.nil_append, Nat.reduceAdd, Nat.reduceLeDiff, and_self, and_true, true_and, ↓reduceIte, ↓rc0, ↓gf0_0, ↓gf0_1, ↓gf0_2, ↓gf0_3, ↓gf0_4, ↓gf0_5, ↓gf0_6, ↓gf0_7, ↓pf0_7, ft0_7, ↓rc1, ↓gf1_0, ↓pf1_0, ft1_0, ↓gf1_1, ↓pf1_1, ft1_1, ↓gf1_2, ↓gf1_3, ↓gf1_4, ↓gf1_5, ↓gf1_6, ↓gf1_7, ↓gf1_8, ↓gf1_9, ↓gf1_10, ↓gf1_11, ↓gf1_12, ↓rc13, ↓gf13_0, ↓gf13_1, ↓gf13_2, ↓gf13_3, ↓gf13_4, ↓gf13_5, ↓gf13_6, ↓pf13_6, ft13_6, ↓gf13_7, ↓pf13_7, ft13_7, ↓gf13_8, ↓pf13_8, ft13_8, ↓gf13_9, ↓pf13_9, ft13_90, ft13_91, ↓gf13_10, ↓gf13_11, ↓gf13_12, ↓pf13_12, ft13_12, ↓gf13_13, ↓pf13_13, ft13_13, ↓gf13_14, ↓pf13_14, ft13_14, ↓rc21, ↓gf21_0, ↓pf21_0, ft21_0, ↓gf21_1, ↓pf21_1, ft21_1, ↓gf21_2, ↓pf21_2, ft21_2, ↓gf21_3, ↓pf21_3, ft21_3, ↓rc22, ↓gf22_0, ↓gf22_1, ↓gf22_2, ↓rc23, ↓gf23_0, ↓gf23_1, ↓gf23_2, ↓gf23_3, ↓pf23_3, ft23_3, ↓gf23_4, ↓pf23_4, ft23_4, ↓gf23_5, ↓pf23_5, ft23_50, ft23_51, ↓rc145, ↓gf145_0, ↓gf145_1, ↓pf145_1, ft145_1, ↓rc147, ↓gf147_0, ↓gf147_1, ↓pf147_1, ft147_1, ↓rc149, ↓gf149_0, ↓gf149_1, ↓gf149_2, ↓gf149_3, ↓gf149_4, ↓pf149_4, ft149_40, ft149_41, ↓gf149_5, ↓pf149_5, ft149_5, ↓gf149_6, ↓pf149_6, ft149_60, ft149_61, ↓gf149_7, ↓pf149_7, ft149_7, ↓gf149_8, ↓pf149_8, ft149_8, ↓gf149_9, ↓pf149_9, ft149_9, ↓gf149_10, ↓pf149_10, ft149_10, ↓gf149_11, ↓gf149_12, ↓pf149_12, ft149_12, ↓gf149_13, ↓pf149_13, ft149_13, ↓gf149_14, ↓gf149_15, ↓pf149_15, ft149_15, ↓gf149_16, ↓gf149_17, ↓gf149_18, ↓gf149_19, ↓pf149_19, ft149_19, ↓gf149_20, ↓pf149_20, ft149_20, ↓gf149_21, ↓gf149_22, ↓pf149_22, ft149_22, q_M_s, q_M_k, q_M_a, q_P_s, q_P_a, q_toN, q_i00, q_i10, q_j00, q_j10, e, not_true_eq_false, if_false, show ((q_H m K s)).2.1 ≤ ((q_H m K s)).2.2.1 from hK, if_true]
    rfl
end M64
