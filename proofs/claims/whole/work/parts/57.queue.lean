theorem q_cnt_set2 {Q : Nat → Bool} {c : Nat} (hQ : Q c = false) (n : Nat) : q_cnt (q_set Q c) n = q_cnt Q n + (if c < n then 1 else 0) := by
  induction n with
  | zero => rfl
  | succ n ih =>
    rw [q_cnt_succ, q_cnt_succ, ih]
    by_cases h : n = c
    · subst h
      have e1 : q_set Q n n = true := by simp [q_set]
      simp [e1, hQ]
    · have e1 : q_set Q c n = Q n := by simp [q_set, h]
      rw [e1]
      by_cases h2 : c < n
      · rw [if_pos h2, if_pos (show c < n + 1 by omega)]
        omega
      · rw [if_neg h2, if_neg (show ¬ c < n + 1 by omega)]
        omega
theorem q_set_same {Q : Nat → Bool} {c : Nat} (h : Q c = true) : q_set Q c = Q := by
  funext j
  unfold q_set
  by_cases e : j = c
  · subst e
    simp [h]
  · simp [e]
/-- the queue in the memory: the cells in it are those of Q, each once -/
def q_qu (N : Nat) (mm : Nat → Nat → Int) (Q : Nat → Bool) : Prop := (∀ j, j < N → mm 18 j = q_bR Q j) ∧ (0 ≤ mm 13 6 ∧ mm 13 6 < 96) ∧ mm 13 7 = q_cnt Q 96 ∧ (∀ i, i < q_cnt Q 96 → ∃ e : Nat, mm 17 (((mm 13 6).toNat + i) % 96) = e ∧ e < 96 ∧ Q e = true) ∧ ∀ i j, i < j → j < q_cnt Q 96 → mm 17 (((mm 13 6).toNat + i) % 96) ≠ mm 17 (((mm 13 6).toNat + j) % 96)
def q_fq (m mm : Nat → Nat → Int) : Prop := (∀ a, a ≠ 13 → a ≠ 17 → a ≠ 18 → mm a = m a) ∧ ∀ k, k ≠ 6 → k ≠ 7 → mm 13 k = m 13 k
section M57
variable {m : Nat → Nat → Int} {K : Nat × Nat} {s : List Int32}
theorem m510 {N : Nat} {Q : Nat → Bool} {c : Nat} (hc : c < 96) (hcN : c < N) (hq : q_qu N m Q) : ∃ mm, q_fq m mm ∧ q_qu N mm (q_set Q c) ∧ x_m 510 [.ref 13, .int (q_i c)] (q_H m K s) = some (.inl none, q_H mm K s) := by
  obtain ⟨h18, ⟨h60, h61⟩, h7, hen, hin⟩ := hq
  cases hQ : Q c
  · have hcnt := q_cnt_set2 hQ 96
    rw [if_pos hc] at hcnt
    have hle : q_cnt (q_set Q c) 96 ≤ 96 := q_cnt_le _ _
    obtain ⟨st, hst⟩ : ∃ st : Nat, m 13 6 = st := ⟨(m 13 6).toNat, by omega⟩
    rw [hst] at h60 h61 hen hin
    rw [q_toN] at hen hin
    have hst96 : st < 96 := by omega
    generalize hL : q_cnt Q 96 = L at *
    have e0 : m 18 c = 0 := by
      rw [h18 c hcN]
      simp [q_bR, hQ]
    have r96 := q_rem (a := st + L) (by omega) (show q_R (st + L) by unfold q_R; omega) (b := 96) (by omega) (by unfold q_R; omega)
    have z96 : ¬ q_i 96 = 0 := by decide
    have eix : ((st : Int) + L) % 96 = ((st + L) % 96 : Nat) := by omega
    rw [eix] at r96
    have hix : (st + L) % 96 < 96 := by omega
    have x6 : q_M (q_M (q_M m 18 c 1) 17 ((st + L) % 96) c) 13 7 (L + 1 : Nat) 13 6 = (st : Int) := by rw [q_M_k (by decide), q_M_a (by decide), q_M_a (by decide), hst]
    have x17 : q_M (q_M (q_M m 18 c 1) 17 ((st + L) % 96) c) 13 7 (L + 1 : Nat) 17 = q_M (q_M m 18 c 1) 17 ((st + L) % 96) c 17 := q_M_a (by decide)
    refine ⟨q_M (q_M (q_M m 18 c 1) 17 ((st + L) % 96) c) 13 7 (L + 1 : Nat), ⟨fun a a1 a2 a3 => ?_, fun k k1 k2 => ?_⟩, ⟨?_, ?_, ?_, ?_, ?_⟩, ?_⟩
    · rw [q_M_a a1, q_M_a a2, q_M_a a3]
    · rw [q_M_k k2, q_M_a (by decide), q_M_a (by decide)]
    · intro j hj
      rw [q_M_a (by decide), q_M_a (by decide), q_M_u, ← q_bR_set]
      unfold q_upd
      split
      · rfl
      · exact h18 j hj
    · rw [q_M_k (by decide), q_M_a (by decide), q_M_a (by decide), hst]
      omega
    · rw [q_M_s, hcnt]
    · rw [hcnt, x6, q_toN, x17]
      intro i hi
      by_cases h : i = L
      · subst h
        exact ⟨c, q_M_s, hc, by simp [q_set]⟩
      · obtain ⟨e, e1, e2, e3⟩ := hen i (by omega)
        refine ⟨e, ?_, e2, by simp [q_set, e3]⟩
        rw [q_M_k (by omega), q_M_a (by decide)]
        exact e1
    · rw [hcnt, x6, q_toN, x17]
      intro i j hij hj
      have ei : q_M (q_M m 18 c 1) 17 ((st + L) % 96) c 17 ((st + i) % 96) = m 17 ((st + i) % 96) := by rw [q_M_k (by omega), q_M_a (by decide)]
      rw [ei]
      by_cases h : j = L
      · subst h
        rw [q_M_s]
        obtain ⟨e, e1, e2, e3⟩ := hen i (by omega)
        rw [e1]
        intro he
        have : e = c := by omega
        subst this
        rw [hQ] at e3
        cases e3
      · rw [q_M_k (by omega), q_M_a (by decide)]
        exact hin i j hij (by omega)
    · simp (disch := first | rfl | assumption | decide | omega | (unfold q_R; omega)) only [en510, e510_0, e510_1, e510_4, e510_5, e510_6, e510_9, e510_10, e510_13, e510_14, e510_15, e510_16, e510_17, e510_20, e510_21, e510_24, e510_25, e510_28, e510_29, e510_31, e510_32, e510_33, e510_34, e510_35, e510_36, e510_39, e510_40, e510_41, e510_44, ↓q_nv0, ↓q_nv1, ↓q_nv2, ↓q_nv3, ↓q_nv4, ↓q_nv5, ↓q_nv6, ↓q_nv7, ↓q_nv8, ↓q_nv9, ↓q_nv10, ↓q_nv11, ↓q_nv12, ↓q_nv13, ↓q_nv14, ↓q_nv15, ↓q_nv16, ↓q_nv17, ↓q_nv18, ↓q_nv19, ↓q_nv20, ↓q_nv21, ↓q_nv22, ↓q_gi0, ↓q_gi1, ↓q_gi2, ↓q_gi3, ↓q_gi4, ↓q_gi5, ↓q_gi6, ↓q_gi7, ↓q_gi8, ↓q_gi9, ↓q_gr0, ↓q_gr1, ↓q_gr2, ↓q_gr3, ↓q_gr4, ↓q_gr5, ↓q_gr6, ↓q_gr7, ↓q_gr8, ↓q_gr9, ↓q_ls0, ↓q_ls1i, ↓q_ls1r, ↓q_ls1n, ↓q_ls2i, ↓q_ls2r, ↓q_ls2n, ↓q_ls3i, ↓q_ls3r, ↓q_ls3n, ↓q_ls4i, ↓q_ls4r, ↓q_ls4n, ↓q_ls5i, ↓q_ls5r, ↓q_ls5n, ↓q_ls6i, ↓q_ls6r, ↓q_ls6n, ↓q_ls7i, ↓q_ls7r, ↓q_ls7n, ↓q_ls8i, ↓q_ls8r, ↓q_ls8n, ↓q_ls9i, ↓q_ls9r, ↓q_ls9n, q_nd0, q_nd1i, q_nd1r, q_nd1n, q_nd2i, q_nd2r, q_nd2n, q_nd3i, q_nd3r, q_nd3n, q_nd4i, q_nd4r, q_nd4n, q_nd5i, q_nd5r, q_nd5n, q_nd6i, q_nd6r, q_nd6n, q_nd7i, q_nd7r, q_nd7n, q_nd8i, q_nd8r, q_nd8n, q_nd9i, q_nd9r, q_nd9n, q_st0, q_st1, q_st2, q_st3, q_st4, q_st5, q_st6, q_st7, q_st8, q_st9, q_cat_i, q_cat_r, q_cat_n, q_wt0, q_wt1, q_tl0, q_tl1, ↓q_cl1, q_add, q_sub, q_mul, q_nari, q_narb0, q_narb1, q_fiti, q_fitb0, q_fitb1, List.cons_append, List.nil_append, Nat.reduceAdd, Nat.reduceLeDiff, and_self, and_true, true_and, ↓reduceIte, ↓rc0, ↓gf0_0, ↓gf0_1, ↓gf0_2, ↓gf0_3, ↓gf0_4, ↓gf0_5, ↓gf0_6, ↓gf0_7, ↓pf0_7, ft0_7, ↓rc1, ↓gf1_0, ↓pf1_0, ft1_0, ↓gf1_1, ↓pf1_1, ft1_1, ↓gf1_2, ↓gf1_3, ↓gf1_4, ↓gf1_5, ↓gf1_6, ↓gf1_7, ↓gf1_8, ↓gf1_9, ↓gf1_10, ↓gf1_11, ↓gf1_12, ↓rc13, ↓gf13_0, ↓gf13_1, ↓gf13_2, ↓gf13_3, ↓gf13_4, ↓gf13_5, ↓gf13_6, ↓pf13_6, ft13_6, ↓gf13_7, ↓pf13_7, ft13_7, ↓gf13_8, ↓pf13_8, ft13_8, ↓gf13_9, ↓pf13_9, ft13_90, ft13_91, ↓gf13_10, ↓gf13_11, ↓gf13_12, ↓pf13_12, ft13_12, ↓gf13_13, ↓pf13_13, ft13_13, ↓gf13_14, ↓pf13_14, ft13_14, ↓rc21, ↓gf21_0, ↓pf21_0, ft21_0, ↓gf21_1, ↓pf21_1, ft21_1, ↓gf21_2, ↓pf21_2, ft21_2, ↓gf21_3, ↓pf21_3, ft21_3, ↓rc22, ↓gf22_0, ↓gf22_1, ↓gf22_2, ↓rc23, ↓gf23_0, ↓gf23_1, ↓gf23_2, ↓gf23_3, ↓pf23_3, ft23_3, ↓gf23_4, ↓pf23_4, ft23_4, ↓gf23_5, ↓pf23_5, ft23_50, ft23_51, ↓rc145, ↓gf145_0, ↓gf145_1, ↓pf145_1, ft145_1, ↓rc147, ↓gf147_0, ↓gf147_1, ↓pf147_1, ft147_1, ↓rc149, ↓gf149_0, ↓gf149_1, ↓gf149_2, ↓gf149_3, ↓gf149_4, ↓pf149_4, ft149_40, ft149_41, ↓gf149_5, ↓pf149_5, ft149_5, ↓gf149_6, ↓pf149_6, ft149_60, ft149_61, ↓gf149_7, ↓pf149_7, ft149_7, ↓gf149_8, ↓pf149_8, ft149_8, ↓gf149_9, ↓pf149_9, ft149_9, ↓gf149_10, ↓pf149_10, ft149_10, ↓gf149_11, ↓gf149_12, ↓pf149_12, ft149_12, ↓gf149_13, ↓pf149_13, ft149_13, ↓gf149_14, ↓gf149_15, ↓pf149_15, ft149_15, ↓gf149_16, ↓gf149_17, ↓gf149_18, ↓gf149_19, ↓pf149_19, ft149_19, ↓gf149_20, ↓pf149_20, ft149_20, ↓gf149_21, ↓gf149_22, ↓pf149_22, ft149_22, ↓ra2, ↓wa2, ↓ln2, ↓ra3, ↓wa3, ↓ln3, ↓ra4, ↓wa4, ↓ln4, ↓ra5, ↓wa5, ↓ln5, ↓ra6, ↓wa6, ↓ln6, ↓ra7, ↓wa7, ↓ln7, ↓ra8, ↓wa8, ↓ln8, ↓ra9, ↓wa9, ↓ln9, ↓ra10, ↓wa10, ↓ln10, ↓ra11, ↓wa11, ↓ln11, ↓ra12, ↓wa12, ↓ln12, ↓ra14, ↓wa14, ↓ln14, ↓ra15, ↓wa15, ↓ln15, ↓ra16, ↓wa16, ↓ln16, ↓ra17, ↓wa17, ↓ln17, ↓ra18, ↓wa18, ↓ln18, ↓ra19, ↓wa19, ↓ln19, ↓ra20, ↓wa20, ↓ln20, ↓ra146, ↓wa146, ↓ln146, ↓ra148, ↓wa148, ↓ln148, ↓ra150, ↓wa150, ↓ln150, ↓ra151, ↓wa151, ↓ln151, ↓ra152, ↓wa152, ↓ln152, ↓ra153, ↓wa153, ↓ln153, ↓ra154, ↓wa154, ↓ln154, ↓ra155, ↓wa155, ↓ln155, ↓ra156, ↓wa156, ↓ln156, ↓ra157, ↓wa157, ↓ln157, ↓ra158, ↓wa158, ↓ln158, ↓ra159, ↓wa159, ↓ln159, q_M_s, q_M_k, q_M_a, q_P_s, q_P_a, q_toN, q_i00, q_i10, q_j00, q_j10, e0, not_true_eq_false, if_false, q_nb1, hst, h7, z96, r96]
      rfl
  · refine ⟨m, ⟨fun _ _ _ _ => rfl, fun _ _ _ => rfl⟩, ?_, ?_⟩
    · rw [q_set_same hQ]
      exact ⟨h18, ⟨h60, h61⟩, h7, hen, hin⟩
    · have e1 : m 18 c = 1 := by
        rw [h18 c hcN]
        simp [q_bR, hQ]
      simp (disch := first | rfl | assumption | decide | omega | (unfold q_R; omega)) only [en510, e510_0, e510_1, e510_4, e510_5, e510_6, e510_9, e510_10, e510_13, e510_14, e510_15, e510_16, e510_17, e510_20, e510_21, e510_24, e510_25, e510_28, e510_29, e510_31, e510_32, e510_33, e510_34, e510_35, e510_36, e510_39, e510_40, e510_41, e510_44, ↓q_nv0, ↓q_nv1, ↓q_nv2, ↓q_nv3, ↓q_nv4, ↓q_nv5, ↓q_nv6, ↓q_nv7, ↓q_nv8, ↓q_nv9, ↓q_nv10, ↓q_nv11, ↓q_nv12, ↓q_nv13, ↓q_nv14, ↓q_nv15, ↓q_nv16, ↓q_nv17, ↓q_nv18, ↓q_nv19, ↓q_nv20, ↓q_nv21, ↓q_nv22, ↓q_gi0, ↓q_gi1, ↓q_gi2, ↓q_gi3, ↓q_gi4, ↓q_gi5, ↓q_gi6, ↓q_gi7, ↓q_gi8, ↓q_gi9, ↓q_gr0, ↓q_gr1, ↓q_gr2, ↓q_gr3, ↓q_gr4, ↓q_gr5, ↓q_gr6, ↓q_gr7, ↓q_gr8, ↓q_gr9, ↓q_ls0, ↓q_ls1i, ↓q_ls1r, ↓q_ls1n, ↓q_ls2i, ↓q_ls2r, ↓q_ls2n, ↓q_ls3i, ↓q_ls3r, ↓q_ls3n, ↓q_ls4i, ↓q_ls4r, ↓q_ls4n, ↓q_ls5i, ↓q_ls5r, ↓q_ls5n, ↓q_ls6i, ↓q_ls6r, ↓q_ls6n, ↓q_ls7i, ↓q_ls7r, ↓q_ls7n, ↓q_ls8i, ↓q_ls8r, ↓q_ls8n, ↓q_ls9i, ↓q_ls9r, ↓q_ls9n, q_nd0, q_nd1i, q_nd1r, q_nd1n, q_nd2i, q_nd2r, q_nd2n, q_nd3i, q_nd3r, q_nd3n, q_nd4i, q_nd4r, q_nd4n, q_nd5i, q_nd5r, q_nd5n, q_nd6i, q_nd6r, q_nd6n, q_nd7i, q_nd7r, q_nd7n, q_nd8i, q_nd8r, q_nd8n, q_nd9i, q_nd9r, q_nd9n, q_st0, q_st1, q_st2, q_st3, q_st4, q_st5, q_st6, q_st7, q_st8, q_st9, q_cat_i, q_cat_r, q_cat_n, q_wt0, q_wt1, q_tl0, q_tl1, ↓q_cl1, q_add, q_sub, q_mul, q_nari, q_narb0, q_narb1, q_fiti, q_fitb0, q_fitb1, List.cons_append, List.nil_append, Nat.reduceAdd, Nat.reduceLeDiff, and_self, and_true, true_and, ↓reduceIte, ↓rc0, ↓gf0_0, ↓gf0_1, ↓gf0_2, ↓gf0_3, ↓gf0_4, ↓gf0_5, ↓gf0_6, ↓gf0_7, ↓pf0_7, ft0_7, ↓rc1, ↓gf1_0, ↓pf1_0, ft1_0, ↓gf1_1, ↓pf1_1, ft1_1, ↓gf1_2, ↓gf1_3, ↓gf1_4, ↓gf1_5, ↓gf1_6, ↓gf1_7, ↓gf1_8, ↓gf1_9, ↓gf1_10, ↓gf1_11, ↓gf1_12, ↓rc13, ↓gf13_0, ↓gf13_1, ↓gf13_2, ↓gf13_3, ↓gf13_4, ↓gf13_5, ↓gf13_6, ↓pf13_6, ft13_6, ↓gf13_7, ↓pf13_7, ft13_7, ↓gf13_8, ↓pf13_8, ft13_8, ↓gf13_9, ↓pf13_9, ft13_90, ft13_91, ↓gf13_10, ↓gf13_11, ↓gf13_12, ↓pf13_12, ft13_12, ↓gf13_13, ↓pf13_13, ft13_13, ↓gf13_14, ↓pf13_14, ft13_14, ↓rc21, ↓gf21_0, ↓pf21_0, ft21_0, ↓gf21_1, ↓pf21_1, ft21_1, ↓gf21_2, ↓pf21_2, ft21_2, ↓gf21_3, ↓pf21_3, ft21_3, ↓rc22, ↓gf22_0, ↓gf22_1, ↓gf22_2, ↓rc23, ↓gf23_0, ↓gf23_1, ↓gf23_2, ↓gf23_3, ↓pf23_3, ft23_3, ↓gf23_4, ↓pf23_4, ft23_4, ↓gf23_5, ↓pf23_5, ft23_50, ft23_51, ↓rc145, ↓gf145_0, ↓gf145_1, ↓pf145_1, ft145_1, ↓rc147, ↓gf147_0, ↓gf147_1, ↓pf147_1, ft147_1, ↓rc149, ↓gf149_0, ↓gf149_1, ↓gf149_2, ↓gf149_3, ↓gf149_4, ↓pf149_4, ft149_40, ft149_41, ↓gf149_5, ↓pf149_5, ft149_5, ↓gf149_6, ↓pf149_6, ft149_60, ft149_61, ↓gf149_7, ↓pf149_7, ft149_7, ↓gf149_8, ↓pf149_8, ft149_8, ↓gf149_9, ↓pf149_9, ft149_9, ↓gf149_10, ↓pf149_10, ft149_10, ↓gf149_11, ↓gf149_12, ↓pf149_12, ft149_12, ↓gf149_13, ↓pf149_13, ft149_13, ↓gf149_14, ↓gf149_15, ↓pf149_15, ft149_15, ↓gf149_16, ↓gf149_17, ↓gf149_18, ↓gf149_19, ↓pf149_19, ft149_19, ↓gf149_20, ↓pf149_20, ft149_20, ↓gf149_21, ↓gf149_22, ↓pf149_22, ft149_22, ↓ra2, ↓wa2, ↓ln2, ↓ra3, ↓wa3, ↓ln3, ↓ra4, ↓wa4, ↓ln4, ↓ra5, ↓wa5, ↓ln5, ↓ra6, ↓wa6, ↓ln6, ↓ra7, ↓wa7, ↓ln7, ↓ra8, ↓wa8, ↓ln8, ↓ra9, ↓wa9, ↓ln9, ↓ra10, ↓wa10, ↓ln10, ↓ra11, ↓wa11, ↓ln11, ↓ra12, ↓wa12, ↓ln12, ↓ra14, ↓wa14, ↓ln14, ↓ra15, ↓wa15, ↓ln15, ↓ra16, ↓wa16, ↓ln16, ↓ra17, ↓wa17, ↓ln17, ↓ra18, ↓wa18, ↓ln18, ↓ra19, ↓wa19, ↓ln19, ↓ra20, ↓wa20, ↓ln20, ↓ra146, ↓wa146, ↓ln146, ↓ra148, ↓wa148, ↓ln148, ↓ra150, ↓wa150, ↓ln150, ↓ra151, ↓wa151, ↓ln151, ↓ra152, ↓wa152, ↓ln152, ↓ra153, ↓wa153, ↓ln153, ↓ra154, ↓wa154, ↓ln154, ↓ra155, ↓wa155, ↓ln155, ↓ra156, ↓wa156, ↓ln156, ↓ra157, ↓wa157, ↓ln157, ↓ra158, ↓wa158, ↓ln158, ↓ra159, ↓wa159, ↓ln159, q_M_s, q_M_k, q_M_a, q_P_s, q_P_a, q_toN, q_i00, q_i10, q_j00, q_j10, e1, not_false_eq_true, if_true]
/-- what holds in the class's search; ex: what is not seen yet -/
def q_si (P al : Nat → Prop) (W : Nat → Nat → Int) (D : Nat → Int) (Q : Nat → Bool) (ex : Nat → Nat → Prop) : Prop :=
  (∀ c, c < 96 → 0 ≤ D c ∧ (D c = 1000000 ∨ D c ≤ 11 * q_cnt (fun j => decide (D j < 1000000)) 96)) ∧ (∀ c, c < 96 → P c → D c = 0) ∧ (∀ X, q_fe P al W X → ∀ c, c < 96 → D c < 1000000 → X c ≤ D c) ∧
  ∀ u w c : Nat, u < 96 → w < 5 → c < 96 → q_bs u w = c → al c → Q u = false → D u < 1000000 → ex u w ∨ D c ≤ D u + W c w
def q_qf (D : Nat → Int) (Q : Nat → Bool) : Prop := ∀ c, c < 96 → Q c = true → D c < 1000000
theorem q_qf_upd {D : Nat → Int} {Q : Nat → Bool} {c : Nat} {v : Int} (h : q_qf D Q) (hv : v < 1000000) : q_qf (q_upd D c v) (q_set Q c) := by
  intro j hj hQ
  unfold q_upd
  split
  · exact hv
  · rename_i e
    refine h j hj ?_
    simp [q_set, e] at hQ
    exact hQ
def q_ph (D : Nat → Int) : Nat := q_su (fun c => if D c < 1000000 then D c else 1100) 96
theorem q_si_upd {P al : Nat → Prop} {W : Nat → Nat → Int} {D : Nat → Int} {Q : Nat → Bool} {ex : Nat → Nat → Prop} (h : q_si P al W D Q ex) (hW : ∀ c w, 0 ≤ W c w ∧ W c w ≤ 11) (hWo : ∀ c w, w < 5 → W c (q_op w) = W c w) {u w c : Nat} (hu : u < 96) (hw : w < 5) (hc : c < 96) (hb : q_bs u w = c) (ha : al c) (hF : D u < 1000000) (hl : D u + W c w < D c) :
    q_si P al W (q_upd D c (D u + W c w)) (q_set Q c) ex ∧ q_ph (q_upd D c (D u + W c w)) + q_cnt (q_set Q c) 96 ≤ q_ph D + q_cnt Q 96 := by
  obtain ⟨h1, h2, h3, h4⟩ := h
  have hne : u ≠ c := fun e => q_bs_ne (c := (u : Int)) (by omega) (by omega) w (by rw [hb, e])
  have hu1 := h1 u hu
  have hc1 := h1 c hc
  have hwr := hW c w
  have hPc : ¬ P c := fun z => by have := h2 c hc z; omega
  have hbo := q_bs_op (c := (u : Int)) (w := w) (by omega) (by omega) hw (by omega)
  rw [hb] at hbo
  have hcF : q_cnt (fun j => decide (D j < 1000000)) 96 ≤ 96 := q_cnt_le _ _
  have hFc : (fun j => decide (q_upd D c (D u + W c w) j < 1000000)) = q_set (fun j => decide (D j < 1000000)) c := by
    funext j
    unfold q_upd q_set
    by_cases e : j = c
    · subst e
      have : D u + W j w < 1000000 := by omega
      simp [this]
    · simp [e]
  have hcnt : (D c < 1000000 ∧ q_cnt (q_set (fun j => decide (D j < 1000000)) c) 96 = q_cnt (fun j => decide (D j < 1000000)) 96) ∨ (D c = 1000000 ∧ q_cnt (q_set (fun j => decide (D j < 1000000)) c) 96 = q_cnt (fun j => decide (D j < 1000000)) 96 + 1) := by
    by_cases e : D c < 1000000
    · left
      refine ⟨e, ?_⟩
      rw [q_set_same (decide_eq_true e)]
    · right
      refine ⟨by omega, ?_⟩
      have := q_cnt_set2 (Q := fun j => decide (D j < 1000000)) (c := c) (decide_eq_false e) 96
      rw [if_pos hc] at this
      exact this
  have hcF2 : q_cnt (q_set (fun j => decide (D j < 1000000)) c) 96 ≤ 96 := q_cnt_le _ _
  refine ⟨⟨fun j hj => ?_, fun j hj hp => ?_, fun X hX j hj hF2 => ?_, fun u' w' c' hu' hw' hc' hb' ha' hQ' hF' => ?_⟩, ?_⟩
  · rw [hFc]
    unfold q_upd
    by_cases e : j = c
    · subst e
      rw [if_pos rfl]
      omega
    · rw [if_neg e]
      have := h1 j hj
      omega
  · unfold q_upd
    by_cases e : j = c
    · subst e
      exact absurd hp hPc
    · rw [if_neg e]
      exact h2 j hj hp
  · unfold q_upd at hF2 ⊢
    by_cases e : j = c
    · subst e
      rw [if_pos rfl]
      have x1 := h3 X hX u hu hF
      have x2 := hX.2.2 j (q_op w) u hc (q_op_lt w) hu hbo ha hPc (by omega)
      rw [hWo j w hw] at x2
      omega
    · rw [if_neg e] at hF2 ⊢
      exact h3 X hX j hj hF2
  · have hne' : u' ≠ c := fun e => by
      subst e
      simp [q_set] at hQ'
    have hQ2 : Q u' = false := by
      simp [q_set] at hQ'
      exact hQ'.2
    unfold q_upd at hF' ⊢
    rw [if_neg hne'] at hF' ⊢
    have h5 := h4 u' w' c' hu' hw' hc' hb' ha' hQ2 hF'
    by_cases e : c' = c
    · subst e
      rw [if_pos rfl]
      rcases h5 with h5 | h5
      · exact Or.inl h5
      · exact Or.inr (by omega)
    · rw [if_neg e]
      exact h5
  · have hq : q_cnt (q_set Q c) 96 ≤ q_cnt Q 96 + 1 := by
      cases hQ : Q c
      · have := q_cnt_set2 hQ 96
        rw [if_pos hc] at this
        omega
      · rw [q_set_same hQ]
        omega
    have e : (fun j => if q_upd D c (D u + W c w) j < 1000000 then q_upd D c (D u + W c w) j else 1100) = q_upd (fun j => if D j < 1000000 then D j else 1100) c (D u + W c w) := by
      funext j
      unfold q_upd
      by_cases e : j = c
      · subst e
        rw [if_pos rfl, if_pos rfl, if_pos (by omega)]
      · rw [if_neg e, if_neg e]
    have := q_su_lt (D := fun j => if D j < 1000000 then D j else 1100) (c := c) (v := D u + W c w) (by omega) (by
      try dsimp only
      split <;> omega) (n := 96) hc
    unfold q_ph
    rw [e]
    omega
end M57
