theorem q_upd_o {f : Nat → Int} {k j : Nat} {x : Int} (h : j ≠ k) : q_upd f k x j = f j := if_neg h
theorem q_upd_s {f : Nat → Int} {k : Nat} {x : Int} : q_upd f k x k = x := if_pos rfl
theorem q_cnt_congr {P Q : Nat → Bool} {n : Nat} (h : ∀ i, i < n → P i = Q i) : q_cnt P n = q_cnt Q n := by
  induction n with
  | zero => rfl
  | succ n ih => rw [q_cnt_succ, q_cnt_succ, ih fun i hi => h i (by omega), h n (by omega)]
theorem q_is_upd {g : Nat → Int} {c : Nat} {x : Int} {j : Int} (h0 : 0 ≤ j) : q_is (q_upd g (55 + c) x) j = if j = c then x else q_is g j := by
  unfold q_is
  by_cases e : j = c
  · rw [if_pos e, show (55 + j).toNat = 55 + c by omega, q_upd_s]
  · rw [if_neg e, q_upd_o (by omega)]
theorem q_is_nat {g : Nat → Int} {c : Nat} : q_is g c = g (55 + c) := congrArg g (by omega)
theorem q_W_cell {g : Nat → Int} {c : Nat} {x : Int} (hW : q_W g) (hc : c < 96) (h0 : 0 ≤ g (55 + c) ∧ g (55 + c) ≤ 1) (hx : x = 0 ∨ x = 1) : q_W (q_upd g (55 + c) x) := by
  obtain ⟨w1, w2, w3, w4, w5, w6, w7, w8, w9, w10, w11, w12, w13⟩ := hW
  have hi : ∀ j : Int, 0 ≤ j → 2 ≤ q_is g j → q_is (q_upd g (55 + c) x) j = q_is g j := fun j j0 h => by
    rw [q_is_upd j0, if_neg]
    intro e
    rw [e, q_is_nat] at h
    omega
  refine ⟨fun k => ?_, ?_, fun n hn => ?_, fun n hn => ?_, fun n hn => ?_, fun n hn => ?_, fun n k hn hk => ?_, fun n k hn hk => ?_, fun n k hn h2 hk => ?_, fun j hj => ?_, fun j n hj hn h2 => ?_, fun p hp h2 => ?_, fun p hp => ?_⟩
  · unfold q_upd
    split
    · unfold q_R
      omega
    · exact w1 k
  · rw [q_upd_o (by omega)]
    exact w2
  · rw [q_upd_o (by omega)]
    exact w3 n hn
  · rw [q_upd_o (by omega)]
    exact w4 n hn
  · rw [q_upd_o (by omega)]
    exact w5 n hn
  · rw [q_upd_o (by omega)]
    exact w6 n hn
  · rw [q_upd_o (by omega)]
    exact w7 n k hn hk
  · rw [q_upd_o (by omega)] at hk
    have hmany := w4 n hn
    rw [q_upd_o (by omega)]
    have h7 := w7 n k hn (by omega)
    have h8 := w8 n k hn hk
    rw [hi _ (by omega) (by omega), hi _ (by omega) (by omega)]
    exact h8
  · rw [q_upd_o (by omega)] at h2 ⊢
    exact w9 n k hn h2 hk
  · have h9 := w10 j hj
    rw [q_upd_o (show 0 ≠ 55 + c by omega)]
    unfold q_upd
    split <;> omega
  · rw [q_upd_o (by omega)]
    unfold q_upd at h2
    split at h2
    · omega
    · exact w11 j n hj hn h2
  · have hp0 : ∀ j : Nat, q_pin (q_upd g (55 + c) x) j → q_pin g j := fun j hj => by
      unfold q_pin at hj ⊢
      rw [q_is_upd (by omega)] at hj
      split at hj
      · omega
      · exact hj
    have h3 : q_pin g p ∨ q_pin g (p + 48) := by
      rcases h2 with h2 | h2
      · exact Or.inl (hp0 p h2)
      · right
        have := hp0 (p + 48) (by rw [show ((p + 48 : Nat) : Int) = (p : Int) + 48 by omega]; exact h2)
        rw [show ((p + 48 : Nat) : Int) = (p : Int) + 48 by omega] at this
        exact this
    have h4 := w12 p hp h3
    have h5 : 2 ≤ g (55 + p) := by
      rcases h3 with h3 | h3
      · have := h3.1
        rw [q_is_nat] at this
        exact this
      · have := h3.1
        rw [show q_is g ((p : Int) + 48) = g (103 + p) from congrArg g (by omega)] at this
        omega
    have e1 : 55 + p ≠ 55 + c := fun e => by
      rw [e] at h5
      omega
    have e2 : 103 + p ≠ 55 + c := fun e => by
      rw [e] at h4
      omega
    rw [q_upd_o e1, q_upd_o e2]
    exact h4
  · have h9 := w13 p hp
    rw [q_upd_o (show 151 + p ≠ 55 + c by omega)]
    refine ⟨h9.1, h9.2.1, fun h => ?_⟩
    have h10 := h9.2.2 h
    have e1 : 55 + p ≠ 55 + c := fun e => by
      rw [e] at h10
      omega
    have e2 : 103 + p ≠ 55 + c := fun e => by
      rw [e] at h10
      omega
    rw [q_upd_o e1, q_upd_o e2]
    exact h10
theorem q_Z_upd {g : Nat → Int} {k : Nat} {x : Int} (h : q_Z g) (hk : k < 199) : q_Z (q_upd g k x) := fun j hj => by
  rw [q_upd_o (by omega)]
  exact h j hj
/-- the board after one cell has changed between free and wall -/
theorem q_Bd_cell {m mm : Nat → Nat → Int} {g : Nat → Int} {c : Nat} {x y : Int} (hB : q_Bd m 1 g) (hW : q_W g) (hc : c < 96) (h0 : 0 ≤ g (55 + c) ∧ g (55 + c) ≤ 1) (hx : x = 0 ∨ x = 1) (hy : y = if x = 0 then -1 else -2)
    (h1 : mm 1 0 = m 1 0) (h11 : mm 1 1 = q_cnt (fun j => decide (q_upd g (55 + c) x (55 + j) = 1)) 96) (h10 : mm 10 = q_upd (m 10) c y) (hf : ∀ a, 1 < a → a < 13 → a ≠ 10 → mm a = m a) : q_Bd mm 1 (q_upd g (55 + c) x) := by
  obtain ⟨b1, b2, b3, b4, b5, b6, b7, b8, b9, b10, b11, b12, b13⟩ := hB
  have hw := q_W_cell hW hc h0 hx
  refine ⟨?_, h11, fun n hn => ?_, fun n hn => ?_, fun n hn => ?_, fun n hn => ?_, fun n hn => ?_, fun n hn => ?_, fun n hn => ?_, fun n k hn hk => ?_, fun j hj => ?_, fun j hj => ?_, fun p hp => ?_⟩
  · rw [h1, q_upd_o (by omega)]
    exact b1
  · rw [hf _ (by decide) (by decide) (by decide), q_upd_o (by omega)]
    exact b3 n hn
  · rw [hf _ (by decide) (by decide) (by decide), q_upd_o (by omega)]
    exact b4 n hn
  · rw [hf _ (by decide) (by decide) (by decide), q_upd_o (by omega)]
    exact b5 n hn
  · rw [hf _ (by decide) (by decide) (by decide), q_upd_o (by omega)]
    exact b6 n hn
  · rw [hf _ (by decide) (by decide) (by decide), b7 n hn]
    unfold q_wir
    refine congrArg Nat.cast (q_cnt_congr fun i hi => ?_)
    by_cases e : i = c
    · subst e
      rw [q_upd_s, decide_eq_false (by omega), decide_eq_false (by omega)]
    · rw [q_upd_o (by omega)]
  · rw [hf _ (by decide) (by decide) (by decide), b8 n hn]
    unfold q_hls
    refine congrArg Nat.cast (q_cnt_congr fun i hi => ?_)
    rw [q_upd_o (by omega)]
  · rw [hf _ (by decide) (by decide) (by decide), q_upd_o (by omega)]
    exact b9 n hn
  · rw [hf _ (by decide) (by decide) (by decide), q_upd_o (by omega)]
    exact b10 n k hn hk
  · rw [show (1 + 9 : Nat) = 10 from rfl, h10]
    unfold q_hl
    rw [q_is_upd (by omega)]
    by_cases e : j = c
    · subst e
      rw [q_upd_s, if_pos rfl, hy]
      rcases hx with rfl | rfl <;> rfl
    · rw [q_upd_o e, if_neg (show ¬ ((j : Int) = (c : Int)) by omega)]
      exact b11 j hj
  · rw [hf _ (by decide) (by decide) (by decide), b12 j hj]
    refine q_b_iff ?_
    unfold q_pin
    rw [q_is_upd (by omega)]
    by_cases e : j = c
    · subst e
      rw [if_pos rfl, q_is_nat]
      omega
    · rw [if_neg (by omega)]
  · rw [hf _ (by decide) (by decide) (by decide), q_upd_o (by omega)]
    exact b13 p hp
section M80
variable {m : Nat → Nat → Int} {K : Nat × Nat} {s : List Int32}
theorem q_Ms_P {g' : Nat → Int} : q_Ms m (q_P (q_ks m 150) 150 g') g' := by
  refine ⟨q_P_s, q_P_a (by decide), ?_, ?_, fun a a1 a2 a3 _ _ _ => ?_, fun k k1 k2 _ => ?_⟩
  · rw [q_P_a (by decide), q_ks_7]
  · rw [q_P_a (by decide)]
  · rw [q_P_a a2, q_ks_a a1 a3]
  · rw [q_P_a (by decide), q_ks_k k1 k2]
theorem m107 {g : Nat → Int} {c : Int} (hB : q_Bd m 1 g) (hW : q_W g) (h0 : 0 ≤ c) (h1 : c < 96) (hne : q_is g c ≠ 0) : x_m 107 [.ref 22, .int (q_i c)] (q_H m K s) = some (.inl (some (.int (q_i (-1)))), q_H (q_M (q_M (q_M m 21 0 5) 21 1 (q_net g c)) 21 2 (m 21 3)) K s) := by
  have eh : m 10 c.toNat = q_hl g c := q_Bd_held hB h0 h1
  have hg := q_hl_ge (q_W_cells hW) h0 h1
  have hcc := q_W_cells hW c.toNat (by omega)
  have ei : q_is g c = g (55 + c.toNat) := congrArg g (by omega)
  have e401 := m401 (m := m) (K := K) (s := s) (r := 5) (d := q_net g c)
  by_cases hw : q_is g c = 1
  · have h2 : q_hl g c = -2 := by
      unfold q_hl
      rw [if_neg hne, if_pos hw]
    have h3 : q_net g c = -1 := by
      unfold q_net
      rw [if_pos (by omega)]
    rw [h3] at e401 ⊢
    simp (disch := first | rfl | assumption | decide | omega | (unfold q_R; omega)) only [en107, e107_0, e107_1, e107_4, e107_7, e107_8, e107_9, e107_10, e107_11, e107_14, e107_15, e107_16, e107_18, e107_21, e107_22, e107_25, e107_26, e107_29, ↓q_nv0, ↓q_nv1, ↓q_nv2, ↓q_nv3, ↓q_nv4, ↓q_nv5, ↓q_nv6, ↓q_nv7, ↓q_nv8, ↓q_nv9, ↓q_nv10, ↓q_nv11, ↓q_nv12, ↓q_nv13, ↓q_nv14, ↓q_nv15, ↓q_nv16, ↓q_nv17, ↓q_nv18, ↓q_nv19, ↓q_nv20, ↓q_nv21, ↓q_nv22, ↓q_gi0, ↓q_gi1, ↓q_gi2, ↓q_gi3, ↓q_gi4, ↓q_gi5, ↓q_gi6, ↓q_gi7, ↓q_gi8, ↓q_gi9, ↓q_gr0, ↓q_gr1, ↓q_gr2, ↓q_gr3, ↓q_gr4, ↓q_gr5, ↓q_gr6, ↓q_gr7, ↓q_gr8, ↓q_gr9, ↓q_ls0, ↓q_ls1i, ↓q_ls1r, ↓q_ls1n, ↓q_ls2i, ↓q_ls2r, ↓q_ls2n, ↓q_ls3i, ↓q_ls3r, ↓q_ls3n, ↓q_ls4i, ↓q_ls4r, ↓q_ls4n, ↓q_ls5i, ↓q_ls5r, ↓q_ls5n, ↓q_ls6i, ↓q_ls6r, ↓q_ls6n, ↓q_ls7i, ↓q_ls7r, ↓q_ls7n, ↓q_ls8i, ↓q_ls8r, ↓q_ls8n, ↓q_ls9i, ↓q_ls9r, ↓q_ls9n, q_nd0, q_nd1i, q_nd1r, q_nd1n, q_nd2i, q_nd2r, q_nd2n, q_nd3i, q_nd3r, q_nd3n, q_nd4i, q_nd4r, q_nd4n, q_nd5i, q_nd5r, q_nd5n, q_nd6i, q_nd6r, q_nd6n, q_nd7i, q_nd7r, q_nd7n, q_nd8i, q_nd8r, q_nd8n, q_nd9i, q_nd9r, q_nd9n, q_st0, q_st1, q_st2, q_st3, q_st4, q_st5, q_st6, q_st7, q_st8, q_st9, q_cat_i, q_cat_r, q_cat_n, q_wt0, q_wt1, q_tl0, q_tl1, ↓q_cl1, q_add, q_sub, q_mul, q_nari, q_narb0, q_narb1, q_fiti, q_fitb0, q_fitb1, List.cons_append, List.nil_append, Nat.reduceAdd, Nat.reduceLeDiff, and_self, and_true, true_and, ↓reduceIte, ↓rc0, ↓gf0_0, ↓gf0_1, ↓gf0_2, ↓gf0_3, ↓gf0_4, ↓gf0_5, ↓gf0_6, ↓gf0_7, ↓pf0_7, ft0_7, ↓rc1, ↓gf1_0, ↓pf1_0, ft1_0, ↓gf1_1, ↓pf1_1, ft1_1, ↓gf1_2, ↓gf1_3, ↓gf1_4, ↓gf1_5, ↓gf1_6, ↓gf1_7, ↓gf1_8, ↓gf1_9, ↓gf1_10, ↓gf1_11, ↓gf1_12, ↓rc13, ↓gf13_0, ↓gf13_1, ↓gf13_2, ↓gf13_3, ↓gf13_4, ↓gf13_5, ↓gf13_6, ↓pf13_6, ft13_6, ↓gf13_7, ↓pf13_7, ft13_7, ↓gf13_8, ↓pf13_8, ft13_8, ↓gf13_9, ↓pf13_9, ft13_90, ft13_91, ↓gf13_10, ↓gf13_11, ↓gf13_12, ↓pf13_12, ft13_12, ↓gf13_13, ↓pf13_13, ft13_13, ↓gf13_14, ↓pf13_14, ft13_14, ↓rc21, ↓gf21_0, ↓pf21_0, ft21_0, ↓gf21_1, ↓pf21_1, ft21_1, ↓gf21_2, ↓pf21_2, ft21_2, ↓gf21_3, ↓pf21_3, ft21_3, ↓rc22, ↓gf22_0, ↓gf22_1, ↓gf22_2, ↓rc23, ↓gf23_0, ↓gf23_1, ↓gf23_2, ↓gf23_3, ↓pf23_3, ft23_3, ↓gf23_4, ↓pf23_4, ft23_4, ↓gf23_5, ↓pf23_5, ft23_50, ft23_51, ↓rc145, ↓gf145_0, ↓gf145_1, ↓pf145_1, ft145_1, ↓rc147, ↓gf147_0, ↓gf147_1, ↓pf147_1, ft147_1, ↓rc149, ↓gf149_0, ↓gf149_1, ↓gf149_2, ↓gf149_3, ↓gf149_4, ↓pf149_4, ft149_40, ft149_41, ↓gf149_5, ↓pf149_5, ft149_5, ↓gf149_6, ↓pf149_6, ft149_60, ft149_61, ↓gf149_7, ↓pf149_7, ft149_7, ↓gf149_8, ↓pf149_8, ft149_8, ↓gf149_9, ↓pf149_9, ft149_9, ↓gf149_10, ↓pf149_10, ft149_10, ↓gf149_11, ↓gf149_12, ↓pf149_12, ft149_12, ↓gf149_13, ↓pf149_13, ft149_13, ↓gf149_14, ↓gf149_15, ↓pf149_15, ft149_15, ↓gf149_16, ↓gf149_17, ↓gf149_18, ↓gf149_19, ↓pf149_19, ft149_19, ↓gf149_20, ↓pf149_20, ft149_20, ↓gf149_21, ↓gf149_22, ↓pf149_22, ft149_22, ↓ra2, ↓wa2, ↓ln2, ↓ra3, ↓wa3, ↓ln3, ↓ra4, ↓wa4, ↓ln4, ↓ra5, ↓wa5, ↓ln5, ↓ra6, ↓wa6, ↓ln6, ↓ra7, ↓wa7, ↓ln7, ↓ra8, ↓wa8, ↓ln8, ↓ra9, ↓wa9, ↓ln9, ↓ra10, ↓wa10, ↓ln10, ↓ra11, ↓wa11, ↓ln11, ↓ra12, ↓wa12, ↓ln12, ↓ra14, ↓wa14, ↓ln14, ↓ra15, ↓wa15, ↓ln15, ↓ra16, ↓wa16, ↓ln16, ↓ra17, ↓wa17, ↓ln17, ↓ra18, ↓wa18, ↓ln18, ↓ra19, ↓wa19, ↓ln19, ↓ra20, ↓wa20, ↓ln20, ↓ra146, ↓wa146, ↓ln146, ↓ra148, ↓wa148, ↓ln148, ↓ra150, ↓wa150, ↓ln150, ↓ra151, ↓wa151, ↓ln151, ↓ra152, ↓wa152, ↓ln152, ↓ra153, ↓wa153, ↓ln153, ↓ra154, ↓wa154, ↓ln154, ↓ra155, ↓wa155, ↓ln155, ↓ra156, ↓wa156, ↓ln156, ↓ra157, ↓wa157, ↓ln157, ↓ra158, ↓wa158, ↓ln158, ↓ra159, ↓wa159, ↓ln159, q_M_s, q_M_k, q_M_a, q_P_s, q_P_a, q_toN, q_i00, q_i10, q_j00, q_j10, eh, h2, show (q_i (-2) = q_i (-2)) = True from eq_true rfl, not_true_eq_false, not_false_eq_true, if_true, if_false, e401]
  · have h2 : q_hl g c = q_net g c := by
      unfold q_hl q_net
      rw [if_neg hne, if_neg hw, if_neg (by omega)]
    have h3 : 0 ≤ q_net g c := by
      unfold q_net
      rw [if_neg (by omega)]
      omega
    simp (disch := first | rfl | assumption | decide | omega | (unfold q_R; omega)) only [en107, e107_0, e107_1, e107_4, e107_7, e107_8, e107_9, e107_10, e107_11, e107_14, e107_15, e107_16, e107_18, e107_21, e107_22, e107_25, e107_26, e107_29, ↓q_nv0, ↓q_nv1, ↓q_nv2, ↓q_nv3, ↓q_nv4, ↓q_nv5, ↓q_nv6, ↓q_nv7, ↓q_nv8, ↓q_nv9, ↓q_nv10, ↓q_nv11, ↓q_nv12, ↓q_nv13, ↓q_nv14, ↓q_nv15, ↓q_nv16, ↓q_nv17, ↓q_nv18, ↓q_nv19, ↓q_nv20, ↓q_nv21, ↓q_nv22, ↓q_gi0, ↓q_gi1, ↓q_gi2, ↓q_gi3, ↓q_gi4, ↓q_gi5, ↓q_gi6, ↓q_gi7, ↓q_gi8, ↓q_gi9, ↓q_gr0, ↓q_gr1, ↓q_gr2, ↓q_gr3, ↓q_gr4, ↓q_gr5, ↓q_gr6, ↓q_gr7, ↓q_gr8, ↓q_gr9, ↓q_ls0, ↓q_ls1i, ↓q_ls1r, ↓q_ls1n, ↓q_ls2i, ↓q_ls2r, ↓q_ls2n, ↓q_ls3i, ↓q_ls3r, ↓q_ls3n, ↓q_ls4i, ↓q_ls4r, ↓q_ls4n, ↓q_ls5i, ↓q_ls5r, ↓q_ls5n, ↓q_ls6i, ↓q_ls6r, ↓q_ls6n, ↓q_ls7i, ↓q_ls7r, ↓q_ls7n, ↓q_ls8i, ↓q_ls8r, ↓q_ls8n, ↓q_ls9i, ↓q_ls9r, ↓q_ls9n, q_nd0, q_nd1i, q_nd1r, q_nd1n, q_nd2i, q_nd2r, q_nd2n, q_nd3i, q_nd3r, q_nd3n, q_nd4i, q_nd4r, q_nd4n, q_nd5i, q_nd5r, q_nd5n, q_nd6i, q_nd6r, q_nd6n, q_nd7i, q_nd7r, q_nd7n, q_nd8i, q_nd8r, q_nd8n, q_nd9i, q_nd9r, q_nd9n, q_st0, q_st1, q_st2, q_st3, q_st4, q_st5, q_st6, q_st7, q_st8, q_st9, q_cat_i, q_cat_r, q_cat_n, q_wt0, q_wt1, q_tl0, q_tl1, ↓q_cl1, q_add, q_sub, q_mul, q_nari, q_narb0, q_narb1, q_fiti, q_fitb0, q_fitb1, List.cons_append, List.nil_append, Nat.reduceAdd, Nat.reduceLeDiff, and_self, and_true, true_and, ↓reduceIte, ↓rc0, ↓gf0_0, ↓gf0_1, ↓gf0_2, ↓gf0_3, ↓gf0_4, ↓gf0_5, ↓gf0_6, ↓gf0_7, ↓pf0_7, ft0_7, ↓rc1, ↓gf1_0, ↓pf1_0, ft1_0, ↓gf1_1, ↓pf1_1, ft1_1, ↓gf1_2, ↓gf1_3, ↓gf1_4, ↓gf1_5, ↓gf1_6, ↓gf1_7, ↓gf1_8, ↓gf1_9, ↓gf1_10, ↓gf1_11, ↓gf1_12, ↓rc13, ↓gf13_0, ↓gf13_1, ↓gf13_2, ↓gf13_3, ↓gf13_4, ↓gf13_5, ↓gf13_6, ↓pf13_6, ft13_6, ↓gf13_7, ↓pf13_7, ft13_7, ↓gf13_8, ↓pf13_8, ft13_8, ↓gf13_9, ↓pf13_9, ft13_90, ft13_91, ↓gf13_10, ↓gf13_11, ↓gf13_12, ↓pf13_12, ft13_12, ↓gf13_13, ↓pf13_13, ft13_13, ↓gf13_14, ↓pf13_14, ft13_14, ↓rc21, ↓gf21_0, ↓pf21_0, ft21_0, ↓gf21_1, ↓pf21_1, ft21_1, ↓gf21_2, ↓pf21_2, ft21_2, ↓gf21_3, ↓pf21_3, ft21_3, ↓rc22, ↓gf22_0, ↓gf22_1, ↓gf22_2, ↓rc23, ↓gf23_0, ↓gf23_1, ↓gf23_2, ↓gf23_3, ↓pf23_3, ft23_3, ↓gf23_4, ↓pf23_4, ft23_4, ↓gf23_5, ↓pf23_5, ft23_50, ft23_51, ↓rc145, ↓gf145_0, ↓gf145_1, ↓pf145_1, ft145_1, ↓rc147, ↓gf147_0, ↓gf147_1, ↓pf147_1, ft147_1, ↓rc149, ↓gf149_0, ↓gf149_1, ↓gf149_2, ↓gf149_3, ↓gf149_4, ↓pf149_4, ft149_40, ft149_41, ↓gf149_5, ↓pf149_5, ft149_5, ↓gf149_6, ↓pf149_6, ft149_60, ft149_61, ↓gf149_7, ↓pf149_7, ft149_7, ↓gf149_8, ↓pf149_8, ft149_8, ↓gf149_9, ↓pf149_9, ft149_9, ↓gf149_10, ↓pf149_10, ft149_10, ↓gf149_11, ↓gf149_12, ↓pf149_12, ft149_12, ↓gf149_13, ↓pf149_13, ft149_13, ↓gf149_14, ↓gf149_15, ↓pf149_15, ft149_15, ↓gf149_16, ↓gf149_17, ↓gf149_18, ↓gf149_19, ↓pf149_19, ft149_19, ↓gf149_20, ↓pf149_20, ft149_20, ↓gf149_21, ↓gf149_22, ↓pf149_22, ft149_22, ↓ra2, ↓wa2, ↓ln2, ↓ra3, ↓wa3, ↓ln3, ↓ra4, ↓wa4, ↓ln4, ↓ra5, ↓wa5, ↓ln5, ↓ra6, ↓wa6, ↓ln6, ↓ra7, ↓wa7, ↓ln7, ↓ra8, ↓wa8, ↓ln8, ↓ra9, ↓wa9, ↓ln9, ↓ra10, ↓wa10, ↓ln10, ↓ra11, ↓wa11, ↓ln11, ↓ra12, ↓wa12, ↓ln12, ↓ra14, ↓wa14, ↓ln14, ↓ra15, ↓wa15, ↓ln15, ↓ra16, ↓wa16, ↓ln16, ↓ra17, ↓wa17, ↓ln17, ↓ra18, ↓wa18, ↓ln18, ↓ra19, ↓wa19, ↓ln19, ↓ra20, ↓wa20, ↓ln20, ↓ra146, ↓wa146, ↓ln146, ↓ra148, ↓wa148, ↓ln148, ↓ra150, ↓wa150, ↓ln150, ↓ra151, ↓wa151, ↓ln151, ↓ra152, ↓wa152, ↓ln152, ↓ra153, ↓wa153, ↓ln153, ↓ra154, ↓wa154, ↓ln154, ↓ra155, ↓wa155, ↓ln155, ↓ra156, ↓wa156, ↓ln156, ↓ra157, ↓wa157, ↓ln157, ↓ra158, ↓wa158, ↓ln158, ↓ra159, ↓wa159, ↓ln159, q_M_s, q_M_k, q_M_a, q_P_s, q_P_a, q_toN, q_i00, q_i10, q_j00, q_j10, eh, h2, q_eq, show ¬ q_net g c = -2 by omega, not_true_eq_false, not_false_eq_true, if_true, if_false, e401]
end M80
