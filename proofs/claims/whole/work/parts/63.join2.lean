section M63
variable {m : Nat → Nat → Int} {K : Nat × Nat} {s : List Int32}
def q_RR (g : Nat → Int) (n hard : Int) : Nat → Prop := fun j => q_al g n hard j ∨ q_own g n j
/-- the memory of the class's search -/
def q_jm (m mm : Nat → Nat → Int) (P H : Nat → Bool) (cost hard : Int) : Prop := mm 19 = q_bR P ∧ mm 20 = q_bR H ∧ mm 13 12 = q_cnt H 48 ∧ mm 13 13 = cost ∧ mm 13 9 = hard ∧ (∀ a, a ≠ 13 → a ≠ 16 → a ≠ 17 → a ≠ 18 → a ≠ 19 → a ≠ 20 → mm a = m a) ∧ ∀ k, k ≠ 6 → k ≠ 7 → k ≠ 9 → k ≠ 12 → k ≠ 13 → k ≠ 14 → mm 13 k = m 13 k
def q_j0 (m mm : Nat → Nat → Int) : Prop := (∀ a, a ≠ 13 → a ≠ 16 → a ≠ 17 → a ≠ 18 → a ≠ 19 → a ≠ 20 → mm a = m a) ∧ ∀ k, k ≠ 6 → k ≠ 7 → k ≠ 9 → k ≠ 12 → k ≠ 13 → k ≠ 14 → mm 13 k = m 13 k
/-- what is known of the search after k pins -/
def q_fk (g : Nat → Int) (n hard : Int) (t : ((Nat → Bool) × (Nat → Bool)) × Int × Nat) (k : Nat) : Prop := q_hp t.1 ∧ (∀ j, j < 96 → t.1.1 j = true → q_RR g n hard j) ∧ 0 ≤ t.2.1 ∧ t.2.1 ≤ k * 1056
theorem q_pl_own {g : Nat → Int} {n : Int} {k : Nat} (hW : q_W g) (hn0 : 0 ≤ n) (hn : n < 6) (hk4 : k < 4) (hk : (k : Int) < g (2 + 9 * n.toNat)) : q_own g n (q_pl g n k : Nat) ∧ q_own g n ((q_pl g n k + 48 : Nat) : Int) := by
  obtain ⟨h1, h2⟩ := q_pl_lt hW hn0 hn hk4
  have h := hW.2.2.2.2.2.2.2.1 n.toNat k (by omega) hk
  rw [h2] at h
  have key : ∀ c : Int, q_is g c = 2 + 2 * (n.toNat : Int) → q_own g n c := fun c hc => by
    unfold q_own q_net q_pin
    rw [hc, if_neg (by omega)]
    omega
  exact ⟨key _ h.1, key _ (by rw [← h.2]; rfl)⟩
theorem l503 {g : Nat → Int} {n hard : Int} {mm : Nat → Nat → Int} {k : Nat} (hR : q_Rt m g n) (hB : q_Bd m 1 g) (hW : q_W g) (hn0 : 0 ≤ n) (hn : n < 6) (hh : hard = 0 ∨ hard = 1) (hk : ((k + 1 : Nat) : Int) < g (2 + 9 * n.toNat)) (hl : (q_fs g n hard k).2.2 = 0) (hm : q_jm m mm (q_fs g n hard k).1.1 (q_fs g n hard k).1.2 (q_fs g n hard k).2.1 hard) (hf : q_fk g n hard (q_fs g n hard k) k) (z1 z2 : Value) :
    ∃ (mm' : Nat → Nat → Int), ((q_fs g n hard (k + 1)).2.2 = 0 ∧ q_jm m mm' (q_fs g n hard (k + 1)).1.1 (q_fs g n hard (k + 1)).1.2 (q_fs g n hard (k + 1)).2.1 hard ∧ q_fk g n hard (q_fs g n hard (k + 1)) (k + 1) ∧ ∃ z3 z4 : Value, x_run 503 27 [.ref 13, .int (q_i hard), .int (q_i (k + 1 : Nat)), z1, z2] [] (q_H mm K s) = x_run 503 27 [.ref 13, .int (q_i hard), .int (q_i (k + 2 : Nat)), z3, z4] [] (q_H mm' K s)) ∨
      ((q_fs g n hard (k + 1)).2.2 = k + 1 ∧ q_j0 m mm' ∧ mm' 13 14 = (k + 1 : Nat) ∧ x_run 503 27 [.ref 13, .int (q_i hard), .int (q_i (k + 1 : Nat)), z1, z2] [] (q_H mm K s) = some (.inl (some (.int (q_i 0))), q_H mm' K s)) := by
  obtain ⟨h19, h20, h12, h13, h9, hfr, hfk⟩ := hm
  have hmany := hW.2.2.2.1 n.toNat (by omega)
  have hk4 : k + 1 < 4 := by omega
  have hRm : q_Rt mm g n := q_Rt_fr hR (hfr 14 (by decide) (by decide) (by decide) (by decide) (by decide) (by decide)) (hfr 15 (by decide) (by decide) (by decide) (by decide) (by decide) (by decide)) (hfk 8 (by decide) (by decide) (by decide) (by decide) (by decide) (by decide))
  have hBm : q_Bd mm 1 g := q_Bd_fr hB (fun k hk => hfr _ (by omega) (by omega) (by omega) (by omega) (by omega) (by omega))
  obtain ⟨hp1, hp2⟩ := q_pl_lt (k := k + 1) hW hn0 hn hk4
  obtain ⟨ho1, ho2⟩ := q_pl_own (k := k + 1) hW hn0 hn hk4 hk
  have e3 := m3 (m := mm) (K := K) (s := s) (k := k + 1) hBm hW hn0 hn hk4
  have e8 : mm 13 8 = n := hRm.2.2
  have em : mm 4 n.toNat = g (2 + 9 * n.toNat) := hBm.2.2.2.2.1 n.toNat (by omega)
  obtain ⟨hx, hb1056, m1, f1, f2, f16, e508⟩ := m508 (m := mm) (K := K) (s := s) hRm hW hh h9 h19
  have w0 : ∀ c w, 0 ≤ q_Wn g n c w := fun c w => (q_Wn_R g n c w).1
  rw [q_fs, if_pos hl]
  generalize hS : q_fs g n hard k = t at *
  obtain ⟨⟨P, H⟩, cost, lost⟩ := t
  dsimp only at *
  obtain ⟨g1, g2, g3, g4⟩ := hf
  dsimp only at g1 g2 g3 g4
  generalize hp : q_pl g n (k + 1) = p at *
  have d1 := q_mx_0 hx w0 p (by omega)
  have d2 := q_mx_0 hx w0 (p + 48) (by omega)
  have d3 := hx.1.1 p (by omega)
  have d4 := hx.1.1 (p + 48) (by omega)
  have v1 := hb1056 p (by omega)
  have v2 := hb1056 (p + 48) (by omega)
  have ep48 : (((p : Nat) : Int) + 48).toNat = p + 48 := by omega
  have hnle : ¬ g (2 + 9 * n.toNat) ≤ ((k + 1 : Nat) : Int) := by omega
  have hmR : q_R (g (2 + 9 * n.toNat)) := q_W_R hW _
  have hto : q_to (q_dd g n hard P) p < 96 := by
    unfold q_to
    split <;> omega
  have dT := q_mx_0 hx w0 (q_to (q_dd g n hard P) p) hto
  have dT2 := hb1056 (q_to (q_dd g n hard P) p) hto
  have hxle : (q_xf (q_dd g n hard P) (p + 48) < q_xf (q_dd g n hard P) p) = ¬ (q_dd g n hard P p ≤ q_dd g n hard P (p + 48)) := by
    apply propext
    unfold q_xf
    split <;> split <;> omega
  have hxR1 : q_R (q_xf (q_dd g n hard P) p) := by unfold q_xf q_R; split <;> omega
  have hxR2 : q_R (q_xf (q_dd g n hard P) (p + 48)) := by unfold q_xf q_R; split <;> omega
  have key : x_run 503 27 [.ref 13, .int (q_i hard), .int (q_i (k + 1 : Nat)), z1, z2] [] (q_H mm K s) = x_run 503 88 [.ref 13, .int (q_i hard), .int (q_i (k + 1 : Nat)), .int (q_i p), .int (q_i (q_to (q_dd g n hard P) p))] [] (q_H m1 K s) := by
    rw [e503_27]
    by_cases hle : q_dd g n hard P p ≤ q_dd g n hard P (p + 48)
    · rw [show q_to (q_dd g n hard P) p = p from if_pos hle]
      simp (disch := first | rfl | assumption | decide | omega | (unfold q_R; omega)) only [en503, e503_0, e503_1, e503_2, e503_5, e503_6, e503_9, e503_10, e503_11, e503_14, e503_15, e503_18, e503_19, e503_22, e503_25, e503_26, e503_28, e503_29, e503_32, e503_35, e503_36, e503_39, e503_40, e503_43, e503_44, e503_47, e503_48, e503_51, e503_52, e503_55, e503_56, e503_57, e503_60, e503_61, e503_64, e503_65, e503_66, e503_67, e503_70, e503_71, e503_73, e503_74, e503_75, e503_78, e503_79, e503_82, e503_83, e503_85, e503_86, e503_89, e503_92, e503_94, e503_95, e503_97, e503_100, e503_101, e503_102, e503_105, e503_106, e503_107, e503_108, e503_109, e503_112, e503_113, e503_116, e503_118, e503_119, e503_120, e503_123, e503_124, e503_126, e503_129, e503_130, e503_131, e503_134, e503_137, e503_140, e503_141, ↓q_nv0, ↓q_nv1, ↓q_nv2, ↓q_nv3, ↓q_nv4, ↓q_nv5, ↓q_nv6, ↓q_nv7, ↓q_nv8, ↓q_nv9, ↓q_nv10, ↓q_nv11, ↓q_nv12, ↓q_nv13, ↓q_nv14, ↓q_nv15, ↓q_nv16, ↓q_nv17, ↓q_nv18, ↓q_nv19, ↓q_nv20, ↓q_nv21, ↓q_nv22, ↓q_gi0, ↓q_gi1, ↓q_gi2, ↓q_gi3, ↓q_gi4, ↓q_gi5, ↓q_gi6, ↓q_gi7, ↓q_gi8, ↓q_gi9, ↓q_gr0, ↓q_gr1, ↓q_gr2, ↓q_gr3, ↓q_gr4, ↓q_gr5, ↓q_gr6, ↓q_gr7, ↓q_gr8, ↓q_gr9, ↓q_ls0, ↓q_ls1i, ↓q_ls1r, ↓q_ls1n, ↓q_ls2i, ↓q_ls2r, ↓q_ls2n, ↓q_ls3i, ↓q_ls3r, ↓q_ls3n, ↓q_ls4i, ↓q_ls4r, ↓q_ls4n, ↓q_ls5i, ↓q_ls5r, ↓q_ls5n, ↓q_ls6i, ↓q_ls6r, ↓q_ls6n, ↓q_ls7i, ↓q_ls7r, ↓q_ls7n, ↓q_ls8i, ↓q_ls8r, ↓q_ls8n, ↓q_ls9i, ↓q_ls9r, ↓q_ls9n, q_nd0, q_nd1i, q_nd1r, q_nd1n, q_nd2i, q_nd2r, q_nd2n, q_nd3i, q_nd3r, q_nd3n, q_nd4i, q_nd4r, q_nd4n, q_nd5i, q_nd5r, q_nd5n, q_nd6i, q_nd6r, q_nd6n, q_nd7i, q_nd7r, q_nd7n, q_nd8i, q_nd8r, q_nd8n, q_nd9i, q_nd9r, q_nd9n, q_st0, q_st1, q_st2, q_st3, q_st4, q_st5, q_st6, q_st7, q_st8, q_st9, q_cat_i, q_cat_r, q_cat_n, q_wt0, q_wt1, q_tl0, q_tl1, ↓q_cl1, q_add, q_sub, q_mul, q_nari, q_narb0, q_narb1, q_fiti, q_fitb0, q_fitb1, List.cons_append, List.nil_append, Nat.reduceAdd, Nat.reduceLeDiff, and_self, and_true, true_and, ↓reduceIte, ↓rc0, ↓gf0_0, ↓gf0_1, ↓gf0_2, ↓gf0_3, ↓gf0_4, ↓gf0_5, ↓gf0_6, ↓gf0_7, ↓pf0_7, ft0_7, ↓rc1, ↓gf1_0, ↓pf1_0, ft1_0, ↓gf1_1, ↓pf1_1, ft1_1, ↓gf1_2, ↓gf1_3, ↓gf1_4, ↓gf1_5, ↓gf1_6, ↓gf1_7, ↓gf1_8, ↓gf1_9, ↓gf1_10, ↓gf1_11, ↓gf1_12, ↓rc13, ↓gf13_0, ↓gf13_1, ↓gf13_2, ↓gf13_3, ↓gf13_4, ↓gf13_5, ↓gf13_6, ↓pf13_6, ft13_6, ↓gf13_7, ↓pf13_7, ft13_7, ↓gf13_8, ↓pf13_8, ft13_8, ↓gf13_9, ↓pf13_9, ft13_90, ft13_91, ↓gf13_10, ↓gf13_11, ↓gf13_12, ↓pf13_12, ft13_12, ↓gf13_13, ↓pf13_13, ft13_13, ↓gf13_14, ↓pf13_14, ft13_14, ↓rc21, ↓gf21_0, ↓pf21_0, ft21_0, ↓gf21_1, ↓pf21_1, ft21_1, ↓gf21_2, ↓pf21_2, ft21_2, ↓gf21_3, ↓pf21_3, ft21_3, ↓rc22, ↓gf22_0, ↓gf22_1, ↓gf22_2, ↓rc23, ↓gf23_0, ↓gf23_1, ↓gf23_2, ↓gf23_3, ↓pf23_3, ft23_3, ↓gf23_4, ↓pf23_4, ft23_4, ↓gf23_5, ↓pf23_5, ft23_50, ft23_51, ↓rc145, ↓gf145_0, ↓gf145_1, ↓pf145_1, ft145_1, ↓rc147, ↓gf147_0, ↓gf147_1, ↓pf147_1, ft147_1, ↓rc149, ↓gf149_0, ↓gf149_1, ↓gf149_2, ↓gf149_3, ↓gf149_4, ↓pf149_4, ft149_40, ft149_41, ↓gf149_5, ↓pf149_5, ft149_5, ↓gf149_6, ↓pf149_6, ft149_60, ft149_61, ↓gf149_7, ↓pf149_7, ft149_7, ↓gf149_8, ↓pf149_8, ft149_8, ↓gf149_9, ↓pf149_9, ft149_9, ↓gf149_10, ↓pf149_10, ft149_10, ↓gf149_11, ↓gf149_12, ↓pf149_12, ft149_12, ↓gf149_13, ↓pf149_13, ft149_13, ↓gf149_14, ↓gf149_15, ↓pf149_15, ft149_15, ↓gf149_16, ↓gf149_17, ↓gf149_18, ↓gf149_19, ↓pf149_19, ft149_19, ↓gf149_20, ↓pf149_20, ft149_20, ↓gf149_21, ↓gf149_22, ↓pf149_22, ft149_22, ↓ra2, ↓wa2, ↓ln2, ↓ra3, ↓wa3, ↓ln3, ↓ra4, ↓wa4, ↓ln4, ↓ra5, ↓wa5, ↓ln5, ↓ra6, ↓wa6, ↓ln6, ↓ra7, ↓wa7, ↓ln7, ↓ra8, ↓wa8, ↓ln8, ↓ra9, ↓wa9, ↓ln9, ↓ra10, ↓wa10, ↓ln10, ↓ra11, ↓wa11, ↓ln11, ↓ra12, ↓wa12, ↓ln12, ↓ra14, ↓wa14, ↓ln14, ↓ra15, ↓wa15, ↓ln15, ↓ra16, ↓wa16, ↓ln16, ↓ra17, ↓wa17, ↓ln17, ↓ra18, ↓wa18, ↓ln18, ↓ra19, ↓wa19, ↓ln19, ↓ra20, ↓wa20, ↓ln20, ↓ra146, ↓wa146, ↓ln146, ↓ra148, ↓wa148, ↓ln148, ↓ra150, ↓wa150, ↓ln150, ↓ra151, ↓wa151, ↓ln151, ↓ra152, ↓wa152, ↓ln152, ↓ra153, ↓wa153, ↓ln153, ↓ra154, ↓wa154, ↓ln154, ↓ra155, ↓wa155, ↓ln155, ↓ra156, ↓wa156, ↓ln156, ↓ra157, ↓wa157, ↓ln157, ↓ra158, ↓wa158, ↓ln158, ↓ra159, ↓wa159, ↓ln159, q_M_s, q_M_k, q_M_a, q_P_s, q_P_a, q_toN, q_i00, q_i10, q_j00, q_j10, e8, em, q_le, hnle, if_false, e3, e508, f16, ep48, q_lt, hxR1, hxR2, hxle, hle, not_true_eq_false]
    · rw [show q_to (q_dd g n hard P) p = p + 48 from if_neg hle]
      simp (disch := first | rfl | assumption | decide | omega | (unfold q_R; omega)) only [en503, e503_0, e503_1, e503_2, e503_5, e503_6, e503_9, e503_10, e503_11, e503_14, e503_15, e503_18, e503_19, e503_22, e503_25, e503_26, e503_28, e503_29, e503_32, e503_35, e503_36, e503_39, e503_40, e503_43, e503_44, e503_47, e503_48, e503_51, e503_52, e503_55, e503_56, e503_57, e503_60, e503_61, e503_64, e503_65, e503_66, e503_67, e503_70, e503_71, e503_73, e503_74, e503_75, e503_78, e503_79, e503_82, e503_83, e503_85, e503_86, e503_89, e503_92, e503_94, e503_95, e503_97, e503_100, e503_101, e503_102, e503_105, e503_106, e503_107, e503_108, e503_109, e503_112, e503_113, e503_116, e503_118, e503_119, e503_120, e503_123, e503_124, e503_126, e503_129, e503_130, e503_131, e503_134, e503_137, e503_140, e503_141, ↓q_nv0, ↓q_nv1, ↓q_nv2, ↓q_nv3, ↓q_nv4, ↓q_nv5, ↓q_nv6, ↓q_nv7, ↓q_nv8, ↓q_nv9, ↓q_nv10, ↓q_nv11, ↓q_nv12, ↓q_nv13, ↓q_nv14, ↓q_nv15, ↓q_nv16, ↓q_nv17, ↓q_nv18, ↓q_nv19, ↓q_nv20, ↓q_nv21, ↓q_nv22, ↓q_gi0, ↓q_gi1, ↓q_gi2, ↓q_gi3, ↓q_gi4, ↓q_gi5, ↓q_gi6, ↓q_gi7, ↓q_gi8, ↓q_gi9, ↓q_gr0, ↓q_gr1, ↓q_gr2, ↓q_gr3, ↓q_gr4, ↓q_gr5, ↓q_gr6, ↓q_gr7, ↓q_gr8, ↓q_gr9, ↓q_ls0, ↓q_ls1i, ↓q_ls1r, ↓q_ls1n, ↓q_ls2i, ↓q_ls2r, ↓q_ls2n, ↓q_ls3i, ↓q_ls3r, ↓q_ls3n, ↓q_ls4i, ↓q_ls4r, ↓q_ls4n, ↓q_ls5i, ↓q_ls5r, ↓q_ls5n, ↓q_ls6i, ↓q_ls6r, ↓q_ls6n, ↓q_ls7i, ↓q_ls7r, ↓q_ls7n, ↓q_ls8i, ↓q_ls8r, ↓q_ls8n, ↓q_ls9i, ↓q_ls9r, ↓q_ls9n, q_nd0, q_nd1i, q_nd1r, q_nd1n, q_nd2i, q_nd2r, q_nd2n, q_nd3i, q_nd3r, q_nd3n, q_nd4i, q_nd4r, q_nd4n, q_nd5i, q_nd5r, q_nd5n, q_nd6i, q_nd6r, q_nd6n, q_nd7i, q_nd7r, q_nd7n, q_nd8i, q_nd8r, q_nd8n, q_nd9i, q_nd9r, q_nd9n, q_st0, q_st1, q_st2, q_st3, q_st4, q_st5, q_st6, q_st7, q_st8, q_st9, q_cat_i, q_cat_r, q_cat_n, q_wt0, q_wt1, q_tl0, q_tl1, ↓q_cl1, q_add, q_sub, q_mul, q_nari, q_narb0, q_narb1, q_fiti, q_fitb0, q_fitb1, List.cons_append, List.nil_append, Nat.reduceAdd, Nat.reduceLeDiff, and_self, and_true, true_and, ↓reduceIte, ↓rc0, ↓gf0_0, ↓gf0_1, ↓gf0_2, ↓gf0_3, ↓gf0_4, ↓gf0_5, ↓gf0_6, ↓gf0_7, ↓pf0_7, ft0_7, ↓rc1, ↓gf1_0, ↓pf1_0, ft1_0, ↓gf1_1, ↓pf1_1, ft1_1, ↓gf1_2, ↓gf1_3, ↓gf1_4, ↓gf1_5, ↓gf1_6, ↓gf1_7, ↓gf1_8, ↓gf1_9, ↓gf1_10, ↓gf1_11, ↓gf1_12, ↓rc13, ↓gf13_0, ↓gf13_1, ↓gf13_2, ↓gf13_3, ↓gf13_4, ↓gf13_5, ↓gf13_6, ↓pf13_6, ft13_6, ↓gf13_7, ↓pf13_7, ft13_7, ↓gf13_8, ↓pf13_8, ft13_8, ↓gf13_9, ↓pf13_9, ft13_90, ft13_91, ↓gf13_10, ↓gf13_11, ↓gf13_12, ↓pf13_12, ft13_12, ↓gf13_13, ↓pf13_13, ft13_13, ↓gf13_14, ↓pf13_14, ft13_14, ↓rc21, ↓gf21_0, ↓pf21_0, ft21_0, ↓gf21_1, ↓pf21_1, ft21_1, ↓gf21_2, ↓pf21_2, ft21_2, ↓gf21_3, ↓pf21_3, ft21_3, ↓rc22, ↓gf22_0, ↓gf22_1, ↓gf22_2, ↓rc23, ↓gf23_0, ↓gf23_1, ↓gf23_2, ↓gf23_3, ↓pf23_3, ft23_3, ↓gf23_4, ↓pf23_4, ft23_4, ↓gf23_5, ↓pf23_5, ft23_50, ft23_51, ↓rc145, ↓gf145_0, ↓gf145_1, ↓pf145_1, ft145_1, ↓rc147, ↓gf147_0, ↓gf147_1, ↓pf147_1, ft147_1, ↓rc149, ↓gf149_0, ↓gf149_1, ↓gf149_2, ↓gf149_3, ↓gf149_4, ↓pf149_4, ft149_40, ft149_41, ↓gf149_5, ↓pf149_5, ft149_5, ↓gf149_6, ↓pf149_6, ft149_60, ft149_61, ↓gf149_7, ↓pf149_7, ft149_7, ↓gf149_8, ↓pf149_8, ft149_8, ↓gf149_9, ↓pf149_9, ft149_9, ↓gf149_10, ↓pf149_10, ft149_10, ↓gf149_11, ↓gf149_12, ↓pf149_12, ft149_12, ↓gf149_13, ↓pf149_13, ft149_13, ↓gf149_14, ↓gf149_15, ↓pf149_15, ft149_15, ↓gf149_16, ↓gf149_17, ↓gf149_18, ↓gf149_19, ↓pf149_19, ft149_19, ↓gf149_20, ↓pf149_20, ft149_20, ↓gf149_21, ↓gf149_22, ↓pf149_22, ft149_22, ↓ra2, ↓wa2, ↓ln2, ↓ra3, ↓wa3, ↓ln3, ↓ra4, ↓wa4, ↓ln4, ↓ra5, ↓wa5, ↓ln5, ↓ra6, ↓wa6, ↓ln6, ↓ra7, ↓wa7, ↓ln7, ↓ra8, ↓wa8, ↓ln8, ↓ra9, ↓wa9, ↓ln9, ↓ra10, ↓wa10, ↓ln10, ↓ra11, ↓wa11, ↓ln11, ↓ra12, ↓wa12, ↓ln12, ↓ra14, ↓wa14, ↓ln14, ↓ra15, ↓wa15, ↓ln15, ↓ra16, ↓wa16, ↓ln16, ↓ra17, ↓wa17, ↓ln17, ↓ra18, ↓wa18, ↓ln18, ↓ra19, ↓wa19, ↓ln19, ↓ra20, ↓wa20, ↓ln20, ↓ra146, ↓wa146, ↓ln146, ↓ra148, ↓wa148, ↓ln148, ↓ra150, ↓wa150, ↓ln150, ↓ra151, ↓wa151, ↓ln151, ↓ra152, ↓wa152, ↓ln152, ↓ra153, ↓wa153, ↓ln153, ↓ra154, ↓wa154, ↓ln154, ↓ra155, ↓wa155, ↓ln155, ↓ra156, ↓wa156, ↓ln156, ↓ra157, ↓wa157, ↓ln157, ↓ra158, ↓wa158, ↓ln158, ↓ra159, ↓wa159, ↓ln159, q_M_s, q_M_k, q_M_a, q_P_s, q_P_a, q_toN, q_i00, q_i10, q_j00, q_j10, e8, em, q_le, hnle, if_false, e3, e508, f16, ep48, q_lt, hxR1, hxR2, hxle, hle, not_false_eq_true, if_true]
      rfl
  have hfr1 : ∀ a, a ≠ 13 → a ≠ 16 → a ≠ 17 → a ≠ 18 → a ≠ 19 → a ≠ 20 → m1 a = m a := fun a a1 a2 a3 a4 a5 a6 => (f1 a a1 a2 a3 a4).trans (hfr a a1 a2 a3 a4 a5 a6)
  have hfk1 : ∀ k, k ≠ 6 → k ≠ 7 → k ≠ 9 → k ≠ 12 → k ≠ 13 → k ≠ 14 → m1 13 k = m 13 k := fun k k1 k2 k3 k4 k5 k6 => (f2 k k1 k2).trans (hfk k k1 k2 k3 k4 k5 k6)
  by_cases hF : q_dd g n hard P (q_to (q_dd g n hard P) p) < 100000
  · rw [if_pos hF]
    try dsimp only
    have xT : q_xf (q_dd g n hard P) (q_to (q_dd g n hard P) p) = q_dd g n hard P (q_to (q_dd g n hard P) p) := if_pos hF
    have hRm2 : q_Rt (q_M m1 13 13 (cost + q_dd g n hard P (q_to (q_dd g n hard P) p))) g n := q_Rt_fr hRm (by rw [q_M_a (by decide)]; exact f1 14 (by decide) (by decide) (by decide) (by decide)) (by rw [q_M_a (by decide)]; exact f1 15 (by decide) (by decide) (by decide) (by decide)) (by rw [q_M_k (by decide)]; exact f2 8 (by decide) (by decide))
    obtain ⟨m2, ⟨b1, b2, b3, b4, b5⟩, b6, b7, e512⟩ := m512 (m := q_M m1 13 13 (cost + q_dd g n hard P (q_to (q_dd g n hard P) p))) (K := K) (s := s) (P := P) (H := H) (R := q_RR g n hard) (c := q_to (q_dd g n hard P) p) hRm2 hW hx (by rw [q_M_a (by decide)]; exact f16) (fun j _ h => Or.inl h) hto hF g1 g2 (by rw [q_M_a (by decide), f1 19 (by decide) (by decide) (by decide) (by decide)]; exact h19) (by rw [q_M_a (by decide), f1 20 (by decide) (by decide) (by decide) (by decide)]; exact h20) (by rw [q_M_k (by decide), f2 12 (by decide) (by decide)]; exact h12)
    generalize hG : q_gb (q_dd g n hard P) (q_Wn g n) (fun c => q_own g n c) 96 (q_to (q_dd g n hard P) p) (P, H) = S at *
    have e507 := m507 (m := m2) (K := K) (s := s) (P := S.1) (pin := p) b1 (by omega)
    have hset : ∀ j, q_set (q_set S.1 p) (p + 48) j = true ↔ j = p + 48 ∨ j = p ∨ S.1 j = true := fun j => by
      unfold q_set
      simp
    refine ⟨q_P m2 19 (q_bR (q_set (q_set S.1 p) (p + 48))), Or.inl ⟨rfl, ⟨q_P_s, ?_, ?_, ?_, ?_, ?_, ?_⟩, ⟨?_, ?_, ?_, ?_⟩, .int (q_i p), .int (q_i (q_to (q_dd g n hard P) p)), ?_⟩⟩
    · rw [q_P_a (by decide), b2]
    · rw [q_P_a (by decide), b3]
    · rw [q_P_a (by decide), b5 13 (by decide), q_M_s]
    · rw [q_P_a (by decide), b5 9 (by decide), q_M_k (by decide), f2 9 (by decide) (by decide)]
      exact h9
    · intro a a1 a2 a3 a4 a5 a6
      rw [q_P_a a5, b4 a a1 a5 a6, q_M_a a1]
      exact hfr1 a a1 a2 a3 a4 a5 a6
    · intro k k1 k2 k3 k4 k5 k6
      rw [q_P_a (by decide), b5 k k4, q_M_k k5]
      exact hfk1 k k1 k2 k3 k4 k5 k6
    · intro q hq hs
      have := b6 q hq hs
      exact ⟨(hset q).mpr (Or.inr (Or.inr this.1)), (hset (q + 48)).mpr (Or.inr (Or.inr this.2))⟩
    · intro j hj hs
      rcases (hset j).mp hs with e | e | e
      · subst e
        exact Or.inr ho2
      · subst e
        exact Or.inr ho1
      · exact b7 j hj e
    · dsimp only
      omega
    · dsimp only
      omega
    · rw [key, e503_88]
      have f13 : m1 13 13 = cost := (f2 13 (by decide) (by decide)).trans h13
      simp (disch := first | rfl | assumption | decide | omega | (unfold q_R; omega)) only [en503, e503_0, e503_1, e503_2, e503_5, e503_6, e503_9, e503_10, e503_11, e503_14, e503_15, e503_18, e503_19, e503_22, e503_25, e503_26, e503_28, e503_29, e503_32, e503_35, e503_36, e503_39, e503_40, e503_43, e503_44, e503_47, e503_48, e503_51, e503_52, e503_55, e503_56, e503_57, e503_60, e503_61, e503_64, e503_65, e503_66, e503_67, e503_70, e503_71, e503_73, e503_74, e503_75, e503_78, e503_79, e503_82, e503_83, e503_85, e503_86, e503_89, e503_92, e503_94, e503_95, e503_97, e503_100, e503_101, e503_102, e503_105, e503_106, e503_107, e503_108, e503_109, e503_112, e503_113, e503_116, e503_118, e503_119, e503_120, e503_123, e503_124, e503_126, e503_129, e503_130, e503_131, e503_134, e503_137, e503_140, e503_141, ↓q_nv0, ↓q_nv1, ↓q_nv2, ↓q_nv3, ↓q_nv4, ↓q_nv5, ↓q_nv6, ↓q_nv7, ↓q_nv8, ↓q_nv9, ↓q_nv10, ↓q_nv11, ↓q_nv12, ↓q_nv13, ↓q_nv14, ↓q_nv15, ↓q_nv16, ↓q_nv17, ↓q_nv18, ↓q_nv19, ↓q_nv20, ↓q_nv21, ↓q_nv22, ↓q_gi0, ↓q_gi1, ↓q_gi2, ↓q_gi3, ↓q_gi4, ↓q_gi5, ↓q_gi6, ↓q_gi7, ↓q_gi8, ↓q_gi9, ↓q_gr0, ↓q_gr1, ↓q_gr2, ↓q_gr3, ↓q_gr4, ↓q_gr5, ↓q_gr6, ↓q_gr7, ↓q_gr8, ↓q_gr9, ↓q_ls0, ↓q_ls1i, ↓q_ls1r, ↓q_ls1n, ↓q_ls2i, ↓q_ls2r, ↓q_ls2n, ↓q_ls3i, ↓q_ls3r, ↓q_ls3n, ↓q_ls4i, ↓q_ls4r, ↓q_ls4n, ↓q_ls5i, ↓q_ls5r, ↓q_ls5n, ↓q_ls6i, ↓q_ls6r, ↓q_ls6n, ↓q_ls7i, ↓q_ls7r, ↓q_ls7n, ↓q_ls8i, ↓q_ls8r, ↓q_ls8n, ↓q_ls9i, ↓q_ls9r, ↓q_ls9n, q_nd0, q_nd1i, q_nd1r, q_nd1n, q_nd2i, q_nd2r, q_nd2n, q_nd3i, q_nd3r, q_nd3n, q_nd4i, q_nd4r, q_nd4n, q_nd5i, q_nd5r, q_nd5n, q_nd6i, q_nd6r, q_nd6n, q_nd7i, q_nd7r, q_nd7n, q_nd8i, q_nd8r, q_nd8n, q_nd9i, q_nd9r, q_nd9n, q_st0, q_st1, q_st2, q_st3, q_st4, q_st5, q_st6, q_st7, q_st8, q_st9, q_cat_i, q_cat_r, q_cat_n, q_wt0, q_wt1, q_tl0, q_tl1, ↓q_cl1, q_add, q_sub, q_mul, q_nari, q_narb0, q_narb1, q_fiti, q_fitb0, q_fitb1, List.cons_append, List.nil_append, Nat.reduceAdd, Nat.reduceLeDiff, and_self, and_true, true_and, ↓reduceIte, ↓rc0, ↓gf0_0, ↓gf0_1, ↓gf0_2, ↓gf0_3, ↓gf0_4, ↓gf0_5, ↓gf0_6, ↓gf0_7, ↓pf0_7, ft0_7, ↓rc1, ↓gf1_0, ↓pf1_0, ft1_0, ↓gf1_1, ↓pf1_1, ft1_1, ↓gf1_2, ↓gf1_3, ↓gf1_4, ↓gf1_5, ↓gf1_6, ↓gf1_7, ↓gf1_8, ↓gf1_9, ↓gf1_10, ↓gf1_11, ↓gf1_12, ↓rc13, ↓gf13_0, ↓gf13_1, ↓gf13_2, ↓gf13_3, ↓gf13_4, ↓gf13_5, ↓gf13_6, ↓pf13_6, ft13_6, ↓gf13_7, ↓pf13_7, ft13_7, ↓gf13_8, ↓pf13_8, ft13_8, ↓gf13_9, ↓pf13_9, ft13_90, ft13_91, ↓gf13_10, ↓gf13_11, ↓gf13_12, ↓pf13_12, ft13_12, ↓gf13_13, ↓pf13_13, ft13_13, ↓gf13_14, ↓pf13_14, ft13_14, ↓rc21, ↓gf21_0, ↓pf21_0, ft21_0, ↓gf21_1, ↓pf21_1, ft21_1, ↓gf21_2, ↓pf21_2, ft21_2, ↓gf21_3, ↓pf21_3, ft21_3, ↓rc22, ↓gf22_0, ↓gf22_1, ↓gf22_2, ↓rc23, ↓gf23_0, ↓gf23_1, ↓gf23_2, ↓gf23_3, ↓pf23_3, ft23_3, ↓gf23_4, ↓pf23_4, ft23_4, ↓gf23_5, ↓pf23_5, ft23_50, ft23_51, ↓rc145, ↓gf145_0, ↓gf145_1, ↓pf145_1, ft145_1, ↓rc147, ↓gf147_0, ↓gf147_1, ↓pf147_1, ft147_1, ↓rc149, ↓gf149_0, ↓gf149_1, ↓gf149_2, ↓gf149_3, ↓gf149_4, ↓pf149_4, ft149_40, ft149_41, ↓gf149_5, ↓pf149_5, ft149_5, ↓gf149_6, ↓pf149_6, ft149_60, ft149_61, ↓gf149_7, ↓pf149_7, ft149_7, ↓gf149_8, ↓pf149_8, ft149_8, ↓gf149_9, ↓pf149_9, ft149_9, ↓gf149_10, ↓pf149_10, ft149_10, ↓gf149_11, ↓gf149_12, ↓pf149_12, ft149_12, ↓gf149_13, ↓pf149_13, ft149_13, ↓gf149_14, ↓gf149_15, ↓pf149_15, ft149_15, ↓gf149_16, ↓gf149_17, ↓gf149_18, ↓gf149_19, ↓pf149_19, ft149_19, ↓gf149_20, ↓pf149_20, ft149_20, ↓gf149_21, ↓gf149_22, ↓pf149_22, ft149_22, ↓ra2, ↓wa2, ↓ln2, ↓ra3, ↓wa3, ↓ln3, ↓ra4, ↓wa4, ↓ln4, ↓ra5, ↓wa5, ↓ln5, ↓ra6, ↓wa6, ↓ln6, ↓ra7, ↓wa7, ↓ln7, ↓ra8, ↓wa8, ↓ln8, ↓ra9, ↓wa9, ↓ln9, ↓ra10, ↓wa10, ↓ln10, ↓ra11, ↓wa11, ↓ln11, ↓ra12, ↓wa12, ↓ln12, ↓ra14, ↓wa14, ↓ln14, ↓ra15, ↓wa15, ↓ln15, ↓ra16, ↓wa16, ↓ln16, ↓ra17, ↓wa17, ↓ln17, ↓ra18, ↓wa18, ↓ln18, ↓ra19, ↓wa19, ↓ln19, ↓ra20, ↓wa20, ↓ln20, ↓ra146, ↓wa146, ↓ln146, ↓ra148, ↓wa148, ↓ln148, ↓ra150, ↓wa150, ↓ln150, ↓ra151, ↓wa151, ↓ln151, ↓ra152, ↓wa152, ↓ln152, ↓ra153, ↓wa153, ↓ln153, ↓ra154, ↓wa154, ↓ln154, ↓ra155, ↓wa155, ↓ln155, ↓ra156, ↓wa156, ↓ln156, ↓ra157, ↓wa157, ↓ln157, ↓ra158, ↓wa158, ↓ln158, ↓ra159, ↓wa159, ↓ln159, q_M_s, q_M_k, q_M_a, q_P_s, q_P_a, q_toN, q_i00, q_i10, q_j00, q_j10, f16, xT, q_eq, show ¬ q_dd g n hard P (q_to (q_dd g n hard P) p) = 1000000 by omega, not_false_eq_true, if_true, f13, e512, e507]
      rfl
  · rw [if_neg hF]
    try dsimp only
    have xT : q_xf (q_dd g n hard P) (q_to (q_dd g n hard P) p) = 1000000 := if_neg hF
    refine ⟨q_M m1 13 14 (k + 1 : Nat), Or.inr ⟨rfl, ⟨?_, ?_⟩, q_M_s, ?_⟩⟩
    · intro a a1 a2 a3 a4 a5 a6
      rw [q_M_a a1]
      exact hfr1 a a1 a2 a3 a4 a5 a6
    · intro k k1 k2 k3 k4 k5 k6
      rw [q_M_k k6]
      exact hfk1 k k1 k2 k3 k4 k5 k6
    · rw [key, e503_88]
      simp (disch := first | rfl | assumption | decide | omega | (unfold q_R; omega)) only [en503, e503_0, e503_1, e503_2, e503_5, e503_6, e503_9, e503_10, e503_11, e503_14, e503_15, e503_18, e503_19, e503_22, e503_25, e503_26, e503_28, e503_29, e503_32, e503_35, e503_36, e503_39, e503_40, e503_43, e503_44, e503_47, e503_48, e503_51, e503_52, e503_55, e503_56, e503_57, e503_60, e503_61, e503_64, e503_65, e503_66, e503_67, e503_70, e503_71, e503_73, e503_74, e503_75, e503_78, e503_79, e503_82, e503_83, e503_85, e503_86, e503_89, e503_92, e503_94, e503_95, e503_97, e503_100, e503_101, e503_102, e503_105, e503_106, e503_107, e503_108, e503_109, e503_112, e503_113, e503_116, e503_118, e503_119, e503_120, e503_123, e503_124, e503_126, e503_129, e503_130, e503_131, e503_134, e503_137, e503_140, e503_141, ↓q_nv0, ↓q_nv1, ↓q_nv2, ↓q_nv3, ↓q_nv4, ↓q_nv5, ↓q_nv6, ↓q_nv7, ↓q_nv8, ↓q_nv9, ↓q_nv10, ↓q_nv11, ↓q_nv12, ↓q_nv13, ↓q_nv14, ↓q_nv15, ↓q_nv16, ↓q_nv17, ↓q_nv18, ↓q_nv19, ↓q_nv20, ↓q_nv21, ↓q_nv22, ↓q_gi0, ↓q_gi1, ↓q_gi2, ↓q_gi3, ↓q_gi4, ↓q_gi5, ↓q_gi6, ↓q_gi7, ↓q_gi8, ↓q_gi9, ↓q_gr0, ↓q_gr1, ↓q_gr2, ↓q_gr3, ↓q_gr4, ↓q_gr5, ↓q_gr6, ↓q_gr7, ↓q_gr8, ↓q_gr9, ↓q_ls0, ↓q_ls1i, ↓q_ls1r, ↓q_ls1n, ↓q_ls2i, ↓q_ls2r, ↓q_ls2n, ↓q_ls3i, ↓q_ls3r, ↓q_ls3n, ↓q_ls4i, ↓q_ls4r, ↓q_ls4n, ↓q_ls5i, ↓q_ls5r, ↓q_ls5n, ↓q_ls6i, ↓q_ls6r, ↓q_ls6n, ↓q_ls7i, ↓q_ls7r, ↓q_ls7n, ↓q_ls8i, ↓q_ls8r, ↓q_ls8n, ↓q_ls9i, ↓q_ls9r, ↓q_ls9n, q_nd0, q_nd1i, q_nd1r, q_nd1n, q_nd2i, q_nd2r, q_nd2n, q_nd3i, q_nd3r, q_nd3n, q_nd4i, q_nd4r, q_nd4n, q_nd5i, q_nd5r, q_nd5n, q_nd6i, q_nd6r, q_nd6n, q_nd7i, q_nd7r, q_nd7n, q_nd8i, q_nd8r, q_nd8n, q_nd9i, q_nd9r, q_nd9n, q_st0, q_st1, q_st2, q_st3, q_st4, q_st5, q_st6, q_st7, q_st8, q_st9, q_cat_i, q_cat_r, q_cat_n, q_wt0, q_wt1, q_tl0, q_tl1, ↓q_cl1, q_add, q_sub, q_mul, q_nari, q_narb0, q_narb1, q_fiti, q_fitb0, q_fitb1, List.cons_append, List.nil_append, Nat.reduceAdd, Nat.reduceLeDiff, and_self, and_true, true_and, ↓reduceIte, ↓rc0, ↓gf0_0, ↓gf0_1, ↓gf0_2, ↓gf0_3, ↓gf0_4, ↓gf0_5, ↓gf0_6, ↓gf0_7, ↓pf0_7, ft0_7, ↓rc1, ↓gf1_0, ↓pf1_0, ft1_0, ↓gf1_1, ↓pf1_1, ft1_1, ↓gf1_2, ↓gf1_3, ↓gf1_4, ↓gf1_5, ↓gf1_6, ↓gf1_7, ↓gf1_8, ↓gf1_9, ↓gf1_10, ↓gf1_11, ↓gf1_12, ↓rc13, ↓gf13_0, ↓gf13_1, ↓gf13_2, ↓gf13_3, ↓gf13_4, ↓gf13_5, ↓gf13_6, ↓pf13_6, ft13_6, ↓gf13_7, ↓pf13_7, ft13_7, ↓gf13_8, ↓pf13_8, ft13_8, ↓gf13_9, ↓pf13_9, ft13_90, ft13_91, ↓gf13_10, ↓gf13_11, ↓gf13_12, ↓pf13_12, ft13_12, ↓gf13_13, ↓pf13_13, ft13_13, ↓gf13_14, ↓pf13_14, ft13_14, ↓rc21, ↓gf21_0, ↓pf21_0, ft21_0, ↓gf21_1, ↓pf21_1, ft21_1, ↓gf21_2, ↓pf21_2, ft21_2, ↓gf21_3, ↓pf21_3, ft21_3, ↓rc22, ↓gf22_0, ↓gf22_1, ↓gf22_2, ↓rc23, ↓gf23_0, ↓gf23_1, ↓gf23_2, ↓gf23_3, ↓pf23_3, ft23_3, ↓gf23_4, ↓pf23_4, ft23_4, ↓gf23_5, ↓pf23_5, ft23_50, ft23_51, ↓rc145, ↓gf145_0, ↓gf145_1, ↓pf145_1, ft145_1, ↓rc147, ↓gf147_0, ↓gf147_1, ↓pf147_1, ft147_1, ↓rc149, ↓gf149_0, ↓gf149_1, ↓gf149_2, ↓gf149_3, ↓gf149_4, ↓pf149_4, ft149_40, ft149_41, ↓gf149_5, ↓pf149_5, ft149_5, ↓gf149_6, ↓pf149_6, ft149_60, ft149_61, ↓gf149_7, ↓pf149_7, ft149_7, ↓gf149_8, ↓pf149_8, ft149_8, ↓gf149_9, ↓pf149_9, ft149_9, ↓gf149_10, ↓pf149_10, ft149_10, ↓gf149_11, ↓gf149_12, ↓pf149_12, ft149_12, ↓gf149_13, ↓pf149_13, ft149_13, ↓gf149_14, ↓gf149_15, ↓pf149_15, ft149_15, ↓gf149_16, ↓gf149_17, ↓gf149_18, ↓gf149_19, ↓pf149_19, ft149_19, ↓gf149_20, ↓pf149_20, ft149_20, ↓gf149_21, ↓gf149_22, ↓pf149_22, ft149_22, ↓ra2, ↓wa2, ↓ln2, ↓ra3, ↓wa3, ↓ln3, ↓ra4, ↓wa4, ↓ln4, ↓ra5, ↓wa5, ↓ln5, ↓ra6, ↓wa6, ↓ln6, ↓ra7, ↓wa7, ↓ln7, ↓ra8, ↓wa8, ↓ln8, ↓ra9, ↓wa9, ↓ln9, ↓ra10, ↓wa10, ↓ln10, ↓ra11, ↓wa11, ↓ln11, ↓ra12, ↓wa12, ↓ln12, ↓ra14, ↓wa14, ↓ln14, ↓ra15, ↓wa15, ↓ln15, ↓ra16, ↓wa16, ↓ln16, ↓ra17, ↓wa17, ↓ln17, ↓ra18, ↓wa18, ↓ln18, ↓ra19, ↓wa19, ↓ln19, ↓ra20, ↓wa20, ↓ln20, ↓ra146, ↓wa146, ↓ln146, ↓ra148, ↓wa148, ↓ln148, ↓ra150, ↓wa150, ↓ln150, ↓ra151, ↓wa151, ↓ln151, ↓ra152, ↓wa152, ↓ln152, ↓ra153, ↓wa153, ↓ln153, ↓ra154, ↓wa154, ↓ln154, ↓ra155, ↓wa155, ↓ln155, ↓ra156, ↓wa156, ↓ln156, ↓ra157, ↓wa157, ↓ln157, ↓ra158, ↓wa158, ↓ln158, ↓ra159, ↓wa159, ↓ln159, q_M_s, q_M_k, q_M_a, q_P_s, q_P_a, q_toN, q_i00, q_i10, q_j00, q_j10, f16, xT, not_true_eq_false, if_false]
theorem l503o {g : Nat → Int} {n hard : Int} (hR : q_Rt m g n) (hB : q_Bd m 1 g) (hW : q_W g) (hn0 : 0 ≤ n) (hn : n < 6) (hh : hard = 0 ∨ hard = 1) (j : Nat) : ∀ (k : Nat) (mm : Nat → Nat → Int) (z1 z2 : Value), g (2 + 9 * n.toNat) = ((k + 1 + j : Nat) : Int) → (q_fs g n hard k).2.2 = 0 → q_jm m mm (q_fs g n hard k).1.1 (q_fs g n hard k).1.2 (q_fs g n hard k).2.1 hard → q_fk g n hard (q_fs g n hard k) k →
    ∃ (mm' : Nat → Nat → Int), q_j0 m mm' ∧ x_run 503 27 [.ref 13, .int (q_i hard), .int (q_i (k + 1 : Nat)), z1, z2] [] (q_H mm K s) = some (.inl (some (.int (q_i (if (q_fs g n hard (k + j)).2.2 = 0 then 1 else 0)))), q_H mm' K s) ∧ ((q_fs g n hard (k + j)).2.2 = 0 → q_jm m mm' (q_fs g n hard (k + j)).1.1 (q_fs g n hard (k + j)).1.2 (q_fs g n hard (k + j)).2.1 hard ∧ q_fk g n hard (q_fs g n hard (k + j)) (k + j)) ∧ ((q_fs g n hard (k + j)).2.2 ≠ 0 → mm' 13 14 = (q_fs g n hard (k + j)).2.2) := by
  induction j with
  | zero =>
    intro k mm z1 z2 hk hl hm hf
    have hmm := hm
    obtain ⟨h19, h20, h12, h13, h9, hfr, hfk⟩ := hmm
    have e8 : mm 13 8 = n := (hfk 8 (by decide) (by decide) (by decide) (by decide) (by decide) (by decide)).trans hR.2.2
    have em : mm 4 n.toNat = g (2 + 9 * n.toNat) := by
      rw [hfr 4 (by decide) (by decide) (by decide) (by decide) (by decide) (by decide)]
      exact hB.2.2.2.2.1 n.toNat (by omega)
    have hmR : q_R (g (2 + 9 * n.toNat)) := q_W_R hW _
    have hmany := hW.2.2.2.1 n.toNat (by omega)
    refine ⟨mm, ⟨hfr, hfk⟩, ?_, fun _ => ⟨hm, hf⟩, fun h => absurd hl h⟩
    rw [show k + 0 = k from rfl, hl, if_pos rfl, e503_27]
    simp (disch := first | rfl | assumption | decide | omega | (unfold q_R; omega)) only [en503, e503_0, e503_1, e503_2, e503_5, e503_6, e503_9, e503_10, e503_11, e503_14, e503_15, e503_18, e503_19, e503_22, e503_25, e503_26, e503_28, e503_29, e503_32, e503_35, e503_36, e503_39, e503_40, e503_43, e503_44, e503_47, e503_48, e503_51, e503_52, e503_55, e503_56, e503_57, e503_60, e503_61, e503_64, e503_65, e503_66, e503_67, e503_70, e503_71, e503_73, e503_74, e503_75, e503_78, e503_79, e503_82, e503_83, e503_85, e503_86, e503_88, e503_89, e503_92, e503_94, e503_95, e503_97, e503_100, e503_101, e503_102, e503_105, e503_106, e503_107, e503_108, e503_109, e503_112, e503_113, e503_116, e503_118, e503_119, e503_120, e503_123, e503_124, e503_126, e503_129, e503_130, e503_131, e503_134, e503_137, e503_140, e503_141, ↓q_nv0, ↓q_nv1, ↓q_nv2, ↓q_nv3, ↓q_nv4, ↓q_nv5, ↓q_nv6, ↓q_nv7, ↓q_nv8, ↓q_nv9, ↓q_nv10, ↓q_nv11, ↓q_nv12, ↓q_nv13, ↓q_nv14, ↓q_nv15, ↓q_nv16, ↓q_nv17, ↓q_nv18, ↓q_nv19, ↓q_nv20, ↓q_nv21, ↓q_nv22, ↓q_gi0, ↓q_gi1, ↓q_gi2, ↓q_gi3, ↓q_gi4, ↓q_gi5, ↓q_gi6, ↓q_gi7, ↓q_gi8, ↓q_gi9, ↓q_gr0, ↓q_gr1, ↓q_gr2, ↓q_gr3, ↓q_gr4, ↓q_gr5, ↓q_gr6, ↓q_gr7, ↓q_gr8, ↓q_gr9, ↓q_ls0, ↓q_ls1i, ↓q_ls1r, ↓q_ls1n, ↓q_ls2i, ↓q_ls2r, ↓q_ls2n, ↓q_ls3i, ↓q_ls3r, ↓q_ls3n, ↓q_ls4i, ↓q_ls4r, ↓q_ls4n, ↓q_ls5i, ↓q_ls5r, ↓q_ls5n, ↓q_ls6i, ↓q_ls6r, ↓q_ls6n, ↓q_ls7i, ↓q_ls7r, ↓q_ls7n, ↓q_ls8i, ↓q_ls8r, ↓q_ls8n, ↓q_ls9i, ↓q_ls9r, ↓q_ls9n, q_nd0, q_nd1i, q_nd1r, q_nd1n, q_nd2i, q_nd2r, q_nd2n, q_nd3i, q_nd3r, q_nd3n, q_nd4i, q_nd4r, q_nd4n, q_nd5i, q_nd5r, q_nd5n, q_nd6i, q_nd6r, q_nd6n, q_nd7i, q_nd7r, q_nd7n, q_nd8i, q_nd8r, q_nd8n, q_nd9i, q_nd9r, q_nd9n, q_st0, q_st1, q_st2, q_st3, q_st4, q_st5, q_st6, q_st7, q_st8, q_st9, q_cat_i, q_cat_r, q_cat_n, q_wt0, q_wt1, q_tl0, q_tl1, ↓q_cl1, q_add, q_sub, q_mul, q_nari, q_narb0, q_narb1, q_fiti, q_fitb0, q_fitb1, List.cons_append, List.nil_append, Nat.reduceAdd, Nat.reduceLeDiff, and_self, and_true, true_and, ↓reduceIte, ↓rc0, ↓gf0_0, ↓gf0_1, ↓gf0_2, ↓gf0_3, ↓gf0_4, ↓gf0_5, ↓gf0_6, ↓gf0_7, ↓pf0_7, ft0_7, ↓rc1, ↓gf1_0, ↓pf1_0, ft1_0, ↓gf1_1, ↓pf1_1, ft1_1, ↓gf1_2, ↓gf1_3, ↓gf1_4, ↓gf1_5, ↓gf1_6, ↓gf1_7, ↓gf1_8, ↓gf1_9, ↓gf1_10, ↓gf1_11, ↓gf1_12, ↓rc13, ↓gf13_0, ↓gf13_1, ↓gf13_2, ↓gf13_3, ↓gf13_4, ↓gf13_5, ↓gf13_6, ↓pf13_6, ft13_6, ↓gf13_7, ↓pf13_7, ft13_7, ↓gf13_8, ↓pf13_8, ft13_8, ↓gf13_9, ↓pf13_9, ft13_90, ft13_91, ↓gf13_10, ↓gf13_11, ↓gf13_12, ↓pf13_12, ft13_12, ↓gf13_13, ↓pf13_13, ft13_13, ↓gf13_14, ↓pf13_14, ft13_14, ↓rc21, ↓gf21_0, ↓pf21_0, ft21_0, ↓gf21_1, ↓pf21_1, ft21_1, ↓gf21_2, ↓pf21_2, ft21_2, ↓gf21_3, ↓pf21_3, ft21_3, ↓rc22, ↓gf22_0, ↓gf22_1, ↓gf22_2, ↓rc23, ↓gf23_0, ↓gf23_1, ↓gf23_2, ↓gf23_3, ↓pf23_3, ft23_3, ↓gf23_4, ↓pf23_4, ft23_4, ↓gf23_5, ↓pf23_5, ft23_50, ft23_51, ↓rc145, ↓gf145_0, ↓gf145_1, ↓pf145_1, ft145_1, ↓rc147, ↓gf147_0, ↓gf147_1, ↓pf147_1, ft147_1, ↓rc149, ↓gf149_0, ↓gf149_1, ↓gf149_2, ↓gf149_3, ↓gf149_4, ↓pf149_4, ft149_40, ft149_41, ↓gf149_5, ↓pf149_5, ft149_5, ↓gf149_6, ↓pf149_6, ft149_60, ft149_61, ↓gf149_7, ↓pf149_7, ft149_7, ↓gf149_8, ↓pf149_8, ft149_8, ↓gf149_9, ↓pf149_9, ft149_9, ↓gf149_10, ↓pf149_10, ft149_10, ↓gf149_11, ↓gf149_12, ↓pf149_12, ft149_12, ↓gf149_13, ↓pf149_13, ft149_13, ↓gf149_14, ↓gf149_15, ↓pf149_15, ft149_15, ↓gf149_16, ↓gf149_17, ↓gf149_18, ↓gf149_19, ↓pf149_19, ft149_19, ↓gf149_20, ↓pf149_20, ft149_20, ↓gf149_21, ↓gf149_22, ↓pf149_22, ft149_22, ↓ra2, ↓wa2, ↓ln2, ↓ra3, ↓wa3, ↓ln3, ↓ra4, ↓wa4, ↓ln4, ↓ra5, ↓wa5, ↓ln5, ↓ra6, ↓wa6, ↓ln6, ↓ra7, ↓wa7, ↓ln7, ↓ra8, ↓wa8, ↓ln8, ↓ra9, ↓wa9, ↓ln9, ↓ra10, ↓wa10, ↓ln10, ↓ra11, ↓wa11, ↓ln11, ↓ra12, ↓wa12, ↓ln12, ↓ra14, ↓wa14, ↓ln14, ↓ra15, ↓wa15, ↓ln15, ↓ra16, ↓wa16, ↓ln16, ↓ra17, ↓wa17, ↓ln17, ↓ra18, ↓wa18, ↓ln18, ↓ra19, ↓wa19, ↓ln19, ↓ra20, ↓wa20, ↓ln20, ↓ra146, ↓wa146, ↓ln146, ↓ra148, ↓wa148, ↓ln148, ↓ra150, ↓wa150, ↓ln150, ↓ra151, ↓wa151, ↓ln151, ↓ra152, ↓wa152, ↓ln152, ↓ra153, ↓wa153, ↓ln153, ↓ra154, ↓wa154, ↓ln154, ↓ra155, ↓wa155, ↓ln155, ↓ra156, ↓wa156, ↓ln156, ↓ra157, ↓wa157, ↓ln157, ↓ra158, ↓wa158, ↓ln158, ↓ra159, ↓wa159, ↓ln159, q_M_s, q_M_k, q_M_a, q_P_s, q_P_a, q_toN, q_i00, q_i10, q_j00, q_j10, e8, em, q_le, show g (2 + 9 * n.toNat) ≤ ((k + 1 : Nat) : Int) by omega, if_true]
  | succ j ih =>
    intro k mm z1 z2 hk hl hm hf
    rcases l503 (K := K) (s := s) hR hB hW hn0 hn hh (by omega) hl hm hf z1 z2 with ⟨mm', h | h⟩
    · obtain ⟨h1, h2, h3, z3, z4, e⟩ := h
      obtain ⟨mm2, i1, i2, i3, i4⟩ := ih (k + 1) mm' z3 z4 (by omega) h1 h2 h3
      rw [show k + 1 + j = k + (j + 1) by omega] at i2 i3 i4
      exact ⟨mm2, i1, e.trans i2, i3, i4⟩
    · obtain ⟨h1, h2, h3, e⟩ := h
      have hst : ∀ i, q_fs g n hard (k + 1 + i) = q_fs g n hard (k + 1) := by
        intro i
        induction i with
        | zero => rfl
        | succ i ih2 => rw [show k + 1 + (i + 1) = (k + 1 + i) + 1 by omega, q_fs, ih2, if_neg (by omega)]
      refine ⟨mm', h2, ?_, ?_, ?_⟩
      · rw [show k + (j + 1) = k + 1 + j by omega, hst, h1, if_neg (by omega)]
        exact e
      · rw [show k + (j + 1) = k + 1 + j by omega, hst, h1]
        exact fun z => absurd z (by omega)
      · rw [show k + (j + 1) = k + 1 + j by omega, hst, h1]
        exact fun _ => h3
theorem m503 {g : Nat → Int} {n hard : Int} (hR : q_Rt m g n) (hB : q_Bd m 1 g) (hW : q_W g) (hn0 : 0 ≤ n) (hn : n < 6) (hh : hard = 0 ∨ hard = 1) (h2 : 2 ≤ g (2 + 9 * n.toNat)) :
    ∃ (mm' : Nat → Nat → Int), q_j0 m mm' ∧ x_m 503 [.ref 13, .int (q_i hard)] (q_H m K s) = some (.inl (some (.int (q_i (if (q_fd g n hard).2.2 = 0 then 1 else 0)))), q_H mm' K s) ∧ ((q_fd g n hard).2.2 = 0 → q_jm m mm' (q_fd g n hard).1.1 (q_fd g n hard).1.2 (q_fd g n hard).2.1 hard ∧ q_fk g n hard (q_fd g n hard) 3) ∧ ((q_fd g n hard).2.2 ≠ 0 → mm' 13 14 = (q_fd g n hard).2.2) := by
  have hmany := hW.2.2.2.1 n.toNat (by omega)
  obtain ⟨m1, e506, a19, a20, a12, a13, af, ak⟩ := m506 (m := q_M m 13 9 hard) (K := K) (s := s)
  have hB1 : q_Bd m1 1 g := q_Bd_fr hB (fun k hk => by rw [af _ (by omega) (by omega) (by omega), q_M_a (by omega)])
  have e8 : m1 13 8 = n := by
    rw [ak 8 (by decide) (by decide), q_M_k (by decide)]
    exact hR.2.2
  have e3 := m3 (m := m1) (K := K) (s := s) (k := 0) hB1 hW hn0 hn (by decide)
  rw [show ((0 : Nat) : Int) = 0 from rfl] at e3
  obtain ⟨hp1, hp2⟩ := q_pl_lt (k := 0) hW hn0 hn (by omega)
  obtain ⟨ho1, ho2⟩ := q_pl_own (k := 0) hW hn0 hn (by decide) (by omega)
  have e507 := m507 (m := m1) (K := K) (s := s) (P := fun _ => false) (pin := q_pl g n 0) a19 (by omega)
  obtain ⟨mm', i1, i2, i3, i4⟩ := l503o (m := m) (K := K) (s := s) hR hB hW hn0 hn hh ((g (2 + 9 * n.toNat)).toNat - 1) 0 (q_P m1 19 (q_bR (q_set (q_set (fun _ => false) (q_pl g n 0)) (q_pl g n 0 + 48)))) .null .null (by omega) rfl (by
    refine ⟨q_P_s, ?_, ?_, ?_, ?_, ?_, ?_⟩
    · rw [q_P_a (by decide), a20]
      rfl
    · rw [q_P_a (by decide), a12]
      rfl
    · rw [q_P_a (by decide), a13]
      rfl
    · rw [q_P_a (by decide), ak 9 (by decide) (by decide), q_M_s]
    · intro a a1 a2 a3 a4 a5 a6
      rw [q_P_a a5, af a a1 a5 a6, q_M_a a1]
    · intro k k1 k2 k3 k4 k5 k6
      rw [q_P_a (by decide), ak k k4 k5, q_M_k k3]) (by
    refine ⟨fun p hp hs => absurd (show false = true from hs) (by decide), fun j hj hs => ?_, Int.le_refl _, Int.le_refl _⟩
    have hset : q_set (q_set (fun _ => false) (q_pl g n 0)) (q_pl g n 0 + 48) j = true ↔ j = q_pl g n 0 + 48 ∨ j = q_pl g n 0 := by
      unfold q_set
      simp
    rcases hset.mp hs with e | e
    · subst e
      exact Or.inr ho2
    · subst e
      exact Or.inr ho1)
  simp only [Nat.zero_add] at i2 i3 i4
  refine ⟨mm', i1, ?_, fun h => ⟨(i3 h).1, ?_⟩, i4⟩
  · rw [en503, e503_0]
    have ef0 : x_fit (x_ty 7 9) (.int (q_i hard)) = true := by
      rcases hh with rfl | rfl
      · exact q_fitb0
      · exact q_fitb1
    simp (disch := first | rfl | assumption | decide | omega | (unfold q_R; omega)) only [en503, e503_1, e503_2, e503_5, e503_6, e503_9, e503_10, e503_11, e503_14, e503_15, e503_18, e503_19, e503_22, e503_25, e503_26, e503_28, e503_29, e503_32, e503_35, e503_36, e503_39, e503_40, e503_43, e503_44, e503_47, e503_48, e503_51, e503_52, e503_55, e503_56, e503_57, e503_60, e503_61, e503_64, e503_65, e503_66, e503_67, e503_70, e503_71, e503_73, e503_74, e503_75, e503_78, e503_79, e503_82, e503_83, e503_85, e503_86, e503_88, e503_89, e503_92, e503_94, e503_95, e503_97, e503_100, e503_101, e503_102, e503_105, e503_106, e503_107, e503_108, e503_109, e503_112, e503_113, e503_116, e503_118, e503_119, e503_120, e503_123, e503_124, e503_126, e503_129, e503_130, e503_131, e503_134, e503_137, e503_140, e503_141, ↓q_nv0, ↓q_nv1, ↓q_nv2, ↓q_nv3, ↓q_nv4, ↓q_nv5, ↓q_nv6, ↓q_nv7, ↓q_nv8, ↓q_nv9, ↓q_nv10, ↓q_nv11, ↓q_nv12, ↓q_nv13, ↓q_nv14, ↓q_nv15, ↓q_nv16, ↓q_nv17, ↓q_nv18, ↓q_nv19, ↓q_nv20, ↓q_nv21, ↓q_nv22, ↓q_gi0, ↓q_gi1, ↓q_gi2, ↓q_gi3, ↓q_gi4, ↓q_gi5, ↓q_gi6, ↓q_gi7, ↓q_gi8, ↓q_gi9, ↓q_gr0, ↓q_gr1, ↓q_gr2, ↓q_gr3, ↓q_gr4, ↓q_gr5, ↓q_gr6, ↓q_gr7, ↓q_gr8, ↓q_gr9, ↓q_ls0, ↓q_ls1i, ↓q_ls1r, ↓q_ls1n, ↓q_ls2i, ↓q_ls2r, ↓q_ls2n, ↓q_ls3i, ↓q_ls3r, ↓q_ls3n, ↓q_ls4i, ↓q_ls4r, ↓q_ls4n, ↓q_ls5i, ↓q_ls5r, ↓q_ls5n, ↓q_ls6i, ↓q_ls6r, ↓q_ls6n, ↓q_ls7i, ↓q_ls7r, ↓q_ls7n, ↓q_ls8i, ↓q_ls8r, ↓q_ls8n, ↓q_ls9i, ↓q_ls9r, ↓q_ls9n, q_nd0, q_nd1i, q_nd1r, q_nd1n, q_nd2i, q_nd2r, q_nd2n, q_nd3i, q_nd3r, q_nd3n, q_nd4i, q_nd4r, q_nd4n, q_nd5i, q_nd5r, q_nd5n, q_nd6i, q_nd6r, q_nd6n, q_nd7i, q_nd7r, q_nd7n, q_nd8i, q_nd8r, q_nd8n, q_nd9i, q_nd9r, q_nd9n, q_st0, q_st1, q_st2, q_st3, q_st4, q_st5, q_st6, q_st7, q_st8, q_st9, q_cat_i, q_cat_r, q_cat_n, q_wt0, q_wt1, q_tl0, q_tl1, ↓q_cl1, q_add, q_sub, q_mul, q_nari, q_narb0, q_narb1, q_fiti, q_fitb0, q_fitb1, List.cons_append, List.nil_append, Nat.reduceAdd, Nat.reduceLeDiff, and_self, and_true, true_and, ↓reduceIte, ↓rc0, ↓gf0_0, ↓gf0_1, ↓gf0_2, ↓gf0_3, ↓gf0_4, ↓gf0_5, ↓gf0_6, ↓gf0_7, ↓pf0_7, ft0_7, ↓rc1, ↓gf1_0, ↓pf1_0, ft1_0, ↓gf1_1, ↓pf1_1, ft1_1, ↓gf1_2, ↓gf1_3, ↓gf1_4, ↓gf1_5, ↓gf1_6, ↓gf1_7, ↓gf1_8, ↓gf1_9, ↓gf1_10, ↓gf1_11, ↓gf1_12, ↓rc13, ↓gf13_0, ↓gf13_1, ↓gf13_2, ↓gf13_3, ↓gf13_4, ↓gf13_5, ↓gf13_6, ↓pf13_6, ft13_6, ↓gf13_7, ↓pf13_7, ft13_7, ↓gf13_8, ↓pf13_8, ft13_8, ↓gf13_9, ↓pf13_9, ft13_90, ft13_91, ↓gf13_10, ↓gf13_11, ↓gf13_12, ↓pf13_12, ft13_12, ↓gf13_13, ↓pf13_13, ft13_13, ↓gf13_14, ↓pf13_14, ft13_14, ↓rc21, ↓gf21_0, ↓pf21_0, ft21_0, ↓gf21_1, ↓pf21_1, ft21_1, ↓gf21_2, ↓pf21_2, ft21_2, ↓gf21_3, ↓pf21_3, ft21_3, ↓rc22, ↓gf22_0, ↓gf22_1, ↓gf22_2, ↓rc23, ↓gf23_0, ↓gf23_1, ↓gf23_2, ↓gf23_3, ↓pf23_3, ft23_3, ↓gf23_4, ↓pf23_4, ft23_4, ↓gf23_5, ↓pf23_5, ft23_50, ft23_51, ↓rc145, ↓gf145_0, ↓gf145_1, ↓pf145_1, ft145_1, ↓rc147, ↓gf147_0, ↓gf147_1, ↓pf147_1, ft147_1, ↓rc149, ↓gf149_0, ↓gf149_1, ↓gf149_2, ↓gf149_3, ↓gf149_4, ↓pf149_4, ft149_40, ft149_41, ↓gf149_5, ↓pf149_5, ft149_5, ↓gf149_6, ↓pf149_6, ft149_60, ft149_61, ↓gf149_7, ↓pf149_7, ft149_7, ↓gf149_8, ↓pf149_8, ft149_8, ↓gf149_9, ↓pf149_9, ft149_9, ↓gf149_10, ↓pf149_10, ft149_10, ↓gf149_11, ↓gf149_12, ↓pf149_12, ft149_12, ↓gf149_13, ↓pf149_13, ft149_13, ↓gf149_14, ↓gf149_15, ↓pf149_15, ft149_15, ↓gf149_16, ↓gf149_17, ↓gf149_18, ↓gf149_19, ↓pf149_19, ft149_19, ↓gf149_20, ↓pf149_20, ft149_20, ↓gf149_21, ↓gf149_22, ↓pf149_22, ft149_22, ef0, if_true, e506, e8, e3, e507]
    exact i2
  · obtain ⟨f1, f2, f3, f4⟩ := (i3 h).2
    refine ⟨f1, f2, f3, ?_⟩
    have hle : (((g (2 + 9 * n.toNat)).toNat - 1 : Nat) : Int) ≤ 3 := by omega
    unfold q_fd at *
    omega
end M63
