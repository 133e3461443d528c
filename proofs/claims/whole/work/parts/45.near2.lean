section M45
variable {m : Nat → Nat → Int} {K : Nat × Nat} {s : List Int32}
def q_nw (g : Nat → Int) (n c : Int) (bp bw : Int) (w : Nat) : Prop := 0 ≤ q_bs c w ∧ 0 ≤ q_net g (q_bs c w) ∧ q_net g (q_bs c w) ≠ n ∧ (q_wide g n ∨ q_wide g (q_net g (q_bs c w))) ∧ (q_pin g (q_bs c w) ∧ bp = 1 ∨ ¬ q_pin g (q_bs c w) ∧ bw = 1)
noncomputable def q_ns (g : Nat → Int) (n c bp bw : Int) : Nat → Nat → Bool
  | 0 => fun _ => false
  | w + 1 => haveI := Classical.propDecidable; if q_nw g n c bp bw w then q_ins (q_ns g n c bp bw w) (q_net g (q_bs c w)).toNat else q_ns g n c bp bw w
theorem q_ns1 {g : Nat → Int} {n c bp bw : Int} {w : Nat} (h : q_nw g n c bp bw w) : q_ns g n c bp bw (w + 1) = q_ins (q_ns g n c bp bw w) (q_net g (q_bs c w)).toNat := by
  conv => lhs; unfold q_ns
  rw [if_pos h]
theorem q_ns2 {g : Nat → Int} {n c bp bw : Int} {w : Nat} (h : ¬ q_nw g n c bp bw w) : q_ns g n c bp bw (w + 1) = q_ns g n c bp bw w := by
  conv => lhs; unfold q_ns
  rw [if_neg h]
theorem q_ns_iff {g : Nat → Int} {n c bp bw : Int} {w k : Nat} : q_ns g n c bp bw w k = true ↔ ∃ v, v < w ∧ q_nw g n c bp bw v ∧ (q_net g (q_bs c v)).toNat = k := by
  induction w with
  | zero => exact ⟨fun z => (by cases z), fun ⟨v, h, _⟩ => absurd h (by omega)⟩
  | succ w ih =>
    by_cases h : q_nw g n c bp bw w
    · rw [q_ns1 h]
      unfold q_ins
      simp only [Bool.or_eq_true, ih, beq_iff_eq]
      constructor
      · rintro (⟨v, h1, h2, h3⟩ | h1)
        · exact ⟨v, by omega, h2, h3⟩
        · exact ⟨w, by omega, h, h1.symm⟩
      · rintro ⟨v, h1, h2, h3⟩
        by_cases hv : v = w
        · subst hv
          exact Or.inr h3.symm
        · exact Or.inl ⟨v, by omega, h2, h3⟩
    · rw [q_ns2 h, ih]
      constructor
      · rintro ⟨v, h1, h2, h3⟩
        exact ⟨v, by omega, h2, h3⟩
      · rintro ⟨v, h1, h2, h3⟩
        by_cases hv : v = w
        · subst hv
          exact absurd h2 h
        · exact ⟨v, by omega, h2, h3⟩
theorem m741H {h : x_H} {c : Int} {w : Nat} (h0 : 0 ≤ c) (h1 : c < 96) (hw : w < 5) : x_m 741 [.int (q_i c), .int (q_i w)] h = some (.inl (some (.int (q_i (q_bs c w)))), h) := m741 h0 h1 w hw
theorem l4 {g : Nat → Int} {n c bp bw : Int} (hB : q_Bd m 1 g) (hW : q_W g) (hn0 : 0 ≤ n) (hn : n < 6) (h0 : 0 ≤ c) (h1 : c < 96) (hbp : bp = 0 ∨ bp = 1) (hbw : bw = 0 ∨ bw = 1) (z1 z2 : Value) (w : Nat) (hw : w < 4) : ∃ z3 z4 : Value, x_run 4 6 [.ref 1, .int (q_i n), .int (q_i c), .int (q_i bp), .int (q_i bw), .int (q_i (q_bits (q_ns g n c bp bw w))), .int (q_i w), z1, z2] [] (q_H m K s) = x_run 4 6 [.ref 1, .int (q_i n), .int (q_i c), .int (q_i bp), .int (q_i bw), .int (q_i (q_bits (q_ns g n c bp bw (w + 1)))), .int (q_i (w + 1 : Nat)), z3, z4] [] (q_H m K s) := by
  have h4 : ¬ (4 : Int) ≤ (w : Int) := by omega
  have hb := q_bs_lt h0 h1 w
  have hc := q_W_cells hW
  by_cases hby : q_bs c w < 0
  · refine ⟨.int (q_i (q_bs c w)), .int (q_i (-1)), ?_⟩
    rw [q_ns2 (fun z => absurd z.1 (by omega)), e4_6]
    simp (disch := first | rfl | assumption | decide | omega | (unfold q_R; omega)) only [en4, e4_0, e4_1, e4_3, e4_4, e4_8, e4_9, e4_12, e4_13, e4_15, e4_18, e4_20, e4_22, e4_25, e4_26, e4_29, e4_30, e4_33, e4_35, e4_36, e4_38, e4_40, e4_43, e4_45, e4_46, e4_49, e4_50, e4_53, e4_54, e4_55, e4_58, e4_59, e4_62, e4_64, e4_65, e4_68, e4_69, e4_72, e4_74, e4_76, e4_77, e4_78, e4_81, e4_82, e4_85, e4_88, e4_90, e4_93, e4_95, e4_96, e4_98, e4_99, e4_100, e4_102, e4_105, e4_108, e4_110, ↓q_nv0, ↓q_nv1, ↓q_nv2, ↓q_nv3, ↓q_nv4, ↓q_nv5, ↓q_nv6, ↓q_nv7, ↓q_nv8, ↓q_nv9, ↓q_nv10, ↓q_nv11, ↓q_nv12, ↓q_nv13, ↓q_nv14, ↓q_nv15, ↓q_nv16, ↓q_nv17, ↓q_nv18, ↓q_nv19, ↓q_nv20, ↓q_nv21, ↓q_nv22, ↓q_gi0, ↓q_gi1, ↓q_gi2, ↓q_gi3, ↓q_gi4, ↓q_gi5, ↓q_gi6, ↓q_gi7, ↓q_gi8, ↓q_gi9, ↓q_gr0, ↓q_gr1, ↓q_gr2, ↓q_gr3, ↓q_gr4, ↓q_gr5, ↓q_gr6, ↓q_gr7, ↓q_gr8, ↓q_gr9, ↓q_ls0, ↓q_ls1i, ↓q_ls1r, ↓q_ls1n, ↓q_ls2i, ↓q_ls2r, ↓q_ls2n, ↓q_ls3i, ↓q_ls3r, ↓q_ls3n, ↓q_ls4i, ↓q_ls4r, ↓q_ls4n, ↓q_ls5i, ↓q_ls5r, ↓q_ls5n, ↓q_ls6i, ↓q_ls6r, ↓q_ls6n, ↓q_ls7i, ↓q_ls7r, ↓q_ls7n, ↓q_ls8i, ↓q_ls8r, ↓q_ls8n, ↓q_ls9i, ↓q_ls9r, ↓q_ls9n, q_nd0, q_nd1i, q_nd1r, q_nd1n, q_nd2i, q_nd2r, q_nd2n, q_nd3i, q_nd3r, q_nd3n, q_nd4i, q_nd4r, q_nd4n, q_nd5i, q_nd5r, q_nd5n, q_nd6i, q_nd6r, q_nd6n, q_nd7i, q_nd7r, q_nd7n, q_nd8i, q_nd8r, q_nd8n, q_nd9i, q_nd9r, q_nd9n, q_st0, q_st1, q_st2, q_st3, q_st4, q_st5, q_st6, q_st7, q_st8, q_st9, q_cat_i, q_cat_r, q_cat_n, q_wt0, q_wt1, q_tl0, q_tl1, ↓q_cl1, q_add, q_sub, q_mul, q_nari, q_narb0, q_narb1, q_fiti, q_fitb0, q_fitb1, List.cons_append, List.nil_append, Nat.reduceAdd, Nat.reduceLeDiff, and_self, and_true, true_and, ↓reduceIte, q_le, h4, if_false, m741H, q_ge0, show ¬ 0 ≤ q_bs c w by omega, q_lt0, show (-1 : Int) < 0 by decide, if_true]
    rfl
  · have hb0 : 0 ≤ q_bs c w := by omega
    have hbn := q_hl_ge hc hb0 hb.2
    have eh : m 10 (q_bs c w).toNat = q_hl g (q_bs c w) := q_Bd_held hB hb0 hb.2
    have ew : m 2 n.toNat = g (1 + 9 * n).toNat := q_Bd_wide hB hn0 hn
    have ep : m 11 (q_bs c w % 48).toNat = q_b (q_pin g (q_bs c w)) := q_Bd_pin hB hb0 hb.2
    have r48 := q_rem hb0 (show q_R (q_bs c w) by unfold q_R; omega) (b := 48) (by omega) (by unfold q_R; omega)
    have z48 : ¬ q_i 48 = 0 := by decide
    refine ⟨.int (q_i (q_bs c w)), .int (q_i (q_hl g (q_bs c w))), ?_⟩
    by_cases ho : q_hl g (q_bs c w) < 0
    · rw [q_ns2 (fun z => absurd (hbn.1.mpr z.2.1) (by omega)), e4_6]
      simp (disch := first | rfl | assumption | decide | omega | (unfold q_R; omega)) only [en4, e4_0, e4_1, e4_3, e4_4, e4_8, e4_9, e4_12, e4_13, e4_15, e4_18, e4_20, e4_22, e4_25, e4_26, e4_29, e4_30, e4_33, e4_35, e4_36, e4_38, e4_40, e4_43, e4_45, e4_46, e4_49, e4_50, e4_53, e4_54, e4_55, e4_58, e4_59, e4_62, e4_64, e4_65, e4_68, e4_69, e4_72, e4_74, e4_76, e4_77, e4_78, e4_81, e4_82, e4_85, e4_88, e4_90, e4_93, e4_95, e4_96, e4_98, e4_99, e4_100, e4_102, e4_105, e4_108, e4_110, ↓q_nv0, ↓q_nv1, ↓q_nv2, ↓q_nv3, ↓q_nv4, ↓q_nv5, ↓q_nv6, ↓q_nv7, ↓q_nv8, ↓q_nv9, ↓q_nv10, ↓q_nv11, ↓q_nv12, ↓q_nv13, ↓q_nv14, ↓q_nv15, ↓q_nv16, ↓q_nv17, ↓q_nv18, ↓q_nv19, ↓q_nv20, ↓q_nv21, ↓q_nv22, ↓q_gi0, ↓q_gi1, ↓q_gi2, ↓q_gi3, ↓q_gi4, ↓q_gi5, ↓q_gi6, ↓q_gi7, ↓q_gi8, ↓q_gi9, ↓q_gr0, ↓q_gr1, ↓q_gr2, ↓q_gr3, ↓q_gr4, ↓q_gr5, ↓q_gr6, ↓q_gr7, ↓q_gr8, ↓q_gr9, ↓q_ls0, ↓q_ls1i, ↓q_ls1r, ↓q_ls1n, ↓q_ls2i, ↓q_ls2r, ↓q_ls2n, ↓q_ls3i, ↓q_ls3r, ↓q_ls3n, ↓q_ls4i, ↓q_ls4r, ↓q_ls4n, ↓q_ls5i, ↓q_ls5r, ↓q_ls5n, ↓q_ls6i, ↓q_ls6r, ↓q_ls6n, ↓q_ls7i, ↓q_ls7r, ↓q_ls7n, ↓q_ls8i, ↓q_ls8r, ↓q_ls8n, ↓q_ls9i, ↓q_ls9r, ↓q_ls9n, q_nd0, q_nd1i, q_nd1r, q_nd1n, q_nd2i, q_nd2r, q_nd2n, q_nd3i, q_nd3r, q_nd3n, q_nd4i, q_nd4r, q_nd4n, q_nd5i, q_nd5r, q_nd5n, q_nd6i, q_nd6r, q_nd6n, q_nd7i, q_nd7r, q_nd7n, q_nd8i, q_nd8r, q_nd8n, q_nd9i, q_nd9r, q_nd9n, q_st0, q_st1, q_st2, q_st3, q_st4, q_st5, q_st6, q_st7, q_st8, q_st9, q_cat_i, q_cat_r, q_cat_n, q_wt0, q_wt1, q_tl0, q_tl1, ↓q_cl1, q_add, q_sub, q_mul, q_nari, q_narb0, q_narb1, q_fiti, q_fitb0, q_fitb1, List.cons_append, List.nil_append, Nat.reduceAdd, Nat.reduceLeDiff, and_self, and_true, true_and, ↓reduceIte, gf1_10, ra10, q_le, h4, if_false, m741H, q_ge0, hb0, eh, q_lt0, ho, if_true]
      rfl
    · have hoe := q_hl_net (g := g) (c := q_bs c w) (by omega)
      rw [hoe] at eh ho hbn
      rw [hoe]
      have ho0 : 0 ≤ q_net g (q_bs c w) := by omega
      have ho6 : q_net g (q_bs c w) < 6 := hbn.2.2
      have ew2 : m 2 (q_net g (q_bs c w)).toNat = g (1 + 9 * q_net g (q_bs c w)).toNat := q_Bd_wide hB ho0 ho6
      have hR1 := q_W_R hW (1 + 9 * n).toNat
      have hR2 := q_W_R hW (1 + 9 * q_net g (q_bs c w)).toNat
      have x1 := q_W_wide hW hn0 hn
      have x2 := q_W_wide hW ho0 ho6
      have x3 := q_bits_or (q_ns g n c bp bw w) ho0 ho6
      rw [e4_6]
      simp (disch := first | rfl | assumption | decide | omega | (unfold q_R; omega)) only [en4, e4_0, e4_1, e4_3, e4_4, e4_8, e4_9, e4_12, e4_13, e4_15, e4_18, e4_20, e4_22, e4_25, e4_26, e4_29, e4_30, e4_33, e4_35, e4_36, e4_38, e4_40, e4_43, e4_45, e4_46, e4_49, e4_50, e4_53, e4_54, e4_55, e4_58, e4_59, e4_62, e4_64, e4_65, e4_68, e4_69, e4_72, e4_74, e4_76, e4_77, e4_78, e4_81, e4_82, e4_85, e4_88, e4_90, e4_93, e4_95, e4_96, e4_98, e4_99, e4_100, e4_102, e4_105, e4_108, e4_110, ↓q_nv0, ↓q_nv1, ↓q_nv2, ↓q_nv3, ↓q_nv4, ↓q_nv5, ↓q_nv6, ↓q_nv7, ↓q_nv8, ↓q_nv9, ↓q_nv10, ↓q_nv11, ↓q_nv12, ↓q_nv13, ↓q_nv14, ↓q_nv15, ↓q_nv16, ↓q_nv17, ↓q_nv18, ↓q_nv19, ↓q_nv20, ↓q_nv21, ↓q_nv22, ↓q_gi0, ↓q_gi1, ↓q_gi2, ↓q_gi3, ↓q_gi4, ↓q_gi5, ↓q_gi6, ↓q_gi7, ↓q_gi8, ↓q_gi9, ↓q_gr0, ↓q_gr1, ↓q_gr2, ↓q_gr3, ↓q_gr4, ↓q_gr5, ↓q_gr6, ↓q_gr7, ↓q_gr8, ↓q_gr9, ↓q_ls0, ↓q_ls1i, ↓q_ls1r, ↓q_ls1n, ↓q_ls2i, ↓q_ls2r, ↓q_ls2n, ↓q_ls3i, ↓q_ls3r, ↓q_ls3n, ↓q_ls4i, ↓q_ls4r, ↓q_ls4n, ↓q_ls5i, ↓q_ls5r, ↓q_ls5n, ↓q_ls6i, ↓q_ls6r, ↓q_ls6n, ↓q_ls7i, ↓q_ls7r, ↓q_ls7n, ↓q_ls8i, ↓q_ls8r, ↓q_ls8n, ↓q_ls9i, ↓q_ls9r, ↓q_ls9n, q_nd0, q_nd1i, q_nd1r, q_nd1n, q_nd2i, q_nd2r, q_nd2n, q_nd3i, q_nd3r, q_nd3n, q_nd4i, q_nd4r, q_nd4n, q_nd5i, q_nd5r, q_nd5n, q_nd6i, q_nd6r, q_nd6n, q_nd7i, q_nd7r, q_nd7n, q_nd8i, q_nd8r, q_nd8n, q_nd9i, q_nd9r, q_nd9n, q_st0, q_st1, q_st2, q_st3, q_st4, q_st5, q_st6, q_st7, q_st8, q_st9, q_cat_i, q_cat_r, q_cat_n, q_wt0, q_wt1, q_tl0, q_tl1, ↓q_cl1, q_add, q_sub, q_mul, q_nari, q_narb0, q_narb1, q_fiti, q_fitb0, q_fitb1, List.cons_append, List.nil_append, Nat.reduceAdd, Nat.reduceLeDiff, and_self, and_true, true_and, ↓reduceIte, ↓rc0, ↓gf0_0, ↓gf0_1, ↓gf0_2, ↓gf0_3, ↓gf0_4, ↓gf0_5, ↓gf0_6, ↓gf0_7, ↓pf0_7, ft0_7, ↓rc1, ↓gf1_0, ↓pf1_0, ft1_0, ↓gf1_1, ↓pf1_1, ft1_1, ↓gf1_2, ↓gf1_3, ↓gf1_4, ↓gf1_5, ↓gf1_6, ↓gf1_7, ↓gf1_8, ↓gf1_9, ↓gf1_10, ↓gf1_11, ↓gf1_12, ↓rc13, ↓gf13_0, ↓gf13_1, ↓gf13_2, ↓gf13_3, ↓gf13_4, ↓gf13_5, ↓gf13_6, ↓pf13_6, ft13_6, ↓gf13_7, ↓pf13_7, ft13_7, ↓gf13_8, ↓pf13_8, ft13_8, ↓gf13_9, ↓pf13_9, ft13_90, ft13_91, ↓gf13_10, ↓gf13_11, ↓gf13_12, ↓pf13_12, ft13_12, ↓gf13_13, ↓pf13_13, ft13_13, ↓gf13_14, ↓pf13_14, ft13_14, ↓rc21, ↓gf21_0, ↓pf21_0, ft21_0, ↓gf21_1, ↓pf21_1, ft21_1, ↓gf21_2, ↓pf21_2, ft21_2, ↓gf21_3, ↓pf21_3, ft21_3, ↓rc22, ↓gf22_0, ↓gf22_1, ↓gf22_2, ↓rc23, ↓gf23_0, ↓gf23_1, ↓gf23_2, ↓gf23_3, ↓pf23_3, ft23_3, ↓gf23_4, ↓pf23_4, ft23_4, ↓gf23_5, ↓pf23_5, ft23_50, ft23_51, ↓rc145, ↓gf145_0, ↓gf145_1, ↓pf145_1, ft145_1, ↓rc147, ↓gf147_0, ↓gf147_1, ↓pf147_1, ft147_1, ↓rc149, ↓gf149_0, ↓gf149_1, ↓gf149_2, ↓gf149_3, ↓gf149_4, ↓pf149_4, ft149_40, ft149_41, ↓gf149_5, ↓pf149_5, ft149_5, ↓gf149_6, ↓pf149_6, ft149_60, ft149_61, ↓gf149_7, ↓pf149_7, ft149_7, ↓gf149_8, ↓pf149_8, ft149_8, ↓gf149_9, ↓pf149_9, ft149_9, ↓gf149_10, ↓pf149_10, ft149_10, ↓gf149_11, ↓gf149_12, ↓pf149_12, ft149_12, ↓gf149_13, ↓pf149_13, ft149_13, ↓gf149_14, ↓gf149_15, ↓pf149_15, ft149_15, ↓gf149_16, ↓gf149_17, ↓gf149_18, ↓gf149_19, ↓pf149_19, ft149_19, ↓gf149_20, ↓pf149_20, ft149_20, ↓gf149_21, ↓gf149_22, ↓pf149_22, ft149_22, ↓ra2, ↓wa2, ↓ln2, ↓ra3, ↓wa3, ↓ln3, ↓ra4, ↓wa4, ↓ln4, ↓ra5, ↓wa5, ↓ln5, ↓ra6, ↓wa6, ↓ln6, ↓ra7, ↓wa7, ↓ln7, ↓ra8, ↓wa8, ↓ln8, ↓ra9, ↓wa9, ↓ln9, ↓ra10, ↓wa10, ↓ln10, ↓ra11, ↓wa11, ↓ln11, ↓ra12, ↓wa12, ↓ln12, ↓ra14, ↓wa14, ↓ln14, ↓ra15, ↓wa15, ↓ln15, ↓ra16, ↓wa16, ↓ln16, ↓ra17, ↓wa17, ↓ln17, ↓ra18, ↓wa18, ↓ln18, ↓ra19, ↓wa19, ↓ln19, ↓ra20, ↓wa20, ↓ln20, ↓ra146, ↓wa146, ↓ln146, ↓ra148, ↓wa148, ↓ln148, ↓ra150, ↓wa150, ↓ln150, ↓ra151, ↓wa151, ↓ln151, ↓ra152, ↓wa152, ↓ln152, ↓ra153, ↓wa153, ↓ln153, ↓ra154, ↓wa154, ↓ln154, ↓ra155, ↓wa155, ↓ln155, ↓ra156, ↓wa156, ↓ln156, ↓ra157, ↓wa157, ↓ln157, ↓ra158, ↓wa158, ↓ln158, ↓ra159, ↓wa159, ↓ln159, q_le, h4, if_false, m741H, q_ge0, hb0, eh, q_lt0, ho, q_eq, ew, ew2, ep, r48, z48, q_eq0, q_bz, x1, x2, x3]
      by_cases hon : q_net g (q_bs c w) = n
      · rw [q_ns2 (fun z => absurd hon z.2.2.1), if_pos hon]
        rfl
      · rw [if_neg hon]
        by_cases y1 : q_wide g n <;> by_cases y2 : q_wide g (q_net g (q_bs c w)) <;> by_cases y3 : q_pin g (q_bs c w) <;> rcases hbp with rfl | rfl <;> rcases hbw with rfl | rfl
        all_goals first
          | (rw [q_ns1 (show q_nw g n c _ _ w from ⟨hb0, by omega, hon, by simp [y1, y2], by simp [y3]⟩)]; simp (disch := first | rfl | assumption | decide | omega | (unfold q_R; omega)) only [q_bz, q_eq0, x1, x2, y1, y2, y3, q_i00, q_i10, not_true_eq_false, not_false_eq_true, if_true, if_false, show ¬ (1 : Int) = 0 by decide]; rfl)
          | (rw [q_ns2 (show ¬ q_nw g n c _ _ w from fun z => by have z1 := z.2.2.2.1; have z2 := z.2.2.2.2; simp [y1, y2, y3] at z1 z2)]; simp (disch := first | rfl | assumption | decide | omega | (unfold q_R; omega)) only [q_bz, q_eq0, x1, x2, y1, y2, y3, q_i00, q_i10, not_true_eq_false, not_false_eq_true, if_true, if_false, show ¬ (1 : Int) = 0 by decide]; rfl)
theorem m4 {g : Nat → Int} {n c bp bw : Int} (hB : q_Bd m 1 g) (hW : q_W g) (hn0 : 0 ≤ n) (hn : n < 6) (h0 : 0 ≤ c) (h1 : c < 96) (hbp : bp = 0 ∨ bp = 1) (hbw : bw = 0 ∨ bw = 1) : x_m 4 [.ref 1, .int (q_i n), .int (q_i c), .int (q_i bp), .int (q_i bw)] (q_H m K s) = some (.inl (some (.int (q_i (q_bits (q_ns g n c bp bw 4))))), (q_H m K s)) := by
  obtain ⟨ls, h', ⟨rfl, z1, z2, rfl⟩, e⟩ := q_loop (M := 4) (pc := 6) (n := 4) (fun i ls h => h = (q_H m K s) ∧ ∃ z1 z2 : Value, ls = [.ref 1, .int (q_i n), .int (q_i c), .int (q_i bp), .int (q_i bw), .int (q_i (q_bits (q_ns g n c bp bw i))), .int (q_i i), z1, z2]) (fun i ls h hi ⟨hh, z1, z2, hl⟩ => by
    subst hh hl
    obtain ⟨z3, z4, e⟩ := l4 hB hW hn0 hn h0 h1 hbp hbw z1 z2 i hi
    exact ⟨_, _, ⟨rfl, z3, z4, rfl⟩, e⟩) (ls := [.ref 1, .int (q_i n), .int (q_i c), .int (q_i bp), .int (q_i bw), .int (q_i (q_bits (q_ns g n c bp bw 0))), .int (q_i (0 : Nat)), .null, .null]) ⟨rfl, _, _, rfl⟩
  rw [en4, e4_0]
  simp only [e4_1, e4_3, e4_4, ↓q_nv0, ↓q_nv1, ↓q_nv2, ↓q_nv3, ↓q_nv4, ↓q_nv5, ↓q_nv6, ↓q_nv7, ↓q_nv8, ↓q_nv9, ↓q_nv10, ↓q_nv11, ↓q_nv12, ↓q_nv13, ↓q_nv14, ↓q_nv15, ↓q_nv16, ↓q_nv17, ↓q_nv18, ↓q_nv19, ↓q_nv20, ↓q_nv21, ↓q_nv22, ↓q_gi0, ↓q_gi1, ↓q_gi2, ↓q_gi3, ↓q_gi4, ↓q_gi5, ↓q_gi6, ↓q_gi7, ↓q_gi8, ↓q_gi9, ↓q_gr0, ↓q_gr1, ↓q_gr2, ↓q_gr3, ↓q_gr4, ↓q_gr5, ↓q_gr6, ↓q_gr7, ↓q_gr8, ↓q_gr9, ↓q_ls0, ↓q_ls1i, ↓q_ls1r, ↓q_ls1n, ↓q_ls2i, ↓q_ls2r, ↓q_ls2n, ↓q_ls3i, ↓q_ls3r, ↓q_ls3n, ↓q_ls4i, ↓q_ls4r, ↓q_ls4n, ↓q_ls5i, ↓q_ls5r, ↓q_ls5n, ↓q_ls6i, ↓q_ls6r, ↓q_ls6n, ↓q_ls7i, ↓q_ls7r, ↓q_ls7n, ↓q_ls8i, ↓q_ls8r, ↓q_ls8n, ↓q_ls9i, ↓q_ls9r, ↓q_ls9n, q_nd0, q_nd1i, q_nd1r, q_nd1n, q_nd2i, q_nd2r, q_nd2n, q_nd3i, q_nd3r, q_nd3n, q_nd4i, q_nd4r, q_nd4n, q_nd5i, q_nd5r, q_nd5n, q_nd6i, q_nd6r, q_nd6n, q_nd7i, q_nd7r, q_nd7n, q_nd8i, q_nd8r, q_nd8n, q_nd9i, q_nd9r, q_nd9n, q_st0, q_st1, q_st2, q_st3, q_st4, q_st5, q_st6, q_st7, q_st8, q_st9, q_cat_i, q_cat_r, q_cat_n, q_wt0, q_wt1, q_tl0, q_tl1, ↓q_cl1, q_add, q_sub, q_mul, q_nari, q_narb0, q_narb1, q_fiti, q_fitb0, q_fitb1, List.cons_append, List.nil_append, Nat.reduceAdd, Nat.reduceLeDiff, and_self, and_true, true_and, ↓reduceIte]
  refine Eq.trans e ?_
  rw [e4_6]
  simp (disch := first | rfl | assumption | (unfold q_R; omega) | omega) only [en4, e4_0, e4_1, e4_3, e4_4, e4_8, e4_9, e4_12, e4_13, e4_15, e4_18, e4_20, e4_22, e4_25, e4_26, e4_29, e4_30, e4_33, e4_35, e4_36, e4_38, e4_40, e4_43, e4_45, e4_46, e4_49, e4_50, e4_53, e4_54, e4_55, e4_58, e4_59, e4_62, e4_64, e4_65, e4_68, e4_69, e4_72, e4_74, e4_76, e4_77, e4_78, e4_81, e4_82, e4_85, e4_88, e4_90, e4_93, e4_95, e4_96, e4_98, e4_99, e4_100, e4_102, e4_105, e4_108, e4_110, ↓q_nv0, ↓q_nv1, ↓q_nv2, ↓q_nv3, ↓q_nv4, ↓q_nv5, ↓q_nv6, ↓q_nv7, ↓q_nv8, ↓q_nv9, ↓q_nv10, ↓q_nv11, ↓q_nv12, ↓q_nv13, ↓q_nv14, ↓q_nv15, ↓q_nv16, ↓q_nv17, ↓q_nv18, ↓q_nv19, ↓q_nv20, ↓q_nv21, ↓q_nv22, ↓q_gi0, ↓q_gi1, ↓q_gi2, ↓q_gi3, ↓q_gi4, ↓q_gi5, ↓q_gi6, ↓q_gi7, ↓q_gi8, ↓q_gi9, ↓q_gr0, ↓q_gr1, ↓q_gr2, ↓q_gr3, ↓q_gr4, ↓q_gr5, ↓q_gr6, ↓q_gr7, ↓q_gr8, ↓q_gr9, ↓q_ls0, ↓q_ls1i, ↓q_ls1r, ↓q_ls1n, ↓q_ls2i, ↓q_ls2r, ↓q_ls2n, ↓q_ls3i, ↓q_ls3r, ↓q_ls3n, ↓q_ls4i, ↓q_ls4r, ↓q_ls4n, ↓q_ls5i, ↓q_ls5r, ↓q_ls5n, ↓q_ls6i, ↓q_ls6r, ↓q_ls6n, ↓q_ls7i, ↓q_ls7r, ↓q_ls7n, ↓q_ls8i, ↓q_ls8r, ↓q_ls8n, ↓q_ls9i, ↓q_ls9r, ↓q_ls9n, q_nd0, q_nd1i, q_nd1r, q_nd1n, q_nd2i, q_nd2r, q_nd2n, q_nd3i, q_nd3r, q_nd3n, q_nd4i, q_nd4r, q_nd4n, q_nd5i, q_nd5r, q_nd5n, q_nd6i, q_nd6r, q_nd6n, q_nd7i, q_nd7r, q_nd7n, q_nd8i, q_nd8r, q_nd8n, q_nd9i, q_nd9r, q_nd9n, q_st0, q_st1, q_st2, q_st3, q_st4, q_st5, q_st6, q_st7, q_st8, q_st9, q_cat_i, q_cat_r, q_cat_n, q_wt0, q_wt1, q_tl0, q_tl1, ↓q_cl1, q_add, q_sub, q_mul, q_nari, q_narb0, q_narb1, q_fiti, q_fitb0, q_fitb1, List.cons_append, List.nil_append, Nat.reduceAdd, Nat.reduceLeDiff, and_self, and_true, true_and, ↓reduceIte, q_le]
  rw [if_pos (by decide)]
/-- the lowest of a set; 6: none -/
def q_low (S : Nat → Bool) : Nat := if S 0 = true then 0 else if S 1 = true then 1 else if S 2 = true then 2 else if S 3 = true then 3 else if S 4 = true then 4 else if S 5 = true then 5 else 6
theorem m110 {S : Nat → Bool} {h : x_H} : x_m 110 [.int (q_i (q_bits S))] h = some (.inl (some (.int (q_i (q_low S)))), h) := by
  have a0 := q_bits_and S (o := 0) (by decide) (by decide)
  have a1 := q_bits_and S (o := 1) (by decide) (by decide)
  have a2 := q_bits_and S (o := 2) (by decide) (by decide)
  have a3 := q_bits_and S (o := 3) (by decide) (by decide)
  have a4 := q_bits_and S (o := 4) (by decide) (by decide)
  have a5 := q_bits_and S (o := 5) (by decide) (by decide)
  have st : ∀ i : Int, 0 ≤ i → i < 6 → x_run 110 2 [.int (q_i (q_bits S)), .int (q_i i)] [] h = if S i.toNat = true then some (.inl (some (.int (q_i i))), h) else x_run 110 2 [.int (q_i (q_bits S)), .int (q_i (i + 1))] [] h := fun i hi h6 => by
    have a := q_bits_and S hi h6
    rw [e110_2]
    simp (disch := first | rfl | assumption | decide | omega | (unfold q_R; omega)) only [en110, e110_0, e110_1, e110_3, e110_5, e110_8, e110_9, e110_10, e110_11, e110_12, e110_13, e110_16, e110_19, e110_22, e110_23, ↓q_nv0, ↓q_nv1, ↓q_nv2, ↓q_nv3, ↓q_nv4, ↓q_nv5, ↓q_nv6, ↓q_nv7, ↓q_nv8, ↓q_nv9, ↓q_nv10, ↓q_nv11, ↓q_nv12, ↓q_nv13, ↓q_nv14, ↓q_nv15, ↓q_nv16, ↓q_nv17, ↓q_nv18, ↓q_nv19, ↓q_nv20, ↓q_nv21, ↓q_nv22, ↓q_gi0, ↓q_gi1, ↓q_gi2, ↓q_gi3, ↓q_gi4, ↓q_gi5, ↓q_gi6, ↓q_gi7, ↓q_gi8, ↓q_gi9, ↓q_gr0, ↓q_gr1, ↓q_gr2, ↓q_gr3, ↓q_gr4, ↓q_gr5, ↓q_gr6, ↓q_gr7, ↓q_gr8, ↓q_gr9, ↓q_ls0, ↓q_ls1i, ↓q_ls1r, ↓q_ls1n, ↓q_ls2i, ↓q_ls2r, ↓q_ls2n, ↓q_ls3i, ↓q_ls3r, ↓q_ls3n, ↓q_ls4i, ↓q_ls4r, ↓q_ls4n, ↓q_ls5i, ↓q_ls5r, ↓q_ls5n, ↓q_ls6i, ↓q_ls6r, ↓q_ls6n, ↓q_ls7i, ↓q_ls7r, ↓q_ls7n, ↓q_ls8i, ↓q_ls8r, ↓q_ls8n, ↓q_ls9i, ↓q_ls9r, ↓q_ls9n, q_nd0, q_nd1i, q_nd1r, q_nd1n, q_nd2i, q_nd2r, q_nd2n, q_nd3i, q_nd3r, q_nd3n, q_nd4i, q_nd4r, q_nd4n, q_nd5i, q_nd5r, q_nd5n, q_nd6i, q_nd6r, q_nd6n, q_nd7i, q_nd7r, q_nd7n, q_nd8i, q_nd8r, q_nd8n, q_nd9i, q_nd9r, q_nd9n, q_st0, q_st1, q_st2, q_st3, q_st4, q_st5, q_st6, q_st7, q_st8, q_st9, q_cat_i, q_cat_r, q_cat_n, q_wt0, q_wt1, q_tl0, q_tl1, ↓q_cl1, q_add, q_sub, q_mul, q_nari, q_narb0, q_narb1, q_fiti, q_fitb0, q_fitb1, List.cons_append, List.nil_append, Nat.reduceAdd, Nat.reduceLeDiff, and_self, and_true, true_and, ↓reduceIte, q_le, show ¬ 6 ≤ i by omega, a, if_false]
    cases hS : S i.toNat
    · simp
    · simp
  have s0 := st 0 (by decide) (by decide)
  have s1 := st 1 (by decide) (by decide)
  have s2 := st 2 (by decide) (by decide)
  have s3 := st 3 (by decide) (by decide)
  have s4 := st 4 (by decide) (by decide)
  have s5 := st 5 (by decide) (by decide)
  have s6 : x_run 110 2 [.int (q_i (q_bits S)), .int (q_i 6)] [] h = some (.inl (some (.int (q_i 6))), h) := by
    rw [e110_2]
    simp (disch := first | rfl | assumption | decide | omega | (unfold q_R; omega)) only [en110, e110_0, e110_1, e110_3, e110_5, e110_8, e110_9, e110_10, e110_11, e110_12, e110_13, e110_16, e110_19, e110_22, e110_23, ↓q_nv0, ↓q_nv1, ↓q_nv2, ↓q_nv3, ↓q_nv4, ↓q_nv5, ↓q_nv6, ↓q_nv7, ↓q_nv8, ↓q_nv9, ↓q_nv10, ↓q_nv11, ↓q_nv12, ↓q_nv13, ↓q_nv14, ↓q_nv15, ↓q_nv16, ↓q_nv17, ↓q_nv18, ↓q_nv19, ↓q_nv20, ↓q_nv21, ↓q_nv22, ↓q_gi0, ↓q_gi1, ↓q_gi2, ↓q_gi3, ↓q_gi4, ↓q_gi5, ↓q_gi6, ↓q_gi7, ↓q_gi8, ↓q_gi9, ↓q_gr0, ↓q_gr1, ↓q_gr2, ↓q_gr3, ↓q_gr4, ↓q_gr5, ↓q_gr6, ↓q_gr7, ↓q_gr8, ↓q_gr9, ↓q_ls0, ↓q_ls1i, ↓q_ls1r, ↓q_ls1n, ↓q_ls2i, ↓q_ls2r, ↓q_ls2n, ↓q_ls3i, ↓q_ls3r, ↓q_ls3n, ↓q_ls4i, ↓q_ls4r, ↓q_ls4n, ↓q_ls5i, ↓q_ls5r, ↓q_ls5n, ↓q_ls6i, ↓q_ls6r, ↓q_ls6n, ↓q_ls7i, ↓q_ls7r, ↓q_ls7n, ↓q_ls8i, ↓q_ls8r, ↓q_ls8n, ↓q_ls9i, ↓q_ls9r, ↓q_ls9n, q_nd0, q_nd1i, q_nd1r, q_nd1n, q_nd2i, q_nd2r, q_nd2n, q_nd3i, q_nd3r, q_nd3n, q_nd4i, q_nd4r, q_nd4n, q_nd5i, q_nd5r, q_nd5n, q_nd6i, q_nd6r, q_nd6n, q_nd7i, q_nd7r, q_nd7n, q_nd8i, q_nd8r, q_nd8n, q_nd9i, q_nd9r, q_nd9n, q_st0, q_st1, q_st2, q_st3, q_st4, q_st5, q_st6, q_st7, q_st8, q_st9, q_cat_i, q_cat_r, q_cat_n, q_wt0, q_wt1, q_tl0, q_tl1, ↓q_cl1, q_add, q_sub, q_mul, q_nari, q_narb0, q_narb1, q_fiti, q_fitb0, q_fitb1, List.cons_append, List.nil_append, Nat.reduceAdd, Nat.reduceLeDiff, and_self, and_true, true_and, ↓reduceIte, q_le, Int.le_refl, if_true]
  rw [en110, e110_0]
  simp only [e110_1, ↓q_nv0, ↓q_nv1, ↓q_nv2, ↓q_nv3, ↓q_nv4, ↓q_nv5, ↓q_nv6, ↓q_nv7, ↓q_nv8, ↓q_nv9, ↓q_nv10, ↓q_nv11, ↓q_nv12, ↓q_nv13, ↓q_nv14, ↓q_nv15, ↓q_nv16, ↓q_nv17, ↓q_nv18, ↓q_nv19, ↓q_nv20, ↓q_nv21, ↓q_nv22, ↓q_gi0, ↓q_gi1, ↓q_gi2, ↓q_gi3, ↓q_gi4, ↓q_gi5, ↓q_gi6, ↓q_gi7, ↓q_gi8, ↓q_gi9, ↓q_gr0, ↓q_gr1, ↓q_gr2, ↓q_gr3, ↓q_gr4, ↓q_gr5, ↓q_gr6, ↓q_gr7, ↓q_gr8, ↓q_gr9, ↓q_ls0, ↓q_ls1i, ↓q_ls1r, ↓q_ls1n, ↓q_ls2i, ↓q_ls2r, ↓q_ls2n, ↓q_ls3i, ↓q_ls3r, ↓q_ls3n, ↓q_ls4i, ↓q_ls4r, ↓q_ls4n, ↓q_ls5i, ↓q_ls5r, ↓q_ls5n, ↓q_ls6i, ↓q_ls6r, ↓q_ls6n, ↓q_ls7i, ↓q_ls7r, ↓q_ls7n, ↓q_ls8i, ↓q_ls8r, ↓q_ls8n, ↓q_ls9i, ↓q_ls9r, ↓q_ls9n, q_nd0, q_nd1i, q_nd1r, q_nd1n, q_nd2i, q_nd2r, q_nd2n, q_nd3i, q_nd3r, q_nd3n, q_nd4i, q_nd4r, q_nd4n, q_nd5i, q_nd5r, q_nd5n, q_nd6i, q_nd6r, q_nd6n, q_nd7i, q_nd7r, q_nd7n, q_nd8i, q_nd8r, q_nd8n, q_nd9i, q_nd9r, q_nd9n, q_st0, q_st1, q_st2, q_st3, q_st4, q_st5, q_st6, q_st7, q_st8, q_st9, q_cat_i, q_cat_r, q_cat_n, q_wt0, q_wt1, q_tl0, q_tl1, ↓q_cl1, q_add, q_sub, q_mul, q_nari, q_narb0, q_narb1, q_fiti, q_fitb0, q_fitb1, List.cons_append, List.nil_append, Nat.reduceAdd, Nat.reduceLeDiff, and_self, and_true, true_and, ↓reduceIte]
  rw [s0, show (0 : Int) + 1 = 1 from rfl, s1, show (1 : Int) + 1 = 2 from rfl, s2, show (2 : Int) + 1 = 3 from rfl, s3, show (3 : Int) + 1 = 4 from rfl, s4, show (4 : Int) + 1 = 5 from rfl, s5, show (5 : Int) + 1 = 6 from rfl, s6]
  unfold q_low
  simp only [show (0 : Int).toNat = 0 from rfl, show (1 : Int).toNat = 1 from rfl, show (2 : Int).toNat = 2 from rfl, show (3 : Int).toNat = 3 from rfl, show (4 : Int).toNat = 4 from rfl, show (5 : Int).toNat = 5 from rfl]
  repeat' split
  all_goals rfl
end M45
