theorem q_su_le {f : Nat → Int} {B : Nat} (h : ∀ c, f c ≤ B) (n : Nat) : q_su f n ≤ n * B := by
  induction n with
  | zero => exact Nat.zero_le _
  | succ n ih =>
    have h1 := h n
    show q_su f n + (f n).toNat ≤ (n + 1) * B
    rw [Nat.succ_mul]
    omega
def q_del (Q : Nat → Bool) (e : Nat) : Nat → Bool := fun j => if j = e then false else Q j
theorem q_del_set {Q : Nat → Bool} {e : Nat} (h : Q e = true) : q_set (q_del Q e) e = Q := by
  funext j
  unfold q_set q_del
  by_cases hj : j = e
  · subst hj
    simp [h]
  · simp [hj]
theorem q_del_cnt {Q : Nat → Bool} {e : Nat} (h : Q e = true) (he : e < 96) : q_cnt (q_del Q e) 96 + 1 = q_cnt Q 96 := by
  have h1 := q_cnt_set2 (Q := q_del Q e) (c := e) (by simp [q_del]) 96
  rw [q_del_set h, if_pos he] at h1
  omega
section M59
variable {m : Nat → Nat → Int} {K : Nat × Nat} {s : List Int32}
theorem l508o {g : Nat → Int} {n hard : Int} {P : Nat → Prop} (hR : q_Rt m g n) (hW : q_W g) (hh : hard = 0 ∨ hard = 1) (h9 : m 13 9 = hard) (N : Nat) : ∀ (mm : Nat → Nat → Int) (D : Nat → Int) (Q : Nat → Bool) (t : Nat) (z : Value), q_ph D + q_cnt Q 96 ≤ N → N + t ≤ 900000 → q_sp m mm D Q → q_si P (q_al g n hard) (q_Wn g n) D Q (fun _ _ => False) → q_qf D Q →
    ∃ (mm' : Nat → Nat → Int) (D' : Nat → Int) (Q' : Nat → Bool), q_cnt Q' 96 = 0 ∧ q_sp m mm' D' Q' ∧ q_si P (q_al g n hard) (q_Wn g n) D' Q' (fun _ _ => False) ∧ x_run 508 68 [.ref 13, .int (q_i t), z] [] (q_H mm K s) = some (.inl none, q_H mm' K s) := by
  induction N with
  | zero =>
    intro mm D Q t z hN ht hs hI hqf
    have hc0 : q_cnt Q 96 = 0 := by omega
    have h7 : mm 13 7 = (0 : Nat) := by rw [hs.2.1.2.2.1, hc0]
    refine ⟨mm, D, Q, hc0, hs, hI, ?_⟩
    rw [e508_68]
    simp (disch := first | rfl | assumption | decide | omega | (unfold q_R; omega)) only [en508, e508_0, e508_1, e508_2, e508_5, e508_6, e508_7, e508_10, e508_11, e508_12, e508_13, e508_15, e508_18, e508_19, e508_22, e508_23, e508_24, e508_27, e508_28, e508_29, e508_32, e508_33, e508_36, e508_38, e508_39, e508_40, e508_43, e508_44, e508_45, e508_46, e508_47, e508_50, e508_51, e508_52, e508_55, e508_56, e508_57, e508_60, e508_63, e508_66, e508_67, e508_69, e508_72, e508_75, e508_76, e508_78, e508_81, e508_82, e508_85, e508_86, e508_89, e508_90, e508_91, e508_92, e508_93, e508_96, e508_97, e508_98, e508_100, e508_101, e508_104, e508_105, e508_106, e508_109, e508_110, e508_111, e508_114, e508_115, e508_118, e508_119, e508_120, e508_121, e508_122, e508_123, e508_126, e508_129, e508_132, ↓q_nv0, ↓q_nv1, ↓q_nv2, ↓q_nv3, ↓q_nv4, ↓q_nv5, ↓q_nv6, ↓q_nv7, ↓q_nv8, ↓q_nv9, ↓q_nv10, ↓q_nv11, ↓q_nv12, ↓q_nv13, ↓q_nv14, ↓q_nv15, ↓q_nv16, ↓q_nv17, ↓q_nv18, ↓q_nv19, ↓q_nv20, ↓q_nv21, ↓q_nv22, ↓q_gi0, ↓q_gi1, ↓q_gi2, ↓q_gi3, ↓q_gi4, ↓q_gi5, ↓q_gi6, ↓q_gi7, ↓q_gi8, ↓q_gi9, ↓q_gr0, ↓q_gr1, ↓q_gr2, ↓q_gr3, ↓q_gr4, ↓q_gr5, ↓q_gr6, ↓q_gr7, ↓q_gr8, ↓q_gr9, ↓q_ls0, ↓q_ls1i, ↓q_ls1r, ↓q_ls1n, ↓q_ls2i, ↓q_ls2r, ↓q_ls2n, ↓q_ls3i, ↓q_ls3r, ↓q_ls3n, ↓q_ls4i, ↓q_ls4r, ↓q_ls4n, ↓q_ls5i, ↓q_ls5r, ↓q_ls5n, ↓q_ls6i, ↓q_ls6r, ↓q_ls6n, ↓q_ls7i, ↓q_ls7r, ↓q_ls7n, ↓q_ls8i, ↓q_ls8r, ↓q_ls8n, ↓q_ls9i, ↓q_ls9r, ↓q_ls9n, q_nd0, q_nd1i, q_nd1r, q_nd1n, q_nd2i, q_nd2r, q_nd2n, q_nd3i, q_nd3r, q_nd3n, q_nd4i, q_nd4r, q_nd4n, q_nd5i, q_nd5r, q_nd5n, q_nd6i, q_nd6r, q_nd6n, q_nd7i, q_nd7r, q_nd7n, q_nd8i, q_nd8r, q_nd8n, q_nd9i, q_nd9r, q_nd9n, q_st0, q_st1, q_st2, q_st3, q_st4, q_st5, q_st6, q_st7, q_st8, q_st9, q_cat_i, q_cat_r, q_cat_n, q_wt0, q_wt1, q_tl0, q_tl1, ↓q_cl1, q_add, q_sub, q_mul, q_nari, q_narb0, q_narb1, q_fiti, q_fitb0, q_fitb1, List.cons_append, List.nil_append, Nat.reduceAdd, Nat.reduceLeDiff, and_self, and_true, true_and, ↓reduceIte, ↓rc0, ↓gf0_0, ↓gf0_1, ↓gf0_2, ↓gf0_3, ↓gf0_4, ↓gf0_5, ↓gf0_6, ↓gf0_7, ↓pf0_7, ft0_7, ↓rc1, ↓gf1_0, ↓pf1_0, ft1_0, ↓gf1_1, ↓pf1_1, ft1_1, ↓gf1_2, ↓gf1_3, ↓gf1_4, ↓gf1_5, ↓gf1_6, ↓gf1_7, ↓gf1_8, ↓gf1_9, ↓gf1_10, ↓gf1_11, ↓gf1_12, ↓rc13, ↓gf13_0, ↓gf13_1, ↓gf13_2, ↓gf13_3, ↓gf13_4, ↓gf13_5, ↓gf13_6, ↓pf13_6, ft13_6, ↓gf13_7, ↓pf13_7, ft13_7, ↓gf13_8, ↓pf13_8, ft13_8, ↓gf13_9, ↓pf13_9, ft13_90, ft13_91, ↓gf13_10, ↓gf13_11, ↓gf13_12, ↓pf13_12, ft13_12, ↓gf13_13, ↓pf13_13, ft13_13, ↓gf13_14, ↓pf13_14, ft13_14, ↓rc21, ↓gf21_0, ↓pf21_0, ft21_0, ↓gf21_1, ↓pf21_1, ft21_1, ↓gf21_2, ↓pf21_2, ft21_2, ↓gf21_3, ↓pf21_3, ft21_3, ↓rc22, ↓gf22_0, ↓gf22_1, ↓gf22_2, ↓rc23, ↓gf23_0, ↓gf23_1, ↓gf23_2, ↓gf23_3, ↓pf23_3, ft23_3, ↓gf23_4, ↓pf23_4, ft23_4, ↓gf23_5, ↓pf23_5, ft23_50, ft23_51, ↓rc145, ↓gf145_0, ↓gf145_1, ↓pf145_1, ft145_1, ↓rc147, ↓gf147_0, ↓gf147_1, ↓pf147_1, ft147_1, ↓rc149, ↓gf149_0, ↓gf149_1, ↓gf149_2, ↓gf149_3, ↓gf149_4, ↓pf149_4, ft149_40, ft149_41, ↓gf149_5, ↓pf149_5, ft149_5, ↓gf149_6, ↓pf149_6, ft149_60, ft149_61, ↓gf149_7, ↓pf149_7, ft149_7, ↓gf149_8, ↓pf149_8, ft149_8, ↓gf149_9, ↓pf149_9, ft149_9, ↓gf149_10, ↓pf149_10, ft149_10, ↓gf149_11, ↓gf149_12, ↓pf149_12, ft149_12, ↓gf149_13, ↓pf149_13, ft149_13, ↓gf149_14, ↓gf149_15, ↓pf149_15, ft149_15, ↓gf149_16, ↓gf149_17, ↓gf149_18, ↓gf149_19, ↓pf149_19, ft149_19, ↓gf149_20, ↓pf149_20, ft149_20, ↓gf149_21, ↓gf149_22, ↓pf149_22, ft149_22, ↓ra2, ↓wa2, ↓ln2, ↓ra3, ↓wa3, ↓ln3, ↓ra4, ↓wa4, ↓ln4, ↓ra5, ↓wa5, ↓ln5, ↓ra6, ↓wa6, ↓ln6, ↓ra7, ↓wa7, ↓ln7, ↓ra8, ↓wa8, ↓ln8, ↓ra9, ↓wa9, ↓ln9, ↓ra10, ↓wa10, ↓ln10, ↓ra11, ↓wa11, ↓ln11, ↓ra12, ↓wa12, ↓ln12, ↓ra14, ↓wa14, ↓ln14, ↓ra15, ↓wa15, ↓ln15, ↓ra16, ↓wa16, ↓ln16, ↓ra17, ↓wa17, ↓ln17, ↓ra18, ↓wa18, ↓ln18, ↓ra19, ↓wa19, ↓ln19, ↓ra20, ↓wa20, ↓ln20, ↓ra146, ↓wa146, ↓ln146, ↓ra148, ↓wa148, ↓ln148, ↓ra150, ↓wa150, ↓ln150, ↓ra151, ↓wa151, ↓ln151, ↓ra152, ↓wa152, ↓ln152, ↓ra153, ↓wa153, ↓ln153, ↓ra154, ↓wa154, ↓ln154, ↓ra155, ↓wa155, ↓ln155, ↓ra156, ↓wa156, ↓ln156, ↓ra157, ↓wa157, ↓ln157, ↓ra158, ↓wa158, ↓ln158, ↓ra159, ↓wa159, ↓ln159, q_M_s, q_M_k, q_M_a, q_P_s, q_P_a, q_toN, q_i00, q_i10, q_j00, q_j10, h7, q_le0, show ((0 : Nat) : Int) ≤ 0 from Int.le_refl _, if_true]
  | succ N ih =>
    intro mm D Q t z hN ht hs hI hqf
    by_cases hc0 : q_cnt Q 96 = 0
    · have h7 : mm 13 7 = (0 : Nat) := by rw [hs.2.1.2.2.1, hc0]
      refine ⟨mm, D, Q, hc0, hs, hI, ?_⟩
      rw [e508_68]
      simp (disch := first | rfl | assumption | decide | omega | (unfold q_R; omega)) only [en508, e508_0, e508_1, e508_2, e508_5, e508_6, e508_7, e508_10, e508_11, e508_12, e508_13, e508_15, e508_18, e508_19, e508_22, e508_23, e508_24, e508_27, e508_28, e508_29, e508_32, e508_33, e508_36, e508_38, e508_39, e508_40, e508_43, e508_44, e508_45, e508_46, e508_47, e508_50, e508_51, e508_52, e508_55, e508_56, e508_57, e508_60, e508_63, e508_66, e508_67, e508_69, e508_72, e508_75, e508_76, e508_78, e508_81, e508_82, e508_85, e508_86, e508_89, e508_90, e508_91, e508_92, e508_93, e508_96, e508_97, e508_98, e508_100, e508_101, e508_104, e508_105, e508_106, e508_109, e508_110, e508_111, e508_114, e508_115, e508_118, e508_119, e508_120, e508_121, e508_122, e508_123, e508_126, e508_129, e508_132, ↓q_nv0, ↓q_nv1, ↓q_nv2, ↓q_nv3, ↓q_nv4, ↓q_nv5, ↓q_nv6, ↓q_nv7, ↓q_nv8, ↓q_nv9, ↓q_nv10, ↓q_nv11, ↓q_nv12, ↓q_nv13, ↓q_nv14, ↓q_nv15, ↓q_nv16, ↓q_nv17, ↓q_nv18, ↓q_nv19, ↓q_nv20, ↓q_nv21, ↓q_nv22, ↓q_gi0, ↓q_gi1, ↓q_gi2, ↓q_gi3, ↓q_gi4, ↓q_gi5, ↓q_gi6, ↓q_gi7, ↓q_gi8, ↓q_gi9, ↓q_gr0, ↓q_gr1, ↓q_gr2, ↓q_gr3, ↓q_gr4, ↓q_gr5, ↓q_gr6, ↓q_gr7, ↓q_gr8, ↓q_gr9, ↓q_ls0, ↓q_ls1i, ↓q_ls1r, ↓q_ls1n, ↓q_ls2i, ↓q_ls2r, ↓q_ls2n, ↓q_ls3i, ↓q_ls3r, ↓q_ls3n, ↓q_ls4i, ↓q_ls4r, ↓q_ls4n, ↓q_ls5i, ↓q_ls5r, ↓q_ls5n, ↓q_ls6i, ↓q_ls6r, ↓q_ls6n, ↓q_ls7i, ↓q_ls7r, ↓q_ls7n, ↓q_ls8i, ↓q_ls8r, ↓q_ls8n, ↓q_ls9i, ↓q_ls9r, ↓q_ls9n, q_nd0, q_nd1i, q_nd1r, q_nd1n, q_nd2i, q_nd2r, q_nd2n, q_nd3i, q_nd3r, q_nd3n, q_nd4i, q_nd4r, q_nd4n, q_nd5i, q_nd5r, q_nd5n, q_nd6i, q_nd6r, q_nd6n, q_nd7i, q_nd7r, q_nd7n, q_nd8i, q_nd8r, q_nd8n, q_nd9i, q_nd9r, q_nd9n, q_st0, q_st1, q_st2, q_st3, q_st4, q_st5, q_st6, q_st7, q_st8, q_st9, q_cat_i, q_cat_r, q_cat_n, q_wt0, q_wt1, q_tl0, q_tl1, ↓q_cl1, q_add, q_sub, q_mul, q_nari, q_narb0, q_narb1, q_fiti, q_fitb0, q_fitb1, List.cons_append, List.nil_append, Nat.reduceAdd, Nat.reduceLeDiff, and_self, and_true, true_and, ↓reduceIte, ↓rc0, ↓gf0_0, ↓gf0_1, ↓gf0_2, ↓gf0_3, ↓gf0_4, ↓gf0_5, ↓gf0_6, ↓gf0_7, ↓pf0_7, ft0_7, ↓rc1, ↓gf1_0, ↓pf1_0, ft1_0, ↓gf1_1, ↓pf1_1, ft1_1, ↓gf1_2, ↓gf1_3, ↓gf1_4, ↓gf1_5, ↓gf1_6, ↓gf1_7, ↓gf1_8, ↓gf1_9, ↓gf1_10, ↓gf1_11, ↓gf1_12, ↓rc13, ↓gf13_0, ↓gf13_1, ↓gf13_2, ↓gf13_3, ↓gf13_4, ↓gf13_5, ↓gf13_6, ↓pf13_6, ft13_6, ↓gf13_7, ↓pf13_7, ft13_7, ↓gf13_8, ↓pf13_8, ft13_8, ↓gf13_9, ↓pf13_9, ft13_90, ft13_91, ↓gf13_10, ↓gf13_11, ↓gf13_12, ↓pf13_12, ft13_12, ↓gf13_13, ↓pf13_13, ft13_13, ↓gf13_14, ↓pf13_14, ft13_14, ↓rc21, ↓gf21_0, ↓pf21_0, ft21_0, ↓gf21_1, ↓pf21_1, ft21_1, ↓gf21_2, ↓pf21_2, ft21_2, ↓gf21_3, ↓pf21_3, ft21_3, ↓rc22, ↓gf22_0, ↓gf22_1, ↓gf22_2, ↓rc23, ↓gf23_0, ↓gf23_1, ↓gf23_2, ↓gf23_3, ↓pf23_3, ft23_3, ↓gf23_4, ↓pf23_4, ft23_4, ↓gf23_5, ↓pf23_5, ft23_50, ft23_51, ↓rc145, ↓gf145_0, ↓gf145_1, ↓pf145_1, ft145_1, ↓rc147, ↓gf147_0, ↓gf147_1, ↓pf147_1, ft147_1, ↓rc149, ↓gf149_0, ↓gf149_1, ↓gf149_2, ↓gf149_3, ↓gf149_4, ↓pf149_4, ft149_40, ft149_41, ↓gf149_5, ↓pf149_5, ft149_5, ↓gf149_6, ↓pf149_6, ft149_60, ft149_61, ↓gf149_7, ↓pf149_7, ft149_7, ↓gf149_8, ↓pf149_8, ft149_8, ↓gf149_9, ↓pf149_9, ft149_9, ↓gf149_10, ↓pf149_10, ft149_10, ↓gf149_11, ↓gf149_12, ↓pf149_12, ft149_12, ↓gf149_13, ↓pf149_13, ft149_13, ↓gf149_14, ↓gf149_15, ↓pf149_15, ft149_15, ↓gf149_16, ↓gf149_17, ↓gf149_18, ↓gf149_19, ↓pf149_19, ft149_19, ↓gf149_20, ↓pf149_20, ft149_20, ↓gf149_21, ↓gf149_22, ↓pf149_22, ft149_22, ↓ra2, ↓wa2, ↓ln2, ↓ra3, ↓wa3, ↓ln3, ↓ra4, ↓wa4, ↓ln4, ↓ra5, ↓wa5, ↓ln5, ↓ra6, ↓wa6, ↓ln6, ↓ra7, ↓wa7, ↓ln7, ↓ra8, ↓wa8, ↓ln8, ↓ra9, ↓wa9, ↓ln9, ↓ra10, ↓wa10, ↓ln10, ↓ra11, ↓wa11, ↓ln11, ↓ra12, ↓wa12, ↓ln12, ↓ra14, ↓wa14, ↓ln14, ↓ra15, ↓wa15, ↓ln15, ↓ra16, ↓wa16, ↓ln16, ↓ra17, ↓wa17, ↓ln17, ↓ra18, ↓wa18, ↓ln18, ↓ra19, ↓wa19, ↓ln19, ↓ra20, ↓wa20, ↓ln20, ↓ra146, ↓wa146, ↓ln146, ↓ra148, ↓wa148, ↓ln148, ↓ra150, ↓wa150, ↓ln150, ↓ra151, ↓wa151, ↓ln151, ↓ra152, ↓wa152, ↓ln152, ↓ra153, ↓wa153, ↓ln153, ↓ra154, ↓wa154, ↓ln154, ↓ra155, ↓wa155, ↓ln155, ↓ra156, ↓wa156, ↓ln156, ↓ra157, ↓wa157, ↓ln157, ↓ra158, ↓wa158, ↓ln158, ↓ra159, ↓wa159, ↓ln159, q_M_s, q_M_k, q_M_a, q_P_s, q_P_a, q_toN, q_i00, q_i10, q_j00, q_j10, h7, q_le0, show ((0 : Nat) : Int) ≤ 0 from Int.le_refl _, if_true]
    · obtain ⟨h16, ⟨h18, ⟨h60, h61⟩, h7, hen, hin⟩, hfr, hfk⟩ := hs
      obtain ⟨st, hst⟩ : ∃ st : Nat, mm 13 6 = st := ⟨(mm 13 6).toNat, by omega⟩
      rw [hst] at h60 h61 hen hin
      rw [q_toN] at hen hin
      have hst96 : st < 96 := by omega
      obtain ⟨e, e1, e2, e3⟩ := hen 0 (by omega)
      rw [show (st + 0) % 96 = st by omega] at e1
      have hdc := q_del_cnt e3 e2
      have hle : q_cnt Q 96 ≤ 96 := q_cnt_le _ _
      have r96 := q_rem (a := st + 1) (by omega) (show q_R (st + 1) by unfold q_R; omega) (b := 96) (by omega) (by unfold q_R; omega)
      have z96 : ¬ q_i 96 = 0 := by decide
      have eix : ((st : Int) + 1) % 96 = ((st + 1) % 96 : Nat) := by omega
      rw [eix] at r96
      generalize hL : q_cnt Q 96 = L at *
      have eL : (L : Int) - 1 = ((L - 1 : Nat) : Int) := by omega
      have x6 : q_M (q_M (q_M mm 13 6 ((st + 1) % 96 : Nat)) 13 7 (L - 1 : Nat)) 18 e 0 13 6 = ((st + 1) % 96 : Nat) := by rw [q_M_a (by decide), q_M_k (by decide), q_M_s]
      have x17 : q_M (q_M (q_M mm 13 6 ((st + 1) % 96 : Nat)) 13 7 (L - 1 : Nat)) 18 e 0 17 = mm 17 := by rw [q_M_a (by decide), q_M_a (by decide), q_M_a (by decide)]
      have hs1 : q_sp m (q_M (q_M (q_M mm 13 6 ((st + 1) % 96 : Nat)) 13 7 (L - 1 : Nat)) 18 e 0) D (q_del Q e) := by
        refine ⟨?_, ⟨?_, ?_, ?_, ?_, ?_⟩, ?_, ?_⟩
        · rw [q_M_a (by decide), q_M_a (by decide), q_M_a (by decide), h16]
        · intro j hj
          rw [q_M_u, q_M_a (by decide), q_M_a (by decide)]
          unfold q_upd q_bR q_del
          by_cases hje : j = e
          · subst hje
            simp
          · simp only [hje, if_false]
            exact h18 j hj
        · rw [x6]
          omega
        · rw [q_M_a (by decide), q_M_s]
          omega
        · rw [x6, x17, q_toN]
          intro i hi
          obtain ⟨e', f1, f2, f3⟩ := hen (i + 1) (by omega)
          refine ⟨e', ?_, f2, ?_⟩
          · rw [show ((st + 1) % 96 + i) % 96 = (st + (i + 1)) % 96 by omega]
            exact f1
          · have hne : e' ≠ e := by
              intro he
              have := hin 0 (i + 1) (by omega) (by omega)
              rw [show (st + 0) % 96 = st by omega, e1, f1, he] at this
              exact this rfl
            unfold q_del
            rw [if_neg hne]
            exact f3
        · rw [x6, x17, q_toN]
          intro i j hij hj
          rw [show ((st + 1) % 96 + i) % 96 = (st + (i + 1)) % 96 by omega, show ((st + 1) % 96 + j) % 96 = (st + (j + 1)) % 96 by omega]
          exact hin (i + 1) (j + 1) (by omega) (by omega)
        · intro a a1 a2 a3 a4
          rw [q_M_a a4, q_M_a a1, q_M_a a1]
          exact hfr a a1 a2 a3 a4
        · intro k k1 k2
          rw [q_M_a (by decide), q_M_k k2, q_M_k k1]
          exact hfk k k1 k2
      have hI1 : q_si P (q_al g n hard) (q_Wn g n) D (q_del Q e) (fun u' _ => u' = e) := by
        refine ⟨hI.1, hI.2.1, hI.2.2.1, fun u' w' c' b1 b2 b3 b4 b5 b6 b7 => ?_⟩
        by_cases hu : u' = e
        · exact Or.inl hu
        · unfold q_del at b6
          rw [if_neg hu] at b6
          rcases hI.2.2.2 u' w' c' b1 b2 b3 b4 b5 b6 b7 with h | h
          · exact absurd h id
          · exact Or.inr h
      have hF : D e < 1000000 := hqf e e2 e3
      obtain ⟨mm2, D2, Q2, c1, c2, c3, c4, c5⟩ := m509 (K := K) (s := s) hR hW hh h9 e2 hs1 hI1 (by simp [q_del]) hF
      have hqf1 : q_qf D (q_del Q e) := fun c hc hq => hqf c hc (by
        unfold q_del at hq
        split at hq
        · cases hq
        · exact hq)
      obtain ⟨mm3, D3, Q3, d1, d2, d3, d4⟩ := ih mm2 D2 Q2 (t + 1) (.int (q_i e)) (by omega) (by omega) c2 c3 (c5 hqf1)
      refine ⟨mm3, D3, Q3, d1, d2, d3, ?_⟩
      rw [← d4, e508_68]
      have hL0 : ¬ (L : Int) ≤ 0 := by omega
      simp (disch := first | rfl | assumption | decide | omega | (unfold q_R; omega)) only [en508, e508_0, e508_1, e508_2, e508_5, e508_6, e508_7, e508_10, e508_11, e508_12, e508_13, e508_15, e508_18, e508_19, e508_22, e508_23, e508_24, e508_27, e508_28, e508_29, e508_32, e508_33, e508_36, e508_38, e508_39, e508_40, e508_43, e508_44, e508_45, e508_46, e508_47, e508_50, e508_51, e508_52, e508_55, e508_56, e508_57, e508_60, e508_63, e508_66, e508_67, e508_69, e508_72, e508_75, e508_76, e508_78, e508_81, e508_82, e508_85, e508_86, e508_89, e508_90, e508_91, e508_92, e508_93, e508_96, e508_97, e508_98, e508_100, e508_101, e508_104, e508_105, e508_106, e508_109, e508_110, e508_111, e508_114, e508_115, e508_118, e508_119, e508_120, e508_121, e508_122, e508_123, e508_126, e508_129, e508_132, ↓q_nv0, ↓q_nv1, ↓q_nv2, ↓q_nv3, ↓q_nv4, ↓q_nv5, ↓q_nv6, ↓q_nv7, ↓q_nv8, ↓q_nv9, ↓q_nv10, ↓q_nv11, ↓q_nv12, ↓q_nv13, ↓q_nv14, ↓q_nv15, ↓q_nv16, ↓q_nv17, ↓q_nv18, ↓q_nv19, ↓q_nv20, ↓q_nv21, ↓q_nv22, ↓q_gi0, ↓q_gi1, ↓q_gi2, ↓q_gi3, ↓q_gi4, ↓q_gi5, ↓q_gi6, ↓q_gi7, ↓q_gi8, ↓q_gi9, ↓q_gr0, ↓q_gr1, ↓q_gr2, ↓q_gr3, ↓q_gr4, ↓q_gr5, ↓q_gr6, ↓q_gr7, ↓q_gr8, ↓q_gr9, ↓q_ls0, ↓q_ls1i, ↓q_ls1r, ↓q_ls1n, ↓q_ls2i, ↓q_ls2r, ↓q_ls2n, ↓q_ls3i, ↓q_ls3r, ↓q_ls3n, ↓q_ls4i, ↓q_ls4r, ↓q_ls4n, ↓q_ls5i, ↓q_ls5r, ↓q_ls5n, ↓q_ls6i, ↓q_ls6r, ↓q_ls6n, ↓q_ls7i, ↓q_ls7r, ↓q_ls7n, ↓q_ls8i, ↓q_ls8r, ↓q_ls8n, ↓q_ls9i, ↓q_ls9r, ↓q_ls9n, q_nd0, q_nd1i, q_nd1r, q_nd1n, q_nd2i, q_nd2r, q_nd2n, q_nd3i, q_nd3r, q_nd3n, q_nd4i, q_nd4r, q_nd4n, q_nd5i, q_nd5r, q_nd5n, q_nd6i, q_nd6r, q_nd6n, q_nd7i, q_nd7r, q_nd7n, q_nd8i, q_nd8r, q_nd8n, q_nd9i, q_nd9r, q_nd9n, q_st0, q_st1, q_st2, q_st3, q_st4, q_st5, q_st6, q_st7, q_st8, q_st9, q_cat_i, q_cat_r, q_cat_n, q_wt0, q_wt1, q_tl0, q_tl1, ↓q_cl1, q_add, q_sub, q_mul, q_nari, q_narb0, q_narb1, q_fiti, q_fitb0, q_fitb1, List.cons_append, List.nil_append, Nat.reduceAdd, Nat.reduceLeDiff, and_self, and_true, true_and, ↓reduceIte, ↓rc0, ↓gf0_0, ↓gf0_1, ↓gf0_2, ↓gf0_3, ↓gf0_4, ↓gf0_5, ↓gf0_6, ↓gf0_7, ↓pf0_7, ft0_7, ↓rc1, ↓gf1_0, ↓pf1_0, ft1_0, ↓gf1_1, ↓pf1_1, ft1_1, ↓gf1_2, ↓gf1_3, ↓gf1_4, ↓gf1_5, ↓gf1_6, ↓gf1_7, ↓gf1_8, ↓gf1_9, ↓gf1_10, ↓gf1_11, ↓gf1_12, ↓rc13, ↓gf13_0, ↓gf13_1, ↓gf13_2, ↓gf13_3, ↓gf13_4, ↓gf13_5, ↓gf13_6, ↓pf13_6, ft13_6, ↓gf13_7, ↓pf13_7, ft13_7, ↓gf13_8, ↓pf13_8, ft13_8, ↓gf13_9, ↓pf13_9, ft13_90, ft13_91, ↓gf13_10, ↓gf13_11, ↓gf13_12, ↓pf13_12, ft13_12, ↓gf13_13, ↓pf13_13, ft13_13, ↓gf13_14, ↓pf13_14, ft13_14, ↓rc21, ↓gf21_0, ↓pf21_0, ft21_0, ↓gf21_1, ↓pf21_1, ft21_1, ↓gf21_2, ↓pf21_2, ft21_2, ↓gf21_3, ↓pf21_3, ft21_3, ↓rc22, ↓gf22_0, ↓gf22_1, ↓gf22_2, ↓rc23, ↓gf23_0, ↓gf23_1, ↓gf23_2, ↓gf23_3, ↓pf23_3, ft23_3, ↓gf23_4, ↓pf23_4, ft23_4, ↓gf23_5, ↓pf23_5, ft23_50, ft23_51, ↓rc145, ↓gf145_0, ↓gf145_1, ↓pf145_1, ft145_1, ↓rc147, ↓gf147_0, ↓gf147_1, ↓pf147_1, ft147_1, ↓rc149, ↓gf149_0, ↓gf149_1, ↓gf149_2, ↓gf149_3, ↓gf149_4, ↓pf149_4, ft149_40, ft149_41, ↓gf149_5, ↓pf149_5, ft149_5, ↓gf149_6, ↓pf149_6, ft149_60, ft149_61, ↓gf149_7, ↓pf149_7, ft149_7, ↓gf149_8, ↓pf149_8, ft149_8, ↓gf149_9, ↓pf149_9, ft149_9, ↓gf149_10, ↓pf149_10, ft149_10, ↓gf149_11, ↓gf149_12, ↓pf149_12, ft149_12, ↓gf149_13, ↓pf149_13, ft149_13, ↓gf149_14, ↓gf149_15, ↓pf149_15, ft149_15, ↓gf149_16, ↓gf149_17, ↓gf149_18, ↓gf149_19, ↓pf149_19, ft149_19, ↓gf149_20, ↓pf149_20, ft149_20, ↓gf149_21, ↓gf149_22, ↓pf149_22, ft149_22, ↓ra2, ↓wa2, ↓ln2, ↓ra3, ↓wa3, ↓ln3, ↓ra4, ↓wa4, ↓ln4, ↓ra5, ↓wa5, ↓ln5, ↓ra6, ↓wa6, ↓ln6, ↓ra7, ↓wa7, ↓ln7, ↓ra8, ↓wa8, ↓ln8, ↓ra9, ↓wa9, ↓ln9, ↓ra10, ↓wa10, ↓ln10, ↓ra11, ↓wa11, ↓ln11, ↓ra12, ↓wa12, ↓ln12, ↓ra14, ↓wa14, ↓ln14, ↓ra15, ↓wa15, ↓ln15, ↓ra16, ↓wa16, ↓ln16, ↓ra17, ↓wa17, ↓ln17, ↓ra18, ↓wa18, ↓ln18, ↓ra19, ↓wa19, ↓ln19, ↓ra20, ↓wa20, ↓ln20, ↓ra146, ↓wa146, ↓ln146, ↓ra148, ↓wa148, ↓ln148, ↓ra150, ↓wa150, ↓ln150, ↓ra151, ↓wa151, ↓ln151, ↓ra152, ↓wa152, ↓ln152, ↓ra153, ↓wa153, ↓ln153, ↓ra154, ↓wa154, ↓ln154, ↓ra155, ↓wa155, ↓ln155, ↓ra156, ↓wa156, ↓ln156, ↓ra157, ↓wa157, ↓ln157, ↓ra158, ↓wa158, ↓ln158, ↓ra159, ↓wa159, ↓ln159, q_M_s, q_M_k, q_M_a, q_P_s, q_P_a, q_toN, q_i00, q_i10, q_j00, q_j10, h7, q_le0, hL0, q_le, show ¬ (1000000 : Int) ≤ (t : Int) by omega, if_false, hst, e1, z96, r96, eL, q_nb0, c1]
      rfl
/-- the row at first -/
noncomputable def q_E0 (P : Nat → Bool) : Nat → Int := fun c => if P c = true then 0 else 1000000
def q_Qi (P : Nat → Bool) (i : Nat) : Nat → Bool := fun j => decide (j < i) && P j
theorem q_Qi_1 {P : Nat → Bool} {i : Nat} (h : P i = true) : q_set (q_Qi P i) i = q_Qi P (i + 1) := by
  funext j
  unfold q_set q_Qi
  by_cases e : j = i
  · subst e
    simp [h]
  · simp [e, show (j < i + 1) = (j < i) from propext (by omega)]
theorem q_Qi_0 {P : Nat → Bool} {i : Nat} (h : P i = false) : q_Qi P i = q_Qi P (i + 1) := by
  funext j
  unfold q_Qi
  by_cases e : j = i
  · subst e
    simp [h]
  · simp [show (j < i + 1) = (j < i) from propext (by omega)]
theorem q_Qi_z {P : Nat → Bool} {n : Nat} : q_cnt (q_Qi P 0) n = 0 := by
  induction n with
  | zero => rfl
  | succ n ih =>
    rw [q_cnt_succ, ih]
    simp [q_Qi]
theorem l508i {P : Nat → Bool} {mm : Nat → Nat → Int} (hP : m 19 = q_bR P) (i : Nat) (hi : i < 96) (hq : q_qu i mm (q_Qi P i)) (h16 : mm 16 = q_pf2 (m 16) (q_E0 P) i) (hfr : ∀ a, a ≠ 13 → a ≠ 16 → a ≠ 17 → a ≠ 18 → mm a = m a) (hfk : ∀ k, k ≠ 6 → k ≠ 7 → mm 13 k = m 13 k) : ∃ mm', q_qu (i + 1) mm' (q_Qi P (i + 1)) ∧ mm' 16 = q_pf2 (m 16) (q_E0 P) (i + 1) ∧ (∀ a, a ≠ 13 → a ≠ 16 → a ≠ 17 → a ≠ 18 → mm' a = m a) ∧ (∀ k, k ≠ 6 → k ≠ 7 → mm' 13 k = m 13 k) ∧ x_run 508 12 [.ref 13, .int (q_i i), .null] [] (q_H mm K s) = x_run 508 12 [.ref 13, .int (q_i (i + 1 : Nat)), .null] [] (q_H mm' K s) := by
  have h96 : ¬ (96 : Int) ≤ (i : Int) := by omega
  have h19 : mm 19 = q_bR P := (hfr 19 (by decide) (by decide) (by decide) (by decide)).trans hP
  obtain ⟨h18, ⟨h60, h61⟩, h7, hen, hin⟩ := hq
  have hq2 : q_qu (i + 1) (q_M (q_M mm 16 i (q_E0 P i)) 18 i 0) (q_Qi P i) := by
    unfold q_qu
    rw [q_M_a (show 13 ≠ 18 by decide), q_M_a (show 13 ≠ 16 by decide), q_M_a (show 17 ≠ 18 by decide), q_M_a (show 17 ≠ 16 by decide)]
    refine ⟨?_, ⟨h60, h61⟩, h7, hen, hin⟩
    intro j hj
    rw [q_M_u, q_M_a (by decide)]
    unfold q_upd
    by_cases e : j = i
    · subst e
      simp [q_bR, q_Qi]
    · rw [if_neg e]
      exact h18 j (by omega)
  have w16 : q_M (q_M mm 16 i (q_E0 P i)) 18 i 0 16 = q_pf2 (m 16) (q_E0 P) (i + 1) := by
    rw [q_M_a (by decide), q_M_u, h16, q_pf2S]
  cases hPi : P i
  · refine ⟨q_M (q_M mm 16 i (q_E0 P i)) 18 i 0, by rw [← q_Qi_0 hPi]; exact hq2, w16, ?_, ?_, ?_⟩
    · intro a a1 a2 a3 a4
      rw [q_M_a a4, q_M_a a2]
      exact hfr a a1 a2 a3 a4
    · intro k k1 k2
      rw [q_M_a (by decide), q_M_a (by decide)]
      exact hfk k k1 k2
    · have e0 : q_bR P i = 0 := by simp [q_bR, hPi]
      have e1 : q_E0 P i = 1000000 := by simp [q_E0, hPi]
      rw [e1, e508_12]
      simp (disch := first | rfl | assumption | decide | omega | (unfold q_R; omega)) only [en508, e508_0, e508_1, e508_2, e508_5, e508_6, e508_7, e508_10, e508_11, e508_13, e508_15, e508_18, e508_19, e508_22, e508_23, e508_24, e508_27, e508_28, e508_29, e508_32, e508_33, e508_36, e508_38, e508_39, e508_40, e508_43, e508_44, e508_45, e508_46, e508_47, e508_50, e508_51, e508_52, e508_55, e508_56, e508_57, e508_60, e508_63, e508_66, e508_67, e508_69, e508_72, e508_75, e508_76, e508_78, e508_81, e508_82, e508_85, e508_86, e508_89, e508_90, e508_91, e508_92, e508_93, e508_96, e508_97, e508_98, e508_100, e508_101, e508_104, e508_105, e508_106, e508_109, e508_110, e508_111, e508_114, e508_115, e508_118, e508_119, e508_120, e508_121, e508_122, e508_123, e508_126, e508_129, e508_132, ↓q_nv0, ↓q_nv1, ↓q_nv2, ↓q_nv3, ↓q_nv4, ↓q_nv5, ↓q_nv6, ↓q_nv7, ↓q_nv8, ↓q_nv9, ↓q_nv10, ↓q_nv11, ↓q_nv12, ↓q_nv13, ↓q_nv14, ↓q_nv15, ↓q_nv16, ↓q_nv17, ↓q_nv18, ↓q_nv19, ↓q_nv20, ↓q_nv21, ↓q_nv22, ↓q_gi0, ↓q_gi1, ↓q_gi2, ↓q_gi3, ↓q_gi4, ↓q_gi5, ↓q_gi6, ↓q_gi7, ↓q_gi8, ↓q_gi9, ↓q_gr0, ↓q_gr1, ↓q_gr2, ↓q_gr3, ↓q_gr4, ↓q_gr5, ↓q_gr6, ↓q_gr7, ↓q_gr8, ↓q_gr9, ↓q_ls0, ↓q_ls1i, ↓q_ls1r, ↓q_ls1n, ↓q_ls2i, ↓q_ls2r, ↓q_ls2n, ↓q_ls3i, ↓q_ls3r, ↓q_ls3n, ↓q_ls4i, ↓q_ls4r, ↓q_ls4n, ↓q_ls5i, ↓q_ls5r, ↓q_ls5n, ↓q_ls6i, ↓q_ls6r, ↓q_ls6n, ↓q_ls7i, ↓q_ls7r, ↓q_ls7n, ↓q_ls8i, ↓q_ls8r, ↓q_ls8n, ↓q_ls9i, ↓q_ls9r, ↓q_ls9n, q_nd0, q_nd1i, q_nd1r, q_nd1n, q_nd2i, q_nd2r, q_nd2n, q_nd3i, q_nd3r, q_nd3n, q_nd4i, q_nd4r, q_nd4n, q_nd5i, q_nd5r, q_nd5n, q_nd6i, q_nd6r, q_nd6n, q_nd7i, q_nd7r, q_nd7n, q_nd8i, q_nd8r, q_nd8n, q_nd9i, q_nd9r, q_nd9n, q_st0, q_st1, q_st2, q_st3, q_st4, q_st5, q_st6, q_st7, q_st8, q_st9, q_cat_i, q_cat_r, q_cat_n, q_wt0, q_wt1, q_tl0, q_tl1, ↓q_cl1, q_add, q_sub, q_mul, q_nari, q_narb0, q_narb1, q_fiti, q_fitb0, q_fitb1, List.cons_append, List.nil_append, Nat.reduceAdd, Nat.reduceLeDiff, and_self, and_true, true_and, ↓reduceIte, ↓rc0, ↓gf0_0, ↓gf0_1, ↓gf0_2, ↓gf0_3, ↓gf0_4, ↓gf0_5, ↓gf0_6, ↓gf0_7, ↓pf0_7, ft0_7, ↓rc1, ↓gf1_0, ↓pf1_0, ft1_0, ↓gf1_1, ↓pf1_1, ft1_1, ↓gf1_2, ↓gf1_3, ↓gf1_4, ↓gf1_5, ↓gf1_6, ↓gf1_7, ↓gf1_8, ↓gf1_9, ↓gf1_10, ↓gf1_11, ↓gf1_12, ↓rc13, ↓gf13_0, ↓gf13_1, ↓gf13_2, ↓gf13_3, ↓gf13_4, ↓gf13_5, ↓gf13_6, ↓pf13_6, ft13_6, ↓gf13_7, ↓pf13_7, ft13_7, ↓gf13_8, ↓pf13_8, ft13_8, ↓gf13_9, ↓pf13_9, ft13_90, ft13_91, ↓gf13_10, ↓gf13_11, ↓gf13_12, ↓pf13_12, ft13_12, ↓gf13_13, ↓pf13_13, ft13_13, ↓gf13_14, ↓pf13_14, ft13_14, ↓rc21, ↓gf21_0, ↓pf21_0, ft21_0, ↓gf21_1, ↓pf21_1, ft21_1, ↓gf21_2, ↓pf21_2, ft21_2, ↓gf21_3, ↓pf21_3, ft21_3, ↓rc22, ↓gf22_0, ↓gf22_1, ↓gf22_2, ↓rc23, ↓gf23_0, ↓gf23_1, ↓gf23_2, ↓gf23_3, ↓pf23_3, ft23_3, ↓gf23_4, ↓pf23_4, ft23_4, ↓gf23_5, ↓pf23_5, ft23_50, ft23_51, ↓rc145, ↓gf145_0, ↓gf145_1, ↓pf145_1, ft145_1, ↓rc147, ↓gf147_0, ↓gf147_1, ↓pf147_1, ft147_1, ↓rc149, ↓gf149_0, ↓gf149_1, ↓gf149_2, ↓gf149_3, ↓gf149_4, ↓pf149_4, ft149_40, ft149_41, ↓gf149_5, ↓pf149_5, ft149_5, ↓gf149_6, ↓pf149_6, ft149_60, ft149_61, ↓gf149_7, ↓pf149_7, ft149_7, ↓gf149_8, ↓pf149_8, ft149_8, ↓gf149_9, ↓pf149_9, ft149_9, ↓gf149_10, ↓pf149_10, ft149_10, ↓gf149_11, ↓gf149_12, ↓pf149_12, ft149_12, ↓gf149_13, ↓pf149_13, ft149_13, ↓gf149_14, ↓gf149_15, ↓pf149_15, ft149_15, ↓gf149_16, ↓gf149_17, ↓gf149_18, ↓gf149_19, ↓pf149_19, ft149_19, ↓gf149_20, ↓pf149_20, ft149_20, ↓gf149_21, ↓gf149_22, ↓pf149_22, ft149_22, ↓ra2, ↓wa2, ↓ln2, ↓ra3, ↓wa3, ↓ln3, ↓ra4, ↓wa4, ↓ln4, ↓ra5, ↓wa5, ↓ln5, ↓ra6, ↓wa6, ↓ln6, ↓ra7, ↓wa7, ↓ln7, ↓ra8, ↓wa8, ↓ln8, ↓ra9, ↓wa9, ↓ln9, ↓ra10, ↓wa10, ↓ln10, ↓ra11, ↓wa11, ↓ln11, ↓ra12, ↓wa12, ↓ln12, ↓ra14, ↓wa14, ↓ln14, ↓ra15, ↓wa15, ↓ln15, ↓ra16, ↓wa16, ↓ln16, ↓ra17, ↓wa17, ↓ln17, ↓ra18, ↓wa18, ↓ln18, ↓ra19, ↓wa19, ↓ln19, ↓ra20, ↓wa20, ↓ln20, ↓ra146, ↓wa146, ↓ln146, ↓ra148, ↓wa148, ↓ln148, ↓ra150, ↓wa150, ↓ln150, ↓ra151, ↓wa151, ↓ln151, ↓ra152, ↓wa152, ↓ln152, ↓ra153, ↓wa153, ↓ln153, ↓ra154, ↓wa154, ↓ln154, ↓ra155, ↓wa155, ↓ln155, ↓ra156, ↓wa156, ↓ln156, ↓ra157, ↓wa157, ↓ln157, ↓ra158, ↓wa158, ↓ln158, ↓ra159, ↓wa159, ↓ln159, q_M_s, q_M_k, q_M_a, q_P_s, q_P_a, q_toN, q_i00, q_i10, q_j00, q_j10, q_le, h96, if_false, h19, e0, if_true, q_nb0]
      rfl
  · obtain ⟨mm', ⟨f1, f2⟩, hq', e510⟩ := m510 (K := K) (s := s) hi (by omega) hq2
    rw [q_Qi_1 hPi] at hq'
    refine ⟨mm', hq', ?_, ?_, ?_, ?_⟩
    · rw [f1 16 (by decide) (by decide) (by decide), w16]
    · intro a a1 a2 a3 a4
      rw [f1 a a1 a3 a4, q_M_a a4, q_M_a a2]
      exact hfr a a1 a2 a3 a4
    · intro k k1 k2
      rw [f2 k k1 k2, q_M_a (by decide), q_M_a (by decide)]
      exact hfk k k1 k2
    · have e0 : q_bR P i = 1 := by simp [q_bR, hPi]
      have e1 : q_E0 P i = 0 := by simp [q_E0, hPi]
      rw [e1] at e510
      rw [e508_12]
      simp (disch := first | rfl | assumption | decide | omega | (unfold q_R; omega)) only [en508, e508_0, e508_1, e508_2, e508_5, e508_6, e508_7, e508_10, e508_11, e508_13, e508_15, e508_18, e508_19, e508_22, e508_23, e508_24, e508_27, e508_28, e508_29, e508_32, e508_33, e508_36, e508_38, e508_39, e508_40, e508_43, e508_44, e508_45, e508_46, e508_47, e508_50, e508_51, e508_52, e508_55, e508_56, e508_57, e508_60, e508_63, e508_66, e508_67, e508_69, e508_72, e508_75, e508_76, e508_78, e508_81, e508_82, e508_85, e508_86, e508_89, e508_90, e508_91, e508_92, e508_93, e508_96, e508_97, e508_98, e508_100, e508_101, e508_104, e508_105, e508_106, e508_109, e508_110, e508_111, e508_114, e508_115, e508_118, e508_119, e508_120, e508_121, e508_122, e508_123, e508_126, e508_129, e508_132, ↓q_nv0, ↓q_nv1, ↓q_nv2, ↓q_nv3, ↓q_nv4, ↓q_nv5, ↓q_nv6, ↓q_nv7, ↓q_nv8, ↓q_nv9, ↓q_nv10, ↓q_nv11, ↓q_nv12, ↓q_nv13, ↓q_nv14, ↓q_nv15, ↓q_nv16, ↓q_nv17, ↓q_nv18, ↓q_nv19, ↓q_nv20, ↓q_nv21, ↓q_nv22, ↓q_gi0, ↓q_gi1, ↓q_gi2, ↓q_gi3, ↓q_gi4, ↓q_gi5, ↓q_gi6, ↓q_gi7, ↓q_gi8, ↓q_gi9, ↓q_gr0, ↓q_gr1, ↓q_gr2, ↓q_gr3, ↓q_gr4, ↓q_gr5, ↓q_gr6, ↓q_gr7, ↓q_gr8, ↓q_gr9, ↓q_ls0, ↓q_ls1i, ↓q_ls1r, ↓q_ls1n, ↓q_ls2i, ↓q_ls2r, ↓q_ls2n, ↓q_ls3i, ↓q_ls3r, ↓q_ls3n, ↓q_ls4i, ↓q_ls4r, ↓q_ls4n, ↓q_ls5i, ↓q_ls5r, ↓q_ls5n, ↓q_ls6i, ↓q_ls6r, ↓q_ls6n, ↓q_ls7i, ↓q_ls7r, ↓q_ls7n, ↓q_ls8i, ↓q_ls8r, ↓q_ls8n, ↓q_ls9i, ↓q_ls9r, ↓q_ls9n, q_nd0, q_nd1i, q_nd1r, q_nd1n, q_nd2i, q_nd2r, q_nd2n, q_nd3i, q_nd3r, q_nd3n, q_nd4i, q_nd4r, q_nd4n, q_nd5i, q_nd5r, q_nd5n, q_nd6i, q_nd6r, q_nd6n, q_nd7i, q_nd7r, q_nd7n, q_nd8i, q_nd8r, q_nd8n, q_nd9i, q_nd9r, q_nd9n, q_st0, q_st1, q_st2, q_st3, q_st4, q_st5, q_st6, q_st7, q_st8, q_st9, q_cat_i, q_cat_r, q_cat_n, q_wt0, q_wt1, q_tl0, q_tl1, ↓q_cl1, q_add, q_sub, q_mul, q_nari, q_narb0, q_narb1, q_fiti, q_fitb0, q_fitb1, List.cons_append, List.nil_append, Nat.reduceAdd, Nat.reduceLeDiff, and_self, and_true, true_and, ↓reduceIte, ↓rc0, ↓gf0_0, ↓gf0_1, ↓gf0_2, ↓gf0_3, ↓gf0_4, ↓gf0_5, ↓gf0_6, ↓gf0_7, ↓pf0_7, ft0_7, ↓rc1, ↓gf1_0, ↓pf1_0, ft1_0, ↓gf1_1, ↓pf1_1, ft1_1, ↓gf1_2, ↓gf1_3, ↓gf1_4, ↓gf1_5, ↓gf1_6, ↓gf1_7, ↓gf1_8, ↓gf1_9, ↓gf1_10, ↓gf1_11, ↓gf1_12, ↓rc13, ↓gf13_0, ↓gf13_1, ↓gf13_2, ↓gf13_3, ↓gf13_4, ↓gf13_5, ↓gf13_6, ↓pf13_6, ft13_6, ↓gf13_7, ↓pf13_7, ft13_7, ↓gf13_8, ↓pf13_8, ft13_8, ↓gf13_9, ↓pf13_9, ft13_90, ft13_91, ↓gf13_10, ↓gf13_11, ↓gf13_12, ↓pf13_12, ft13_12, ↓gf13_13, ↓pf13_13, ft13_13, ↓gf13_14, ↓pf13_14, ft13_14, ↓rc21, ↓gf21_0, ↓pf21_0, ft21_0, ↓gf21_1, ↓pf21_1, ft21_1, ↓gf21_2, ↓pf21_2, ft21_2, ↓gf21_3, ↓pf21_3, ft21_3, ↓rc22, ↓gf22_0, ↓gf22_1, ↓gf22_2, ↓rc23, ↓gf23_0, ↓gf23_1, ↓gf23_2, ↓gf23_3, ↓pf23_3, ft23_3, ↓gf23_4, ↓pf23_4, ft23_4, ↓gf23_5, ↓pf23_5, ft23_50, ft23_51, ↓rc145, ↓gf145_0, ↓gf145_1, ↓pf145_1, ft145_1, ↓rc147, ↓gf147_0, ↓gf147_1, ↓pf147_1, ft147_1, ↓rc149, ↓gf149_0, ↓gf149_1, ↓gf149_2, ↓gf149_3, ↓gf149_4, ↓pf149_4, ft149_40, ft149_41, ↓gf149_5, ↓pf149_5, ft149_5, ↓gf149_6, ↓pf149_6, ft149_60, ft149_61, ↓gf149_7, ↓pf149_7, ft149_7, ↓gf149_8, ↓pf149_8, ft149_8, ↓gf149_9, ↓pf149_9, ft149_9, ↓gf149_10, ↓pf149_10, ft149_10, ↓gf149_11, ↓gf149_12, ↓pf149_12, ft149_12, ↓gf149_13, ↓pf149_13, ft149_13, ↓gf149_14, ↓gf149_15, ↓pf149_15, ft149_15, ↓gf149_16, ↓gf149_17, ↓gf149_18, ↓gf149_19, ↓pf149_19, ft149_19, ↓gf149_20, ↓pf149_20, ft149_20, ↓gf149_21, ↓gf149_22, ↓pf149_22, ft149_22, ↓ra2, ↓wa2, ↓ln2, ↓ra3, ↓wa3, ↓ln3, ↓ra4, ↓wa4, ↓ln4, ↓ra5, ↓wa5, ↓ln5, ↓ra6, ↓wa6, ↓ln6, ↓ra7, ↓wa7, ↓ln7, ↓ra8, ↓wa8, ↓ln8, ↓ra9, ↓wa9, ↓ln9, ↓ra10, ↓wa10, ↓ln10, ↓ra11, ↓wa11, ↓ln11, ↓ra12, ↓wa12, ↓ln12, ↓ra14, ↓wa14, ↓ln14, ↓ra15, ↓wa15, ↓ln15, ↓ra16, ↓wa16, ↓ln16, ↓ra17, ↓wa17, ↓ln17, ↓ra18, ↓wa18, ↓ln18, ↓ra19, ↓wa19, ↓ln19, ↓ra20, ↓wa20, ↓ln20, ↓ra146, ↓wa146, ↓ln146, ↓ra148, ↓wa148, ↓ln148, ↓ra150, ↓wa150, ↓ln150, ↓ra151, ↓wa151, ↓ln151, ↓ra152, ↓wa152, ↓ln152, ↓ra153, ↓wa153, ↓ln153, ↓ra154, ↓wa154, ↓ln154, ↓ra155, ↓wa155, ↓ln155, ↓ra156, ↓wa156, ↓ln156, ↓ra157, ↓wa157, ↓ln157, ↓ra158, ↓wa158, ↓ln158, ↓ra159, ↓wa159, ↓ln159, q_M_s, q_M_k, q_M_a, q_P_s, q_P_a, q_toN, q_i00, q_i10, q_j00, q_j10, q_le, h96, if_false, h19, e0, if_true, q_nb0, e510]
      rfl
/-- the row of the class's costs out of the reference's -/
def q_xf (D : Nat → Int) : Nat → Int := fun c => if D c < 100000 then D c else 1000000
theorem m508 {g : Nat → Int} {n hard : Int} {P : Nat → Bool} (hR : q_Rt m g n) (hW : q_W g) (hh : hard = 0 ∨ hard = 1) (h9 : m 13 9 = hard) (hP : m 19 = q_bR P) :
    q_mx (fun c => P c = true) (q_al g n hard) (q_Wn g n) (q_dd g n hard P) ∧ (∀ c, c < 96 → q_dd g n hard P c ≤ 1056 ∨ q_dd g n hard P c = 100000) ∧ ∃ mm, (∀ a, a ≠ 13 → a ≠ 16 → a ≠ 17 → a ≠ 18 → mm a = m a) ∧ (∀ k, k ≠ 6 → k ≠ 7 → mm 13 k = m 13 k) ∧ mm 16 = q_xf (q_dd g n hard P) ∧ x_m 508 [.ref 13] (q_H m K s) = some (.inl none, q_H mm K s) := by
  obtain ⟨ls, h', ⟨mm0, hl, hh', hq, h16, hfr, hfk⟩, e⟩ := q_loop (M := 508) (pc := 12) (n := 96) (fun i ls h => ∃ mm : Nat → Nat → Int, ls = [.ref 13, .int (q_i i), .null] ∧ h = q_H mm K s ∧ q_qu i mm (q_Qi P i) ∧ mm 16 = q_pf2 (m 16) (q_E0 P) i ∧ (∀ a, a ≠ 13 → a ≠ 16 → a ≠ 17 → a ≠ 18 → mm a = m a) ∧ ∀ k, k ≠ 6 → k ≠ 7 → mm 13 k = m 13 k) (fun i ls h hi ⟨mm1, hl, hh', hq, h16, hfr, hfk⟩ => by
    subst hl hh'
    obtain ⟨mm2, a1, a2, a3, a4, e⟩ := l508i (K := K) (s := s) hP i hi hq h16 hfr hfk
    exact ⟨_, _, ⟨mm2, rfl, rfl, a1, a2, a3, a4⟩, e⟩) (ls := [.ref 13, .int (q_i (0 : Nat)), .null]) (h := q_H (q_M (q_M m 13 6 0) 13 7 0) K s) ⟨q_M (q_M m 13 6 0) 13 7 0, rfl, rfl, ⟨fun j hj => absurd hj (by omega), by rw [q_M_k (by decide), q_M_s]; omega, by rw [q_M_s, q_Qi_z]; rfl, by rw [q_Qi_z]; exact fun i hi => absurd hi (by omega), by rw [q_Qi_z]; exact fun i j _ hj => absurd hj (by omega)⟩, by rw [q_M_a (by decide), q_M_a (by decide), q_pf20], fun a a1 a2 a3 a4 => by rw [q_M_a a1, q_M_a a1], fun k k1 k2 => by rw [q_M_k k2, q_M_k k1]⟩
  subst hl hh'
  have hD : ∀ c, c < 96 → q_pf2 (m 16) (q_E0 P) 96 c = if P c = true then 0 else 1000000 := fun c hc => if_pos hc
  obtain ⟨mm', D', Q', b1, b2, b3, b4⟩ := l508o (P := fun c => P c = true) (K := K) (s := s) hR hW hh h9 200000 mm0 (q_pf2 (m 16) (q_E0 P) 96) (q_Qi P 96) 0 .null (by
    have h1 : q_cnt (q_Qi P 96) 96 ≤ 96 := q_cnt_le _ _
    have h3 : q_ph (q_pf2 (m 16) (q_E0 P) 96) ≤ 96 * 1100 := by
      have key : ∀ n, n ≤ 96 → q_su (fun c => if q_pf2 (m 16) (q_E0 P) 96 c < 1000000 then q_pf2 (m 16) (q_E0 P) 96 c else 1100) n ≤ n * 1100 := by
        intro n
        induction n with
        | zero => exact fun _ => Nat.zero_le _
        | succ n ih =>
          intro hn
          have i1 := ih (by omega)
          have i2 := hD n (by omega)
          show q_su (fun c => if q_pf2 (m 16) (q_E0 P) 96 c < 1000000 then q_pf2 (m 16) (q_E0 P) 96 c else 1100) n + (if q_pf2 (m 16) (q_E0 P) 96 n < 1000000 then q_pf2 (m 16) (q_E0 P) 96 n else 1100).toNat ≤ (n + 1) * 1100
          rw [i2]
          split <;> split <;> omega
      exact key 96 (Nat.le_refl _)
    omega) (by omega) ⟨h16, hq, hfr, hfk⟩ ⟨fun c hc => by rw [hD c hc]; split; exact ⟨Int.le_refl _, Or.inr (by omega)⟩; exact ⟨by decide, Or.inl rfl⟩, fun c hc hp => by rw [hD c hc, if_pos hp], fun X hX c hc hF => by
      rw [hD c hc] at hF ⊢
      split at hF
      · rename_i hp
        rw [if_pos hp]
        exact hX.2.1 c hc hp
      · exact absurd hF (by decide), fun u w c hu hw hc hb ha hQ hF => by
      rw [hD u hu] at hF
      split at hF
      · rename_i hp
        exfalso
        simp [q_Qi, hp] at hQ
        omega
      · exact absurd hF (by decide)⟩ (fun c hc hQ => by
      rw [hD c hc, if_pos (by simp [q_Qi] at hQ; exact hQ.2)]
      decide)
  have hcF : q_cnt (fun j => decide (D' j < 1000000)) 96 ≤ 96 := q_cnt_le _ _
  have hQ0 : ∀ c, c < 96 → Q' c = false := fun c hc => by
    cases h : Q' c
    · rfl
    · have := q_del_cnt h hc
      omega
  have hB : ∀ c, c < 96 → 0 ≤ D' c ∧ (D' c = 1000000 ∨ D' c ≤ 1056) := fun c hc => by
    have := b3.1 c hc
    omega
  have hmx : q_mx (fun c => P c = true) (q_al g n hard) (q_Wn g n) (fun c => if D' c < 1000000 then D' c else 100000) := by
    refine ⟨⟨fun c hc => ?_, fun c hc hp => ?_, fun c w d hc hw hd hb ha hp hF => ?_⟩, fun c hc hp => ?_, fun X hX c hc => ?_⟩
    · have := hB c hc
      try dsimp only
      split <;> omega
    · dsimp only
      rw [b3.2.1 c hc hp]
      decide
    · dsimp only at hF ⊢
      have h1 := hB c hc
      have h2 := hB d hd
      have hdF : D' d < 1000000 := by
        split at hF
        · assumption
        · exact absurd hF (by decide)
      have hbo := q_bs_op (c := (c : Int)) (w := w) (by omega) (by omega) hw (by omega)
      rw [hb] at hbo
      have h3 := b3.2.2.2 d (q_op w) c hd (q_op_lt w) hc hbo ha (hQ0 d hd) hdF
      rw [q_Wn_op hw] at h3
      have h4 := q_Wn_R g n c w
      rcases h3 with h3 | h3
      · exact absurd h3 id
      · rw [if_pos hdF, if_pos (by omega)]
        exact h3
    · dsimp only
      rw [b3.2.1 c hc hp]
      decide
    · dsimp only
      split
      · rename_i h
        exact b3.2.2.1 X hX c hc h
      · exact hX.1 c hc
  have heq : ∀ c, c < 96 → (if D' c < 1000000 then D' c else 100000) = q_dd g n hard P c := fun c hc => q_ds_eq hmx c hc
  refine ⟨q_ds_gr hmx, fun c hc => ?_, q_P mm' 16 (q_xf (q_dd g n hard P)), ?_, ?_, q_P_s, ?_⟩
  · rw [← heq c hc]
    have := hB c hc
    split <;> omega
  · intro a a1 a2 a3 a4
    rw [q_P_a a2]
    exact b2.2.2.1 a a1 a2 a3 a4
  · intro k k1 k2
    rw [q_P_a (by decide)]
    exact b2.2.2.2 k k1 k2
  · have ee : q_H mm' K s = q_H (q_P mm' 16 (q_xf (q_dd g n hard P))) K s := by
      apply q_H_ext
      intro a ha
      by_cases h : a = 16
      · subst h
        rw [q_P_s, b2.1]
        show Sum.inl (0, q_ar 96 _) = Sum.inl (0, q_ar 96 _)
        rw [q_ar_ext fun i hi => ?_]
        have h1 := heq i hi
        have h2 := hB i hi
        unfold q_xf
        rw [← h1]
        split <;> split <;> omega
      · rw [q_P_a h]
    rw [← ee, en508, e508_0]
    simp (disch := first | rfl | assumption | decide | omega | (unfold q_R; omega)) only [e508_1, e508_2, e508_5, e508_6, e508_7, e508_10, e508_11, ↓q_nv0, ↓q_nv1, ↓q_nv2, ↓q_nv3, ↓q_nv4, ↓q_nv5, ↓q_nv6, ↓q_nv7, ↓q_nv8, ↓q_nv9, ↓q_nv10, ↓q_nv11, ↓q_nv12, ↓q_nv13, ↓q_nv14, ↓q_nv15, ↓q_nv16, ↓q_nv17, ↓q_nv18, ↓q_nv19, ↓q_nv20, ↓q_nv21, ↓q_nv22, ↓q_gi0, ↓q_gi1, ↓q_gi2, ↓q_gi3, ↓q_gi4, ↓q_gi5, ↓q_gi6, ↓q_gi7, ↓q_gi8, ↓q_gi9, ↓q_gr0, ↓q_gr1, ↓q_gr2, ↓q_gr3, ↓q_gr4, ↓q_gr5, ↓q_gr6, ↓q_gr7, ↓q_gr8, ↓q_gr9, ↓q_ls0, ↓q_ls1i, ↓q_ls1r, ↓q_ls1n, ↓q_ls2i, ↓q_ls2r, ↓q_ls2n, ↓q_ls3i, ↓q_ls3r, ↓q_ls3n, ↓q_ls4i, ↓q_ls4r, ↓q_ls4n, ↓q_ls5i, ↓q_ls5r, ↓q_ls5n, ↓q_ls6i, ↓q_ls6r, ↓q_ls6n, ↓q_ls7i, ↓q_ls7r, ↓q_ls7n, ↓q_ls8i, ↓q_ls8r, ↓q_ls8n, ↓q_ls9i, ↓q_ls9r, ↓q_ls9n, q_nd0, q_nd1i, q_nd1r, q_nd1n, q_nd2i, q_nd2r, q_nd2n, q_nd3i, q_nd3r, q_nd3n, q_nd4i, q_nd4r, q_nd4n, q_nd5i, q_nd5r, q_nd5n, q_nd6i, q_nd6r, q_nd6n, q_nd7i, q_nd7r, q_nd7n, q_nd8i, q_nd8r, q_nd8n, q_nd9i, q_nd9r, q_nd9n, q_st0, q_st1, q_st2, q_st3, q_st4, q_st5, q_st6, q_st7, q_st8, q_st9, q_cat_i, q_cat_r, q_cat_n, q_wt0, q_wt1, q_tl0, q_tl1, ↓q_cl1, q_add, q_sub, q_mul, q_nari, q_narb0, q_narb1, q_fiti, q_fitb0, q_fitb1, List.cons_append, List.nil_append, Nat.reduceAdd, Nat.reduceLeDiff, and_self, and_true, true_and, ↓reduceIte, ↓rc0, ↓gf0_0, ↓gf0_1, ↓gf0_2, ↓gf0_3, ↓gf0_4, ↓gf0_5, ↓gf0_6, ↓gf0_7, ↓pf0_7, ft0_7, ↓rc1, ↓gf1_0, ↓pf1_0, ft1_0, ↓gf1_1, ↓pf1_1, ft1_1, ↓gf1_2, ↓gf1_3, ↓gf1_4, ↓gf1_5, ↓gf1_6, ↓gf1_7, ↓gf1_8, ↓gf1_9, ↓gf1_10, ↓gf1_11, ↓gf1_12, ↓rc13, ↓gf13_0, ↓gf13_1, ↓gf13_2, ↓gf13_3, ↓gf13_4, ↓gf13_5, ↓gf13_6, ↓pf13_6, ft13_6, ↓gf13_7, ↓pf13_7, ft13_7, ↓gf13_8, ↓pf13_8, ft13_8, ↓gf13_9, ↓pf13_9, ft13_90, ft13_91, ↓gf13_10, ↓gf13_11, ↓gf13_12, ↓pf13_12, ft13_12, ↓gf13_13, ↓pf13_13, ft13_13, ↓gf13_14, ↓pf13_14, ft13_14, ↓rc21, ↓gf21_0, ↓pf21_0, ft21_0, ↓gf21_1, ↓pf21_1, ft21_1, ↓gf21_2, ↓pf21_2, ft21_2, ↓gf21_3, ↓pf21_3, ft21_3, ↓rc22, ↓gf22_0, ↓gf22_1, ↓gf22_2, ↓rc23, ↓gf23_0, ↓gf23_1, ↓gf23_2, ↓gf23_3, ↓pf23_3, ft23_3, ↓gf23_4, ↓pf23_4, ft23_4, ↓gf23_5, ↓pf23_5, ft23_50, ft23_51, ↓rc145, ↓gf145_0, ↓gf145_1, ↓pf145_1, ft145_1, ↓rc147, ↓gf147_0, ↓gf147_1, ↓pf147_1, ft147_1, ↓rc149, ↓gf149_0, ↓gf149_1, ↓gf149_2, ↓gf149_3, ↓gf149_4, ↓pf149_4, ft149_40, ft149_41, ↓gf149_5, ↓pf149_5, ft149_5, ↓gf149_6, ↓pf149_6, ft149_60, ft149_61, ↓gf149_7, ↓pf149_7, ft149_7, ↓gf149_8, ↓pf149_8, ft149_8, ↓gf149_9, ↓pf149_9, ft149_9, ↓gf149_10, ↓pf149_10, ft149_10, ↓gf149_11, ↓gf149_12, ↓pf149_12, ft149_12, ↓gf149_13, ↓pf149_13, ft149_13, ↓gf149_14, ↓gf149_15, ↓pf149_15, ft149_15, ↓gf149_16, ↓gf149_17, ↓gf149_18, ↓gf149_19, ↓pf149_19, ft149_19, ↓gf149_20, ↓pf149_20, ft149_20, ↓gf149_21, ↓gf149_22, ↓pf149_22, ft149_22]
    refine Eq.trans e ?_
    rw [e508_12]
    simp (disch := first | rfl | assumption | decide | omega | (unfold q_R; omega)) only [en508, e508_0, e508_1, e508_2, e508_5, e508_6, e508_7, e508_10, e508_11, e508_13, e508_15, e508_18, e508_19, e508_22, e508_23, e508_24, e508_27, e508_28, e508_29, e508_32, e508_33, e508_36, e508_38, e508_39, e508_40, e508_43, e508_44, e508_45, e508_46, e508_47, e508_50, e508_51, e508_52, e508_55, e508_56, e508_57, e508_60, e508_63, e508_66, e508_67, e508_69, e508_72, e508_75, e508_76, e508_78, e508_81, e508_82, e508_85, e508_86, e508_89, e508_90, e508_91, e508_92, e508_93, e508_96, e508_97, e508_98, e508_100, e508_101, e508_104, e508_105, e508_106, e508_109, e508_110, e508_111, e508_114, e508_115, e508_118, e508_119, e508_120, e508_121, e508_122, e508_123, e508_126, e508_129, e508_132, ↓q_nv0, ↓q_nv1, ↓q_nv2, ↓q_nv3, ↓q_nv4, ↓q_nv5, ↓q_nv6, ↓q_nv7, ↓q_nv8, ↓q_nv9, ↓q_nv10, ↓q_nv11, ↓q_nv12, ↓q_nv13, ↓q_nv14, ↓q_nv15, ↓q_nv16, ↓q_nv17, ↓q_nv18, ↓q_nv19, ↓q_nv20, ↓q_nv21, ↓q_nv22, ↓q_gi0, ↓q_gi1, ↓q_gi2, ↓q_gi3, ↓q_gi4, ↓q_gi5, ↓q_gi6, ↓q_gi7, ↓q_gi8, ↓q_gi9, ↓q_gr0, ↓q_gr1, ↓q_gr2, ↓q_gr3, ↓q_gr4, ↓q_gr5, ↓q_gr6, ↓q_gr7, ↓q_gr8, ↓q_gr9, ↓q_ls0, ↓q_ls1i, ↓q_ls1r, ↓q_ls1n, ↓q_ls2i, ↓q_ls2r, ↓q_ls2n, ↓q_ls3i, ↓q_ls3r, ↓q_ls3n, ↓q_ls4i, ↓q_ls4r, ↓q_ls4n, ↓q_ls5i, ↓q_ls5r, ↓q_ls5n, ↓q_ls6i, ↓q_ls6r, ↓q_ls6n, ↓q_ls7i, ↓q_ls7r, ↓q_ls7n, ↓q_ls8i, ↓q_ls8r, ↓q_ls8n, ↓q_ls9i, ↓q_ls9r, ↓q_ls9n, q_nd0, q_nd1i, q_nd1r, q_nd1n, q_nd2i, q_nd2r, q_nd2n, q_nd3i, q_nd3r, q_nd3n, q_nd4i, q_nd4r, q_nd4n, q_nd5i, q_nd5r, q_nd5n, q_nd6i, q_nd6r, q_nd6n, q_nd7i, q_nd7r, q_nd7n, q_nd8i, q_nd8r, q_nd8n, q_nd9i, q_nd9r, q_nd9n, q_st0, q_st1, q_st2, q_st3, q_st4, q_st5, q_st6, q_st7, q_st8, q_st9, q_cat_i, q_cat_r, q_cat_n, q_wt0, q_wt1, q_tl0, q_tl1, ↓q_cl1, q_add, q_sub, q_mul, q_nari, q_narb0, q_narb1, q_fiti, q_fitb0, q_fitb1, List.cons_append, List.nil_append, Nat.reduceAdd, Nat.reduceLeDiff, and_self, and_true, true_and, ↓reduceIte, q_le, show (96 : Int) ≤ ((96 : Nat) : Int) by decide, if_true]
    exact b4
end M59
