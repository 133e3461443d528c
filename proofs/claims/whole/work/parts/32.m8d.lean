theorem q_so_of {pc t : Nat} {o : Int} {F : Nat → q_O} (h : x_bj pc o = some t) : q_so pc (some o) F = F t := by
  unfold q_so
  try dsimp only
  rw [h]
/-- the cell beside a cell: above, below, left, right, the other layer; -1: none -/
def q_bs (c : Int) (w : Nat) : Int :=
  if w = 0 then (if c % 48 < 8 then -1 else c - 8) else if w = 1 then (if 40 ≤ c % 48 then -1 else c + 8) else if w = 2 then (if c % 8 = 0 then -1 else c - 1) else if w = 3 then (if c % 8 = 7 then -1 else c + 1) else (c + 48) % 96
theorem q_bs_lt {c : Int} (h0 : 0 ≤ c) (h1 : c < 96) (w : Nat) : -1 ≤ q_bs c w ∧ q_bs c w < 96 := by
  unfold q_bs
  repeat' split
  all_goals omega
theorem m816 {h : x_H} {c : Int} (h0 : 0 ≤ c) (h1 : c < 96) (w : Nat) (hw : w < 5) : x_m 816 [.int (q_i c), .int (q_i w)] h = some (.inl (some (.int (q_i (q_bs c w)))), h) := by
  have hc : q_R c := by unfold q_R; omega
  have h48 : q_R 48 := by unfold q_R; omega
  have h96 : q_R 96 := by unfold q_R; omega
  have h8 : q_R 8 := by unfold q_R; omega
  have h7 : q_R 7 := by unfold q_R; omega
  have h5 : q_R 5 := by unfold q_R; omega
  have hr : q_R (c % 48) := by unfold q_R; omega
  have hr0 : 0 ≤ c % 48 := by omega
  have hd : q_R (c % 48 / 8) := by unfold q_R; omega
  have hm : q_R (c % 48 % 8) := by unfold q_R; omega
  have z48 : ¬ q_i 48 = 0 := by decide
  have z96 : ¬ q_i 96 = 0 := by decide
  have z8 : ¬ q_i 8 = 0 := by decide
  have r1 := q_rem h0 hc (b := 48) (by omega) h48
  rcases (show w = 0 ∨ w = 1 ∨ w = 2 ∨ w = 3 ∨ w = 4 by omega) with rfl | rfl | rfl | rfl | rfl
  · have hs : x_tsw 95 0 3 #[30, 46, 63, 78] (q_i (0 : Nat)) = some 30 := by decide
    have hv : q_bs c 0 = if c % 48 / 8 = 0 then -1 else c - 8 := by
      show (if c % 48 < 8 then (-1 : Int) else c - 8) = _
      split <;> split <;> omega
    rw [hv]
    simp only [en816, e816_0, e816_1, e816_3, e816_4, e816_5, e816_6, e816_36, e816_37, e816_39, e816_40, e816_43, e816_44, e816_47, e816_48, e816_50, e816_51, e816_52, e816_53, e816_55, e816_56, e816_57, e816_60, e816_61, e816_64, e816_65, e816_67, e816_68, e816_69, e816_70, e816_72, e816_73, e816_76, e816_77, e816_80, e816_81, e816_82, e816_83, e816_84, e816_85, e816_87, e816_88, e816_90, e816_93, e816_94, e816_97, e816_98, e816_99, e816_100, e816_101, e816_102, e816_104, e816_105, e816_107, e816_108, ↓q_nv0, ↓q_nv1, ↓q_nv2, ↓q_nv3, ↓q_nv4, ↓q_nv5, ↓q_nv6, ↓q_nv7, ↓q_nv8, ↓q_nv9, ↓q_nv10, ↓q_nv11, ↓q_nv12, ↓q_nv13, ↓q_nv14, ↓q_nv15, ↓q_nv16, ↓q_nv17, ↓q_nv18, ↓q_nv19, ↓q_nv20, ↓q_nv21, ↓q_nv22, ↓q_gi0, ↓q_gi1, ↓q_gi2, ↓q_gi3, ↓q_gi4, ↓q_gi5, ↓q_gi6, ↓q_gi7, ↓q_gi8, ↓q_gi9, ↓q_gr0, ↓q_gr1, ↓q_gr2, ↓q_gr3, ↓q_gr4, ↓q_gr5, ↓q_gr6, ↓q_gr7, ↓q_gr8, ↓q_gr9, ↓q_ls0, ↓q_ls1i, ↓q_ls1r, ↓q_ls1n, ↓q_ls2i, ↓q_ls2r, ↓q_ls2n, ↓q_ls3i, ↓q_ls3r, ↓q_ls3n, ↓q_ls4i, ↓q_ls4r, ↓q_ls4n, ↓q_ls5i, ↓q_ls5r, ↓q_ls5n, ↓q_ls6i, ↓q_ls6r, ↓q_ls6n, ↓q_ls7i, ↓q_ls7r, ↓q_ls7n, ↓q_ls8i, ↓q_ls8r, ↓q_ls8n, ↓q_ls9i, ↓q_ls9r, ↓q_ls9n, q_nd0, q_nd1i, q_nd1r, q_nd1n, q_nd2i, q_nd2r, q_nd2n, q_nd3i, q_nd3r, q_nd3n, q_nd4i, q_nd4r, q_nd4n, q_nd5i, q_nd5r, q_nd5n, q_nd6i, q_nd6r, q_nd6n, q_nd7i, q_nd7r, q_nd7n, q_nd8i, q_nd8r, q_nd8n, q_nd9i, q_nd9r, q_nd9n, q_st0, q_st1, q_st2, q_st3, q_st4, q_st5, q_st6, q_st7, q_st8, q_st9, q_cat_i, q_cat_r, q_cat_n, q_wt0, q_wt1, q_tl0, q_tl1, ↓q_cl1, q_add, q_sub, q_mul, q_nari, q_narb0, q_narb1, q_fiti, q_fitb0, q_fitb1, List.cons_append, List.nil_append, Nat.reduceAdd, Nat.reduceLeDiff, and_self, and_true, true_and, ↓reduceIte, r1, z48, z8, hs, q_so_of (show x_bj 6 30 = some 36 from rfl), q_div hr0 hr (show (0 : Int) < 8 by omega) h8, q_eq0 hd]
    by_cases hz : c % 48 / 8 = 0
    · rw [if_neg (fun z => z hz), if_pos hz]
    · rw [if_pos hz, if_neg hz]
  · have hs : x_tsw 95 0 3 #[30, 46, 63, 78] (q_i (1 : Nat)) = some 46 := by decide
    have hv : q_bs c 1 = if c % 48 / 8 = 5 then -1 else c + 8 := by
      show (if 40 ≤ c % 48 then (-1 : Int) else c + 8) = _
      split <;> split <;> omega
    rw [hv]
    simp only [en816, e816_0, e816_1, e816_3, e816_4, e816_5, e816_6, e816_36, e816_37, e816_39, e816_40, e816_43, e816_44, e816_47, e816_48, e816_50, e816_51, e816_52, e816_53, e816_55, e816_56, e816_57, e816_60, e816_61, e816_64, e816_65, e816_67, e816_68, e816_69, e816_70, e816_72, e816_73, e816_76, e816_77, e816_80, e816_81, e816_82, e816_83, e816_84, e816_85, e816_87, e816_88, e816_90, e816_93, e816_94, e816_97, e816_98, e816_99, e816_100, e816_101, e816_102, e816_104, e816_105, e816_107, e816_108, ↓q_nv0, ↓q_nv1, ↓q_nv2, ↓q_nv3, ↓q_nv4, ↓q_nv5, ↓q_nv6, ↓q_nv7, ↓q_nv8, ↓q_nv9, ↓q_nv10, ↓q_nv11, ↓q_nv12, ↓q_nv13, ↓q_nv14, ↓q_nv15, ↓q_nv16, ↓q_nv17, ↓q_nv18, ↓q_nv19, ↓q_nv20, ↓q_nv21, ↓q_nv22, ↓q_gi0, ↓q_gi1, ↓q_gi2, ↓q_gi3, ↓q_gi4, ↓q_gi5, ↓q_gi6, ↓q_gi7, ↓q_gi8, ↓q_gi9, ↓q_gr0, ↓q_gr1, ↓q_gr2, ↓q_gr3, ↓q_gr4, ↓q_gr5, ↓q_gr6, ↓q_gr7, ↓q_gr8, ↓q_gr9, ↓q_ls0, ↓q_ls1i, ↓q_ls1r, ↓q_ls1n, ↓q_ls2i, ↓q_ls2r, ↓q_ls2n, ↓q_ls3i, ↓q_ls3r, ↓q_ls3n, ↓q_ls4i, ↓q_ls4r, ↓q_ls4n, ↓q_ls5i, ↓q_ls5r, ↓q_ls5n, ↓q_ls6i, ↓q_ls6r, ↓q_ls6n, ↓q_ls7i, ↓q_ls7r, ↓q_ls7n, ↓q_ls8i, ↓q_ls8r, ↓q_ls8n, ↓q_ls9i, ↓q_ls9r, ↓q_ls9n, q_nd0, q_nd1i, q_nd1r, q_nd1n, q_nd2i, q_nd2r, q_nd2n, q_nd3i, q_nd3r, q_nd3n, q_nd4i, q_nd4r, q_nd4n, q_nd5i, q_nd5r, q_nd5n, q_nd6i, q_nd6r, q_nd6n, q_nd7i, q_nd7r, q_nd7n, q_nd8i, q_nd8r, q_nd8n, q_nd9i, q_nd9r, q_nd9n, q_st0, q_st1, q_st2, q_st3, q_st4, q_st5, q_st6, q_st7, q_st8, q_st9, q_cat_i, q_cat_r, q_cat_n, q_wt0, q_wt1, q_tl0, q_tl1, ↓q_cl1, q_add, q_sub, q_mul, q_nari, q_narb0, q_narb1, q_fiti, q_fitb0, q_fitb1, List.cons_append, List.nil_append, Nat.reduceAdd, Nat.reduceLeDiff, and_self, and_true, true_and, ↓reduceIte, r1, z48, z8, hs, q_so_of (show x_bj 6 46 = some 52 from rfl), q_div hr0 hr (show (0 : Int) < 8 by omega) h8, q_eq hd h5]
    by_cases hz : c % 48 / 8 = 5
    · rw [if_neg (fun z => z hz), if_pos hz]
    · rw [if_pos hz, if_neg hz]
  · have hs : x_tsw 95 0 3 #[30, 46, 63, 78] (q_i (2 : Nat)) = some 63 := by decide
    have hv : q_bs c 2 = if c % 48 % 8 = 0 then -1 else c - 1 := by
      show (if c % 8 = 0 then (-1 : Int) else c - 1) = _
      split <;> split <;> omega
    rw [hv]
    simp only [en816, e816_0, e816_1, e816_3, e816_4, e816_5, e816_6, e816_36, e816_37, e816_39, e816_40, e816_43, e816_44, e816_47, e816_48, e816_50, e816_51, e816_52, e816_53, e816_55, e816_56, e816_57, e816_60, e816_61, e816_64, e816_65, e816_67, e816_68, e816_69, e816_70, e816_72, e816_73, e816_76, e816_77, e816_80, e816_81, e816_82, e816_83, e816_84, e816_85, e816_87, e816_88, e816_90, e816_93, e816_94, e816_97, e816_98, e816_99, e816_100, e816_101, e816_102, e816_104, e816_105, e816_107, e816_108, ↓q_nv0, ↓q_nv1, ↓q_nv2, ↓q_nv3, ↓q_nv4, ↓q_nv5, ↓q_nv6, ↓q_nv7, ↓q_nv8, ↓q_nv9, ↓q_nv10, ↓q_nv11, ↓q_nv12, ↓q_nv13, ↓q_nv14, ↓q_nv15, ↓q_nv16, ↓q_nv17, ↓q_nv18, ↓q_nv19, ↓q_nv20, ↓q_nv21, ↓q_nv22, ↓q_gi0, ↓q_gi1, ↓q_gi2, ↓q_gi3, ↓q_gi4, ↓q_gi5, ↓q_gi6, ↓q_gi7, ↓q_gi8, ↓q_gi9, ↓q_gr0, ↓q_gr1, ↓q_gr2, ↓q_gr3, ↓q_gr4, ↓q_gr5, ↓q_gr6, ↓q_gr7, ↓q_gr8, ↓q_gr9, ↓q_ls0, ↓q_ls1i, ↓q_ls1r, ↓q_ls1n, ↓q_ls2i, ↓q_ls2r, ↓q_ls2n, ↓q_ls3i, ↓q_ls3r, ↓q_ls3n, ↓q_ls4i, ↓q_ls4r, ↓q_ls4n, ↓q_ls5i, ↓q_ls5r, ↓q_ls5n, ↓q_ls6i, ↓q_ls6r, ↓q_ls6n, ↓q_ls7i, ↓q_ls7r, ↓q_ls7n, ↓q_ls8i, ↓q_ls8r, ↓q_ls8n, ↓q_ls9i, ↓q_ls9r, ↓q_ls9n, q_nd0, q_nd1i, q_nd1r, q_nd1n, q_nd2i, q_nd2r, q_nd2n, q_nd3i, q_nd3r, q_nd3n, q_nd4i, q_nd4r, q_nd4n, q_nd5i, q_nd5r, q_nd5n, q_nd6i, q_nd6r, q_nd6n, q_nd7i, q_nd7r, q_nd7n, q_nd8i, q_nd8r, q_nd8n, q_nd9i, q_nd9r, q_nd9n, q_st0, q_st1, q_st2, q_st3, q_st4, q_st5, q_st6, q_st7, q_st8, q_st9, q_cat_i, q_cat_r, q_cat_n, q_wt0, q_wt1, q_tl0, q_tl1, ↓q_cl1, q_add, q_sub, q_mul, q_nari, q_narb0, q_narb1, q_fiti, q_fitb0, q_fitb1, List.cons_append, List.nil_append, Nat.reduceAdd, Nat.reduceLeDiff, and_self, and_true, true_and, ↓reduceIte, r1, z48, z8, hs, q_so_of (show x_bj 6 63 = some 69 from rfl), q_rem hr0 hr (show (0 : Int) < 8 by omega) h8, q_eq0 hm]
    by_cases hz : c % 48 % 8 = 0
    · rw [if_neg (fun z => z hz), if_pos hz]
    · rw [if_pos hz, if_neg hz]
  · have hs : x_tsw 95 0 3 #[30, 46, 63, 78] (q_i (3 : Nat)) = some 78 := by decide
    have hv : q_bs c 3 = if c % 48 % 8 = 7 then -1 else c + 1 := by
      show (if c % 8 = 7 then (-1 : Int) else c + 1) = _
      split <;> split <;> omega
    rw [hv]
    simp only [en816, e816_0, e816_1, e816_3, e816_4, e816_5, e816_6, e816_36, e816_37, e816_39, e816_40, e816_43, e816_44, e816_47, e816_48, e816_50, e816_51, e816_52, e816_53, e816_55, e816_56, e816_57, e816_60, e816_61, e816_64, e816_65, e816_67, e816_68, e816_69, e816_70, e816_72, e816_73, e816_76, e816_77, e816_80, e816_81, e816_82, e816_83, e816_84, e816_85, e816_87, e816_88, e816_90, e816_93, e816_94, e816_97, e816_98, e816_99, e816_100, e816_101, e816_102, e816_104, e816_105, e816_107, e816_108, ↓q_nv0, ↓q_nv1, ↓q_nv2, ↓q_nv3, ↓q_nv4, ↓q_nv5, ↓q_nv6, ↓q_nv7, ↓q_nv8, ↓q_nv9, ↓q_nv10, ↓q_nv11, ↓q_nv12, ↓q_nv13, ↓q_nv14, ↓q_nv15, ↓q_nv16, ↓q_nv17, ↓q_nv18, ↓q_nv19, ↓q_nv20, ↓q_nv21, ↓q_nv22, ↓q_gi0, ↓q_gi1, ↓q_gi2, ↓q_gi3, ↓q_gi4, ↓q_gi5, ↓q_gi6, ↓q_gi7, ↓q_gi8, ↓q_gi9, ↓q_gr0, ↓q_gr1, ↓q_gr2, ↓q_gr3, ↓q_gr4, ↓q_gr5, ↓q_gr6, ↓q_gr7, ↓q_gr8, ↓q_gr9, ↓q_ls0, ↓q_ls1i, ↓q_ls1r, ↓q_ls1n, ↓q_ls2i, ↓q_ls2r, ↓q_ls2n, ↓q_ls3i, ↓q_ls3r, ↓q_ls3n, ↓q_ls4i, ↓q_ls4r, ↓q_ls4n, ↓q_ls5i, ↓q_ls5r, ↓q_ls5n, ↓q_ls6i, ↓q_ls6r, ↓q_ls6n, ↓q_ls7i, ↓q_ls7r, ↓q_ls7n, ↓q_ls8i, ↓q_ls8r, ↓q_ls8n, ↓q_ls9i, ↓q_ls9r, ↓q_ls9n, q_nd0, q_nd1i, q_nd1r, q_nd1n, q_nd2i, q_nd2r, q_nd2n, q_nd3i, q_nd3r, q_nd3n, q_nd4i, q_nd4r, q_nd4n, q_nd5i, q_nd5r, q_nd5n, q_nd6i, q_nd6r, q_nd6n, q_nd7i, q_nd7r, q_nd7n, q_nd8i, q_nd8r, q_nd8n, q_nd9i, q_nd9r, q_nd9n, q_st0, q_st1, q_st2, q_st3, q_st4, q_st5, q_st6, q_st7, q_st8, q_st9, q_cat_i, q_cat_r, q_cat_n, q_wt0, q_wt1, q_tl0, q_tl1, ↓q_cl1, q_add, q_sub, q_mul, q_nari, q_narb0, q_narb1, q_fiti, q_fitb0, q_fitb1, List.cons_append, List.nil_append, Nat.reduceAdd, Nat.reduceLeDiff, and_self, and_true, true_and, ↓reduceIte, r1, z48, z8, hs, q_so_of (show x_bj 6 78 = some 84 from rfl), q_rem hr0 hr (show (0 : Int) < 8 by omega) h8, q_eq hm h7]
    by_cases hz : c % 48 % 8 = 7
    · rw [if_neg (fun z => z hz), if_pos hz]
    · rw [if_pos hz, if_neg hz]
  · have hs : x_tsw 95 0 3 #[30, 46, 63, 78] (q_i (4 : Nat)) = some 95 := by decide
    have hv : q_bs c 4 = (c + 48) % 96 := rfl
    rw [hv]
    simp only [en816, e816_0, e816_1, e816_3, e816_4, e816_5, e816_6, e816_36, e816_37, e816_39, e816_40, e816_43, e816_44, e816_47, e816_48, e816_50, e816_51, e816_52, e816_53, e816_55, e816_56, e816_57, e816_60, e816_61, e816_64, e816_65, e816_67, e816_68, e816_69, e816_70, e816_72, e816_73, e816_76, e816_77, e816_80, e816_81, e816_82, e816_83, e816_84, e816_85, e816_87, e816_88, e816_90, e816_93, e816_94, e816_97, e816_98, e816_99, e816_100, e816_101, e816_102, e816_104, e816_105, e816_107, e816_108, ↓q_nv0, ↓q_nv1, ↓q_nv2, ↓q_nv3, ↓q_nv4, ↓q_nv5, ↓q_nv6, ↓q_nv7, ↓q_nv8, ↓q_nv9, ↓q_nv10, ↓q_nv11, ↓q_nv12, ↓q_nv13, ↓q_nv14, ↓q_nv15, ↓q_nv16, ↓q_nv17, ↓q_nv18, ↓q_nv19, ↓q_nv20, ↓q_nv21, ↓q_nv22, ↓q_gi0, ↓q_gi1, ↓q_gi2, ↓q_gi3, ↓q_gi4, ↓q_gi5, ↓q_gi6, ↓q_gi7, ↓q_gi8, ↓q_gi9, ↓q_gr0, ↓q_gr1, ↓q_gr2, ↓q_gr3, ↓q_gr4, ↓q_gr5, ↓q_gr6, ↓q_gr7, ↓q_gr8, ↓q_gr9, ↓q_ls0, ↓q_ls1i, ↓q_ls1r, ↓q_ls1n, ↓q_ls2i, ↓q_ls2r, ↓q_ls2n, ↓q_ls3i, ↓q_ls3r, ↓q_ls3n, ↓q_ls4i, ↓q_ls4r, ↓q_ls4n, ↓q_ls5i, ↓q_ls5r, ↓q_ls5n, ↓q_ls6i, ↓q_ls6r, ↓q_ls6n, ↓q_ls7i, ↓q_ls7r, ↓q_ls7n, ↓q_ls8i, ↓q_ls8r, ↓q_ls8n, ↓q_ls9i, ↓q_ls9r, ↓q_ls9n, q_nd0, q_nd1i, q_nd1r, q_nd1n, q_nd2i, q_nd2r, q_nd2n, q_nd3i, q_nd3r, q_nd3n, q_nd4i, q_nd4r, q_nd4n, q_nd5i, q_nd5r, q_nd5n, q_nd6i, q_nd6r, q_nd6n, q_nd7i, q_nd7r, q_nd7n, q_nd8i, q_nd8r, q_nd8n, q_nd9i, q_nd9r, q_nd9n, q_st0, q_st1, q_st2, q_st3, q_st4, q_st5, q_st6, q_st7, q_st8, q_st9, q_cat_i, q_cat_r, q_cat_n, q_wt0, q_wt1, q_tl0, q_tl1, ↓q_cl1, q_add, q_sub, q_mul, q_nari, q_narb0, q_narb1, q_fiti, q_fitb0, q_fitb1, List.cons_append, List.nil_append, Nat.reduceAdd, Nat.reduceLeDiff, and_self, and_true, true_and, ↓reduceIte, r1, z48, z96, hs, q_so_of (show x_bj 6 95 = some 101 from rfl), q_rem (show 0 ≤ c + 48 by omega) (show q_R (c + 48) by unfold q_R; omega) (show (0 : Int) < 96 by omega) h96]
