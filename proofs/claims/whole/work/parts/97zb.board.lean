/-- what the board's making leaves, but for its held row -/
def q_bo (b : Nat) (f : Nat → Int) : List x_E := [.inr (2, [.int (q_i 0), .int (q_i 0), .ref (b + 1), .ref (b + 2), .ref (b + 3), .ref (b + 4), .ref (b + 5), .ref (b + 6), .ref (b + 7), .ref (b + 8), .ref (b + 9), .ref (b + 10), .ref (b + 11)]), .inl (1, q_ar 6 fun _ => 0), .inl (1, q_ar 6 fun _ => 0), .inl (0, q_ar 6 fun _ => 0), .inl (0, q_ar 6 fun _ => 0), .inl (0, q_ar 6 fun _ => 0), .inl (0, q_ar 6 fun _ => 0), .inl (0, q_ar 6 fun _ => 0), .inl (0, q_ar 24 fun _ => 0), .inl (0, q_ar 96 f), .inl (1, q_ar 48 fun _ => 0), .inl (1, q_ar 48 fun _ => 0)]
section M97zb
variable {l r : List x_E} {n k : Nat} {s : List Int32}
theorem c0a (hl : l.length = n) (hn : n < 8000) : x_run 0 0 [.ref n, .null] [] (q_HT l [.inr (2, x_defs 2)] k s) = x_run 0 104 [.ref n, .int (q_i 0)] [] (q_HT l (q_bo n fun _ => 0) (k + 258) s) := by
  rw [xd2]
  simp (disch := first | assumption | omega | exact q_cref | (with_unfolding_all rfl) | decide) only [e0_0, e0_1, e0_4, e0_5, e0_6, e0_9, e0_10, e0_11, e0_14, e0_15, e0_17, e0_19, e0_22, e0_23, e0_25, e0_27, e0_30, e0_31, e0_33, e0_35, e0_38, e0_39, e0_41, e0_43, e0_46, e0_47, e0_49, e0_51, e0_54, e0_55, e0_57, e0_59, e0_62, e0_63, e0_65, e0_67, e0_70, e0_71, e0_73, e0_75, e0_78, e0_79, e0_81, e0_83, e0_86, e0_87, e0_89, e0_91, e0_94, e0_95, e0_97, e0_99, e0_102, e0_103, ↓q_nv0, ↓q_nv1, ↓q_nv2, ↓q_nv3, ↓q_nv4, ↓q_nv5, ↓q_nv6, ↓q_nv7, ↓q_nv8, ↓q_nv9, ↓q_nv10, ↓q_nv11, ↓q_nv12, ↓q_nv13, ↓q_nv14, ↓q_nv15, ↓q_nv16, ↓q_nv17, ↓q_nv18, ↓q_nv19, ↓q_nv20, ↓q_nv21, ↓q_nv22, ↓q_gi0, ↓q_gi1, ↓q_gi2, ↓q_gi3, ↓q_gi4, ↓q_gi5, ↓q_gi6, ↓q_gi7, ↓q_gi8, ↓q_gi9, ↓q_gr0, ↓q_gr1, ↓q_gr2, ↓q_gr3, ↓q_gr4, ↓q_gr5, ↓q_gr6, ↓q_gr7, ↓q_gr8, ↓q_gr9, ↓q_ls0, ↓q_ls1i, ↓q_ls1r, ↓q_ls1n, ↓q_ls2i, ↓q_ls2r, ↓q_ls2n, ↓q_ls3i, ↓q_ls3r, ↓q_ls3n, ↓q_ls4i, ↓q_ls4r, ↓q_ls4n, ↓q_ls5i, ↓q_ls5r, ↓q_ls5n, ↓q_ls6i, ↓q_ls6r, ↓q_ls6n, ↓q_ls7i, ↓q_ls7r, ↓q_ls7n, ↓q_ls8i, ↓q_ls8r, ↓q_ls8n, ↓q_ls9i, ↓q_ls9r, ↓q_ls9n, q_nd0, q_nd1i, q_nd1r, q_nd1n, q_nd2i, q_nd2r, q_nd2n, q_nd3i, q_nd3r, q_nd3n, q_nd4i, q_nd4r, q_nd4n, q_nd5i, q_nd5r, q_nd5n, q_nd6i, q_nd6r, q_nd6n, q_nd7i, q_nd7r, q_nd7n, q_nd8i, q_nd8r, q_nd8n, q_nd9i, q_nd9r, q_nd9n, q_st0, q_st1, q_st2, q_st3, q_st4, q_st5, q_st6, q_st7, q_st8, q_st9, q_cat_i, q_cat_r, q_cat_n, q_wt0, q_wt1, q_tl0, q_tl1, ↓q_cl1, q_add, q_sub, q_mul, q_nari, q_narb0, q_narb1, q_fiti, q_fitb0, q_fitb1, List.cons_append, List.nil_append, Nat.reduceAdd, Nat.reduceLeDiff, and_self, and_true, true_and, ↓reduceIte, show Int.toNat 6 = 6 from rfl, show Int.toNat 24 = 24 from rfl, show Int.toNat 48 = 48 from rfl, show Int.toNat 96 = 96 from rfl, hv_na, hv_pf, hl, fv2_2, fv2_3, fv2_4, fv2_5, fv2_6, fv2_7, fv2_8, fv2_9, fv2_10, fv2_11, fv2_12, fv3_0, fv3_1, fv3_2, fv4_0, fv5_0, fv5_1, fv5_2, fv7_0, fv7_1, fv7_2, fv7_3, fv7_4, fv7_5, fv7_10, fv7_11, fv8_0, fv9_0, fv9_1, fv9_2, fv9_3, fv9_4, fv9_5, fv9_6, fv10_0, fv10_1, fv10_2, fv10_3, fv10_11, fv10_14, fv10_16, fv10_17, fv10_18, fv10_21, fv2_0, fv2_1, fv4_1, fv5_3, fv5_4, fv6_0, fv6_1, fv6_2, fv6_3, fv7_6, fv7_7, fv7_8, fv7_12, fv7_13, fv7_14, fv8_1, fv9_7, fv10_13, fv5_5, fv7_9, if_true, List.set_cons_zero, List.set_cons_succ, List.length_cons, List.length_nil, Nat.reduceLT, Nat.reduceAdd, ↓reduceIte, q_ar0, List.nil_append, List.cons_append]
  rfl
theorem c0l (hl : l.length = n) {i : Nat} (hi : i < 96) : x_run 0 104 [.ref n, .int (q_i i)] [] (q_HT l (q_bo n fun j => if j < i then -1 else 0) k s) = x_run 0 104 [.ref n, .int (q_i (i + 1 : Nat))] [] (q_HT l (q_bo n fun j => if j < i + 1 then -1 else 0) k s) := by
  have hA : q_A (q_HT l (q_bo n fun j => if j < i then -1 else 0) k s) (n + 9) 0 96 (fun j => if j < i then -1 else 0) := by
    subst hl
    exact ⟨q_hf_at (j := 9) rfl, ht_lt (t := q_bo l.length _) (j := 9) rfl⟩
  have hw : q_wr (q_HT l (q_bo n fun j => if j < i then -1 else 0) k s) (n + 9) 0 96 (q_upd (fun j => if j < i then -1 else 0) i (-1)) = q_HT l (q_bo n fun j => if j < i + 1 then -1 else 0) k s := by
    have e : q_upd (fun j => if j < i then -1 else 0) i (-1) = fun j : Nat => if j < i + 1 then (-1 : Int) else 0 := by
      funext j
      unfold q_upd
      by_cases h1 : j = i
      · rw [if_pos h1, if_pos (by omega)]
      · rw [if_neg h1]
        try dsimp only
        by_cases h2 : j < i
        · rw [if_pos h2, if_pos (by omega)]
        · rw [if_neg h2, if_neg (by omega)]
    rw [e]
    subst hl
    exact ht_set (t := q_bo l.length _) (j := 9) rfl
  have hg : ∀ {F : Value → q_O}, q_gf (q_HT l (q_bo n fun j => if j < i then -1 else 0) k s) n 2 10 F = F (.ref (n + 9)) := fun {F} => hv_gf hl rfl
  have hwa : ∀ {F : x_H → q_O}, q_wa (q_HT l (q_bo n fun j => if j < i then -1 else 0) k s) (n + 9) 0 (q_i i) (q_i (-1)) F = F (q_HT l (q_bo n fun j => if j < i + 1 then -1 else 0) k s) := fun {F} => by
    rw [q_wa_of hA (by omega) (by omega) (by unfold q_R; omega), ← hw, Int.toNat_natCast]
  have hlt : ¬ (q_i 96 ≤ q_i (i : Int)) := by
    rw [q_le (by unfold q_R; omega) (by unfold q_R; omega)]
    omega
  rw [e0_104]
  simp (disch := first | assumption | omega | exact q_cref | (with_unfolding_all rfl) | decide) only [e0_105, e0_107, e0_110, e0_111, e0_114, e0_115, e0_116, e0_117, e0_120, ↓q_nv0, ↓q_nv1, ↓q_nv2, ↓q_nv3, ↓q_nv4, ↓q_nv5, ↓q_nv6, ↓q_nv7, ↓q_nv8, ↓q_nv9, ↓q_nv10, ↓q_nv11, ↓q_nv12, ↓q_nv13, ↓q_nv14, ↓q_nv15, ↓q_nv16, ↓q_nv17, ↓q_nv18, ↓q_nv19, ↓q_nv20, ↓q_nv21, ↓q_nv22, ↓q_gi0, ↓q_gi1, ↓q_gi2, ↓q_gi3, ↓q_gi4, ↓q_gi5, ↓q_gi6, ↓q_gi7, ↓q_gi8, ↓q_gi9, ↓q_gr0, ↓q_gr1, ↓q_gr2, ↓q_gr3, ↓q_gr4, ↓q_gr5, ↓q_gr6, ↓q_gr7, ↓q_gr8, ↓q_gr9, ↓q_ls0, ↓q_ls1i, ↓q_ls1r, ↓q_ls1n, ↓q_ls2i, ↓q_ls2r, ↓q_ls2n, ↓q_ls3i, ↓q_ls3r, ↓q_ls3n, ↓q_ls4i, ↓q_ls4r, ↓q_ls4n, ↓q_ls5i, ↓q_ls5r, ↓q_ls5n, ↓q_ls6i, ↓q_ls6r, ↓q_ls6n, ↓q_ls7i, ↓q_ls7r, ↓q_ls7n, ↓q_ls8i, ↓q_ls8r, ↓q_ls8n, ↓q_ls9i, ↓q_ls9r, ↓q_ls9n, q_nd0, q_nd1i, q_nd1r, q_nd1n, q_nd2i, q_nd2r, q_nd2n, q_nd3i, q_nd3r, q_nd3n, q_nd4i, q_nd4r, q_nd4n, q_nd5i, q_nd5r, q_nd5n, q_nd6i, q_nd6r, q_nd6n, q_nd7i, q_nd7r, q_nd7n, q_nd8i, q_nd8r, q_nd8n, q_nd9i, q_nd9r, q_nd9n, q_st0, q_st1, q_st2, q_st3, q_st4, q_st5, q_st6, q_st7, q_st8, q_st9, q_cat_i, q_cat_r, q_cat_n, q_wt0, q_wt1, q_tl0, q_tl1, ↓q_cl1, q_add, q_sub, q_mul, q_nari, q_narb0, q_narb1, q_fiti, q_fitb0, q_fitb1, List.cons_append, List.nil_append, Nat.reduceAdd, Nat.reduceLeDiff, and_self, and_true, true_and, ↓reduceIte, hg, hwa, hlt, if_false, not_true_eq_false, not_false_eq_true, if_true, if_false, q_add]
  rfl
theorem c0 (hl : l.length = n) (hn : n < 8000) : x_m 0 [.ref n] (q_HT l [.inr (2, x_defs 2)] k s) = some (.inl none, q_HT l (q_bo n fun _ => -1) (k + 258) s) := by
  have e : x_run 0 104 [.ref n, .int (q_i 96)] [] (q_HT l (q_bo n fun _ => -1) (k + 258) s) = some (.inl none, q_HT l (q_bo n fun _ => -1) (k + 258) s) := by
    have h9 : q_i 96 ≤ q_i 96 := by decide
    simp (disch := first | assumption | omega | exact q_cref | (with_unfolding_all rfl) | decide) only [e0_104, e0_105, e0_107, e0_123, ↓q_nv0, ↓q_nv1, ↓q_nv2, ↓q_nv3, ↓q_nv4, ↓q_nv5, ↓q_nv6, ↓q_nv7, ↓q_nv8, ↓q_nv9, ↓q_nv10, ↓q_nv11, ↓q_nv12, ↓q_nv13, ↓q_nv14, ↓q_nv15, ↓q_nv16, ↓q_nv17, ↓q_nv18, ↓q_nv19, ↓q_nv20, ↓q_nv21, ↓q_nv22, ↓q_gi0, ↓q_gi1, ↓q_gi2, ↓q_gi3, ↓q_gi4, ↓q_gi5, ↓q_gi6, ↓q_gi7, ↓q_gi8, ↓q_gi9, ↓q_gr0, ↓q_gr1, ↓q_gr2, ↓q_gr3, ↓q_gr4, ↓q_gr5, ↓q_gr6, ↓q_gr7, ↓q_gr8, ↓q_gr9, ↓q_ls0, ↓q_ls1i, ↓q_ls1r, ↓q_ls1n, ↓q_ls2i, ↓q_ls2r, ↓q_ls2n, ↓q_ls3i, ↓q_ls3r, ↓q_ls3n, ↓q_ls4i, ↓q_ls4r, ↓q_ls4n, ↓q_ls5i, ↓q_ls5r, ↓q_ls5n, ↓q_ls6i, ↓q_ls6r, ↓q_ls6n, ↓q_ls7i, ↓q_ls7r, ↓q_ls7n, ↓q_ls8i, ↓q_ls8r, ↓q_ls8n, ↓q_ls9i, ↓q_ls9r, ↓q_ls9n, q_nd0, q_nd1i, q_nd1r, q_nd1n, q_nd2i, q_nd2r, q_nd2n, q_nd3i, q_nd3r, q_nd3n, q_nd4i, q_nd4r, q_nd4n, q_nd5i, q_nd5r, q_nd5n, q_nd6i, q_nd6r, q_nd6n, q_nd7i, q_nd7r, q_nd7n, q_nd8i, q_nd8r, q_nd8n, q_nd9i, q_nd9r, q_nd9n, q_st0, q_st1, q_st2, q_st3, q_st4, q_st5, q_st6, q_st7, q_st8, q_st9, q_cat_i, q_cat_r, q_cat_n, q_wt0, q_wt1, q_tl0, q_tl1, ↓q_cl1, q_add, q_sub, q_mul, q_nari, q_narb0, q_narb1, q_fiti, q_fitb0, q_fitb1, List.cons_append, List.nil_append, Nat.reduceAdd, Nat.reduceLeDiff, and_self, and_true, true_and, ↓reduceIte, h9, if_true]
  have hl2 := q_for (M := 0) (pc := 104) (n := 96) (fun i => [.ref n, .int (q_i i)]) (fun i => q_HT l (q_bo n fun j => if j < i then -1 else 0) (k + 258) s) (fun i hi => c0l hl hi)
  rw [show (q_bo n fun j => if j < 0 then -1 else 0) = q_bo n fun _ => 0 from rfl, show (q_bo n fun j => if j < 96 then -1 else 0) = q_bo n fun _ => -1 from by
    unfold q_bo
    rw [show (q_ar 96 fun j => if j < 96 then -1 else 0) = q_ar 96 fun _ => -1 from q_ar_ext fun i hi => if_pos hi]] at hl2
  have e2 := c0a (k := k) (s := s) hl hn
  rw [en0]
  exact e2.trans (hl2.trans e)
end M97zb
