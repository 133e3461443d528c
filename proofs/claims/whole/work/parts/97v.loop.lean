theorem q_and63 (x : Int32) : ∃ w : Nat, w < 64 ∧ x &&& q_i 63 = q_i (w : Int) := by
  refine ⟨(x &&& q_i 63).toBitVec.toNat, ?_, ?_⟩
  · show (x.toBitVec &&& 63#32).toNat < 64
    rw [BitVec.toNat_and]
    exact Nat.lt_of_le_of_lt Nat.and_le_right (by decide)
  · generalize x &&& q_i 63 = u
    apply Int32.toBitVec_inj.mp
    show u.toBitVec = BitVec.ofInt 32 (u.toBitVec.toNat : Int)
    simp
section M97v
variable {m : Nat → Nat → Int} {K : Nat × Nat} {f : Nat → Int} {L : Nat}
/-- one turn of the law's loop, when meanCost's case is given -/
theorem q_step {i : Nat} (h27 : ∀ (m : Nat → Nat → Int) (K : Nat × Nat), q_Iv m → 162 ≤ K.1 → q_turn m K f L i 1780) (hI : q_Iv m) (hK : 162 ≤ K.1) (hL : L < 3000) (hi : i + 5 ≤ L) (hf : ∀ j, q_R (f j)) (z6 z7 z8 z9 : Value) : ∃ (z6' z7' z8' z9' : Value) (m' : Nat → Nat → Int) (K' : Nat × Nat), x_run 928 28 [.ref 10000, .ref 0, .ref 149, .ref 160, .ref 161, .int (q_i i), z6, z7, z8, z9] [] (q_H m K (q_ar L f)) = x_run 928 28 [.ref 10000, .ref 0, .ref 149, .ref 160, .ref 161, .int (q_i (i + 5 : Nat)), z6', z7', z8', z9'] [] (q_H m' K' (q_ar L f)) ∧ q_Iv m' ∧ K.1 ≤ K'.1 ∧ K'.1 ≤ K.1 + 1 ∧ K.2 ≤ K'.2 ∧ K'.2 ≤ K.2 + 6 := by
  obtain ⟨w, hw, hx⟩ := q_and63 (q_i (f i))
  have k0 : ((i : Int)).toNat = i := rfl
  have key : x_run 928 28 [.ref 10000, .ref 0, .ref 149, .ref 160, .ref 161, .int (q_i i), z6, z7, z8, z9] [] (q_H m K (q_ar L f)) = x_run 928 44 [.ref 10000, .ref 0, .ref 149, .ref 160, .ref 161, .int (q_i i), z6, z7, z8, z9] [.int (q_i w)] (q_H m K (q_ar L f)) := by
    rw [e928_28]
    simp (disch := first | rfl | assumption | decide | omega | (unfold q_R; omega)) only [e928_30, e928_31, e928_32, e928_33, e928_34, e928_37, e928_38, e928_40, e928_41, e928_43, ↓q_nv0, ↓q_nv1, ↓q_nv2, ↓q_nv3, ↓q_nv4, ↓q_nv5, ↓q_nv6, ↓q_nv7, ↓q_nv8, ↓q_nv9, ↓q_nv10, ↓q_nv11, ↓q_nv12, ↓q_nv13, ↓q_nv14, ↓q_nv15, ↓q_nv16, ↓q_nv17, ↓q_nv18, ↓q_nv19, ↓q_nv20, ↓q_nv21, ↓q_nv22, ↓q_gi0, ↓q_gi1, ↓q_gi2, ↓q_gi3, ↓q_gi4, ↓q_gi5, ↓q_gi6, ↓q_gi7, ↓q_gi8, ↓q_gi9, ↓q_gr0, ↓q_gr1, ↓q_gr2, ↓q_gr3, ↓q_gr4, ↓q_gr5, ↓q_gr6, ↓q_gr7, ↓q_gr8, ↓q_gr9, ↓q_ls0, ↓q_ls1i, ↓q_ls1r, ↓q_ls1n, ↓q_ls2i, ↓q_ls2r, ↓q_ls2n, ↓q_ls3i, ↓q_ls3r, ↓q_ls3n, ↓q_ls4i, ↓q_ls4r, ↓q_ls4n, ↓q_ls5i, ↓q_ls5r, ↓q_ls5n, ↓q_ls6i, ↓q_ls6r, ↓q_ls6n, ↓q_ls7i, ↓q_ls7r, ↓q_ls7n, ↓q_ls8i, ↓q_ls8r, ↓q_ls8n, ↓q_ls9i, ↓q_ls9r, ↓q_ls9n, q_nd0, q_nd1i, q_nd1r, q_nd1n, q_nd2i, q_nd2r, q_nd2n, q_nd3i, q_nd3r, q_nd3n, q_nd4i, q_nd4r, q_nd4n, q_nd5i, q_nd5r, q_nd5n, q_nd6i, q_nd6r, q_nd6n, q_nd7i, q_nd7r, q_nd7n, q_nd8i, q_nd8r, q_nd8n, q_nd9i, q_nd9r, q_nd9n, q_st0, q_st1, q_st2, q_st3, q_st4, q_st5, q_st6, q_st7, q_st8, q_st9, q_cat_i, q_cat_r, q_cat_n, q_wt0, q_wt1, q_tl0, q_tl1, ↓q_cl1, q_add, q_sub, q_mul, q_nari, q_narb0, q_narb1, q_fiti, q_fitb0, q_fitb1, List.cons_append, List.nil_append, Nat.reduceAdd, Nat.reduceLeDiff, and_self, and_true, true_and, ↓reduceIte, q_M_s, q_M_k, q_M_a, q_P_s, q_P_a, q_toN, q_i00, q_i10, q_j00, q_j10, ln_scr, ra_scr, q_lt, show ¬ (L : Int) - 5 < (i : Int) by omega, not_true_eq_false, not_false_eq_true, if_true, if_false, k0, hx]
  have tail : ∀ (y6 y7 y8 y9 : Value) (h : x_H), x_run 928 2044 [.ref 10000, .ref 0, .ref 149, .ref 160, .ref 161, .int (q_i i), y6, y7, y8, y9] [] h = x_run 928 28 [.ref 10000, .ref 0, .ref 149, .ref 160, .ref 161, .int (q_i (i + 5 : Nat)), y6, y7, y8, y9] [] h := fun y6 y7 y8 y9 h => by
    rw [e928_2044]
    simp (disch := first | rfl | assumption | decide | omega | (unfold q_R; omega)) only [e928_2047, ↓q_nv0, ↓q_nv1, ↓q_nv2, ↓q_nv3, ↓q_nv4, ↓q_nv5, ↓q_nv6, ↓q_nv7, ↓q_nv8, ↓q_nv9, ↓q_nv10, ↓q_nv11, ↓q_nv12, ↓q_nv13, ↓q_nv14, ↓q_nv15, ↓q_nv16, ↓q_nv17, ↓q_nv18, ↓q_nv19, ↓q_nv20, ↓q_nv21, ↓q_nv22, ↓q_gi0, ↓q_gi1, ↓q_gi2, ↓q_gi3, ↓q_gi4, ↓q_gi5, ↓q_gi6, ↓q_gi7, ↓q_gi8, ↓q_gi9, ↓q_gr0, ↓q_gr1, ↓q_gr2, ↓q_gr3, ↓q_gr4, ↓q_gr5, ↓q_gr6, ↓q_gr7, ↓q_gr8, ↓q_gr9, ↓q_ls0, ↓q_ls1i, ↓q_ls1r, ↓q_ls1n, ↓q_ls2i, ↓q_ls2r, ↓q_ls2n, ↓q_ls3i, ↓q_ls3r, ↓q_ls3n, ↓q_ls4i, ↓q_ls4r, ↓q_ls4n, ↓q_ls5i, ↓q_ls5r, ↓q_ls5n, ↓q_ls6i, ↓q_ls6r, ↓q_ls6n, ↓q_ls7i, ↓q_ls7r, ↓q_ls7n, ↓q_ls8i, ↓q_ls8r, ↓q_ls8n, ↓q_ls9i, ↓q_ls9r, ↓q_ls9n, q_nd0, q_nd1i, q_nd1r, q_nd1n, q_nd2i, q_nd2r, q_nd2n, q_nd3i, q_nd3r, q_nd3n, q_nd4i, q_nd4r, q_nd4n, q_nd5i, q_nd5r, q_nd5n, q_nd6i, q_nd6r, q_nd6n, q_nd7i, q_nd7r, q_nd7n, q_nd8i, q_nd8r, q_nd8n, q_nd9i, q_nd9r, q_nd9n, q_st0, q_st1, q_st2, q_st3, q_st4, q_st5, q_st6, q_st7, q_st8, q_st9, q_cat_i, q_cat_r, q_cat_n, q_wt0, q_wt1, q_tl0, q_tl1, ↓q_cl1, q_add, q_sub, q_mul, q_nari, q_narb0, q_narb1, q_fiti, q_fitb0, q_fitb1, List.cons_append, List.nil_append, Nat.reduceAdd, Nat.reduceLeDiff, and_self, and_true, true_and, ↓reduceIte, q_M_s, q_M_k, q_M_a, q_P_s, q_P_a, q_toN, q_i00, q_i10, q_j00, q_j10, not_true_eq_false, not_false_eq_true, if_true, if_false]
    rfl
  have fin : ∀ pc, q_turn m K f L i pc → x_run 928 44 [.ref 10000, .ref 0, .ref 149, .ref 160, .ref 161, .int (q_i i), z6, z7, z8, z9] [.int (q_i w)] (q_H m K (q_ar L f)) = x_run 928 pc [.ref 10000, .ref 0, .ref 149, .ref 160, .ref 161, .int (q_i i), z6, z7, z8, z9] [] (q_H m K (q_ar L f)) → ∃ (z6' z7' z8' z9' : Value) (m' : Nat → Nat → Int) (K' : Nat × Nat), x_run 928 28 [.ref 10000, .ref 0, .ref 149, .ref 160, .ref 161, .int (q_i i), z6, z7, z8, z9] [] (q_H m K (q_ar L f)) = x_run 928 28 [.ref 10000, .ref 0, .ref 149, .ref 160, .ref 161, .int (q_i (i + 5 : Nat)), z6', z7', z8', z9'] [] (q_H m' K' (q_ar L f)) ∧ q_Iv m' ∧ K.1 ≤ K'.1 ∧ K'.1 ≤ K.1 + 1 ∧ K.2 ≤ K'.2 ∧ K'.2 ≤ K.2 + 6 := fun pc ht he => by
    obtain ⟨a, b, c, d, m', K', e, r⟩ := ht z6 z7 z8 z9
    exact ⟨a, b, c, d, m', K', (key.trans he).trans (e.trans (tail a b c d _)), r⟩
  by_cases h32 : w ≤ 32
  · rcases (show w = 0 ∨ w = 1 ∨ w = 2 ∨ w = 3 ∨ w = 4 ∨ w = 5 ∨ w = 6 ∨ w = 7 ∨ w = 8 ∨ w = 9 ∨ w = 10 ∨ w = 11 ∨ w = 12 ∨ w = 13 ∨ w = 14 ∨ w = 15 ∨ w = 16 ∨ w = 17 ∨ w = 18 ∨ w = 19 ∨ w = 20 ∨ w = 21 ∨ w = 22 ∨ w = 23 ∨ w = 24 ∨ w = 25 ∨ w = 26 ∨ w = 27 ∨ w = 28 ∨ w = 29 ∨ w = 30 ∨ w = 31 ∨ w = 32 by omega) with rfl | rfl | rfl | rfl | rfl | rfl | rfl | rfl | rfl | rfl | rfl | rfl | rfl | rfl | rfl | rfl | rfl | rfl | rfl | rfl | rfl | rfl | rfl | rfl | rfl | rfl | rfl | rfl | rfl | rfl | rfl | rfl | rfl
    · exact fin _ (case0 hI hK hL hi hf) ts928_44_0
    · exact fin _ (case1 hI hK hL hi hf) ts928_44_1
    · exact fin _ (case2 hI hK hL hi hf) ts928_44_2
    · exact fin _ (case3 hI hK hL hi hf) ts928_44_3
    · exact fin _ (case4 hI hK hL hi hf) ts928_44_4
    · exact fin _ (case5 hI hK hL hi hf) ts928_44_5
    · exact fin _ (case6 hI hK hL hi hf) ts928_44_6
    · exact fin _ (case7 hI hK hL hi hf) ts928_44_7
    · exact fin _ (case8 hI hK hL hi hf) ts928_44_8
    · exact fin _ (case9 hI hK hL hi hf) ts928_44_9
    · exact fin _ (case10 hI hK hL hi hf) ts928_44_10
    · exact fin _ (case11 hI hK hL hi hf) ts928_44_11
    · exact fin _ (case12 hI hK hL hi hf) ts928_44_12
    · exact fin _ (case13 hI hK hL hi hf) ts928_44_13
    · exact fin _ (case14 hI hK hL hi hf) ts928_44_14
    · exact fin _ (case15 hI hK hL hi hf) ts928_44_15
    · exact fin _ (case16 hI hK hL hi hf) ts928_44_16
    · exact fin _ (case17 hI hi) ts928_44_17
    · exact fin _ (case18 hI hi) ts928_44_18
    · exact fin _ (case19 hI hK hL hi hf) ts928_44_19
    · exact fin _ (case20 hI hK hL hi hf) ts928_44_20
    · exact fin _ (case21 hI hK hL hi hf) ts928_44_21
    · exact fin _ (case22 hI hK hL hi hf) ts928_44_22
    · exact fin _ (case23 hI hi) ts928_44_23
    · exact fin _ (case24 hI hK hL hi hf) ts928_44_24
    · exact fin _ (case25 hI hK hL hi hf) ts928_44_25
    · exact fin _ (case26 hI hK hL hi hf) ts928_44_26
    · exact fin _ (h27 m K hI hK) ts928_44_27
    · exact fin _ (case28 hI hi) ts928_44_28
    · exact fin _ (case29 hI hK hL hi hf) ts928_44_29
    · exact fin _ (case30 hI hK hL hi hf) ts928_44_30
    · exact fin _ (case31 hI hi) ts928_44_31
    · exact fin _ (case32 hI hK hL hi hf) ts928_44_32
  · exact ⟨z6, z7, z8, z9, m, K, (key.trans (ts928_44_d (by unfold q_R; omega) (Or.inr (by omega)))).trans (tail z6 z7 z8 z9 _), hI, by omega, by omega, by omega, by omega⟩
end M97v
