theorem q_cref {a : Nat} : (Value.ref a).category = 1 := rfl
def q_als (h : x_H) (e : x_E) (n : Nat) (F : Nat → x_H → q_O) : q_O := q_al2 h e n F
def q_nas (h : x_H) (n : Int32) (e : Nat → x_E) (F : Nat → x_H → q_O) : q_O := q_na h n e F
theorem q_some_len {vs : List Value} {i : Nat} (h : (vs[i]?).isSome = true) : i < vs.length := by
  by_cases z : i < vs.length
  · exact z
  · rw [List.getElem?_eq_none (by omega)] at h
    cases h
section M97za
variable {l r : List x_E} {n k ci i c : Nat} {s : List Int32} {vs : List Value} {v : Value} {o e : x_E}
theorem q_fvr {ty : FieldType} {v : Value} (h1 : narrow ty v = v) (h2 : fits ty v = true) : x_fit ty v = true := by
  unfold x_fit
  rw [decide_eq_true h1, h2]
  rfl
theorem fv2_2 {a : Nat} : x_fit (x_ty 2 2) (.ref a) = true := q_fvr rfl rfl
theorem fv2_3 {a : Nat} : x_fit (x_ty 2 3) (.ref a) = true := q_fvr rfl rfl
theorem fv2_4 {a : Nat} : x_fit (x_ty 2 4) (.ref a) = true := q_fvr rfl rfl
theorem fv2_5 {a : Nat} : x_fit (x_ty 2 5) (.ref a) = true := q_fvr rfl rfl
theorem fv2_6 {a : Nat} : x_fit (x_ty 2 6) (.ref a) = true := q_fvr rfl rfl
theorem fv2_7 {a : Nat} : x_fit (x_ty 2 7) (.ref a) = true := q_fvr rfl rfl
theorem fv2_8 {a : Nat} : x_fit (x_ty 2 8) (.ref a) = true := q_fvr rfl rfl
theorem fv2_9 {a : Nat} : x_fit (x_ty 2 9) (.ref a) = true := q_fvr rfl rfl
theorem fv2_10 {a : Nat} : x_fit (x_ty 2 10) (.ref a) = true := q_fvr rfl rfl
theorem fv2_11 {a : Nat} : x_fit (x_ty 2 11) (.ref a) = true := q_fvr rfl rfl
theorem fv2_12 {a : Nat} : x_fit (x_ty 2 12) (.ref a) = true := q_fvr rfl rfl
theorem fv3_0 {a : Nat} : x_fit (x_ty 3 0) (.ref a) = true := q_fvr rfl rfl
theorem fv3_1 {a : Nat} : x_fit (x_ty 3 1) (.ref a) = true := q_fvr rfl rfl
theorem fv3_2 {a : Nat} : x_fit (x_ty 3 2) (.ref a) = true := q_fvr rfl rfl
theorem fv4_0 {a : Nat} : x_fit (x_ty 4 0) (.ref a) = true := q_fvr rfl rfl
theorem fv5_0 {a : Nat} : x_fit (x_ty 5 0) (.ref a) = true := q_fvr rfl rfl
theorem fv5_1 {a : Nat} : x_fit (x_ty 5 1) (.ref a) = true := q_fvr rfl rfl
theorem fv5_2 {a : Nat} : x_fit (x_ty 5 2) (.ref a) = true := q_fvr rfl rfl
theorem fv7_0 {a : Nat} : x_fit (x_ty 7 0) (.ref a) = true := q_fvr rfl rfl
theorem fv7_1 {a : Nat} : x_fit (x_ty 7 1) (.ref a) = true := q_fvr rfl rfl
theorem fv7_2 {a : Nat} : x_fit (x_ty 7 2) (.ref a) = true := q_fvr rfl rfl
theorem fv7_3 {a : Nat} : x_fit (x_ty 7 3) (.ref a) = true := q_fvr rfl rfl
theorem fv7_4 {a : Nat} : x_fit (x_ty 7 4) (.ref a) = true := q_fvr rfl rfl
theorem fv7_5 {a : Nat} : x_fit (x_ty 7 5) (.ref a) = true := q_fvr rfl rfl
theorem fv7_10 {a : Nat} : x_fit (x_ty 7 10) (.ref a) = true := q_fvr rfl rfl
theorem fv7_11 {a : Nat} : x_fit (x_ty 7 11) (.ref a) = true := q_fvr rfl rfl
theorem fv8_0 {a : Nat} : x_fit (x_ty 8 0) (.ref a) = true := q_fvr rfl rfl
theorem fv9_0 {a : Nat} : x_fit (x_ty 9 0) (.ref a) = true := q_fvr rfl rfl
theorem fv9_1 {a : Nat} : x_fit (x_ty 9 1) (.ref a) = true := q_fvr rfl rfl
theorem fv9_2 {a : Nat} : x_fit (x_ty 9 2) (.ref a) = true := q_fvr rfl rfl
theorem fv9_3 {a : Nat} : x_fit (x_ty 9 3) (.ref a) = true := q_fvr rfl rfl
theorem fv9_4 {a : Nat} : x_fit (x_ty 9 4) (.ref a) = true := q_fvr rfl rfl
theorem fv9_5 {a : Nat} : x_fit (x_ty 9 5) (.ref a) = true := q_fvr rfl rfl
theorem fv9_6 {a : Nat} : x_fit (x_ty 9 6) (.ref a) = true := q_fvr rfl rfl
theorem fv10_0 {a : Nat} : x_fit (x_ty 10 0) (.ref a) = true := q_fvr rfl rfl
theorem fv10_1 {a : Nat} : x_fit (x_ty 10 1) (.ref a) = true := q_fvr rfl rfl
theorem fv10_2 {a : Nat} : x_fit (x_ty 10 2) (.ref a) = true := q_fvr rfl rfl
theorem fv10_3 {a : Nat} : x_fit (x_ty 10 3) (.ref a) = true := q_fvr rfl rfl
theorem fv10_11 {a : Nat} : x_fit (x_ty 10 11) (.ref a) = true := q_fvr rfl rfl
theorem fv10_14 {a : Nat} : x_fit (x_ty 10 14) (.ref a) = true := q_fvr rfl rfl
theorem fv10_16 {a : Nat} : x_fit (x_ty 10 16) (.ref a) = true := q_fvr rfl rfl
theorem fv10_17 {a : Nat} : x_fit (x_ty 10 17) (.ref a) = true := q_fvr rfl rfl
theorem fv10_18 {a : Nat} : x_fit (x_ty 10 18) (.ref a) = true := q_fvr rfl rfl
theorem fv10_21 {a : Nat} : x_fit (x_ty 10 21) (.ref a) = true := q_fvr rfl rfl
theorem fv2_0 {x : Int32} : x_fit (x_ty 2 0) (.int x) = true := q_fiti
theorem fv2_1 {x : Int32} : x_fit (x_ty 2 1) (.int x) = true := q_fiti
theorem fv4_1 {x : Int32} : x_fit (x_ty 4 1) (.int x) = true := q_fiti
theorem fv5_3 {x : Int32} : x_fit (x_ty 5 3) (.int x) = true := q_fiti
theorem fv5_4 {x : Int32} : x_fit (x_ty 5 4) (.int x) = true := q_fiti
theorem fv6_0 {x : Int32} : x_fit (x_ty 6 0) (.int x) = true := q_fiti
theorem fv6_1 {x : Int32} : x_fit (x_ty 6 1) (.int x) = true := q_fiti
theorem fv6_2 {x : Int32} : x_fit (x_ty 6 2) (.int x) = true := q_fiti
theorem fv6_3 {x : Int32} : x_fit (x_ty 6 3) (.int x) = true := q_fiti
theorem fv7_6 {x : Int32} : x_fit (x_ty 7 6) (.int x) = true := q_fiti
theorem fv7_7 {x : Int32} : x_fit (x_ty 7 7) (.int x) = true := q_fiti
theorem fv7_8 {x : Int32} : x_fit (x_ty 7 8) (.int x) = true := q_fiti
theorem fv7_12 {x : Int32} : x_fit (x_ty 7 12) (.int x) = true := q_fiti
theorem fv7_13 {x : Int32} : x_fit (x_ty 7 13) (.int x) = true := q_fiti
theorem fv7_14 {x : Int32} : x_fit (x_ty 7 14) (.int x) = true := q_fiti
theorem fv8_1 {x : Int32} : x_fit (x_ty 8 1) (.int x) = true := q_fiti
theorem fv9_7 {x : Int32} : x_fit (x_ty 9 7) (.int x) = true := q_fiti
theorem fv10_13 {x : Int32} : x_fit (x_ty 10 13) (.int x) = true := q_fiti
theorem fv5_5 : x_fit (x_ty 5 5) (.int (q_i 0)) = true := q_fitb0
theorem fv7_9 : x_fit (x_ty 7 9) (.int (q_i 0)) = true := q_fitb0
theorem xd2 : x_defs 2 = [.int (q_i 0), .int (q_i 0), .null, .null, .null, .null, .null, .null, .null, .null, .null, .null, .null] := rfl
theorem xd3 : x_defs 3 = [.null, .null, .null] := rfl
theorem xd4 : x_defs 4 = [.null, .int (q_i 0)] := rfl
theorem xd6 : x_defs 6 = [.int (q_i 0), .int (q_i 0), .int (q_i 0), .int (q_i 0)] := rfl
theorem xd8 : x_defs 8 = [.null, .int (q_i 0)] := rfl
theorem xd5 : x_defs 5 = [.null, .null, .null, .int (q_i 0), .int (q_i 0), .int (q_i 0)] := rfl
theorem xd7 : x_defs 7 = [.null, .null, .null, .null, .null, .null, .int (q_i 0), .int (q_i 0), .int (q_i 0), .int (q_i 0), .null, .null, .int (q_i 0), .int (q_i 0), .int (q_i 0)] := rfl
theorem xd9 : x_defs 9 = [.null, .null, .null, .null, .null, .null, .null, .int (q_i 0)] := rfl
theorem xd10 : x_defs 10 = [.null, .null, .null, .null, .int (q_i 0), .int (q_i 0), .int (q_i 0), .int (q_i 0), .int (q_i 0), .int (q_i 0), .int (q_i 0), .null, .int (q_i 0), .int (q_i 0), .null, .int (q_i 0), .null, .null, .null, .int (q_i 0), .int (q_i 0), .null, .int (q_i 0)] := rfl
theorem q_ar0 {n : Nat} : List.replicate n (0 : Int32) = q_ar n (fun _ => 0) := by
  unfold q_ar
  rw [List.map_const', List.length_range]
  rfl
theorem hv_pf {F : x_H → q_O} (hl : l.length = n) : q_pf (q_HT l (.inr (ci, vs) :: r) k s) n ci i v F = if i < vs.length then F (q_HT l (.inr (ci, vs.set i v) :: r) k s) else none := by
  subst hl
  by_cases h : i < vs.length
  · rw [if_pos h]
    exact ht_pf (j := 0) rfl h
  · rw [if_neg h]
    unfold q_pf
    rw [show (q_HT l (.inr (ci, vs) :: r) k s).1 l.length = .inr (ci, vs) from q_hf_at (j := 0) rfl]
    try dsimp only
    exact if_neg fun h2 => h h2.2.2
theorem hv_gf {F : Value → q_O} (hl : l.length = n) (hi : vs[i]? = some v) : q_gf (q_HT l (.inr (ci, vs) :: r) k s) n ci i F = F v := by
  subst hl
  exact ht_gf (j := 0) rfl hi
theorem hv_rcv (hl : l.length = n) : q_rcv (q_HT l (.inr (ci, vs) :: r) k s) n ci = true := by
  subst hl
  exact ht_rcv (j := 0) rfl
theorem hw_al {F : Nat → x_H → q_O} (hl : l.length < 8000) (hr : r.length < 500) : q_al2 (q_HT l (o :: r) k s) e c F = F (l.length + (r.length + 1)) (q_HT l (o :: (r ++ [e])) (k + c) s) := by
  rw [ht_al (by rw [List.length_append, List.length_cons]; omega), List.length_append, List.length_cons]
  rfl
theorem hw_na {e : Nat → x_E} {z : Int} {F : Nat → x_H → q_O} (hl : l.length < 8000) (hr : r.length < 500) (h0 : 0 ≤ z) (h1 : z < 2000) : q_na (q_HT l (o :: r) k s) (q_i z) e F = F (l.length + (r.length + 1)) (q_HT l (o :: (r ++ [e z.toNat])) (k + z.toNat) s) := by
  obtain ⟨n, rfl⟩ : ∃ n : Nat, z = n := ⟨z.toNat, by omega⟩
  rw [ht_na (by rw [List.length_append, List.length_cons]; omega) (by omega), List.length_append, List.length_cons]
  rfl
theorem hv_al {F : Nat → x_H → q_O} (hl : l.length < 8000) : q_al2 (q_HT l (o :: r) k s) e c F = if r.length < 500 then F (l.length + (r.length + 1)) (q_HT l (o :: (r ++ [e])) (k + c) s) else q_als (q_HT l (o :: r) k s) e c F := by
  by_cases h : r.length < 500
  · rw [if_pos h]
    exact hw_al hl h
  · rw [if_neg h]
    rfl
theorem hv_na {e : Nat → x_E} {z : Int} {F : Nat → x_H → q_O} (hl : l.length < 8000) (h0 : 0 ≤ z) (h1 : z < 2000) : q_na (q_HT l (o :: r) k s) (q_i z) e F = if r.length < 500 then F (l.length + (r.length + 1)) (q_HT l (o :: (r ++ [e z.toNat])) (k + z.toNat) s) else q_nas (q_HT l (o :: r) k s) (q_i z) e F := by
  by_cases h : r.length < 500
  · rw [if_pos h]
    exact hw_na hl h h0 h1
  · rw [if_neg h]
    rfl
theorem c400 (hl : l.length = n) : x_m 400 [.ref n] (q_HT l [.inr (6, x_defs 6)] k s) = some (.inl none, q_HT l [.inr (6, x_defs 6)] k s) := by
  rw [xd6]
  simp (disch := first | assumption | omega | exact q_cref | (with_unfolding_all rfl) | decide) only [en400, e400_0, e400_1, e400_4, e400_5, e400_6, e400_9, e400_10, e400_11, e400_14, e400_15, e400_16, e400_19, e400_20, e400_21, e400_24, ↓q_nv0, ↓q_nv1, ↓q_nv2, ↓q_nv3, ↓q_nv4, ↓q_nv5, ↓q_nv6, ↓q_nv7, ↓q_nv8, ↓q_nv9, ↓q_nv10, ↓q_nv11, ↓q_nv12, ↓q_nv13, ↓q_nv14, ↓q_nv15, ↓q_nv16, ↓q_nv17, ↓q_nv18, ↓q_nv19, ↓q_nv20, ↓q_nv21, ↓q_nv22, ↓q_gi0, ↓q_gi1, ↓q_gi2, ↓q_gi3, ↓q_gi4, ↓q_gi5, ↓q_gi6, ↓q_gi7, ↓q_gi8, ↓q_gi9, ↓q_gr0, ↓q_gr1, ↓q_gr2, ↓q_gr3, ↓q_gr4, ↓q_gr5, ↓q_gr6, ↓q_gr7, ↓q_gr8, ↓q_gr9, ↓q_ls0, ↓q_ls1i, ↓q_ls1r, ↓q_ls1n, ↓q_ls2i, ↓q_ls2r, ↓q_ls2n, ↓q_ls3i, ↓q_ls3r, ↓q_ls3n, ↓q_ls4i, ↓q_ls4r, ↓q_ls4n, ↓q_ls5i, ↓q_ls5r, ↓q_ls5n, ↓q_ls6i, ↓q_ls6r, ↓q_ls6n, ↓q_ls7i, ↓q_ls7r, ↓q_ls7n, ↓q_ls8i, ↓q_ls8r, ↓q_ls8n, ↓q_ls9i, ↓q_ls9r, ↓q_ls9n, q_nd0, q_nd1i, q_nd1r, q_nd1n, q_nd2i, q_nd2r, q_nd2n, q_nd3i, q_nd3r, q_nd3n, q_nd4i, q_nd4r, q_nd4n, q_nd5i, q_nd5r, q_nd5n, q_nd6i, q_nd6r, q_nd6n, q_nd7i, q_nd7r, q_nd7n, q_nd8i, q_nd8r, q_nd8n, q_nd9i, q_nd9r, q_nd9n, q_st0, q_st1, q_st2, q_st3, q_st4, q_st5, q_st6, q_st7, q_st8, q_st9, q_cat_i, q_cat_r, q_cat_n, q_wt0, q_wt1, q_tl0, q_tl1, ↓q_cl1, q_add, q_sub, q_mul, q_nari, q_narb0, q_narb1, q_fiti, q_fitb0, q_fitb1, List.cons_append, List.nil_append, Nat.reduceAdd, Nat.reduceLeDiff, and_self, and_true, true_and, ↓reduceIte, hv_pf, fv2_2, fv2_3, fv2_4, fv2_5, fv2_6, fv2_7, fv2_8, fv2_9, fv2_10, fv2_11, fv2_12, fv3_0, fv3_1, fv3_2, fv4_0, fv5_0, fv5_1, fv5_2, fv7_0, fv7_1, fv7_2, fv7_3, fv7_4, fv7_5, fv7_10, fv7_11, fv8_0, fv9_0, fv9_1, fv9_2, fv9_3, fv9_4, fv9_5, fv9_6, fv10_0, fv10_1, fv10_2, fv10_3, fv10_11, fv10_14, fv10_16, fv10_17, fv10_18, fv10_21, fv2_0, fv2_1, fv4_1, fv5_3, fv5_4, fv6_0, fv6_1, fv6_2, fv6_3, fv7_6, fv7_7, fv7_8, fv7_12, fv7_13, fv7_14, fv8_1, fv9_7, fv10_13, fv5_5, fv7_9, if_true, List.set_cons_zero, List.set_cons_succ, List.length_cons, List.length_nil, Nat.reduceLT, Nat.reduceAdd, ↓reduceIte]
theorem c200 (hl : l.length = n) (hn : n < 8000) : x_m 200 [.ref n] (q_HT l [.inr (4, x_defs 4)] k s) = some (.inl none, q_HT l [.inr (4, [.ref (n + 1), .int (q_i 0)]), .inl (2, q_ar 60 fun _ => 0)] (k + 60) s) := by
  rw [xd4]
  simp (disch := first | assumption | omega | exact q_cref | (with_unfolding_all rfl) | decide) only [en200, e200_0, e200_1, e200_4, e200_5, e200_7, e200_9, e200_12, e200_13, e200_14, e200_17, ↓q_nv0, ↓q_nv1, ↓q_nv2, ↓q_nv3, ↓q_nv4, ↓q_nv5, ↓q_nv6, ↓q_nv7, ↓q_nv8, ↓q_nv9, ↓q_nv10, ↓q_nv11, ↓q_nv12, ↓q_nv13, ↓q_nv14, ↓q_nv15, ↓q_nv16, ↓q_nv17, ↓q_nv18, ↓q_nv19, ↓q_nv20, ↓q_nv21, ↓q_nv22, ↓q_gi0, ↓q_gi1, ↓q_gi2, ↓q_gi3, ↓q_gi4, ↓q_gi5, ↓q_gi6, ↓q_gi7, ↓q_gi8, ↓q_gi9, ↓q_gr0, ↓q_gr1, ↓q_gr2, ↓q_gr3, ↓q_gr4, ↓q_gr5, ↓q_gr6, ↓q_gr7, ↓q_gr8, ↓q_gr9, ↓q_ls0, ↓q_ls1i, ↓q_ls1r, ↓q_ls1n, ↓q_ls2i, ↓q_ls2r, ↓q_ls2n, ↓q_ls3i, ↓q_ls3r, ↓q_ls3n, ↓q_ls4i, ↓q_ls4r, ↓q_ls4n, ↓q_ls5i, ↓q_ls5r, ↓q_ls5n, ↓q_ls6i, ↓q_ls6r, ↓q_ls6n, ↓q_ls7i, ↓q_ls7r, ↓q_ls7n, ↓q_ls8i, ↓q_ls8r, ↓q_ls8n, ↓q_ls9i, ↓q_ls9r, ↓q_ls9n, q_nd0, q_nd1i, q_nd1r, q_nd1n, q_nd2i, q_nd2r, q_nd2n, q_nd3i, q_nd3r, q_nd3n, q_nd4i, q_nd4r, q_nd4n, q_nd5i, q_nd5r, q_nd5n, q_nd6i, q_nd6r, q_nd6n, q_nd7i, q_nd7r, q_nd7n, q_nd8i, q_nd8r, q_nd8n, q_nd9i, q_nd9r, q_nd9n, q_st0, q_st1, q_st2, q_st3, q_st4, q_st5, q_st6, q_st7, q_st8, q_st9, q_cat_i, q_cat_r, q_cat_n, q_wt0, q_wt1, q_tl0, q_tl1, ↓q_cl1, q_add, q_sub, q_mul, q_nari, q_narb0, q_narb1, q_fiti, q_fitb0, q_fitb1, List.cons_append, List.nil_append, Nat.reduceAdd, Nat.reduceLeDiff, and_self, and_true, true_and, ↓reduceIte, show Int.toNat 60 = 60 from rfl, hv_na, hv_pf, hl, fv2_2, fv2_3, fv2_4, fv2_5, fv2_6, fv2_7, fv2_8, fv2_9, fv2_10, fv2_11, fv2_12, fv3_0, fv3_1, fv3_2, fv4_0, fv5_0, fv5_1, fv5_2, fv7_0, fv7_1, fv7_2, fv7_3, fv7_4, fv7_5, fv7_10, fv7_11, fv8_0, fv9_0, fv9_1, fv9_2, fv9_3, fv9_4, fv9_5, fv9_6, fv10_0, fv10_1, fv10_2, fv10_3, fv10_11, fv10_14, fv10_16, fv10_17, fv10_18, fv10_21, fv2_0, fv2_1, fv4_1, fv5_3, fv5_4, fv6_0, fv6_1, fv6_2, fv6_3, fv7_6, fv7_7, fv7_8, fv7_12, fv7_13, fv7_14, fv8_1, fv9_7, fv10_13, fv5_5, fv7_9, if_true, List.set_cons_zero, List.set_cons_succ, List.length_cons, List.length_nil, Nat.reduceLT, Nat.reduceAdd, ↓reduceIte, q_ar0, List.nil_append, List.cons_append]
end M97za
