/-- a history's boards, the first i of them -/
def q_hbs (n : Nat) : Nat → List x_E
  | 0 => q_bo (n + 2) fun _ => -1
  | i + 1 => q_hbs n i ++ q_bo (n + 14 + 12 * i) fun _ => -1
theorem q_hbs_len {n : Nat} (i : Nat) : (q_hbs n i).length = 12 + 12 * i := by
  induction i with
  | zero => rfl
  | succ i ih =>
    show (q_hbs n i ++ _).length = _
    rw [List.length_append, ih, show (q_bo (n + 14 + 12 * i) fun _ => -1).length = 12 from rfl]
    omega
def q_slots (n i : Nat) : List Value := (List.range 9).map fun j => if j < i then .ref (n + 14 + 12 * j) else .null
section M97zd
variable {l r t : List x_E} {n k p : Nat} {s : List Int32}
theorem ht_wb {j x i : Nat} {vs w : List Value} {F : x_H → q_O} (h : t[j]? = some (.inr (102, vs))) (hx : t[x]? = some (.inr (2, w))) (ha : vs.all x_isA = true) (hi : i < vs.length) (hi2 : i < 1000) : q_wb (q_HT l t k s) (l.length + j) (l.length + x) (q_i i) F = F (q_HT l (t.set j (.inr (102, vs.set i (.ref (l.length + x))))) k s) := by
  unfold q_wb
  rw [show (q_HT l t k s).1 (l.length + j) = .inr (102, vs) from q_hf_at h]
  try dsimp only
  have e1 : (q_i (i : Int)).toNatClampNeg = i := by
    rw [q_nat (by omega) (by unfold q_R; omega)]
    rfl
  rw [if_pos ⟨rfl, ht_lt h, ha, ht_lt hx, by rw [show (q_HT l t k s).1 (l.length + x) = .inr (2, w) from q_hf_at hx]; rfl, by rw [q_lt0 (by unfold q_R; omega)]; omega, by rw [e1]; exact hi⟩, e1, ht_set h]
theorem c300a (hl : l.length = n) (hn : n < 7000) : x_run 300 0 [.ref n, .ref p, .null] [] (q_HT l [.inr (5, x_defs 5)] k s) = x_run 300 46 [.ref n, .ref p, .int (q_i 0)] [] (q_HT l (.inr (5, [.ref p, .ref (n + 1), .ref (n + 2), .int (q_i 0), .int (q_i 0), .int (q_i 0)]) :: .inr (102, q_slots n 0) :: q_hbs n 0) (k + 9 + x_N 2 + 258) s) := by
  rw [xd5]
  have e := fun {vs : List Value} {k : Nat} => c0t (l := l) (t := [.inr (5, vs), .inr (102, q_slots n 0)]) (n := n + 2) (k := k) (s := s) (by rw [hl]; rfl) (by omega)
  have es : List.replicate 9 Value.null = q_slots n 0 := rfl
  have er : q_rcv (q_HT l [.inr (5, [.null, .ref (n + 1), .null, .int (q_i 0), .int (q_i 0), .int (q_i 0)]), .inr (102, q_slots n 0), .inr (2, x_defs 2)] (k + 9 + x_N 2) s) (n + 2) 2 = true := by
    subst hl
    exact ht_rcv (j := 2) rfl
  simp (disch := first | assumption | omega | exact q_cref | (with_unfolding_all rfl) | decide) only [List.nil_append, List.cons_append] at e
  simp (disch := first | assumption | omega | exact q_cref | (with_unfolding_all rfl) | decide) only [e300_0, e300_1, e300_4, e300_5, e300_7, e300_10, e300_13, e300_14, e300_17, e300_18, e300_21, e300_24, e300_25, e300_26, e300_29, e300_30, e300_31, e300_34, e300_35, e300_36, e300_39, e300_40, e300_41, e300_44, e300_45, ↓q_nv0, ↓q_nv1, ↓q_nv2, ↓q_nv3, ↓q_nv4, ↓q_nv5, ↓q_nv6, ↓q_nv7, ↓q_nv8, ↓q_nv9, ↓q_nv10, ↓q_nv11, ↓q_nv12, ↓q_nv13, ↓q_nv14, ↓q_nv15, ↓q_nv16, ↓q_nv17, ↓q_nv18, ↓q_nv19, ↓q_nv20, ↓q_nv21, ↓q_nv22, ↓q_gi0, ↓q_gi1, ↓q_gi2, ↓q_gi3, ↓q_gi4, ↓q_gi5, ↓q_gi6, ↓q_gi7, ↓q_gi8, ↓q_gi9, ↓q_gr0, ↓q_gr1, ↓q_gr2, ↓q_gr3, ↓q_gr4, ↓q_gr5, ↓q_gr6, ↓q_gr7, ↓q_gr8, ↓q_gr9, ↓q_ls0, ↓q_ls1i, ↓q_ls1r, ↓q_ls1n, ↓q_ls2i, ↓q_ls2r, ↓q_ls2n, ↓q_ls3i, ↓q_ls3r, ↓q_ls3n, ↓q_ls4i, ↓q_ls4r, ↓q_ls4n, ↓q_ls5i, ↓q_ls5r, ↓q_ls5n, ↓q_ls6i, ↓q_ls6r, ↓q_ls6n, ↓q_ls7i, ↓q_ls7r, ↓q_ls7n, ↓q_ls8i, ↓q_ls8r, ↓q_ls8n, ↓q_ls9i, ↓q_ls9r, ↓q_ls9n, q_nd0, q_nd1i, q_nd1r, q_nd1n, q_nd2i, q_nd2r, q_nd2n, q_nd3i, q_nd3r, q_nd3n, q_nd4i, q_nd4r, q_nd4n, q_nd5i, q_nd5r, q_nd5n, q_nd6i, q_nd6r, q_nd6n, q_nd7i, q_nd7r, q_nd7n, q_nd8i, q_nd8r, q_nd8n, q_nd9i, q_nd9r, q_nd9n, q_st0, q_st1, q_st2, q_st3, q_st4, q_st5, q_st6, q_st7, q_st8, q_st9, q_cat_i, q_cat_r, q_cat_n, q_wt0, q_wt1, q_tl0, q_tl1, ↓q_cl1, q_add, q_sub, q_mul, q_nari, q_narb0, q_narb1, q_fiti, q_fitb0, q_fitb1, List.cons_append, List.nil_append, Nat.reduceAdd, Nat.reduceLeDiff, and_self, and_true, true_and, ↓reduceIte, q_tn9, hv_al, hv_na, hv_pf, hl, er, e, es, fv2_2, fv2_3, fv2_4, fv2_5, fv2_6, fv2_7, fv2_8, fv2_9, fv2_10, fv2_11, fv2_12, fv3_0, fv3_1, fv3_2, fv4_0, fv5_0, fv5_1, fv5_2, fv7_0, fv7_1, fv7_2, fv7_3, fv7_4, fv7_5, fv7_10, fv7_11, fv8_0, fv9_0, fv9_1, fv9_2, fv9_3, fv9_4, fv9_5, fv9_6, fv10_0, fv10_1, fv10_2, fv10_3, fv10_11, fv10_14, fv10_16, fv10_17, fv10_18, fv10_21, fv2_0, fv2_1, fv4_1, fv5_3, fv5_4, fv6_0, fv6_1, fv6_2, fv6_3, fv7_6, fv7_7, fv7_8, fv7_12, fv7_13, fv7_14, fv8_1, fv9_7, fv10_13, fv5_5, fv7_9, if_true, List.set_cons_zero, List.set_cons_succ, List.length_cons, List.length_nil, Nat.reduceLT, Nat.reduceAdd, ↓reduceIte, List.nil_append, List.cons_append]
  rfl
theorem c300l (hl : l.length = n) (hn : n < 7000) {o : x_E} (ho : o = .inr (5, [.ref p, .ref (n + 1), .ref (n + 2), .int (q_i 0), .int (q_i 0), .int (q_i 0)])) {i : Nat} (hi : i < 9) : x_run 300 46 [.ref n, .ref p, .int (q_i i)] [] (q_HT l (o :: .inr (102, q_slots n i) :: q_hbs n i) k s) = x_run 300 46 [.ref n, .ref p, .int (q_i (i + 1 : Nat))] [] (q_HT l (o :: .inr (102, q_slots n (i + 1)) :: q_hbs n (i + 1)) (k + x_N 2 + 258) s) := by
  have hb := q_hbs_len (n := n) i
  have hlt : ¬ (q_i 9 ≤ q_i (i : Int)) := by
    rw [q_le (by unfold q_R; omega) (by unfold q_R; omega)]
    omega
  have hg : ∀ {F : Value → q_O}, q_gf (q_HT l (o :: .inr (102, q_slots n i) :: q_hbs n i) k s) n 5 1 F = F (.ref (n + 1)) := fun {F} => by
    rw [ho]
    exact hv_gf hl rfl
  have ha : ∀ {F : Nat → x_H → q_O}, q_al2 (q_HT l (o :: .inr (102, q_slots n i) :: q_hbs n i) k s) (.inr (2, x_defs 2)) (x_N 2) F = F (n + 14 + 12 * i) (q_HT l (o :: .inr (102, q_slots n i) :: (q_hbs n i ++ [.inr (2, x_defs 2)])) (k + x_N 2) s) := fun {F} => by
    rw [hw_al (by omega) (by rw [List.length_cons, hb]; omega), List.length_cons, hb, hl, show n + (12 + 12 * i + 1 + 1) = n + 14 + 12 * i by omega]
    rfl
  have e : x_m 0 [.ref (n + 14 + 12 * i)] (q_HT l (o :: .inr (102, q_slots n i) :: (q_hbs n i ++ [.inr (2, x_defs 2)])) (k + x_N 2) s) = some (.inl none, q_HT l (o :: .inr (102, q_slots n i) :: (q_hbs n i ++ q_bo (n + 14 + 12 * i) fun _ => -1)) (k + x_N 2 + 258) s) := c0t (l := l) (t := o :: .inr (102, q_slots n i) :: q_hbs n i) (n := n + 14 + 12 * i) (k := k + x_N 2) (s := s) (by rw [List.length_cons, List.length_cons, hb, hl]; omega) (by omega)
  have hx : ∀ {y : x_E} {u : List x_E}, (o :: .inr (102, q_slots n i) :: (q_hbs n i ++ y :: u))[14 + 12 * i]? = some y := fun {y u} => by
    rw [show 14 + 12 * i = 12 + 12 * i + 1 + 1 by omega, List.getElem?_cons_succ, List.getElem?_cons_succ, List.getElem?_append_right (by omega), hb, Nat.sub_self]
    rfl
  have ea : n + 14 + 12 * i = l.length + (14 + 12 * i) := by rw [hl, Nat.add_assoc]
  have eb : n + 1 = l.length + 1 := by rw [hl]
  have hr : q_rcv (q_HT l (o :: .inr (102, q_slots n i) :: (q_hbs n i ++ [.inr (2, x_defs 2)])) (k + x_N 2) s) (n + 14 + 12 * i) 2 = true := by
    rw [ea]
    exact ht_rcv (j := 14 + 12 * i) hx
  have hs : (q_slots n i).all x_isA = true ∧ (q_slots n i).length = 9 ∧ (q_slots n i).set i (.ref (n + 14 + 12 * i)) = q_slots n (i + 1) := by
    rcases (show i = 0 ∨ i = 1 ∨ i = 2 ∨ i = 3 ∨ i = 4 ∨ i = 5 ∨ i = 6 ∨ i = 7 ∨ i = 8 by omega) with rfl | rfl | rfl | rfl | rfl | rfl | rfl | rfl | rfl <;> exact ⟨rfl, rfl, rfl⟩
  have hw : ∀ {F : x_H → q_O}, q_wb (q_HT l (o :: .inr (102, q_slots n i) :: (q_hbs n i ++ q_bo (n + 14 + 12 * i) fun _ => -1)) (k + x_N 2 + 258) s) (n + 1) (n + 14 + 12 * i) (q_i i) F = F (q_HT l (o :: .inr (102, q_slots n (i + 1)) :: q_hbs n (i + 1)) (k + x_N 2 + 258) s) := fun {F} => by
    have := ht_wb (l := l) (t := o :: .inr (102, q_slots n i) :: (q_hbs n i ++ q_bo (n + 14 + 12 * i) fun _ => -1)) (k := k + x_N 2 + 258) (s := s) (F := F) (j := 1) (x := 14 + 12 * i) (i := i) rfl hx hs.1 (by rw [hs.2.1]; exact hi) (by omega)
    rw [← ea, ← eb, hs.2.2] at this
    exact this
  rw [e300_46]
  simp (disch := first | assumption | omega | exact q_cref | (with_unfolding_all rfl) | decide) only [e300_47, e300_49, e300_52, e300_53, e300_56, e300_57, e300_60, e300_61, e300_64, e300_65, e300_68, ↓q_nv0, ↓q_nv1, ↓q_nv2, ↓q_nv3, ↓q_nv4, ↓q_nv5, ↓q_nv6, ↓q_nv7, ↓q_nv8, ↓q_nv9, ↓q_nv10, ↓q_nv11, ↓q_nv12, ↓q_nv13, ↓q_nv14, ↓q_nv15, ↓q_nv16, ↓q_nv17, ↓q_nv18, ↓q_nv19, ↓q_nv20, ↓q_nv21, ↓q_nv22, ↓q_gi0, ↓q_gi1, ↓q_gi2, ↓q_gi3, ↓q_gi4, ↓q_gi5, ↓q_gi6, ↓q_gi7, ↓q_gi8, ↓q_gi9, ↓q_gr0, ↓q_gr1, ↓q_gr2, ↓q_gr3, ↓q_gr4, ↓q_gr5, ↓q_gr6, ↓q_gr7, ↓q_gr8, ↓q_gr9, ↓q_ls0, ↓q_ls1i, ↓q_ls1r, ↓q_ls1n, ↓q_ls2i, ↓q_ls2r, ↓q_ls2n, ↓q_ls3i, ↓q_ls3r, ↓q_ls3n, ↓q_ls4i, ↓q_ls4r, ↓q_ls4n, ↓q_ls5i, ↓q_ls5r, ↓q_ls5n, ↓q_ls6i, ↓q_ls6r, ↓q_ls6n, ↓q_ls7i, ↓q_ls7r, ↓q_ls7n, ↓q_ls8i, ↓q_ls8r, ↓q_ls8n, ↓q_ls9i, ↓q_ls9r, ↓q_ls9n, q_nd0, q_nd1i, q_nd1r, q_nd1n, q_nd2i, q_nd2r, q_nd2n, q_nd3i, q_nd3r, q_nd3n, q_nd4i, q_nd4r, q_nd4n, q_nd5i, q_nd5r, q_nd5n, q_nd6i, q_nd6r, q_nd6n, q_nd7i, q_nd7r, q_nd7n, q_nd8i, q_nd8r, q_nd8n, q_nd9i, q_nd9r, q_nd9n, q_st0, q_st1, q_st2, q_st3, q_st4, q_st5, q_st6, q_st7, q_st8, q_st9, q_cat_i, q_cat_r, q_cat_n, q_wt0, q_wt1, q_tl0, q_tl1, ↓q_cl1, q_add, q_sub, q_mul, q_nari, q_narb0, q_narb1, q_fiti, q_fitb0, q_fitb1, List.cons_append, List.nil_append, Nat.reduceAdd, Nat.reduceLeDiff, and_self, and_true, true_and, ↓reduceIte, hg, ha, e, hr, hw, hlt, if_false, if_true, not_true_eq_false, not_false_eq_true, if_true, if_false, q_add]
  rfl
theorem c300 (hl : l.length = n) (hn : n < 7000) : x_m 300 [.ref n, .ref p] (q_HT l [.inr (5, x_defs 5)] k s) = some (.inl none, q_HT l (.inr (5, [.ref p, .ref (n + 1), .ref (n + 2), .int (q_i 0), .int (q_i 0), .int (q_i 0)]) :: .inr (102, q_slots n 9) :: q_hbs n 9) (k + (9 + x_N 2 + 258 + 9 * (x_N 2 + 258))) s) := by
  have e : ∀ {h : x_H}, x_run 300 46 [.ref n, .ref p, .int (q_i 9)] [] h = some (.inl none, h) := fun {h} => by
    have h9 : q_i 9 ≤ q_i 9 := by decide
    simp (disch := first | assumption | omega | exact q_cref | (with_unfolding_all rfl) | decide) only [e300_46, e300_47, e300_49, e300_71, ↓q_nv0, ↓q_nv1, ↓q_nv2, ↓q_nv3, ↓q_nv4, ↓q_nv5, ↓q_nv6, ↓q_nv7, ↓q_nv8, ↓q_nv9, ↓q_nv10, ↓q_nv11, ↓q_nv12, ↓q_nv13, ↓q_nv14, ↓q_nv15, ↓q_nv16, ↓q_nv17, ↓q_nv18, ↓q_nv19, ↓q_nv20, ↓q_nv21, ↓q_nv22, ↓q_gi0, ↓q_gi1, ↓q_gi2, ↓q_gi3, ↓q_gi4, ↓q_gi5, ↓q_gi6, ↓q_gi7, ↓q_gi8, ↓q_gi9, ↓q_gr0, ↓q_gr1, ↓q_gr2, ↓q_gr3, ↓q_gr4, ↓q_gr5, ↓q_gr6, ↓q_gr7, ↓q_gr8, ↓q_gr9, ↓q_ls0, ↓q_ls1i, ↓q_ls1r, ↓q_ls1n, ↓q_ls2i, ↓q_ls2r, ↓q_ls2n, ↓q_ls3i, ↓q_ls3r, ↓q_ls3n, ↓q_ls4i, ↓q_ls4r, ↓q_ls4n, ↓q_ls5i, ↓q_ls5r, ↓q_ls5n, ↓q_ls6i, ↓q_ls6r, ↓q_ls6n, ↓q_ls7i, ↓q_ls7r, ↓q_ls7n, ↓q_ls8i, ↓q_ls8r, ↓q_ls8n, ↓q_ls9i, ↓q_ls9r, ↓q_ls9n, q_nd0, q_nd1i, q_nd1r, q_nd1n, q_nd2i, q_nd2r, q_nd2n, q_nd3i, q_nd3r, q_nd3n, q_nd4i, q_nd4r, q_nd4n, q_nd5i, q_nd5r, q_nd5n, q_nd6i, q_nd6r, q_nd6n, q_nd7i, q_nd7r, q_nd7n, q_nd8i, q_nd8r, q_nd8n, q_nd9i, q_nd9r, q_nd9n, q_st0, q_st1, q_st2, q_st3, q_st4, q_st5, q_st6, q_st7, q_st8, q_st9, q_cat_i, q_cat_r, q_cat_n, q_wt0, q_wt1, q_tl0, q_tl1, ↓q_cl1, q_add, q_sub, q_mul, q_nari, q_narb0, q_narb1, q_fiti, q_fitb0, q_fitb1, List.cons_append, List.nil_append, Nat.reduceAdd, Nat.reduceLeDiff, and_self, and_true, true_and, ↓reduceIte, h9, if_true]
  have h2 := q_for (M := 300) (pc := 46) (n := 9) (fun i => [.ref n, .ref p, .int (q_i i)]) (fun i => q_HT l (.inr (5, [.ref p, .ref (n + 1), .ref (n + 2), .int (q_i 0), .int (q_i 0), .int (q_i 0)]) :: .inr (102, q_slots n i) :: q_hbs n i) (k + 9 + x_N 2 + 258 + i * (x_N 2 + 258)) s) (fun i hi => by
    have := c300l (p := p) (k := k + 9 + x_N 2 + 258 + i * (x_N 2 + 258)) (s := s) hl hn rfl hi
    rw [show k + 9 + x_N 2 + 258 + i * (x_N 2 + 258) + x_N 2 + 258 = k + 9 + x_N 2 + 258 + (i + 1) * (x_N 2 + 258) by rw [Nat.add_mul]; omega] at this
    exact this)
  rw [Nat.zero_mul, Nat.add_zero, show k + 9 + x_N 2 + 258 + 9 * (x_N 2 + 258) = k + (9 + x_N 2 + 258 + 9 * (x_N 2 + 258)) by simp only [Nat.add_assoc]] at h2
  rw [en300]
  exact (c300a hl hn).trans (h2.trans e)
end M97zd
