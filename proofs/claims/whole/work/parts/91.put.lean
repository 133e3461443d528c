section M91
variable {m : Nat → Nat → Int} {K : Nat × Nat} {s : List Int32}
def q_wT (g : Nat → Int) (P : Nat → Bool) : Nat → Bool := fun c => P c && decide (g (55 + c) = 0)
def q_wh (f : Nat → Int) (T : Nat → Bool) (x : Int) (i : Nat) : Nat → Int := fun c => if c < i ∧ T c = true then x else f c
theorem q_wh0 {f : Nat → Int} {T : Nat → Bool} {x : Int} : q_wh f T x 0 = f := funext fun c => if_neg (by omega)
theorem q_whS1 {f : Nat → Int} {T : Nat → Bool} {x : Int} {i : Nat} (h : T i = true) : q_upd (q_wh f T x i) i x = q_wh f T x (i + 1) := by
  funext c
  unfold q_upd q_wh
  by_cases e : c = i
  · rw [if_pos e, if_pos ⟨by omega, by rw [e]; exact h⟩]
  · rw [if_neg e]
    simp only [show (c < i + 1) = (c < i) from propext (by omega)]
theorem q_whS2 {f : Nat → Int} {T : Nat → Bool} {x : Int} {i : Nat} (h : ¬ T i = true) : q_wh f T x i = q_wh f T x (i + 1) := by
  funext c
  unfold q_wh
  by_cases e : c = i
  · rw [if_neg (by omega), if_neg (fun z => h (e ▸ z.2))]
  · simp only [show (c < i + 1) = (c < i) from propext (by omega)]
theorem q_pp1 {a b i k : Nat} {f u : Nat → Int} {x y : Int} (hab : a ≠ b) : q_M (q_M (q_P (q_P m a f) b u) a i x) b k y = q_P (q_P m a (q_upd f i x)) b (q_upd u k y) := by
  rw [q_M_P, q_M_a hab.symm, q_P_s, q_M_P, q_P_a hab, q_P_s]
  funext c
  by_cases b1 : c = b
  · subst b1
    rw [q_P_s, q_P_s]
  · by_cases b2 : c = a
    · subst b2
      rw [q_P_a b1, q_P_s, q_P_a b1, q_P_s]
    · rw [q_P_a b1, q_P_a b2, q_P_a b1, q_P_a b2, q_P_a b1, q_P_a b2]
theorem q_upd_2 {f : Nat → Int} {k : Nat} {x y : Int} : q_upd (q_upd f k x) k y = q_upd f k y := by
  funext c
  unfold q_upd
  split <;> rfl
theorem q_upd_id {f : Nat → Int} {k : Nat} {x : Int} (h : f k = x) : q_upd f k x = f := by
  funext c
  unfold q_upd
  split
  · rename_i e
    rw [e, h]
  · rfl
theorem m15 {g : Nat → Int} {n : Nat} {P H : Nat → Bool} {cost : Int} (hB : q_Bd m 1 g) (hW : q_W g) (hl : q_lw g n P H cost) (h19 : m 19 = q_bR P) (h20 : m 20 = q_bR H) : ∃ m1, x_m 15 [.ref 1, .int (q_i n), .ref 19, .ref 20] (q_H m K s) = some (.inl none, q_H m1 K s) ∧ q_Bd (q_M m1 5 n cost) 1 (q_gw g n P H cost) ∧ ∀ a, (a = 0 ∨ 13 ≤ a) → m1 a = m a := by
  have hW' := hW
  obtain ⟨w1, w2, w3, w4, w5, w6, w7, w8, w9, w10, w11, w12, w13⟩ := hW
  obtain ⟨hn, l1, l2, l3, l4⟩ := hl
  have hn6 : n < 6 := by omega
  obtain ⟨b1, b2, b3, b4, b5, b6, b7, b8, b9, b10, b11, b12, b13⟩ := hB
  have nw : ∀ c, c < 96 → g (55 + c) ≠ 3 + 2 * n := fun c hc z => by
    have := w11 c n hc hn6 z
    omega
  have nh : ∀ p, p < 48 → g (151 + p) ≠ n + 1 := fun p hp z => by
    have h1 := (w13 p hp).2.2 (by omega)
    exact nw p (by omega) (by omega)
  have cnt0 : ∀ (Q : Nat → Bool) k, (∀ i, i < k → Q i = false) → q_cnt Q k = 0 := fun Q k => by
    induction k with
    | zero => exact fun _ => rfl
    | succ k ih =>
      intro h
      rw [q_cnt_succ, ih (fun i hi => h i (by omega)), h k (by omega)]
      rfl
  have wir0 : m 6 n = 0 := by
    rw [b7 n hn6]
    unfold q_wir
    rw [cnt0 _ _ fun i hi => decide_eq_false (nw i hi)]
    rfl
  have hls0 : m 7 n = 0 := by
    rw [b8 n hn6]
    unfold q_hls
    rw [cnt0 _ _ fun i hi => decide_eq_false (nh i hi)]
    rfl
  have hTp : ∀ c, c < 96 → P c = true → (q_wT g P c = true ↔ ¬ q_pin g c) := fun c hc hP => by
    have h3 := l3 c hc hP
    have hi : q_is g (c : Int) = g (55 + c) := q_is_nat
    unfold q_wT q_pin
    rw [hP, hi, Bool.true_and, decide_eq_true_iff]
    omega
  have hl1 := q_for (M := 15) (pc := 10) (n := 96) (fun i => [.ref 1, .int (q_i n), .ref 19, .ref 20, .int (q_i i)]) (fun i => q_H (q_P (q_P (q_M m 3 n 1) 10 (q_wh (m 10) (q_wT g P) n i)) 6 (q_upd (m 6) n (q_cnt (q_wT g P) i))) K s) (fun i hi => by
    have r48 := q_rem (a := i) (by omega) (show q_R i by unfold q_R; omega) (b := 48) (by omega) (by unfold q_R; omega)
    have z48 : ¬ q_i 48 = 0 := by decide
    have er : ((i : Int) % 48).toNat = i % 48 := by omega
    have ep : m 11 (i % 48) = q_b (q_pin g i) := b12 i hi
    have e19 : m 19 i = if P i = true then 1 else 0 := by rw [h19]; rfl
    have hle := q_cnt_le (q_wT g P) i
    have hrd : q_upd (m 6) n (q_cnt (q_wT g P) i) n = q_cnt (q_wT g P) i := if_pos rfl
    try dsimp only
    rw [e15_10]
    by_cases x1 : P i = true
    · rw [if_pos x1] at e19
      by_cases x2 : q_pin g i
      · have hT : ¬ q_wT g P i = true := fun z => ((hTp i hi x1).mp z) x2
        rw [← q_whS2 hT, q_cnt_succ, if_neg hT, Nat.add_zero]
        simp (disch := first | rfl | assumption | decide | omega | (unfold q_R; omega)) only [en15, e15_0, e15_1, e15_4, e15_5, e15_6, e15_7, e15_8, e15_12, e15_14, e15_17, e15_18, e15_20, e15_21, e15_24, e15_25, e15_28, e15_30, e15_32, e15_33, e15_34, e15_37, e15_38, e15_41, e15_43, e15_44, e15_45, e15_46, e15_49, e15_50, e15_51, e15_52, e15_53, e15_54, e15_55, e15_58, e15_61, e15_62, e15_66, e15_68, e15_71, e15_72, e15_74, e15_75, e15_78, e15_79, e15_82, e15_84, e15_85, e15_86, e15_87, e15_90, e15_91, e15_92, e15_93, e15_94, e15_95, e15_96, e15_99, e15_102, ↓q_nv0, ↓q_nv1, ↓q_nv2, ↓q_nv3, ↓q_nv4, ↓q_nv5, ↓q_nv6, ↓q_nv7, ↓q_nv8, ↓q_nv9, ↓q_nv10, ↓q_nv11, ↓q_nv12, ↓q_nv13, ↓q_nv14, ↓q_nv15, ↓q_nv16, ↓q_nv17, ↓q_nv18, ↓q_nv19, ↓q_nv20, ↓q_nv21, ↓q_nv22, ↓q_gi0, ↓q_gi1, ↓q_gi2, ↓q_gi3, ↓q_gi4, ↓q_gi5, ↓q_gi6, ↓q_gi7, ↓q_gi8, ↓q_gi9, ↓q_gr0, ↓q_gr1, ↓q_gr2, ↓q_gr3, ↓q_gr4, ↓q_gr5, ↓q_gr6, ↓q_gr7, ↓q_gr8, ↓q_gr9, ↓q_ls0, ↓q_ls1i, ↓q_ls1r, ↓q_ls1n, ↓q_ls2i, ↓q_ls2r, ↓q_ls2n, ↓q_ls3i, ↓q_ls3r, ↓q_ls3n, ↓q_ls4i, ↓q_ls4r, ↓q_ls4n, ↓q_ls5i, ↓q_ls5r, ↓q_ls5n, ↓q_ls6i, ↓q_ls6r, ↓q_ls6n, ↓q_ls7i, ↓q_ls7r, ↓q_ls7n, ↓q_ls8i, ↓q_ls8r, ↓q_ls8n, ↓q_ls9i, ↓q_ls9r, ↓q_ls9n, q_nd0, q_nd1i, q_nd1r, q_nd1n, q_nd2i, q_nd2r, q_nd2n, q_nd3i, q_nd3r, q_nd3n, q_nd4i, q_nd4r, q_nd4n, q_nd5i, q_nd5r, q_nd5n, q_nd6i, q_nd6r, q_nd6n, q_nd7i, q_nd7r, q_nd7n, q_nd8i, q_nd8r, q_nd8n, q_nd9i, q_nd9r, q_nd9n, q_st0, q_st1, q_st2, q_st3, q_st4, q_st5, q_st6, q_st7, q_st8, q_st9, q_cat_i, q_cat_r, q_cat_n, q_wt0, q_wt1, q_tl0, q_tl1, ↓q_cl1, q_add, q_sub, q_mul, q_nari, q_narb0, q_narb1, q_fiti, q_fitb0, q_fitb1, List.cons_append, List.nil_append, Nat.reduceAdd, Nat.reduceLeDiff, and_self, and_true, true_and, ↓reduceIte, ↓rc0, ↓gf0_0, ↓gf0_1, ↓gf0_2, ↓gf0_3, ↓gf0_4, ↓gf0_5, ↓gf0_6, ↓gf0_7, ↓pf0_7, ft0_7, ↓rc1, ↓gf1_0, ↓pf1_0, ft1_0, ↓gf1_1, ↓pf1_1, ft1_1, ↓gf1_2, ↓gf1_3, ↓gf1_4, ↓gf1_5, ↓gf1_6, ↓gf1_7, ↓gf1_8, ↓gf1_9, ↓gf1_10, ↓gf1_11, ↓gf1_12, ↓rc13, ↓gf13_0, ↓gf13_1, ↓gf13_2, ↓gf13_3, ↓gf13_4, ↓gf13_5, ↓gf13_6, ↓pf13_6, ft13_6, ↓gf13_7, ↓pf13_7, ft13_7, ↓gf13_8, ↓pf13_8, ft13_8, ↓gf13_9, ↓pf13_9, ft13_90, ft13_91, ↓gf13_10, ↓gf13_11, ↓gf13_12, ↓pf13_12, ft13_12, ↓gf13_13, ↓pf13_13, ft13_13, ↓gf13_14, ↓pf13_14, ft13_14, ↓rc21, ↓gf21_0, ↓pf21_0, ft21_0, ↓gf21_1, ↓pf21_1, ft21_1, ↓gf21_2, ↓pf21_2, ft21_2, ↓gf21_3, ↓pf21_3, ft21_3, ↓rc22, ↓gf22_0, ↓gf22_1, ↓gf22_2, ↓rc23, ↓gf23_0, ↓gf23_1, ↓gf23_2, ↓gf23_3, ↓pf23_3, ft23_3, ↓gf23_4, ↓pf23_4, ft23_4, ↓gf23_5, ↓pf23_5, ft23_50, ft23_51, ↓rc145, ↓gf145_0, ↓gf145_1, ↓pf145_1, ft145_1, ↓rc147, ↓gf147_0, ↓gf147_1, ↓pf147_1, ft147_1, ↓rc149, ↓gf149_0, ↓gf149_1, ↓gf149_2, ↓gf149_3, ↓gf149_4, ↓pf149_4, ft149_40, ft149_41, ↓gf149_5, ↓pf149_5, ft149_5, ↓gf149_6, ↓pf149_6, ft149_60, ft149_61, ↓gf149_7, ↓pf149_7, ft149_7, ↓gf149_8, ↓pf149_8, ft149_8, ↓gf149_9, ↓pf149_9, ft149_9, ↓gf149_10, ↓pf149_10, ft149_10, ↓gf149_11, ↓gf149_12, ↓pf149_12, ft149_12, ↓gf149_13, ↓pf149_13, ft149_13, ↓gf149_14, ↓gf149_15, ↓pf149_15, ft149_15, ↓gf149_16, ↓gf149_17, ↓gf149_18, ↓gf149_19, ↓pf149_19, ft149_19, ↓gf149_20, ↓pf149_20, ft149_20, ↓gf149_21, ↓gf149_22, ↓pf149_22, ft149_22, ↓ra2, ↓wa2, ↓ln2, ↓ra3, ↓wa3, ↓ln3, ↓ra4, ↓wa4, ↓ln4, ↓ra5, ↓wa5, ↓ln5, ↓ra6, ↓wa6, ↓ln6, ↓ra7, ↓wa7, ↓ln7, ↓ra8, ↓wa8, ↓ln8, ↓ra9, ↓wa9, ↓ln9, ↓ra10, ↓wa10, ↓ln10, ↓ra11, ↓wa11, ↓ln11, ↓ra12, ↓wa12, ↓ln12, ↓ra14, ↓wa14, ↓ln14, ↓ra15, ↓wa15, ↓ln15, ↓ra16, ↓wa16, ↓ln16, ↓ra17, ↓wa17, ↓ln17, ↓ra18, ↓wa18, ↓ln18, ↓ra19, ↓wa19, ↓ln19, ↓ra20, ↓wa20, ↓ln20, ↓ra146, ↓wa146, ↓ln146, ↓ra148, ↓wa148, ↓ln148, ↓ra150, ↓wa150, ↓ln150, ↓ra151, ↓wa151, ↓ln151, ↓ra152, ↓wa152, ↓ln152, ↓ra153, ↓wa153, ↓ln153, ↓ra154, ↓wa154, ↓ln154, ↓ra155, ↓wa155, ↓ln155, ↓ra156, ↓wa156, ↓ln156, ↓ra157, ↓wa157, ↓ln157, ↓ra158, ↓wa158, ↓ln158, ↓ra159, ↓wa159, ↓ln159, q_M_s, q_M_k, q_M_a, q_P_s, q_P_a, q_toN, q_i00, q_i10, q_j00, q_j10, q_le, show ¬ (96 : Int) ≤ (i : Int) by omega, not_true_eq_false, not_false_eq_true, if_true, if_false, e19, z48, r48, er, ep, q_bz, x2]
        rfl
      · have hT : q_wT g P i = true := (hTp i hi x1).mpr x2
        have w := q_pp1 (m := q_M m 3 n 1) (a := 10) (b := 6) (i := i) (k := n) (f := q_wh (m 10) (q_wT g P) n i) (u := q_upd (m 6) n (q_cnt (q_wT g P) i)) (x := n) (y := (q_cnt (q_wT g P) i : Int) + 1) (by decide)
        rw [q_whS1 hT, q_upd_2] at w
        rw [q_cnt_succ, if_pos hT]
        simp (disch := first | rfl | assumption | decide | omega | (unfold q_R; omega)) only [en15, e15_0, e15_1, e15_4, e15_5, e15_6, e15_7, e15_8, e15_12, e15_14, e15_17, e15_18, e15_20, e15_21, e15_24, e15_25, e15_28, e15_30, e15_32, e15_33, e15_34, e15_37, e15_38, e15_41, e15_43, e15_44, e15_45, e15_46, e15_49, e15_50, e15_51, e15_52, e15_53, e15_54, e15_55, e15_58, e15_61, e15_62, e15_66, e15_68, e15_71, e15_72, e15_74, e15_75, e15_78, e15_79, e15_82, e15_84, e15_85, e15_86, e15_87, e15_90, e15_91, e15_92, e15_93, e15_94, e15_95, e15_96, e15_99, e15_102, e15_50 (v := .int (q_i (n : Int))) (w := .ref 6) ⟨rfl, rfl⟩, ↓q_nv0, ↓q_nv1, ↓q_nv2, ↓q_nv3, ↓q_nv4, ↓q_nv5, ↓q_nv6, ↓q_nv7, ↓q_nv8, ↓q_nv9, ↓q_nv10, ↓q_nv11, ↓q_nv12, ↓q_nv13, ↓q_nv14, ↓q_nv15, ↓q_nv16, ↓q_nv17, ↓q_nv18, ↓q_nv19, ↓q_nv20, ↓q_nv21, ↓q_nv22, ↓q_gi0, ↓q_gi1, ↓q_gi2, ↓q_gi3, ↓q_gi4, ↓q_gi5, ↓q_gi6, ↓q_gi7, ↓q_gi8, ↓q_gi9, ↓q_gr0, ↓q_gr1, ↓q_gr2, ↓q_gr3, ↓q_gr4, ↓q_gr5, ↓q_gr6, ↓q_gr7, ↓q_gr8, ↓q_gr9, ↓q_ls0, ↓q_ls1i, ↓q_ls1r, ↓q_ls1n, ↓q_ls2i, ↓q_ls2r, ↓q_ls2n, ↓q_ls3i, ↓q_ls3r, ↓q_ls3n, ↓q_ls4i, ↓q_ls4r, ↓q_ls4n, ↓q_ls5i, ↓q_ls5r, ↓q_ls5n, ↓q_ls6i, ↓q_ls6r, ↓q_ls6n, ↓q_ls7i, ↓q_ls7r, ↓q_ls7n, ↓q_ls8i, ↓q_ls8r, ↓q_ls8n, ↓q_ls9i, ↓q_ls9r, ↓q_ls9n, q_nd0, q_nd1i, q_nd1r, q_nd1n, q_nd2i, q_nd2r, q_nd2n, q_nd3i, q_nd3r, q_nd3n, q_nd4i, q_nd4r, q_nd4n, q_nd5i, q_nd5r, q_nd5n, q_nd6i, q_nd6r, q_nd6n, q_nd7i, q_nd7r, q_nd7n, q_nd8i, q_nd8r, q_nd8n, q_nd9i, q_nd9r, q_nd9n, q_st0, q_st1, q_st2, q_st3, q_st4, q_st5, q_st6, q_st7, q_st8, q_st9, q_cat_i, q_cat_r, q_cat_n, q_wt0, q_wt1, q_tl0, q_tl1, ↓q_cl1, q_add, q_sub, q_mul, q_nari, q_narb0, q_narb1, q_fiti, q_fitb0, q_fitb1, List.cons_append, List.nil_append, Nat.reduceAdd, Nat.reduceLeDiff, and_self, and_true, true_and, ↓reduceIte, ↓rc0, ↓gf0_0, ↓gf0_1, ↓gf0_2, ↓gf0_3, ↓gf0_4, ↓gf0_5, ↓gf0_6, ↓gf0_7, ↓pf0_7, ft0_7, ↓rc1, ↓gf1_0, ↓pf1_0, ft1_0, ↓gf1_1, ↓pf1_1, ft1_1, ↓gf1_2, ↓gf1_3, ↓gf1_4, ↓gf1_5, ↓gf1_6, ↓gf1_7, ↓gf1_8, ↓gf1_9, ↓gf1_10, ↓gf1_11, ↓gf1_12, ↓rc13, ↓gf13_0, ↓gf13_1, ↓gf13_2, ↓gf13_3, ↓gf13_4, ↓gf13_5, ↓gf13_6, ↓pf13_6, ft13_6, ↓gf13_7, ↓pf13_7, ft13_7, ↓gf13_8, ↓pf13_8, ft13_8, ↓gf13_9, ↓pf13_9, ft13_90, ft13_91, ↓gf13_10, ↓gf13_11, ↓gf13_12, ↓pf13_12, ft13_12, ↓gf13_13, ↓pf13_13, ft13_13, ↓gf13_14, ↓pf13_14, ft13_14, ↓rc21, ↓gf21_0, ↓pf21_0, ft21_0, ↓gf21_1, ↓pf21_1, ft21_1, ↓gf21_2, ↓pf21_2, ft21_2, ↓gf21_3, ↓pf21_3, ft21_3, ↓rc22, ↓gf22_0, ↓gf22_1, ↓gf22_2, ↓rc23, ↓gf23_0, ↓gf23_1, ↓gf23_2, ↓gf23_3, ↓pf23_3, ft23_3, ↓gf23_4, ↓pf23_4, ft23_4, ↓gf23_5, ↓pf23_5, ft23_50, ft23_51, ↓rc145, ↓gf145_0, ↓gf145_1, ↓pf145_1, ft145_1, ↓rc147, ↓gf147_0, ↓gf147_1, ↓pf147_1, ft147_1, ↓rc149, ↓gf149_0, ↓gf149_1, ↓gf149_2, ↓gf149_3, ↓gf149_4, ↓pf149_4, ft149_40, ft149_41, ↓gf149_5, ↓pf149_5, ft149_5, ↓gf149_6, ↓pf149_6, ft149_60, ft149_61, ↓gf149_7, ↓pf149_7, ft149_7, ↓gf149_8, ↓pf149_8, ft149_8, ↓gf149_9, ↓pf149_9, ft149_9, ↓gf149_10, ↓pf149_10, ft149_10, ↓gf149_11, ↓gf149_12, ↓pf149_12, ft149_12, ↓gf149_13, ↓pf149_13, ft149_13, ↓gf149_14, ↓gf149_15, ↓pf149_15, ft149_15, ↓gf149_16, ↓gf149_17, ↓gf149_18, ↓gf149_19, ↓pf149_19, ft149_19, ↓gf149_20, ↓pf149_20, ft149_20, ↓gf149_21, ↓gf149_22, ↓pf149_22, ft149_22, ↓ra2, ↓wa2, ↓ln2, ↓ra3, ↓wa3, ↓ln3, ↓ra4, ↓wa4, ↓ln4, ↓ra5, ↓wa5, ↓ln5, ↓ra6, ↓wa6, ↓ln6, ↓ra7, ↓wa7, ↓ln7, ↓ra8, ↓wa8, ↓ln8, ↓ra9, ↓wa9, ↓ln9, ↓ra10, ↓wa10, ↓ln10, ↓ra11, ↓wa11, ↓ln11, ↓ra12, ↓wa12, ↓ln12, ↓ra14, ↓wa14, ↓ln14, ↓ra15, ↓wa15, ↓ln15, ↓ra16, ↓wa16, ↓ln16, ↓ra17, ↓wa17, ↓ln17, ↓ra18, ↓wa18, ↓ln18, ↓ra19, ↓wa19, ↓ln19, ↓ra20, ↓wa20, ↓ln20, ↓ra146, ↓wa146, ↓ln146, ↓ra148, ↓wa148, ↓ln148, ↓ra150, ↓wa150, ↓ln150, ↓ra151, ↓wa151, ↓ln151, ↓ra152, ↓wa152, ↓ln152, ↓ra153, ↓wa153, ↓ln153, ↓ra154, ↓wa154, ↓ln154, ↓ra155, ↓wa155, ↓ln155, ↓ra156, ↓wa156, ↓ln156, ↓ra157, ↓wa157, ↓ln157, ↓ra158, ↓wa158, ↓ln158, ↓ra159, ↓wa159, ↓ln159, q_M_s, q_M_k, q_M_a, q_P_s, q_P_a, q_toN, q_i00, q_i10, q_j00, q_j10, q_le, show ¬ (96 : Int) ≤ (i : Int) by omega, not_true_eq_false, not_false_eq_true, if_true, if_false, e19, z48, r48, er, ep, q_bz, x2, hrd, w]
        rfl
    · rw [if_neg x1] at e19
      have hT : ¬ q_wT g P i = true := fun z => by
        unfold q_wT at z
        rw [Bool.and_eq_true] at z
        exact x1 z.1
      rw [← q_whS2 hT, q_cnt_succ, if_neg hT, Nat.add_zero]
      simp (disch := first | rfl | assumption | decide | omega | (unfold q_R; omega)) only [en15, e15_0, e15_1, e15_4, e15_5, e15_6, e15_7, e15_8, e15_12, e15_14, e15_17, e15_18, e15_20, e15_21, e15_24, e15_25, e15_28, e15_30, e15_32, e15_33, e15_34, e15_37, e15_38, e15_41, e15_43, e15_44, e15_45, e15_46, e15_49, e15_50, e15_51, e15_52, e15_53, e15_54, e15_55, e15_58, e15_61, e15_62, e15_66, e15_68, e15_71, e15_72, e15_74, e15_75, e15_78, e15_79, e15_82, e15_84, e15_85, e15_86, e15_87, e15_90, e15_91, e15_92, e15_93, e15_94, e15_95, e15_96, e15_99, e15_102, ↓q_nv0, ↓q_nv1, ↓q_nv2, ↓q_nv3, ↓q_nv4, ↓q_nv5, ↓q_nv6, ↓q_nv7, ↓q_nv8, ↓q_nv9, ↓q_nv10, ↓q_nv11, ↓q_nv12, ↓q_nv13, ↓q_nv14, ↓q_nv15, ↓q_nv16, ↓q_nv17, ↓q_nv18, ↓q_nv19, ↓q_nv20, ↓q_nv21, ↓q_nv22, ↓q_gi0, ↓q_gi1, ↓q_gi2, ↓q_gi3, ↓q_gi4, ↓q_gi5, ↓q_gi6, ↓q_gi7, ↓q_gi8, ↓q_gi9, ↓q_gr0, ↓q_gr1, ↓q_gr2, ↓q_gr3, ↓q_gr4, ↓q_gr5, ↓q_gr6, ↓q_gr7, ↓q_gr8, ↓q_gr9, ↓q_ls0, ↓q_ls1i, ↓q_ls1r, ↓q_ls1n, ↓q_ls2i, ↓q_ls2r, ↓q_ls2n, ↓q_ls3i, ↓q_ls3r, ↓q_ls3n, ↓q_ls4i, ↓q_ls4r, ↓q_ls4n, ↓q_ls5i, ↓q_ls5r, ↓q_ls5n, ↓q_ls6i, ↓q_ls6r, ↓q_ls6n, ↓q_ls7i, ↓q_ls7r, ↓q_ls7n, ↓q_ls8i, ↓q_ls8r, ↓q_ls8n, ↓q_ls9i, ↓q_ls9r, ↓q_ls9n, q_nd0, q_nd1i, q_nd1r, q_nd1n, q_nd2i, q_nd2r, q_nd2n, q_nd3i, q_nd3r, q_nd3n, q_nd4i, q_nd4r, q_nd4n, q_nd5i, q_nd5r, q_nd5n, q_nd6i, q_nd6r, q_nd6n, q_nd7i, q_nd7r, q_nd7n, q_nd8i, q_nd8r, q_nd8n, q_nd9i, q_nd9r, q_nd9n, q_st0, q_st1, q_st2, q_st3, q_st4, q_st5, q_st6, q_st7, q_st8, q_st9, q_cat_i, q_cat_r, q_cat_n, q_wt0, q_wt1, q_tl0, q_tl1, ↓q_cl1, q_add, q_sub, q_mul, q_nari, q_narb0, q_narb1, q_fiti, q_fitb0, q_fitb1, List.cons_append, List.nil_append, Nat.reduceAdd, Nat.reduceLeDiff, and_self, and_true, true_and, ↓reduceIte, ↓rc0, ↓gf0_0, ↓gf0_1, ↓gf0_2, ↓gf0_3, ↓gf0_4, ↓gf0_5, ↓gf0_6, ↓gf0_7, ↓pf0_7, ft0_7, ↓rc1, ↓gf1_0, ↓pf1_0, ft1_0, ↓gf1_1, ↓pf1_1, ft1_1, ↓gf1_2, ↓gf1_3, ↓gf1_4, ↓gf1_5, ↓gf1_6, ↓gf1_7, ↓gf1_8, ↓gf1_9, ↓gf1_10, ↓gf1_11, ↓gf1_12, ↓rc13, ↓gf13_0, ↓gf13_1, ↓gf13_2, ↓gf13_3, ↓gf13_4, ↓gf13_5, ↓gf13_6, ↓pf13_6, ft13_6, ↓gf13_7, ↓pf13_7, ft13_7, ↓gf13_8, ↓pf13_8, ft13_8, ↓gf13_9, ↓pf13_9, ft13_90, ft13_91, ↓gf13_10, ↓gf13_11, ↓gf13_12, ↓pf13_12, ft13_12, ↓gf13_13, ↓pf13_13, ft13_13, ↓gf13_14, ↓pf13_14, ft13_14, ↓rc21, ↓gf21_0, ↓pf21_0, ft21_0, ↓gf21_1, ↓pf21_1, ft21_1, ↓gf21_2, ↓pf21_2, ft21_2, ↓gf21_3, ↓pf21_3, ft21_3, ↓rc22, ↓gf22_0, ↓gf22_1, ↓gf22_2, ↓rc23, ↓gf23_0, ↓gf23_1, ↓gf23_2, ↓gf23_3, ↓pf23_3, ft23_3, ↓gf23_4, ↓pf23_4, ft23_4, ↓gf23_5, ↓pf23_5, ft23_50, ft23_51, ↓rc145, ↓gf145_0, ↓gf145_1, ↓pf145_1, ft145_1, ↓rc147, ↓gf147_0, ↓gf147_1, ↓pf147_1, ft147_1, ↓rc149, ↓gf149_0, ↓gf149_1, ↓gf149_2, ↓gf149_3, ↓gf149_4, ↓pf149_4, ft149_40, ft149_41, ↓gf149_5, ↓pf149_5, ft149_5, ↓gf149_6, ↓pf149_6, ft149_60, ft149_61, ↓gf149_7, ↓pf149_7, ft149_7, ↓gf149_8, ↓pf149_8, ft149_8, ↓gf149_9, ↓pf149_9, ft149_9, ↓gf149_10, ↓pf149_10, ft149_10, ↓gf149_11, ↓gf149_12, ↓pf149_12, ft149_12, ↓gf149_13, ↓pf149_13, ft149_13, ↓gf149_14, ↓gf149_15, ↓pf149_15, ft149_15, ↓gf149_16, ↓gf149_17, ↓gf149_18, ↓gf149_19, ↓pf149_19, ft149_19, ↓gf149_20, ↓pf149_20, ft149_20, ↓gf149_21, ↓gf149_22, ↓pf149_22, ft149_22, ↓ra2, ↓wa2, ↓ln2, ↓ra3, ↓wa3, ↓ln3, ↓ra4, ↓wa4, ↓ln4, ↓ra5, ↓wa5, ↓ln5, ↓ra6, ↓wa6, ↓ln6, ↓ra7, ↓wa7, ↓ln7, ↓ra8, ↓wa8, ↓ln8, ↓ra9, ↓wa9, ↓ln9, ↓ra10, ↓wa10, ↓ln10, ↓ra11, ↓wa11, ↓ln11, ↓ra12, ↓wa12, ↓ln12, ↓ra14, ↓wa14, ↓ln14, ↓ra15, ↓wa15, ↓ln15, ↓ra16, ↓wa16, ↓ln16, ↓ra17, ↓wa17, ↓ln17, ↓ra18, ↓wa18, ↓ln18, ↓ra19, ↓wa19, ↓ln19, ↓ra20, ↓wa20, ↓ln20, ↓ra146, ↓wa146, ↓ln146, ↓ra148, ↓wa148, ↓ln148, ↓ra150, ↓wa150, ↓ln150, ↓ra151, ↓wa151, ↓ln151, ↓ra152, ↓wa152, ↓ln152, ↓ra153, ↓wa153, ↓ln153, ↓ra154, ↓wa154, ↓ln154, ↓ra155, ↓wa155, ↓ln155, ↓ra156, ↓wa156, ↓ln156, ↓ra157, ↓wa157, ↓ln157, ↓ra158, ↓wa158, ↓ln158, ↓ra159, ↓wa159, ↓ln159, q_M_s, q_M_k, q_M_a, q_P_s, q_P_a, q_toN, q_i00, q_i10, q_j00, q_j10, q_le, show ¬ (96 : Int) ≤ (i : Int) by omega, not_true_eq_false, not_false_eq_true, if_true, if_false, e19]
      rfl)
  have e0 : q_P (q_P (q_M m 3 n 1) 10 (q_wh (m 10) (q_wT g P) n 0)) 6 (q_upd (m 6) n (q_cnt (q_wT g P) 0 : Nat)) = q_M m 3 n 1 := by
    rw [q_wh0, show q_cnt (q_wT g P) 0 = 0 from rfl, q_upd_id (by rw [wir0]; rfl), q_P_same (by rw [q_P_a (by decide), q_M_a (by decide)]), q_P_same (by rw [q_M_a (by decide)])]
  rw [e0] at hl1
  generalize hmA : q_P (q_P (q_M m 3 n 1) 10 (q_wh (m 10) (q_wT g P) n 96)) 6 (q_upd (m 6) n (q_cnt (q_wT g P) 96 : Nat)) = mA at hl1
  have fA : ∀ a, a ≠ 3 → a ≠ 6 → a ≠ 10 → mA a = m a := fun a a1 a2 a3 => by rw [← hmA, q_P_a a2, q_P_a a3, q_M_a a1]
  have A6 : mA 6 = q_upd (m 6) n (q_cnt (q_wT g P) 96 : Nat) := by rw [← hmA, q_P_s]
  have A10 : mA 10 = q_wh (m 10) (q_wT g P) n 96 := by rw [← hmA, q_P_a (by decide), q_P_s]
  have A3 : mA 3 = q_upd (m 3) n 1 := by rw [← hmA, q_P_a (by decide), q_P_a (by decide), q_M_P, q_P_s]
  have hl2 := q_for (M := 15) (pc := 64) (n := 48) (fun i => [.ref 1, .int (q_i n), .ref 19, .ref 20, .int (q_i i)]) (fun i => q_H (q_P (q_P mA 12 (q_wh (m 12) H 1 i)) 7 (q_upd (m 7) n (q_cnt H i))) K s) (fun i hi => by
    have e20 : mA 20 i = if H i = true then 1 else 0 := by rw [fA 20 (by decide) (by decide) (by decide), h20]; rfl
    have hle := q_cnt_le H i
    have hrd : q_upd (m 7) n (q_cnt H i) n = q_cnt H i := if_pos rfl
    try dsimp only
    rw [e15_64]
    by_cases x1 : H i = true
    · rw [if_pos x1] at e20
      have w := q_pp1 (m := mA) (a := 12) (b := 7) (i := i) (k := n) (f := q_wh (m 12) H 1 i) (u := q_upd (m 7) n (q_cnt H i)) (x := 1) (y := (q_cnt H i : Int) + 1) (by decide)
      rw [q_whS1 x1, q_upd_2] at w
      rw [q_cnt_succ, if_pos x1]
      simp (disch := first | rfl | assumption | decide | omega | (unfold q_R; omega)) only [en15, e15_0, e15_1, e15_4, e15_5, e15_6, e15_7, e15_8, e15_12, e15_14, e15_17, e15_18, e15_20, e15_21, e15_24, e15_25, e15_28, e15_30, e15_32, e15_33, e15_34, e15_37, e15_38, e15_41, e15_43, e15_44, e15_45, e15_46, e15_49, e15_50, e15_51, e15_52, e15_53, e15_54, e15_55, e15_58, e15_61, e15_62, e15_66, e15_68, e15_71, e15_72, e15_74, e15_75, e15_78, e15_79, e15_82, e15_84, e15_85, e15_86, e15_87, e15_90, e15_91, e15_92, e15_93, e15_94, e15_95, e15_96, e15_99, e15_102, e15_91 (v := .int (q_i (n : Int))) (w := .ref 7) ⟨rfl, rfl⟩, ↓q_nv0, ↓q_nv1, ↓q_nv2, ↓q_nv3, ↓q_nv4, ↓q_nv5, ↓q_nv6, ↓q_nv7, ↓q_nv8, ↓q_nv9, ↓q_nv10, ↓q_nv11, ↓q_nv12, ↓q_nv13, ↓q_nv14, ↓q_nv15, ↓q_nv16, ↓q_nv17, ↓q_nv18, ↓q_nv19, ↓q_nv20, ↓q_nv21, ↓q_nv22, ↓q_gi0, ↓q_gi1, ↓q_gi2, ↓q_gi3, ↓q_gi4, ↓q_gi5, ↓q_gi6, ↓q_gi7, ↓q_gi8, ↓q_gi9, ↓q_gr0, ↓q_gr1, ↓q_gr2, ↓q_gr3, ↓q_gr4, ↓q_gr5, ↓q_gr6, ↓q_gr7, ↓q_gr8, ↓q_gr9, ↓q_ls0, ↓q_ls1i, ↓q_ls1r, ↓q_ls1n, ↓q_ls2i, ↓q_ls2r, ↓q_ls2n, ↓q_ls3i, ↓q_ls3r, ↓q_ls3n, ↓q_ls4i, ↓q_ls4r, ↓q_ls4n, ↓q_ls5i, ↓q_ls5r, ↓q_ls5n, ↓q_ls6i, ↓q_ls6r, ↓q_ls6n, ↓q_ls7i, ↓q_ls7r, ↓q_ls7n, ↓q_ls8i, ↓q_ls8r, ↓q_ls8n, ↓q_ls9i, ↓q_ls9r, ↓q_ls9n, q_nd0, q_nd1i, q_nd1r, q_nd1n, q_nd2i, q_nd2r, q_nd2n, q_nd3i, q_nd3r, q_nd3n, q_nd4i, q_nd4r, q_nd4n, q_nd5i, q_nd5r, q_nd5n, q_nd6i, q_nd6r, q_nd6n, q_nd7i, q_nd7r, q_nd7n, q_nd8i, q_nd8r, q_nd8n, q_nd9i, q_nd9r, q_nd9n, q_st0, q_st1, q_st2, q_st3, q_st4, q_st5, q_st6, q_st7, q_st8, q_st9, q_cat_i, q_cat_r, q_cat_n, q_wt0, q_wt1, q_tl0, q_tl1, ↓q_cl1, q_add, q_sub, q_mul, q_nari, q_narb0, q_narb1, q_fiti, q_fitb0, q_fitb1, List.cons_append, List.nil_append, Nat.reduceAdd, Nat.reduceLeDiff, and_self, and_true, true_and, ↓reduceIte, ↓rc0, ↓gf0_0, ↓gf0_1, ↓gf0_2, ↓gf0_3, ↓gf0_4, ↓gf0_5, ↓gf0_6, ↓gf0_7, ↓pf0_7, ft0_7, ↓rc1, ↓gf1_0, ↓pf1_0, ft1_0, ↓gf1_1, ↓pf1_1, ft1_1, ↓gf1_2, ↓gf1_3, ↓gf1_4, ↓gf1_5, ↓gf1_6, ↓gf1_7, ↓gf1_8, ↓gf1_9, ↓gf1_10, ↓gf1_11, ↓gf1_12, ↓rc13, ↓gf13_0, ↓gf13_1, ↓gf13_2, ↓gf13_3, ↓gf13_4, ↓gf13_5, ↓gf13_6, ↓pf13_6, ft13_6, ↓gf13_7, ↓pf13_7, ft13_7, ↓gf13_8, ↓pf13_8, ft13_8, ↓gf13_9, ↓pf13_9, ft13_90, ft13_91, ↓gf13_10, ↓gf13_11, ↓gf13_12, ↓pf13_12, ft13_12, ↓gf13_13, ↓pf13_13, ft13_13, ↓gf13_14, ↓pf13_14, ft13_14, ↓rc21, ↓gf21_0, ↓pf21_0, ft21_0, ↓gf21_1, ↓pf21_1, ft21_1, ↓gf21_2, ↓pf21_2, ft21_2, ↓gf21_3, ↓pf21_3, ft21_3, ↓rc22, ↓gf22_0, ↓gf22_1, ↓gf22_2, ↓rc23, ↓gf23_0, ↓gf23_1, ↓gf23_2, ↓gf23_3, ↓pf23_3, ft23_3, ↓gf23_4, ↓pf23_4, ft23_4, ↓gf23_5, ↓pf23_5, ft23_50, ft23_51, ↓rc145, ↓gf145_0, ↓gf145_1, ↓pf145_1, ft145_1, ↓rc147, ↓gf147_0, ↓gf147_1, ↓pf147_1, ft147_1, ↓rc149, ↓gf149_0, ↓gf149_1, ↓gf149_2, ↓gf149_3, ↓gf149_4, ↓pf149_4, ft149_40, ft149_41, ↓gf149_5, ↓pf149_5, ft149_5, ↓gf149_6, ↓pf149_6, ft149_60, ft149_61, ↓gf149_7, ↓pf149_7, ft149_7, ↓gf149_8, ↓pf149_8, ft149_8, ↓gf149_9, ↓pf149_9, ft149_9, ↓gf149_10, ↓pf149_10, ft149_10, ↓gf149_11, ↓gf149_12, ↓pf149_12, ft149_12, ↓gf149_13, ↓pf149_13, ft149_13, ↓gf149_14, ↓gf149_15, ↓pf149_15, ft149_15, ↓gf149_16, ↓gf149_17, ↓gf149_18, ↓gf149_19, ↓pf149_19, ft149_19, ↓gf149_20, ↓pf149_20, ft149_20, ↓gf149_21, ↓gf149_22, ↓pf149_22, ft149_22, ↓ra2, ↓wa2, ↓ln2, ↓ra3, ↓wa3, ↓ln3, ↓ra4, ↓wa4, ↓ln4, ↓ra5, ↓wa5, ↓ln5, ↓ra6, ↓wa6, ↓ln6, ↓ra7, ↓wa7, ↓ln7, ↓ra8, ↓wa8, ↓ln8, ↓ra9, ↓wa9, ↓ln9, ↓ra10, ↓wa10, ↓ln10, ↓ra11, ↓wa11, ↓ln11, ↓ra12, ↓wa12, ↓ln12, ↓ra14, ↓wa14, ↓ln14, ↓ra15, ↓wa15, ↓ln15, ↓ra16, ↓wa16, ↓ln16, ↓ra17, ↓wa17, ↓ln17, ↓ra18, ↓wa18, ↓ln18, ↓ra19, ↓wa19, ↓ln19, ↓ra20, ↓wa20, ↓ln20, ↓ra146, ↓wa146, ↓ln146, ↓ra148, ↓wa148, ↓ln148, ↓ra150, ↓wa150, ↓ln150, ↓ra151, ↓wa151, ↓ln151, ↓ra152, ↓wa152, ↓ln152, ↓ra153, ↓wa153, ↓ln153, ↓ra154, ↓wa154, ↓ln154, ↓ra155, ↓wa155, ↓ln155, ↓ra156, ↓wa156, ↓ln156, ↓ra157, ↓wa157, ↓ln157, ↓ra158, ↓wa158, ↓ln158, ↓ra159, ↓wa159, ↓ln159, q_M_s, q_M_k, q_M_a, q_P_s, q_P_a, q_toN, q_i00, q_i10, q_j00, q_j10, q_le, show ¬ (48 : Int) ≤ (i : Int) by omega, not_true_eq_false, not_false_eq_true, if_true, if_false, e20, hrd, q_nb1, w]
      rfl
    · rw [if_neg x1] at e20
      rw [← q_whS2 x1, q_cnt_succ, if_neg x1, Nat.add_zero]
      simp (disch := first | rfl | assumption | decide | omega | (unfold q_R; omega)) only [en15, e15_0, e15_1, e15_4, e15_5, e15_6, e15_7, e15_8, e15_12, e15_14, e15_17, e15_18, e15_20, e15_21, e15_24, e15_25, e15_28, e15_30, e15_32, e15_33, e15_34, e15_37, e15_38, e15_41, e15_43, e15_44, e15_45, e15_46, e15_49, e15_50, e15_51, e15_52, e15_53, e15_54, e15_55, e15_58, e15_61, e15_62, e15_66, e15_68, e15_71, e15_72, e15_74, e15_75, e15_78, e15_79, e15_82, e15_84, e15_85, e15_86, e15_87, e15_90, e15_91, e15_92, e15_93, e15_94, e15_95, e15_96, e15_99, e15_102, ↓q_nv0, ↓q_nv1, ↓q_nv2, ↓q_nv3, ↓q_nv4, ↓q_nv5, ↓q_nv6, ↓q_nv7, ↓q_nv8, ↓q_nv9, ↓q_nv10, ↓q_nv11, ↓q_nv12, ↓q_nv13, ↓q_nv14, ↓q_nv15, ↓q_nv16, ↓q_nv17, ↓q_nv18, ↓q_nv19, ↓q_nv20, ↓q_nv21, ↓q_nv22, ↓q_gi0, ↓q_gi1, ↓q_gi2, ↓q_gi3, ↓q_gi4, ↓q_gi5, ↓q_gi6, ↓q_gi7, ↓q_gi8, ↓q_gi9, ↓q_gr0, ↓q_gr1, ↓q_gr2, ↓q_gr3, ↓q_gr4, ↓q_gr5, ↓q_gr6, ↓q_gr7, ↓q_gr8, ↓q_gr9, ↓q_ls0, ↓q_ls1i, ↓q_ls1r, ↓q_ls1n, ↓q_ls2i, ↓q_ls2r, ↓q_ls2n, ↓q_ls3i, ↓q_ls3r, ↓q_ls3n, ↓q_ls4i, ↓q_ls4r, ↓q_ls4n, ↓q_ls5i, ↓q_ls5r, ↓q_ls5n, ↓q_ls6i, ↓q_ls6r, ↓q_ls6n, ↓q_ls7i, ↓q_ls7r, ↓q_ls7n, ↓q_ls8i, ↓q_ls8r, ↓q_ls8n, ↓q_ls9i, ↓q_ls9r, ↓q_ls9n, q_nd0, q_nd1i, q_nd1r, q_nd1n, q_nd2i, q_nd2r, q_nd2n, q_nd3i, q_nd3r, q_nd3n, q_nd4i, q_nd4r, q_nd4n, q_nd5i, q_nd5r, q_nd5n, q_nd6i, q_nd6r, q_nd6n, q_nd7i, q_nd7r, q_nd7n, q_nd8i, q_nd8r, q_nd8n, q_nd9i, q_nd9r, q_nd9n, q_st0, q_st1, q_st2, q_st3, q_st4, q_st5, q_st6, q_st7, q_st8, q_st9, q_cat_i, q_cat_r, q_cat_n, q_wt0, q_wt1, q_tl0, q_tl1, ↓q_cl1, q_add, q_sub, q_mul, q_nari, q_narb0, q_narb1, q_fiti, q_fitb0, q_fitb1, List.cons_append, List.nil_append, Nat.reduceAdd, Nat.reduceLeDiff, and_self, and_true, true_and, ↓reduceIte, ↓rc0, ↓gf0_0, ↓gf0_1, ↓gf0_2, ↓gf0_3, ↓gf0_4, ↓gf0_5, ↓gf0_6, ↓gf0_7, ↓pf0_7, ft0_7, ↓rc1, ↓gf1_0, ↓pf1_0, ft1_0, ↓gf1_1, ↓pf1_1, ft1_1, ↓gf1_2, ↓gf1_3, ↓gf1_4, ↓gf1_5, ↓gf1_6, ↓gf1_7, ↓gf1_8, ↓gf1_9, ↓gf1_10, ↓gf1_11, ↓gf1_12, ↓rc13, ↓gf13_0, ↓gf13_1, ↓gf13_2, ↓gf13_3, ↓gf13_4, ↓gf13_5, ↓gf13_6, ↓pf13_6, ft13_6, ↓gf13_7, ↓pf13_7, ft13_7, ↓gf13_8, ↓pf13_8, ft13_8, ↓gf13_9, ↓pf13_9, ft13_90, ft13_91, ↓gf13_10, ↓gf13_11, ↓gf13_12, ↓pf13_12, ft13_12, ↓gf13_13, ↓pf13_13, ft13_13, ↓gf13_14, ↓pf13_14, ft13_14, ↓rc21, ↓gf21_0, ↓pf21_0, ft21_0, ↓gf21_1, ↓pf21_1, ft21_1, ↓gf21_2, ↓pf21_2, ft21_2, ↓gf21_3, ↓pf21_3, ft21_3, ↓rc22, ↓gf22_0, ↓gf22_1, ↓gf22_2, ↓rc23, ↓gf23_0, ↓gf23_1, ↓gf23_2, ↓gf23_3, ↓pf23_3, ft23_3, ↓gf23_4, ↓pf23_4, ft23_4, ↓gf23_5, ↓pf23_5, ft23_50, ft23_51, ↓rc145, ↓gf145_0, ↓gf145_1, ↓pf145_1, ft145_1, ↓rc147, ↓gf147_0, ↓gf147_1, ↓pf147_1, ft147_1, ↓rc149, ↓gf149_0, ↓gf149_1, ↓gf149_2, ↓gf149_3, ↓gf149_4, ↓pf149_4, ft149_40, ft149_41, ↓gf149_5, ↓pf149_5, ft149_5, ↓gf149_6, ↓pf149_6, ft149_60, ft149_61, ↓gf149_7, ↓pf149_7, ft149_7, ↓gf149_8, ↓pf149_8, ft149_8, ↓gf149_9, ↓pf149_9, ft149_9, ↓gf149_10, ↓pf149_10, ft149_10, ↓gf149_11, ↓gf149_12, ↓pf149_12, ft149_12, ↓gf149_13, ↓pf149_13, ft149_13, ↓gf149_14, ↓gf149_15, ↓pf149_15, ft149_15, ↓gf149_16, ↓gf149_17, ↓gf149_18, ↓gf149_19, ↓pf149_19, ft149_19, ↓gf149_20, ↓pf149_20, ft149_20, ↓gf149_21, ↓gf149_22, ↓pf149_22, ft149_22, ↓ra2, ↓wa2, ↓ln2, ↓ra3, ↓wa3, ↓ln3, ↓ra4, ↓wa4, ↓ln4, ↓ra5, ↓wa5, ↓ln5, ↓ra6, ↓wa6, ↓ln6, ↓ra7, ↓wa7, ↓ln7, ↓ra8, ↓wa8, ↓ln8, ↓ra9, ↓wa9, ↓ln9, ↓ra10, ↓wa10, ↓ln10, ↓ra11, ↓wa11, ↓ln11, ↓ra12, ↓wa12, ↓ln12, ↓ra14, ↓wa14, ↓ln14, ↓ra15, ↓wa15, ↓ln15, ↓ra16, ↓wa16, ↓ln16, ↓ra17, ↓wa17, ↓ln17, ↓ra18, ↓wa18, ↓ln18, ↓ra19, ↓wa19, ↓ln19, ↓ra20, ↓wa20, ↓ln20, ↓ra146, ↓wa146, ↓ln146, ↓ra148, ↓wa148, ↓ln148, ↓ra150, ↓wa150, ↓ln150, ↓ra151, ↓wa151, ↓ln151, ↓ra152, ↓wa152, ↓ln152, ↓ra153, ↓wa153, ↓ln153, ↓ra154, ↓wa154, ↓ln154, ↓ra155, ↓wa155, ↓ln155, ↓ra156, ↓wa156, ↓ln156, ↓ra157, ↓wa157, ↓ln157, ↓ra158, ↓wa158, ↓ln158, ↓ra159, ↓wa159, ↓ln159, q_M_s, q_M_k, q_M_a, q_P_s, q_P_a, q_toN, q_i00, q_i10, q_j00, q_j10, q_le, show ¬ (48 : Int) ≤ (i : Int) by omega, not_true_eq_false, not_false_eq_true, if_true, if_false, e20]
      rfl)
  have e1 : q_P (q_P mA 12 (q_wh (m 12) H 1 0)) 7 (q_upd (m 7) n (q_cnt H 0 : Nat)) = mA := by
    rw [q_wh0, show q_cnt H 0 = 0 from rfl, q_upd_id (by rw [hls0]; rfl), q_P_same (by rw [q_P_a (by decide)]; exact fA 7 (by decide) (by decide) (by decide)), q_P_same (fA 12 (by decide) (by decide) (by decide))]
  rw [e1] at hl2
  refine ⟨q_P (q_P mA 12 (q_wh (m 12) H 1 48)) 7 (q_upd (m 7) n (q_cnt H 48 : Nat)), ?_, ?_, ?_⟩
  · rw [en15, e15_0]
    simp (disch := first | rfl | assumption | decide | omega | (unfold q_R; omega)) only [en15, e15_0, e15_1, e15_4, e15_5, e15_6, e15_7, e15_8, e15_12, e15_14, e15_17, e15_18, e15_20, e15_21, e15_24, e15_25, e15_28, e15_30, e15_32, e15_33, e15_34, e15_37, e15_38, e15_41, e15_43, e15_44, e15_45, e15_46, e15_49, e15_50, e15_51, e15_52, e15_53, e15_54, e15_55, e15_58, e15_61, e15_62, e15_66, e15_68, e15_71, e15_72, e15_74, e15_75, e15_78, e15_79, e15_82, e15_84, e15_85, e15_86, e15_87, e15_90, e15_91, e15_92, e15_93, e15_94, e15_95, e15_96, e15_99, e15_102, ↓q_nv0, ↓q_nv1, ↓q_nv2, ↓q_nv3, ↓q_nv4, ↓q_nv5, ↓q_nv6, ↓q_nv7, ↓q_nv8, ↓q_nv9, ↓q_nv10, ↓q_nv11, ↓q_nv12, ↓q_nv13, ↓q_nv14, ↓q_nv15, ↓q_nv16, ↓q_nv17, ↓q_nv18, ↓q_nv19, ↓q_nv20, ↓q_nv21, ↓q_nv22, ↓q_gi0, ↓q_gi1, ↓q_gi2, ↓q_gi3, ↓q_gi4, ↓q_gi5, ↓q_gi6, ↓q_gi7, ↓q_gi8, ↓q_gi9, ↓q_gr0, ↓q_gr1, ↓q_gr2, ↓q_gr3, ↓q_gr4, ↓q_gr5, ↓q_gr6, ↓q_gr7, ↓q_gr8, ↓q_gr9, ↓q_ls0, ↓q_ls1i, ↓q_ls1r, ↓q_ls1n, ↓q_ls2i, ↓q_ls2r, ↓q_ls2n, ↓q_ls3i, ↓q_ls3r, ↓q_ls3n, ↓q_ls4i, ↓q_ls4r, ↓q_ls4n, ↓q_ls5i, ↓q_ls5r, ↓q_ls5n, ↓q_ls6i, ↓q_ls6r, ↓q_ls6n, ↓q_ls7i, ↓q_ls7r, ↓q_ls7n, ↓q_ls8i, ↓q_ls8r, ↓q_ls8n, ↓q_ls9i, ↓q_ls9r, ↓q_ls9n, q_nd0, q_nd1i, q_nd1r, q_nd1n, q_nd2i, q_nd2r, q_nd2n, q_nd3i, q_nd3r, q_nd3n, q_nd4i, q_nd4r, q_nd4n, q_nd5i, q_nd5r, q_nd5n, q_nd6i, q_nd6r, q_nd6n, q_nd7i, q_nd7r, q_nd7n, q_nd8i, q_nd8r, q_nd8n, q_nd9i, q_nd9r, q_nd9n, q_st0, q_st1, q_st2, q_st3, q_st4, q_st5, q_st6, q_st7, q_st8, q_st9, q_cat_i, q_cat_r, q_cat_n, q_wt0, q_wt1, q_tl0, q_tl1, ↓q_cl1, q_add, q_sub, q_mul, q_nari, q_narb0, q_narb1, q_fiti, q_fitb0, q_fitb1, List.cons_append, List.nil_append, Nat.reduceAdd, Nat.reduceLeDiff, and_self, and_true, true_and, ↓reduceIte, ↓rc0, ↓gf0_0, ↓gf0_1, ↓gf0_2, ↓gf0_3, ↓gf0_4, ↓gf0_5, ↓gf0_6, ↓gf0_7, ↓pf0_7, ft0_7, ↓rc1, ↓gf1_0, ↓pf1_0, ft1_0, ↓gf1_1, ↓pf1_1, ft1_1, ↓gf1_2, ↓gf1_3, ↓gf1_4, ↓gf1_5, ↓gf1_6, ↓gf1_7, ↓gf1_8, ↓gf1_9, ↓gf1_10, ↓gf1_11, ↓gf1_12, ↓rc13, ↓gf13_0, ↓gf13_1, ↓gf13_2, ↓gf13_3, ↓gf13_4, ↓gf13_5, ↓gf13_6, ↓pf13_6, ft13_6, ↓gf13_7, ↓pf13_7, ft13_7, ↓gf13_8, ↓pf13_8, ft13_8, ↓gf13_9, ↓pf13_9, ft13_90, ft13_91, ↓gf13_10, ↓gf13_11, ↓gf13_12, ↓pf13_12, ft13_12, ↓gf13_13, ↓pf13_13, ft13_13, ↓gf13_14, ↓pf13_14, ft13_14, ↓rc21, ↓gf21_0, ↓pf21_0, ft21_0, ↓gf21_1, ↓pf21_1, ft21_1, ↓gf21_2, ↓pf21_2, ft21_2, ↓gf21_3, ↓pf21_3, ft21_3, ↓rc22, ↓gf22_0, ↓gf22_1, ↓gf22_2, ↓rc23, ↓gf23_0, ↓gf23_1, ↓gf23_2, ↓gf23_3, ↓pf23_3, ft23_3, ↓gf23_4, ↓pf23_4, ft23_4, ↓gf23_5, ↓pf23_5, ft23_50, ft23_51, ↓rc145, ↓gf145_0, ↓gf145_1, ↓pf145_1, ft145_1, ↓rc147, ↓gf147_0, ↓gf147_1, ↓pf147_1, ft147_1, ↓rc149, ↓gf149_0, ↓gf149_1, ↓gf149_2, ↓gf149_3, ↓gf149_4, ↓pf149_4, ft149_40, ft149_41, ↓gf149_5, ↓pf149_5, ft149_5, ↓gf149_6, ↓pf149_6, ft149_60, ft149_61, ↓gf149_7, ↓pf149_7, ft149_7, ↓gf149_8, ↓pf149_8, ft149_8, ↓gf149_9, ↓pf149_9, ft149_9, ↓gf149_10, ↓pf149_10, ft149_10, ↓gf149_11, ↓gf149_12, ↓pf149_12, ft149_12, ↓gf149_13, ↓pf149_13, ft149_13, ↓gf149_14, ↓gf149_15, ↓pf149_15, ft149_15, ↓gf149_16, ↓gf149_17, ↓gf149_18, ↓gf149_19, ↓pf149_19, ft149_19, ↓gf149_20, ↓pf149_20, ft149_20, ↓gf149_21, ↓gf149_22, ↓pf149_22, ft149_22, ↓ra2, ↓wa2, ↓ln2, ↓ra3, ↓wa3, ↓ln3, ↓ra4, ↓wa4, ↓ln4, ↓ra5, ↓wa5, ↓ln5, ↓ra6, ↓wa6, ↓ln6, ↓ra7, ↓wa7, ↓ln7, ↓ra8, ↓wa8, ↓ln8, ↓ra9, ↓wa9, ↓ln9, ↓ra10, ↓wa10, ↓ln10, ↓ra11, ↓wa11, ↓ln11, ↓ra12, ↓wa12, ↓ln12, ↓ra14, ↓wa14, ↓ln14, ↓ra15, ↓wa15, ↓ln15, ↓ra16, ↓wa16, ↓ln16, ↓ra17, ↓wa17, ↓ln17, ↓ra18, ↓wa18, ↓ln18, ↓ra19, ↓wa19, ↓ln19, ↓ra20, ↓wa20, ↓ln20, ↓ra146, ↓wa146, ↓ln146, ↓ra148, ↓wa148, ↓ln148, ↓ra150, ↓wa150, ↓ln150, ↓ra151, ↓wa151, ↓ln151, ↓ra152, ↓wa152, ↓ln152, ↓ra153, ↓wa153, ↓ln153, ↓ra154, ↓wa154, ↓ln154, ↓ra155, ↓wa155, ↓ln155, ↓ra156, ↓wa156, ↓ln156, ↓ra157, ↓wa157, ↓ln157, ↓ra158, ↓wa158, ↓ln158, ↓ra159, ↓wa159, ↓ln159, q_M_s, q_M_k, q_M_a, q_P_s, q_P_a, q_toN, q_i00, q_i10, q_j00, q_j10, q_nb1]
    refine Eq.trans hl1 ?_
    rw [e15_10]
    simp (disch := first | rfl | assumption | decide | omega | (unfold q_R; omega)) only [en15, e15_0, e15_1, e15_4, e15_5, e15_6, e15_7, e15_8, e15_12, e15_14, e15_17, e15_18, e15_20, e15_21, e15_24, e15_25, e15_28, e15_30, e15_32, e15_33, e15_34, e15_37, e15_38, e15_41, e15_43, e15_44, e15_45, e15_46, e15_49, e15_50, e15_51, e15_52, e15_53, e15_54, e15_55, e15_58, e15_61, e15_62, e15_66, e15_68, e15_71, e15_72, e15_74, e15_75, e15_78, e15_79, e15_82, e15_84, e15_85, e15_86, e15_87, e15_90, e15_91, e15_92, e15_93, e15_94, e15_95, e15_96, e15_99, e15_102, ↓q_nv0, ↓q_nv1, ↓q_nv2, ↓q_nv3, ↓q_nv4, ↓q_nv5, ↓q_nv6, ↓q_nv7, ↓q_nv8, ↓q_nv9, ↓q_nv10, ↓q_nv11, ↓q_nv12, ↓q_nv13, ↓q_nv14, ↓q_nv15, ↓q_nv16, ↓q_nv17, ↓q_nv18, ↓q_nv19, ↓q_nv20, ↓q_nv21, ↓q_nv22, ↓q_gi0, ↓q_gi1, ↓q_gi2, ↓q_gi3, ↓q_gi4, ↓q_gi5, ↓q_gi6, ↓q_gi7, ↓q_gi8, ↓q_gi9, ↓q_gr0, ↓q_gr1, ↓q_gr2, ↓q_gr3, ↓q_gr4, ↓q_gr5, ↓q_gr6, ↓q_gr7, ↓q_gr8, ↓q_gr9, ↓q_ls0, ↓q_ls1i, ↓q_ls1r, ↓q_ls1n, ↓q_ls2i, ↓q_ls2r, ↓q_ls2n, ↓q_ls3i, ↓q_ls3r, ↓q_ls3n, ↓q_ls4i, ↓q_ls4r, ↓q_ls4n, ↓q_ls5i, ↓q_ls5r, ↓q_ls5n, ↓q_ls6i, ↓q_ls6r, ↓q_ls6n, ↓q_ls7i, ↓q_ls7r, ↓q_ls7n, ↓q_ls8i, ↓q_ls8r, ↓q_ls8n, ↓q_ls9i, ↓q_ls9r, ↓q_ls9n, q_nd0, q_nd1i, q_nd1r, q_nd1n, q_nd2i, q_nd2r, q_nd2n, q_nd3i, q_nd3r, q_nd3n, q_nd4i, q_nd4r, q_nd4n, q_nd5i, q_nd5r, q_nd5n, q_nd6i, q_nd6r, q_nd6n, q_nd7i, q_nd7r, q_nd7n, q_nd8i, q_nd8r, q_nd8n, q_nd9i, q_nd9r, q_nd9n, q_st0, q_st1, q_st2, q_st3, q_st4, q_st5, q_st6, q_st7, q_st8, q_st9, q_cat_i, q_cat_r, q_cat_n, q_wt0, q_wt1, q_tl0, q_tl1, ↓q_cl1, q_add, q_sub, q_mul, q_nari, q_narb0, q_narb1, q_fiti, q_fitb0, q_fitb1, List.cons_append, List.nil_append, Nat.reduceAdd, Nat.reduceLeDiff, and_self, and_true, true_and, ↓reduceIte, q_le, show (96 : Int) ≤ ((96 : Nat) : Int) by decide, not_true_eq_false, not_false_eq_true, if_true, if_false]
    refine Eq.trans hl2 ?_
    rw [e15_64]
    simp (disch := first | rfl | assumption | decide | omega | (unfold q_R; omega)) only [en15, e15_0, e15_1, e15_4, e15_5, e15_6, e15_7, e15_8, e15_12, e15_14, e15_17, e15_18, e15_20, e15_21, e15_24, e15_25, e15_28, e15_30, e15_32, e15_33, e15_34, e15_37, e15_38, e15_41, e15_43, e15_44, e15_45, e15_46, e15_49, e15_50, e15_51, e15_52, e15_53, e15_54, e15_55, e15_58, e15_61, e15_62, e15_66, e15_68, e15_71, e15_72, e15_74, e15_75, e15_78, e15_79, e15_82, e15_84, e15_85, e15_86, e15_87, e15_90, e15_91, e15_92, e15_93, e15_94, e15_95, e15_96, e15_99, e15_102, ↓q_nv0, ↓q_nv1, ↓q_nv2, ↓q_nv3, ↓q_nv4, ↓q_nv5, ↓q_nv6, ↓q_nv7, ↓q_nv8, ↓q_nv9, ↓q_nv10, ↓q_nv11, ↓q_nv12, ↓q_nv13, ↓q_nv14, ↓q_nv15, ↓q_nv16, ↓q_nv17, ↓q_nv18, ↓q_nv19, ↓q_nv20, ↓q_nv21, ↓q_nv22, ↓q_gi0, ↓q_gi1, ↓q_gi2, ↓q_gi3, ↓q_gi4, ↓q_gi5, ↓q_gi6, ↓q_gi7, ↓q_gi8, ↓q_gi9, ↓q_gr0, ↓q_gr1, ↓q_gr2, ↓q_gr3, ↓q_gr4, ↓q_gr5, ↓q_gr6, ↓q_gr7, ↓q_gr8, ↓q_gr9, ↓q_ls0, ↓q_ls1i, ↓q_ls1r, ↓q_ls1n, ↓q_ls2i, ↓q_ls2r, ↓q_ls2n, ↓q_ls3i, ↓q_ls3r, ↓q_ls3n, ↓q_ls4i, ↓q_ls4r, ↓q_ls4n, ↓q_ls5i, ↓q_ls5r, ↓q_ls5n, ↓q_ls6i, ↓q_ls6r, ↓q_ls6n, ↓q_ls7i, ↓q_ls7r, ↓q_ls7n, ↓q_ls8i, ↓q_ls8r, ↓q_ls8n, ↓q_ls9i, ↓q_ls9r, ↓q_ls9n, q_nd0, q_nd1i, q_nd1r, q_nd1n, q_nd2i, q_nd2r, q_nd2n, q_nd3i, q_nd3r, q_nd3n, q_nd4i, q_nd4r, q_nd4n, q_nd5i, q_nd5r, q_nd5n, q_nd6i, q_nd6r, q_nd6n, q_nd7i, q_nd7r, q_nd7n, q_nd8i, q_nd8r, q_nd8n, q_nd9i, q_nd9r, q_nd9n, q_st0, q_st1, q_st2, q_st3, q_st4, q_st5, q_st6, q_st7, q_st8, q_st9, q_cat_i, q_cat_r, q_cat_n, q_wt0, q_wt1, q_tl0, q_tl1, ↓q_cl1, q_add, q_sub, q_mul, q_nari, q_narb0, q_narb1, q_fiti, q_fitb0, q_fitb1, List.cons_append, List.nil_append, Nat.reduceAdd, Nat.reduceLeDiff, and_self, and_true, true_and, ↓reduceIte, q_le, show (48 : Int) ≤ ((48 : Nat) : Int) by decide, not_true_eq_false, not_false_eq_true, if_true, if_false]
  · have hcell := fun c (hc : c < 96) => q_gw_c (g := g) (P := P) (H := H) (cost := cost) hn6 hc
    have hhole := fun p (hp : p < 48) => q_gw_h (g := g) (P := P) (H := H) (cost := cost) hn6 hp
    have hT : ∀ c, q_wT g P c = true ↔ P c = true ∧ g (55 + c) = 0 := fun c => by
      unfold q_wT
      rw [Bool.and_eq_true, decide_eq_true_iff]
    refine ⟨?_, ?_, fun a ha => ?_, fun a ha => ?_, fun a ha => ?_, fun a ha => ?_, fun a ha => ?_, fun a ha => ?_, fun a ha => ?_, fun a b ha hb => ?_, fun j hj => ?_, fun j hj => ?_, fun q hq => ?_⟩
    · rw [q_M_a (by decide), q_P_a (by decide), q_P_a (by decide), fA 1 (by decide) (by decide) (by decide), q_gw_lo (by omega) (by omega) (by omega)]
      exact b1
    · rw [q_M_a (by decide), q_P_a (by decide), q_P_a (by decide), fA 1 (by decide) (by decide) (by decide), b2]
      refine congrArg Nat.cast (q_cnt_congr fun i hi => ?_)
      rw [hcell i hi]
      by_cases hx : P i = true ∧ g (55 + i) = 0
      · rw [if_pos hx, decide_eq_false (by omega), decide_eq_false (by omega)]
      · rw [if_neg hx]
    · rw [q_M_a (by decide), q_P_a (by decide), q_P_a (by decide), fA _ (by decide) (by decide) (by decide), q_gw_lo (by omega) (by omega) (by omega)]
      exact b3 a ha
    · rw [q_M_a (by decide), q_P_a (by decide), q_P_a (by decide), A3]
      by_cases ea : a = n
      · subst ea
        rw [q_gw_7]
        exact if_pos rfl
      · rw [q_upd_o ea, q_gw_lo (by omega) (by omega) (by omega)]
        exact b4 a ha
    · rw [q_M_a (by decide), q_P_a (by decide), q_P_a (by decide), fA _ (by decide) (by decide) (by decide), q_gw_lo (by omega) (by omega) (by omega)]
      exact b5 a ha
    · by_cases ea : a = n
      · subst ea
        rw [q_M_s, q_gw_8]
      · rw [q_M_k ea, q_P_a (by decide), q_P_a (by decide), fA _ (by decide) (by decide) (by decide), q_gw_lo (by omega) (by omega) (by omega)]
        exact b6 a ha
    · rw [q_M_a (by decide), q_P_a (by decide), q_P_a (by decide), A6]
      by_cases ea : a = n
      · subst ea
        refine Eq.trans (if_pos rfl) (congrArg Nat.cast (q_cnt_congr fun i hi => ?_))
        rw [hcell i hi, Bool.eq_iff_iff, hT, decide_eq_true_iff]
        have := nw i hi
        by_cases hx : P i = true ∧ g (55 + i) = 0
        · rw [if_pos hx]
          exact ⟨fun _ => rfl, fun _ => hx⟩
        · rw [if_neg hx]
          exact ⟨fun z => absurd z hx, fun z => absurd z this⟩
      · rw [q_upd_o ea, b7 a ha]
        refine congrArg Nat.cast (q_cnt_congr fun i hi => ?_)
        rw [hcell i hi]
        by_cases hx : P i = true ∧ g (55 + i) = 0
        · rw [if_pos hx, decide_eq_false (by omega), decide_eq_false (by omega)]
        · rw [if_neg hx]
    · rw [q_M_a (by decide), q_P_s]
      by_cases ea : a = n
      · subst ea
        refine Eq.trans (if_pos rfl) (congrArg Nat.cast (q_cnt_congr fun i hi => ?_))
        rw [hhole i hi, Bool.eq_iff_iff, decide_eq_true_iff]
        have := nh i hi
        by_cases hx : H i = true
        · rw [if_pos hx, hx]
          simp
        · rw [if_neg hx]
          constructor
          · intro z
            exact absurd z hx
          · intro z
            exact absurd z this
      · rw [q_upd_o ea, b8 a ha]
        refine congrArg Nat.cast (q_cnt_congr fun i hi => ?_)
        rw [hhole i hi]
        by_cases hx : H i = true
        · have h4 := l4 i hi hx
          have h13 := w13 i hi
          rw [if_pos hx, decide_eq_false (by omega), decide_eq_false (by omega)]
        · rw [if_neg hx]
    · rw [q_M_a (by decide), q_P_a (by decide), q_P_a (by decide), fA _ (by decide) (by decide) (by decide), q_gw_lo (by omega) (by omega) (by omega)]
      exact b9 a ha
    · rw [q_M_a (by decide), q_P_a (by decide), q_P_a (by decide), fA _ (by decide) (by decide) (by decide), q_gw_lo (by omega) (by omega) (by omega)]
      exact b10 a b ha hb
    · rw [q_M_a (by decide), q_P_a (by decide), q_P_a (by decide), A10]
      have hi : q_is (q_gw g n P H cost) (j : Int) = q_gw g n P H cost (55 + j) := q_is_nat
      have hi2 : q_is g (j : Int) = g (55 + j) := q_is_nat
      have h11 := b11 j hj
      unfold q_hl at h11 ⊢
      rw [hi, hcell j hj]
      rw [hi2] at h11
      unfold q_wh
      by_cases hx : P j = true ∧ g (55 + j) = 0
      · rw [if_pos ⟨hj, (hT j).mpr hx⟩, if_pos hx, if_neg (by omega), if_neg (by omega)]
        omega
      · rw [if_neg (fun z => hx ((hT j).mp z.2)), if_neg hx]
        exact h11
    · rw [q_M_a (by decide), q_P_a (by decide), q_P_a (by decide), fA _ (by decide) (by decide) (by decide)]
      have hi : q_is (q_gw g n P H cost) (j : Int) = q_gw g n P H cost (55 + j) := q_is_nat
      have hi2 : q_is g (j : Int) = g (55 + j) := q_is_nat
      refine (b12 j hj).trans (q_b_iff ?_)
      unfold q_pin
      rw [hi, hi2, hcell j hj]
      by_cases hx : P j = true ∧ g (55 + j) = 0
      · rw [if_pos hx]
        omega
      · rw [if_neg hx]
    · rw [q_M_a (by decide), q_P_a (by decide), q_P_s]
      unfold q_wh
      rw [hhole q hq]
      by_cases hx : H q = true
      · rw [if_pos ⟨hq, hx⟩, if_pos hx, q_b1 (by omega)]
      · rw [if_neg (fun z => hx z.2), if_neg hx]
        exact b13 q hq
  · intro a ha
    rw [q_P_a (by omega), q_P_a (by omega)]
    exact fA a (by omega) (by omega) (by omega)
end M91
