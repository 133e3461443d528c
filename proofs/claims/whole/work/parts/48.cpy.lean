theorem q_nb0 : vp_nar .boolean (q_i 0) = q_i 0 := by decide
theorem q_nb1 : vp_nar .boolean (q_i 1) = q_i 1 := by decide
theorem q_nb {x : Int} (h : x = 0 ∨ x = 1) : vp_nar .boolean (q_i x) = q_i x := by
  rcases h with rfl | rfl
  · exact q_nb0
  · exact q_nb1
section M48
variable {m : Nat → Nat → Int} {K : Nat × Nat} {s : List Int32} {b o : Nat}
/-- the board at o is laid into that at b -/
def q_cB (m : Nat → Nat → Int) (b o : Nat) : Nat → Nat → Int := fun a => if b ≤ a ∧ a < b + 12 then m (o + (a - b)) else m a
def q_pf2 (f g : Nat → Int) (i : Nat) : Nat → Int := fun j => if j < i then g j else f j
theorem q_pf20 {f g : Nat → Int} : q_pf2 f g 0 = f := funext fun j => if_neg (by omega)
theorem q_pf2S {f g : Nat → Int} {i : Nat} : q_upd (q_pf2 f g i) i (g i) = q_pf2 f g (i + 1) := by
  funext j
  unfold q_upd q_pf2
  by_cases h : j = i
  · subst h
    rw [if_pos rfl, if_pos (by omega)]
  · rw [if_neg h]
    by_cases h2 : j < i
    · rw [if_pos h2, if_pos (by omega)]
    · rw [if_neg h2, if_neg (by omega)]
/-- two rows side by side, laid from o to b as far as i -/
def q_L (m : Nat → Nat → Int) (b o p q i : Nat) : Nat → Nat → Int := q_P (q_P m (b + p) (q_pf2 (m (b + p)) (m (o + p)) i)) (b + q) (q_pf2 (m (b + q)) (m (o + q)) i)
theorem q_L0 {p q : Nat} (h : q ≠ p) : q_L m b o p q 0 = m := by
  unfold q_L
  rw [q_pf20, q_P_id, q_pf20, q_P_id]
theorem q_L_a {p q i a : Nat} (h1 : a ≠ b + p) (h2 : a ≠ b + q) : q_L m b o p q i a = m a := by
  unfold q_L
  rw [q_P_a h2, q_P_a h1]
theorem q_LS {p q i : Nat} (h : p ≠ q) : q_M (q_M (q_L m b o p q i) (b + p) i (m (o + p) i)) (b + q) i (m (o + q) i) = q_L m b o p q (i + 1) := by
  unfold q_L
  rw [q_M_P, q_M_P]
  funext a j
  by_cases h1 : a = b + q
  · subst h1
    rw [q_P_s, q_P_s, q_P_a (by omega), q_P_s, q_pf2S]
  · rw [q_P_a h1, q_P_a h1]
    by_cases h2 : a = b + p
    · subst h2
      rw [q_P_s, q_P_s, q_P_a (by omega), q_P_s, q_pf2S]
    · rw [q_P_a h2, q_P_a h1, q_P_a h2, q_P_a h2]
theorem q_far {i j : Nat} (hd : b + 12 ≤ o ∨ o + 12 ≤ b) (hi : i < 12) (hj : j < 12) : o + i ≠ b + j := by omega
theorem l1a (hb : q_isB b) (ho : q_isB o) (hd : b + 12 ≤ o ∨ o + 12 ≤ b) (h1 : ∀ j, j < 6 → m (o + 1) j = 0 ∨ m (o + 1) j = 1) (h2 : ∀ j, j < 6 → m (o + 2) j = 0 ∨ m (o + 2) j = 1) (i : Nat) (hi : i < 6) :
    x_run 1 18 [.ref b, .ref o, .int (q_i i)] [] (q_H (q_L m b o 1 2 i) K s) = x_run 1 18 [.ref b, .ref o, .int (q_i (i + 1 : Nat))] [] (q_H (q_L m b o 1 2 (i + 1)) K s) := by
  have h6 : ¬ (6 : Int) ≤ (i : Int) := by omega
  have r1 : q_L m b o 1 2 i (o + 1) = m (o + 1) := q_L_a (by omega) (by omega)
  have r2 : q_M (q_L m b o 1 2 i) (b + 1) i (m (o + 1) i) (o + 2) = m (o + 2) := by rw [q_M_a (by omega), q_L_a (by omega) (by omega)]
  have w1 := q_nb (h1 i hi)
  have w2 := q_nb (h2 i hi)
  have e := q_LS (m := m) (b := b) (o := o) (p := 1) (q := 2) (i := i) (by decide)
  rw [e1_18]
  simp (disch := first | rfl | assumption | decide | omega | (unfold q_R; omega)) only [en1, e1_0, e1_1, e1_2, e1_5, e1_8, e1_9, e1_10, e1_13, e1_16, e1_17, e1_19, e1_21, e1_24, e1_25, e1_28, e1_29, e1_30, e1_33, e1_34, e1_35, e1_36, e1_37, e1_40, e1_41, e1_42, e1_45, e1_46, e1_47, e1_48, e1_51, e1_54, e1_55, e1_56, e1_57, e1_59, e1_62, e1_63, e1_66, e1_67, e1_68, e1_71, e1_72, e1_73, e1_74, e1_75, e1_78, e1_79, e1_80, e1_83, e1_84, e1_85, e1_86, e1_89, e1_92, e1_93, e1_96, e1_97, e1_98, e1_101, e1_102, e1_104, e1_107, e1_108, e1_111, e1_112, e1_113, e1_116, e1_117, e1_119, e1_122, e1_123, e1_126, e1_127, e1_128, e1_131, e1_132, e1_134, e1_137, e1_138, e1_141, e1_142, e1_143, e1_146, e1_147, e1_149, e1_152, e1_153, e1_156, e1_157, e1_158, e1_161, e1_162, e1_164, e1_167, e1_168, e1_171, e1_172, e1_173, e1_176, e1_177, e1_179, e1_182, e1_183, e1_186, e1_187, e1_188, e1_191, e1_192, e1_194, e1_197, ↓q_nv0, ↓q_nv1, ↓q_nv2, ↓q_nv3, ↓q_nv4, ↓q_nv5, ↓q_nv6, ↓q_nv7, ↓q_nv8, ↓q_nv9, ↓q_nv10, ↓q_nv11, ↓q_nv12, ↓q_nv13, ↓q_nv14, ↓q_nv15, ↓q_nv16, ↓q_nv17, ↓q_nv18, ↓q_nv19, ↓q_nv20, ↓q_nv21, ↓q_nv22, ↓q_gi0, ↓q_gi1, ↓q_gi2, ↓q_gi3, ↓q_gi4, ↓q_gi5, ↓q_gi6, ↓q_gi7, ↓q_gi8, ↓q_gi9, ↓q_gr0, ↓q_gr1, ↓q_gr2, ↓q_gr3, ↓q_gr4, ↓q_gr5, ↓q_gr6, ↓q_gr7, ↓q_gr8, ↓q_gr9, ↓q_ls0, ↓q_ls1i, ↓q_ls1r, ↓q_ls1n, ↓q_ls2i, ↓q_ls2r, ↓q_ls2n, ↓q_ls3i, ↓q_ls3r, ↓q_ls3n, ↓q_ls4i, ↓q_ls4r, ↓q_ls4n, ↓q_ls5i, ↓q_ls5r, ↓q_ls5n, ↓q_ls6i, ↓q_ls6r, ↓q_ls6n, ↓q_ls7i, ↓q_ls7r, ↓q_ls7n, ↓q_ls8i, ↓q_ls8r, ↓q_ls8n, ↓q_ls9i, ↓q_ls9r, ↓q_ls9n, q_nd0, q_nd1i, q_nd1r, q_nd1n, q_nd2i, q_nd2r, q_nd2n, q_nd3i, q_nd3r, q_nd3n, q_nd4i, q_nd4r, q_nd4n, q_nd5i, q_nd5r, q_nd5n, q_nd6i, q_nd6r, q_nd6n, q_nd7i, q_nd7r, q_nd7n, q_nd8i, q_nd8r, q_nd8n, q_nd9i, q_nd9r, q_nd9n, q_st0, q_st1, q_st2, q_st3, q_st4, q_st5, q_st6, q_st7, q_st8, q_st9, q_cat_i, q_cat_r, q_cat_n, q_wt0, q_wt1, q_tl0, q_tl1, ↓q_cl1, q_add, q_sub, q_mul, q_nari, q_narb0, q_narb1, q_fiti, q_fitb0, q_fitb1, List.cons_append, List.nil_append, Nat.reduceAdd, Nat.reduceLeDiff, and_self, and_true, true_and, ↓reduceIte, q_le, h6, if_false, gfB_2, gfB_3, raB1, raB2, waB1, waB2, q_toN, r1, r2, w1, w2, e]
  rfl
theorem l1b (hb : q_isB b) (ho : q_isB o) (hd : b + 12 ≤ o ∨ o + 12 ≤ b) (h1 : ∀ j, j < 48 → m (o + 10) j = 0 ∨ m (o + 10) j = 1) (h2 : ∀ j, j < 48 → m (o + 11) j = 0 ∨ m (o + 11) j = 1) (i : Nat) (hi : i < 48) :
    x_run 1 56 [.ref b, .ref o, .int (q_i i)] [] (q_H (q_L m b o 10 11 i) K s) = x_run 1 56 [.ref b, .ref o, .int (q_i (i + 1 : Nat))] [] (q_H (q_L m b o 10 11 (i + 1)) K s) := by
  have h6 : ¬ (48 : Int) ≤ (i : Int) := by omega
  have r1 : q_L m b o 10 11 i (o + 10) = m (o + 10) := q_L_a (by omega) (by omega)
  have r2 : q_M (q_L m b o 10 11 i) (b + 10) i (m (o + 10) i) (o + 11) = m (o + 11) := by rw [q_M_a (by omega), q_L_a (by omega) (by omega)]
  have w1 := q_nb (h1 i hi)
  have w2 := q_nb (h2 i hi)
  have e := q_LS (m := m) (b := b) (o := o) (p := 10) (q := 11) (i := i) (by decide)
  rw [e1_56]
  simp (disch := first | rfl | assumption | decide | omega | (unfold q_R; omega)) only [en1, e1_0, e1_1, e1_2, e1_5, e1_8, e1_9, e1_10, e1_13, e1_16, e1_17, e1_18, e1_19, e1_21, e1_24, e1_25, e1_28, e1_29, e1_30, e1_33, e1_34, e1_35, e1_36, e1_37, e1_40, e1_41, e1_42, e1_45, e1_46, e1_47, e1_48, e1_51, e1_54, e1_55, e1_57, e1_59, e1_62, e1_63, e1_66, e1_67, e1_68, e1_71, e1_72, e1_73, e1_74, e1_75, e1_78, e1_79, e1_80, e1_83, e1_84, e1_85, e1_86, e1_89, e1_92, e1_93, e1_96, e1_97, e1_98, e1_101, e1_102, e1_104, e1_107, e1_108, e1_111, e1_112, e1_113, e1_116, e1_117, e1_119, e1_122, e1_123, e1_126, e1_127, e1_128, e1_131, e1_132, e1_134, e1_137, e1_138, e1_141, e1_142, e1_143, e1_146, e1_147, e1_149, e1_152, e1_153, e1_156, e1_157, e1_158, e1_161, e1_162, e1_164, e1_167, e1_168, e1_171, e1_172, e1_173, e1_176, e1_177, e1_179, e1_182, e1_183, e1_186, e1_187, e1_188, e1_191, e1_192, e1_194, e1_197, ↓q_nv0, ↓q_nv1, ↓q_nv2, ↓q_nv3, ↓q_nv4, ↓q_nv5, ↓q_nv6, ↓q_nv7, ↓q_nv8, ↓q_nv9, ↓q_nv10, ↓q_nv11, ↓q_nv12, ↓q_nv13, ↓q_nv14, ↓q_nv15, ↓q_nv16, ↓q_nv17, ↓q_nv18, ↓q_nv19, ↓q_nv20, ↓q_nv21, ↓q_nv22, ↓q_gi0, ↓q_gi1, ↓q_gi2, ↓q_gi3, ↓q_gi4, ↓q_gi5, ↓q_gi6, ↓q_gi7, ↓q_gi8, ↓q_gi9, ↓q_gr0, ↓q_gr1, ↓q_gr2, ↓q_gr3, ↓q_gr4, ↓q_gr5, ↓q_gr6, ↓q_gr7, ↓q_gr8, ↓q_gr9, ↓q_ls0, ↓q_ls1i, ↓q_ls1r, ↓q_ls1n, ↓q_ls2i, ↓q_ls2r, ↓q_ls2n, ↓q_ls3i, ↓q_ls3r, ↓q_ls3n, ↓q_ls4i, ↓q_ls4r, ↓q_ls4n, ↓q_ls5i, ↓q_ls5r, ↓q_ls5n, ↓q_ls6i, ↓q_ls6r, ↓q_ls6n, ↓q_ls7i, ↓q_ls7r, ↓q_ls7n, ↓q_ls8i, ↓q_ls8r, ↓q_ls8n, ↓q_ls9i, ↓q_ls9r, ↓q_ls9n, q_nd0, q_nd1i, q_nd1r, q_nd1n, q_nd2i, q_nd2r, q_nd2n, q_nd3i, q_nd3r, q_nd3n, q_nd4i, q_nd4r, q_nd4n, q_nd5i, q_nd5r, q_nd5n, q_nd6i, q_nd6r, q_nd6n, q_nd7i, q_nd7r, q_nd7n, q_nd8i, q_nd8r, q_nd8n, q_nd9i, q_nd9r, q_nd9n, q_st0, q_st1, q_st2, q_st3, q_st4, q_st5, q_st6, q_st7, q_st8, q_st9, q_cat_i, q_cat_r, q_cat_n, q_wt0, q_wt1, q_tl0, q_tl1, ↓q_cl1, q_add, q_sub, q_mul, q_nari, q_narb0, q_narb1, q_fiti, q_fitb0, q_fitb1, List.cons_append, List.nil_append, Nat.reduceAdd, Nat.reduceLeDiff, and_self, and_true, true_and, ↓reduceIte, q_le, h6, if_false, gfB_11, gfB_12, raB10, raB11, waB10, waB11, q_toN, r1, r2, w1, w2, e]
  rfl
theorem q_pf2_ar {n : Nat} {f g : Nat → Int} : q_ar n (q_pf2 f g n) = q_ar n g := q_ar_ext fun i hi => if_pos hi
theorem m1 (hb : q_isB b) (ho : q_isB o) (hd : b + 12 ≤ o ∨ o + 12 ≤ b) (h1 : ∀ j, j < 6 → m (o + 1) j = 0 ∨ m (o + 1) j = 1) (h2 : ∀ j, j < 6 → m (o + 2) j = 0 ∨ m (o + 2) j = 1) (h10 : ∀ j, j < 48 → m (o + 10) j = 0 ∨ m (o + 10) j = 1) (h11 : ∀ j, j < 48 → m (o + 11) j = 0 ∨ m (o + 11) j = 1) : x_m 1 [.ref b, .ref o] (q_H m K s) = some (.inl none, q_H (q_cB m b o) K s) := by
  have a1 : ∀ k, k < 12 → k ≠ 0 → q_M (q_M m b 0 (m o 0)) b 1 (m o 1) (o + k) = m (o + k) := fun k hk _ => by rw [q_M_a (by omega), q_M_a (by omega)]
  have hl1 := q_for (M := 1) (pc := 18) (n := 6) (fun i => [.ref b, .ref o, .int (q_i i)]) (fun i => q_H (q_L (q_M (q_M m b 0 (m o 0)) b 1 (m o 1)) b o 1 2 i) K s) (fun i hi => l1a hb ho hd (by rw [a1 1 (by decide) (by decide)]; exact h1) (by rw [a1 2 (by decide) (by decide)]; exact h2) i hi)
  have a2 : ∀ k, k < 12 → k ≠ 0 → q_L (q_M (q_M m b 0 (m o 0)) b 1 (m o 1)) b o 1 2 6 (o + k) = m (o + k) := fun k hk hk0 => by rw [q_L_a (by omega) (by omega), a1 k hk hk0]
  have hl2 := q_for (M := 1) (pc := 56) (n := 48) (fun i => [.ref b, .ref o, .int (q_i i)]) (fun i => q_H (q_L (q_L (q_M (q_M m b 0 (m o 0)) b 1 (m o 1)) b o 1 2 6) b o 10 11 i) K s) (fun i hi => l1b hb ho hd (by rw [a2 10 (by decide) (by decide)]; exact h10) (by rw [a2 11 (by decide) (by decide)]; exact h11) i hi)
  rw [q_L0 (by decide)] at hl1
  rw [q_L0 (by decide)] at hl2
  have f0 : ∀ {x : Int32}, x_fit (x_ty 2 0) (.int x) = true := q_fiti
  have f1 : ∀ {x : Int32}, x_fit (x_ty 2 1) (.int x) = true := q_fiti
  have ob1 : q_M m b 0 (m o 0) o = m o := q_M_a (by omega)
  rw [en1, e1_0]
  simp (disch := first | rfl | assumption | decide | omega | (unfold q_R; omega)) only [e1_1, e1_2, e1_5, e1_8, e1_9, e1_10, e1_13, e1_16, e1_17, ↓q_nv0, ↓q_nv1, ↓q_nv2, ↓q_nv3, ↓q_nv4, ↓q_nv5, ↓q_nv6, ↓q_nv7, ↓q_nv8, ↓q_nv9, ↓q_nv10, ↓q_nv11, ↓q_nv12, ↓q_nv13, ↓q_nv14, ↓q_nv15, ↓q_nv16, ↓q_nv17, ↓q_nv18, ↓q_nv19, ↓q_nv20, ↓q_nv21, ↓q_nv22, ↓q_gi0, ↓q_gi1, ↓q_gi2, ↓q_gi3, ↓q_gi4, ↓q_gi5, ↓q_gi6, ↓q_gi7, ↓q_gi8, ↓q_gi9, ↓q_gr0, ↓q_gr1, ↓q_gr2, ↓q_gr3, ↓q_gr4, ↓q_gr5, ↓q_gr6, ↓q_gr7, ↓q_gr8, ↓q_gr9, ↓q_ls0, ↓q_ls1i, ↓q_ls1r, ↓q_ls1n, ↓q_ls2i, ↓q_ls2r, ↓q_ls2n, ↓q_ls3i, ↓q_ls3r, ↓q_ls3n, ↓q_ls4i, ↓q_ls4r, ↓q_ls4n, ↓q_ls5i, ↓q_ls5r, ↓q_ls5n, ↓q_ls6i, ↓q_ls6r, ↓q_ls6n, ↓q_ls7i, ↓q_ls7r, ↓q_ls7n, ↓q_ls8i, ↓q_ls8r, ↓q_ls8n, ↓q_ls9i, ↓q_ls9r, ↓q_ls9n, q_nd0, q_nd1i, q_nd1r, q_nd1n, q_nd2i, q_nd2r, q_nd2n, q_nd3i, q_nd3r, q_nd3n, q_nd4i, q_nd4r, q_nd4n, q_nd5i, q_nd5r, q_nd5n, q_nd6i, q_nd6r, q_nd6n, q_nd7i, q_nd7r, q_nd7n, q_nd8i, q_nd8r, q_nd8n, q_nd9i, q_nd9r, q_nd9n, q_st0, q_st1, q_st2, q_st3, q_st4, q_st5, q_st6, q_st7, q_st8, q_st9, q_cat_i, q_cat_r, q_cat_n, q_wt0, q_wt1, q_tl0, q_tl1, ↓q_cl1, q_add, q_sub, q_mul, q_nari, q_narb0, q_narb1, q_fiti, q_fitb0, q_fitb1, List.cons_append, List.nil_append, Nat.reduceAdd, Nat.reduceLeDiff, and_self, and_true, true_and, ↓reduceIte, gfB_0, gfB_1, pfB_0, pfB_1, f0, f1, if_true, ob1]
  refine Eq.trans hl1 ?_
  rw [e1_18]
  simp (disch := first | rfl | assumption | decide | omega | (unfold q_R; omega)) only [en1, e1_0, e1_1, e1_2, e1_5, e1_8, e1_9, e1_10, e1_13, e1_16, e1_17, e1_19, e1_21, e1_24, e1_25, e1_28, e1_29, e1_30, e1_33, e1_34, e1_35, e1_36, e1_37, e1_40, e1_41, e1_42, e1_45, e1_46, e1_47, e1_48, e1_51, e1_54, e1_55, e1_57, e1_59, e1_62, e1_63, e1_66, e1_67, e1_68, e1_71, e1_72, e1_73, e1_74, e1_75, e1_78, e1_79, e1_80, e1_83, e1_84, e1_85, e1_86, e1_89, e1_92, e1_93, e1_96, e1_97, e1_98, e1_101, e1_102, e1_107, e1_108, e1_111, e1_112, e1_113, e1_116, e1_117, e1_122, e1_123, e1_126, e1_127, e1_128, e1_131, e1_132, e1_137, e1_138, e1_141, e1_142, e1_143, e1_146, e1_147, e1_152, e1_153, e1_156, e1_157, e1_158, e1_161, e1_162, e1_167, e1_168, e1_171, e1_172, e1_173, e1_176, e1_177, e1_182, e1_183, e1_186, e1_187, e1_188, e1_191, e1_192, e1_197, ↓q_nv0, ↓q_nv1, ↓q_nv2, ↓q_nv3, ↓q_nv4, ↓q_nv5, ↓q_nv6, ↓q_nv7, ↓q_nv8, ↓q_nv9, ↓q_nv10, ↓q_nv11, ↓q_nv12, ↓q_nv13, ↓q_nv14, ↓q_nv15, ↓q_nv16, ↓q_nv17, ↓q_nv18, ↓q_nv19, ↓q_nv20, ↓q_nv21, ↓q_nv22, ↓q_gi0, ↓q_gi1, ↓q_gi2, ↓q_gi3, ↓q_gi4, ↓q_gi5, ↓q_gi6, ↓q_gi7, ↓q_gi8, ↓q_gi9, ↓q_gr0, ↓q_gr1, ↓q_gr2, ↓q_gr3, ↓q_gr4, ↓q_gr5, ↓q_gr6, ↓q_gr7, ↓q_gr8, ↓q_gr9, ↓q_ls0, ↓q_ls1i, ↓q_ls1r, ↓q_ls1n, ↓q_ls2i, ↓q_ls2r, ↓q_ls2n, ↓q_ls3i, ↓q_ls3r, ↓q_ls3n, ↓q_ls4i, ↓q_ls4r, ↓q_ls4n, ↓q_ls5i, ↓q_ls5r, ↓q_ls5n, ↓q_ls6i, ↓q_ls6r, ↓q_ls6n, ↓q_ls7i, ↓q_ls7r, ↓q_ls7n, ↓q_ls8i, ↓q_ls8r, ↓q_ls8n, ↓q_ls9i, ↓q_ls9r, ↓q_ls9n, q_nd0, q_nd1i, q_nd1r, q_nd1n, q_nd2i, q_nd2r, q_nd2n, q_nd3i, q_nd3r, q_nd3n, q_nd4i, q_nd4r, q_nd4n, q_nd5i, q_nd5r, q_nd5n, q_nd6i, q_nd6r, q_nd6n, q_nd7i, q_nd7r, q_nd7n, q_nd8i, q_nd8r, q_nd8n, q_nd9i, q_nd9r, q_nd9n, q_st0, q_st1, q_st2, q_st3, q_st4, q_st5, q_st6, q_st7, q_st8, q_st9, q_cat_i, q_cat_r, q_cat_n, q_wt0, q_wt1, q_tl0, q_tl1, ↓q_cl1, q_add, q_sub, q_mul, q_nari, q_narb0, q_narb1, q_fiti, q_fitb0, q_fitb1, List.cons_append, List.nil_append, Nat.reduceAdd, Nat.reduceLeDiff, and_self, and_true, true_and, ↓reduceIte, q_le, show (6 : Int) ≤ ((6 : Nat) : Int) by decide, if_true]
  refine Eq.trans hl2 ?_
  rw [e1_56]
  simp (disch := first | rfl | assumption | decide | omega | (unfold q_R; omega)) only [en1, e1_0, e1_1, e1_2, e1_5, e1_8, e1_9, e1_10, e1_13, e1_16, e1_17, e1_19, e1_21, e1_24, e1_25, e1_28, e1_29, e1_30, e1_33, e1_34, e1_35, e1_36, e1_37, e1_40, e1_41, e1_42, e1_45, e1_46, e1_47, e1_48, e1_51, e1_54, e1_55, e1_57, e1_59, e1_62, e1_63, e1_66, e1_67, e1_68, e1_71, e1_72, e1_73, e1_74, e1_75, e1_78, e1_79, e1_80, e1_83, e1_84, e1_85, e1_86, e1_89, e1_92, e1_93, e1_96, e1_97, e1_98, e1_101, e1_102, e1_107, e1_108, e1_111, e1_112, e1_113, e1_116, e1_117, e1_122, e1_123, e1_126, e1_127, e1_128, e1_131, e1_132, e1_137, e1_138, e1_141, e1_142, e1_143, e1_146, e1_147, e1_152, e1_153, e1_156, e1_157, e1_158, e1_161, e1_162, e1_167, e1_168, e1_171, e1_172, e1_173, e1_176, e1_177, e1_182, e1_183, e1_186, e1_187, e1_188, e1_191, e1_192, e1_197, ↓q_nv0, ↓q_nv1, ↓q_nv2, ↓q_nv3, ↓q_nv4, ↓q_nv5, ↓q_nv6, ↓q_nv7, ↓q_nv8, ↓q_nv9, ↓q_nv10, ↓q_nv11, ↓q_nv12, ↓q_nv13, ↓q_nv14, ↓q_nv15, ↓q_nv16, ↓q_nv17, ↓q_nv18, ↓q_nv19, ↓q_nv20, ↓q_nv21, ↓q_nv22, ↓q_gi0, ↓q_gi1, ↓q_gi2, ↓q_gi3, ↓q_gi4, ↓q_gi5, ↓q_gi6, ↓q_gi7, ↓q_gi8, ↓q_gi9, ↓q_gr0, ↓q_gr1, ↓q_gr2, ↓q_gr3, ↓q_gr4, ↓q_gr5, ↓q_gr6, ↓q_gr7, ↓q_gr8, ↓q_gr9, ↓q_ls0, ↓q_ls1i, ↓q_ls1r, ↓q_ls1n, ↓q_ls2i, ↓q_ls2r, ↓q_ls2n, ↓q_ls3i, ↓q_ls3r, ↓q_ls3n, ↓q_ls4i, ↓q_ls4r, ↓q_ls4n, ↓q_ls5i, ↓q_ls5r, ↓q_ls5n, ↓q_ls6i, ↓q_ls6r, ↓q_ls6n, ↓q_ls7i, ↓q_ls7r, ↓q_ls7n, ↓q_ls8i, ↓q_ls8r, ↓q_ls8n, ↓q_ls9i, ↓q_ls9r, ↓q_ls9n, q_nd0, q_nd1i, q_nd1r, q_nd1n, q_nd2i, q_nd2r, q_nd2n, q_nd3i, q_nd3r, q_nd3n, q_nd4i, q_nd4r, q_nd4n, q_nd5i, q_nd5r, q_nd5n, q_nd6i, q_nd6r, q_nd6n, q_nd7i, q_nd7r, q_nd7n, q_nd8i, q_nd8r, q_nd8n, q_nd9i, q_nd9r, q_nd9n, q_st0, q_st1, q_st2, q_st3, q_st4, q_st5, q_st6, q_st7, q_st8, q_st9, q_cat_i, q_cat_r, q_cat_n, q_wt0, q_wt1, q_tl0, q_tl1, ↓q_cl1, q_add, q_sub, q_mul, q_nari, q_narb0, q_narb1, q_fiti, q_fitb0, q_fitb1, List.cons_append, List.nil_append, Nat.reduceAdd, Nat.reduceLeDiff, and_self, and_true, true_and, ↓reduceIte, q_le, show (48 : Int) ≤ ((48 : Nat) : Int) by decide, if_true, gfB_4, gfB_5, gfB_6, gfB_7, gfB_8, gfB_9, gfB_10, c1_104, c1_119, c1_134, c1_149, c1_164, c1_179, c1_194]
  congr 2
  apply q_H_ext
  intro a ha
  unfold q_cB
  have hbb := hb
  obtain ⟨z0, z1, z2, z3, z4, z5, z6, z7, z8, z9, z10, z11, z12⟩ := hbb
  by_cases hin : b ≤ a ∧ a < b + 12
  · rw [if_pos hin]
    obtain ⟨k, rfl⟩ : ∃ k, a = b + k := ⟨a - b, by omega⟩
    rw [show o + (b + k - b) = o + k by omega]
    rcases (show k = 0 ∨ k = 1 ∨ k = 2 ∨ k = 3 ∨ k = 4 ∨ k = 5 ∨ k = 6 ∨ k = 7 ∨ k = 8 ∨ k = 9 ∨ k = 10 ∨ k = 11 by omega) with rfl | rfl | rfl | rfl | rfl | rfl | rfl | rfl | rfl | rfl | rfl | rfl
    · rw [Nat.add_zero, Nat.add_zero, z1]
      simp (disch := first | rfl | assumption | decide | omega | (unfold q_R; omega)) only [q_P_a, q_L_a, q_M_s, q_M_k]
      rfl
    · rw [z2]
      simp (disch := first | rfl | assumption | decide | omega | (unfold q_R; omega)) only [q_P_a, q_P_s, q_L_a, a1]
      unfold q_L
      simp (disch := first | rfl | assumption | decide | omega | (unfold q_R; omega)) only [q_P_a, q_P_s, q_pf2_ar, a1]
    · rw [z3]
      simp (disch := first | rfl | assumption | decide | omega | (unfold q_R; omega)) only [q_P_a, q_P_s, q_L_a, a1]
      unfold q_L
      simp (disch := first | rfl | assumption | decide | omega | (unfold q_R; omega)) only [q_P_a, q_P_s, q_pf2_ar, a1]
    · simp (disch := first | rfl | assumption | decide | omega | (unfold q_R; omega)) only [q_P_a, q_P_s, q_L_a, q_M_a]
    · simp (disch := first | rfl | assumption | decide | omega | (unfold q_R; omega)) only [q_P_a, q_P_s, q_L_a, q_M_a]
    · simp (disch := first | rfl | assumption | decide | omega | (unfold q_R; omega)) only [q_P_a, q_P_s, q_L_a, q_M_a]
    · simp (disch := first | rfl | assumption | decide | omega | (unfold q_R; omega)) only [q_P_a, q_P_s, q_L_a, q_M_a]
    · simp (disch := first | rfl | assumption | decide | omega | (unfold q_R; omega)) only [q_P_a, q_P_s, q_L_a, q_M_a]
    · simp (disch := first | rfl | assumption | decide | omega | (unfold q_R; omega)) only [q_P_a, q_P_s, q_L_a, q_M_a]
    · simp (disch := first | rfl | assumption | decide | omega | (unfold q_R; omega)) only [q_P_a, q_P_s, q_L_a, q_M_a]
    · rw [z11]
      simp (disch := first | rfl | assumption | decide | omega | (unfold q_R; omega)) only [q_P_a, q_P_s]
      unfold q_L
      simp (disch := first | rfl | assumption | decide | omega | (unfold q_R; omega)) only [q_P_a, q_P_s, q_pf2_ar, a2]
      rw [q_M_a (by omega), q_M_a (by omega)]
    · rw [z12]
      simp (disch := first | rfl | assumption | decide | omega | (unfold q_R; omega)) only [q_P_a, q_P_s]
      unfold q_L
      simp (disch := first | rfl | assumption | decide | omega | (unfold q_R; omega)) only [q_P_a, q_P_s, q_pf2_ar, a2]
      rw [q_M_a (by omega), q_M_a (by omega)]
  · rw [if_neg hin]
    simp (disch := first | rfl | assumption | decide | omega | (unfold q_R; omega)) only [q_P_a, q_L_a, q_M_a]
end M48
