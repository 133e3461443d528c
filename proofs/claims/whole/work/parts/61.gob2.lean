section M61
variable {m : Nat → Nat → Int} {K : Nat × Nat} {s : List Int32}
/-- the memory on the class's way back -/
def q_bm (m mm : Nat → Nat → Int) (S : (Nat → Bool) × (Nat → Bool)) : Prop := mm 19 = q_bR S.1 ∧ mm 20 = q_bR S.2 ∧ mm 13 12 = q_cnt S.2 48 ∧ (∀ a, a ≠ 13 → a ≠ 19 → a ≠ 20 → mm a = m a) ∧ ∀ k, k ≠ 12 → mm 13 k = m 13 k
theorem l512 {g : Nat → Int} {n hard : Int} {P : Nat → Bool} {R : Nat → Prop} {t : Int} (hR : q_Rt m g n) (hW : q_W g) (hx : q_mx (fun c => P c = true) (q_al g n hard) (q_Wn g n) (q_dd g n hard P)) (h16 : m 16 = q_xf (q_dd g n hard P)) (hal : ∀ j, j < 96 → q_al g n hard j → R j) (f : Nat) :
    ∀ (S : (Nat → Bool) × (Nat → Bool)) (c st : Nat) (z : Value) (mm : Nat → Nat → Int), q_un S.1 ≤ f → st + q_un S.1 ≤ 96 → c < 96 → (S.1 c = true ∨ q_dd g n hard P c < 100000) → (∀ j, P j = true → S.1 j = true) → q_bk (q_dd g n hard P) (q_Wn g n) R c S → q_bm m mm S →
    ∃ mm', q_bm m mm' (q_gb (q_dd g n hard P) (q_Wn g n) (fun c => q_own g n c) f c S) ∧ q_hp (q_gb (q_dd g n hard P) (q_Wn g n) (fun c => q_own g n c) f c S) ∧ (∀ j, j < 96 → (q_gb (q_dd g n hard P) (q_Wn g n) (fun c => q_own g n c) f c S).1 j = true → R j) ∧ x_run 512 4 [.ref 13, .int (q_i t), .int (q_i c), .int (q_i st), z] [] (q_H mm K s) = some (.inl none, q_H mm' K s) := by
  have w0 : ∀ c w, 0 ≤ q_Wn g n c w := fun c w => (q_Wn_R g n c w).1
  have stop : ∀ (S : (Nat → Bool) × (Nat → Bool)) (c st : Nat) (z : Value) (mm : Nat → Nat → Int), c < 96 → st ≤ 96 → S.1 c = true → q_bm m mm S → x_run 512 4 [.ref 13, .int (q_i t), .int (q_i c), .int (q_i st), z] [] (q_H mm K s) = some (.inl none, q_H mm K s) := fun S c st z mm hc hst hS hm => by
    have e1 : q_bR S.1 c = 1 := by simp [q_bR, hS]
    rw [e512_4]
    by_cases h : st = 96
    · subst h
      simp (disch := first | rfl | assumption | decide | omega | (unfold q_R; omega)) only [en512, e512_0, e512_1, e512_2, e512_3, e512_5, e512_7, e512_10, e512_11, e512_14, e512_15, e512_16, e512_19, e512_20, e512_21, e512_24, e512_26, e512_28, e512_29, e512_32, e512_33, e512_36, e512_37, e512_39, e512_40, e512_41, e512_44, e512_45, e512_48, e512_49, e512_51, e512_52, e512_53, e512_54, e512_55, e512_56, e512_59, e512_60, e512_61, e512_64, e512_65, e512_68, e512_69, e512_70, e512_71, e512_72, e512_74, e512_77, e512_78, e512_81, e512_84, ↓q_nv0, ↓q_nv1, ↓q_nv2, ↓q_nv3, ↓q_nv4, ↓q_nv5, ↓q_nv6, ↓q_nv7, ↓q_nv8, ↓q_nv9, ↓q_nv10, ↓q_nv11, ↓q_nv12, ↓q_nv13, ↓q_nv14, ↓q_nv15, ↓q_nv16, ↓q_nv17, ↓q_nv18, ↓q_nv19, ↓q_nv20, ↓q_nv21, ↓q_nv22, ↓q_gi0, ↓q_gi1, ↓q_gi2, ↓q_gi3, ↓q_gi4, ↓q_gi5, ↓q_gi6, ↓q_gi7, ↓q_gi8, ↓q_gi9, ↓q_gr0, ↓q_gr1, ↓q_gr2, ↓q_gr3, ↓q_gr4, ↓q_gr5, ↓q_gr6, ↓q_gr7, ↓q_gr8, ↓q_gr9, ↓q_ls0, ↓q_ls1i, ↓q_ls1r, ↓q_ls1n, ↓q_ls2i, ↓q_ls2r, ↓q_ls2n, ↓q_ls3i, ↓q_ls3r, ↓q_ls3n, ↓q_ls4i, ↓q_ls4r, ↓q_ls4n, ↓q_ls5i, ↓q_ls5r, ↓q_ls5n, ↓q_ls6i, ↓q_ls6r, ↓q_ls6n, ↓q_ls7i, ↓q_ls7r, ↓q_ls7n, ↓q_ls8i, ↓q_ls8r, ↓q_ls8n, ↓q_ls9i, ↓q_ls9r, ↓q_ls9n, q_nd0, q_nd1i, q_nd1r, q_nd1n, q_nd2i, q_nd2r, q_nd2n, q_nd3i, q_nd3r, q_nd3n, q_nd4i, q_nd4r, q_nd4n, q_nd5i, q_nd5r, q_nd5n, q_nd6i, q_nd6r, q_nd6n, q_nd7i, q_nd7r, q_nd7n, q_nd8i, q_nd8r, q_nd8n, q_nd9i, q_nd9r, q_nd9n, q_st0, q_st1, q_st2, q_st3, q_st4, q_st5, q_st6, q_st7, q_st8, q_st9, q_cat_i, q_cat_r, q_cat_n, q_wt0, q_wt1, q_tl0, q_tl1, ↓q_cl1, q_add, q_sub, q_mul, q_nari, q_narb0, q_narb1, q_fiti, q_fitb0, q_fitb1, List.cons_append, List.nil_append, Nat.reduceAdd, Nat.reduceLeDiff, and_self, and_true, true_and, ↓reduceIte, q_le, show (96 : Int) ≤ ((96 : Nat) : Int) by decide, if_true]
    · simp (disch := first | rfl | assumption | decide | omega | (unfold q_R; omega)) only [en512, e512_0, e512_1, e512_2, e512_3, e512_5, e512_7, e512_10, e512_11, e512_14, e512_15, e512_16, e512_19, e512_20, e512_21, e512_24, e512_26, e512_28, e512_29, e512_32, e512_33, e512_36, e512_37, e512_39, e512_40, e512_41, e512_44, e512_45, e512_48, e512_49, e512_51, e512_52, e512_53, e512_54, e512_55, e512_56, e512_59, e512_60, e512_61, e512_64, e512_65, e512_68, e512_69, e512_70, e512_71, e512_72, e512_74, e512_77, e512_78, e512_81, e512_84, ↓q_nv0, ↓q_nv1, ↓q_nv2, ↓q_nv3, ↓q_nv4, ↓q_nv5, ↓q_nv6, ↓q_nv7, ↓q_nv8, ↓q_nv9, ↓q_nv10, ↓q_nv11, ↓q_nv12, ↓q_nv13, ↓q_nv14, ↓q_nv15, ↓q_nv16, ↓q_nv17, ↓q_nv18, ↓q_nv19, ↓q_nv20, ↓q_nv21, ↓q_nv22, ↓q_gi0, ↓q_gi1, ↓q_gi2, ↓q_gi3, ↓q_gi4, ↓q_gi5, ↓q_gi6, ↓q_gi7, ↓q_gi8, ↓q_gi9, ↓q_gr0, ↓q_gr1, ↓q_gr2, ↓q_gr3, ↓q_gr4, ↓q_gr5, ↓q_gr6, ↓q_gr7, ↓q_gr8, ↓q_gr9, ↓q_ls0, ↓q_ls1i, ↓q_ls1r, ↓q_ls1n, ↓q_ls2i, ↓q_ls2r, ↓q_ls2n, ↓q_ls3i, ↓q_ls3r, ↓q_ls3n, ↓q_ls4i, ↓q_ls4r, ↓q_ls4n, ↓q_ls5i, ↓q_ls5r, ↓q_ls5n, ↓q_ls6i, ↓q_ls6r, ↓q_ls6n, ↓q_ls7i, ↓q_ls7r, ↓q_ls7n, ↓q_ls8i, ↓q_ls8r, ↓q_ls8n, ↓q_ls9i, ↓q_ls9r, ↓q_ls9n, q_nd0, q_nd1i, q_nd1r, q_nd1n, q_nd2i, q_nd2r, q_nd2n, q_nd3i, q_nd3r, q_nd3n, q_nd4i, q_nd4r, q_nd4n, q_nd5i, q_nd5r, q_nd5n, q_nd6i, q_nd6r, q_nd6n, q_nd7i, q_nd7r, q_nd7n, q_nd8i, q_nd8r, q_nd8n, q_nd9i, q_nd9r, q_nd9n, q_st0, q_st1, q_st2, q_st3, q_st4, q_st5, q_st6, q_st7, q_st8, q_st9, q_cat_i, q_cat_r, q_cat_n, q_wt0, q_wt1, q_tl0, q_tl1, ↓q_cl1, q_add, q_sub, q_mul, q_nari, q_narb0, q_narb1, q_fiti, q_fitb0, q_fitb1, List.cons_append, List.nil_append, Nat.reduceAdd, Nat.reduceLeDiff, and_self, and_true, true_and, ↓reduceIte, ↓rc0, ↓gf0_0, ↓gf0_1, ↓gf0_2, ↓gf0_3, ↓gf0_4, ↓gf0_5, ↓gf0_6, ↓gf0_7, ↓pf0_7, ft0_7, ↓rc1, ↓gf1_0, ↓pf1_0, ft1_0, ↓gf1_1, ↓pf1_1, ft1_1, ↓gf1_2, ↓gf1_3, ↓gf1_4, ↓gf1_5, ↓gf1_6, ↓gf1_7, ↓gf1_8, ↓gf1_9, ↓gf1_10, ↓gf1_11, ↓gf1_12, ↓rc13, ↓gf13_0, ↓gf13_1, ↓gf13_2, ↓gf13_3, ↓gf13_4, ↓gf13_5, ↓gf13_6, ↓pf13_6, ft13_6, ↓gf13_7, ↓pf13_7, ft13_7, ↓gf13_8, ↓pf13_8, ft13_8, ↓gf13_9, ↓pf13_9, ft13_90, ft13_91, ↓gf13_10, ↓gf13_11, ↓gf13_12, ↓pf13_12, ft13_12, ↓gf13_13, ↓pf13_13, ft13_13, ↓gf13_14, ↓pf13_14, ft13_14, ↓rc21, ↓gf21_0, ↓pf21_0, ft21_0, ↓gf21_1, ↓pf21_1, ft21_1, ↓gf21_2, ↓pf21_2, ft21_2, ↓gf21_3, ↓pf21_3, ft21_3, ↓rc22, ↓gf22_0, ↓gf22_1, ↓gf22_2, ↓rc23, ↓gf23_0, ↓gf23_1, ↓gf23_2, ↓gf23_3, ↓pf23_3, ft23_3, ↓gf23_4, ↓pf23_4, ft23_4, ↓gf23_5, ↓pf23_5, ft23_50, ft23_51, ↓rc145, ↓gf145_0, ↓gf145_1, ↓pf145_1, ft145_1, ↓rc147, ↓gf147_0, ↓gf147_1, ↓pf147_1, ft147_1, ↓rc149, ↓gf149_0, ↓gf149_1, ↓gf149_2, ↓gf149_3, ↓gf149_4, ↓pf149_4, ft149_40, ft149_41, ↓gf149_5, ↓pf149_5, ft149_5, ↓gf149_6, ↓pf149_6, ft149_60, ft149_61, ↓gf149_7, ↓pf149_7, ft149_7, ↓gf149_8, ↓pf149_8, ft149_8, ↓gf149_9, ↓pf149_9, ft149_9, ↓gf149_10, ↓pf149_10, ft149_10, ↓gf149_11, ↓gf149_12, ↓pf149_12, ft149_12, ↓gf149_13, ↓pf149_13, ft149_13, ↓gf149_14, ↓gf149_15, ↓pf149_15, ft149_15, ↓gf149_16, ↓gf149_17, ↓gf149_18, ↓gf149_19, ↓pf149_19, ft149_19, ↓gf149_20, ↓pf149_20, ft149_20, ↓gf149_21, ↓gf149_22, ↓pf149_22, ft149_22, ↓ra2, ↓wa2, ↓ln2, ↓ra3, ↓wa3, ↓ln3, ↓ra4, ↓wa4, ↓ln4, ↓ra5, ↓wa5, ↓ln5, ↓ra6, ↓wa6, ↓ln6, ↓ra7, ↓wa7, ↓ln7, ↓ra8, ↓wa8, ↓ln8, ↓ra9, ↓wa9, ↓ln9, ↓ra10, ↓wa10, ↓ln10, ↓ra11, ↓wa11, ↓ln11, ↓ra12, ↓wa12, ↓ln12, ↓ra14, ↓wa14, ↓ln14, ↓ra15, ↓wa15, ↓ln15, ↓ra16, ↓wa16, ↓ln16, ↓ra17, ↓wa17, ↓ln17, ↓ra18, ↓wa18, ↓ln18, ↓ra19, ↓wa19, ↓ln19, ↓ra20, ↓wa20, ↓ln20, ↓ra146, ↓wa146, ↓ln146, ↓ra148, ↓wa148, ↓ln148, ↓ra150, ↓wa150, ↓ln150, ↓ra151, ↓wa151, ↓ln151, ↓ra152, ↓wa152, ↓ln152, ↓ra153, ↓wa153, ↓ln153, ↓ra154, ↓wa154, ↓ln154, ↓ra155, ↓wa155, ↓ln155, ↓ra156, ↓wa156, ↓ln156, ↓ra157, ↓wa157, ↓ln157, ↓ra158, ↓wa158, ↓ln158, ↓ra159, ↓wa159, ↓ln159, q_M_s, q_M_k, q_M_a, q_P_s, q_P_a, q_toN, q_i00, q_i10, q_j00, q_j10, q_le, show ¬ (96 : Int) ≤ (st : Int) by omega, if_false, hm.1, e1, not_false_eq_true, if_true]
  have hpS : ∀ (S : (Nat → Bool) × (Nat → Bool)) (c : Nat), S.1 c = true → q_bk (q_dd g n hard P) (q_Wn g n) R c S → q_hp S := fun S c hS hb p hp hs => by
    have h := hb.1 p hp hs
    refine ⟨h.1.elim id fun e => ?_, h.2.elim id fun e => ?_⟩
    · rw [e]
      exact hS
    · rw [e]
      exact hS
  induction f with
  | zero =>
    intro S c st z mm hf hst hc hcF hPS hb hm
    have hS := q_un0 (Nat.le_zero.mp hf) hc
    exact ⟨mm, hm, hpS S c hS hb, hb.2.2, stop S c st z mm hc (by omega) hS hm⟩
  | succ f ih =>
    intro S c st z mm hf hst hc hcF hPS hb hm
    cases hS : S.1 c
    · have hF := hcF.resolve_left (by rw [hS]; decide)
      have hPn : ¬ (P c = true) := fun z => by
        rw [hPS c z] at hS
        cases hS
      have ha := q_mx_al hx hc hPn hF
      obtain ⟨b1, b2, b3⟩ := q_bw_spec hx w0 hc hPn hF
      have hu := q_un_set hc hS
      obtain ⟨d, hd⟩ : ∃ d : Nat, (q_bs c (q_bw (q_dd g n hard P) (q_Wn g n) c)).toNat = d := ⟨_, rfl⟩
      have hb2 := b2.1
      have hblt := q_bs_lt (c := c) (by omega) (by omega) (q_bw (q_dd g n hard P) (q_Wn g n) c)
      have hd96 : d < 96 := by omega
      have hdF : q_dd g n hard P d < 100000 := by
        have h1 := b2.2
        rw [hd] at h1
        have h2 := w0 c (q_bw (q_dd g n hard P) (q_Wn g n) c)
        omega
      have hown3 : ¬ q_own g n c → 3 ≤ q_Wn g n c 4 := fun ho => by
        have := q_mo_R g n c
        unfold q_Wn q_sc
        rw [if_pos rfl, if_neg ho]
        omega
      obtain ⟨k1, k2⟩ := q_bk_step (own := fun c => q_own g n c) hb w0 hown3 hc hS (hal c hc ha) b2 hd
      obtain ⟨m1, m2, m3, m4, m5⟩ := hm
      have hRm : q_Rt mm g n := q_Rt_fr hR (m4 14 (by decide) (by decide) (by decide)) (m4 15 (by decide) (by decide) (by decide)) (m5 8 (by decide))
      have e513 := m513 (m := mm) (K := K) (s := s) hRm hW hx ((m4 16 (by decide) (by decide) (by decide)).trans h16) hc hF
      have m741d : ∀ h : x_H, x_m 741 [.int (q_i c), .int (q_i (q_bw (q_dd g n hard P) (q_Wn g n) c))] h = some (.inl (some (.int (q_i d))), h) := fun h => by
        rw [m741H (by omega) (by omega) b1, show q_bs c (q_bw (q_dd g n hard P) (q_Wn g n) c) = (d : Int) by omega]
      rw [q_gb_step hS, hd]
      generalize hB : q_bw (q_dd g n hard P) (q_Wn g n) c = B at *
      have r48 := q_rem (a := c) (by omega) (show q_R c by unfold q_R; omega) (b := 48) (by omega) (by unfold q_R; omega)
      have z48 : ¬ q_i 48 = 0 := by decide
      have er : ((c : Int) % 48).toNat = c % 48 := by omega
      have el := hRm.2.1 (c % 48) (by omega)
      have hos := q_own_sym (n := n) hW hc
      have e0 : q_bR S.1 c = 0 := by simp [q_bR, hS]
      have h96 : ¬ (96 : Int) ≤ (st : Int) := by omega
      by_cases hcase : B = 4 ∧ ¬ q_own g n c
      · rw [if_pos hcase] at k2 ⊢
        have hS2 := k1 hcase
        have hcnt := q_cnt_set2 hS2 48
        rw [if_pos (show c % 48 < 48 by omega)] at hcnt
        have elc : q_lc g n (c % 48) = 3 := if_neg (fun z => hcase.2 (hos.mp z))
        have hm2 : q_bm m (q_M (q_M (q_M mm 20 (c % 48) 1) 13 12 (q_cnt S.2 48 + 1)) 19 c 1) (q_set S.1 c, q_set S.2 (c % 48)) := by
          refine ⟨?_, ?_, ?_, ?_, ?_⟩
          · rw [q_M_u, q_M_a (by decide), q_M_a (by decide), m1, q_bR_set]
          · rw [q_M_a (by decide), q_M_a (by decide), q_M_u, m2, q_bR_set]
          · rw [q_M_a (by decide), q_M_s, hcnt]
            rfl
          · intro a a1 a2 a3
            rw [q_M_a a2, q_M_a a1, q_M_a a3]
            exact m4 a a1 a2 a3
          · intro k hk
            rw [q_M_a (by decide), q_M_k hk, q_M_a (by decide)]
            exact m5 k hk
        obtain ⟨mm3, i1, i2, i3, i4⟩ := ih (q_set S.1 c, q_set S.2 (c % 48)) d (st + 1) (.int (q_i B)) _ (show q_un (q_set S.1 c) ≤ f by omega) (show st + 1 + q_un (q_set S.1 c) ≤ 96 by omega) hd96 (Or.inr hdF) (fun j hj => by simp [q_set, hPS j hj]) k2 hm2
        refine ⟨mm3, i1, i2, i3, ?_⟩
        rw [← i4, e512_4]
        obtain ⟨rfl, _⟩ := hcase
        simp (disch := first | rfl | assumption | decide | omega | (unfold q_R; omega)) only [en512, e512_0, e512_1, e512_2, e512_3, e512_5, e512_7, e512_10, e512_11, e512_14, e512_15, e512_16, e512_19, e512_20, e512_21, e512_24, e512_26, e512_28, e512_29, e512_32, e512_33, e512_36, e512_37, e512_39, e512_40, e512_41, e512_44, e512_45, e512_48, e512_49, e512_51, e512_52, e512_53, e512_54, e512_55, e512_56, e512_59, e512_60, e512_61, e512_64, e512_65, e512_68, e512_69, e512_70, e512_71, e512_72, e512_74, e512_77, e512_78, e512_81, e512_84, ↓q_nv0, ↓q_nv1, ↓q_nv2, ↓q_nv3, ↓q_nv4, ↓q_nv5, ↓q_nv6, ↓q_nv7, ↓q_nv8, ↓q_nv9, ↓q_nv10, ↓q_nv11, ↓q_nv12, ↓q_nv13, ↓q_nv14, ↓q_nv15, ↓q_nv16, ↓q_nv17, ↓q_nv18, ↓q_nv19, ↓q_nv20, ↓q_nv21, ↓q_nv22, ↓q_gi0, ↓q_gi1, ↓q_gi2, ↓q_gi3, ↓q_gi4, ↓q_gi5, ↓q_gi6, ↓q_gi7, ↓q_gi8, ↓q_gi9, ↓q_gr0, ↓q_gr1, ↓q_gr2, ↓q_gr3, ↓q_gr4, ↓q_gr5, ↓q_gr6, ↓q_gr7, ↓q_gr8, ↓q_gr9, ↓q_ls0, ↓q_ls1i, ↓q_ls1r, ↓q_ls1n, ↓q_ls2i, ↓q_ls2r, ↓q_ls2n, ↓q_ls3i, ↓q_ls3r, ↓q_ls3n, ↓q_ls4i, ↓q_ls4r, ↓q_ls4n, ↓q_ls5i, ↓q_ls5r, ↓q_ls5n, ↓q_ls6i, ↓q_ls6r, ↓q_ls6n, ↓q_ls7i, ↓q_ls7r, ↓q_ls7n, ↓q_ls8i, ↓q_ls8r, ↓q_ls8n, ↓q_ls9i, ↓q_ls9r, ↓q_ls9n, q_nd0, q_nd1i, q_nd1r, q_nd1n, q_nd2i, q_nd2r, q_nd2n, q_nd3i, q_nd3r, q_nd3n, q_nd4i, q_nd4r, q_nd4n, q_nd5i, q_nd5r, q_nd5n, q_nd6i, q_nd6r, q_nd6n, q_nd7i, q_nd7r, q_nd7n, q_nd8i, q_nd8r, q_nd8n, q_nd9i, q_nd9r, q_nd9n, q_st0, q_st1, q_st2, q_st3, q_st4, q_st5, q_st6, q_st7, q_st8, q_st9, q_cat_i, q_cat_r, q_cat_n, q_wt0, q_wt1, q_tl0, q_tl1, ↓q_cl1, q_add, q_sub, q_mul, q_nari, q_narb0, q_narb1, q_fiti, q_fitb0, q_fitb1, List.cons_append, List.nil_append, Nat.reduceAdd, Nat.reduceLeDiff, and_self, and_true, true_and, ↓reduceIte, ↓rc0, ↓gf0_0, ↓gf0_1, ↓gf0_2, ↓gf0_3, ↓gf0_4, ↓gf0_5, ↓gf0_6, ↓gf0_7, ↓pf0_7, ft0_7, ↓rc1, ↓gf1_0, ↓pf1_0, ft1_0, ↓gf1_1, ↓pf1_1, ft1_1, ↓gf1_2, ↓gf1_3, ↓gf1_4, ↓gf1_5, ↓gf1_6, ↓gf1_7, ↓gf1_8, ↓gf1_9, ↓gf1_10, ↓gf1_11, ↓gf1_12, ↓rc13, ↓gf13_0, ↓gf13_1, ↓gf13_2, ↓gf13_3, ↓gf13_4, ↓gf13_5, ↓gf13_6, ↓pf13_6, ft13_6, ↓gf13_7, ↓pf13_7, ft13_7, ↓gf13_8, ↓pf13_8, ft13_8, ↓gf13_9, ↓pf13_9, ft13_90, ft13_91, ↓gf13_10, ↓gf13_11, ↓gf13_12, ↓pf13_12, ft13_12, ↓gf13_13, ↓pf13_13, ft13_13, ↓gf13_14, ↓pf13_14, ft13_14, ↓rc21, ↓gf21_0, ↓pf21_0, ft21_0, ↓gf21_1, ↓pf21_1, ft21_1, ↓gf21_2, ↓pf21_2, ft21_2, ↓gf21_3, ↓pf21_3, ft21_3, ↓rc22, ↓gf22_0, ↓gf22_1, ↓gf22_2, ↓rc23, ↓gf23_0, ↓gf23_1, ↓gf23_2, ↓gf23_3, ↓pf23_3, ft23_3, ↓gf23_4, ↓pf23_4, ft23_4, ↓gf23_5, ↓pf23_5, ft23_50, ft23_51, ↓rc145, ↓gf145_0, ↓gf145_1, ↓pf145_1, ft145_1, ↓rc147, ↓gf147_0, ↓gf147_1, ↓pf147_1, ft147_1, ↓rc149, ↓gf149_0, ↓gf149_1, ↓gf149_2, ↓gf149_3, ↓gf149_4, ↓pf149_4, ft149_40, ft149_41, ↓gf149_5, ↓pf149_5, ft149_5, ↓gf149_6, ↓pf149_6, ft149_60, ft149_61, ↓gf149_7, ↓pf149_7, ft149_7, ↓gf149_8, ↓pf149_8, ft149_8, ↓gf149_9, ↓pf149_9, ft149_9, ↓gf149_10, ↓pf149_10, ft149_10, ↓gf149_11, ↓gf149_12, ↓pf149_12, ft149_12, ↓gf149_13, ↓pf149_13, ft149_13, ↓gf149_14, ↓gf149_15, ↓pf149_15, ft149_15, ↓gf149_16, ↓gf149_17, ↓gf149_18, ↓gf149_19, ↓pf149_19, ft149_19, ↓gf149_20, ↓pf149_20, ft149_20, ↓gf149_21, ↓gf149_22, ↓pf149_22, ft149_22, ↓ra2, ↓wa2, ↓ln2, ↓ra3, ↓wa3, ↓ln3, ↓ra4, ↓wa4, ↓ln4, ↓ra5, ↓wa5, ↓ln5, ↓ra6, ↓wa6, ↓ln6, ↓ra7, ↓wa7, ↓ln7, ↓ra8, ↓wa8, ↓ln8, ↓ra9, ↓wa9, ↓ln9, ↓ra10, ↓wa10, ↓ln10, ↓ra11, ↓wa11, ↓ln11, ↓ra12, ↓wa12, ↓ln12, ↓ra14, ↓wa14, ↓ln14, ↓ra15, ↓wa15, ↓ln15, ↓ra16, ↓wa16, ↓ln16, ↓ra17, ↓wa17, ↓ln17, ↓ra18, ↓wa18, ↓ln18, ↓ra19, ↓wa19, ↓ln19, ↓ra20, ↓wa20, ↓ln20, ↓ra146, ↓wa146, ↓ln146, ↓ra148, ↓wa148, ↓ln148, ↓ra150, ↓wa150, ↓ln150, ↓ra151, ↓wa151, ↓ln151, ↓ra152, ↓wa152, ↓ln152, ↓ra153, ↓wa153, ↓ln153, ↓ra154, ↓wa154, ↓ln154, ↓ra155, ↓wa155, ↓ln155, ↓ra156, ↓wa156, ↓ln156, ↓ra157, ↓wa157, ↓ln157, ↓ra158, ↓wa158, ↓ln158, ↓ra159, ↓wa159, ↓ln159, q_M_s, q_M_k, q_M_a, q_P_s, q_P_a, q_toN, q_i00, q_i10, q_j00, q_j10, q_le, h96, if_false, m1, e0, not_true_eq_false, e513, show ¬ ¬ q_i ((4 : Nat) : Int) = q_i 4 from fun z => z rfl, z48, r48, er, el, elc, q_le0, show ¬ (3 : Int) ≤ 0 by decide, q_nb1, m3, m741d]
        rfl
      · rw [if_neg hcase] at k2 ⊢
        have hm2 : q_bm m (q_M mm 19 c 1) (q_set S.1 c, S.2) := by
          refine ⟨?_, ?_, ?_, ?_, ?_⟩
          · rw [q_M_u, m1, q_bR_set]
          · rw [q_M_a (by decide), m2]
          · rw [q_M_a (by decide), m3]
          · intro a a1 a2 a3
            rw [q_M_a a2]
            exact m4 a a1 a2 a3
          · intro k hk
            rw [q_M_a (by decide)]
            exact m5 k hk
        obtain ⟨mm3, i1, i2, i3, i4⟩ := ih (q_set S.1 c, S.2) d (st + 1) (.int (q_i B)) _ (show q_un (q_set S.1 c) ≤ f by omega) (show st + 1 + q_un (q_set S.1 c) ≤ 96 by omega) hd96 (Or.inr hdF) (fun j hj => by simp [q_set, hPS j hj]) k2 hm2
        refine ⟨mm3, i1, i2, i3, ?_⟩
        rw [← i4, e512_4]
        by_cases h4 : B = 4
        · have ho : q_own g n c := Classical.byContradiction fun z => hcase ⟨h4, z⟩
          have elc : q_lc g n (c % 48) = 0 := if_pos (hos.mpr ho)
          subst h4
          simp (disch := first | rfl | assumption | decide | omega | (unfold q_R; omega)) only [en512, e512_0, e512_1, e512_2, e512_3, e512_5, e512_7, e512_10, e512_11, e512_14, e512_15, e512_16, e512_19, e512_20, e512_21, e512_24, e512_26, e512_28, e512_29, e512_32, e512_33, e512_36, e512_37, e512_39, e512_40, e512_41, e512_44, e512_45, e512_48, e512_49, e512_51, e512_52, e512_53, e512_54, e512_55, e512_56, e512_59, e512_60, e512_61, e512_64, e512_65, e512_68, e512_69, e512_70, e512_71, e512_72, e512_74, e512_77, e512_78, e512_81, e512_84, ↓q_nv0, ↓q_nv1, ↓q_nv2, ↓q_nv3, ↓q_nv4, ↓q_nv5, ↓q_nv6, ↓q_nv7, ↓q_nv8, ↓q_nv9, ↓q_nv10, ↓q_nv11, ↓q_nv12, ↓q_nv13, ↓q_nv14, ↓q_nv15, ↓q_nv16, ↓q_nv17, ↓q_nv18, ↓q_nv19, ↓q_nv20, ↓q_nv21, ↓q_nv22, ↓q_gi0, ↓q_gi1, ↓q_gi2, ↓q_gi3, ↓q_gi4, ↓q_gi5, ↓q_gi6, ↓q_gi7, ↓q_gi8, ↓q_gi9, ↓q_gr0, ↓q_gr1, ↓q_gr2, ↓q_gr3, ↓q_gr4, ↓q_gr5, ↓q_gr6, ↓q_gr7, ↓q_gr8, ↓q_gr9, ↓q_ls0, ↓q_ls1i, ↓q_ls1r, ↓q_ls1n, ↓q_ls2i, ↓q_ls2r, ↓q_ls2n, ↓q_ls3i, ↓q_ls3r, ↓q_ls3n, ↓q_ls4i, ↓q_ls4r, ↓q_ls4n, ↓q_ls5i, ↓q_ls5r, ↓q_ls5n, ↓q_ls6i, ↓q_ls6r, ↓q_ls6n, ↓q_ls7i, ↓q_ls7r, ↓q_ls7n, ↓q_ls8i, ↓q_ls8r, ↓q_ls8n, ↓q_ls9i, ↓q_ls9r, ↓q_ls9n, q_nd0, q_nd1i, q_nd1r, q_nd1n, q_nd2i, q_nd2r, q_nd2n, q_nd3i, q_nd3r, q_nd3n, q_nd4i, q_nd4r, q_nd4n, q_nd5i, q_nd5r, q_nd5n, q_nd6i, q_nd6r, q_nd6n, q_nd7i, q_nd7r, q_nd7n, q_nd8i, q_nd8r, q_nd8n, q_nd9i, q_nd9r, q_nd9n, q_st0, q_st1, q_st2, q_st3, q_st4, q_st5, q_st6, q_st7, q_st8, q_st9, q_cat_i, q_cat_r, q_cat_n, q_wt0, q_wt1, q_tl0, q_tl1, ↓q_cl1, q_add, q_sub, q_mul, q_nari, q_narb0, q_narb1, q_fiti, q_fitb0, q_fitb1, List.cons_append, List.nil_append, Nat.reduceAdd, Nat.reduceLeDiff, and_self, and_true, true_and, ↓reduceIte, ↓rc0, ↓gf0_0, ↓gf0_1, ↓gf0_2, ↓gf0_3, ↓gf0_4, ↓gf0_5, ↓gf0_6, ↓gf0_7, ↓pf0_7, ft0_7, ↓rc1, ↓gf1_0, ↓pf1_0, ft1_0, ↓gf1_1, ↓pf1_1, ft1_1, ↓gf1_2, ↓gf1_3, ↓gf1_4, ↓gf1_5, ↓gf1_6, ↓gf1_7, ↓gf1_8, ↓gf1_9, ↓gf1_10, ↓gf1_11, ↓gf1_12, ↓rc13, ↓gf13_0, ↓gf13_1, ↓gf13_2, ↓gf13_3, ↓gf13_4, ↓gf13_5, ↓gf13_6, ↓pf13_6, ft13_6, ↓gf13_7, ↓pf13_7, ft13_7, ↓gf13_8, ↓pf13_8, ft13_8, ↓gf13_9, ↓pf13_9, ft13_90, ft13_91, ↓gf13_10, ↓gf13_11, ↓gf13_12, ↓pf13_12, ft13_12, ↓gf13_13, ↓pf13_13, ft13_13, ↓gf13_14, ↓pf13_14, ft13_14, ↓rc21, ↓gf21_0, ↓pf21_0, ft21_0, ↓gf21_1, ↓pf21_1, ft21_1, ↓gf21_2, ↓pf21_2, ft21_2, ↓gf21_3, ↓pf21_3, ft21_3, ↓rc22, ↓gf22_0, ↓gf22_1, ↓gf22_2, ↓rc23, ↓gf23_0, ↓gf23_1, ↓gf23_2, ↓gf23_3, ↓pf23_3, ft23_3, ↓gf23_4, ↓pf23_4, ft23_4, ↓gf23_5, ↓pf23_5, ft23_50, ft23_51, ↓rc145, ↓gf145_0, ↓gf145_1, ↓pf145_1, ft145_1, ↓rc147, ↓gf147_0, ↓gf147_1, ↓pf147_1, ft147_1, ↓rc149, ↓gf149_0, ↓gf149_1, ↓gf149_2, ↓gf149_3, ↓gf149_4, ↓pf149_4, ft149_40, ft149_41, ↓gf149_5, ↓pf149_5, ft149_5, ↓gf149_6, ↓pf149_6, ft149_60, ft149_61, ↓gf149_7, ↓pf149_7, ft149_7, ↓gf149_8, ↓pf149_8, ft149_8, ↓gf149_9, ↓pf149_9, ft149_9, ↓gf149_10, ↓pf149_10, ft149_10, ↓gf149_11, ↓gf149_12, ↓pf149_12, ft149_12, ↓gf149_13, ↓pf149_13, ft149_13, ↓gf149_14, ↓gf149_15, ↓pf149_15, ft149_15, ↓gf149_16, ↓gf149_17, ↓gf149_18, ↓gf149_19, ↓pf149_19, ft149_19, ↓gf149_20, ↓pf149_20, ft149_20, ↓gf149_21, ↓gf149_22, ↓pf149_22, ft149_22, ↓ra2, ↓wa2, ↓ln2, ↓ra3, ↓wa3, ↓ln3, ↓ra4, ↓wa4, ↓ln4, ↓ra5, ↓wa5, ↓ln5, ↓ra6, ↓wa6, ↓ln6, ↓ra7, ↓wa7, ↓ln7, ↓ra8, ↓wa8, ↓ln8, ↓ra9, ↓wa9, ↓ln9, ↓ra10, ↓wa10, ↓ln10, ↓ra11, ↓wa11, ↓ln11, ↓ra12, ↓wa12, ↓ln12, ↓ra14, ↓wa14, ↓ln14, ↓ra15, ↓wa15, ↓ln15, ↓ra16, ↓wa16, ↓ln16, ↓ra17, ↓wa17, ↓ln17, ↓ra18, ↓wa18, ↓ln18, ↓ra19, ↓wa19, ↓ln19, ↓ra20, ↓wa20, ↓ln20, ↓ra146, ↓wa146, ↓ln146, ↓ra148, ↓wa148, ↓ln148, ↓ra150, ↓wa150, ↓ln150, ↓ra151, ↓wa151, ↓ln151, ↓ra152, ↓wa152, ↓ln152, ↓ra153, ↓wa153, ↓ln153, ↓ra154, ↓wa154, ↓ln154, ↓ra155, ↓wa155, ↓ln155, ↓ra156, ↓wa156, ↓ln156, ↓ra157, ↓wa157, ↓ln157, ↓ra158, ↓wa158, ↓ln158, ↓ra159, ↓wa159, ↓ln159, q_M_s, q_M_k, q_M_a, q_P_s, q_P_a, q_toN, q_i00, q_i10, q_j00, q_j10, q_le, h96, if_false, m1, e0, not_true_eq_false, e513, show ¬ ¬ q_i ((4 : Nat) : Int) = q_i 4 from fun z => z rfl, z48, r48, er, el, elc, q_le0, Int.le_refl, if_true, q_nb1, m741d]
          rfl
        · simp (disch := first | rfl | assumption | decide | omega | (unfold q_R; omega)) only [en512, e512_0, e512_1, e512_2, e512_3, e512_5, e512_7, e512_10, e512_11, e512_14, e512_15, e512_16, e512_19, e512_20, e512_21, e512_24, e512_26, e512_28, e512_29, e512_32, e512_33, e512_36, e512_37, e512_39, e512_40, e512_41, e512_44, e512_45, e512_48, e512_49, e512_51, e512_52, e512_53, e512_54, e512_55, e512_56, e512_59, e512_60, e512_61, e512_64, e512_65, e512_68, e512_69, e512_70, e512_71, e512_72, e512_74, e512_77, e512_78, e512_81, e512_84, ↓q_nv0, ↓q_nv1, ↓q_nv2, ↓q_nv3, ↓q_nv4, ↓q_nv5, ↓q_nv6, ↓q_nv7, ↓q_nv8, ↓q_nv9, ↓q_nv10, ↓q_nv11, ↓q_nv12, ↓q_nv13, ↓q_nv14, ↓q_nv15, ↓q_nv16, ↓q_nv17, ↓q_nv18, ↓q_nv19, ↓q_nv20, ↓q_nv21, ↓q_nv22, ↓q_gi0, ↓q_gi1, ↓q_gi2, ↓q_gi3, ↓q_gi4, ↓q_gi5, ↓q_gi6, ↓q_gi7, ↓q_gi8, ↓q_gi9, ↓q_gr0, ↓q_gr1, ↓q_gr2, ↓q_gr3, ↓q_gr4, ↓q_gr5, ↓q_gr6, ↓q_gr7, ↓q_gr8, ↓q_gr9, ↓q_ls0, ↓q_ls1i, ↓q_ls1r, ↓q_ls1n, ↓q_ls2i, ↓q_ls2r, ↓q_ls2n, ↓q_ls3i, ↓q_ls3r, ↓q_ls3n, ↓q_ls4i, ↓q_ls4r, ↓q_ls4n, ↓q_ls5i, ↓q_ls5r, ↓q_ls5n, ↓q_ls6i, ↓q_ls6r, ↓q_ls6n, ↓q_ls7i, ↓q_ls7r, ↓q_ls7n, ↓q_ls8i, ↓q_ls8r, ↓q_ls8n, ↓q_ls9i, ↓q_ls9r, ↓q_ls9n, q_nd0, q_nd1i, q_nd1r, q_nd1n, q_nd2i, q_nd2r, q_nd2n, q_nd3i, q_nd3r, q_nd3n, q_nd4i, q_nd4r, q_nd4n, q_nd5i, q_nd5r, q_nd5n, q_nd6i, q_nd6r, q_nd6n, q_nd7i, q_nd7r, q_nd7n, q_nd8i, q_nd8r, q_nd8n, q_nd9i, q_nd9r, q_nd9n, q_st0, q_st1, q_st2, q_st3, q_st4, q_st5, q_st6, q_st7, q_st8, q_st9, q_cat_i, q_cat_r, q_cat_n, q_wt0, q_wt1, q_tl0, q_tl1, ↓q_cl1, q_add, q_sub, q_mul, q_nari, q_narb0, q_narb1, q_fiti, q_fitb0, q_fitb1, List.cons_append, List.nil_append, Nat.reduceAdd, Nat.reduceLeDiff, and_self, and_true, true_and, ↓reduceIte, ↓rc0, ↓gf0_0, ↓gf0_1, ↓gf0_2, ↓gf0_3, ↓gf0_4, ↓gf0_5, ↓gf0_6, ↓gf0_7, ↓pf0_7, ft0_7, ↓rc1, ↓gf1_0, ↓pf1_0, ft1_0, ↓gf1_1, ↓pf1_1, ft1_1, ↓gf1_2, ↓gf1_3, ↓gf1_4, ↓gf1_5, ↓gf1_6, ↓gf1_7, ↓gf1_8, ↓gf1_9, ↓gf1_10, ↓gf1_11, ↓gf1_12, ↓rc13, ↓gf13_0, ↓gf13_1, ↓gf13_2, ↓gf13_3, ↓gf13_4, ↓gf13_5, ↓gf13_6, ↓pf13_6, ft13_6, ↓gf13_7, ↓pf13_7, ft13_7, ↓gf13_8, ↓pf13_8, ft13_8, ↓gf13_9, ↓pf13_9, ft13_90, ft13_91, ↓gf13_10, ↓gf13_11, ↓gf13_12, ↓pf13_12, ft13_12, ↓gf13_13, ↓pf13_13, ft13_13, ↓gf13_14, ↓pf13_14, ft13_14, ↓rc21, ↓gf21_0, ↓pf21_0, ft21_0, ↓gf21_1, ↓pf21_1, ft21_1, ↓gf21_2, ↓pf21_2, ft21_2, ↓gf21_3, ↓pf21_3, ft21_3, ↓rc22, ↓gf22_0, ↓gf22_1, ↓gf22_2, ↓rc23, ↓gf23_0, ↓gf23_1, ↓gf23_2, ↓gf23_3, ↓pf23_3, ft23_3, ↓gf23_4, ↓pf23_4, ft23_4, ↓gf23_5, ↓pf23_5, ft23_50, ft23_51, ↓rc145, ↓gf145_0, ↓gf145_1, ↓pf145_1, ft145_1, ↓rc147, ↓gf147_0, ↓gf147_1, ↓pf147_1, ft147_1, ↓rc149, ↓gf149_0, ↓gf149_1, ↓gf149_2, ↓gf149_3, ↓gf149_4, ↓pf149_4, ft149_40, ft149_41, ↓gf149_5, ↓pf149_5, ft149_5, ↓gf149_6, ↓pf149_6, ft149_60, ft149_61, ↓gf149_7, ↓pf149_7, ft149_7, ↓gf149_8, ↓pf149_8, ft149_8, ↓gf149_9, ↓pf149_9, ft149_9, ↓gf149_10, ↓pf149_10, ft149_10, ↓gf149_11, ↓gf149_12, ↓pf149_12, ft149_12, ↓gf149_13, ↓pf149_13, ft149_13, ↓gf149_14, ↓gf149_15, ↓pf149_15, ft149_15, ↓gf149_16, ↓gf149_17, ↓gf149_18, ↓gf149_19, ↓pf149_19, ft149_19, ↓gf149_20, ↓pf149_20, ft149_20, ↓gf149_21, ↓gf149_22, ↓pf149_22, ft149_22, ↓ra2, ↓wa2, ↓ln2, ↓ra3, ↓wa3, ↓ln3, ↓ra4, ↓wa4, ↓ln4, ↓ra5, ↓wa5, ↓ln5, ↓ra6, ↓wa6, ↓ln6, ↓ra7, ↓wa7, ↓ln7, ↓ra8, ↓wa8, ↓ln8, ↓ra9, ↓wa9, ↓ln9, ↓ra10, ↓wa10, ↓ln10, ↓ra11, ↓wa11, ↓ln11, ↓ra12, ↓wa12, ↓ln12, ↓ra14, ↓wa14, ↓ln14, ↓ra15, ↓wa15, ↓ln15, ↓ra16, ↓wa16, ↓ln16, ↓ra17, ↓wa17, ↓ln17, ↓ra18, ↓wa18, ↓ln18, ↓ra19, ↓wa19, ↓ln19, ↓ra20, ↓wa20, ↓ln20, ↓ra146, ↓wa146, ↓ln146, ↓ra148, ↓wa148, ↓ln148, ↓ra150, ↓wa150, ↓ln150, ↓ra151, ↓wa151, ↓ln151, ↓ra152, ↓wa152, ↓ln152, ↓ra153, ↓wa153, ↓ln153, ↓ra154, ↓wa154, ↓ln154, ↓ra155, ↓wa155, ↓ln155, ↓ra156, ↓wa156, ↓ln156, ↓ra157, ↓wa157, ↓ln157, ↓ra158, ↓wa158, ↓ln158, ↓ra159, ↓wa159, ↓ln159, q_M_s, q_M_k, q_M_a, q_P_s, q_P_a, q_toN, q_i00, q_i10, q_j00, q_j10, q_le, h96, if_false, m1, e0, not_true_eq_false, e513, q_eq, show ¬ (B : Int) = 4 by omega, not_false_eq_true, if_true, q_nb1, m741d]
          rfl
    · rw [q_gb_stop hS]
      exact ⟨mm, hm, hpS S c hS hb, hb.2.2, stop S c st z mm hc (by omega) hS hm⟩
theorem m512 {g : Nat → Int} {n hard : Int} {P H : Nat → Bool} {R : Nat → Prop} {c : Nat} (hR : q_Rt m g n) (hW : q_W g) (hx : q_mx (fun c => P c = true) (q_al g n hard) (q_Wn g n) (q_dd g n hard P)) (h16 : m 16 = q_xf (q_dd g n hard P)) (hal : ∀ j, j < 96 → q_al g n hard j → R j) (hc : c < 96) (hF : q_dd g n hard P c < 100000) (hhp : q_hp (P, H)) (hPR : ∀ j, j < 96 → P j = true → R j) (h19 : m 19 = q_bR P) (h20 : m 20 = q_bR H) (h12 : m 13 12 = q_cnt H 48) :
    ∃ mm', q_bm m mm' (q_gb (q_dd g n hard P) (q_Wn g n) (fun c => q_own g n c) 96 c (P, H)) ∧ q_hp (q_gb (q_dd g n hard P) (q_Wn g n) (fun c => q_own g n c) 96 c (P, H)) ∧ (∀ j, j < 96 → (q_gb (q_dd g n hard P) (q_Wn g n) (fun c => q_own g n c) 96 c (P, H)).1 j = true → R j) ∧ x_m 512 [.ref 13, .int (q_i c)] (q_H m K s) = some (.inl none, q_H mm' K s) := by
  have hu : q_un P ≤ 96 := q_cnt_le _ _
  have hE : P c = false → H (c % 48) = true → q_dd g n hard P ((c + 48) % 96) = q_dd g n hard P c + q_Wn g n ((c + 48) % 96) 4 := fun hS hs => by
    exfalso
    have h := hhp (c % 48) (by omega) hs
    by_cases h48 : c < 48
    · rw [show c % 48 = c by omega] at h
      have h1 : P c = true := h.1
      rw [hS] at h1
      cases h1
    · have h2 := h.2
      rw [show c % 48 + 48 = c by omega] at h2
      have h3 : P c = true := h2
      rw [hS] at h3
      cases h3
  obtain ⟨mm', a1, a2, a3, a4⟩ := l512 (t := c) (K := K) (s := s) hR hW hx h16 hal 96 (P, H) c 0 .null m hu (show 0 + q_un P ≤ 96 by omega) hc (Or.inr hF) (fun _ h => h) ⟨fun p hp hs => ⟨Or.inl (hhp p hp hs).1, Or.inl (hhp p hp hs).2⟩, hE, hPR⟩ ⟨h19, h20, h12, fun _ _ _ _ => rfl, fun _ _ => rfl⟩
  refine ⟨mm', a1, a2, a3, ?_⟩
  rw [en512, e512_0]
  simp only [e512_1, e512_2, e512_3, ↓q_nv0, ↓q_nv1, ↓q_nv2, ↓q_nv3, ↓q_nv4, ↓q_nv5, ↓q_nv6, ↓q_nv7, ↓q_nv8, ↓q_nv9, ↓q_nv10, ↓q_nv11, ↓q_nv12, ↓q_nv13, ↓q_nv14, ↓q_nv15, ↓q_nv16, ↓q_nv17, ↓q_nv18, ↓q_nv19, ↓q_nv20, ↓q_nv21, ↓q_nv22, ↓q_gi0, ↓q_gi1, ↓q_gi2, ↓q_gi3, ↓q_gi4, ↓q_gi5, ↓q_gi6, ↓q_gi7, ↓q_gi8, ↓q_gi9, ↓q_gr0, ↓q_gr1, ↓q_gr2, ↓q_gr3, ↓q_gr4, ↓q_gr5, ↓q_gr6, ↓q_gr7, ↓q_gr8, ↓q_gr9, ↓q_ls0, ↓q_ls1i, ↓q_ls1r, ↓q_ls1n, ↓q_ls2i, ↓q_ls2r, ↓q_ls2n, ↓q_ls3i, ↓q_ls3r, ↓q_ls3n, ↓q_ls4i, ↓q_ls4r, ↓q_ls4n, ↓q_ls5i, ↓q_ls5r, ↓q_ls5n, ↓q_ls6i, ↓q_ls6r, ↓q_ls6n, ↓q_ls7i, ↓q_ls7r, ↓q_ls7n, ↓q_ls8i, ↓q_ls8r, ↓q_ls8n, ↓q_ls9i, ↓q_ls9r, ↓q_ls9n, q_nd0, q_nd1i, q_nd1r, q_nd1n, q_nd2i, q_nd2r, q_nd2n, q_nd3i, q_nd3r, q_nd3n, q_nd4i, q_nd4r, q_nd4n, q_nd5i, q_nd5r, q_nd5n, q_nd6i, q_nd6r, q_nd6n, q_nd7i, q_nd7r, q_nd7n, q_nd8i, q_nd8r, q_nd8n, q_nd9i, q_nd9r, q_nd9n, q_st0, q_st1, q_st2, q_st3, q_st4, q_st5, q_st6, q_st7, q_st8, q_st9, q_cat_i, q_cat_r, q_cat_n, q_wt0, q_wt1, q_tl0, q_tl1, ↓q_cl1, q_add, q_sub, q_mul, q_nari, q_narb0, q_narb1, q_fiti, q_fitb0, q_fitb1, List.cons_append, List.nil_append, Nat.reduceAdd, Nat.reduceLeDiff, and_self, and_true, true_and, ↓reduceIte]
  exact a4
end M61
