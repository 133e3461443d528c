section M56
variable {m : Nat → Nat → Int} {K : Nat × Nat} {s : List Int32}
def q_op (w : Nat) : Nat := if w = 0 then 1 else if w = 1 then 0 else if w = 2 then 3 else if w = 3 then 2 else 4
theorem q_op_lt (w : Nat) : q_op w < 5 := by
  unfold q_op
  repeat' split
  all_goals omega
theorem q_op_op {w : Nat} (hw : w < 5) : q_op (q_op w) = w := by
  rcases (show w = 0 ∨ w = 1 ∨ w = 2 ∨ w = 3 ∨ w = 4 by omega) with rfl | rfl | rfl | rfl | rfl <;> rfl
theorem q_bs_op {c : Int} {w : Nat} (h0 : 0 ≤ c) (h1 : c < 96) (hw : w < 5) (hb : 0 ≤ q_bs c w) : q_bs (q_bs c w) (q_op w) = c := by
  rcases (show w = 0 ∨ w = 1 ∨ w = 2 ∨ w = 3 ∨ w = 4 by omega) with rfl | rfl | rfl | rfl | rfl
  · have e : q_bs c 0 = if c % 48 < 8 then -1 else c - 8 := rfl
    have e2 : ∀ d : Int, q_bs d (q_op 0) = if 40 ≤ d % 48 then -1 else d + 8 := fun _ => rfl
    rw [e2]
    rw [e] at hb ⊢
    split at hb
    · omega
    · rename_i h
      rw [if_neg h, if_neg (by omega)]
      omega
  · have e : q_bs c 1 = if 40 ≤ c % 48 then -1 else c + 8 := rfl
    have e2 : ∀ d : Int, q_bs d (q_op 1) = if d % 48 < 8 then -1 else d - 8 := fun _ => rfl
    rw [e2]
    rw [e] at hb ⊢
    split at hb
    · omega
    · rename_i h
      rw [if_neg h, if_neg (by omega)]
      omega
  · have e : q_bs c 2 = if c % 8 = 0 then -1 else c - 1 := rfl
    have e2 : ∀ d : Int, q_bs d (q_op 2) = if d % 8 = 7 then -1 else d + 1 := fun _ => rfl
    rw [e2]
    rw [e] at hb ⊢
    split at hb
    · omega
    · rename_i h
      rw [if_neg h, if_neg (by omega)]
      omega
  · have e : q_bs c 3 = if c % 8 = 7 then -1 else c + 1 := rfl
    have e2 : ∀ d : Int, q_bs d (q_op 3) = if d % 8 = 0 then -1 else d - 1 := fun _ => rfl
    rw [e2]
    rw [e] at hb ⊢
    split at hb
    · omega
    · rename_i h
      rw [if_neg h, if_neg (by omega)]
      omega
  · have e2 : ∀ d : Int, q_bs d (q_op 4) = (d + 48) % 96 := fun _ => rfl
    have e : q_bs c 4 = (c + 48) % 96 := rfl
    rw [e2, e]
    omega
theorem q_Wn_op {g : Nat → Int} {n : Int} {c w : Nat} (hw : w < 5) : q_Wn g n c (q_op w) = q_Wn g n c w := by
  unfold q_Wn
  congr 1
  rcases (show w = 0 ∨ w = 1 ∨ w = 2 ∨ w = 3 ∨ w = 4 by omega) with rfl | rfl | rfl | rfl | rfl
  · unfold q_sc
    simp [q_op]
  · unfold q_sc
    simp [q_op]
  · unfold q_sc
    simp [q_op]
  · unfold q_sc
    simp [q_op]
  · rfl
theorem q_own_sym {g : Nat → Int} {n : Int} (hW : q_W g) {c : Nat} (hc : c < 96) : q_own g n ((c % 48 : Nat) : Int) ↔ q_own g n c := by
  by_cases h : c < 48
  · rw [show c % 48 = c by omega]
  · obtain ⟨p, rfl⟩ : ∃ p, c = p + 48 := ⟨c - 48, by omega⟩
    have hp : p < 48 := by omega
    have hs := hW.2.2.2.2.2.2.2.2.2.2.2.1 p hp
    rw [show (p + 48) % 48 = p by omega]
    have e1 : q_is g ((p : Nat) : Int) = g (55 + p) := congrArg g (by omega)
    have e2 : q_is g (((p + 48 : Nat)) : Int) = g (103 + p) := congrArg g (by omega)
    have e3 : q_is g ((p : Nat) + 48 : Int) = g (103 + p) := congrArg g (by omega)
    unfold q_own q_net q_pin at *
    rw [e1, e3] at hs
    rw [e1, e2]
    constructor
    · rintro ⟨h1, h2⟩
      have h3 := hs (Or.inl h2)
      rw [← h3]
      exact ⟨h1, h2⟩
    · rintro ⟨h1, h2⟩
      have h3 := hs (Or.inr h2)
      rw [h3]
      exact ⟨h1, h2⟩
/-- the router has read the prices for the net n -/
noncomputable def q_lc (g : Nat → Int) (n : Int) (p : Nat) : Int := haveI := Classical.propDecidable; if q_own g n p then 0 else 3
def q_Rt (m : Nat → Nat → Int) (g : Nat → Int) (n : Int) : Prop := (∀ c : Nat, c < 96 → m 14 c = q_pr g n c) ∧ (∀ p, p < 48 → m 15 p = q_lc g n p) ∧ m 13 8 = n
theorem q_Rt_p {g : Nat → Int} {n : Int} (h : q_Rt m g n) {c : Nat} (hc : c < 96) : m 14 ((c : Nat) : Int).toNat = q_pr g n c := h.1 c hc
theorem m511 {g : Nat → Int} {n : Int} {c w : Nat} (hR : q_Rt m g n) (hW : q_W g) (hc : c < 96) (hw : w < 5) : x_m 511 [.ref 13, .int (q_i c), .int (q_i w)] (q_H m K s) = some (.inl (some (.int (q_i (q_Wn g n c w)))), (q_H m K s)) := by
  have hp := hR.1 c hc
  have hp3 := q_pr_3 g n c
  have r48 := q_rem (a := c) (by omega) (show q_R c by unfold q_R; omega) (b := 48) (by omega) (by unfold q_R; omega)
  have z48 : ¬ q_i 48 = 0 := by decide
  have hl : m 15 ((c : Int) % 48).toNat = q_lc g n (c % 48) := by
    rw [show ((c : Int) % 48).toNat = c % 48 by omega]
    exact hR.2.1 _ (by omega)
  have ho := q_own_sym (n := n) hW hc
  have key : ∀ (mo : Int), (q_pr g n c = 8 ∧ mo = 8 ∨ q_pr g n c ≠ 8 ∧ mo = 0) → q_mo g n c = mo := by
    intro mo h
    unfold q_mo
    rcases h with ⟨h, e⟩ | ⟨h, e⟩
    · rw [if_pos h, e]
    · rw [if_neg h, e]
  have fin : ∀ (mo : Int), q_mo g n c = mo → (if ¬ q_i (w : Int) = q_i 4 then (some (.inl (some (.int (q_i (mo + (if (w = 2 ∨ w = 3) ↔ c < 48 then 1 else 2))))), (q_H m K s)) : q_O) else some (.inl (some (.int (q_i (mo + q_lc g n (c % 48))))), (q_H m K s))) = some (.inl (some (.int (q_i (q_Wn g n c w)))), (q_H m K s)) := by
    intro mo hmo
    unfold q_Wn q_sc
    rw [hmo]
    by_cases h4 : w = 4
    · subst h4
      rw [if_neg (fun z => z rfl), if_pos rfl]
      unfold q_lc
      by_cases x : q_own g n c
      · rw [if_pos (ho.mpr x), if_pos x, Int.add_comm]
      · rw [if_neg (fun z => x (ho.mp z)), if_neg x, Int.add_comm]
    · rw [if_pos (by rw [q_eq ⟨by omega, by omega⟩ ⟨by omega, by omega⟩]; omega), if_neg h4, Int.add_comm]
      by_cases y : (w = 2 ∨ w = 3) ↔ c < 48
      · rw [if_pos y, if_pos (show ((w = 2 ∨ w = 3) ↔ (c : Int) < 48) by omega)]
      · rw [if_neg y, if_neg (show ¬ ((w = 2 ∨ w = 3) ↔ (c : Int) < 48) by omega)]
  obtain ⟨mo, hmo, hcase⟩ : ∃ mo, q_mo g n c = mo ∧ (q_pr g n c = 8 ∧ mo = 8 ∨ q_pr g n c ≠ 8 ∧ mo = 0) := by
    rcases hp3 with h | h | h
    · exact ⟨0, key 0 (Or.inr ⟨by omega, rfl⟩), Or.inr ⟨by omega, rfl⟩⟩
    · exact ⟨8, key 8 (Or.inl ⟨h, rfl⟩), Or.inl ⟨h, rfl⟩⟩
    · exact ⟨0, key 0 (Or.inr ⟨by omega, rfl⟩), Or.inr ⟨by omega, rfl⟩⟩
  rw [← fin mo hmo]
  rcases hcase with ⟨h, rfl⟩ | ⟨h, rfl⟩
  · rcases (show w = 0 ∨ w = 1 ∨ w = 2 ∨ w = 3 ∨ w = 4 by omega) with rfl | rfl | rfl | rfl | rfl <;> by_cases y : c < 48
    all_goals
      simp (disch := first | rfl | assumption | decide | omega | (unfold q_R; omega)) only [en511, e511_0, e511_1, e511_4, e511_5, e511_6, e511_8, e511_11, e511_13, e511_16, e511_17, e511_18, e511_19, e511_20, e511_23, e511_24, e511_25, e511_28, e511_29, e511_31, e511_32, e511_33, e511_34, e511_35, e511_36, e511_37, e511_40, e511_41, e511_42, e511_45, e511_46, e511_49, e511_50, e511_52, e511_53, e511_55, e511_58, e511_59, e511_62, e511_63, e511_65, e511_66, e511_68, e511_70, e511_73, e511_74, e511_77, e511_78, e511_79, ↓q_nv0, ↓q_nv1, ↓q_nv2, ↓q_nv3, ↓q_nv4, ↓q_nv5, ↓q_nv6, ↓q_nv7, ↓q_nv8, ↓q_nv9, ↓q_nv10, ↓q_nv11, ↓q_nv12, ↓q_nv13, ↓q_nv14, ↓q_nv15, ↓q_nv16, ↓q_nv17, ↓q_nv18, ↓q_nv19, ↓q_nv20, ↓q_nv21, ↓q_nv22, ↓q_gi0, ↓q_gi1, ↓q_gi2, ↓q_gi3, ↓q_gi4, ↓q_gi5, ↓q_gi6, ↓q_gi7, ↓q_gi8, ↓q_gi9, ↓q_gr0, ↓q_gr1, ↓q_gr2, ↓q_gr3, ↓q_gr4, ↓q_gr5, ↓q_gr6, ↓q_gr7, ↓q_gr8, ↓q_gr9, ↓q_ls0, ↓q_ls1i, ↓q_ls1r, ↓q_ls1n, ↓q_ls2i, ↓q_ls2r, ↓q_ls2n, ↓q_ls3i, ↓q_ls3r, ↓q_ls3n, ↓q_ls4i, ↓q_ls4r, ↓q_ls4n, ↓q_ls5i, ↓q_ls5r, ↓q_ls5n, ↓q_ls6i, ↓q_ls6r, ↓q_ls6n, ↓q_ls7i, ↓q_ls7r, ↓q_ls7n, ↓q_ls8i, ↓q_ls8r, ↓q_ls8n, ↓q_ls9i, ↓q_ls9r, ↓q_ls9n, q_nd0, q_nd1i, q_nd1r, q_nd1n, q_nd2i, q_nd2r, q_nd2n, q_nd3i, q_nd3r, q_nd3n, q_nd4i, q_nd4r, q_nd4n, q_nd5i, q_nd5r, q_nd5n, q_nd6i, q_nd6r, q_nd6n, q_nd7i, q_nd7r, q_nd7n, q_nd8i, q_nd8r, q_nd8n, q_nd9i, q_nd9r, q_nd9n, q_st0, q_st1, q_st2, q_st3, q_st4, q_st5, q_st6, q_st7, q_st8, q_st9, q_cat_i, q_cat_r, q_cat_n, q_wt0, q_wt1, q_tl0, q_tl1, ↓q_cl1, q_add, q_sub, q_mul, q_nari, q_narb0, q_narb1, q_fiti, q_fitb0, q_fitb1, List.cons_append, List.nil_append, Nat.reduceAdd, Nat.reduceLeDiff, and_self, and_true, true_and, ↓reduceIte, ↓rc0, ↓gf0_0, ↓gf0_1, ↓gf0_2, ↓gf0_3, ↓gf0_4, ↓gf0_5, ↓gf0_6, ↓gf0_7, ↓pf0_7, ft0_7, ↓rc1, ↓gf1_0, ↓pf1_0, ft1_0, ↓gf1_1, ↓pf1_1, ft1_1, ↓gf1_2, ↓gf1_3, ↓gf1_4, ↓gf1_5, ↓gf1_6, ↓gf1_7, ↓gf1_8, ↓gf1_9, ↓gf1_10, ↓gf1_11, ↓gf1_12, ↓rc13, ↓gf13_0, ↓gf13_1, ↓gf13_2, ↓gf13_3, ↓gf13_4, ↓gf13_5, ↓gf13_6, ↓pf13_6, ft13_6, ↓gf13_7, ↓pf13_7, ft13_7, ↓gf13_8, ↓pf13_8, ft13_8, ↓gf13_9, ↓pf13_9, ft13_90, ft13_91, ↓gf13_10, ↓gf13_11, ↓gf13_12, ↓pf13_12, ft13_12, ↓gf13_13, ↓pf13_13, ft13_13, ↓gf13_14, ↓pf13_14, ft13_14, ↓rc21, ↓gf21_0, ↓pf21_0, ft21_0, ↓gf21_1, ↓pf21_1, ft21_1, ↓gf21_2, ↓pf21_2, ft21_2, ↓gf21_3, ↓pf21_3, ft21_3, ↓rc22, ↓gf22_0, ↓gf22_1, ↓gf22_2, ↓rc23, ↓gf23_0, ↓gf23_1, ↓gf23_2, ↓gf23_3, ↓pf23_3, ft23_3, ↓gf23_4, ↓pf23_4, ft23_4, ↓gf23_5, ↓pf23_5, ft23_50, ft23_51, ↓rc145, ↓gf145_0, ↓gf145_1, ↓pf145_1, ft145_1, ↓rc147, ↓gf147_0, ↓gf147_1, ↓pf147_1, ft147_1, ↓rc149, ↓gf149_0, ↓gf149_1, ↓gf149_2, ↓gf149_3, ↓gf149_4, ↓pf149_4, ft149_40, ft149_41, ↓gf149_5, ↓pf149_5, ft149_5, ↓gf149_6, ↓pf149_6, ft149_60, ft149_61, ↓gf149_7, ↓pf149_7, ft149_7, ↓gf149_8, ↓pf149_8, ft149_8, ↓gf149_9, ↓pf149_9, ft149_9, ↓gf149_10, ↓pf149_10, ft149_10, ↓gf149_11, ↓gf149_12, ↓pf149_12, ft149_12, ↓gf149_13, ↓pf149_13, ft149_13, ↓gf149_14, ↓gf149_15, ↓pf149_15, ft149_15, ↓gf149_16, ↓gf149_17, ↓gf149_18, ↓gf149_19, ↓pf149_19, ft149_19, ↓gf149_20, ↓pf149_20, ft149_20, ↓gf149_21, ↓gf149_22, ↓pf149_22, ft149_22, ↓ra2, ↓wa2, ↓ln2, ↓ra3, ↓wa3, ↓ln3, ↓ra4, ↓wa4, ↓ln4, ↓ra5, ↓wa5, ↓ln5, ↓ra6, ↓wa6, ↓ln6, ↓ra7, ↓wa7, ↓ln7, ↓ra8, ↓wa8, ↓ln8, ↓ra9, ↓wa9, ↓ln9, ↓ra10, ↓wa10, ↓ln10, ↓ra11, ↓wa11, ↓ln11, ↓ra12, ↓wa12, ↓ln12, ↓ra14, ↓wa14, ↓ln14, ↓ra15, ↓wa15, ↓ln15, ↓ra16, ↓wa16, ↓ln16, ↓ra17, ↓wa17, ↓ln17, ↓ra18, ↓wa18, ↓ln18, ↓ra19, ↓wa19, ↓ln19, ↓ra20, ↓wa20, ↓ln20, ↓ra146, ↓wa146, ↓ln146, ↓ra148, ↓wa148, ↓ln148, ↓ra150, ↓wa150, ↓ln150, ↓ra151, ↓wa151, ↓ln151, ↓ra152, ↓wa152, ↓ln152, ↓ra153, ↓wa153, ↓ln153, ↓ra154, ↓wa154, ↓ln154, ↓ra155, ↓wa155, ↓ln155, ↓ra156, ↓wa156, ↓ln156, ↓ra157, ↓wa157, ↓ln157, ↓ra158, ↓wa158, ↓ln158, ↓ra159, ↓wa159, ↓ln159, q_M_s, q_M_k, q_M_a, q_P_s, q_P_a, q_toN, q_i00, q_i10, q_j00, q_j10, hp, h, q_eq, q_le, show (8 : Int) = 8 from rfl, not_true_eq_false, not_false_eq_true, if_true, if_false, hl, z48, r48, y, show ((48 : Int) ≤ (c : Int)) = ¬ (c < 48) from propext (by omega)]
      try simp
  · rcases (show w = 0 ∨ w = 1 ∨ w = 2 ∨ w = 3 ∨ w = 4 by omega) with rfl | rfl | rfl | rfl | rfl <;> by_cases y : c < 48
    all_goals
      simp (disch := first | rfl | assumption | decide | omega | (unfold q_R; omega)) only [en511, e511_0, e511_1, e511_4, e511_5, e511_6, e511_8, e511_11, e511_13, e511_16, e511_17, e511_18, e511_19, e511_20, e511_23, e511_24, e511_25, e511_28, e511_29, e511_31, e511_32, e511_33, e511_34, e511_35, e511_36, e511_37, e511_40, e511_41, e511_42, e511_45, e511_46, e511_49, e511_50, e511_52, e511_53, e511_55, e511_58, e511_59, e511_62, e511_63, e511_65, e511_66, e511_68, e511_70, e511_73, e511_74, e511_77, e511_78, e511_79, ↓q_nv0, ↓q_nv1, ↓q_nv2, ↓q_nv3, ↓q_nv4, ↓q_nv5, ↓q_nv6, ↓q_nv7, ↓q_nv8, ↓q_nv9, ↓q_nv10, ↓q_nv11, ↓q_nv12, ↓q_nv13, ↓q_nv14, ↓q_nv15, ↓q_nv16, ↓q_nv17, ↓q_nv18, ↓q_nv19, ↓q_nv20, ↓q_nv21, ↓q_nv22, ↓q_gi0, ↓q_gi1, ↓q_gi2, ↓q_gi3, ↓q_gi4, ↓q_gi5, ↓q_gi6, ↓q_gi7, ↓q_gi8, ↓q_gi9, ↓q_gr0, ↓q_gr1, ↓q_gr2, ↓q_gr3, ↓q_gr4, ↓q_gr5, ↓q_gr6, ↓q_gr7, ↓q_gr8, ↓q_gr9, ↓q_ls0, ↓q_ls1i, ↓q_ls1r, ↓q_ls1n, ↓q_ls2i, ↓q_ls2r, ↓q_ls2n, ↓q_ls3i, ↓q_ls3r, ↓q_ls3n, ↓q_ls4i, ↓q_ls4r, ↓q_ls4n, ↓q_ls5i, ↓q_ls5r, ↓q_ls5n, ↓q_ls6i, ↓q_ls6r, ↓q_ls6n, ↓q_ls7i, ↓q_ls7r, ↓q_ls7n, ↓q_ls8i, ↓q_ls8r, ↓q_ls8n, ↓q_ls9i, ↓q_ls9r, ↓q_ls9n, q_nd0, q_nd1i, q_nd1r, q_nd1n, q_nd2i, q_nd2r, q_nd2n, q_nd3i, q_nd3r, q_nd3n, q_nd4i, q_nd4r, q_nd4n, q_nd5i, q_nd5r, q_nd5n, q_nd6i, q_nd6r, q_nd6n, q_nd7i, q_nd7r, q_nd7n, q_nd8i, q_nd8r, q_nd8n, q_nd9i, q_nd9r, q_nd9n, q_st0, q_st1, q_st2, q_st3, q_st4, q_st5, q_st6, q_st7, q_st8, q_st9, q_cat_i, q_cat_r, q_cat_n, q_wt0, q_wt1, q_tl0, q_tl1, ↓q_cl1, q_add, q_sub, q_mul, q_nari, q_narb0, q_narb1, q_fiti, q_fitb0, q_fitb1, List.cons_append, List.nil_append, Nat.reduceAdd, Nat.reduceLeDiff, and_self, and_true, true_and, ↓reduceIte, ↓rc0, ↓gf0_0, ↓gf0_1, ↓gf0_2, ↓gf0_3, ↓gf0_4, ↓gf0_5, ↓gf0_6, ↓gf0_7, ↓pf0_7, ft0_7, ↓rc1, ↓gf1_0, ↓pf1_0, ft1_0, ↓gf1_1, ↓pf1_1, ft1_1, ↓gf1_2, ↓gf1_3, ↓gf1_4, ↓gf1_5, ↓gf1_6, ↓gf1_7, ↓gf1_8, ↓gf1_9, ↓gf1_10, ↓gf1_11, ↓gf1_12, ↓rc13, ↓gf13_0, ↓gf13_1, ↓gf13_2, ↓gf13_3, ↓gf13_4, ↓gf13_5, ↓gf13_6, ↓pf13_6, ft13_6, ↓gf13_7, ↓pf13_7, ft13_7, ↓gf13_8, ↓pf13_8, ft13_8, ↓gf13_9, ↓pf13_9, ft13_90, ft13_91, ↓gf13_10, ↓gf13_11, ↓gf13_12, ↓pf13_12, ft13_12, ↓gf13_13, ↓pf13_13, ft13_13, ↓gf13_14, ↓pf13_14, ft13_14, ↓rc21, ↓gf21_0, ↓pf21_0, ft21_0, ↓gf21_1, ↓pf21_1, ft21_1, ↓gf21_2, ↓pf21_2, ft21_2, ↓gf21_3, ↓pf21_3, ft21_3, ↓rc22, ↓gf22_0, ↓gf22_1, ↓gf22_2, ↓rc23, ↓gf23_0, ↓gf23_1, ↓gf23_2, ↓gf23_3, ↓pf23_3, ft23_3, ↓gf23_4, ↓pf23_4, ft23_4, ↓gf23_5, ↓pf23_5, ft23_50, ft23_51, ↓rc145, ↓gf145_0, ↓gf145_1, ↓pf145_1, ft145_1, ↓rc147, ↓gf147_0, ↓gf147_1, ↓pf147_1, ft147_1, ↓rc149, ↓gf149_0, ↓gf149_1, ↓gf149_2, ↓gf149_3, ↓gf149_4, ↓pf149_4, ft149_40, ft149_41, ↓gf149_5, ↓pf149_5, ft149_5, ↓gf149_6, ↓pf149_6, ft149_60, ft149_61, ↓gf149_7, ↓pf149_7, ft149_7, ↓gf149_8, ↓pf149_8, ft149_8, ↓gf149_9, ↓pf149_9, ft149_9, ↓gf149_10, ↓pf149_10, ft149_10, ↓gf149_11, ↓gf149_12, ↓pf149_12, ft149_12, ↓gf149_13, ↓pf149_13, ft149_13, ↓gf149_14, ↓gf149_15, ↓pf149_15, ft149_15, ↓gf149_16, ↓gf149_17, ↓gf149_18, ↓gf149_19, ↓pf149_19, ft149_19, ↓gf149_20, ↓pf149_20, ft149_20, ↓gf149_21, ↓gf149_22, ↓pf149_22, ft149_22, ↓ra2, ↓wa2, ↓ln2, ↓ra3, ↓wa3, ↓ln3, ↓ra4, ↓wa4, ↓ln4, ↓ra5, ↓wa5, ↓ln5, ↓ra6, ↓wa6, ↓ln6, ↓ra7, ↓wa7, ↓ln7, ↓ra8, ↓wa8, ↓ln8, ↓ra9, ↓wa9, ↓ln9, ↓ra10, ↓wa10, ↓ln10, ↓ra11, ↓wa11, ↓ln11, ↓ra12, ↓wa12, ↓ln12, ↓ra14, ↓wa14, ↓ln14, ↓ra15, ↓wa15, ↓ln15, ↓ra16, ↓wa16, ↓ln16, ↓ra17, ↓wa17, ↓ln17, ↓ra18, ↓wa18, ↓ln18, ↓ra19, ↓wa19, ↓ln19, ↓ra20, ↓wa20, ↓ln20, ↓ra146, ↓wa146, ↓ln146, ↓ra148, ↓wa148, ↓ln148, ↓ra150, ↓wa150, ↓ln150, ↓ra151, ↓wa151, ↓ln151, ↓ra152, ↓wa152, ↓ln152, ↓ra153, ↓wa153, ↓ln153, ↓ra154, ↓wa154, ↓ln154, ↓ra155, ↓wa155, ↓ln155, ↓ra156, ↓wa156, ↓ln156, ↓ra157, ↓wa157, ↓ln157, ↓ra158, ↓wa158, ↓ln158, ↓ra159, ↓wa159, ↓ln159, q_M_s, q_M_k, q_M_a, q_P_s, q_P_a, q_toN, q_i00, q_i10, q_j00, q_j10, hp, q_eq, q_le, show ¬ q_pr g n c = 8 from h, show q_R (q_pr g n c) by unfold q_R; omega, not_true_eq_false, not_false_eq_true, if_true, if_false, hl, z48, r48, y, show ((48 : Int) ≤ (c : Int)) = ¬ (c < 48) from propext (by omega)]
      try simp
end M56
