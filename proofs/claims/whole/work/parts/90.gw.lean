/-- the row when a net is routed -/
def q_gw (g : Nat → Int) (n : Nat) (P H : Nat → Bool) (cost : Int) : Nat → Int := fun j => if j = 7 + 9 * n then 1 else if j = 8 + 9 * n then cost else if 55 ≤ j ∧ j < 151 ∧ P (j - 55) = true ∧ g j = 0 then 3 + 2 * n else if 151 ≤ j ∧ j < 199 ∧ H (j - 151) = true then n + 1 else g j
theorem q_gw_lo {g : Nat → Int} {n j : Nat} {P H : Nat → Bool} {cost : Int} (hj : j < 55) (h1 : j ≠ 7 + 9 * n) (h2 : j ≠ 8 + 9 * n) : q_gw g n P H cost j = g j := by
  unfold q_gw
  rw [if_neg h1, if_neg h2, if_neg (by omega), if_neg (by omega)]
theorem q_gw_7 {g : Nat → Int} {n : Nat} {P H : Nat → Bool} {cost : Int} : q_gw g n P H cost (7 + 9 * n) = 1 := if_pos rfl
theorem q_gw_8 {g : Nat → Int} {n : Nat} {P H : Nat → Bool} {cost : Int} : q_gw g n P H cost (8 + 9 * n) = cost := by
  unfold q_gw
  rw [if_neg (by omega), if_pos rfl]
theorem q_gw_c {g : Nat → Int} {n c : Nat} {P H : Nat → Bool} {cost : Int} (hn : n < 6) (hc : c < 96) : q_gw g n P H cost (55 + c) = if P c = true ∧ g (55 + c) = 0 then 3 + 2 * (n : Int) else g (55 + c) := by
  unfold q_gw
  rw [if_neg (by omega), if_neg (by omega)]
  by_cases h : P c = true ∧ g (55 + c) = 0
  · rw [if_pos h, if_pos ⟨by omega, by omega, by rw [show 55 + c - 55 = c by omega]; exact h.1, h.2⟩]
  · rw [if_neg h, if_neg (fun z => h ⟨by have := z.2.2.1; rw [show 55 + c - 55 = c by omega] at this; exact this, z.2.2.2⟩), if_neg (by omega)]
theorem q_gw_h {g : Nat → Int} {n p : Nat} {P H : Nat → Bool} {cost : Int} (hn : n < 6) (hp : p < 48) : q_gw g n P H cost (151 + p) = if H p = true then (n : Int) + 1 else g (151 + p) := by
  unfold q_gw
  rw [if_neg (by omega), if_neg (by omega), if_neg (by omega)]
  by_cases h : H p = true
  · rw [if_pos h, if_pos ⟨by omega, by omega, by rw [show 151 + p - 151 = p by omega]; exact h⟩]
  · rw [if_neg h, if_neg (fun z => h (by have := z.2.2; rw [show 151 + p - 151 = p by omega] at this; exact this))]
theorem q_gw_hi {g : Nat → Int} {n j : Nat} {P H : Nat → Bool} {cost : Int} (hn : n < 6) (hj : 199 ≤ j) : q_gw g n P H cost j = g j := by
  unfold q_gw
  rw [if_neg (by omega), if_neg (by omega), if_neg (by omega), if_neg (by omega)]
/-- what a way must be to be laid -/
def q_lw (g : Nat → Int) (n : Nat) (P H : Nat → Bool) (cost : Int) : Prop := (n : Int) < g 0 ∧ g (7 + 9 * n) = 0 ∧ (0 ≤ cost ∧ cost ≤ 5000) ∧ (∀ c : Nat, c < 96 → P c = true → g (55 + c) = 0 ∧ ¬ q_own g n c ∨ q_own g n c ∧ g (55 + c) = 2 + 2 * n) ∧ ∀ p : Nat, p < 48 → H p = true → P p = true ∧ P (p + 48) = true ∧ g (55 + p) = 0 ∧ g (103 + p) = 0
theorem q_W_gw {g : Nat → Int} {n : Nat} {P H : Nat → Bool} {cost : Int} (hW : q_W g) (hl : q_lw g n P H cost) : q_W (q_gw g n P H cost) := by
  obtain ⟨w1, w2, w3, w4, w5, w6, w7, w8, w9, w10, w11, w12, w13⟩ := hW
  obtain ⟨hn, l1, l2, l3, l4⟩ := hl
  have hn6 : n < 6 := by omega
  have hcell := fun c (hc : c < 96) => q_gw_c (g := g) (P := P) (H := H) (cost := cost) hn6 hc
  have hhole := fun p (hp : p < 48) => q_gw_h (g := g) (P := P) (H := H) (cost := cost) hn6 hp
  have e0 : q_gw g n P H cost 0 = g 0 := q_gw_lo (by omega) (by omega) (by omega)
  have keep : ∀ c, c < 96 → g (55 + c) ≠ 0 → q_gw g n P H cost (55 + c) = g (55 + c) := fun c hc h => by rw [hcell c hc, if_neg (fun z => h z.2)]
  refine ⟨fun j => ?_, ?_, fun a ha => ?_, fun a ha => ?_, fun a ha => ?_, fun a ha => ?_, fun a b ha hb => ?_, fun a b ha hb => ?_, fun a b ha h2 hb => ?_, fun j hj => ?_, fun j a hj ha h2 => ?_, fun q hq h2 => ?_, fun q hq => ?_⟩
  · have h1 := w1 j
    unfold q_gw
    unfold q_R at *
    repeat' split
    all_goals omega
  · rw [e0]
    exact w2
  · rw [q_gw_lo (by omega) (by omega) (by omega)]
    exact w3 a ha
  · rw [q_gw_lo (by omega) (by omega) (by omega)]
    exact w4 a ha
  · by_cases e : a = n
    · subst e
      exact Or.inr q_gw_7
    · rw [q_gw_lo (by omega) (by omega) (by omega)]
      exact w5 a ha
  · by_cases e : a = n
    · subst e
      rw [q_gw_8]
      exact l2
    · rw [q_gw_lo (by omega) (by omega) (by omega)]
      exact w6 a ha
  · rw [q_gw_lo (by omega) (by omega) (by omega)]
    exact w7 a b ha hb
  · have hm := w4 a ha
    rw [q_gw_lo (by omega) (by omega) (by omega)] at hb
    have h7 := w7 a b ha (by omega)
    obtain ⟨h8, h9⟩ := w8 a b ha hb
    rw [q_gw_lo (by omega) (by omega) (by omega)]
    obtain ⟨q, hq⟩ : ∃ q : Nat, g (3 + 9 * a + b) = q := ⟨(g (3 + 9 * a + b)).toNat, by omega⟩
    rw [hq] at h7 h8 h9 ⊢
    rw [show (q : Int) + 48 = ((q + 48 : Nat) : Int) from rfl, q_is_nat] at h9 ⊢
    rw [q_is_nat] at h8 ⊢
    rw [keep q (by omega) (by omega), keep (q + 48) (by omega) (by omega)]
    exact ⟨h8, h9⟩
  · rw [e0] at h2
    have hne : a ≠ n := by omega
    rw [q_gw_lo (by omega) (by omega) (by omega)]
    exact w9 a b ha h2 hb
  · have := w10 j hj
    rw [e0, hcell j hj]
    split <;> omega
  · by_cases e : a = n
    · subst e
      exact q_gw_7
    · rw [hcell j hj] at h2
      rw [q_gw_lo (by omega) (by omega) (by omega)]
      split at h2
      · omega
      · exact w11 j a hj ha h2
  · have c1 := hcell q (by omega)
    have c2 := hcell (q + 48) (by omega)
    have k1 := keep q (by omega)
    have k2 := keep (q + 48) (by omega)
    rw [show 55 + (q + 48) = 103 + q by omega] at c2 k2
    have i1 : q_is g (q : Int) = g (55 + q) := q_is_nat
    have i2 : q_is g ((q : Int) + 48) = g (103 + q) := congrArg g (by omega)
    have j1 : q_is (q_gw g n P H cost) (q : Int) = q_gw g n P H cost (55 + q) := q_is_nat
    have j2 : q_is (q_gw g n P H cost) ((q : Int) + 48) = q_gw g n P H cost (103 + q) := congrArg (q_gw g n P H cost) (by omega)
    have hpin : q_pin g q ∨ q_pin g (q + 48) := by
      unfold q_pin at h2 ⊢
      rw [j1, j2, c1, c2] at h2
      rw [i1, i2]
      rcases h2 with h2 | h2
      · left
        split at h2
        · omega
        · exact h2
      · right
        split at h2
        · omega
        · exact h2
    have h4 := w12 q hq hpin
    unfold q_pin at hpin
    rw [i1, i2] at hpin
    rw [k1 (by omega), k2 (by omega)]
    exact h4
  · have h9 := w13 q hq
    have k1 := keep q (by omega)
    have k2 := keep (q + 48) (by omega)
    rw [show 55 + (q + 48) = 103 + q by omega] at k2
    rw [hhole q hq]
    by_cases e : H q = true
    · obtain ⟨a1, a2, a3, a4⟩ := l4 q hq e
      have c1 := hcell q (by omega)
      have c2 := hcell (q + 48) (by omega)
      rw [show 55 + (q + 48) = 103 + q by omega] at c2
      rw [if_pos e]
      refine ⟨by omega, by omega, fun _ => ?_⟩
      rw [c1, c2, if_pos ⟨a1, a3⟩, if_pos ⟨a2, a4⟩]
      omega
    · rw [if_neg e]
      refine ⟨h9.1, h9.2.1, fun h => ?_⟩
      have h10 := h9.2.2 h
      rw [k1 (by omega), k2 (by omega)]
      exact h10
theorem q_Z_gw {g : Nat → Int} {n : Nat} {P H : Nat → Bool} {cost : Int} (h : q_Z g) (hn : n < 6) : q_Z (q_gw g n P H cost) := fun j hj => by
  rw [q_gw_hi hn hj]
  exact h j hj
section M90
variable {m : Nat → Nat → Int} {K : Nat × Nat} {s : List Int32}
def q_w1 (g : Nat → Int) (n : Nat) (P : Nat → Bool) (i : Nat) : Nat → Int := fun j => if 55 ≤ j ∧ j < 55 + i ∧ P (j - 55) = true ∧ g j = 0 then 3 + 2 * n else g j
def q_w2 (g : Nat → Int) (n : Nat) (P H : Nat → Bool) (i : Nat) : Nat → Int := fun j => if 151 ≤ j ∧ j < 151 + i ∧ H (j - 151) = true then n + 1 else q_w1 g n P 96 j
theorem m839 {n : Nat} {P H : Nat → Bool} {cost : Int} (hR : ∀ k, q_R (m 150 k)) (hn : n < 6) (h157 : m 157 = q_bR P) (h158 : m 158 = q_bR H) (h19 : m 149 19 = cost) : x_m 839 [.ref 149, .int (q_i n)] (q_H m K s) = some (.inl none, q_H (q_P m 150 (q_gw (m 150) n P H cost)) K s) := by
  generalize hg : m 150 = g at *
  have hl1 := q_for (M := 839) (pc := 2) (n := 96) (fun i => [.ref 149, .int (q_i n), .int (q_i i)]) (fun i => q_H (q_P m 150 (q_w1 g n P i)) K s) (fun i hi => by
    have ei : q_is (q_w1 g n P i) (i : Int) = g (55 + i) := by
      rw [q_is_nat]
      exact if_neg (by omega)
    have e13 := m813H (m := q_P m 150 (q_w1 g n P i)) (K := K) (s := s) (c := i) (by omega) (by omega)
    rw [q_P_s, ei] at e13
    have hRi := hR (55 + i)
    have ep : m 157 i = if P i = true then 1 else 0 := by rw [h157]; rfl
    have sk : ¬ (P i = true ∧ g (55 + i) = 0) → q_w1 g n P i = q_w1 g n P (i + 1) := fun hx => by
      funext j
      unfold q_w1
      by_cases e : j = 55 + i
      · rw [if_neg (by omega), if_neg (fun z => hx (by rw [show j - 55 = i by omega, e] at z; exact z.2.2))]
      · simp only [show (j < 55 + (i + 1)) = (j < 55 + i) from propext (by omega)]
    have st : P i = true → g (55 + i) = 0 → q_upd (q_w1 g n P i) (55 + i) (3 + 2 * (n : Int)) = q_w1 g n P (i + 1) := fun h1 h2 => by
      funext j
      unfold q_upd q_w1
      by_cases e : j = 55 + i
      · rw [if_pos e, if_pos ⟨by omega, by omega, by rw [show j - 55 = i by omega]; exact h1, by rw [e]; exact h2⟩]
      · rw [if_neg e]
        simp only [show (j < 55 + (i + 1)) = (j < 55 + i) from propext (by omega)]
    try dsimp only
    rw [e839_2]
    by_cases x1 : P i = true
    · rw [if_pos x1] at ep
      by_cases x2 : g (55 + i) = 0
      · rw [← st x1 x2]
        rw [x2] at e13
        simp (disch := first | rfl | assumption | decide | omega | (unfold q_R; omega)) only [en839, e839_0, e839_1, e839_3, e839_5, e839_8, e839_9, e839_12, e839_13, e839_14, e839_15, e839_18, e839_19, e839_20, e839_23, e839_26, e839_27, e839_30, e839_32, e839_33, e839_34, e839_35, e839_36, e839_37, e839_38, e839_39, e839_40, e839_43, e839_46, e839_47, e839_49, e839_51, e839_54, e839_55, e839_58, e839_59, e839_60, e839_61, e839_64, e839_65, e839_68, e839_71, e839_72, e839_73, e839_74, e839_75, e839_76, e839_77, e839_80, e839_83, e839_84, e839_85, e839_87, e839_88, e839_91, e839_92, e839_93, e839_95, e839_96, e839_99, e839_102, ↓q_nv0, ↓q_nv1, ↓q_nv2, ↓q_nv3, ↓q_nv4, ↓q_nv5, ↓q_nv6, ↓q_nv7, ↓q_nv8, ↓q_nv9, ↓q_nv10, ↓q_nv11, ↓q_nv12, ↓q_nv13, ↓q_nv14, ↓q_nv15, ↓q_nv16, ↓q_nv17, ↓q_nv18, ↓q_nv19, ↓q_nv20, ↓q_nv21, ↓q_nv22, ↓q_gi0, ↓q_gi1, ↓q_gi2, ↓q_gi3, ↓q_gi4, ↓q_gi5, ↓q_gi6, ↓q_gi7, ↓q_gi8, ↓q_gi9, ↓q_gr0, ↓q_gr1, ↓q_gr2, ↓q_gr3, ↓q_gr4, ↓q_gr5, ↓q_gr6, ↓q_gr7, ↓q_gr8, ↓q_gr9, ↓q_ls0, ↓q_ls1i, ↓q_ls1r, ↓q_ls1n, ↓q_ls2i, ↓q_ls2r, ↓q_ls2n, ↓q_ls3i, ↓q_ls3r, ↓q_ls3n, ↓q_ls4i, ↓q_ls4r, ↓q_ls4n, ↓q_ls5i, ↓q_ls5r, ↓q_ls5n, ↓q_ls6i, ↓q_ls6r, ↓q_ls6n, ↓q_ls7i, ↓q_ls7r, ↓q_ls7n, ↓q_ls8i, ↓q_ls8r, ↓q_ls8n, ↓q_ls9i, ↓q_ls9r, ↓q_ls9n, q_nd0, q_nd1i, q_nd1r, q_nd1n, q_nd2i, q_nd2r, q_nd2n, q_nd3i, q_nd3r, q_nd3n, q_nd4i, q_nd4r, q_nd4n, q_nd5i, q_nd5r, q_nd5n, q_nd6i, q_nd6r, q_nd6n, q_nd7i, q_nd7r, q_nd7n, q_nd8i, q_nd8r, q_nd8n, q_nd9i, q_nd9r, q_nd9n, q_st0, q_st1, q_st2, q_st3, q_st4, q_st5, q_st6, q_st7, q_st8, q_st9, q_cat_i, q_cat_r, q_cat_n, q_wt0, q_wt1, q_tl0, q_tl1, ↓q_cl1, q_add, q_sub, q_mul, q_nari, q_narb0, q_narb1, q_fiti, q_fitb0, q_fitb1, List.cons_append, List.nil_append, Nat.reduceAdd, Nat.reduceLeDiff, and_self, and_true, true_and, ↓reduceIte, ↓rc0, ↓gf0_0, ↓gf0_1, ↓gf0_2, ↓gf0_3, ↓gf0_4, ↓gf0_5, ↓gf0_6, ↓gf0_7, ↓pf0_7, ft0_7, ↓rc1, ↓gf1_0, ↓pf1_0, ft1_0, ↓gf1_1, ↓pf1_1, ft1_1, ↓gf1_2, ↓gf1_3, ↓gf1_4, ↓gf1_5, ↓gf1_6, ↓gf1_7, ↓gf1_8, ↓gf1_9, ↓gf1_10, ↓gf1_11, ↓gf1_12, ↓rc13, ↓gf13_0, ↓gf13_1, ↓gf13_2, ↓gf13_3, ↓gf13_4, ↓gf13_5, ↓gf13_6, ↓pf13_6, ft13_6, ↓gf13_7, ↓pf13_7, ft13_7, ↓gf13_8, ↓pf13_8, ft13_8, ↓gf13_9, ↓pf13_9, ft13_90, ft13_91, ↓gf13_10, ↓gf13_11, ↓gf13_12, ↓pf13_12, ft13_12, ↓gf13_13, ↓pf13_13, ft13_13, ↓gf13_14, ↓pf13_14, ft13_14, ↓rc21, ↓gf21_0, ↓pf21_0, ft21_0, ↓gf21_1, ↓pf21_1, ft21_1, ↓gf21_2, ↓pf21_2, ft21_2, ↓gf21_3, ↓pf21_3, ft21_3, ↓rc22, ↓gf22_0, ↓gf22_1, ↓gf22_2, ↓rc23, ↓gf23_0, ↓gf23_1, ↓gf23_2, ↓gf23_3, ↓pf23_3, ft23_3, ↓gf23_4, ↓pf23_4, ft23_4, ↓gf23_5, ↓pf23_5, ft23_50, ft23_51, ↓rc145, ↓gf145_0, ↓gf145_1, ↓pf145_1, ft145_1, ↓rc147, ↓gf147_0, ↓gf147_1, ↓pf147_1, ft147_1, ↓rc149, ↓gf149_0, ↓gf149_1, ↓gf149_2, ↓gf149_3, ↓gf149_4, ↓pf149_4, ft149_40, ft149_41, ↓gf149_5, ↓pf149_5, ft149_5, ↓gf149_6, ↓pf149_6, ft149_60, ft149_61, ↓gf149_7, ↓pf149_7, ft149_7, ↓gf149_8, ↓pf149_8, ft149_8, ↓gf149_9, ↓pf149_9, ft149_9, ↓gf149_10, ↓pf149_10, ft149_10, ↓gf149_11, ↓gf149_12, ↓pf149_12, ft149_12, ↓gf149_13, ↓pf149_13, ft149_13, ↓gf149_14, ↓gf149_15, ↓pf149_15, ft149_15, ↓gf149_16, ↓gf149_17, ↓gf149_18, ↓gf149_19, ↓pf149_19, ft149_19, ↓gf149_20, ↓pf149_20, ft149_20, ↓gf149_21, ↓gf149_22, ↓pf149_22, ft149_22, ↓ra2, ↓wa2, ↓ln2, ↓ra3, ↓wa3, ↓ln3, ↓ra4, ↓wa4, ↓ln4, ↓ra5, ↓wa5, ↓ln5, ↓ra6, ↓wa6, ↓ln6, ↓ra7, ↓wa7, ↓ln7, ↓ra8, ↓wa8, ↓ln8, ↓ra9, ↓wa9, ↓ln9, ↓ra10, ↓wa10, ↓ln10, ↓ra11, ↓wa11, ↓ln11, ↓ra12, ↓wa12, ↓ln12, ↓ra14, ↓wa14, ↓ln14, ↓ra15, ↓wa15, ↓ln15, ↓ra16, ↓wa16, ↓ln16, ↓ra17, ↓wa17, ↓ln17, ↓ra18, ↓wa18, ↓ln18, ↓ra19, ↓wa19, ↓ln19, ↓ra20, ↓wa20, ↓ln20, ↓ra146, ↓wa146, ↓ln146, ↓ra148, ↓wa148, ↓ln148, ↓ra150, ↓wa150, ↓ln150, ↓ra151, ↓wa151, ↓ln151, ↓ra152, ↓wa152, ↓ln152, ↓ra153, ↓wa153, ↓ln153, ↓ra154, ↓wa154, ↓ln154, ↓ra155, ↓wa155, ↓ln155, ↓ra156, ↓wa156, ↓ln156, ↓ra157, ↓wa157, ↓ln157, ↓ra158, ↓wa158, ↓ln158, ↓ra159, ↓wa159, ↓ln159, q_M_s, q_M_k, q_M_a, q_P_s, q_P_a, q_toN, q_i00, q_i10, q_j00, q_j10, q_le, show ¬ (96 : Int) ≤ (i : Int) by omega, not_true_eq_false, not_false_eq_true, if_true, if_false, ep, e13, q_eq, show ((55 : Int) + (i : Int)).toNat = 55 + i by omega, q_P_M]
        rfl
      · rw [← sk (fun z => x2 z.2)]
        simp (disch := first | rfl | assumption | decide | omega | (unfold q_R; omega)) only [en839, e839_0, e839_1, e839_3, e839_5, e839_8, e839_9, e839_12, e839_13, e839_14, e839_15, e839_18, e839_19, e839_20, e839_23, e839_26, e839_27, e839_30, e839_32, e839_33, e839_34, e839_35, e839_36, e839_37, e839_38, e839_39, e839_40, e839_43, e839_46, e839_47, e839_49, e839_51, e839_54, e839_55, e839_58, e839_59, e839_60, e839_61, e839_64, e839_65, e839_68, e839_71, e839_72, e839_73, e839_74, e839_75, e839_76, e839_77, e839_80, e839_83, e839_84, e839_85, e839_87, e839_88, e839_91, e839_92, e839_93, e839_95, e839_96, e839_99, e839_102, ↓q_nv0, ↓q_nv1, ↓q_nv2, ↓q_nv3, ↓q_nv4, ↓q_nv5, ↓q_nv6, ↓q_nv7, ↓q_nv8, ↓q_nv9, ↓q_nv10, ↓q_nv11, ↓q_nv12, ↓q_nv13, ↓q_nv14, ↓q_nv15, ↓q_nv16, ↓q_nv17, ↓q_nv18, ↓q_nv19, ↓q_nv20, ↓q_nv21, ↓q_nv22, ↓q_gi0, ↓q_gi1, ↓q_gi2, ↓q_gi3, ↓q_gi4, ↓q_gi5, ↓q_gi6, ↓q_gi7, ↓q_gi8, ↓q_gi9, ↓q_gr0, ↓q_gr1, ↓q_gr2, ↓q_gr3, ↓q_gr4, ↓q_gr5, ↓q_gr6, ↓q_gr7, ↓q_gr8, ↓q_gr9, ↓q_ls0, ↓q_ls1i, ↓q_ls1r, ↓q_ls1n, ↓q_ls2i, ↓q_ls2r, ↓q_ls2n, ↓q_ls3i, ↓q_ls3r, ↓q_ls3n, ↓q_ls4i, ↓q_ls4r, ↓q_ls4n, ↓q_ls5i, ↓q_ls5r, ↓q_ls5n, ↓q_ls6i, ↓q_ls6r, ↓q_ls6n, ↓q_ls7i, ↓q_ls7r, ↓q_ls7n, ↓q_ls8i, ↓q_ls8r, ↓q_ls8n, ↓q_ls9i, ↓q_ls9r, ↓q_ls9n, q_nd0, q_nd1i, q_nd1r, q_nd1n, q_nd2i, q_nd2r, q_nd2n, q_nd3i, q_nd3r, q_nd3n, q_nd4i, q_nd4r, q_nd4n, q_nd5i, q_nd5r, q_nd5n, q_nd6i, q_nd6r, q_nd6n, q_nd7i, q_nd7r, q_nd7n, q_nd8i, q_nd8r, q_nd8n, q_nd9i, q_nd9r, q_nd9n, q_st0, q_st1, q_st2, q_st3, q_st4, q_st5, q_st6, q_st7, q_st8, q_st9, q_cat_i, q_cat_r, q_cat_n, q_wt0, q_wt1, q_tl0, q_tl1, ↓q_cl1, q_add, q_sub, q_mul, q_nari, q_narb0, q_narb1, q_fiti, q_fitb0, q_fitb1, List.cons_append, List.nil_append, Nat.reduceAdd, Nat.reduceLeDiff, and_self, and_true, true_and, ↓reduceIte, ↓rc0, ↓gf0_0, ↓gf0_1, ↓gf0_2, ↓gf0_3, ↓gf0_4, ↓gf0_5, ↓gf0_6, ↓gf0_7, ↓pf0_7, ft0_7, ↓rc1, ↓gf1_0, ↓pf1_0, ft1_0, ↓gf1_1, ↓pf1_1, ft1_1, ↓gf1_2, ↓gf1_3, ↓gf1_4, ↓gf1_5, ↓gf1_6, ↓gf1_7, ↓gf1_8, ↓gf1_9, ↓gf1_10, ↓gf1_11, ↓gf1_12, ↓rc13, ↓gf13_0, ↓gf13_1, ↓gf13_2, ↓gf13_3, ↓gf13_4, ↓gf13_5, ↓gf13_6, ↓pf13_6, ft13_6, ↓gf13_7, ↓pf13_7, ft13_7, ↓gf13_8, ↓pf13_8, ft13_8, ↓gf13_9, ↓pf13_9, ft13_90, ft13_91, ↓gf13_10, ↓gf13_11, ↓gf13_12, ↓pf13_12, ft13_12, ↓gf13_13, ↓pf13_13, ft13_13, ↓gf13_14, ↓pf13_14, ft13_14, ↓rc21, ↓gf21_0, ↓pf21_0, ft21_0, ↓gf21_1, ↓pf21_1, ft21_1, ↓gf21_2, ↓pf21_2, ft21_2, ↓gf21_3, ↓pf21_3, ft21_3, ↓rc22, ↓gf22_0, ↓gf22_1, ↓gf22_2, ↓rc23, ↓gf23_0, ↓gf23_1, ↓gf23_2, ↓gf23_3, ↓pf23_3, ft23_3, ↓gf23_4, ↓pf23_4, ft23_4, ↓gf23_5, ↓pf23_5, ft23_50, ft23_51, ↓rc145, ↓gf145_0, ↓gf145_1, ↓pf145_1, ft145_1, ↓rc147, ↓gf147_0, ↓gf147_1, ↓pf147_1, ft147_1, ↓rc149, ↓gf149_0, ↓gf149_1, ↓gf149_2, ↓gf149_3, ↓gf149_4, ↓pf149_4, ft149_40, ft149_41, ↓gf149_5, ↓pf149_5, ft149_5, ↓gf149_6, ↓pf149_6, ft149_60, ft149_61, ↓gf149_7, ↓pf149_7, ft149_7, ↓gf149_8, ↓pf149_8, ft149_8, ↓gf149_9, ↓pf149_9, ft149_9, ↓gf149_10, ↓pf149_10, ft149_10, ↓gf149_11, ↓gf149_12, ↓pf149_12, ft149_12, ↓gf149_13, ↓pf149_13, ft149_13, ↓gf149_14, ↓gf149_15, ↓pf149_15, ft149_15, ↓gf149_16, ↓gf149_17, ↓gf149_18, ↓gf149_19, ↓pf149_19, ft149_19, ↓gf149_20, ↓pf149_20, ft149_20, ↓gf149_21, ↓gf149_22, ↓pf149_22, ft149_22, ↓ra2, ↓wa2, ↓ln2, ↓ra3, ↓wa3, ↓ln3, ↓ra4, ↓wa4, ↓ln4, ↓ra5, ↓wa5, ↓ln5, ↓ra6, ↓wa6, ↓ln6, ↓ra7, ↓wa7, ↓ln7, ↓ra8, ↓wa8, ↓ln8, ↓ra9, ↓wa9, ↓ln9, ↓ra10, ↓wa10, ↓ln10, ↓ra11, ↓wa11, ↓ln11, ↓ra12, ↓wa12, ↓ln12, ↓ra14, ↓wa14, ↓ln14, ↓ra15, ↓wa15, ↓ln15, ↓ra16, ↓wa16, ↓ln16, ↓ra17, ↓wa17, ↓ln17, ↓ra18, ↓wa18, ↓ln18, ↓ra19, ↓wa19, ↓ln19, ↓ra20, ↓wa20, ↓ln20, ↓ra146, ↓wa146, ↓ln146, ↓ra148, ↓wa148, ↓ln148, ↓ra150, ↓wa150, ↓ln150, ↓ra151, ↓wa151, ↓ln151, ↓ra152, ↓wa152, ↓ln152, ↓ra153, ↓wa153, ↓ln153, ↓ra154, ↓wa154, ↓ln154, ↓ra155, ↓wa155, ↓ln155, ↓ra156, ↓wa156, ↓ln156, ↓ra157, ↓wa157, ↓ln157, ↓ra158, ↓wa158, ↓ln158, ↓ra159, ↓wa159, ↓ln159, q_M_s, q_M_k, q_M_a, q_P_s, q_P_a, q_toN, q_i00, q_i10, q_j00, q_j10, q_le, show ¬ (96 : Int) ≤ (i : Int) by omega, not_true_eq_false, not_false_eq_true, if_true, if_false, ep, e13, q_eq, q_eq0, x2]
        rfl
    · rw [if_neg x1] at ep
      rw [← sk (fun z => x1 z.1)]
      simp (disch := first | rfl | assumption | decide | omega | (unfold q_R; omega)) only [en839, e839_0, e839_1, e839_3, e839_5, e839_8, e839_9, e839_12, e839_13, e839_14, e839_15, e839_18, e839_19, e839_20, e839_23, e839_26, e839_27, e839_30, e839_32, e839_33, e839_34, e839_35, e839_36, e839_37, e839_38, e839_39, e839_40, e839_43, e839_46, e839_47, e839_49, e839_51, e839_54, e839_55, e839_58, e839_59, e839_60, e839_61, e839_64, e839_65, e839_68, e839_71, e839_72, e839_73, e839_74, e839_75, e839_76, e839_77, e839_80, e839_83, e839_84, e839_85, e839_87, e839_88, e839_91, e839_92, e839_93, e839_95, e839_96, e839_99, e839_102, ↓q_nv0, ↓q_nv1, ↓q_nv2, ↓q_nv3, ↓q_nv4, ↓q_nv5, ↓q_nv6, ↓q_nv7, ↓q_nv8, ↓q_nv9, ↓q_nv10, ↓q_nv11, ↓q_nv12, ↓q_nv13, ↓q_nv14, ↓q_nv15, ↓q_nv16, ↓q_nv17, ↓q_nv18, ↓q_nv19, ↓q_nv20, ↓q_nv21, ↓q_nv22, ↓q_gi0, ↓q_gi1, ↓q_gi2, ↓q_gi3, ↓q_gi4, ↓q_gi5, ↓q_gi6, ↓q_gi7, ↓q_gi8, ↓q_gi9, ↓q_gr0, ↓q_gr1, ↓q_gr2, ↓q_gr3, ↓q_gr4, ↓q_gr5, ↓q_gr6, ↓q_gr7, ↓q_gr8, ↓q_gr9, ↓q_ls0, ↓q_ls1i, ↓q_ls1r, ↓q_ls1n, ↓q_ls2i, ↓q_ls2r, ↓q_ls2n, ↓q_ls3i, ↓q_ls3r, ↓q_ls3n, ↓q_ls4i, ↓q_ls4r, ↓q_ls4n, ↓q_ls5i, ↓q_ls5r, ↓q_ls5n, ↓q_ls6i, ↓q_ls6r, ↓q_ls6n, ↓q_ls7i, ↓q_ls7r, ↓q_ls7n, ↓q_ls8i, ↓q_ls8r, ↓q_ls8n, ↓q_ls9i, ↓q_ls9r, ↓q_ls9n, q_nd0, q_nd1i, q_nd1r, q_nd1n, q_nd2i, q_nd2r, q_nd2n, q_nd3i, q_nd3r, q_nd3n, q_nd4i, q_nd4r, q_nd4n, q_nd5i, q_nd5r, q_nd5n, q_nd6i, q_nd6r, q_nd6n, q_nd7i, q_nd7r, q_nd7n, q_nd8i, q_nd8r, q_nd8n, q_nd9i, q_nd9r, q_nd9n, q_st0, q_st1, q_st2, q_st3, q_st4, q_st5, q_st6, q_st7, q_st8, q_st9, q_cat_i, q_cat_r, q_cat_n, q_wt0, q_wt1, q_tl0, q_tl1, ↓q_cl1, q_add, q_sub, q_mul, q_nari, q_narb0, q_narb1, q_fiti, q_fitb0, q_fitb1, List.cons_append, List.nil_append, Nat.reduceAdd, Nat.reduceLeDiff, and_self, and_true, true_and, ↓reduceIte, ↓rc0, ↓gf0_0, ↓gf0_1, ↓gf0_2, ↓gf0_3, ↓gf0_4, ↓gf0_5, ↓gf0_6, ↓gf0_7, ↓pf0_7, ft0_7, ↓rc1, ↓gf1_0, ↓pf1_0, ft1_0, ↓gf1_1, ↓pf1_1, ft1_1, ↓gf1_2, ↓gf1_3, ↓gf1_4, ↓gf1_5, ↓gf1_6, ↓gf1_7, ↓gf1_8, ↓gf1_9, ↓gf1_10, ↓gf1_11, ↓gf1_12, ↓rc13, ↓gf13_0, ↓gf13_1, ↓gf13_2, ↓gf13_3, ↓gf13_4, ↓gf13_5, ↓gf13_6, ↓pf13_6, ft13_6, ↓gf13_7, ↓pf13_7, ft13_7, ↓gf13_8, ↓pf13_8, ft13_8, ↓gf13_9, ↓pf13_9, ft13_90, ft13_91, ↓gf13_10, ↓gf13_11, ↓gf13_12, ↓pf13_12, ft13_12, ↓gf13_13, ↓pf13_13, ft13_13, ↓gf13_14, ↓pf13_14, ft13_14, ↓rc21, ↓gf21_0, ↓pf21_0, ft21_0, ↓gf21_1, ↓pf21_1, ft21_1, ↓gf21_2, ↓pf21_2, ft21_2, ↓gf21_3, ↓pf21_3, ft21_3, ↓rc22, ↓gf22_0, ↓gf22_1, ↓gf22_2, ↓rc23, ↓gf23_0, ↓gf23_1, ↓gf23_2, ↓gf23_3, ↓pf23_3, ft23_3, ↓gf23_4, ↓pf23_4, ft23_4, ↓gf23_5, ↓pf23_5, ft23_50, ft23_51, ↓rc145, ↓gf145_0, ↓gf145_1, ↓pf145_1, ft145_1, ↓rc147, ↓gf147_0, ↓gf147_1, ↓pf147_1, ft147_1, ↓rc149, ↓gf149_0, ↓gf149_1, ↓gf149_2, ↓gf149_3, ↓gf149_4, ↓pf149_4, ft149_40, ft149_41, ↓gf149_5, ↓pf149_5, ft149_5, ↓gf149_6, ↓pf149_6, ft149_60, ft149_61, ↓gf149_7, ↓pf149_7, ft149_7, ↓gf149_8, ↓pf149_8, ft149_8, ↓gf149_9, ↓pf149_9, ft149_9, ↓gf149_10, ↓pf149_10, ft149_10, ↓gf149_11, ↓gf149_12, ↓pf149_12, ft149_12, ↓gf149_13, ↓pf149_13, ft149_13, ↓gf149_14, ↓gf149_15, ↓pf149_15, ft149_15, ↓gf149_16, ↓gf149_17, ↓gf149_18, ↓gf149_19, ↓pf149_19, ft149_19, ↓gf149_20, ↓pf149_20, ft149_20, ↓gf149_21, ↓gf149_22, ↓pf149_22, ft149_22, ↓ra2, ↓wa2, ↓ln2, ↓ra3, ↓wa3, ↓ln3, ↓ra4, ↓wa4, ↓ln4, ↓ra5, ↓wa5, ↓ln5, ↓ra6, ↓wa6, ↓ln6, ↓ra7, ↓wa7, ↓ln7, ↓ra8, ↓wa8, ↓ln8, ↓ra9, ↓wa9, ↓ln9, ↓ra10, ↓wa10, ↓ln10, ↓ra11, ↓wa11, ↓ln11, ↓ra12, ↓wa12, ↓ln12, ↓ra14, ↓wa14, ↓ln14, ↓ra15, ↓wa15, ↓ln15, ↓ra16, ↓wa16, ↓ln16, ↓ra17, ↓wa17, ↓ln17, ↓ra18, ↓wa18, ↓ln18, ↓ra19, ↓wa19, ↓ln19, ↓ra20, ↓wa20, ↓ln20, ↓ra146, ↓wa146, ↓ln146, ↓ra148, ↓wa148, ↓ln148, ↓ra150, ↓wa150, ↓ln150, ↓ra151, ↓wa151, ↓ln151, ↓ra152, ↓wa152, ↓ln152, ↓ra153, ↓wa153, ↓ln153, ↓ra154, ↓wa154, ↓ln154, ↓ra155, ↓wa155, ↓ln155, ↓ra156, ↓wa156, ↓ln156, ↓ra157, ↓wa157, ↓ln157, ↓ra158, ↓wa158, ↓ln158, ↓ra159, ↓wa159, ↓ln159, q_M_s, q_M_k, q_M_a, q_P_s, q_P_a, q_toN, q_i00, q_i10, q_j00, q_j10, q_le, show ¬ (96 : Int) ≤ (i : Int) by omega, not_true_eq_false, not_false_eq_true, if_true, if_false, ep, q_eq, show ¬ (0 : Int) = 1 by decide]
      rfl)
  have e0 : q_w1 g n P 0 = g := funext fun j => if_neg (by omega)
  rw [e0, q_P_same hg] at hl1
  have hl2 := q_for (M := 839) (pc := 48) (n := 48) (fun i => [.ref 149, .int (q_i n), .int (q_i i)]) (fun i => q_H (q_P m 150 (q_w2 g n P H i)) K s) (fun i hi => by
    have ep : m 158 i = if H i = true then 1 else 0 := by rw [h158]; rfl
    have sk : ¬ H i = true → q_w2 g n P H i = q_w2 g n P H (i + 1) := fun hx => by
      funext j
      unfold q_w2
      by_cases e : j = 151 + i
      · rw [if_neg (by omega), if_neg (fun z => hx (by rw [show j - 151 = i by omega] at z; exact z.2.2))]
      · simp only [show (j < 151 + (i + 1)) = (j < 151 + i) from propext (by omega)]
    have st : H i = true → q_upd (q_w2 g n P H i) (151 + i) ((n : Int) + 1) = q_w2 g n P H (i + 1) := fun h1 => by
      funext j
      unfold q_upd q_w2
      by_cases e : j = 151 + i
      · rw [if_pos e, if_pos ⟨by omega, by omega, by rw [show j - 151 = i by omega]; exact h1⟩]
      · rw [if_neg e]
        simp only [show (j < 151 + (i + 1)) = (j < 151 + i) from propext (by omega)]
    try dsimp only
    rw [e839_48]
    by_cases x1 : H i = true
    · rw [if_pos x1] at ep
      rw [← st x1]
      simp (disch := first | rfl | assumption | decide | omega | (unfold q_R; omega)) only [en839, e839_0, e839_1, e839_3, e839_5, e839_8, e839_9, e839_12, e839_13, e839_14, e839_15, e839_18, e839_19, e839_20, e839_23, e839_26, e839_27, e839_30, e839_32, e839_33, e839_34, e839_35, e839_36, e839_37, e839_38, e839_39, e839_40, e839_43, e839_46, e839_47, e839_49, e839_51, e839_54, e839_55, e839_58, e839_59, e839_60, e839_61, e839_64, e839_65, e839_68, e839_71, e839_72, e839_73, e839_74, e839_75, e839_76, e839_77, e839_80, e839_83, e839_84, e839_85, e839_87, e839_88, e839_91, e839_92, e839_93, e839_95, e839_96, e839_99, e839_102, ↓q_nv0, ↓q_nv1, ↓q_nv2, ↓q_nv3, ↓q_nv4, ↓q_nv5, ↓q_nv6, ↓q_nv7, ↓q_nv8, ↓q_nv9, ↓q_nv10, ↓q_nv11, ↓q_nv12, ↓q_nv13, ↓q_nv14, ↓q_nv15, ↓q_nv16, ↓q_nv17, ↓q_nv18, ↓q_nv19, ↓q_nv20, ↓q_nv21, ↓q_nv22, ↓q_gi0, ↓q_gi1, ↓q_gi2, ↓q_gi3, ↓q_gi4, ↓q_gi5, ↓q_gi6, ↓q_gi7, ↓q_gi8, ↓q_gi9, ↓q_gr0, ↓q_gr1, ↓q_gr2, ↓q_gr3, ↓q_gr4, ↓q_gr5, ↓q_gr6, ↓q_gr7, ↓q_gr8, ↓q_gr9, ↓q_ls0, ↓q_ls1i, ↓q_ls1r, ↓q_ls1n, ↓q_ls2i, ↓q_ls2r, ↓q_ls2n, ↓q_ls3i, ↓q_ls3r, ↓q_ls3n, ↓q_ls4i, ↓q_ls4r, ↓q_ls4n, ↓q_ls5i, ↓q_ls5r, ↓q_ls5n, ↓q_ls6i, ↓q_ls6r, ↓q_ls6n, ↓q_ls7i, ↓q_ls7r, ↓q_ls7n, ↓q_ls8i, ↓q_ls8r, ↓q_ls8n, ↓q_ls9i, ↓q_ls9r, ↓q_ls9n, q_nd0, q_nd1i, q_nd1r, q_nd1n, q_nd2i, q_nd2r, q_nd2n, q_nd3i, q_nd3r, q_nd3n, q_nd4i, q_nd4r, q_nd4n, q_nd5i, q_nd5r, q_nd5n, q_nd6i, q_nd6r, q_nd6n, q_nd7i, q_nd7r, q_nd7n, q_nd8i, q_nd8r, q_nd8n, q_nd9i, q_nd9r, q_nd9n, q_st0, q_st1, q_st2, q_st3, q_st4, q_st5, q_st6, q_st7, q_st8, q_st9, q_cat_i, q_cat_r, q_cat_n, q_wt0, q_wt1, q_tl0, q_tl1, ↓q_cl1, q_add, q_sub, q_mul, q_nari, q_narb0, q_narb1, q_fiti, q_fitb0, q_fitb1, List.cons_append, List.nil_append, Nat.reduceAdd, Nat.reduceLeDiff, and_self, and_true, true_and, ↓reduceIte, ↓rc0, ↓gf0_0, ↓gf0_1, ↓gf0_2, ↓gf0_3, ↓gf0_4, ↓gf0_5, ↓gf0_6, ↓gf0_7, ↓pf0_7, ft0_7, ↓rc1, ↓gf1_0, ↓pf1_0, ft1_0, ↓gf1_1, ↓pf1_1, ft1_1, ↓gf1_2, ↓gf1_3, ↓gf1_4, ↓gf1_5, ↓gf1_6, ↓gf1_7, ↓gf1_8, ↓gf1_9, ↓gf1_10, ↓gf1_11, ↓gf1_12, ↓rc13, ↓gf13_0, ↓gf13_1, ↓gf13_2, ↓gf13_3, ↓gf13_4, ↓gf13_5, ↓gf13_6, ↓pf13_6, ft13_6, ↓gf13_7, ↓pf13_7, ft13_7, ↓gf13_8, ↓pf13_8, ft13_8, ↓gf13_9, ↓pf13_9, ft13_90, ft13_91, ↓gf13_10, ↓gf13_11, ↓gf13_12, ↓pf13_12, ft13_12, ↓gf13_13, ↓pf13_13, ft13_13, ↓gf13_14, ↓pf13_14, ft13_14, ↓rc21, ↓gf21_0, ↓pf21_0, ft21_0, ↓gf21_1, ↓pf21_1, ft21_1, ↓gf21_2, ↓pf21_2, ft21_2, ↓gf21_3, ↓pf21_3, ft21_3, ↓rc22, ↓gf22_0, ↓gf22_1, ↓gf22_2, ↓rc23, ↓gf23_0, ↓gf23_1, ↓gf23_2, ↓gf23_3, ↓pf23_3, ft23_3, ↓gf23_4, ↓pf23_4, ft23_4, ↓gf23_5, ↓pf23_5, ft23_50, ft23_51, ↓rc145, ↓gf145_0, ↓gf145_1, ↓pf145_1, ft145_1, ↓rc147, ↓gf147_0, ↓gf147_1, ↓pf147_1, ft147_1, ↓rc149, ↓gf149_0, ↓gf149_1, ↓gf149_2, ↓gf149_3, ↓gf149_4, ↓pf149_4, ft149_40, ft149_41, ↓gf149_5, ↓pf149_5, ft149_5, ↓gf149_6, ↓pf149_6, ft149_60, ft149_61, ↓gf149_7, ↓pf149_7, ft149_7, ↓gf149_8, ↓pf149_8, ft149_8, ↓gf149_9, ↓pf149_9, ft149_9, ↓gf149_10, ↓pf149_10, ft149_10, ↓gf149_11, ↓gf149_12, ↓pf149_12, ft149_12, ↓gf149_13, ↓pf149_13, ft149_13, ↓gf149_14, ↓gf149_15, ↓pf149_15, ft149_15, ↓gf149_16, ↓gf149_17, ↓gf149_18, ↓gf149_19, ↓pf149_19, ft149_19, ↓gf149_20, ↓pf149_20, ft149_20, ↓gf149_21, ↓gf149_22, ↓pf149_22, ft149_22, ↓ra2, ↓wa2, ↓ln2, ↓ra3, ↓wa3, ↓ln3, ↓ra4, ↓wa4, ↓ln4, ↓ra5, ↓wa5, ↓ln5, ↓ra6, ↓wa6, ↓ln6, ↓ra7, ↓wa7, ↓ln7, ↓ra8, ↓wa8, ↓ln8, ↓ra9, ↓wa9, ↓ln9, ↓ra10, ↓wa10, ↓ln10, ↓ra11, ↓wa11, ↓ln11, ↓ra12, ↓wa12, ↓ln12, ↓ra14, ↓wa14, ↓ln14, ↓ra15, ↓wa15, ↓ln15, ↓ra16, ↓wa16, ↓ln16, ↓ra17, ↓wa17, ↓ln17, ↓ra18, ↓wa18, ↓ln18, ↓ra19, ↓wa19, ↓ln19, ↓ra20, ↓wa20, ↓ln20, ↓ra146, ↓wa146, ↓ln146, ↓ra148, ↓wa148, ↓ln148, ↓ra150, ↓wa150, ↓ln150, ↓ra151, ↓wa151, ↓ln151, ↓ra152, ↓wa152, ↓ln152, ↓ra153, ↓wa153, ↓ln153, ↓ra154, ↓wa154, ↓ln154, ↓ra155, ↓wa155, ↓ln155, ↓ra156, ↓wa156, ↓ln156, ↓ra157, ↓wa157, ↓ln157, ↓ra158, ↓wa158, ↓ln158, ↓ra159, ↓wa159, ↓ln159, q_M_s, q_M_k, q_M_a, q_P_s, q_P_a, q_toN, q_i00, q_i10, q_j00, q_j10, q_le, show ¬ (48 : Int) ≤ (i : Int) by omega, not_true_eq_false, not_false_eq_true, if_true, if_false, ep, q_eq, show ((151 : Int) + (i : Int)).toNat = 151 + i by omega, q_P_M]
      rfl
    · rw [if_neg x1] at ep
      rw [← sk x1]
      simp (disch := first | rfl | assumption | decide | omega | (unfold q_R; omega)) only [en839, e839_0, e839_1, e839_3, e839_5, e839_8, e839_9, e839_12, e839_13, e839_14, e839_15, e839_18, e839_19, e839_20, e839_23, e839_26, e839_27, e839_30, e839_32, e839_33, e839_34, e839_35, e839_36, e839_37, e839_38, e839_39, e839_40, e839_43, e839_46, e839_47, e839_49, e839_51, e839_54, e839_55, e839_58, e839_59, e839_60, e839_61, e839_64, e839_65, e839_68, e839_71, e839_72, e839_73, e839_74, e839_75, e839_76, e839_77, e839_80, e839_83, e839_84, e839_85, e839_87, e839_88, e839_91, e839_92, e839_93, e839_95, e839_96, e839_99, e839_102, ↓q_nv0, ↓q_nv1, ↓q_nv2, ↓q_nv3, ↓q_nv4, ↓q_nv5, ↓q_nv6, ↓q_nv7, ↓q_nv8, ↓q_nv9, ↓q_nv10, ↓q_nv11, ↓q_nv12, ↓q_nv13, ↓q_nv14, ↓q_nv15, ↓q_nv16, ↓q_nv17, ↓q_nv18, ↓q_nv19, ↓q_nv20, ↓q_nv21, ↓q_nv22, ↓q_gi0, ↓q_gi1, ↓q_gi2, ↓q_gi3, ↓q_gi4, ↓q_gi5, ↓q_gi6, ↓q_gi7, ↓q_gi8, ↓q_gi9, ↓q_gr0, ↓q_gr1, ↓q_gr2, ↓q_gr3, ↓q_gr4, ↓q_gr5, ↓q_gr6, ↓q_gr7, ↓q_gr8, ↓q_gr9, ↓q_ls0, ↓q_ls1i, ↓q_ls1r, ↓q_ls1n, ↓q_ls2i, ↓q_ls2r, ↓q_ls2n, ↓q_ls3i, ↓q_ls3r, ↓q_ls3n, ↓q_ls4i, ↓q_ls4r, ↓q_ls4n, ↓q_ls5i, ↓q_ls5r, ↓q_ls5n, ↓q_ls6i, ↓q_ls6r, ↓q_ls6n, ↓q_ls7i, ↓q_ls7r, ↓q_ls7n, ↓q_ls8i, ↓q_ls8r, ↓q_ls8n, ↓q_ls9i, ↓q_ls9r, ↓q_ls9n, q_nd0, q_nd1i, q_nd1r, q_nd1n, q_nd2i, q_nd2r, q_nd2n, q_nd3i, q_nd3r, q_nd3n, q_nd4i, q_nd4r, q_nd4n, q_nd5i, q_nd5r, q_nd5n, q_nd6i, q_nd6r, q_nd6n, q_nd7i, q_nd7r, q_nd7n, q_nd8i, q_nd8r, q_nd8n, q_nd9i, q_nd9r, q_nd9n, q_st0, q_st1, q_st2, q_st3, q_st4, q_st5, q_st6, q_st7, q_st8, q_st9, q_cat_i, q_cat_r, q_cat_n, q_wt0, q_wt1, q_tl0, q_tl1, ↓q_cl1, q_add, q_sub, q_mul, q_nari, q_narb0, q_narb1, q_fiti, q_fitb0, q_fitb1, List.cons_append, List.nil_append, Nat.reduceAdd, Nat.reduceLeDiff, and_self, and_true, true_and, ↓reduceIte, ↓rc0, ↓gf0_0, ↓gf0_1, ↓gf0_2, ↓gf0_3, ↓gf0_4, ↓gf0_5, ↓gf0_6, ↓gf0_7, ↓pf0_7, ft0_7, ↓rc1, ↓gf1_0, ↓pf1_0, ft1_0, ↓gf1_1, ↓pf1_1, ft1_1, ↓gf1_2, ↓gf1_3, ↓gf1_4, ↓gf1_5, ↓gf1_6, ↓gf1_7, ↓gf1_8, ↓gf1_9, ↓gf1_10, ↓gf1_11, ↓gf1_12, ↓rc13, ↓gf13_0, ↓gf13_1, ↓gf13_2, ↓gf13_3, ↓gf13_4, ↓gf13_5, ↓gf13_6, ↓pf13_6, ft13_6, ↓gf13_7, ↓pf13_7, ft13_7, ↓gf13_8, ↓pf13_8, ft13_8, ↓gf13_9, ↓pf13_9, ft13_90, ft13_91, ↓gf13_10, ↓gf13_11, ↓gf13_12, ↓pf13_12, ft13_12, ↓gf13_13, ↓pf13_13, ft13_13, ↓gf13_14, ↓pf13_14, ft13_14, ↓rc21, ↓gf21_0, ↓pf21_0, ft21_0, ↓gf21_1, ↓pf21_1, ft21_1, ↓gf21_2, ↓pf21_2, ft21_2, ↓gf21_3, ↓pf21_3, ft21_3, ↓rc22, ↓gf22_0, ↓gf22_1, ↓gf22_2, ↓rc23, ↓gf23_0, ↓gf23_1, ↓gf23_2, ↓gf23_3, ↓pf23_3, ft23_3, ↓gf23_4, ↓pf23_4, ft23_4, ↓gf23_5, ↓pf23_5, ft23_50, ft23_51, ↓rc145, ↓gf145_0, ↓gf145_1, ↓pf145_1, ft145_1, ↓rc147, ↓gf147_0, ↓gf147_1, ↓pf147_1, ft147_1, ↓rc149, ↓gf149_0, ↓gf149_1, ↓gf149_2, ↓gf149_3, ↓gf149_4, ↓pf149_4, ft149_40, ft149_41, ↓gf149_5, ↓pf149_5, ft149_5, ↓gf149_6, ↓pf149_6, ft149_60, ft149_61, ↓gf149_7, ↓pf149_7, ft149_7, ↓gf149_8, ↓pf149_8, ft149_8, ↓gf149_9, ↓pf149_9, ft149_9, ↓gf149_10, ↓pf149_10, ft149_10, ↓gf149_11, ↓gf149_12, ↓pf149_12, ft149_12, ↓gf149_13, ↓pf149_13, ft149_13, ↓gf149_14, ↓gf149_15, ↓pf149_15, ft149_15, ↓gf149_16, ↓gf149_17, ↓gf149_18, ↓gf149_19, ↓pf149_19, ft149_19, ↓gf149_20, ↓pf149_20, ft149_20, ↓gf149_21, ↓gf149_22, ↓pf149_22, ft149_22, ↓ra2, ↓wa2, ↓ln2, ↓ra3, ↓wa3, ↓ln3, ↓ra4, ↓wa4, ↓ln4, ↓ra5, ↓wa5, ↓ln5, ↓ra6, ↓wa6, ↓ln6, ↓ra7, ↓wa7, ↓ln7, ↓ra8, ↓wa8, ↓ln8, ↓ra9, ↓wa9, ↓ln9, ↓ra10, ↓wa10, ↓ln10, ↓ra11, ↓wa11, ↓ln11, ↓ra12, ↓wa12, ↓ln12, ↓ra14, ↓wa14, ↓ln14, ↓ra15, ↓wa15, ↓ln15, ↓ra16, ↓wa16, ↓ln16, ↓ra17, ↓wa17, ↓ln17, ↓ra18, ↓wa18, ↓ln18, ↓ra19, ↓wa19, ↓ln19, ↓ra20, ↓wa20, ↓ln20, ↓ra146, ↓wa146, ↓ln146, ↓ra148, ↓wa148, ↓ln148, ↓ra150, ↓wa150, ↓ln150, ↓ra151, ↓wa151, ↓ln151, ↓ra152, ↓wa152, ↓ln152, ↓ra153, ↓wa153, ↓ln153, ↓ra154, ↓wa154, ↓ln154, ↓ra155, ↓wa155, ↓ln155, ↓ra156, ↓wa156, ↓ln156, ↓ra157, ↓wa157, ↓ln157, ↓ra158, ↓wa158, ↓ln158, ↓ra159, ↓wa159, ↓ln159, q_M_s, q_M_k, q_M_a, q_P_s, q_P_a, q_toN, q_i00, q_i10, q_j00, q_j10, q_le, show ¬ (48 : Int) ≤ (i : Int) by omega, not_true_eq_false, not_false_eq_true, if_true, if_false, ep, q_eq, show ¬ (0 : Int) = 1 by decide]
      rfl)
  have e1 : q_w2 g n P H 0 = q_w1 g n P 96 := funext fun j => if_neg (by omega)
  rw [e1] at hl2
  have l1 := m812H (m := q_P m 150 (q_w2 g n P H 48)) (K := K) (s := s) (n := n) (k := 6) (v := 1) (by omega) (by omega)
  rw [show (1 + 9 * (n : Int) + 6).toNat = 7 + 9 * n by omega, q_P_M] at l1
  have l2 := m812H (m := q_P m 150 (q_upd (q_w2 g n P H 48) (7 + 9 * n) 1)) (K := K) (s := s) (n := n) (k := 7) (v := cost) (by omega) (by omega)
  rw [show (1 + 9 * (n : Int) + 7).toNat = 8 + 9 * n by omega, q_P_M] at l2
  have efin : q_upd (q_upd (q_w2 g n P H 48) (7 + 9 * n) 1) (8 + 9 * n) cost = q_gw g n P H cost := by
    funext j
    unfold q_upd q_gw q_w2 q_w1
    by_cases a1 : j = 8 + 9 * n
    · rw [if_pos a1, if_neg (by omega), if_pos a1]
    · rw [if_neg a1]
      by_cases a2 : j = 7 + 9 * n
      · rw [if_pos a2, if_pos a2]
      · rw [if_neg a2, if_neg a2, if_neg a1]
        by_cases a3 : 151 ≤ j
        · rw [if_neg (show ¬ (55 ≤ j ∧ j < 151 ∧ P (j - 55) = true ∧ g j = 0) by omega), if_neg (show ¬ (55 ≤ j ∧ j < 55 + 96 ∧ P (j - 55) = true ∧ g j = 0) by omega)]
        · rw [if_neg (show ¬ (151 ≤ j ∧ j < 151 + 48 ∧ H (j - 151) = true) by omega), if_neg (show ¬ (151 ≤ j ∧ j < 199 ∧ H (j - 151) = true) by omega)]
  rw [efin] at l2
  have h19' : q_P m 150 (q_upd (q_w2 g n P H 48) (7 + 9 * n) 1) 149 19 = cost := by rw [q_P_a (by decide)]; exact h19
  rw [en839, e839_0]
  simp only [e839_1, ↓q_nv0, ↓q_nv1, ↓q_nv2, ↓q_nv3, ↓q_nv4, ↓q_nv5, ↓q_nv6, ↓q_nv7, ↓q_nv8, ↓q_nv9, ↓q_nv10, ↓q_nv11, ↓q_nv12, ↓q_nv13, ↓q_nv14, ↓q_nv15, ↓q_nv16, ↓q_nv17, ↓q_nv18, ↓q_nv19, ↓q_nv20, ↓q_nv21, ↓q_nv22, ↓q_gi0, ↓q_gi1, ↓q_gi2, ↓q_gi3, ↓q_gi4, ↓q_gi5, ↓q_gi6, ↓q_gi7, ↓q_gi8, ↓q_gi9, ↓q_gr0, ↓q_gr1, ↓q_gr2, ↓q_gr3, ↓q_gr4, ↓q_gr5, ↓q_gr6, ↓q_gr7, ↓q_gr8, ↓q_gr9, ↓q_ls0, ↓q_ls1i, ↓q_ls1r, ↓q_ls1n, ↓q_ls2i, ↓q_ls2r, ↓q_ls2n, ↓q_ls3i, ↓q_ls3r, ↓q_ls3n, ↓q_ls4i, ↓q_ls4r, ↓q_ls4n, ↓q_ls5i, ↓q_ls5r, ↓q_ls5n, ↓q_ls6i, ↓q_ls6r, ↓q_ls6n, ↓q_ls7i, ↓q_ls7r, ↓q_ls7n, ↓q_ls8i, ↓q_ls8r, ↓q_ls8n, ↓q_ls9i, ↓q_ls9r, ↓q_ls9n, q_nd0, q_nd1i, q_nd1r, q_nd1n, q_nd2i, q_nd2r, q_nd2n, q_nd3i, q_nd3r, q_nd3n, q_nd4i, q_nd4r, q_nd4n, q_nd5i, q_nd5r, q_nd5n, q_nd6i, q_nd6r, q_nd6n, q_nd7i, q_nd7r, q_nd7n, q_nd8i, q_nd8r, q_nd8n, q_nd9i, q_nd9r, q_nd9n, q_st0, q_st1, q_st2, q_st3, q_st4, q_st5, q_st6, q_st7, q_st8, q_st9, q_cat_i, q_cat_r, q_cat_n, q_wt0, q_wt1, q_tl0, q_tl1, ↓q_cl1, q_add, q_sub, q_mul, q_nari, q_narb0, q_narb1, q_fiti, q_fitb0, q_fitb1, List.cons_append, List.nil_append, Nat.reduceAdd, Nat.reduceLeDiff, and_self, and_true, true_and, ↓reduceIte]
  refine Eq.trans hl1 ?_
  rw [e839_2]
  simp (disch := first | rfl | assumption | decide | omega | (unfold q_R; omega)) only [en839, e839_0, e839_1, e839_3, e839_5, e839_8, e839_9, e839_12, e839_13, e839_14, e839_15, e839_18, e839_19, e839_20, e839_23, e839_26, e839_27, e839_30, e839_32, e839_33, e839_34, e839_35, e839_36, e839_37, e839_38, e839_39, e839_40, e839_43, e839_46, e839_47, e839_49, e839_51, e839_54, e839_55, e839_58, e839_59, e839_60, e839_61, e839_64, e839_65, e839_68, e839_71, e839_72, e839_73, e839_74, e839_75, e839_76, e839_77, e839_80, e839_83, e839_84, e839_85, e839_87, e839_88, e839_91, e839_92, e839_93, e839_95, e839_96, e839_99, e839_102, ↓q_nv0, ↓q_nv1, ↓q_nv2, ↓q_nv3, ↓q_nv4, ↓q_nv5, ↓q_nv6, ↓q_nv7, ↓q_nv8, ↓q_nv9, ↓q_nv10, ↓q_nv11, ↓q_nv12, ↓q_nv13, ↓q_nv14, ↓q_nv15, ↓q_nv16, ↓q_nv17, ↓q_nv18, ↓q_nv19, ↓q_nv20, ↓q_nv21, ↓q_nv22, ↓q_gi0, ↓q_gi1, ↓q_gi2, ↓q_gi3, ↓q_gi4, ↓q_gi5, ↓q_gi6, ↓q_gi7, ↓q_gi8, ↓q_gi9, ↓q_gr0, ↓q_gr1, ↓q_gr2, ↓q_gr3, ↓q_gr4, ↓q_gr5, ↓q_gr6, ↓q_gr7, ↓q_gr8, ↓q_gr9, ↓q_ls0, ↓q_ls1i, ↓q_ls1r, ↓q_ls1n, ↓q_ls2i, ↓q_ls2r, ↓q_ls2n, ↓q_ls3i, ↓q_ls3r, ↓q_ls3n, ↓q_ls4i, ↓q_ls4r, ↓q_ls4n, ↓q_ls5i, ↓q_ls5r, ↓q_ls5n, ↓q_ls6i, ↓q_ls6r, ↓q_ls6n, ↓q_ls7i, ↓q_ls7r, ↓q_ls7n, ↓q_ls8i, ↓q_ls8r, ↓q_ls8n, ↓q_ls9i, ↓q_ls9r, ↓q_ls9n, q_nd0, q_nd1i, q_nd1r, q_nd1n, q_nd2i, q_nd2r, q_nd2n, q_nd3i, q_nd3r, q_nd3n, q_nd4i, q_nd4r, q_nd4n, q_nd5i, q_nd5r, q_nd5n, q_nd6i, q_nd6r, q_nd6n, q_nd7i, q_nd7r, q_nd7n, q_nd8i, q_nd8r, q_nd8n, q_nd9i, q_nd9r, q_nd9n, q_st0, q_st1, q_st2, q_st3, q_st4, q_st5, q_st6, q_st7, q_st8, q_st9, q_cat_i, q_cat_r, q_cat_n, q_wt0, q_wt1, q_tl0, q_tl1, ↓q_cl1, q_add, q_sub, q_mul, q_nari, q_narb0, q_narb1, q_fiti, q_fitb0, q_fitb1, List.cons_append, List.nil_append, Nat.reduceAdd, Nat.reduceLeDiff, and_self, and_true, true_and, ↓reduceIte, ↓rc0, ↓gf0_0, ↓gf0_1, ↓gf0_2, ↓gf0_3, ↓gf0_4, ↓gf0_5, ↓gf0_6, ↓gf0_7, ↓pf0_7, ft0_7, ↓rc1, ↓gf1_0, ↓pf1_0, ft1_0, ↓gf1_1, ↓pf1_1, ft1_1, ↓gf1_2, ↓gf1_3, ↓gf1_4, ↓gf1_5, ↓gf1_6, ↓gf1_7, ↓gf1_8, ↓gf1_9, ↓gf1_10, ↓gf1_11, ↓gf1_12, ↓rc13, ↓gf13_0, ↓gf13_1, ↓gf13_2, ↓gf13_3, ↓gf13_4, ↓gf13_5, ↓gf13_6, ↓pf13_6, ft13_6, ↓gf13_7, ↓pf13_7, ft13_7, ↓gf13_8, ↓pf13_8, ft13_8, ↓gf13_9, ↓pf13_9, ft13_90, ft13_91, ↓gf13_10, ↓gf13_11, ↓gf13_12, ↓pf13_12, ft13_12, ↓gf13_13, ↓pf13_13, ft13_13, ↓gf13_14, ↓pf13_14, ft13_14, ↓rc21, ↓gf21_0, ↓pf21_0, ft21_0, ↓gf21_1, ↓pf21_1, ft21_1, ↓gf21_2, ↓pf21_2, ft21_2, ↓gf21_3, ↓pf21_3, ft21_3, ↓rc22, ↓gf22_0, ↓gf22_1, ↓gf22_2, ↓rc23, ↓gf23_0, ↓gf23_1, ↓gf23_2, ↓gf23_3, ↓pf23_3, ft23_3, ↓gf23_4, ↓pf23_4, ft23_4, ↓gf23_5, ↓pf23_5, ft23_50, ft23_51, ↓rc145, ↓gf145_0, ↓gf145_1, ↓pf145_1, ft145_1, ↓rc147, ↓gf147_0, ↓gf147_1, ↓pf147_1, ft147_1, ↓rc149, ↓gf149_0, ↓gf149_1, ↓gf149_2, ↓gf149_3, ↓gf149_4, ↓pf149_4, ft149_40, ft149_41, ↓gf149_5, ↓pf149_5, ft149_5, ↓gf149_6, ↓pf149_6, ft149_60, ft149_61, ↓gf149_7, ↓pf149_7, ft149_7, ↓gf149_8, ↓pf149_8, ft149_8, ↓gf149_9, ↓pf149_9, ft149_9, ↓gf149_10, ↓pf149_10, ft149_10, ↓gf149_11, ↓gf149_12, ↓pf149_12, ft149_12, ↓gf149_13, ↓pf149_13, ft149_13, ↓gf149_14, ↓gf149_15, ↓pf149_15, ft149_15, ↓gf149_16, ↓gf149_17, ↓gf149_18, ↓gf149_19, ↓pf149_19, ft149_19, ↓gf149_20, ↓pf149_20, ft149_20, ↓gf149_21, ↓gf149_22, ↓pf149_22, ft149_22, ↓ra2, ↓wa2, ↓ln2, ↓ra3, ↓wa3, ↓ln3, ↓ra4, ↓wa4, ↓ln4, ↓ra5, ↓wa5, ↓ln5, ↓ra6, ↓wa6, ↓ln6, ↓ra7, ↓wa7, ↓ln7, ↓ra8, ↓wa8, ↓ln8, ↓ra9, ↓wa9, ↓ln9, ↓ra10, ↓wa10, ↓ln10, ↓ra11, ↓wa11, ↓ln11, ↓ra12, ↓wa12, ↓ln12, ↓ra14, ↓wa14, ↓ln14, ↓ra15, ↓wa15, ↓ln15, ↓ra16, ↓wa16, ↓ln16, ↓ra17, ↓wa17, ↓ln17, ↓ra18, ↓wa18, ↓ln18, ↓ra19, ↓wa19, ↓ln19, ↓ra20, ↓wa20, ↓ln20, ↓ra146, ↓wa146, ↓ln146, ↓ra148, ↓wa148, ↓ln148, ↓ra150, ↓wa150, ↓ln150, ↓ra151, ↓wa151, ↓ln151, ↓ra152, ↓wa152, ↓ln152, ↓ra153, ↓wa153, ↓ln153, ↓ra154, ↓wa154, ↓ln154, ↓ra155, ↓wa155, ↓ln155, ↓ra156, ↓wa156, ↓ln156, ↓ra157, ↓wa157, ↓ln157, ↓ra158, ↓wa158, ↓ln158, ↓ra159, ↓wa159, ↓ln159, q_M_s, q_M_k, q_M_a, q_P_s, q_P_a, q_toN, q_i00, q_i10, q_j00, q_j10, q_le, show (96 : Int) ≤ ((96 : Nat) : Int) by decide, not_true_eq_false, not_false_eq_true, if_true, if_false]
  refine Eq.trans hl2 ?_
  rw [e839_48]
  simp (disch := first | rfl | assumption | decide | omega | (unfold q_R; omega)) only [en839, e839_0, e839_1, e839_3, e839_5, e839_8, e839_9, e839_12, e839_13, e839_14, e839_15, e839_18, e839_19, e839_20, e839_23, e839_26, e839_27, e839_30, e839_32, e839_33, e839_34, e839_35, e839_36, e839_37, e839_38, e839_39, e839_40, e839_43, e839_46, e839_47, e839_49, e839_51, e839_54, e839_55, e839_58, e839_59, e839_60, e839_61, e839_64, e839_65, e839_68, e839_71, e839_72, e839_73, e839_74, e839_75, e839_76, e839_77, e839_80, e839_83, e839_84, e839_85, e839_87, e839_88, e839_91, e839_92, e839_93, e839_95, e839_96, e839_99, e839_102, ↓q_nv0, ↓q_nv1, ↓q_nv2, ↓q_nv3, ↓q_nv4, ↓q_nv5, ↓q_nv6, ↓q_nv7, ↓q_nv8, ↓q_nv9, ↓q_nv10, ↓q_nv11, ↓q_nv12, ↓q_nv13, ↓q_nv14, ↓q_nv15, ↓q_nv16, ↓q_nv17, ↓q_nv18, ↓q_nv19, ↓q_nv20, ↓q_nv21, ↓q_nv22, ↓q_gi0, ↓q_gi1, ↓q_gi2, ↓q_gi3, ↓q_gi4, ↓q_gi5, ↓q_gi6, ↓q_gi7, ↓q_gi8, ↓q_gi9, ↓q_gr0, ↓q_gr1, ↓q_gr2, ↓q_gr3, ↓q_gr4, ↓q_gr5, ↓q_gr6, ↓q_gr7, ↓q_gr8, ↓q_gr9, ↓q_ls0, ↓q_ls1i, ↓q_ls1r, ↓q_ls1n, ↓q_ls2i, ↓q_ls2r, ↓q_ls2n, ↓q_ls3i, ↓q_ls3r, ↓q_ls3n, ↓q_ls4i, ↓q_ls4r, ↓q_ls4n, ↓q_ls5i, ↓q_ls5r, ↓q_ls5n, ↓q_ls6i, ↓q_ls6r, ↓q_ls6n, ↓q_ls7i, ↓q_ls7r, ↓q_ls7n, ↓q_ls8i, ↓q_ls8r, ↓q_ls8n, ↓q_ls9i, ↓q_ls9r, ↓q_ls9n, q_nd0, q_nd1i, q_nd1r, q_nd1n, q_nd2i, q_nd2r, q_nd2n, q_nd3i, q_nd3r, q_nd3n, q_nd4i, q_nd4r, q_nd4n, q_nd5i, q_nd5r, q_nd5n, q_nd6i, q_nd6r, q_nd6n, q_nd7i, q_nd7r, q_nd7n, q_nd8i, q_nd8r, q_nd8n, q_nd9i, q_nd9r, q_nd9n, q_st0, q_st1, q_st2, q_st3, q_st4, q_st5, q_st6, q_st7, q_st8, q_st9, q_cat_i, q_cat_r, q_cat_n, q_wt0, q_wt1, q_tl0, q_tl1, ↓q_cl1, q_add, q_sub, q_mul, q_nari, q_narb0, q_narb1, q_fiti, q_fitb0, q_fitb1, List.cons_append, List.nil_append, Nat.reduceAdd, Nat.reduceLeDiff, and_self, and_true, true_and, ↓reduceIte, ↓rc0, ↓gf0_0, ↓gf0_1, ↓gf0_2, ↓gf0_3, ↓gf0_4, ↓gf0_5, ↓gf0_6, ↓gf0_7, ↓pf0_7, ft0_7, ↓rc1, ↓gf1_0, ↓pf1_0, ft1_0, ↓gf1_1, ↓pf1_1, ft1_1, ↓gf1_2, ↓gf1_3, ↓gf1_4, ↓gf1_5, ↓gf1_6, ↓gf1_7, ↓gf1_8, ↓gf1_9, ↓gf1_10, ↓gf1_11, ↓gf1_12, ↓rc13, ↓gf13_0, ↓gf13_1, ↓gf13_2, ↓gf13_3, ↓gf13_4, ↓gf13_5, ↓gf13_6, ↓pf13_6, ft13_6, ↓gf13_7, ↓pf13_7, ft13_7, ↓gf13_8, ↓pf13_8, ft13_8, ↓gf13_9, ↓pf13_9, ft13_90, ft13_91, ↓gf13_10, ↓gf13_11, ↓gf13_12, ↓pf13_12, ft13_12, ↓gf13_13, ↓pf13_13, ft13_13, ↓gf13_14, ↓pf13_14, ft13_14, ↓rc21, ↓gf21_0, ↓pf21_0, ft21_0, ↓gf21_1, ↓pf21_1, ft21_1, ↓gf21_2, ↓pf21_2, ft21_2, ↓gf21_3, ↓pf21_3, ft21_3, ↓rc22, ↓gf22_0, ↓gf22_1, ↓gf22_2, ↓rc23, ↓gf23_0, ↓gf23_1, ↓gf23_2, ↓gf23_3, ↓pf23_3, ft23_3, ↓gf23_4, ↓pf23_4, ft23_4, ↓gf23_5, ↓pf23_5, ft23_50, ft23_51, ↓rc145, ↓gf145_0, ↓gf145_1, ↓pf145_1, ft145_1, ↓rc147, ↓gf147_0, ↓gf147_1, ↓pf147_1, ft147_1, ↓rc149, ↓gf149_0, ↓gf149_1, ↓gf149_2, ↓gf149_3, ↓gf149_4, ↓pf149_4, ft149_40, ft149_41, ↓gf149_5, ↓pf149_5, ft149_5, ↓gf149_6, ↓pf149_6, ft149_60, ft149_61, ↓gf149_7, ↓pf149_7, ft149_7, ↓gf149_8, ↓pf149_8, ft149_8, ↓gf149_9, ↓pf149_9, ft149_9, ↓gf149_10, ↓pf149_10, ft149_10, ↓gf149_11, ↓gf149_12, ↓pf149_12, ft149_12, ↓gf149_13, ↓pf149_13, ft149_13, ↓gf149_14, ↓gf149_15, ↓pf149_15, ft149_15, ↓gf149_16, ↓gf149_17, ↓gf149_18, ↓gf149_19, ↓pf149_19, ft149_19, ↓gf149_20, ↓pf149_20, ft149_20, ↓gf149_21, ↓gf149_22, ↓pf149_22, ft149_22, ↓ra2, ↓wa2, ↓ln2, ↓ra3, ↓wa3, ↓ln3, ↓ra4, ↓wa4, ↓ln4, ↓ra5, ↓wa5, ↓ln5, ↓ra6, ↓wa6, ↓ln6, ↓ra7, ↓wa7, ↓ln7, ↓ra8, ↓wa8, ↓ln8, ↓ra9, ↓wa9, ↓ln9, ↓ra10, ↓wa10, ↓ln10, ↓ra11, ↓wa11, ↓ln11, ↓ra12, ↓wa12, ↓ln12, ↓ra14, ↓wa14, ↓ln14, ↓ra15, ↓wa15, ↓ln15, ↓ra16, ↓wa16, ↓ln16, ↓ra17, ↓wa17, ↓ln17, ↓ra18, ↓wa18, ↓ln18, ↓ra19, ↓wa19, ↓ln19, ↓ra20, ↓wa20, ↓ln20, ↓ra146, ↓wa146, ↓ln146, ↓ra148, ↓wa148, ↓ln148, ↓ra150, ↓wa150, ↓ln150, ↓ra151, ↓wa151, ↓ln151, ↓ra152, ↓wa152, ↓ln152, ↓ra153, ↓wa153, ↓ln153, ↓ra154, ↓wa154, ↓ln154, ↓ra155, ↓wa155, ↓ln155, ↓ra156, ↓wa156, ↓ln156, ↓ra157, ↓wa157, ↓ln157, ↓ra158, ↓wa158, ↓ln158, ↓ra159, ↓wa159, ↓ln159, q_M_s, q_M_k, q_M_a, q_P_s, q_P_a, q_toN, q_i00, q_i10, q_j00, q_j10, q_le, show (48 : Int) ≤ ((48 : Nat) : Int) by decide, not_true_eq_false, not_false_eq_true, if_true, if_false, l1, h19', l2]
  try simp (disch := first | rfl | assumption | decide | omega | (unfold q_R; omega)) only [h19, l2]
end M90
