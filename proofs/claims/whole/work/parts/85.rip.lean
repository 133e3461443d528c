/-- a number as the machine holds it -/
def q_nm (z : Int) : Int := (q_i z).toInt
theorem q_nm_i (z : Int) : q_i (q_nm z) = q_i z := Int32.ofInt_toInt _
theorem q_nm_R (z : Int) : q_R (q_nm z) := ⟨Int32.le_toInt _, Int32.toInt_lt _⟩
/-- the row after a net was ripped -/
def q_grp (g : Nat → Int) (n : Nat) : Nat → Int := fun j => if j = 7 + 9 * n ∨ j = 8 + 9 * n then 0 else if j = 9 + 9 * n then q_nm (g (9 + 9 * n) + 1) else if 55 ≤ j ∧ j < 151 ∧ g j = 3 + 2 * n then 0 else if 151 ≤ j ∧ j < 199 ∧ g j = n + 1 then 0 else g j
theorem q_grp_lo {g : Nat → Int} {n j : Nat} (hj : j < 55) (h1 : j ≠ 7 + 9 * n) (h2 : j ≠ 8 + 9 * n) (h3 : j ≠ 9 + 9 * n) : q_grp g n j = g j := by
  unfold q_grp
  rw [if_neg (by omega), if_neg h3, if_neg (by omega), if_neg (by omega)]
theorem q_grp_7 {g : Nat → Int} {n : Nat} : q_grp g n (7 + 9 * n) = 0 := if_pos (Or.inl rfl)
theorem q_grp_8 {g : Nat → Int} {n : Nat} : q_grp g n (8 + 9 * n) = 0 := if_pos (Or.inr rfl)
theorem q_grp_9 {g : Nat → Int} {n : Nat} : q_grp g n (9 + 9 * n) = q_nm (g (9 + 9 * n) + 1) := by
  unfold q_grp
  rw [if_neg (by omega), if_pos rfl]
theorem q_grp_c {g : Nat → Int} {n c : Nat} (hn : n < 6) (hc : c < 96) : q_grp g n (55 + c) = if g (55 + c) = 3 + 2 * n then 0 else g (55 + c) := by
  unfold q_grp
  rw [if_neg (by omega), if_neg (by omega)]
  by_cases h : g (55 + c) = 3 + 2 * n
  · rw [if_pos ⟨by omega, by omega, h⟩, if_pos h]
  · rw [if_neg (fun z => h z.2.2), if_neg (by omega), if_neg h]
theorem q_grp_h {g : Nat → Int} {n p : Nat} (hn : n < 6) (hp : p < 48) : q_grp g n (151 + p) = if g (151 + p) = n + 1 then 0 else g (151 + p) := by
  unfold q_grp
  rw [if_neg (by omega), if_neg (by omega), if_neg (by omega)]
  by_cases h : g (151 + p) = n + 1
  · rw [if_pos ⟨by omega, by omega, h⟩, if_pos h]
  · rw [if_neg (fun z => h z.2.2), if_neg h]
theorem q_grp_hi {g : Nat → Int} {n j : Nat} (hn : n < 6) (hj : 199 ≤ j) : q_grp g n j = g j := by
  unfold q_grp
  rw [if_neg (by omega), if_neg (by omega), if_neg (by omega), if_neg (by omega)]
theorem q_W_rip {g : Nat → Int} {n : Nat} (hW : q_W g) (hn : (n : Int) < g 0) : q_W (q_grp g n) := by
  obtain ⟨w1, w2, w3, w4, w5, w6, w7, w8, w9, w10, w11, w12, w13⟩ := hW
  have hn6 : n < 6 := by omega
  have hcell := fun c (hc : c < 96) => q_grp_c (g := g) hn6 hc
  have e0 : q_grp g n 0 = g 0 := q_grp_lo (by omega) (by omega) (by omega) (by omega)
  refine ⟨fun j => ?_, ?_, fun a ha => ?_, fun a ha => ?_, fun a ha => ?_, fun a ha => ?_, fun a b ha hb => ?_, fun a b ha hb => ?_, fun a b ha h2 hb => ?_, fun j hj => ?_, fun j a hj ha h2 => ?_, fun q hq h2 => ?_, fun q hq => ?_⟩
  · have h1 := w1 j
    have h2 := q_nm_R (g (9 + 9 * n) + 1)
    unfold q_grp
    unfold q_R at *
    repeat' split
    all_goals omega
  · rw [e0]
    exact w2
  · rw [q_grp_lo (by omega) (by omega) (by omega) (by omega)]
    exact w3 a ha
  · rw [q_grp_lo (by omega) (by omega) (by omega) (by omega)]
    exact w4 a ha
  · by_cases e : a = n
    · subst e
      exact Or.inl q_grp_7
    · rw [q_grp_lo (by omega) (by omega) (by omega) (by omega)]
      exact w5 a ha
  · by_cases e : a = n
    · subst e
      rw [q_grp_8]
      omega
    · rw [q_grp_lo (by omega) (by omega) (by omega) (by omega)]
      exact w6 a ha
  · rw [q_grp_lo (by omega) (by omega) (by omega) (by omega)]
    exact w7 a b ha hb
  · have hm := w4 a ha
    rw [q_grp_lo (by omega) (by omega) (by omega) (by omega)] at hb
    have h7 := w7 a b ha (by omega)
    obtain ⟨h8, h9⟩ := w8 a b ha hb
    rw [q_grp_lo (by omega) (by omega) (by omega) (by omega)]
    obtain ⟨q, hq⟩ : ∃ q : Nat, g (3 + 9 * a + b) = q := ⟨(g (3 + 9 * a + b)).toNat, by omega⟩
    rw [hq] at h7 h8 h9 ⊢
    rw [show (q : Int) + 48 = ((q + 48 : Nat) : Int) from rfl, q_is_nat] at h9 ⊢
    rw [q_is_nat] at h8 ⊢
    rw [hcell q (by omega), hcell (q + 48) (by omega), if_neg (by omega), if_neg (by omega)]
    exact ⟨h8, h9⟩
  · rw [e0] at h2
    have hne : a ≠ n := by omega
    rw [q_grp_lo (by omega) (by omega) (by omega) (by omega)]
    exact w9 a b ha h2 hb
  · have := w10 j hj
    rw [e0, hcell j hj]
    split <;> omega
  · rw [hcell j hj] at h2
    split at h2
    · omega
    · have hne : a ≠ n := fun e => by
        subst e
        contradiction
      rw [q_grp_lo (by omega) (by omega) (by omega) (by omega)]
      exact w11 j a hj ha h2
  · have c1 := hcell q (by omega)
    have c2 := hcell (q + 48) (by omega)
    rw [show 55 + (q + 48) = 103 + q by omega] at c2
    have i1 : q_is g (q : Int) = g (55 + q) := q_is_nat
    have i2 : q_is g ((q : Int) + 48) = g (103 + q) := congrArg g (by omega)
    have j1 : q_is (q_grp g n) (q : Int) = q_grp g n (55 + q) := q_is_nat
    have j2 : q_is (q_grp g n) ((q : Int) + 48) = q_grp g n (103 + q) := congrArg (q_grp g n) (by omega)
    have hpin : q_pin g q ∨ q_pin g (q + 48) := by
      unfold q_pin at h2 ⊢
      rw [j1, j2, c1, c2] at h2
      rw [i1, i2]
      rcases h2 with h2 | h2
      · left
        split at h2
        · omega
        · exact h2
      · right
        split at h2
        · omega
        · exact h2
    have h4 := w12 q hq hpin
    have ev : g (55 + q) % 2 = 0 := by
      unfold q_pin at hpin
      rw [i1, i2] at hpin
      omega
    rw [c1, c2, if_neg (by omega), if_neg (by omega)]
    exact h4
  · have h9 := w13 q hq
    rw [q_grp_h hn6 hq]
    by_cases e : g (151 + q) = n + 1
    · rw [if_pos e]
      exact ⟨Int.le_refl _, by decide, fun z => absurd rfl z⟩
    · rw [if_neg e]
      refine ⟨h9.1, h9.2.1, fun h => ?_⟩
      have h10 := h9.2.2 h
      have c1 := hcell q (by omega)
      have c2 := hcell (q + 48) (by omega)
      rw [show 55 + (q + 48) = 103 + q by omega] at c2
      rw [c1, c2, if_neg (by omega), if_neg (by omega)]
      exact h10
theorem q_Z_rip {g : Nat → Int} {n : Nat} (h : q_Z g) (hn : n < 6) : q_Z (q_grp g n) := fun j hj => by
  rw [q_grp_hi hn hj]
  exact h j hj
theorem q_ar_i {n : Nat} {f g : Nat → Int} (h : ∀ i, i < n → q_i (f i) = q_i (g i)) : q_ar n f = q_ar n g := by
  unfold q_ar
  exact List.map_congr_left fun i hi => h i (List.mem_range.mp hi)
section M85
variable {m : Nat → Nat → Int} {K : Nat × Nat} {s : List Int32}
theorem q_H_nm {a n k : Nat} {v : Int} (h : q_tab.getD a (fun _ => .inl (0, [])) = fun f => .inl (0, q_ar n f)) : q_H (q_M m a k v) K s = q_H (q_M m a k (q_nm v)) K s := by
  apply q_H_ext
  intro b hb
  by_cases e : b = a
  · subst e
    rw [h]
    try dsimp only
    rw [q_ar_i fun i hi => ?_]
    by_cases e2 : i = k
    · subst e2
      rw [q_M_s, q_M_s, q_nm_i]
    · rw [q_M_k e2, q_M_k e2]
  · rw [q_M_a e, q_M_a e]
/-- what the class leaves of a cell and of a hole -/
def q_rh (g : Nat → Int) (n : Nat) : Nat → Int := fun c => if g (55 + c) = 3 + 2 * n then -1 else q_hl g c
def q_ro (g f : Nat → Int) (n i : Nat) : Nat → Int := fun p => if p < 48 ∧ ((p < i ∧ g (55 + p) = 3 + 2 * n) ∨ (p + 48 < i ∧ g (103 + p) = 3 + 2 * n)) then 0 else f p
theorem m16 {g : Nat → Int} {n : Nat} (hB : q_Bd m 1 g) (hW : q_W g) (hn : (n : Int) < g 0) : ∃ m1, x_m 16 [.ref 1, .int (q_i n)] (q_H m K s) = some (.inl none, q_H m1 K s) ∧ q_Bd m1 1 (q_grp g n) ∧ ∀ a, (a = 0 ∨ 13 ≤ a) → m1 a = m a := by
  have h6 := hW.2.1
  have hn6 : n < 6 := by omega
  have hl := q_loop (M := 16) (pc := 2) (n := 96) (fun i ls h => (∃ z : Value, ls = [.ref 1, .int (q_i n), .int (q_i i), z]) ∧ h = q_H (q_P (q_P m 10 (q_pf2 (m 10) (q_rh g n) i)) 12 (q_ro g (m 12) n i)) K s) (fun i ls h hi ⟨⟨z, hls⟩, hh⟩ => by
    subst hls hh
    have r48 := q_rem (a := i) (by omega) (show q_R i by unfold q_R; omega) (b := 48) (by omega) (by unfold q_R; omega)
    have z48 : ¬ q_i 48 = 0 := by decide
    have er : ((i : Int) % 48).toNat = i % 48 := by omega
    have eh : m 10 i = q_hl g i := hB.2.2.2.2.2.2.2.2.2.2.1 i hi
    have ep : m 11 (i % 48) = q_b (q_pin g i) := hB.2.2.2.2.2.2.2.2.2.2.2.1 i hi
    have e10 : q_pf2 (m 10) (q_rh g n) i i = q_hl g i := by
      rw [← eh]
      exact if_neg (by omega)
    have hhl := q_hl_ge (q_W_cells hW) (c := i) (by omega) (by omega)
    have hiff := q_wire_iff hW hi hn6
    have hln := q_hl_n hW hi (n := n) (by omega)
    refine ⟨[.ref 1, .int (q_i n), .int (q_i (i + 1 : Nat)), .int (q_i (i % 48 : Nat))], _, ⟨⟨_, rfl⟩, rfl⟩, ?_⟩
    have eI : (i : Int) % 48 = ((i % 48 : Nat) : Int) := by omega
    have sk : ¬ g (55 + i) = 3 + 2 * n → q_P (q_P m 10 (q_pf2 (m 10) (q_rh g n) i)) 12 (q_ro g (m 12) n i) = q_P (q_P m 10 (q_pf2 (m 10) (q_rh g n) (i + 1))) 12 (q_ro g (m 12) n (i + 1)) := fun hx => by
      have a1 : q_pf2 (m 10) (q_rh g n) i = q_pf2 (m 10) (q_rh g n) (i + 1) := by
        rw [← q_pf2S]
        funext j
        unfold q_upd
        split
        · rename_i e
          rw [e, e10]
          exact (if_neg hx).symm
        · rfl
      have a2 : q_ro g (m 12) n i = q_ro g (m 12) n (i + 1) := by
        funext p
        unfold q_ro
        by_cases e1 : p = i
        · subst e1
          simp only [hx, and_false, false_or, show (p + 48 < p) = False from eq_false (by omega), show (p + 48 < p + 1) = False from eq_false (by omega), false_and, or_self]
        · by_cases e2 : p + 48 = i
          · have hx2 : ¬ g (103 + p) = 3 + 2 * n := by rw [show 103 + p = 55 + i by omega]; exact hx
            simp only [hx2, and_false, or_false, show (p < i) = True from eq_true (by omega), show (p < i + 1) = True from eq_true (by omega)]
          · simp only [show (p < i + 1) = (p < i) from propext (by omega), show (p + 48 < i + 1) = (p + 48 < i) from propext (by omega)]
      rw [← a1, ← a2]
    rw [e16_2]
    by_cases x1 : q_hl g i = n
    · by_cases x2 : q_pin g i
      · have hx : ¬ g (55 + i) = 3 + 2 * n := fun z => (hiff.mpr z).2 x2
        rw [← sk hx]
        simp (disch := first | rfl | assumption | decide | omega | (unfold q_R; omega)) only [en16, e16_0, e16_1, e16_3, e16_5, e16_8, e16_9, e16_11, e16_12, e16_13, e16_14, e16_17, e16_18, e16_19, e16_20, e16_23, e16_24, e16_27, e16_28, e16_29, e16_32, e16_33, e16_36, e16_37, e16_38, e16_39, e16_40, e16_43, e16_44, e16_45, e16_46, e16_49, e16_52, e16_53, e16_56, e16_57, e16_58, e16_59, e16_60, e16_63, e16_64, e16_65, e16_66, e16_67, e16_70, e16_71, e16_72, e16_73, e16_74, e16_77, e16_78, e16_79, e16_80, e16_81, e16_84, e16_85, e16_86, e16_87, e16_88, e16_89, e16_90, ↓q_nv0, ↓q_nv1, ↓q_nv2, ↓q_nv3, ↓q_nv4, ↓q_nv5, ↓q_nv6, ↓q_nv7, ↓q_nv8, ↓q_nv9, ↓q_nv10, ↓q_nv11, ↓q_nv12, ↓q_nv13, ↓q_nv14, ↓q_nv15, ↓q_nv16, ↓q_nv17, ↓q_nv18, ↓q_nv19, ↓q_nv20, ↓q_nv21, ↓q_nv22, ↓q_gi0, ↓q_gi1, ↓q_gi2, ↓q_gi3, ↓q_gi4, ↓q_gi5, ↓q_gi6, ↓q_gi7, ↓q_gi8, ↓q_gi9, ↓q_gr0, ↓q_gr1, ↓q_gr2, ↓q_gr3, ↓q_gr4, ↓q_gr5, ↓q_gr6, ↓q_gr7, ↓q_gr8, ↓q_gr9, ↓q_ls0, ↓q_ls1i, ↓q_ls1r, ↓q_ls1n, ↓q_ls2i, ↓q_ls2r, ↓q_ls2n, ↓q_ls3i, ↓q_ls3r, ↓q_ls3n, ↓q_ls4i, ↓q_ls4r, ↓q_ls4n, ↓q_ls5i, ↓q_ls5r, ↓q_ls5n, ↓q_ls6i, ↓q_ls6r, ↓q_ls6n, ↓q_ls7i, ↓q_ls7r, ↓q_ls7n, ↓q_ls8i, ↓q_ls8r, ↓q_ls8n, ↓q_ls9i, ↓q_ls9r, ↓q_ls9n, q_nd0, q_nd1i, q_nd1r, q_nd1n, q_nd2i, q_nd2r, q_nd2n, q_nd3i, q_nd3r, q_nd3n, q_nd4i, q_nd4r, q_nd4n, q_nd5i, q_nd5r, q_nd5n, q_nd6i, q_nd6r, q_nd6n, q_nd7i, q_nd7r, q_nd7n, q_nd8i, q_nd8r, q_nd8n, q_nd9i, q_nd9r, q_nd9n, q_st0, q_st1, q_st2, q_st3, q_st4, q_st5, q_st6, q_st7, q_st8, q_st9, q_cat_i, q_cat_r, q_cat_n, q_wt0, q_wt1, q_tl0, q_tl1, ↓q_cl1, q_add, q_sub, q_mul, q_nari, q_narb0, q_narb1, q_fiti, q_fitb0, q_fitb1, List.cons_append, List.nil_append, Nat.reduceAdd, Nat.reduceLeDiff, and_self, and_true, true_and, ↓reduceIte, ↓rc0, ↓gf0_0, ↓gf0_1, ↓gf0_2, ↓gf0_3, ↓gf0_4, ↓gf0_5, ↓gf0_6, ↓gf0_7, ↓pf0_7, ft0_7, ↓rc1, ↓gf1_0, ↓pf1_0, ft1_0, ↓gf1_1, ↓pf1_1, ft1_1, ↓gf1_2, ↓gf1_3, ↓gf1_4, ↓gf1_5, ↓gf1_6, ↓gf1_7, ↓gf1_8, ↓gf1_9, ↓gf1_10, ↓gf1_11, ↓gf1_12, ↓rc13, ↓gf13_0, ↓gf13_1, ↓gf13_2, ↓gf13_3, ↓gf13_4, ↓gf13_5, ↓gf13_6, ↓pf13_6, ft13_6, ↓gf13_7, ↓pf13_7, ft13_7, ↓gf13_8, ↓pf13_8, ft13_8, ↓gf13_9, ↓pf13_9, ft13_90, ft13_91, ↓gf13_10, ↓gf13_11, ↓gf13_12, ↓pf13_12, ft13_12, ↓gf13_13, ↓pf13_13, ft13_13, ↓gf13_14, ↓pf13_14, ft13_14, ↓rc21, ↓gf21_0, ↓pf21_0, ft21_0, ↓gf21_1, ↓pf21_1, ft21_1, ↓gf21_2, ↓pf21_2, ft21_2, ↓gf21_3, ↓pf21_3, ft21_3, ↓rc22, ↓gf22_0, ↓gf22_1, ↓gf22_2, ↓rc23, ↓gf23_0, ↓gf23_1, ↓gf23_2, ↓gf23_3, ↓pf23_3, ft23_3, ↓gf23_4, ↓pf23_4, ft23_4, ↓gf23_5, ↓pf23_5, ft23_50, ft23_51, ↓rc145, ↓gf145_0, ↓gf145_1, ↓pf145_1, ft145_1, ↓rc147, ↓gf147_0, ↓gf147_1, ↓pf147_1, ft147_1, ↓rc149, ↓gf149_0, ↓gf149_1, ↓gf149_2, ↓gf149_3, ↓gf149_4, ↓pf149_4, ft149_40, ft149_41, ↓gf149_5, ↓pf149_5, ft149_5, ↓gf149_6, ↓pf149_6, ft149_60, ft149_61, ↓gf149_7, ↓pf149_7, ft149_7, ↓gf149_8, ↓pf149_8, ft149_8, ↓gf149_9, ↓pf149_9, ft149_9, ↓gf149_10, ↓pf149_10, ft149_10, ↓gf149_11, ↓gf149_12, ↓pf149_12, ft149_12, ↓gf149_13, ↓pf149_13, ft149_13, ↓gf149_14, ↓gf149_15, ↓pf149_15, ft149_15, ↓gf149_16, ↓gf149_17, ↓gf149_18, ↓gf149_19, ↓pf149_19, ft149_19, ↓gf149_20, ↓pf149_20, ft149_20, ↓gf149_21, ↓gf149_22, ↓pf149_22, ft149_22, ↓ra2, ↓wa2, ↓ln2, ↓ra3, ↓wa3, ↓ln3, ↓ra4, ↓wa4, ↓ln4, ↓ra5, ↓wa5, ↓ln5, ↓ra6, ↓wa6, ↓ln6, ↓ra7, ↓wa7, ↓ln7, ↓ra8, ↓wa8, ↓ln8, ↓ra9, ↓wa9, ↓ln9, ↓ra10, ↓wa10, ↓ln10, ↓ra11, ↓wa11, ↓ln11, ↓ra12, ↓wa12, ↓ln12, ↓ra14, ↓wa14, ↓ln14, ↓ra15, ↓wa15, ↓ln15, ↓ra16, ↓wa16, ↓ln16, ↓ra17, ↓wa17, ↓ln17, ↓ra18, ↓wa18, ↓ln18, ↓ra19, ↓wa19, ↓ln19, ↓ra20, ↓wa20, ↓ln20, ↓ra146, ↓wa146, ↓ln146, ↓ra148, ↓wa148, ↓ln148, ↓ra150, ↓wa150, ↓ln150, ↓ra151, ↓wa151, ↓ln151, ↓ra152, ↓wa152, ↓ln152, ↓ra153, ↓wa153, ↓ln153, ↓ra154, ↓wa154, ↓ln154, ↓ra155, ↓wa155, ↓ln155, ↓ra156, ↓wa156, ↓ln156, ↓ra157, ↓wa157, ↓ln157, ↓ra158, ↓wa158, ↓ln158, ↓ra159, ↓wa159, ↓ln159, q_M_s, q_M_k, q_M_a, q_P_s, q_P_a, q_toN, q_i00, q_i10, q_j00, q_j10, q_le, show ¬ (96 : Int) ≤ (i : Int) by omega, not_true_eq_false, not_false_eq_true, if_true, if_false, z48, r48, er, eI, e10, x1, ep, q_bz, x2]
        rfl
      · have hx : g (55 + i) = 3 + 2 * n := hiff.mp ⟨hln.mp x1, x2⟩
        have w : q_M (q_M (q_P (q_P m 10 (q_pf2 (m 10) (q_rh g n) i)) 12 (q_ro g (m 12) n i)) 10 i (-1)) 12 (i % 48) 0 = q_P (q_P m 10 (q_pf2 (m 10) (q_rh g n) (i + 1))) 12 (q_ro g (m 12) n (i + 1)) := by
          rw [q_M_P, q_M_a (by decide), q_P_s, q_M_P, q_P_a (by decide), q_P_s]
          have a1 : q_upd (q_pf2 (m 10) (q_rh g n) i) i (-1) = q_pf2 (m 10) (q_rh g n) (i + 1) := by
            rw [← q_pf2S, show q_rh g n i = -1 from if_pos hx]
          have a2 : q_upd (q_ro g (m 12) n i) (i % 48) 0 = q_ro g (m 12) n (i + 1) := by
            funext p
            unfold q_upd q_ro
            by_cases e : p = i % 48
            · rw [if_pos e]
              by_cases hi48 : i < 48
              · rw [if_pos ⟨by omega, Or.inl ⟨by omega, by rw [show 55 + p = 55 + i by omega]; exact hx⟩⟩]
              · rw [if_pos ⟨by omega, Or.inr ⟨by omega, by rw [show 103 + p = 55 + i by omega]; exact hx⟩⟩]
            · rw [if_neg e]
              by_cases hp48 : p < 48
              · simp only [show (p < i + 1) = (p < i) from propext (by omega), show (p + 48 < i + 1) = (p + 48 < i) from propext (by omega)]
              · simp only [hp48, false_and]
          rw [a1, a2]
          funext b
          by_cases b1 : b = 12
          · subst b1
            rw [q_P_s, q_P_s]
          · by_cases b2 : b = 10
            · subst b2
              rw [q_P_a (by decide), q_P_s, q_P_a (by decide), q_P_s]
            · rw [q_P_a b1, q_P_a b2, q_P_a b1, q_P_a b2, q_P_a b1, q_P_a b2]
        simp (disch := first | rfl | assumption | decide | omega | (unfold q_R; omega)) only [en16, e16_0, e16_1, e16_3, e16_5, e16_8, e16_9, e16_11, e16_12, e16_13, e16_14, e16_17, e16_18, e16_19, e16_20, e16_23, e16_24, e16_27, e16_28, e16_29, e16_32, e16_33, e16_36, e16_37, e16_38, e16_39, e16_40, e16_43, e16_44, e16_45, e16_46, e16_49, e16_52, e16_53, e16_56, e16_57, e16_58, e16_59, e16_60, e16_63, e16_64, e16_65, e16_66, e16_67, e16_70, e16_71, e16_72, e16_73, e16_74, e16_77, e16_78, e16_79, e16_80, e16_81, e16_84, e16_85, e16_86, e16_87, e16_88, e16_89, e16_90, ↓q_nv0, ↓q_nv1, ↓q_nv2, ↓q_nv3, ↓q_nv4, ↓q_nv5, ↓q_nv6, ↓q_nv7, ↓q_nv8, ↓q_nv9, ↓q_nv10, ↓q_nv11, ↓q_nv12, ↓q_nv13, ↓q_nv14, ↓q_nv15, ↓q_nv16, ↓q_nv17, ↓q_nv18, ↓q_nv19, ↓q_nv20, ↓q_nv21, ↓q_nv22, ↓q_gi0, ↓q_gi1, ↓q_gi2, ↓q_gi3, ↓q_gi4, ↓q_gi5, ↓q_gi6, ↓q_gi7, ↓q_gi8, ↓q_gi9, ↓q_gr0, ↓q_gr1, ↓q_gr2, ↓q_gr3, ↓q_gr4, ↓q_gr5, ↓q_gr6, ↓q_gr7, ↓q_gr8, ↓q_gr9, ↓q_ls0, ↓q_ls1i, ↓q_ls1r, ↓q_ls1n, ↓q_ls2i, ↓q_ls2r, ↓q_ls2n, ↓q_ls3i, ↓q_ls3r, ↓q_ls3n, ↓q_ls4i, ↓q_ls4r, ↓q_ls4n, ↓q_ls5i, ↓q_ls5r, ↓q_ls5n, ↓q_ls6i, ↓q_ls6r, ↓q_ls6n, ↓q_ls7i, ↓q_ls7r, ↓q_ls7n, ↓q_ls8i, ↓q_ls8r, ↓q_ls8n, ↓q_ls9i, ↓q_ls9r, ↓q_ls9n, q_nd0, q_nd1i, q_nd1r, q_nd1n, q_nd2i, q_nd2r, q_nd2n, q_nd3i, q_nd3r, q_nd3n, q_nd4i, q_nd4r, q_nd4n, q_nd5i, q_nd5r, q_nd5n, q_nd6i, q_nd6r, q_nd6n, q_nd7i, q_nd7r, q_nd7n, q_nd8i, q_nd8r, q_nd8n, q_nd9i, q_nd9r, q_nd9n, q_st0, q_st1, q_st2, q_st3, q_st4, q_st5, q_st6, q_st7, q_st8, q_st9, q_cat_i, q_cat_r, q_cat_n, q_wt0, q_wt1, q_tl0, q_tl1, ↓q_cl1, q_add, q_sub, q_mul, q_nari, q_narb0, q_narb1, q_fiti, q_fitb0, q_fitb1, List.cons_append, List.nil_append, Nat.reduceAdd, Nat.reduceLeDiff, and_self, and_true, true_and, ↓reduceIte, ↓rc0, ↓gf0_0, ↓gf0_1, ↓gf0_2, ↓gf0_3, ↓gf0_4, ↓gf0_5, ↓gf0_6, ↓gf0_7, ↓pf0_7, ft0_7, ↓rc1, ↓gf1_0, ↓pf1_0, ft1_0, ↓gf1_1, ↓pf1_1, ft1_1, ↓gf1_2, ↓gf1_3, ↓gf1_4, ↓gf1_5, ↓gf1_6, ↓gf1_7, ↓gf1_8, ↓gf1_9, ↓gf1_10, ↓gf1_11, ↓gf1_12, ↓rc13, ↓gf13_0, ↓gf13_1, ↓gf13_2, ↓gf13_3, ↓gf13_4, ↓gf13_5, ↓gf13_6, ↓pf13_6, ft13_6, ↓gf13_7, ↓pf13_7, ft13_7, ↓gf13_8, ↓pf13_8, ft13_8, ↓gf13_9, ↓pf13_9, ft13_90, ft13_91, ↓gf13_10, ↓gf13_11, ↓gf13_12, ↓pf13_12, ft13_12, ↓gf13_13, ↓pf13_13, ft13_13, ↓gf13_14, ↓pf13_14, ft13_14, ↓rc21, ↓gf21_0, ↓pf21_0, ft21_0, ↓gf21_1, ↓pf21_1, ft21_1, ↓gf21_2, ↓pf21_2, ft21_2, ↓gf21_3, ↓pf21_3, ft21_3, ↓rc22, ↓gf22_0, ↓gf22_1, ↓gf22_2, ↓rc23, ↓gf23_0, ↓gf23_1, ↓gf23_2, ↓gf23_3, ↓pf23_3, ft23_3, ↓gf23_4, ↓pf23_4, ft23_4, ↓gf23_5, ↓pf23_5, ft23_50, ft23_51, ↓rc145, ↓gf145_0, ↓gf145_1, ↓pf145_1, ft145_1, ↓rc147, ↓gf147_0, ↓gf147_1, ↓pf147_1, ft147_1, ↓rc149, ↓gf149_0, ↓gf149_1, ↓gf149_2, ↓gf149_3, ↓gf149_4, ↓pf149_4, ft149_40, ft149_41, ↓gf149_5, ↓pf149_5, ft149_5, ↓gf149_6, ↓pf149_6, ft149_60, ft149_61, ↓gf149_7, ↓pf149_7, ft149_7, ↓gf149_8, ↓pf149_8, ft149_8, ↓gf149_9, ↓pf149_9, ft149_9, ↓gf149_10, ↓pf149_10, ft149_10, ↓gf149_11, ↓gf149_12, ↓pf149_12, ft149_12, ↓gf149_13, ↓pf149_13, ft149_13, ↓gf149_14, ↓gf149_15, ↓pf149_15, ft149_15, ↓gf149_16, ↓gf149_17, ↓gf149_18, ↓gf149_19, ↓pf149_19, ft149_19, ↓gf149_20, ↓pf149_20, ft149_20, ↓gf149_21, ↓gf149_22, ↓pf149_22, ft149_22, ↓ra2, ↓wa2, ↓ln2, ↓ra3, ↓wa3, ↓ln3, ↓ra4, ↓wa4, ↓ln4, ↓ra5, ↓wa5, ↓ln5, ↓ra6, ↓wa6, ↓ln6, ↓ra7, ↓wa7, ↓ln7, ↓ra8, ↓wa8, ↓ln8, ↓ra9, ↓wa9, ↓ln9, ↓ra10, ↓wa10, ↓ln10, ↓ra11, ↓wa11, ↓ln11, ↓ra12, ↓wa12, ↓ln12, ↓ra14, ↓wa14, ↓ln14, ↓ra15, ↓wa15, ↓ln15, ↓ra16, ↓wa16, ↓ln16, ↓ra17, ↓wa17, ↓ln17, ↓ra18, ↓wa18, ↓ln18, ↓ra19, ↓wa19, ↓ln19, ↓ra20, ↓wa20, ↓ln20, ↓ra146, ↓wa146, ↓ln146, ↓ra148, ↓wa148, ↓ln148, ↓ra150, ↓wa150, ↓ln150, ↓ra151, ↓wa151, ↓ln151, ↓ra152, ↓wa152, ↓ln152, ↓ra153, ↓wa153, ↓ln153, ↓ra154, ↓wa154, ↓ln154, ↓ra155, ↓wa155, ↓ln155, ↓ra156, ↓wa156, ↓ln156, ↓ra157, ↓wa157, ↓ln157, ↓ra158, ↓wa158, ↓ln158, ↓ra159, ↓wa159, ↓ln159, q_M_s, q_M_k, q_M_a, q_P_s, q_P_a, q_toN, q_i00, q_i10, q_j00, q_j10, q_le, show ¬ (96 : Int) ≤ (i : Int) by omega, not_true_eq_false, not_false_eq_true, if_true, if_false, z48, r48, er, eI, e10, x1, ep, q_bz, x2, q_nb0, w]
        rfl
    · have hx : ¬ g (55 + i) = 3 + 2 * n := fun z => x1 (hln.mpr (hiff.mpr z).1)
      rw [← sk hx]
      simp (disch := first | rfl | assumption | decide | omega | (unfold q_R; omega)) only [en16, e16_0, e16_1, e16_3, e16_5, e16_8, e16_9, e16_11, e16_12, e16_13, e16_14, e16_17, e16_18, e16_19, e16_20, e16_23, e16_24, e16_27, e16_28, e16_29, e16_32, e16_33, e16_36, e16_37, e16_38, e16_39, e16_40, e16_43, e16_44, e16_45, e16_46, e16_49, e16_52, e16_53, e16_56, e16_57, e16_58, e16_59, e16_60, e16_63, e16_64, e16_65, e16_66, e16_67, e16_70, e16_71, e16_72, e16_73, e16_74, e16_77, e16_78, e16_79, e16_80, e16_81, e16_84, e16_85, e16_86, e16_87, e16_88, e16_89, e16_90, ↓q_nv0, ↓q_nv1, ↓q_nv2, ↓q_nv3, ↓q_nv4, ↓q_nv5, ↓q_nv6, ↓q_nv7, ↓q_nv8, ↓q_nv9, ↓q_nv10, ↓q_nv11, ↓q_nv12, ↓q_nv13, ↓q_nv14, ↓q_nv15, ↓q_nv16, ↓q_nv17, ↓q_nv18, ↓q_nv19, ↓q_nv20, ↓q_nv21, ↓q_nv22, ↓q_gi0, ↓q_gi1, ↓q_gi2, ↓q_gi3, ↓q_gi4, ↓q_gi5, ↓q_gi6, ↓q_gi7, ↓q_gi8, ↓q_gi9, ↓q_gr0, ↓q_gr1, ↓q_gr2, ↓q_gr3, ↓q_gr4, ↓q_gr5, ↓q_gr6, ↓q_gr7, ↓q_gr8, ↓q_gr9, ↓q_ls0, ↓q_ls1i, ↓q_ls1r, ↓q_ls1n, ↓q_ls2i, ↓q_ls2r, ↓q_ls2n, ↓q_ls3i, ↓q_ls3r, ↓q_ls3n, ↓q_ls4i, ↓q_ls4r, ↓q_ls4n, ↓q_ls5i, ↓q_ls5r, ↓q_ls5n, ↓q_ls6i, ↓q_ls6r, ↓q_ls6n, ↓q_ls7i, ↓q_ls7r, ↓q_ls7n, ↓q_ls8i, ↓q_ls8r, ↓q_ls8n, ↓q_ls9i, ↓q_ls9r, ↓q_ls9n, q_nd0, q_nd1i, q_nd1r, q_nd1n, q_nd2i, q_nd2r, q_nd2n, q_nd3i, q_nd3r, q_nd3n, q_nd4i, q_nd4r, q_nd4n, q_nd5i, q_nd5r, q_nd5n, q_nd6i, q_nd6r, q_nd6n, q_nd7i, q_nd7r, q_nd7n, q_nd8i, q_nd8r, q_nd8n, q_nd9i, q_nd9r, q_nd9n, q_st0, q_st1, q_st2, q_st3, q_st4, q_st5, q_st6, q_st7, q_st8, q_st9, q_cat_i, q_cat_r, q_cat_n, q_wt0, q_wt1, q_tl0, q_tl1, ↓q_cl1, q_add, q_sub, q_mul, q_nari, q_narb0, q_narb1, q_fiti, q_fitb0, q_fitb1, List.cons_append, List.nil_append, Nat.reduceAdd, Nat.reduceLeDiff, and_self, and_true, true_and, ↓reduceIte, ↓rc0, ↓gf0_0, ↓gf0_1, ↓gf0_2, ↓gf0_3, ↓gf0_4, ↓gf0_5, ↓gf0_6, ↓gf0_7, ↓pf0_7, ft0_7, ↓rc1, ↓gf1_0, ↓pf1_0, ft1_0, ↓gf1_1, ↓pf1_1, ft1_1, ↓gf1_2, ↓gf1_3, ↓gf1_4, ↓gf1_5, ↓gf1_6, ↓gf1_7, ↓gf1_8, ↓gf1_9, ↓gf1_10, ↓gf1_11, ↓gf1_12, ↓rc13, ↓gf13_0, ↓gf13_1, ↓gf13_2, ↓gf13_3, ↓gf13_4, ↓gf13_5, ↓gf13_6, ↓pf13_6, ft13_6, ↓gf13_7, ↓pf13_7, ft13_7, ↓gf13_8, ↓pf13_8, ft13_8, ↓gf13_9, ↓pf13_9, ft13_90, ft13_91, ↓gf13_10, ↓gf13_11, ↓gf13_12, ↓pf13_12, ft13_12, ↓gf13_13, ↓pf13_13, ft13_13, ↓gf13_14, ↓pf13_14, ft13_14, ↓rc21, ↓gf21_0, ↓pf21_0, ft21_0, ↓gf21_1, ↓pf21_1, ft21_1, ↓gf21_2, ↓pf21_2, ft21_2, ↓gf21_3, ↓pf21_3, ft21_3, ↓rc22, ↓gf22_0, ↓gf22_1, ↓gf22_2, ↓rc23, ↓gf23_0, ↓gf23_1, ↓gf23_2, ↓gf23_3, ↓pf23_3, ft23_3, ↓gf23_4, ↓pf23_4, ft23_4, ↓gf23_5, ↓pf23_5, ft23_50, ft23_51, ↓rc145, ↓gf145_0, ↓gf145_1, ↓pf145_1, ft145_1, ↓rc147, ↓gf147_0, ↓gf147_1, ↓pf147_1, ft147_1, ↓rc149, ↓gf149_0, ↓gf149_1, ↓gf149_2, ↓gf149_3, ↓gf149_4, ↓pf149_4, ft149_40, ft149_41, ↓gf149_5, ↓pf149_5, ft149_5, ↓gf149_6, ↓pf149_6, ft149_60, ft149_61, ↓gf149_7, ↓pf149_7, ft149_7, ↓gf149_8, ↓pf149_8, ft149_8, ↓gf149_9, ↓pf149_9, ft149_9, ↓gf149_10, ↓pf149_10, ft149_10, ↓gf149_11, ↓gf149_12, ↓pf149_12, ft149_12, ↓gf149_13, ↓pf149_13, ft149_13, ↓gf149_14, ↓gf149_15, ↓pf149_15, ft149_15, ↓gf149_16, ↓gf149_17, ↓gf149_18, ↓gf149_19, ↓pf149_19, ft149_19, ↓gf149_20, ↓pf149_20, ft149_20, ↓gf149_21, ↓gf149_22, ↓pf149_22, ft149_22, ↓ra2, ↓wa2, ↓ln2, ↓ra3, ↓wa3, ↓ln3, ↓ra4, ↓wa4, ↓ln4, ↓ra5, ↓wa5, ↓ln5, ↓ra6, ↓wa6, ↓ln6, ↓ra7, ↓wa7, ↓ln7, ↓ra8, ↓wa8, ↓ln8, ↓ra9, ↓wa9, ↓ln9, ↓ra10, ↓wa10, ↓ln10, ↓ra11, ↓wa11, ↓ln11, ↓ra12, ↓wa12, ↓ln12, ↓ra14, ↓wa14, ↓ln14, ↓ra15, ↓wa15, ↓ln15, ↓ra16, ↓wa16, ↓ln16, ↓ra17, ↓wa17, ↓ln17, ↓ra18, ↓wa18, ↓ln18, ↓ra19, ↓wa19, ↓ln19, ↓ra20, ↓wa20, ↓ln20, ↓ra146, ↓wa146, ↓ln146, ↓ra148, ↓wa148, ↓ln148, ↓ra150, ↓wa150, ↓ln150, ↓ra151, ↓wa151, ↓ln151, ↓ra152, ↓wa152, ↓ln152, ↓ra153, ↓wa153, ↓ln153, ↓ra154, ↓wa154, ↓ln154, ↓ra155, ↓wa155, ↓ln155, ↓ra156, ↓wa156, ↓ln156, ↓ra157, ↓wa157, ↓ln157, ↓ra158, ↓wa158, ↓ln158, ↓ra159, ↓wa159, ↓ln159, q_M_s, q_M_k, q_M_a, q_P_s, q_P_a, q_toN, q_i00, q_i10, q_j00, q_j10, q_le, show ¬ (96 : Int) ≤ (i : Int) by omega, not_true_eq_false, not_false_eq_true, if_true, if_false, z48, r48, er, eI, e10, q_eq, x1]
      rfl) (ls := [.ref 1, .int (q_i n), .int (q_i (0 : Nat)), .null]) (h := q_H (q_P (q_P m 10 (q_pf2 (m 10) (q_rh g n) 0)) 12 (q_ro g (m 12) n 0)) K s) ⟨⟨_, rfl⟩, rfl⟩
  obtain ⟨ls, h', ⟨⟨z, rfl⟩, rfl⟩, e⟩ := hl
  have e00 : q_P (q_P m 10 (q_pf2 (m 10) (q_rh g n) 0)) 12 (q_ro g (m 12) n 0) = m := by
    rw [q_pf20, q_P_id, show q_ro g (m 12) n 0 = m 12 from funext fun p => if_neg (by omega), q_P_id]
  rw [e00] at e
  generalize hmA : q_P (q_P m 10 (q_pf2 (m 10) (q_rh g n) 96)) 12 (q_ro g (m 12) n 96) = mA at e
  have fA : ∀ a, a ≠ 10 → a ≠ 12 → mA a = m a := fun a a1 a2 => by rw [← hmA, q_P_a a2, q_P_a a1]
  have A10 : ∀ c, c < 96 → mA 10 c = q_rh g n c := fun c hc => by
    rw [← hmA, q_P_a (by decide), q_P_s]
    exact if_pos hc
  have A12 : ∀ p, p < 48 → mA 12 p = if g (55 + p) = 3 + 2 * n ∨ g (103 + p) = 3 + 2 * n then 0 else m 12 p := fun p hp => by
    rw [← hmA, q_P_s]
    unfold q_ro
    simp only [hp, show (p < 96) = True from eq_true (by omega), show (p + 48 < 96) = True from eq_true (by omega), true_and]
  obtain ⟨b1, b2, b3, b4, b5, b6, b7, b8, b9, b10, b11, b12, b13⟩ := hB
  have e8 : mA 8 n = g (9 + 9 * n) := by
    rw [fA 8 (by decide) (by decide)]
    exact b9 n hn6
  have enm := q_H_nm (m := q_M (q_M (q_M (q_M mA 3 n 0) 5 n 0) 6 n 0) 7 n 0) (K := K) (s := s) (a := 8) (n := 6) (k := n) (v := g (9 + 9 * n) + 1) rfl
  refine ⟨q_M (q_M (q_M (q_M (q_M mA 3 n 0) 5 n 0) 6 n 0) 7 n 0) 8 n (q_nm (g (9 + 9 * n) + 1)), ?_, ?_, ?_⟩
  · rw [en16, e16_0]
    simp only [e16_1, ↓q_nv0, ↓q_nv1, ↓q_nv2, ↓q_nv3, ↓q_nv4, ↓q_nv5, ↓q_nv6, ↓q_nv7, ↓q_nv8, ↓q_nv9, ↓q_nv10, ↓q_nv11, ↓q_nv12, ↓q_nv13, ↓q_nv14, ↓q_nv15, ↓q_nv16, ↓q_nv17, ↓q_nv18, ↓q_nv19, ↓q_nv20, ↓q_nv21, ↓q_nv22, ↓q_gi0, ↓q_gi1, ↓q_gi2, ↓q_gi3, ↓q_gi4, ↓q_gi5, ↓q_gi6, ↓q_gi7, ↓q_gi8, ↓q_gi9, ↓q_gr0, ↓q_gr1, ↓q_gr2, ↓q_gr3, ↓q_gr4, ↓q_gr5, ↓q_gr6, ↓q_gr7, ↓q_gr8, ↓q_gr9, ↓q_ls0, ↓q_ls1i, ↓q_ls1r, ↓q_ls1n, ↓q_ls2i, ↓q_ls2r, ↓q_ls2n, ↓q_ls3i, ↓q_ls3r, ↓q_ls3n, ↓q_ls4i, ↓q_ls4r, ↓q_ls4n, ↓q_ls5i, ↓q_ls5r, ↓q_ls5n, ↓q_ls6i, ↓q_ls6r, ↓q_ls6n, ↓q_ls7i, ↓q_ls7r, ↓q_ls7n, ↓q_ls8i, ↓q_ls8r, ↓q_ls8n, ↓q_ls9i, ↓q_ls9r, ↓q_ls9n, q_nd0, q_nd1i, q_nd1r, q_nd1n, q_nd2i, q_nd2r, q_nd2n, q_nd3i, q_nd3r, q_nd3n, q_nd4i, q_nd4r, q_nd4n, q_nd5i, q_nd5r, q_nd5n, q_nd6i, q_nd6r, q_nd6n, q_nd7i, q_nd7r, q_nd7n, q_nd8i, q_nd8r, q_nd8n, q_nd9i, q_nd9r, q_nd9n, q_st0, q_st1, q_st2, q_st3, q_st4, q_st5, q_st6, q_st7, q_st8, q_st9, q_cat_i, q_cat_r, q_cat_n, q_wt0, q_wt1, q_tl0, q_tl1, ↓q_cl1, q_add, q_sub, q_mul, q_nari, q_narb0, q_narb1, q_fiti, q_fitb0, q_fitb1, List.cons_append, List.nil_append, Nat.reduceAdd, Nat.reduceLeDiff, and_self, and_true, true_and, ↓reduceIte]
    refine Eq.trans e ?_
    rw [e16_2]
    simp (disch := first | rfl | assumption | decide | omega | (unfold q_R; omega)) only [en16, e16_0, e16_1, e16_3, e16_5, e16_8, e16_9, e16_11, e16_12, e16_13, e16_14, e16_17, e16_18, e16_19, e16_20, e16_23, e16_24, e16_27, e16_28, e16_29, e16_32, e16_33, e16_36, e16_37, e16_38, e16_39, e16_40, e16_43, e16_44, e16_45, e16_46, e16_49, e16_52, e16_53, e16_56, e16_57, e16_58, e16_59, e16_60, e16_63, e16_64, e16_65, e16_66, e16_67, e16_70, e16_71, e16_72, e16_73, e16_74, e16_77, e16_78, e16_79, e16_80, e16_81, e16_84, e16_85, e16_86, e16_87, e16_88, e16_89, e16_90, e16_85 (v := .int (q_i (n : Int))) (w := .ref 8) ⟨rfl, rfl⟩, ↓q_nv0, ↓q_nv1, ↓q_nv2, ↓q_nv3, ↓q_nv4, ↓q_nv5, ↓q_nv6, ↓q_nv7, ↓q_nv8, ↓q_nv9, ↓q_nv10, ↓q_nv11, ↓q_nv12, ↓q_nv13, ↓q_nv14, ↓q_nv15, ↓q_nv16, ↓q_nv17, ↓q_nv18, ↓q_nv19, ↓q_nv20, ↓q_nv21, ↓q_nv22, ↓q_gi0, ↓q_gi1, ↓q_gi2, ↓q_gi3, ↓q_gi4, ↓q_gi5, ↓q_gi6, ↓q_gi7, ↓q_gi8, ↓q_gi9, ↓q_gr0, ↓q_gr1, ↓q_gr2, ↓q_gr3, ↓q_gr4, ↓q_gr5, ↓q_gr6, ↓q_gr7, ↓q_gr8, ↓q_gr9, ↓q_ls0, ↓q_ls1i, ↓q_ls1r, ↓q_ls1n, ↓q_ls2i, ↓q_ls2r, ↓q_ls2n, ↓q_ls3i, ↓q_ls3r, ↓q_ls3n, ↓q_ls4i, ↓q_ls4r, ↓q_ls4n, ↓q_ls5i, ↓q_ls5r, ↓q_ls5n, ↓q_ls6i, ↓q_ls6r, ↓q_ls6n, ↓q_ls7i, ↓q_ls7r, ↓q_ls7n, ↓q_ls8i, ↓q_ls8r, ↓q_ls8n, ↓q_ls9i, ↓q_ls9r, ↓q_ls9n, q_nd0, q_nd1i, q_nd1r, q_nd1n, q_nd2i, q_nd2r, q_nd2n, q_nd3i, q_nd3r, q_nd3n, q_nd4i, q_nd4r, q_nd4n, q_nd5i, q_nd5r, q_nd5n, q_nd6i, q_nd6r, q_nd6n, q_nd7i, q_nd7r, q_nd7n, q_nd8i, q_nd8r, q_nd8n, q_nd9i, q_nd9r, q_nd9n, q_st0, q_st1, q_st2, q_st3, q_st4, q_st5, q_st6, q_st7, q_st8, q_st9, q_cat_i, q_cat_r, q_cat_n, q_wt0, q_wt1, q_tl0, q_tl1, ↓q_cl1, q_add, q_sub, q_mul, q_nari, q_narb0, q_narb1, q_fiti, q_fitb0, q_fitb1, List.cons_append, List.nil_append, Nat.reduceAdd, Nat.reduceLeDiff, and_self, and_true, true_and, ↓reduceIte, ↓rc0, ↓gf0_0, ↓gf0_1, ↓gf0_2, ↓gf0_3, ↓gf0_4, ↓gf0_5, ↓gf0_6, ↓gf0_7, ↓pf0_7, ft0_7, ↓rc1, ↓gf1_0, ↓pf1_0, ft1_0, ↓gf1_1, ↓pf1_1, ft1_1, ↓gf1_2, ↓gf1_3, ↓gf1_4, ↓gf1_5, ↓gf1_6, ↓gf1_7, ↓gf1_8, ↓gf1_9, ↓gf1_10, ↓gf1_11, ↓gf1_12, ↓rc13, ↓gf13_0, ↓gf13_1, ↓gf13_2, ↓gf13_3, ↓gf13_4, ↓gf13_5, ↓gf13_6, ↓pf13_6, ft13_6, ↓gf13_7, ↓pf13_7, ft13_7, ↓gf13_8, ↓pf13_8, ft13_8, ↓gf13_9, ↓pf13_9, ft13_90, ft13_91, ↓gf13_10, ↓gf13_11, ↓gf13_12, ↓pf13_12, ft13_12, ↓gf13_13, ↓pf13_13, ft13_13, ↓gf13_14, ↓pf13_14, ft13_14, ↓rc21, ↓gf21_0, ↓pf21_0, ft21_0, ↓gf21_1, ↓pf21_1, ft21_1, ↓gf21_2, ↓pf21_2, ft21_2, ↓gf21_3, ↓pf21_3, ft21_3, ↓rc22, ↓gf22_0, ↓gf22_1, ↓gf22_2, ↓rc23, ↓gf23_0, ↓gf23_1, ↓gf23_2, ↓gf23_3, ↓pf23_3, ft23_3, ↓gf23_4, ↓pf23_4, ft23_4, ↓gf23_5, ↓pf23_5, ft23_50, ft23_51, ↓rc145, ↓gf145_0, ↓gf145_1, ↓pf145_1, ft145_1, ↓rc147, ↓gf147_0, ↓gf147_1, ↓pf147_1, ft147_1, ↓rc149, ↓gf149_0, ↓gf149_1, ↓gf149_2, ↓gf149_3, ↓gf149_4, ↓pf149_4, ft149_40, ft149_41, ↓gf149_5, ↓pf149_5, ft149_5, ↓gf149_6, ↓pf149_6, ft149_60, ft149_61, ↓gf149_7, ↓pf149_7, ft149_7, ↓gf149_8, ↓pf149_8, ft149_8, ↓gf149_9, ↓pf149_9, ft149_9, ↓gf149_10, ↓pf149_10, ft149_10, ↓gf149_11, ↓gf149_12, ↓pf149_12, ft149_12, ↓gf149_13, ↓pf149_13, ft149_13, ↓gf149_14, ↓gf149_15, ↓pf149_15, ft149_15, ↓gf149_16, ↓gf149_17, ↓gf149_18, ↓gf149_19, ↓pf149_19, ft149_19, ↓gf149_20, ↓pf149_20, ft149_20, ↓gf149_21, ↓gf149_22, ↓pf149_22, ft149_22, ↓ra2, ↓wa2, ↓ln2, ↓ra3, ↓wa3, ↓ln3, ↓ra4, ↓wa4, ↓ln4, ↓ra5, ↓wa5, ↓ln5, ↓ra6, ↓wa6, ↓ln6, ↓ra7, ↓wa7, ↓ln7, ↓ra8, ↓wa8, ↓ln8, ↓ra9, ↓wa9, ↓ln9, ↓ra10, ↓wa10, ↓ln10, ↓ra11, ↓wa11, ↓ln11, ↓ra12, ↓wa12, ↓ln12, ↓ra14, ↓wa14, ↓ln14, ↓ra15, ↓wa15, ↓ln15, ↓ra16, ↓wa16, ↓ln16, ↓ra17, ↓wa17, ↓ln17, ↓ra18, ↓wa18, ↓ln18, ↓ra19, ↓wa19, ↓ln19, ↓ra20, ↓wa20, ↓ln20, ↓ra146, ↓wa146, ↓ln146, ↓ra148, ↓wa148, ↓ln148, ↓ra150, ↓wa150, ↓ln150, ↓ra151, ↓wa151, ↓ln151, ↓ra152, ↓wa152, ↓ln152, ↓ra153, ↓wa153, ↓ln153, ↓ra154, ↓wa154, ↓ln154, ↓ra155, ↓wa155, ↓ln155, ↓ra156, ↓wa156, ↓ln156, ↓ra157, ↓wa157, ↓ln157, ↓ra158, ↓wa158, ↓ln158, ↓ra159, ↓wa159, ↓ln159, q_M_s, q_M_k, q_M_a, q_P_s, q_P_a, q_toN, q_i00, q_i10, q_j00, q_j10, q_le, show (96 : Int) ≤ ((96 : Nat) : Int) by decide, not_true_eq_false, not_false_eq_true, if_true, if_false, q_nb0, e8, enm]
  · have hcell := fun c (hc : c < 96) => q_grp_c (g := g) hn6 hc
    have hcc := q_W_cells hW
    refine ⟨?_, ?_, fun a ha => ?_, fun a ha => ?_, fun a ha => ?_, fun a ha => ?_, fun a ha => ?_, fun a ha => ?_, fun a ha => ?_, fun a b ha hb => ?_, fun j hj => ?_, fun j hj => ?_, fun q hq => ?_⟩
    · rw [q_M_a (by decide), q_M_a (by decide), q_M_a (by decide), q_M_a (by decide), q_M_a (by decide), fA 1 (by decide) (by decide), q_grp_lo (by omega) (by omega) (by omega) (by omega)]
      exact b1
    · rw [q_M_a (by decide), q_M_a (by decide), q_M_a (by decide), q_M_a (by decide), q_M_a (by decide), fA 1 (by decide) (by decide), b2]
      refine congrArg Nat.cast (q_cnt_congr fun i hi => ?_)
      rw [hcell i hi]
      by_cases hx : g (55 + i) = 3 + 2 * n
      · rw [if_pos hx, decide_eq_false (by omega), decide_eq_false (by omega)]
      · rw [if_neg hx]
    · rw [q_M_a (by decide), q_M_a (by decide), q_M_a (by decide), q_M_a (by decide), q_M_a (by decide), fA _ (by decide) (by decide), q_grp_lo (by omega) (by omega) (by omega) (by omega)]
      exact b3 a ha
    · rw [q_M_a (by decide), q_M_a (by decide), q_M_a (by decide), q_M_a (by decide)]
      by_cases ea : a = n
      · subst ea
        rw [q_M_s, q_grp_7]
      · rw [q_M_k ea, fA _ (by decide) (by decide), q_grp_lo (by omega) (by omega) (by omega) (by omega)]
        exact b4 a ha
    · rw [q_M_a (by decide), q_M_a (by decide), q_M_a (by decide), q_M_a (by decide), q_M_a (by decide), fA _ (by decide) (by decide), q_grp_lo (by omega) (by omega) (by omega) (by omega)]
      exact b5 a ha
    · rw [q_M_a (by decide), q_M_a (by decide), q_M_a (by decide)]
      by_cases ea : a = n
      · subst ea
        rw [q_M_s, q_grp_8]
      · rw [q_M_k ea, q_M_a (by decide), fA _ (by decide) (by decide), q_grp_lo (by omega) (by omega) (by omega) (by omega)]
        exact b6 a ha
    · rw [q_M_a (by decide), q_M_a (by decide)]
      by_cases ea : a = n
      · subst ea
        rw [q_M_s]
        have : q_wir (q_grp g a) a = 0 := by
          unfold q_wir
          have e0 : ∀ k, q_cnt (fun _ => false) k = 0 := fun k => by
            induction k with
            | zero => rfl
            | succ k ih => rw [q_cnt_succ, ih]; rfl
          rw [q_cnt_congr (Q := fun _ => false) fun i hi => ?_, e0]
          rw [hcell i hi]
          refine decide_eq_false ?_
          split <;> omega
        rw [this]
        rfl
      · rw [q_M_k ea, q_M_a (by decide), q_M_a (by decide), fA _ (by decide) (by decide), b7 a ha]
        refine congrArg Nat.cast (q_cnt_congr fun i hi => ?_)
        rw [hcell i hi]
        by_cases hx : g (55 + i) = 3 + 2 * n
        · rw [if_pos hx, decide_eq_false (by omega), decide_eq_false (by omega)]
        · rw [if_neg hx]
    · rw [q_M_a (by decide)]
      by_cases ea : a = n
      · subst ea
        rw [q_M_s]
        have : q_hls (q_grp g a) a = 0 := by
          unfold q_hls
          have e0 : ∀ k, q_cnt (fun _ => false) k = 0 := fun k => by
            induction k with
            | zero => rfl
            | succ k ih => rw [q_cnt_succ, ih]; rfl
          rw [q_cnt_congr (Q := fun _ => false) fun i hi => ?_, e0]
          rw [q_grp_h hn6 hi]
          refine decide_eq_false ?_
          split <;> omega
        rw [this]
        rfl
      · rw [q_M_k ea, q_M_a (by decide), q_M_a (by decide), q_M_a (by decide), fA _ (by decide) (by decide), b8 a ha]
        refine congrArg Nat.cast (q_cnt_congr fun i hi => ?_)
        rw [q_grp_h hn6 hi]
        by_cases hx : g (151 + i) = n + 1
        · rw [if_pos hx, decide_eq_false (by omega), decide_eq_false (by omega)]
        · rw [if_neg hx]
    · by_cases ea : a = n
      · subst ea
        rw [q_M_s, q_grp_9]
      · rw [q_M_k ea, q_M_a (by decide), q_M_a (by decide), q_M_a (by decide), q_M_a (by decide), fA _ (by decide) (by decide), q_grp_lo (by omega) (by omega) (by omega) (by omega)]
        exact b9 a ha
    · rw [q_M_a (by decide), q_M_a (by decide), q_M_a (by decide), q_M_a (by decide), q_M_a (by decide), fA _ (by decide) (by decide), q_grp_lo (by omega) (by omega) (by omega) (by omega)]
      exact b10 a b ha hb
    · rw [q_M_a (by decide), q_M_a (by decide), q_M_a (by decide), q_M_a (by decide), q_M_a (by decide), show (1 + 9 : Nat) = 10 from rfl, A10 j hj]
      unfold q_rh q_hl
      rw [q_is_nat, q_is_nat, hcell j hj]
      by_cases hx : g (55 + j) = 3 + 2 * n
      · rw [if_pos hx, if_pos hx, if_pos rfl]
      · rw [if_neg hx, if_neg hx]
    · rw [q_M_a (by decide), q_M_a (by decide), q_M_a (by decide), q_M_a (by decide), q_M_a (by decide), fA _ (by decide) (by decide), b12 j hj]
      refine q_b_iff ?_
      unfold q_pin
      rw [q_is_nat, q_is_nat, hcell j hj]
      by_cases hx : g (55 + j) = 3 + 2 * n
      · rw [if_pos hx]
        omega
      · rw [if_neg hx]
    · rw [q_M_a (by decide), q_M_a (by decide), q_M_a (by decide), q_M_a (by decide), q_M_a (by decide), show (1 + 11 : Nat) = 12 from rfl, A12 q hq, q_grp_h hn6 hq, show m 12 q = q_b (0 < g (151 + q)) from b13 q hq]
      have h13 := hW.2.2.2.2.2.2.2.2.2.2.2.2 q hq
      by_cases hx : g (151 + q) = n + 1
      · have := h13.2.2 (by omega)
        rw [if_pos (Or.inl (by omega)), if_pos hx, q_b0 (by omega)]
      · rw [if_neg hx]
        by_cases hy : g (55 + q) = 3 + 2 * n ∨ g (103 + q) = 3 + 2 * n
        · rw [if_pos hy, q_b0]
          intro hz
          have := h13.2.2 (by omega)
          omega
        · rw [if_neg hy]
  · intro a ha
    rw [q_M_a (by omega), q_M_a (by omega), q_M_a (by omega), q_M_a (by omega), q_M_a (by omega), fA a (by omega) (by omega)]
end M85
