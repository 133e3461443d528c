def x_inst (ci : Nat) : Bool := lw_tbl.any (fun w => match w with | .instantiable C _ => decide (C = x_C ci) | _ => false) && (u_ws (x_C ci) (x_T ci) (x_N ci)).all (fun w => decide (w ∈ lw_tbl))
theorem x_inst_ok : (List.range 11).all x_inst = true := by decide +kernel
theorem x_knows {args : Array Value} {s : State} (hts : ∀ w ∈ lw_tbl, w.before args s = true) : ∃ D : va_G, ∀ (c : Nat) (q : vw_C), vwCl[c]? = some q → u_Kn s q.1 q.2.1 q.2.2 (D.1 c) (D.2 c) := by
  have h : ∀ ci : Nat, ∃ q : ClassId × (Nat → Nat), ci < 11 → u_Kn s (x_C ci) (x_T ci) (x_N ci) q.1 q.2 := by
    intro ci
    by_cases hc : ci < 11
    · have h1 := List.all_eq_true.mp x_inst_ok ci (List.mem_range.mpr hc)
      unfold x_inst at h1
      rw [Bool.and_eq_true] at h1
      obtain ⟨h1, h2⟩ := h1
      obtain ⟨w, hw, hm⟩ := List.any_eq_true.mp h1
      split at hm
      · rename_i C n
        have hC := of_decide_eq_true hm
        subst hC
        obtain ⟨cC, iS, hK⟩ := u_known (T := x_T ci) (N := x_N ci) hts (fun w hw => of_decide_eq_true (List.all_eq_true.mp h2 w hw)) (hts _ hw)
        exact ⟨(cC, iS), fun _ => hK⟩
      · cases hm
    · exact ⟨(0, fun _ => 0), fun h => absurd h hc⟩
  obtain ⟨f, hf⟩ := Classical.axiomOfChoice h
  refine ⟨(fun c => (f c).1, fun c => (f c).2), fun c q hq => ?_⟩
  have hc : c < 11 := (List.getElem?_eq_some_iff.mp hq).1
  have h2 := hf c hc
  have h3 := x_cl_at hc
  rw [hq] at h3
  cases h3
  exact h2
theorem x_prim {args : Array Value} {s : State} {ty : FieldType} (h : (Cond.arrayClass ty).before args s = true) : ∃ c : ClassId, ArrOfT s c ty ∧ s.vm.findClass ("[" ++ ty.toString) = some c := by
  obtain ⟨c, k, comp, h1, h2, h3⟩ := Cond.arrayClass_spec h
  exact ⟨c, fun n z => ⟨fun k h => (by cases h), k, h2, comp, h3⟩, h1⟩
theorem x_arrw : decide (Cond.arrayClass .int ∈ lw_tbl) && decide (Cond.arrayClass .boolean ∈ lw_tbl) && decide (Cond.arrayClass .char ∈ lw_tbl) && decide (Cond.arrayClass .long ∈ lw_tbl) && decide (Cond.arrayClass .double ∈ lw_tbl) && decide (Cond.arrayOver (.object "WireBoard$Board") ∈ lw_tbl) = true := by decide +kernel
theorem x_startK {args : Array Value} {s : State} (hts : ∀ w ∈ lw_tbl, w.before args s = true) : ∃ (D : va_G) (cA : Nat → ClassId), x_K D cA s := by
  obtain ⟨D, hD⟩ := x_knows hts
  have h := x_arrw
  simp only [Bool.and_eq_true, decide_eq_true_eq] at h
  obtain ⟨⟨⟨⟨⟨w0, w1⟩, w2⟩, w3⟩, w4⟩, w5⟩ := h
  obtain ⟨c0, a0, b0⟩ := x_prim (hts _ w0)
  obtain ⟨c1, a1, b1⟩ := x_prim (hts _ w1)
  obtain ⟨c2, a2, b2⟩ := x_prim (hts _ w2)
  obtain ⟨c3, a3, b3⟩ := x_prim (hts _ w3)
  obtain ⟨c4, a4, b4⟩ := x_prim (hts _ w4)
  obtain ⟨comp, c5, k5, e1, -, e2, e3, e4⟩ := Cond.arrayOver_spec (hts _ w5)
  refine ⟨D, fun k => [c0, c1, c2, c3, c4, c5].getD k 0, hD, fun k q hk => ?_⟩
  have hk6 : k < 6 := (List.getElem?_eq_some_iff.mp hk).1
  rcases (show k = 0 ∨ k = 1 ∨ k = 2 ∨ k = 3 ∨ k = 4 ∨ k = 5 by omega) with rfl | rfl | rfl | rfl | rfl | rfl
  · cases hk; exact ⟨a0, b0⟩
  · cases hk; exact ⟨a1, b1⟩
  · cases hk; exact ⟨a2, b2⟩
  · cases hk; exact ⟨a3, b3⟩
  · cases hk; exact ⟨a4, b4⟩
  · cases hk; exact ⟨fun n z => ⟨fun k h => (by cases h), k5, e2, comp, e3⟩, k5, comp, e2, e3, e1, e4⟩
def x_giv : List Cond := flatC (Jvm.Cond.and given_1 narrow_1)
def x_tm0 (j : Nat) : Term := .string RX2 (x_sx j)
def x_gS (i : Nat) : Bool := decide (x_lens.getD i 0 < 2 ^ 31) && decide (Cond.exactly (x_tm0 i) "java/lang/String" ∈ x_giv) && decide (Cond.eq (.field (x_tm0 i) "java/lang/String" "coder" "B") (.int 0) ∈ x_giv) && decide (Cond.arrayOf (.field (x_tm0 i) "java/lang/String" "value" "[B") .byte ∈ x_giv) && decide (Cond.eq (.length (.field (x_tm0 i) "java/lang/String" "value" "[B")) (.int (Int32.ofNat (x_lens.getD i 0))) ∈ x_giv) &&
  (List.range (x_lens.getD i 0)).all (fun j => decide (Cond.eq (.elem (.field (x_tm0 i) "java/lang/String" "value" "[B") (.int (Int32.ofNat j))) (.int ((x_byts.getD i []).getD j 0)) ∈ x_giv)) &&
  (List.range 4).all (fun j => decide (i = j) || decide (Cond.not (Cond.eq (x_tm0 i) (x_tm0 j)) ∈ x_giv) || decide (Cond.not (Cond.eq (x_tm0 j) (x_tm0 i)) ∈ x_giv)) && decide (Cond.stringRef RX2 (x_sx i) (x_st i) ∈ lw_tbl)
set_option maxRecDepth 1000000 in
theorem x_gS_ok : (List.range 4).all x_gS = true := by decide +kernel
def x_gT (q : Nat × Nat × String × Nat × Nat × Nat × Nat × String) : Bool := decide (Cond.exactly (.string RX7 q.2.2.2.2.1) "java/lang/String" ∈ x_giv) && decide (Cond.stringRef RX7 q.2.2.2.2.1 q.2.2.2.2.2.2.2 ∈ lw_tbl)
set_option maxRecDepth 1000000 in
theorem x_gT_ok : x_ttab.all x_gT = true := by decide +kernel
set_option maxRecDepth 1000000 in
theorem x_gN_ok : x_ncs.all (fun q => decide (Cond.not (.castable q.1 q.2) ∈ x_giv)) = true := by decide +kernel
def x_gW : Bool := decide (Cond.laysStatic "java/lang/String" "COMPACT_STRINGS" "Z" ∈ lw_tbl) && decide (Cond.initialized "java/lang/String" ∈ lw_tbl) && decide (Cond.eq (.static "java/lang/String" "COMPACT_STRINGS" "Z") (.int 1) ∈ x_giv) &&
  decide (Cond.laysStatic "jdk/internal/util/Preconditions" "SIOOBE_FORMATTER" "Ljava/util/function/BiFunction;" ∈ lw_tbl) && decide (Cond.initialized "jdk/internal/util/Preconditions" ∈ lw_tbl) && decide (Cond.isRef (.static "jdk/internal/util/Preconditions" "SIOOBE_FORMATTER" "Ljava/util/function/BiFunction;") ∈ x_giv) &&
  decide (Cond.laysStatic Bundle.tN "UNASSIGNED_STACK" Bundle.steD ∈ lw_tbl) && decide (Cond.initialized Bundle.tN ∈ lw_tbl) && decide (Cond.isRef (.static Bundle.tN "UNASSIGNED_STACK" Bundle.steD) ∈ x_giv) &&
  decide (Cond.laysStatic Bundle.tN "SUPPRESSED_SENTINEL" Bundle.listD ∈ lw_tbl) && decide (Cond.isRef (.static Bundle.tN "SUPPRESSED_SENTINEL" Bundle.listD) ∈ x_giv)
set_option maxRecDepth 1000000 in
theorem x_gW_ok : x_gW = true := by decide +kernel
theorem x_startZ {p : Program} {s : State} {m : MethodId} {meth : Method} {c : Code} {b L : Nat} {xs : Nat → Int32} (C0 : lw_At p s m meth c b L xs) : ∃ (D : va_G) (cA : Nat → ClassId) (cb : Nat → Nat), cb 10000 = b ∧ x_Z D cA s.heap.size cb ((List.range L).map xs) s s.heap := by
  obtain ⟨hx, hb, hr, hml, hown, hts, hX, hbl, hlocks, hgv⟩ := C0
  obtain ⟨D, cA, hK⟩ := x_startK hts
  have hgs : ∀ w ∈ x_giv, w.before #[Value.ref b] s = true := flat_of_before _ hgv
  have hA : ∀ a : Nat, a < s.heap.size → ¬ x_Ab s.heap.size a := fun a ha => Nat.not_le.mpr ha
  have hg : ∀ i, i < 4 → x_gS i = true := fun i hi => List.all_eq_true.mp x_gS_ok i (List.mem_range.mpr hi)
  have hG : ∀ i, i < 4 → x_lens.getD i 0 < 2 ^ 31 ∧ Cond.exactly (x_tm0 i) "java/lang/String" ∈ x_giv ∧ Cond.eq (.field (x_tm0 i) "java/lang/String" "coder" "B") (.int 0) ∈ x_giv ∧ Cond.arrayOf (.field (x_tm0 i) "java/lang/String" "value" "[B") .byte ∈ x_giv ∧ Cond.eq (.length (.field (x_tm0 i) "java/lang/String" "value" "[B")) (.int (Int32.ofNat (x_lens.getD i 0))) ∈ x_giv ∧
      (∀ j, j < x_lens.getD i 0 → Cond.eq (.elem (.field (x_tm0 i) "java/lang/String" "value" "[B") (.int (Int32.ofNat j))) (.int ((x_byts.getD i []).getD j 0)) ∈ x_giv) ∧ (∀ j, j < 4 → i ≠ j → Cond.not (Cond.eq (x_tm0 i) (x_tm0 j)) ∈ x_giv ∨ Cond.not (Cond.eq (x_tm0 j) (x_tm0 i)) ∈ x_giv) ∧ Cond.stringRef RX2 (x_sx i) (x_st i) ∈ lw_tbl := by
    intro i hi
    have h := hg i hi
    unfold x_gS at h
    simp only [Bool.and_eq_true, decide_eq_true_eq] at h
    obtain ⟨⟨⟨⟨⟨⟨⟨h1, h2⟩, h3⟩, h4⟩, h5⟩, h6⟩, h7⟩, h8⟩ := h
    refine ⟨h1, h2, h3, h4, h5, fun j hj => of_decide_eq_true (List.all_eq_true.mp h6 j (List.mem_range.mpr hj)), fun j hj hne => ?_, h8⟩
    have h9 := List.all_eq_true.mp h7 j (List.mem_range.mpr hj)
    simp only [Bool.or_eq_true, decide_eq_true_eq] at h9
    rcases h9 with (h9 | h9) | h9
    · exact absurd h9 hne
    · exact Or.inl h9
    · exact Or.inr h9
  obtain ⟨adK, adV, hvS, hvE⟩ := vk_Sof (args := #[Value.ref b]) (s := s) (N := 4) (tm := x_tm0) (len := x_lens) (byt := x_byts) (A := x_Ab s.heap.size) (fun i hi => (hG i hi).1) (fun i hi => hgs _ (hG i hi).2.1) (fun i hi => hgs _ (hG i hi).2.2.1) (fun i hi => hgs _ (hG i hi).2.2.2.1) (fun i hi => hgs _ (hG i hi).2.2.2.2.1) (fun i hi j hj => hgs _ ((hG i hi).2.2.2.2.2.1 j hj))
    (fun i j hi hj hne => ((hG i hi).2.2.2.2.2.2.1 j hj hne).imp (hgs _) (hgs _)) hA
  have hW := x_gW_ok
  unfold x_gW at hW
  simp only [Bool.and_eq_true, decide_eq_true_eq] at hW
  obtain ⟨⟨⟨⟨⟨⟨⟨⟨⟨⟨u1, u2⟩, u3⟩, u4⟩, u5⟩, u6⟩, u7⟩, u8⟩, u9⟩, u10⟩, u11⟩ := hW
  have e20 : ∀ j : Nat, (fun k : Nat => if k = 10000 then b else adK (k - 20000)) (20000 + j) = adK j := by
    intro j
    dsimp only
    rw [if_neg (by omega), Nat.add_sub_cancel_left]
  refine ⟨D, cA, fun k => if k = 10000 then b else adK (k - 20000), if_pos rfl, hK, ⟨?_, ⟨adV, ?_⟩, ?_, ?_, ?_, ?_⟩, ⟨?_, ?_, ?_, ?_, ?_⟩, ?_, Nat.le_refl _⟩
  · obtain ⟨scr, h1, h2, h3, h4, h5⟩ := hX
    refine ⟨scr, h1, h2, h3, by rw [List.length_map, List.length_range]; exact h4, fun j hj => ?_⟩
    rw [List.length_map, List.length_range] at hj
    rw [h5 j hj]
    show some (Value.int (xs j)) = some (Value.int (((List.range L).map xs).getD j 0))
    rw [List.getD_eq_getElem?_getD, List.getElem?_map, List.getElem?_range hj]
    rfl
  · rw [show (fun j : Nat => (fun k : Nat => if k = 10000 then b else adK (k - 20000)) (20000 + j)) = adK from funext e20]
    exact hvS
  · exact va_Zof (hts _ u1) (hts _ u2) (va_eqt (hgs _ u3)) hA
  · exact va_Zqof (hts _ u4) (hts _ u5) (hgs _ u6) hA
  · exact vx_Zqof (hts _ u7) (hts _ u8) (hgs _ u9) hA
  · exact vx_Zqof (hts _ u10) (hts _ u8) (hgs _ u11) hA
  · intro j hj
    refine vk_R.of (hts _ (hG j hj).2.2.2.2.2.2.2) ?_
    rw [e20]
    exact hvE j hj
  · intro q hq
    have h := List.all_eq_true.mp x_gT_ok q hq
    unfold x_gT at h
    simp only [Bool.and_eq_true, decide_eq_true_eq] at h
    obtain ⟨a, c, cA, kA, q1, -⟩ := Cond.exactly_spec (hgs _ h.1)
    exact ⟨a, vk_R.of (hts _ h.2) q1⟩
  · exact fun w hw hn => va_Nw.of (x_nw_on hn) (hts w hw)
  · exact fun q hq => va_Nc.of (hgs _ (of_decide_eq_true (List.all_eq_true.mp x_gN_ok q hq)))
  · have h := x_arrw
    simp only [Bool.and_eq_true, decide_eq_true_eq] at h
    exact va_AO.of (hts _ h.2)
  · show (if 10000 = 10000 then b else _) < _
    rw [if_pos rfl]
    exact hbl
def x_h0 (L : Nat) (xs : Nat → Int32) : x_H := (fun k => if k = 10000 then .inl (0, (List.range L).map xs) else .inl (0, []), 0, 0, 0)
theorem x_law_cc : x_code 928 = code := rfl
theorem x_law_c : x_nl 928 = 10 ∧ x_cn (928 / 100) = "WireBoardLaw" ∧ x_ret 928 = ret ∧ x_hgt 928 + 6 ≤ 21 ∧ 100 * x_hgt 928 + 200 ≤ 10922 ∧ x_hs 928 = [] ∧ (x_y 928).name ≠ "<init>" := by decide +kernel
theorem x_start {p : Program} {e : Env} {s : State} {m : MethodId} {below : List Frame} {meth : Method} {c : Code} (l : Launch) (hflags : l.flags = flags0) {b L : Nat} {xs : Nat → Int32} (C0 : lw_At p s m meth c b L xs) {n : Nat} {h' : x_H} (hrun : x_exec n 928 0 (x_ent 928 [.ref 10000]) [] (x_h0 L xs) = some (.inl (some (.int 1)), h')) (hc9 : h'.2.2.1 ≤ 603072) (hs9 : h'.2.2.2 ≤ 7202922) :
    W p l e room_1 s m #[Value.ref b] below meth c s.heap [] 0 0 (lw_Z below #[Value.ref b] s) (entryFrame m ([Value.ref b] : List Value).toArray 10) := by
  obtain ⟨D, cA, cb, hcb, hZ⟩ := x_startZ C0
  obtain ⟨hx, hb, hr, hml, hown, hts, hX, hbl, hlocks, hgv⟩ := C0
  have k1 := x_law_cc
  obtain ⟨k2, k3, k4, k5, k6, k7, k8⟩ := x_law_c
  have hlt : l.stackTraces = false := by
    unfold Launch.stackTraces
    rw [hflags]
    decide +kernel
  obtain ⟨LS, hent, hlr⟩ := x_entry (ad := x_ad s.heap.size cb) (M := 928) (av := [Value.ref 10000]) rfl (by rw [k2]; decide) m
  have hav : [Value.ref 10000].map (x_mv (x_ad s.heap.size cb)) = [Value.ref b] := by
    show [Value.ref (x_ad s.heap.size cb 10000)] = _
    unfold x_ad
    rw [if_neg (by omega), hcb]
  rw [hav, k2] at hent
  rw [hent]
  refine x_sound n 928 0 _ [] (x_h0 L xs) _ h' hrun p l e room_1 s m #[Value.ref b] below meth c s.heap [] 0 0 _ D cA s.heap.size cb ((List.range L).map xs) LS hlt ⟨hx, by rw [k1]; exact hb, by rw [k2]; exact hml, by rw [k3]; exact hown, fun w hw _ => hts w hw, fun z => absurd z k8⟩ hZ (fun z => by rw [k7] at z; cases z) (by rw [k7]; exact ⟨rfl, rfl⟩) ⟨fun k hk => absurd hk (Nat.not_lt_zero k), fun _ => rfl, Nat.zero_le _, by unfold x_h0; dsimp only; rw [if_pos rfl]⟩ va_S.rf hlr k5 k6 (by show 0 + h'.2.2.1 ≤ 603072 + 0; omega) (by show 0 + h'.2.2.2 ≤ 7202922 + 0; omega) ?_ ?_ ?_
  · intro v pc' st' i len LS' H' locs' cells' slots' hrv hd hlen hret hP' hS' hc hs
    cases hrv
    have hc0 : cells' + 0 = 0 + h'.2.2.1 := hc
    have hs0 : slots' + 0 = 0 + h'.2.2.2 := hs
    rcases hret with ⟨x, ty, rfl, rfl, hv, -, -⟩ | ⟨a, -, -, hv, -⟩ | ⟨x, -, -, hv, -⟩ | ⟨x, -, -, hv, -⟩ | ⟨-, -, hv, -⟩
    · cases hv
      have h1 : len = 1 := hlen.elim id (fun z => by cases z)
      subst h1
      rw [k1] at hd
      refine va_forget (fun q hq => hS'.2.2 q hq) (W.widen (k := 603072) (n := 7202922) (by omega) (by omega) ?_)
      exact lw_ret (d0 := s.drawn) (Drawn.sameBut.refl s.drawn lw_cs) hx hb hr hlocks hd
    · cases hv
    · cases hv
    · cases hv
    · cases hv
  · intro E pc' st' h1 LS' H' locs' cells' slots' hr1
    cases hr1
  · intro E pc' q rest ce LS' H' locs' cells' slots' hr1
    cases hr1
