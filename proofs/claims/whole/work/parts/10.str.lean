theorem x_gw_of {args : Array Value} {s : State} {cw : Cond} (h : ∀ w ∈ cw :: x_GW, w.before args s = true) : x_gw args s := fun w hw hg => h w (List.mem_cons_of_mem _ (List.mem_filter.mpr ⟨hw, hg⟩))
theorem x_goodIn {ws : List Cond} (h : ws.all (fun w => decide (w ∈ lw_tbl) && goodWord w) = true) : ∀ w ∈ ws, w ∈ x_GW := by
  intro w hw
  have h3 := List.all_eq_true.mp h w hw
  simp only [Bool.and_eq_true, decide_eq_true_eq] at h3
  exact List.mem_filter.mpr h3
theorem x_GoodIn {ws : List Cond} (h : ∀ w ∈ ws, w ∈ x_GW) : GoodIn x_GW ws := fun w hw => ⟨h w hw, good_of_word (List.mem_filter.mp (h w hw)).2⟩
theorem x_GoodInC {cw : Cond} {pre : List Cond} (h : (cw :: pre).all (fun w => decide (w ∈ lw_tbl) && goodWord w) = true) : GoodIn x_GW (pre ++ (cw :: x_GW)) := by
  refine x_GoodIn fun w hw => ?_
  rcases List.mem_append.mp hw with h1 | h1
  · exact x_goodIn h w (List.mem_cons_of_mem _ h1)
  · rcases List.mem_cons.mp h1 with rfl | h2
    · exact x_goodIn h w List.mem_cons_self
    · exact h2
theorem x_blind {D : va_G} {cA : Nat → ClassId} {base : Nat} {cb : Nat → Nat} {xs : List Int32} {av : List Value} : FrameBlind (va_Pc av (fun U => x_Z D cA base cb xs U U.heap)) := fun a U g mk q => ⟨q.1, x_Z_same q.2 rfl⟩
theorem x_Z_U {D : va_G} {cA : Nat → ClassId} {base : Nat} {cb : Nat → Nat} {xs : List Int32} {s U : State} {H : Heap} (hZ : x_Z D cA base cb xs s H) (hU : U.heap = H) (hW : s.WarmedH U.vm) : x_Z D cA base cb xs U U.heap := by
  rw [hU]
  exact x_Z_next hZ hW (Nat.le_refl _) (fun _ _ _ => rfl)
section XST
variable {D : va_G} {cA : Nat → ClassId} {base : Nat} {cb : Nat → Nat} {xs : List Int32}
set_option maxRecDepth 100000 in
set_option maxHeartbeats 4000000 in
theorem xc_J3_checkIndex (l : Launch) (i n : Int32) (v : Value) (hv : v = .null ∨ ∃ t, v = .ref t) (h0 : ¬ i < 0) (h1 : i < n) : Met l yJ3_checkIndex_8e157 (.code yJ3_checkIndex_8e157 cJ3_checkIndex_8e157 3 (some .int) :: x_GW) ({ frames := 0, cells := 0, slots := 0, locals := 0 }) (va_Pc [.int i, .int n, v] (fun _ => True)) (vp_Si (fun _ => True)) 0 0 (fun _ => False) := by
  refine Met.ofW (cc := cJ3_checkIndex_8e157) (maxL := 3) (ret := some .int) (by decide) rfl ?_
  intro p e s m args below meth c s₁ B hml hv1
  obtain ⟨rfl, -⟩ := hv1
  have hx := B.exec
  have hb := B.bytes
  have hr := B.returns
  have hlocks := B.notSynchronized
  rcases hv with rfl | ⟨t, rfl⟩
  · have hl := lv_entry ([.int i, .int n, .null]) (n := 3) (Nat.le_of_ble_eq_true rfl)
    rw [lg_entry_eq]
    generalize (lg_sl ([.int i, .int n, .null]) ++ List.replicate (3 - (lg_sl ([.int i, .int n, .null])).length) Slot.unset).toArray = ls at hl ⊢
    have hl : lv_has ls 3 [(0, .int i), (1, .int n), (2, .null)] := hl
    refine lv_iload_n hx hb dJ3_checkIndex_8e157_0 rfl (lv_at hl 0 rfl) ?_
    refine lv_if_lt hx hb dJ3_checkIndex_8e157_1 (tgt := 9) rfl (fun h => absurd h h0) (fun _ => ?_)
    refine lv_iload_n hx hb dJ3_checkIndex_8e157_4 rfl (lv_at hl 0 rfl) ?_
    refine lv_iload_n hx hb dJ3_checkIndex_8e157_5 rfl (lv_at hl 1 rfl) ?_
    refine lv_icmp_lt hx hb dJ3_checkIndex_8e157_6 (tgt := 16) rfl (fun _ => ?_) (fun h => absurd h1 h)
    refine lv_iload_n hx hb dJ3_checkIndex_8e157_16 rfl (lv_at hl 0 rfl) ?_
    exact W.iret hx hb hr (fun t ht hW => ⟨i, rfl, trivial, ht⟩) (fun q hq => by cases hq) dJ3_checkIndex_8e157_17
  · have hl := lv_entry ([.int i, .int n, .ref t]) (n := 3) (Nat.le_of_ble_eq_true rfl)
    rw [lg_entry_eq]
    generalize (lg_sl ([.int i, .int n, .ref t]) ++ List.replicate (3 - (lg_sl ([.int i, .int n, .ref t])).length) Slot.unset).toArray = ls at hl ⊢
    have hl : lv_has ls 3 [(0, .int i), (1, .int n), (2, .ref t)] := hl
    refine lv_iload_n hx hb dJ3_checkIndex_8e157_0 rfl (lv_at hl 0 rfl) ?_
    refine lv_if_lt hx hb dJ3_checkIndex_8e157_1 (tgt := 9) rfl (fun h => absurd h h0) (fun _ => ?_)
    refine lv_iload_n hx hb dJ3_checkIndex_8e157_4 rfl (lv_at hl 0 rfl) ?_
    refine lv_iload_n hx hb dJ3_checkIndex_8e157_5 rfl (lv_at hl 1 rfl) ?_
    refine lv_icmp_lt hx hb dJ3_checkIndex_8e157_6 (tgt := 16) rfl (fun _ => ?_) (fun h => absurd h1 h)
    refine lv_iload_n hx hb dJ3_checkIndex_8e157_16 rfl (lv_at hl 0 rfl) ?_
    exact W.iret hx hb hr (fun t ht hW => ⟨i, rfl, trivial, ht⟩) (fun q hq => by cases hq) dJ3_checkIndex_8e157_17
theorem xg_chk : GoodIn x_GW (va_wsS RJ0 1059 yJ3_checkIndex_8e157 (.code yJ3_checkIndex_8e157 cJ3_checkIndex_8e157 3 (some .int) :: x_GW)) := x_GoodInC (pre := [.methodLink RJ0 1059 yJ3_checkIndex_8e157, .static yJ3_checkIndex_8e157, .initialized yJ3_checkIndex_8e157.cls]) (by decide +kernel)
theorem xg_cat : GoodIn x_GW (va_wsS RJ1 9 yJ0_checkIndex_df160 (.code yJ0_checkIndex_df160 cJ0_checkIndex_df160 2 none :: x_GW)) := x_GoodInC (pre := [.methodLink RJ1 9 yJ0_checkIndex_df160, .static yJ0_checkIndex_df160, .initialized yJ0_checkIndex_df160.cls]) (by decide +kernel)
theorem xg_cha : GoodIn x_GW (va_wsS RJ0 495 yJ1_charAt_3b067 (.code yJ1_charAt_3b067 cJ1_charAt_3b067 2 (some .char) :: x_GW)) := x_GoodInC (pre := [.methodLink RJ0 495 yJ1_charAt_3b067, .static yJ1_charAt_3b067, .initialized yJ1_charAt_3b067.cls]) (by decide +kernel)
theorem xg_lat : GoodIn x_GW (wsV RJ0 492 RJ0 yJ0_isLatin1_aae02 (.code yJ0_isLatin1_aae02 cJ0_isLatin1_aae02 1 (some .boolean) :: x_GW)) := x_GoodInC (pre := [.methodLink RJ0 492 yJ0_isLatin1_aae02, .instanceMethod yJ0_isLatin1_aae02, .selects RJ0 yJ0_isLatin1_aae02 yJ0_isLatin1_aae02, .initialized RJ0]) (by decide +kernel)
theorem xg_cod : GoodIn x_GW (wsV RJ0 335 RJ0 yJ0_coder_7d493 (.code yJ0_coder_7d493 cJ0_coder_7d493 1 (some .byte) :: x_GW)) := x_GoodInC (pre := [.methodLink RJ0 335 yJ0_coder_7d493, .instanceMethod yJ0_coder_7d493, .selects RJ0 yJ0_coder_7d493 yJ0_coder_7d493, .initialized RJ0]) (by decide +kernel)
theorem xw_flds : (Cond.fieldLink RJ0 1053 "jdk/internal/util/Preconditions" "SIOOBE_FORMATTER" "Ljava/util/function/BiFunction;" ∈ lw_tbl ∧ Cond.fieldLink RJ0 38 "java/lang/String" "COMPACT_STRINGS" "Z" ∈ lw_tbl) ∧ Cond.fieldLink RJ0 15 "java/lang/String" "coder" "B" ∈ lw_tbl ∧ Cond.fieldLink RJ0 9 "java/lang/String" "value" "[B" ∈ lw_tbl := by decide +kernel
set_option maxRecDepth 100000 in
set_option maxHeartbeats 4000000 in
theorem xc_J0_checkIndex (l : Launch) (i n : Int32) (h0 : ¬ i < 0) (h1 : i < n) : Met l yJ0_checkIndex_df160 (.code yJ0_checkIndex_df160 cJ0_checkIndex_df160 2 none :: x_GW) ({ frames := 1, cells := 0, slots := 0, locals := 22 }) (va_Pc [.int i, .int n] (fun U => x_Z D cA base cb xs U U.heap)) (va_Sv (fun _ => True)) 0 0 (fun _ => False) := by
  refine Met.ofW (cc := cJ0_checkIndex_df160) (maxL := 2) (ret := none) (by decide) rfl ?_
  intro p e s m args below meth c s₁ B hml hv1
  obtain ⟨rfl, hZ⟩ := hv1
  have hx := B.exec
  have hb := B.bytes
  have hr := B.returns
  have hlocks := B.notSynchronized
  have hg := x_gw_of (atoms_spec (ws := .code yJ0_checkIndex_df160 cJ0_checkIndex_df160 2 none :: x_GW) B.pre)
  have hown : s.vm.findClass RJ0 = some m.cls := findClass_of_methodNamed B.named
  have hl := lv_entry ([.int i, .int n]) (n := 2) (Nat.le_of_ble_eq_true rfl)
  rw [lg_entry_eq]
  generalize (lg_sl ([.int i, .int n]) ++ List.replicate (2 - (lg_sl ([.int i, .int n])).length) Slot.unset).toArray = ls at hl ⊢
  have hl : lv_has ls 2 [(0, .int i), (1, .int n)] := hl
  refine lv_iload_n hx hb dJ0_checkIndex_df160_0 rfl (lv_at hl 0 rfl) ?_
  refine lv_iload_n hx hb dJ0_checkIndex_df160_1 rfl (lv_at hl 1 rfl) ?_
  have go : ∀ v : Value, (v = .null ∨ ∃ t, v = .ref t) → W p l e (headSpec (.code yJ0_checkIndex_df160 cJ0_checkIndex_df160 2 none :: x_GW) { frames := 1, cells := 0, slots := 0, locals := 22 }).room s m ([Value.int i, .int n] : List Value).toArray below meth c s.heap [] 0 0 (MQ below (va_Sv (fun _ => True)) ([Value.int i, .int n] : List Value).toArray s 0 0 (fun _ => False)) (F0 m 5 ls [v, .int n, .int i]) := by
    intro v hv
    refine vp_callSi (W.runS (As := [.int i, .int n, v]) (rest := []) ⟨hx, hb, hml, hown, x_GW_of hg⟩ (xc_J3_checkIndex l i n v hv h0 h1) (va_cwS 3 (x_GW_of hg) xg_chk rfl rfl rfl (by decide +kernel) ⟨Nat.le_of_ble_eq_true rfl, Nat.le_of_ble_eq_true rfl⟩) ⟨fun a U g mk q => q, fun U hU hW => ⟨rfl, trivial⟩⟩ rfl rfl hl.1 rfl (lv_room (Nat.le_of_ble_eq_true rfl)) dJ0_checkIndex_df160_5 ⟨Nat.zero_le _, Nat.zero_le _⟩) (fun r _ => ?_)
    refine lv_pop hx hb dJ0_checkIndex_df160_8 rfl ?_
    exact W.vret hx hb hr (fun t ht hW => ⟨rfl, trivial, ht⟩) (fun q hq => by cases hq) dJ0_checkIndex_df160_9
  obtain ⟨-, ⟨-, -, -, hZq, -⟩, -⟩ := hZ
  rcases hZq with hZ1 | ⟨t, hZ1⟩
  · exact va_gets hx hb hZ1 va_S.rf hown (hg _ xw_flds.1.1 rfl) (fun _ h => h) dJ0_checkIndex_df160_2 (go _ (Or.inl rfl))
  · exact va_gets hx hb hZ1 va_S.rf hown (hg _ xw_flds.1.1 rfl) (fun _ h => h) dJ0_checkIndex_df160_2 (go _ (Or.inr ⟨t, rfl⟩))
set_option maxRecDepth 100000 in
set_option maxHeartbeats 4000000 in
theorem xc_J1_charAt (l : Launch) (i : Int32) (t N : Nat) (f : Nat → Int32) (hN : N < 2 ^ 31) (h0 : ¬ i < 0) (h1 : i.toNatClampNeg < N) : Met l yJ1_charAt_3b067 (.code yJ1_charAt_3b067 cJ1_charAt_3b067 2 (some .char) :: x_GW) ({ frames := 2, cells := 0, slots := 0, locals := 43 }) (va_Pc [.ref t, .int i] (fun U => x_Z D cA base cb xs U U.heap ∧ va_T .byte t N (fun j => .int (f j)) (x_Ab base) U U.heap)) (vp_Si (fun r => r = ((f i.toNatClampNeg &&& 255).toUInt32 % 65536).toInt32)) 0 0 (fun _ => False) := by
  refine Met.ofW (cc := cJ1_charAt_3b067) (maxL := 2) (ret := some .char) (by decide) rfl ?_
  intro p e s m args below meth c s₁ B hml hv1
  obtain ⟨rfl, hZ, cell, hc1, hc2, hc3, hc4, hc5, hc6, hc7⟩ := hv1
  have hx := B.exec
  have hb := B.bytes
  have hr := B.returns
  have hlocks := B.notSynchronized
  have hg := x_gw_of (atoms_spec (ws := .code yJ1_charAt_3b067 cJ1_charAt_3b067 2 (some .char) :: x_GW) B.pre)
  have hown : s.vm.findClass RJ1 = some m.cls := findClass_of_methodNamed B.named
  have hl := lv_entry ([.ref t, .int i]) (n := 2) (Nat.le_of_ble_eq_true rfl)
  rw [lg_entry_eq]
  generalize (lg_sl ([.ref t, .int i]) ++ List.replicate (2 - (lg_sl ([.ref t, .int i])).length) Slot.unset).toArray = ls at hl ⊢
  have hl : lv_has ls 2 [(0, .ref t), (1, .int i)] := hl
  have hlt : i < Int32.ofNat N := by
    have hz0 : (0 : Int) ≤ i.toInt := by
      have := Int32.not_lt.mp h0
      simpa using Int32.le_iff_toInt_le.mp this
    have hi : i.toInt = (i.toNatClampNeg : Int) := by
      show i.toInt = ((i.toInt.toNat : Nat) : Int)
      omega
    have hNi : (Int32.ofNat N).toInt = (N : Int) := Int32.toInt_ofNat_of_lt hN
    refine Int32.lt_iff_toInt_lt.mpr ?_
    rw [hi, hNi]
    omega
  refine lv_iload_n hx hb dJ1_charAt_3b067_0 rfl (lv_at hl 1 rfl) ?_
  refine lv_aload_n hx hb dJ1_charAt_3b067_1 rfl (lv_at hl 0 rfl) ?_
  refine W.alen hx hb hc1 hc2 hc5 rfl rfl dJ1_charAt_3b067_2 ?_
  refine va_csv (W.runS (As := [.int i, .int (Int32.ofNat N)]) (rest := []) ⟨hx, hb, hml, hown, x_GW_of hg⟩ (xc_J0_checkIndex (D := D) (cA := cA) (base := base) (cb := cb) (xs := xs) l i (Int32.ofNat N) h0 hlt) (va_cwS 2 (x_GW_of hg) xg_cat rfl rfl rfl (by decide +kernel) ⟨Nat.le_of_ble_eq_true rfl, Nat.le_of_ble_eq_true rfl⟩) ⟨x_blind, fun U hU hW => ⟨rfl, x_Z_U hZ hU hW⟩⟩ rfl rfl hl.1 rfl (lv_room (Nat.le_of_ble_eq_true rfl)) dJ1_charAt_3b067_3 ⟨Nat.zero_le _, Nat.zero_le _⟩) (fun _ => ?_)
  refine lv_aload_n hx hb dJ1_charAt_3b067_6 rfl (lv_at hl 0 rfl) ?_
  refine lv_iload_n hx hb dJ1_charAt_3b067_7 rfl (lv_at hl 1 rfl) ?_
  refine W.bald hx hb hc1 hc2 hc3 (fun z => z.elim h0 (Nat.not_le.mpr (Nat.lt_of_lt_of_le h1 hc4))) (hc6 _ h1) rfl rfl dJ1_charAt_3b067_8 ?_
  refine lv_sipush (v := 255) hx hb dJ1_charAt_3b067_9 (by decide) ?_
  refine lv_iand hx hb dJ1_charAt_3b067_12 ?_
  refine lv_i2c hx hb dJ1_charAt_3b067_13 rfl ?_
  exact W.zret hx hb hr (pk_nc _) (fun t ht hW => ⟨_, rfl, rfl, ht⟩) (fun q hq => by cases hq) dJ1_charAt_3b067_14
theorem x_str_facts {s : State} {H : Heap} (hZ : x_Z D cA base cb xs s H) {j : Nat} (hj : j < 4) : ∃ v : Nat, va_O "java/lang/String" (cb (20000 + j)) (x_Ab base) s H ∧ va_OF "java/lang/String" "coder" "B" (.int 0) (cb (20000 + j)) (x_Ab base) s H ∧ va_OF "java/lang/String" "value" "[B" (.ref v) (cb (20000 + j)) (x_Ab base) s H ∧ va_T .byte v (x_chs j).length (fun i => .int ((x_chs j).getD i 0)) (x_Ab base) s H := by
  obtain ⟨-, ⟨-, ⟨adV, hS, -⟩, -⟩, -⟩ := hZ
  obtain ⟨h1, h2, h3, h4⟩ := hS j hj
  refine ⟨adV j, h1, h2, h3, ?_⟩
  rcases (show j = 0 ∨ j = 1 ∨ j = 2 ∨ j = 3 by omega) with rfl | rfl | rfl | rfl <;> exact h4
set_option maxRecDepth 100000 in
set_option maxHeartbeats 4000000 in
theorem xc_J0_isLatin1 (l : Launch) (j : Nat) (hj : j < 4) : Met l yJ0_isLatin1_aae02 (.code yJ0_isLatin1_aae02 cJ0_isLatin1_aae02 1 (some .boolean) :: x_GW) ({ frames := 0, cells := 0, slots := 0, locals := 0 }) (va_Pc [.ref (cb (20000 + j))] (fun U => x_Z D cA base cb xs U U.heap)) (vp_Si (fun r => r = 1)) 0 0 (fun _ => False) := by
  refine Met.ofW (cc := cJ0_isLatin1_aae02) (maxL := 1) (ret := some .boolean) (by decide) rfl ?_
  intro p e s m args below meth c s₁ B hml hv1
  obtain ⟨rfl, hZ⟩ := hv1
  have hx := B.exec
  have hb := B.bytes
  have hr := B.returns
  have hlocks := B.notSynchronized
  have hg := x_gw_of (atoms_spec (ws := .code yJ0_isLatin1_aae02 cJ0_isLatin1_aae02 1 (some .boolean) :: x_GW) B.pre)
  have hown : s.vm.findClass RJ0 = some m.cls := findClass_of_methodNamed B.named
  have hl := lv_entry ([.ref (cb (20000 + j))]) (n := 1) (Nat.le_of_ble_eq_true rfl)
  rw [lg_entry_eq]
  generalize (lg_sl ([.ref (cb (20000 + j))]) ++ List.replicate (1 - (lg_sl ([.ref (cb (20000 + j))])).length) Slot.unset).toArray = ls at hl ⊢
  have hl : lv_has ls 1 [(0, .ref (cb (20000 + j)))] := hl
  obtain ⟨v, -, h2, -, -⟩ := x_str_facts hZ hj
  refine va_gets hx hb hZ.2.1.2.2.1 va_S.rf hown (hg _ xw_flds.1.2 rfl) (fun _ h => h) dJ0_isLatin1_aae02_0 ?_
  refine lv_if_eq hx hb dJ0_isLatin1_aae02_3 (tgt := 17) rfl (fun h => absurd h (by decide)) (fun _ => ?_)
  refine lv_aload_n hx hb dJ0_isLatin1_aae02_6 rfl (lv_at hl 0 rfl) ?_
  refine vk_getf hx hb h2 va_S.rf hown (hg _ xw_flds.2.1 rfl) (fun _ h => h) dJ0_isLatin1_aae02_7 ?_
  refine lv_if_ne hx hb dJ0_isLatin1_aae02_10 (tgt := 17) rfl (fun h => absurd rfl h) (fun _ => ?_)
  refine lv_iconst (v := 1) hx hb dJ0_isLatin1_aae02_13 (by decide) ?_
  refine lv_goto hx hb dJ0_isLatin1_aae02_14 (tgt := 18) rfl ?_
  exact W.zret hx hb hr (by decide) (fun t ht hW => ⟨_, rfl, rfl, ht⟩) (fun q hq => by cases hq) dJ0_isLatin1_aae02_18
set_option maxRecDepth 100000 in
set_option maxHeartbeats 4000000 in
theorem xc_J0_coder (l : Launch) (j : Nat) (hj : j < 4) : Met l yJ0_coder_7d493 (.code yJ0_coder_7d493 cJ0_coder_7d493 1 (some .byte) :: x_GW) ({ frames := 0, cells := 0, slots := 0, locals := 0 }) (va_Pc [.ref (cb (20000 + j))] (fun U => x_Z D cA base cb xs U U.heap)) (vp_Si (fun r => r = 0)) 0 0 (fun _ => False) := by
  refine Met.ofW (cc := cJ0_coder_7d493) (maxL := 1) (ret := some .byte) (by decide) rfl ?_
  intro p e s m args below meth c s₁ B hml hv1
  obtain ⟨rfl, hZ⟩ := hv1
  have hx := B.exec
  have hb := B.bytes
  have hr := B.returns
  have hlocks := B.notSynchronized
  have hg := x_gw_of (atoms_spec (ws := .code yJ0_coder_7d493 cJ0_coder_7d493 1 (some .byte) :: x_GW) B.pre)
  have hown : s.vm.findClass RJ0 = some m.cls := findClass_of_methodNamed B.named
  have hl := lv_entry ([.ref (cb (20000 + j))]) (n := 1) (Nat.le_of_ble_eq_true rfl)
  rw [lg_entry_eq]
  generalize (lg_sl ([.ref (cb (20000 + j))]) ++ List.replicate (1 - (lg_sl ([.ref (cb (20000 + j))])).length) Slot.unset).toArray = ls at hl ⊢
  have hl : lv_has ls 1 [(0, .ref (cb (20000 + j)))] := hl
  obtain ⟨v, -, h2, -, -⟩ := x_str_facts hZ hj
  refine va_gets hx hb hZ.2.1.2.2.1 va_S.rf hown (hg _ xw_flds.1.2 rfl) (fun _ h => h) dJ0_coder_7d493_0 ?_
  refine lv_if_eq hx hb dJ0_coder_7d493_3 (tgt := 13) rfl (fun h => absurd h (by decide)) (fun _ => ?_)
  refine lv_aload_n hx hb dJ0_coder_7d493_6 rfl (lv_at hl 0 rfl) ?_
  refine vk_getf hx hb h2 va_S.rf hown (hg _ xw_flds.2.1 rfl) (fun _ h => h) dJ0_coder_7d493_7 ?_
  refine lv_goto hx hb dJ0_coder_7d493_10 (tgt := 14) rfl ?_
  exact W.zret hx hb hr (by decide) (fun t ht hW => ⟨_, rfl, rfl, ht⟩) (fun q hq => by cases hq) dJ0_coder_7d493_14
set_option maxRecDepth 100000 in
set_option maxHeartbeats 4000000 in
theorem xc_J0_length (l : Launch) (j : Nat) (hj : j < 4) : Met l yJ0_length_8abf5 (.code yJ0_length_8abf5 cJ0_length_8abf5 1 (some .int) :: x_GW) ({ frames := 1, cells := 0, slots := 0, locals := 20 }) (va_Pc [.ref (cb (20000 + j))] (fun U => x_Z D cA base cb xs U U.heap)) (vp_Si (fun r => r = Int32.ofNat (x_chs j).length)) 0 0 (fun _ => False) := by
  refine Met.ofW (cc := cJ0_length_8abf5) (maxL := 1) (ret := some .int) (by decide) rfl ?_
  intro p e s m args below meth c s₁ B hml hv1
  obtain ⟨rfl, hZ⟩ := hv1
  have hx := B.exec
  have hb := B.bytes
  have hr := B.returns
  have hlocks := B.notSynchronized
  have hg := x_gw_of (atoms_spec (ws := .code yJ0_length_8abf5 cJ0_length_8abf5 1 (some .int) :: x_GW) B.pre)
  have hown : s.vm.findClass RJ0 = some m.cls := findClass_of_methodNamed B.named
  have hl := lv_entry ([.ref (cb (20000 + j))]) (n := 1) (Nat.le_of_ble_eq_true rfl)
  rw [lg_entry_eq]
  generalize (lg_sl ([.ref (cb (20000 + j))]) ++ List.replicate (1 - (lg_sl ([.ref (cb (20000 + j))])).length) Slot.unset).toArray = ls at hl ⊢
  have hl : lv_has ls 1 [(0, .ref (cb (20000 + j)))] := hl
  obtain ⟨v, ⟨cO, hO1, hO2, hO3, -⟩, -, h3, ⟨cell, hc1, hc2, hc3, hc4, hc5, -⟩⟩ := x_str_facts hZ hj
  refine lv_aload_n hx hb dJ0_length_8abf5_0 rfl (lv_at hl 0 rfl) ?_
  refine vk_getf hx hb h3 va_S.rf hown (hg _ xw_flds.2.2 rfl) (fun _ h => h) dJ0_length_8abf5_1 ?_
  refine W.alen hx hb hc1 hc2 hc5 rfl rfl dJ0_length_8abf5_4 ?_
  refine lv_aload_n hx hb dJ0_length_8abf5_5 rfl (lv_at hl 0 rfl) ?_
  refine vp_callSi (W.runV (As := []) (rest := [.int (Int32.ofNat (x_chs j).length)]) ⟨hx, hb, hml, hown, x_GW_of hg⟩ (xc_J0_coder (D := D) (cA := cA) (base := base) (cb := cb) (xs := xs) l j hj) (cwV 0 (x_GW_of hg) xg_cod rfl rfl rfl (by decide +kernel) ⟨Nat.le_of_ble_eq_true rfl, Nat.le_of_ble_eq_true rfl⟩) ⟨x_blind, ⟨cO, hO1, hO2, hO3⟩, fun U hU hW => ⟨rfl, x_Z_U hZ hU hW⟩⟩ rfl rfl hl.1 rfl (lv_room (Nat.le_of_ble_eq_true rfl)) dJ0_length_8abf5_6 ⟨Nat.zero_le _, Nat.zero_le _⟩) (fun r hr0 => ?_)
  subst hr0
  refine lv_ishr hx hb dJ0_length_8abf5_9 ?_
  refine W.iret hx hb hr (fun t ht hW => ⟨_, rfl, ?_, ht⟩) (fun q hq => by cases hq) dJ0_length_8abf5_10
  rcases (show j = 0 ∨ j = 1 ∨ j = 2 ∨ j = 3 by omega) with rfl | rfl | rfl | rfl <;> decide +kernel
set_option maxRecDepth 100000 in
set_option maxHeartbeats 4000000 in
theorem xc_J0_isEmpty (l : Launch) (j : Nat) (hj : j < 4) : Met l yJ0_isEmpty_aae02 (.code yJ0_isEmpty_aae02 cJ0_isEmpty_aae02 1 (some .boolean) :: x_GW) ({ frames := 0, cells := 0, slots := 0, locals := 0 }) (va_Pc [.ref (cb (20000 + j))] (fun U => x_Z D cA base cb xs U U.heap)) (vp_Si (fun r => r = if (x_chs j).length = 0 then 1 else 0)) 0 0 (fun _ => False) := by
  refine Met.ofW (cc := cJ0_isEmpty_aae02) (maxL := 1) (ret := some .boolean) (by decide) rfl ?_
  intro p e s m args below meth c s₁ B hml hv1
  obtain ⟨rfl, hZ⟩ := hv1
  have hx := B.exec
  have hb := B.bytes
  have hr := B.returns
  have hlocks := B.notSynchronized
  have hg := x_gw_of (atoms_spec (ws := .code yJ0_isEmpty_aae02 cJ0_isEmpty_aae02 1 (some .boolean) :: x_GW) B.pre)
  have hown : s.vm.findClass RJ0 = some m.cls := findClass_of_methodNamed B.named
  have hl := lv_entry ([.ref (cb (20000 + j))]) (n := 1) (Nat.le_of_ble_eq_true rfl)
  rw [lg_entry_eq]
  generalize (lg_sl ([.ref (cb (20000 + j))]) ++ List.replicate (1 - (lg_sl ([.ref (cb (20000 + j))])).length) Slot.unset).toArray = ls at hl ⊢
  have hl : lv_has ls 1 [(0, .ref (cb (20000 + j)))] := hl
  obtain ⟨v, -, -, h3, ⟨cell, hc1, hc2, hc3, hc4, hc5, -⟩⟩ := x_str_facts hZ hj
  have hz : Int32.ofNat (x_chs j).length = 0 ↔ (x_chs j).length = 0 := by
    rcases (show j = 0 ∨ j = 1 ∨ j = 2 ∨ j = 3 by omega) with rfl | rfl | rfl | rfl <;> decide +kernel
  refine lv_aload_n hx hb dJ0_isEmpty_aae02_0 rfl (lv_at hl 0 rfl) ?_
  refine vk_getf hx hb h3 va_S.rf hown (hg _ xw_flds.2.2 rfl) (fun _ h => h) dJ0_isEmpty_aae02_1 ?_
  refine W.alen hx hb hc1 hc2 hc5 rfl rfl dJ0_isEmpty_aae02_4 ?_
  refine lv_if_ne hx hb dJ0_isEmpty_aae02_5 (tgt := 12) rfl (fun h => ?_) (fun h => ?_)
  · refine lv_iconst (v := 0) hx hb dJ0_isEmpty_aae02_12 (by decide) ?_
    exact W.zret hx hb hr (by decide) (fun t ht hW => ⟨_, rfl, by rw [if_neg (fun z => h (hz.mpr z))], ht⟩) (fun q hq => by cases hq) dJ0_isEmpty_aae02_13
  · refine lv_iconst (v := 1) hx hb dJ0_isEmpty_aae02_8 (by decide) ?_
    refine lv_goto hx hb dJ0_isEmpty_aae02_9 (tgt := 13) rfl ?_
    exact W.zret hx hb hr (by decide) (fun t ht hW => ⟨_, rfl, by rw [if_pos (hz.mp h)], ht⟩) (fun q hq => by cases hq) dJ0_isEmpty_aae02_13
set_option maxRecDepth 100000 in
set_option maxHeartbeats 4000000 in
theorem xc_J0_charAt (l : Launch) (j : Nat) (hj : j < 4) (i x : Int32) (hi : x_at i (x_chs j) = some x) : Met l yJ0_charAt_5068e (.code yJ0_charAt_5068e cJ0_charAt_5068e 2 (some .char) :: x_GW) ({ frames := 3, cells := 0, slots := 0, locals := 64 }) (va_Pc [.ref (cb (20000 + j)), .int i] (fun U => x_Z D cA base cb xs U U.heap)) (vp_Si (fun r => r = x)) 0 0 (fun _ => False) := by
  refine Met.ofW (cc := cJ0_charAt_5068e) (maxL := 2) (ret := some .char) (by decide) rfl ?_
  intro p e s m args below meth c s₁ B hml hv1
  obtain ⟨rfl, hZ⟩ := hv1
  have hx := B.exec
  have hb := B.bytes
  have hr := B.returns
  have hlocks := B.notSynchronized
  have hg := x_gw_of (atoms_spec (ws := .code yJ0_charAt_5068e cJ0_charAt_5068e 2 (some .char) :: x_GW) B.pre)
  have hown : s.vm.findClass RJ0 = some m.cls := findClass_of_methodNamed B.named
  have hl := lv_entry ([.ref (cb (20000 + j)), .int i]) (n := 2) (Nat.le_of_ble_eq_true rfl)
  rw [lg_entry_eq]
  generalize (lg_sl ([.ref (cb (20000 + j)), .int i]) ++ List.replicate (2 - (lg_sl ([.ref (cb (20000 + j)), .int i])).length) Slot.unset).toArray = ls at hl ⊢
  have hl : lv_has ls 2 [(0, .ref (cb (20000 + j))), (1, .int i)] := hl
  obtain ⟨v, ⟨cO, hO1, hO2, hO3, -⟩, -, h3, hT⟩ := x_str_facts hZ hj
  obtain ⟨g1, g2, g3⟩ := x_rd hi
  refine lv_aload_n hx hb dJ0_charAt_5068e_0 rfl (lv_at hl 0 rfl) ?_
  refine vp_callSi (W.runV (As := []) (rest := []) ⟨hx, hb, hml, hown, x_GW_of hg⟩ (xc_J0_isLatin1 (D := D) (cA := cA) (base := base) (cb := cb) (xs := xs) l j hj) (cwV 0 (x_GW_of hg) xg_lat rfl rfl rfl (by decide +kernel) ⟨Nat.le_of_ble_eq_true rfl, Nat.le_of_ble_eq_true rfl⟩) ⟨x_blind, ⟨cO, hO1, hO2, hO3⟩, fun U hU hW => ⟨rfl, x_Z_U hZ hU hW⟩⟩ rfl rfl hl.1 rfl (lv_room (Nat.le_of_ble_eq_true rfl)) dJ0_charAt_5068e_1 ⟨Nat.zero_le _, Nat.zero_le _⟩) (fun r hr0 => ?_)
  subst hr0
  refine lv_if_eq hx hb dJ0_charAt_5068e_4 (tgt := 16) rfl (fun h => absurd h (by decide)) (fun _ => ?_)
  refine lv_aload_n hx hb dJ0_charAt_5068e_7 rfl (lv_at hl 0 rfl) ?_
  refine vk_getf hx hb h3 va_S.rf hown (hg _ xw_flds.2.2 rfl) (fun _ h => h) dJ0_charAt_5068e_8 ?_
  refine lv_iload_n hx hb dJ0_charAt_5068e_11 rfl (lv_at hl 1 rfl) ?_
  refine vp_callSi (W.runS (As := [.ref v, .int i]) (rest := []) ⟨hx, hb, hml, hown, x_GW_of hg⟩ (xc_J1_charAt (D := D) (cA := cA) (base := base) (cb := cb) (xs := xs) l i v (x_chs j).length (fun q => (x_chs j).getD q 0) (by rcases (show j = 0 ∨ j = 1 ∨ j = 2 ∨ j = 3 by omega) with rfl | rfl | rfl | rfl <;> decide +kernel) g1 g2) (va_cwS 2 (x_GW_of hg) xg_cha rfl rfl rfl (by decide +kernel) ⟨Nat.le_of_ble_eq_true rfl, Nat.le_of_ble_eq_true rfl⟩) ⟨fun a U g mk q => ⟨q.1, x_Z_same q.2.1 rfl, va_T.moved (Vm.Alike.refl U.vm) q.2.2⟩, fun U hU hW => ⟨rfl, x_Z_U hZ hU hW, (by show va_T _ _ _ _ _ U U.heap; rw [hU]; exact hT.moved hW.alike)⟩⟩ rfl rfl hl.1 rfl (lv_room (Nat.le_of_ble_eq_true rfl)) dJ0_charAt_5068e_12 ⟨Nat.zero_le _, Nat.zero_le _⟩) (fun r hr0 => ?_)
  have hb8 : ∀ (b : Int32), b ∈ x_chs j → ((b &&& 255).toUInt32 % 65536).toInt32 = b := by
    have hd : ∀ j, j < 4 → ∀ b ∈ x_chs j, ((b &&& 255).toUInt32 % 65536).toInt32 = b := by decide +kernel
    exact hd j hj
  have hrx : r = x := by
    rw [hr0, ← g3]
    refine hb8 _ ?_
    rw [List.getD_eq_getElem?_getD, List.getElem?_eq_getElem g2]
    exact List.getElem_mem g2
  subst hrx
  refine W.zret hx hb hr (by rw [hr0]; exact pk_nc _) (fun t ht hW => ⟨_, rfl, rfl, ht⟩) (fun q hq => by cases hq) dJ0_charAt_5068e_15
end XST
