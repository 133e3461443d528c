def x_cok (q : Nat × Nat × Nat) : Bool := decide (q.2.2 < 11) && decide (2 ≤ q.2.2) && decide (.classLink (x_cn q.1) q.2.1 (x_C q.2.2) ∈ lw_tbl) && decide (.instantiable (x_C q.2.2) (x_N q.2.2) ∈ lw_tbl) && decide (.initialized (x_C q.2.2) ∈ lw_tbl)
theorem x_ctab_ok : x_ctab.all x_cok = true := by decide +kernel
theorem x_ct {c i ci : Nat} (h : x_lk x_ctab c i = some ci) : ci < 11 ∧ 2 ≤ ci ∧ ∀ (args : Array Value) (s : State), x_gw args s → (Cond.classLink (x_cn c) i (x_C ci)).before args s = true ∧ (Cond.instantiable (x_C ci) (x_N ci)).before args s = true ∧ (Cond.initialized (x_C ci)).before args s = true := by
  have h1 := List.all_eq_true.mp x_ctab_ok _ (x_lk_mem h)
  simp only [x_cok, Bool.and_eq_true, decide_eq_true_eq] at h1
  obtain ⟨⟨⟨⟨h1, h2⟩, h3⟩, h4⟩, h5⟩ := h1
  exact ⟨h1, h2, fun args s hg => ⟨hg _ h3 rfl, hg _ h4 rfl, hg _ h5 rfl⟩⟩
theorem x_defs_V {ad : Nat → Nat} {ci k : Nat} (hk : k < x_N ci) : vp_V ((x_defs ci).map (x_mv ad)) k = defaultValue (x_ty ci k) := by
  unfold vp_V x_defs
  rw [List.getD_eq_getElem?_getD, List.getElem?_map, List.getElem?_map, List.getElem?_range hk]
  show x_mv ad (defaultValue (x_ty ci k)) = _
  cases x_ty ci k <;> rfl
theorem x_arr_words : (Cond.arrayClass .int ∈ lw_tbl ∧ Cond.arrayClass .boolean ∈ lw_tbl ∧ Cond.arrayClass .char ∈ lw_tbl) ∧ Cond.arrayClass .long ∈ lw_tbl ∧ Cond.arrayClass .double ∈ lw_tbl := by decide +kernel
section XR3
variable {p : Program} {l : Launch} {e : Env} {R : Room} {s : State} {m : MethodId} {args : Array Value} {below : List Frame} {meth : Method} {c : Code} {H : Heap} {locs : List Loc} {cells slots : Nat} {Q : State → Prop}
variable {cc : ByteArray} {pc : Nat} {ls : Array Slot} {rest : List Value} {D : va_G} {cA : Nat → ClassId} {base : Nat} {cb : Nat → Nat} {f : Nat → x_E} {N a : Nat} {H0 : Heap}
theorem xw_new (hx : p.tables.exec = Jvm.exec) (hb : c.code = cc) (hg : x_gw args s) {o : Nat} (hown : s.vm.findClass (x_cn o) = some m.cls) (hK : x_K D cA s) (hP : x_P D cA base cb f N H) (hz : H.size = base + N) (hS : va_S (x_Ab base) H0 H locs) {i ci : Nat} (hq : x_lk x_ctab o i = some ci) (hcells : cells + 1 ≤ R.cells) (hslots : slots + x_N ci ≤ R.slots) (hd : decode cc pc = .ok (.new i, 3))
    (k : ∀ (H1 : Heap), H1.size = H.size + 1 → x_P D cA base cb (x_up f N (.inr (ci, x_defs ci))) (N + 1) H1 → va_S (x_Ab base) H0 H1 locs → W p l e R s m args below meth c H1 locs (cells + 1) (slots + x_N ci) Q (F0 m (pc + 3) ls (.ref (base + N) :: rest))) : W p l e R s m args below meth c H locs cells slots Q (F0 m pc ls rest) := by
  obtain ⟨h1, h2, h3⟩ := x_ct hq
  obtain ⟨w1, w2, w3⟩ := h3 args s hg
  have hc := x_cl_at h1
  have hKn := hK.1 ci _ hc
  refine W.newcK hx hb hown w1 w2 w3 rfl hd hcells hslots hKn.2.1 hz fun H1 kC hkC e1 z1 o1 => ?_
  rw [← hz] at o1
  have ho := u_born (x_ty ci) (x_GW_of hg) (x_cl_ws h1 h2) hKn hkC e1 (x_cl_ty ci h1 h2)
  refine k H1 (by omega) (x_P_push hP ⟨fun h => absurd h (by omega), fun _ => ⟨_, hc, by simp [x_defs], ho.to fun j hj => (x_defs_V hj).symm⟩⟩ o1) ⟨Nat.le_trans hS.1 (by omega), fun x h1 h2 => (o1 x (Nat.lt_of_lt_of_le h1 hS.1)).trans (hS.2.1 x h1 h2), hS.2.2⟩
theorem xw_newa (hx : p.tables.exec = Jvm.exec) (hb : c.code = cc) (hg : x_gw args s) (hK : x_K D cA s) (hP : x_P D cA base cb f N H) (hz : H.size = base + N) (hS : va_S (x_Ab base) H0 H locs) {at_ : ArrayType} {n : Int32} (hn : ¬ n < 0) (hn2 : n.toNatClampNeg ≤ 10000) (hcells : cells + 1 ≤ R.cells) (hslots : slots + n.toNatClampNeg ≤ R.slots) {e0 : x_E} (hd : decode cc pc = .ok (.newarray at_, 2))
    (he : (at_ = .int ∧ e0 = .inl (0, List.replicate n.toNatClampNeg 0)) ∨ (at_ = .boolean ∧ e0 = .inl (1, List.replicate n.toNatClampNeg 0)) ∨ (at_ = .char ∧ e0 = .inl (2, List.replicate n.toNatClampNeg 0)) ∨ (at_ = .long ∧ e0 = .inr (100, List.replicate n.toNatClampNeg (.long 0))) ∨ (at_ = .double ∧ e0 = .inr (101, List.replicate n.toNatClampNeg (.double 0))))
    (k : ∀ (H1 : Heap), H1.size = H.size + 1 → x_P D cA base cb (x_up f N e0) (N + 1) H1 → va_S (x_Ab base) H0 H1 locs → W p l e R s m args below meth c H1 locs (cells + 1) (slots + n.toNatClampNeg) Q (F0 m (pc + 2) ls (.ref (base + N) :: rest))) : W p l e R s m args below meth c H locs cells slots Q (F0 m pc ls (.int n :: rest)) := by
  obtain ⟨⟨w0, w1, w2⟩, w3, w4⟩ := x_arr_words
  have rg : ∀ (c : ClassId), arrV c n.toNatClampNeg (fun _ => .int 0) = arrV c (List.replicate n.toNatClampNeg (0 : Int32)).length (fun j => .int ((List.replicate n.toNatClampNeg 0).getD j 0)) := by
    intro c
    rw [List.length_replicate]
    congr 1
    funext j
    rw [List.getD_eq_getElem?_getD, List.getElem?_replicate]
    split <;> rfl
  have rv : ∀ (c : ClassId) (v : Value), x_mv (x_ad base cb) v = v → (n.toNatClampNeg = n.toNatClampNeg) → ∀ j : Nat, j < n.toNatClampNeg → x_mv (x_ad base cb) ((List.replicate n.toNatClampNeg v).getD j .null) = v := by
    intro c v hv _ j hj
    rw [List.getD_eq_getElem?_getD, List.getElem?_replicate, if_pos hj]
    exact hv
  have ext : ∀ (c : ClassId) (L : Nat) (F G : Nat → Value), (∀ j, j < L → F j = G j) → arrV c L F = arrV c L G := by
    intro c L F G h
    unfold arrV
    congr 1
    apply Array.ext
    · simp
    · intro i h1 h2
      simp only [Array.getElem_ofFn]
      exact h i (by simpa using h1)
  have go : ∀ (H1 : Heap) (cA1 : ClassId), H1.size = base + N + 1 → (∀ q, q < base + N → H1[q]? = H[q]?) → x_at1 D cA (x_ad base cb) (base + N) e0 H1 → W p l e R s m args below meth c H1 locs (cells + 1) (slots + n.toNatClampNeg) Q (F0 m (pc + 2) ls (.ref (base + N) :: rest)) := fun H1 cA1 z1 o1 he => by
    rw [← hz] at o1 z1
    exact k H1 z1 (x_P_push hP he o1) ⟨Nat.le_trans hS.1 (by omega), fun x h1 h2 => (o1 x (Nat.lt_of_lt_of_le h1 hS.1)).trans (hS.2.1 x h1 h2), hS.2.2⟩
  rcases he with ⟨rfl, rfl⟩ | ⟨rfl, rfl⟩ | ⟨rfl, rfl⟩ | ⟨rfl, rfl⟩ | ⟨rfl, rfl⟩
  · refine va_newaK (atype := .int) hx hb (hg _ w0 rfl) rfl hd rfl hn rfl (by show _ * 4 ≤ _; omega) hcells hslots hz fun H1 c1 e1 z1 o1 hA hf => go H1 c1 z1 o1 ?_
    have h5 : c1 = cA 0 := Option.some.inj (hf.symm.trans (x_K_ty hK 0 (ty := .int) rfl).2)
    show H1[base + N]? = _
    rw [e1, ← h5]
    exact congrArg some (rg c1)
  · refine va_newaK (atype := .boolean) hx hb (hg _ w1 rfl) rfl hd rfl hn rfl (by show _ * 1 ≤ _; omega) hcells hslots hz fun H1 c1 e1 z1 o1 hA hf => go H1 c1 z1 o1 ?_
    have h5 : c1 = cA 1 := Option.some.inj (hf.symm.trans (x_K_ty hK 1 (ty := .boolean) rfl).2)
    show H1[base + N]? = _
    rw [e1, ← h5]
    exact congrArg some (rg c1)
  · refine va_newaK (atype := .char) hx hb (hg _ w2 rfl) rfl hd rfl hn rfl (by show _ * 2 ≤ _; omega) hcells hslots hz fun H1 c1 e1 z1 o1 hA hf => go H1 c1 z1 o1 ?_
    have h5 : c1 = cA 2 := Option.some.inj (hf.symm.trans (x_K_ty hK 2 (ty := .char) rfl).2)
    show H1[base + N]? = _
    rw [e1, ← h5]
    exact congrArg some (rg c1)
  · refine va_newaK (atype := .long) hx hb (hg _ w3 rfl) rfl hd rfl hn rfl (by show _ * 8 ≤ _; omega) hcells hslots hz fun H1 c1 e1 z1 o1 hA hf => go H1 c1 z1 o1 ⟨fun _ => ?_, fun h => absurd h (by decide)⟩
    have h5 : c1 = cA 3 := Option.some.inj (hf.symm.trans (x_K_ty hK 3 (ty := .long) rfl).2)
    rw [e1, ← h5, List.length_replicate]
    exact congrArg some (ext c1 _ _ _ fun j hj => (rv c1 (.long 0) rfl rfl j hj).symm)
  · refine va_newaK (atype := .double) hx hb (hg _ w4 rfl) rfl hd rfl hn rfl (by show _ * 8 ≤ _; omega) hcells hslots hz fun H1 c1 e1 z1 o1 hA hf => go H1 c1 z1 o1 ⟨fun _ => ?_, fun h => absurd h (by decide)⟩
    have h5 : c1 = cA 4 := Option.some.inj (hf.symm.trans (x_K_ty hK 4 (ty := .double) rfl).2)
    rw [e1, ← h5, List.length_replicate]
    exact congrArg some (ext c1 _ _ _ fun j hj => (rv c1 (.double 0) rfl rfl j hj).symm)
theorem xw_newq (hx : p.tables.exec = Jvm.exec) (hb : c.code = cc) (hg : x_gw args s) (hAO : va_AO "WireBoard$Board" s) {o : Nat} (hown : s.vm.findClass (x_cn o) = some m.cls) (hK : x_K D cA s) (hP : x_P D cA base cb f N H) (hz : H.size = base + N) (hS : va_S (x_Ab base) H0 H locs) {i : Nat} (hq : x_lk x_ctab o i = some 2) {n : Int32} (hn : ¬ n < 0) (hn2 : n.toNatClampNeg ≤ 10000) (hcells : cells + 1 ≤ R.cells) (hslots : slots + n.toNatClampNeg ≤ R.slots) (hd : decode cc pc = .ok (.anewarray i, 3))
    (k : ∀ (H1 : Heap), H1.size = H.size + 1 → x_P D cA base cb (x_up f N (.inr (102, List.replicate n.toNatClampNeg .null))) (N + 1) H1 → va_S (x_Ab base) H0 H1 locs → W p l e R s m args below meth c H1 locs (cells + 1) (slots + n.toNatClampNeg) Q (F0 m (pc + 3) ls (.ref (base + N) :: rest))) : W p l e R s m args below meth c H locs cells slots Q (F0 m pc ls (.int n :: rest)) := by
  obtain ⟨h1, h2, h3⟩ := x_ct hq
  obtain ⟨w1, w2, w3⟩ := h3 args s hg
  refine W.anew (C := "WireBoard$Board") hx hb hown w1 (va_AO.use hAO) rfl hd rfl hn (by omega) hcells hslots fun c1 kA comp f1 f2 f3 f4 => ?_
  have h5 : c1 = cA 5 := by
    obtain ⟨kA2, comp2, g1, g2, g3, g4⟩ := (x_K_ty hK 5 (ty := .object "WireBoard$Board") rfl).2
    exact Option.some.inj (f1.symm.trans g4)
  generalize hH1 : H.push ({ cls := c1, slots := Array.replicate n.toNatClampNeg .null, vm := .none } : Cell) = H1
  have z1 : H1.size = H.size + 1 := by rw [← hH1, Array.size_push]
  have e1 : H1[H.size]? = some (arrV c1 n.toNatClampNeg (fun _ => .null)) := by rw [← hH1, Array.getElem?_push_size, ← arrV_new]
  have o1 : ∀ q : Nat, q < H.size → H1[q]? = H[q]? := fun q hq => by rw [← hH1, Array.getElem?_push, if_neg (Nat.ne_of_lt hq)]
  have k1 := k H1 z1 (x_P_push hP ⟨fun _ => ?_, fun h => absurd h (by decide)⟩ o1) ⟨Nat.le_trans hS.1 (by omega), fun x h1 h2 => (o1 x (Nat.lt_of_lt_of_le h1 hS.1)).trans (hS.2.1 x h1 h2), hS.2.2⟩
  · rw [hz]
    exact k1
  · rw [← hz, e1, ← h5, List.length_replicate]
    congr 2
    funext j
    rw [List.getD_eq_getElem?_getD, List.getElem?_replicate]
    split <;> rfl
theorem x_arr_ext (c : ClassId) (L : Nat) (F G : Nat → Value) (h : ∀ j, j < L → F j = G j) : arrV c L F = arrV c L G := by
  unfold arrV
  congr 1
  apply Array.ext
  · simp
  · intro i h1 h2
    simp only [Array.getElem_ofFn]
    exact h i (by simpa using h1)
theorem x_cpy_words : (Cond.native arraycopyName ∈ lw_tbl ∧ Cond.static arraycopyName ∈ lw_tbl) ∧ Cond.initialized "java/lang/System" ∈ lw_tbl := by decide +kernel
theorem xw_copy (hx : p.tables.exec = Jvm.exec) (hb : c.code = cc) (hml : c.maxLocals = ls.size) (hg : x_gw args s) {o : String} (hown : s.vm.findClass o = some m.cls) {i : Nat} (hlink : (Cond.methodLink o i arraycopyName).before args s = true) (hK : x_K D cA s) (hP : x_P D cA base cb f N H) (hS : va_S (x_Ab base) H0 H locs) {b : Nat} (ha : a < N) (hb2 : b < N) {la lb : List Int32} (hfa : f a = .inl (0, la)) (hfb : f b = .inl (0, lb)) {n : Int32} (hn : ¬ n < 0) (hna : n.toNatClampNeg = la.length) (hnb : n.toNatClampNeg = lb.length)
    (hframes : 1 ≤ R.frames) (hlocals : (rest.map fun v => v.category).sum + (nativeFrameWords "java/lang/System" "arraycopy" 5 + 11) ≤ R.locals) (hd : decode cc pc = .ok (.invokestatic i, 3))
    (k : ∀ (H1 : Heap) (locs1 : List Loc), H1.size = H.size → x_P D cA base cb (x_up f a (.inl (0, lb))) N H1 → va_S (x_Ab base) H0 H1 locs1 → W p l e R s m args below meth c H1 locs1 cells slots Q (F0 m (pc + 3) ls rest)) : W p l e R s m args below meth c H locs cells slots Q (F0 m pc ls (.int n :: .int 0 :: .ref (base + a) :: .int 0 :: .ref (base + b) :: rest)) := by
  obtain ⟨⟨w1, w2⟩, w3⟩ := x_cpy_words
  have ca := hP a ha
  have cb2 := hP b hb2
  rw [hfa] at ca
  rw [hfb] at cb2
  have nn : n.toInt = (n.toNatClampNeg : Int) := by
    have hz0 : (0 : Int) ≤ n.toInt := by
      have := Int32.not_lt.mp hn
      simpa using Int32.le_iff_toInt_le.mp this
    show n.toInt = ((n.toInt.toNat : Nat) : Int)
    omega
  intro T hT X
  obtain ⟨-, k0, hk0, cm0, hkk0⟩ := (x_K_ty hK 0 (ty := .int) rfl).1 lb.length (fun j => .int (lb.getD j 0))
  obtain ⟨-, k1, hk1, cm1, hkk1⟩ := (x_K_ty hK 0 (ty := .int) rfl).1 la.length (fun j => .int (la.getD j 0))
  obtain ⟨vm', X', step⟩ := X.arraycopy hx hown hlink (hg _ w1 rfl) (hg _ w2 rfl) (hg _ w3 rfl) (src := base + b) (dst := base + a) (srcPos := 0) (destPos := 0) (n := n) (by rw [hT]; exact cb2) (by rw [hT]; exact ca)
    (fun _ h => by cases h) (fun _ h => by cases h) (fun h => by cases h) (fun h => by cases h) hk0 hk1 hkk0 hkk1 (by simp) (by decide) (by decide) hn
    (by rw [nn, arrV_size, ← hnb]; show ¬ (0 : Int) + _ > _; omega)
    (by rw [nn, arrV_size, ← hna]; show ¬ (0 : Int) + _ > _; omega)
    (fun vm₁ _ i hi => by
      have e : (arrV (cA 0) lb.length (fun j => Value.int (lb.getD j 0))).slots.getD ((0 : Int32).toNatClampNeg + i) .null = .int (lb.getD i 0) := by
        rw [show (0 : Int32).toNatClampNeg = 0 from rfl, Nat.zero_add, Array.getD_eq_getD_getElem?, arrV_read _ _ (by omega)]
        rfl
      refine ⟨?_, ?_⟩
      · rw [e]
        rfl
      · rw [e]
        exact trivial)
    (g := F0 m pc ls (.int n :: .int 0 :: .ref (base + a) :: .int 0 :: .ref (base + b) :: rest)) rfl (by rw [hml]) (rest := rest) rfl (by rw [hb]; exact hd) hframes (by show 2 * 0 + _ + _ ≤ _; omega)
  have e1 : copied (arrV (cA 0) lb.length (fun j => Value.int (lb.getD j 0))) (arrV (cA 0) la.length (fun j => Value.int (la.getD j 0))) 0 0 n = arrV (cA 0) lb.length (fun j => .int (lb.getD j 0)) := by
    refine (va_copied (fun z => .int z) (cA 0) (cA 0) (sp := 0) (dp := 0) (n := n.toNatClampNeg) (n0 := lb.length) (n1 := la.length) (fun j => lb.getD j 0) (fun j => la.getD j 0) (by omega)).trans ?_
    rw [← hna, ← hnb]
    refine x_arr_ext _ _ _ _ fun j hj => ?_
    unfold va_cpy
    rw [if_pos ⟨Nat.zero_le _, by omega⟩]
    congr 2
    omega
  rw [e1] at X' step
  have hl : base + a < H.size := (Array.getElem?_eq_some_iff.mp ca).1
  obtain ⟨t, a1, b1⟩ := k (H.setIfInBounds (base + a) (arrV (cA 0) lb.length (fun j => .int (lb.getD j 0)))) _ (by simp)
    (x_P_set hP (show (H.setIfInBounds (base + a) _)[base + a]? = _ by simp [Array.getElem?_setIfInBounds, hl]) (fun q hq => by simp [Array.getElem?_setIfInBounds, Ne.symm hq]))
    ⟨by simp; exact hS.1, fun q g1 g2 => by
      have hq : q ≠ base + a := fun e => g2 (by rw [e]; exact Nat.le_add_right _ _)
      rw [show (H.setIfInBounds (base + a) (arrV (cA 0) lb.length (fun j => Value.int (lb.getD j 0))))[q]? = H[q]? by simp [Array.getElem?_setIfInBounds, Ne.symm hq]]
      exact hS.2.1 q g1 g2, fun q hq => by
      rcases List.mem_append.mp hq with h | h
      · exact hS.2.2 q h
      · obtain ⟨z, -, hz⟩ := List.mem_map.mp h
        rw [← hz]
        exact Nat.le_add_right _ _⟩ _ (by rw [← hT]; rfl) X'
  exact ⟨t, step t a1, b1⟩
end XR3
