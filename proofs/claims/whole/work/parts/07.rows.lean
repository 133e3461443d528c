def x_K (D : va_G) (cA : Nat → ClassId) (s : State) : Prop := va_K D vwCl (x_tys cA) s
theorem x_K_ty {D : va_G} {cA : Nat → ClassId} {s : State} (h : x_K D cA s) (k : Nat) {ty : FieldType} (hk : (x_tys cA)[k]? = some (cA k, ty)) : ArrOfT s (cA k) ty ∧ va_RA s (cA k) ty := h.2 k _ hk
section XR
variable {p : Program} {l : Launch} {e : Env} {R : Room} {s : State} {m : MethodId} {args : Array Value} {below : List Frame} {meth : Method} {c : Code} {H : Heap} {locs : List Loc} {cells slots : Nat} {Q : State → Prop}
variable {cc : ByteArray} {pc : Nat} {ls : Array Slot} {rest : List Value} {D : va_G} {cA : Nat → ClassId} {base : Nat} {cb : Nat → Nat} {f : Nat → x_E} {N a : Nat} {H0 : Heap}
theorem xw_ald (hx : p.tables.exec = Jvm.exec) (hb : c.code = cc) (hK : x_K D cA s) (hP : x_P D cA base cb f N H) (ha : a < N) {t : Nat} {li : List Int32} (hf : f a = .inl (t, li)) {i x : Int32} (hi : x_at i li = some x)
    (hd : (t = 0 ∧ decode cc pc = .ok (.iaload, 1)) ∨ (t = 1 ∧ decode cc pc = .ok (.baload, 1)) ∨ (t = 2 ∧ decode cc pc = .ok (.caload, 1)))
    (k : W p l e R s m args below meth c H locs cells slots Q (F0 m (pc + 1) ls (.int x :: rest))) : W p l e R s m args below meth c H locs cells slots Q (F0 m pc ls (.int i :: .ref (base + a) :: rest)) := by
  obtain ⟨h1, h2, h3⟩ := x_rd hi
  have hc := hP a ha
  rw [hf] at hc
  have hin : ¬ (i < 0 ∨ (arrV (cA t) li.length (fun j => .int (li.getD j 0))).slots.size ≤ i.toNatClampNeg) := by rw [arrV_size]; exact fun z => z.elim h1 (Nat.not_le.mpr h2)
  have hv : (arrV (cA t) li.length (fun j => Value.int (li.getD j 0))).slots[i.toNatClampNeg]? = some (.int x) := by rw [arrV_read _ _ h2, h3]
  rcases hd with ⟨rfl, hd⟩ | ⟨rfl, hd⟩ | ⟨rfl, hd⟩
  · exact W.iald hx hb hc ((x_K_ty hK 0 rfl).1 _ _) (fun q => by cases q) hin hv rfl rfl hd k
  · exact W.zald hx hb hc ((x_K_ty hK 1 rfl).1 _ _) (fun q => by cases q) hin hv rfl rfl hd k
  · exact W.cald hx hb hc ((x_K_ty hK 2 rfl).1 _ _) (fun q => by cases q) hin hv rfl rfl hd k
theorem xw_vld (hx : p.tables.exec = Jvm.exec) (hb : c.code = cc) (hK : x_K D cA s) (hP : x_P D cA base cb f N H) (ha : a < N) {t : Nat} {li : List Value} (hf : f a = .inr (t, li)) {i : Int32} {x : Value} (hi : x_av i li = some x)
    (hd : (t = 100 ∧ decode cc pc = .ok (.laload, 1)) ∨ (t = 101 ∧ decode cc pc = .ok (.daload, 1)) ∨ (t = 102 ∧ decode cc pc = .ok (.aaload, 1)))
    (k : W p l e R s m args below meth c H locs cells slots Q (F0 m (pc + 1) ls (x_mv (x_ad base cb) x :: rest))) : W p l e R s m args below meth c H locs cells slots Q (F0 m pc ls (.int i :: .ref (base + a) :: rest)) := by
  obtain ⟨h1, h2, h3⟩ := x_rv hi
  have hc := hP a ha
  rw [hf] at hc
  have hin : ∀ q, ¬ (i < 0 ∨ (arrV q li.length (fun j => x_mv (x_ad base cb) (li.getD j .null))).slots.size ≤ i.toNatClampNeg) := by intro q; rw [arrV_size]; exact fun z => z.elim h1 (Nat.not_le.mpr h2)
  have hv : ∀ q, (arrV q li.length (fun j => x_mv (x_ad base cb) (li.getD j .null))).slots[i.toNatClampNeg]? = some (x_mv (x_ad base cb) x) := by intro q; rw [arrV_read _ _ h2, h3]
  rcases hd with ⟨rfl, hd⟩ | ⟨rfl, hd⟩ | ⟨rfl, hd⟩
  · exact W.lald hx hb (hc.1 (by decide)) ((x_K_ty hK 3 rfl).1 _ _) (fun q => by cases q) (hin _) (hv _) rfl rfl hd k
  · exact W.dald hx hb (hc.1 (by decide)) ((x_K_ty hK 4 rfl).1 _ _) (fun q => by cases q) (hin _) (hv _) rfl rfl hd k
  · exact W.aald (ty := .object "WireBoard$Board") hx hb (hc.1 (by decide)) ((x_K_ty hK 5 rfl).1 _ _) rfl (fun q => by cases q) (hin _) (hv _) rfl rfl hd k
theorem xw_len (hx : p.tables.exec = Jvm.exec) (hb : c.code = cc) (hK : x_K D cA s) (hP : x_P D cA base cb f N H) (ha : a < N) {t : Nat} {li : List Int32} (hf : f a = .inl (t, li)) (ht : t < 3) (hd : decode cc pc = .ok (.arraylength, 1))
    (k : W p l e R s m args below meth c H locs cells slots Q (F0 m (pc + 1) ls (.int (Int32.ofNat li.length) :: rest))) : W p l e R s m args below meth c H locs cells slots Q (F0 m pc ls (.ref (base + a) :: rest)) := by
  have hc := hP a ha
  rw [hf] at hc
  have hn : (arrV (cA t) li.length (fun j => Value.int (li.getD j 0))).slots.size.toInt32 = Int32.ofNat li.length := by rw [arrV_size]
  rcases (show t = 0 ∨ t = 1 ∨ t = 2 by omega) with rfl | rfl | rfl
  · exact W.alen hx hb hc ((x_K_ty hK 0 rfl).1 _ _) hn rfl rfl hd k
  · exact W.alen hx hb hc ((x_K_ty hK 1 rfl).1 _ _) hn rfl rfl hd k
  · exact W.alen hx hb hc ((x_K_ty hK 2 rfl).1 _ _) hn rfl rfl hd k
theorem xw_ast (hx : p.tables.exec = Jvm.exec) (hb : c.code = cc) (hK : x_K D cA s) (hP : x_P D cA base cb f N H) (hS : va_S (x_Ab base) H0 H locs) (ha : a < N) {t : Nat} {li : List Int32} (hf : f a = .inl (t, li)) {i x y : Int32} (h1 : ¬ i < 0) (h2 : i.toNatClampNeg < li.length)
    (hd : (t = 0 ∧ decode cc pc = .ok (.iastore, 1) ∧ y = x) ∨ (t = 1 ∧ decode cc pc = .ok (.bastore, 1) ∧ y = vp_nar .boolean x) ∨ (t = 2 ∧ decode cc pc = .ok (.castore, 1) ∧ y = vp_nar .char x))
    (k : ∀ (H1 : Heap) (locs1 : List Loc), H1.size = H.size → x_P D cA base cb (x_up f a (.inl (t, li.set i.toNatClampNeg y))) N H1 → va_S (x_Ab base) H0 H1 locs1 → W p l e R s m args below meth c H1 locs1 cells slots Q (F0 m (pc + 1) ls rest)) : W p l e R s m args below meth c H locs cells slots Q (F0 m pc ls (.int x :: .int i :: .ref (base + a) :: rest)) := by
  have hc := hP a ha
  rw [hf] at hc
  have hin : ¬ (i < 0 ∨ (arrV (cA t) li.length (fun j => .int (li.getD j 0))).slots.size ≤ i.toNatClampNeg) := by rw [arrV_size]; exact fun z => z.elim h1 (Nat.not_le.mpr h2)
  have go : ∀ (H1 : Heap), H1[base + a]? = some ((arrV (cA t) li.length (fun j => .int (li.getD j 0))).setSlot i.toNatClampNeg (.int y)) → H1.size = H.size → (∀ q, q ≠ base + a → H1[q]? = H[q]?) → W p l e R s m args below meth c H1 (locs ++ [⟨base + a, i.toNatClampNeg⟩]) cells slots Q (F0 m (pc + 1) ls rest) := fun H1 e1 e2 e3 =>
    k H1 _ e2 (x_P_set hP (show H1[base + a]? = _ by rw [e1, arrV_store, x_arr_set _ _ h2]) e3) (hS.put e2 e3 (Nat.le_add_right _ _))
  rcases hd with ⟨rfl, hd, rfl⟩ | ⟨rfl, hd, rfl⟩ | ⟨rfl, hd, rfl⟩
  · exact W.iast hx hb hc ((x_K_ty hK 0 rfl).1 _ _) (fun q => by cases q) hin rfl rfl hd go
  · exact W.zast hx hb hc ((x_K_ty hK 1 rfl).1 _ _) (fun q => by cases q) hin rfl rfl hd go
  · exact W.cast hx hb hc ((x_K_ty hK 2 rfl).1 _ _) (fun q => by cases q) hin rfl rfl hd go
theorem xw_last (hx : p.tables.exec = Jvm.exec) (hb : c.code = cc) (hK : x_K D cA s) (hP : x_P D cA base cb f N H) (hS : va_S (x_Ab base) H0 H locs) (ha : a < N) {li : List Value} (hf : f a = .inr (100, li)) {i : Int32} {x : Int64} (h1 : ¬ i < 0) (h2 : i.toNatClampNeg < li.length) (hd : decode cc pc = .ok (.lastore, 1))
    (k : ∀ (H1 : Heap) (locs1 : List Loc), H1.size = H.size → x_P D cA base cb (x_up f a (.inr (100, li.set i.toNatClampNeg (.long x)))) N H1 → va_S (x_Ab base) H0 H1 locs1 → W p l e R s m args below meth c H1 locs1 cells slots Q (F0 m (pc + 1) ls rest)) : W p l e R s m args below meth c H locs cells slots Q (F0 m pc ls (.long x :: .int i :: .ref (base + a) :: rest)) := by
  have hc := hP a ha
  rw [hf] at hc
  have hin : ¬ (i < 0 ∨ (arrV (cA 3) li.length (fun j => x_mv (x_ad base cb) (li.getD j .null))).slots.size ≤ i.toNatClampNeg) := by rw [arrV_size]; exact fun z => z.elim h1 (Nat.not_le.mpr h2)
  exact W.last hx hb (hc.1 (by decide)) ((x_K_ty hK 3 rfl).1 _ _) (fun q => by cases q) hin rfl rfl hd fun H1 e1 e2 e3 =>
    k H1 _ e2 (x_P_set hP ⟨fun _ => by rw [e1, arrV_store]; exact congrArg some (x_arv_set (x_ad base cb) _ _ h2 (.long x)), fun h => absurd h (by decide)⟩ e3) (hS.put e2 e3 (Nat.le_add_right _ _))
theorem xw_dast (hx : p.tables.exec = Jvm.exec) (hb : c.code = cc) (hK : x_K D cA s) (hP : x_P D cA base cb f N H) (hS : va_S (x_Ab base) H0 H locs) (ha : a < N) {li : List Value} (hf : f a = .inr (101, li)) {i : Int32} {x : UInt64} (h1 : ¬ i < 0) (h2 : i.toNatClampNeg < li.length) (hd : decode cc pc = .ok (.dastore, 1))
    (k : ∀ (H1 : Heap) (locs1 : List Loc), H1.size = H.size → x_P D cA base cb (x_up f a (.inr (101, li.set i.toNatClampNeg (.double x)))) N H1 → va_S (x_Ab base) H0 H1 locs1 → W p l e R s m args below meth c H1 locs1 cells slots Q (F0 m (pc + 1) ls rest)) : W p l e R s m args below meth c H locs cells slots Q (F0 m pc ls (.double x :: .int i :: .ref (base + a) :: rest)) := by
  have hc := hP a ha
  rw [hf] at hc
  have hin : ¬ (i < 0 ∨ (arrV (cA 4) li.length (fun j => x_mv (x_ad base cb) (li.getD j .null))).slots.size ≤ i.toNatClampNeg) := by rw [arrV_size]; exact fun z => z.elim h1 (Nat.not_le.mpr h2)
  exact W.dast hx hb (hc.1 (by decide)) ((x_K_ty hK 4 rfl).1 _ _) (fun q => by cases q) hin rfl rfl hd fun H1 e1 e2 e3 =>
    k H1 _ e2 (x_P_set hP ⟨fun _ => by rw [e1, arrV_store]; exact congrArg some (x_arv_set (x_ad base cb) _ _ h2 (.double x)), fun h => absurd h (by decide)⟩ e3) (hS.put e2 e3 (Nat.le_add_right _ _))
theorem xw_bst (hx : p.tables.exec = Jvm.exec) (hb : c.code = cc) (hK : x_K D cA s) (hP : x_P D cA base cb f N H) (hN : N ≤ 9000) (hS : va_S (x_Ab base) H0 H locs) (ha : a < N) {li : List Value} (hf : f a = .inr (102, li)) {b : Nat} (hbN : b < N) {vs : List Value} (hfb : f b = .inr (2, vs)) {i : Int32} (h1 : ¬ i < 0) (h2 : i.toNatClampNeg < li.length) (hd : decode cc pc = .ok (.aastore, 1))
    (k : ∀ (H1 : Heap) (locs1 : List Loc), H1.size = H.size → x_P D cA base cb (x_up f a (.inr (102, li.set i.toNatClampNeg (.ref b)))) N H1 → va_S (x_Ab base) H0 H1 locs1 → W p l e R s m args below meth c H1 locs1 cells slots Q (F0 m (pc + 1) ls rest)) : W p l e R s m args below meth c H locs cells slots Q (F0 m pc ls (.ref (base + b) :: .int i :: .ref (base + a) :: rest)) := by
  have hc := hP a ha
  rw [hf] at hc
  have hc2 := hP b hbN
  rw [hfb] at hc2
  obtain ⟨r, hr, -, cellV, g1, g2, g3, -⟩ := hc2.2 (by decide)
  have hr2 : r = (RX0, TX0, 13) := by cases hr; rfl
  subst hr2
  have hcls := (hK.1 2 _ hr).2
  obtain ⟨kA, comp, k1, k2, k3, -⟩ := (x_K_ty hK 5 (ty := .object "WireBoard$Board") rfl).2
  have hcomp : comp = D.1 2 := Option.some.inj (k3.symm.trans hcls.1)
  subst hcomp
  obtain ⟨kC, hkC, -⟩ := hcls.2
  have hb9 : x_mv (x_ad base cb) (.ref b) = .ref (base + b) := by
    show Value.ref (x_ad base cb b) = _
    unfold x_ad
    rw [if_pos (by omega)]
  refine W.aast hx hb (hc.1 (by decide)) (fun q h => by cases h) (fun h => by cases h) k1 k2 rfl hkC ⟨h1, by rw [arrV_size]; exact h2⟩ g1 (fun q h => by rw [g3] at h; cases h) (by rw [g2]; exact hkC) (by rw [g2]; exact va_assign hcls) rfl rfl hd fun H1 e1 e2 e3 => ?_
  refine k H1 _ e2 (x_P_set hP ⟨fun _ => ?_, fun h => absurd h (by decide)⟩ e3) (hS.put e2 e3 (Nat.le_add_right _ _))
  rw [e1, arrV_store, ← hb9]
  exact congrArg some (x_arv_set (x_ad base cb) _ _ h2 (.ref b))
end XR
def x_gw (args : Array Value) (s : State) : Prop := ∀ w ∈ lw_tbl, goodWord w = true → w.before args s = true
def x_GW : List Cond := lw_tbl.filter goodWord
theorem x_GW_of {args : Array Value} {s : State} (h : x_gw args s) : ∀ w ∈ x_GW, w.before args s = true := fun w hw => h w (List.mem_filter.mp hw).1 (List.mem_filter.mp hw).2
theorem x_cl_in : ∀ ci, ci < 11 → 2 ≤ ci → (u_ws (x_C ci) (x_T ci) (x_N ci)).all (fun w => decide (w ∈ lw_tbl) && goodWord w) = true := by
  have h : (List.range 11).all (fun ci => !(decide (2 ≤ ci)) || (u_ws (x_C ci) (x_T ci) (x_N ci)).all (fun w => decide (w ∈ lw_tbl) && goodWord w)) = true := by decide +kernel
  intro ci h1 h2
  have h3 := List.all_eq_true.mp h ci (List.mem_range.mpr h1)
  simpa [h2] using h3
theorem x_cl_ws {ci : Nat} (h1 : ci < 11) (h2 : 2 ≤ ci) : ∀ w ∈ u_ws (x_C ci) (x_T ci) (x_N ci), w ∈ x_GW := by
  intro w hw
  have h3 := List.all_eq_true.mp (x_cl_in ci h1 h2) w hw
  simp only [Bool.and_eq_true, decide_eq_true_eq] at h3
  exact List.mem_filter.mpr h3
theorem x_cl_at {ci : Nat} (h1 : ci < 11) : vwCl[ci]? = some (x_C ci, x_T ci, x_N ci) := by
  unfold x_C x_T x_N
  rw [List.getD_eq_getElem?_getD, List.getElem?_eq_getElem (show ci < vwCl.length from h1)]
  rfl
theorem x_cl_ty : ∀ ci, ci < 11 → 2 ≤ ci → ∀ k, k < x_N ci → parseFieldDescriptor (x_T ci k).2.2.1 = some (x_ty ci k) := by
  have h : ∀ ci, ci < 11 → ∀ k, k < 30 → 2 ≤ ci → k < x_N ci → parseFieldDescriptor (x_T ci k).2.2.1 = some (x_ty ci k) := by decide +kernel
  have hN : ∀ ci, ci < 11 → x_N ci ≤ 30 := by decide +kernel
  intro ci h1 h2 k hk
  exact h ci h1 k (Nat.lt_of_lt_of_le hk (hN ci h1)) h2 hk
theorem x_cl_nm : ∀ ci, ci < 11 → 2 ≤ ci → ∀ a, a < x_N ci → ∀ b, b < x_N ci → a ≠ b → (x_T ci a).2.1 ≠ (x_T ci b).2.1 := by
  intro ci h1 h2
  rcases (show ci = 2 ∨ ci = 3 ∨ ci = 4 ∨ ci = 5 ∨ ci = 6 ∨ ci = 7 ∨ ci = 8 ∨ ci = 9 ∨ ci = 10 by omega) with rfl | rfl | rfl | rfl | rfl | rfl | rfl | rfl | rfl
  · exact nmX0
  · exact nmX1
  · exact nmX2
  · exact nmX3
  · exact nmX4
  · exact nmX5
  · exact nmX6
  · exact nmX7
  · exact nmX8
def x_fok (q : Nat × Nat × Nat × Nat × Nat) : Bool := decide (q.2.2.1 < 11) && decide (2 ≤ q.2.2.1) && decide (q.2.2.2.1 < x_N q.2.2.1) && decide (tables_1[q.2.2.2.2]? = some (.fieldLink (x_cn q.1) q.2.1 (x_T q.2.2.1 q.2.2.2.1).1 (x_T q.2.2.1 q.2.2.2.1).2.1 (x_T q.2.2.1 q.2.2.2.1).2.2.1))
theorem x_ftab_ok : x_ftab.all x_fok = true := by decide +kernel
theorem x_ft {c i : Nat} {q : Nat × Nat × Nat} (h : x_lk x_ftab c i = some q) : q.1 < 11 ∧ 2 ≤ q.1 ∧ q.2.1 < x_N q.1 ∧ ∀ (args : Array Value) (s : State), x_gw args s → (Cond.fieldLink (x_cn c) i (x_T q.1 q.2.1).1 (x_T q.1 q.2.1).2.1 (x_T q.1 q.2.1).2.2.1).before args s = true := by
  have h1 := List.all_eq_true.mp x_ftab_ok _ (x_lk_mem h)
  simp only [x_fok, Bool.and_eq_true, decide_eq_true_eq] at h1
  obtain ⟨⟨⟨h1, h2⟩, h3⟩, h4⟩ := h1
  exact ⟨h1, h2, h3, fun args s hg => hg _ (List.mem_append_right _ (List.mem_of_getElem? h4)) rfl⟩
theorem x_fit_mv {ad : Nat → Nat} {ty : FieldType} {v : Value} (h : x_fit ty v = true) : narrow ty (x_mv ad v) = x_mv ad v ∧ fits ty (x_mv ad v) = true := by
  unfold x_fit at h
  simp only [Bool.and_eq_true, decide_eq_true_eq] at h
  cases v with
  | ref k => cases ty <;> first | exact ⟨rfl, rfl⟩ | exact absurd h.2 (by decide) | exact absurd h.2 (by simp [fits])
  | _ => exact h
section XR2
variable {p : Program} {l : Launch} {e : Env} {R : Room} {s : State} {m : MethodId} {args : Array Value} {below : List Frame} {meth : Method} {c : Code} {H : Heap} {locs : List Loc} {cells slots : Nat} {Q : State → Prop}
variable {cc : ByteArray} {pc : Nat} {ls : Array Slot} {rest : List Value} {D : va_G} {cA : Nat → ClassId} {base : Nat} {cb : Nat → Nat} {f : Nat → x_E} {N a : Nat} {H0 : Heap}
theorem xw_get (hx : p.tables.exec = Jvm.exec) (hb : c.code = cc) (hg : x_gw args s) {o : Nat} (hown : s.vm.findClass (x_cn o) = some m.cls) (hK : x_K D cA s) (hP : x_P D cA base cb f N H) (ha : a < N) {i : Nat} {q : Nat × Nat × Nat} (hq : x_lk x_ftab o i = some q) {li : List Value} (hf : f a = .inr (q.1, li)) {v : Value} (hv : li[q.2.1]? = some v) (hd : decode cc pc = .ok (.getfield i, 3))
    (k : W p l e R s m args below meth c H locs cells slots Q (F0 m (pc + 3) ls (x_mv (x_ad base cb) v :: rest))) : W p l e R s m args below meth c H locs cells slots Q (F0 m pc ls (.ref (base + a) :: rest)) := by
  obtain ⟨h1, h2, h3, h4⟩ := x_ft hq
  have hc := hP a ha
  rw [hf] at hc
  obtain ⟨r, hr, hl, ho⟩ := hc.2 (Nat.lt_of_lt_of_le h1 (by decide))
  refine va_get (D := D) (cl := vwCl) (ws := [(base + a, .inr (q.1, li.map (x_mv (x_ad base cb))))]) (C := x_C q.1) (T := x_T q.1) (N := x_N q.1) hx hb (x_GW_of hg) (x_cl_ws h1 h2) hown hK (fun j z hz => ?_) 0 rfl (x_cl_at h1) q.2.1 h3 (h4 args s hg) (fun _ h9 => h9) (by rw [List.getElem?_map, hv]; rfl) hd k
  have hj : j = 0 := by
    have := (List.getElem?_eq_some_iff.mp hz).1
    simpa using this
  subst hj
  cases hz
  exact ⟨r, hr, ho⟩
theorem xw_put (hx : p.tables.exec = Jvm.exec) (hb : c.code = cc) (hg : x_gw args s) {o : Nat} (hown : s.vm.findClass (x_cn o) = some m.cls) (hK : x_K D cA s) (hP : x_P D cA base cb f N H) (hS : va_S (x_Ab base) H0 H locs) (ha : a < N) {i : Nat} {q : Nat × Nat × Nat} (hq : x_lk x_ftab o i = some q) {li : List Value} (hf : f a = .inr (q.1, li)) {v : Value} (hv : q.2.1 < li.length) (hfit : x_fit (x_ty q.1 q.2.1) v = true)
    (hfin : (x_T q.1 q.2.1).2.2.2 = false ∨ (meth.name = "<init>" ∧ (x_T q.1 q.2.1).1 = x_cn o)) (hd : decode cc pc = .ok (.putfield i, 3))
    (k : ∀ (H1 : Heap) (locs1 : List Loc), H1.size = H.size → x_P D cA base cb (x_up f a (.inr (q.1, li.set q.2.1 v))) N H1 → va_S (x_Ab base) H0 H1 locs1 → W p l e R s m args below meth c H1 locs1 cells slots Q (F0 m (pc + 3) ls rest)) : W p l e R s m args below meth c H locs cells slots Q (F0 m pc ls (x_mv (x_ad base cb) v :: .ref (base + a) :: rest)) := by
  obtain ⟨h1, h2, h3, h4⟩ := x_ft hq
  have hc := hP a ha
  rw [hf] at hc
  obtain ⟨r, hr, hl, cell, q1, q2, q3, q4⟩ := hc.2 (Nat.lt_of_lt_of_le h1 (by decide))
  have hr2 : r = (x_C q.1, x_T q.1, x_N q.1) := Option.some.inj (hr.symm.trans (x_cl_at h1))
  subst hr2
  have hin := x_cl_ws h1 h2
  have hts := x_GW_of hg
  have hap := va_apart (own := x_cn o) hts hin (x_ty q.1) (x_cl_ty q.1 h1 h2) (x_cl_nm q.1 h1 h2) hK hr
  obtain ⟨hSl, hfc, kC, hkC, hkind⟩ := hK.1 q.1 _ hr
  obtain ⟨cf, kf, fi, fd, hi, hsl⟩ := hSl q.2.1 h3
  have hlay := hts _ (hin _ (u_in_lay h3))
  obtain ⟨hn, hft⟩ := x_fit_mv (ad := x_ad base cb) hfit
  have hst := (u_facts hfc hkC (u_lays hts hin h3) hi).1
  have hd9 := x_cl_ty q.1 h1 h2 q.2.1 h3
  have go : ∀ (H1 : Heap), H1[base + a]? = some (cell.setSlot fd.slot (x_mv (x_ad base cb) v)) → H1.size = H.size → (∀ q, q ≠ base + a → H1[q]? = H[q]?) → W p l e R s m args below meth c H1 (locs ++ [⟨base + a, fd.slot⟩]) cells slots Q (F0 m (pc + 3) ls rest) := fun H1 e1 e2 e3 => by
    rw [hsl] at e1 ⊢
    exact k H1 _ e2 (x_P_set hP ⟨fun h => absurd h (Nat.not_le.mpr (Nat.lt_of_lt_of_le h1 (by decide))), fun _ => ⟨_, hr, by rw [List.length_set]; exact hl, t_OB.to (V := updV (vp_V (li.map (x_mv (x_ad base cb)))) q.2.1 (x_mv (x_ad base cb) v)) ⟨_, e1, q2, q3, t_set q4 hap h3 _⟩ (fun j _ => x_V_set hv v j)⟩⟩ e3) (hS.put e2 e3 (Nat.le_add_right _ _))
  unfold u_lay at hlay
  by_cases hf2 : (x_T q.1 q.2.1).2.2.2 = true
  · rw [if_pos hf2] at hlay
    rcases hfin with h | ⟨hin2, hdecl⟩
    · rw [h] at hf2; cases hf2
    · have hcf : m.cls = cf := by
        obtain ⟨_, _, c', _, _, _, -, -, hf', -, -, -, hown2, -⟩ := Cond.laysFinal_spec hlay
        have e1 : c' = cf := by have := hi.symm.trans hf'; simp at this; exact this.1.symm
        rw [hdecl] at hown2
        rw [← e1]; exact Option.some.inj (hown.symm.trans hown2)
      have h6 := u_fits hfc hkC hkind (Or.inr hlay) hi hd9 hn hft
      exact W.putFinK hx hb hown (h4 args s hg) hi hst hcf hin2 (by rw [q2]; exact h6) q1 q3 (by rw [hsl]; exact k2_hasslot (q4 q.2.1 h3)) rfl rfl hd go
  · rw [if_neg hf2] at hlay
    have h6 := u_store hfc hkC hkind hlay hi hd9 hn hft
    exact W.putK hx hb (f := fd) ⟨hown, h4 args s hg, ⟨_, _, _, hi⟩, hst⟩ (by rw [q2]; exact h6) q1 q3 (by rw [hsl]; exact k2_hasslot (q4 q.2.1 h3)) rfl rfl hd go
end XR2
