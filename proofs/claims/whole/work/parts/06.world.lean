def x_ad (base : Nat) (cb : Nat → Nat) (k : Nat) : Nat := if k < 9000 then base + k else cb k
def x_mv (ad : Nat → Nat) : Value → Value
  | .ref k => .ref (ad k)
  | v => v
theorem x_mv_cat (ad : Nat → Nat) (v : Value) : (x_mv ad v).category = v.category := by cases v <;> rfl
theorem x_mv_map_wt (ad : Nat → Nat) (l : List Value) : ((l.map (x_mv ad)).map fun v => v.category).sum = x_wt l := by
  induction l with
  | nil => rfl
  | cons v r ih => simp only [List.map_cons, List.sum_cons, x_wt, ih, x_mv_cat]
def x_at1 (D : va_G) (cA : Nat → ClassId) (ad : Nat → Nat) (a : Nat) (e : x_E) (H : Heap) : Prop := match e with
  | .inl (t, l) => H[a]? = some (arrV (cA t) l.length (fun j => .int (l.getD j 0)))
  | .inr (t, l) => (100 ≤ t → H[a]? = some (arrV (cA (t - 97)) l.length (fun j => x_mv ad (l.getD j .null)))) ∧
      (t < 100 → ∃ r : vw_C, vwCl[t]? = some r ∧ l.length = r.2.2 ∧ t_OB a (D.1 t) r.2.2 (D.2 t) H (vp_V (l.map (x_mv ad))))
def x_P (D : va_G) (cA : Nat → ClassId) (base : Nat) (cb : Nat → Nat) (f : Nat → x_E) (N : Nat) (H : Heap) : Prop :=
  ∀ k, k < N → x_at1 D cA (x_ad base cb) (base + k) (f k) H
theorem x_at1_kept {D : va_G} {cA : Nat → ClassId} {ad : Nat → Nat} {a : Nat} {e : x_E} {H H1 : Heap} (h : x_at1 D cA ad a e H) (hq : H1[a]? = H[a]?) : x_at1 D cA ad a e H1 := by
  rcases e with ⟨t, l⟩ | ⟨t, l⟩
  · exact hq.trans h
  · refine ⟨fun ht => hq.trans (h.1 ht), fun ht => ?_⟩
    obtain ⟨r, h1, h3, h2⟩ := h.2 ht
    exact ⟨r, h1, h3, h2.kept hq⟩
theorem x_at1_lt {D : va_G} {cA : Nat → ClassId} {ad : Nat → Nat} {a : Nat} {e : x_E} {H : Heap} (h : x_at1 D cA ad a e H) : a < H.size := by
  rcases e with ⟨t, l⟩ | ⟨t, l⟩
  · exact (Array.getElem?_eq_some_iff.mp h).1
  · rcases Nat.lt_or_ge t 100 with ht | ht
    · obtain ⟨r, h1, h3, cell, h2, _⟩ := h.2 ht
      exact (Array.getElem?_eq_some_iff.mp h2).1
    · exact (Array.getElem?_eq_some_iff.mp (h.1 ht)).1
theorem x_P_set {D : va_G} {cA : Nat → ClassId} {base : Nat} {cb : Nat → Nat} {f : Nat → x_E} {N k : Nat} {e : x_E} {H H1 : Heap} (h : x_P D cA base cb f N H) (he : x_at1 D cA (x_ad base cb) (base + k) e H1) (oq : ∀ q : Nat, q ≠ base + k → H1[q]? = H[q]?) : x_P D cA base cb (x_up f k e) N H1 := by
  intro j hj
  unfold x_up
  by_cases hjk : j = k
  · rw [if_pos hjk, hjk]
    exact he
  · rw [if_neg hjk]
    exact x_at1_kept (h j hj) (oq _ (by omega))
theorem x_P_push {D : va_G} {cA : Nat → ClassId} {base : Nat} {cb : Nat → Nat} {f : Nat → x_E} {N : Nat} {e : x_E} {H H1 : Heap} (h : x_P D cA base cb f N H) (he : x_at1 D cA (x_ad base cb) (base + N) e H1) (oq : ∀ q : Nat, q < H.size → H1[q]? = H[q]?) : x_P D cA base cb (x_up f N e) (N + 1) H1 := by
  intro j hj
  unfold x_up
  by_cases hjk : j = N
  · rw [if_pos hjk, hjk]
    exact he
  · rw [if_neg hjk]
    have h1 := h j (by omega)
    exact x_at1_kept h1 (oq _ (x_at1_lt h1))
theorem x_P_kept {D : va_G} {cA : Nat → ClassId} {base : Nat} {cb : Nat → Nat} {f : Nat → x_E} {N : Nat} {H H1 : Heap} (h : x_P D cA base cb f N H) (oq : ∀ q : Nat, q < H.size → H1[q]? = H[q]?) : x_P D cA base cb f N H1 := fun j hj => x_at1_kept (h j hj) (oq _ (x_at1_lt (h j hj)))
theorem x_P_le {D : va_G} {cA : Nat → ClassId} {base : Nat} {cb : Nat → Nat} {f : Nat → x_E} {N : Nat} {H : Heap} (h : x_P D cA base cb f N H) (hN : 0 < N) : base + N ≤ H.size := by
  have := x_at1_lt (h (N - 1) (by omega))
  omega
def x_tys (cA : Nat → ClassId) : List (ClassId × FieldType) := [(cA 0, .int), (cA 1, .boolean), (cA 2, .char), (cA 3, .long), (cA 4, .double), (cA 5, .object "WireBoard$Board")]
def x_Ab (base : Nat) : Nat → Prop := fun q => base ≤ q
theorem x_V_getD {ad : Nat → Nat} {l : List Value} {k : Nat} (hk : k < l.length) : vp_V (l.map (x_mv ad)) k = x_mv ad (l.getD k .null) := by
  unfold vp_V
  rw [List.getD_eq_getElem?_getD, List.getD_eq_getElem?_getD, List.getElem?_map, List.getElem?_eq_getElem hk]
  rfl
theorem x_V_set {ad : Nat → Nat} {l : List Value} {k : Nat} (hk : k < l.length) (v : Value) (j : Nat) : updV (vp_V (l.map (x_mv ad))) k (x_mv ad v) j = vp_V ((l.set k v).map (x_mv ad)) j := by
  unfold updV vp_V
  rw [List.map_set, List.getD_eq_getElem?_getD, List.getD_eq_getElem?_getD, List.getElem?_set]
  by_cases h : j = k
  · subst h
    rw [if_pos rfl, if_pos rfl, if_pos (by simpa using hk)]
    rfl
  · rw [if_neg h, if_neg (fun e => h e.symm)]
theorem x_arr_set (c : ClassId) (l : List Int32) {k : Nat} (hk : k < l.length) (x : Int32) : arrV c l.length (updV (fun j => .int (l.getD j 0)) k (.int x)) = arrV c (l.set k x).length (fun j => .int ((l.set k x).getD j 0)) := by
  rw [List.length_set]
  congr 1
  funext j
  unfold updV
  dsimp only
  rw [List.getD_eq_getElem?_getD, List.getD_eq_getElem?_getD, List.getElem?_set]
  by_cases h : j = k
  · subst h
    rw [if_pos rfl, if_pos rfl, if_pos hk]
    rfl
  · rw [if_neg h, if_neg (fun e => h e.symm)]
theorem x_arv_set (ad : Nat → Nat) (c : ClassId) (l : List Value) {k : Nat} (hk : k < l.length) (x : Value) : arrV c l.length (updV (fun j => x_mv ad (l.getD j .null)) k (x_mv ad x)) = arrV c (l.set k x).length (fun j => x_mv ad ((l.set k x).getD j .null)) := by
  rw [List.length_set]
  congr 1
  funext j
  unfold updV
  dsimp only
  rw [List.getD_eq_getElem?_getD, List.getD_eq_getElem?_getD, List.getElem?_set]
  by_cases h : j = k
  · subst h
    rw [if_pos rfl, if_pos rfl, if_pos hk]
    rfl
  · rw [if_neg h, if_neg (fun e => h e.symm)]
theorem x_rd {l : List Int32} {i : Int32} {x : Int32} (h : x_at i l = some x) : ¬ i < 0 ∧ i.toNatClampNeg < l.length ∧ l.getD i.toNatClampNeg 0 = x := by
  unfold x_at at h
  by_cases hi : i < 0
  · rw [if_pos hi] at h; cases h
  · rw [if_neg hi] at h
    refine ⟨hi, (List.getElem?_eq_some_iff.mp h).1, ?_⟩
    rw [List.getD_eq_getElem?_getD, h]
    rfl
theorem x_rv {l : List Value} {i : Int32} {x : Value} (h : x_av i l = some x) : ¬ i < 0 ∧ i.toNatClampNeg < l.length ∧ l.getD i.toNatClampNeg .null = x := by
  unfold x_av at h
  by_cases hi : i < 0
  · rw [if_pos hi] at h; cases h
  · rw [if_neg hi] at h
    refine ⟨hi, (List.getElem?_eq_some_iff.mp h).1, ?_⟩
    rw [List.getD_eq_getElem?_getD, h]
    rfl
def x_al (ad : Nat → Nat) (ls : List Value) : List (Nat × Value) := (List.range ls.length).filterMap (fun i => match ls[i]? with
  | some v => if v = Value.null then none else some (i, x_mv ad v)
  | none => none)
theorem x_al_mem {ad : Nat → Nat} {ls : List Value} {i : Nat} {w : Value} : (i, w) ∈ x_al ad ls ↔ ∃ v, ls[i]? = some v ∧ v ≠ .null ∧ w = x_mv ad v := by
  unfold x_al
  rw [List.mem_filterMap]
  constructor
  · rintro ⟨j, -, hj⟩
    split at hj
    · rename_i v hv
      split at hj
      · cases hj
      · rename_i hn
        cases hj
        exact ⟨v, hv, hn, rfl⟩
    · cases hj
  · rintro ⟨v, hv, hn, rfl⟩
    refine ⟨i, List.mem_range.mpr (List.getElem?_eq_some_iff.mp hv).1, ?_⟩
    rw [hv]
    dsimp only
    rw [if_neg hn]
def x_lr (ad : Nat → Nat) (nL : Nat) (ls : List Value) (LS : Array Slot) : Prop := ls.length = nL ∧ lv_has LS nL (x_al ad ls)
theorem x_lr_at {ad : Nat → Nat} {nL : Nat} {ls : List Value} {LS : Array Slot} (h : x_lr ad nL ls LS) {i : Nat} {v : Value} (hv : ls[i]? = some v) (hn : v ≠ .null) : LS[i]? = some (.val (x_mv ad v)) := h.2.2.2 (i, x_mv ad v) (x_al_mem.mpr ⟨v, hv, hn, rfl⟩)
theorem x_has_mono {LS : Array Slot} {nL : Nat} {l l' : List (Nat × Value)} (h : lv_has LS nL l) (hm : ∀ q ∈ l', q ∈ l) : lv_has LS nL l' := ⟨h.1, h.2.1, fun q hq => h.2.2 q (hm q hq)⟩
theorem x_nd_ok {ad : Nat → Nat} {ls : List Value} {k : Nat} (h : x_nd ls k = true) {q : Nat × Value} (hq : q ∈ x_al ad ls) : (q.1 + 1 == k && q.2.category == 2) = false := by
  obtain ⟨i, w⟩ := q
  obtain ⟨v, hv, -, rfl⟩ := x_al_mem.mp hq
  by_cases hk : i + 1 = k
  · subst hk
    unfold x_nd at h
    simp only [Nat.add_sub_cancel, hv] at h
    have h2 : v.category ≠ 2 := by simpa using h
    simp [x_mv_cat, h2]
  · simp [hk]
theorem x_lr_set {ad : Nat → Nat} {nL : Nat} {ls : List Value} {LS' : Array Slot} {k : Nat} {v : Value} (hl : ls.length = nL) (hd : x_nd ls k = true)
    (h : lv_has LS' nL ((k, x_mv ad v) :: (x_al ad ls).filter (fun q => !(q.1 == k) && !(q.1 + 1 == k && q.2.category == 2)))) : x_lr ad nL (ls.set k v) LS' := by
  refine ⟨by rw [List.length_set]; exact hl, x_has_mono h fun q hq => ?_⟩
  obtain ⟨i, w⟩ := q
  obtain ⟨u, hu, hn, rfl⟩ := x_al_mem.mp hq
  rw [List.getElem?_set] at hu
  by_cases hik : k = i
  · rw [if_pos hik] at hu
    split at hu
    · cases hu
      rw [← hik]
      exact List.mem_cons_self
    · cases hu
  · rw [if_neg hik] at hu
    refine List.mem_cons_of_mem _ (List.mem_filter.mpr ⟨x_al_mem.mpr ⟨u, hu, hn, rfl⟩, ?_⟩)
    have h2 := x_nd_ok (ad := ad) hd (x_al_mem.mpr ⟨u, hu, hn, rfl⟩)
    dsimp only at h2 ⊢
    rw [h2]
    simp
    exact fun e => hik e.symm
theorem x_lr_null {ad : Nat → Nat} {nL : Nat} {ls : List Value} {LS : Array Slot} {k : Nat} (h : x_lr ad nL ls LS) : x_lr ad nL (ls.set k .null) LS := by
  refine ⟨by rw [List.length_set]; exact h.1, x_has_mono h.2 fun q hq => ?_⟩
  obtain ⟨i, w⟩ := q
  obtain ⟨u, hu, hn, rfl⟩ := x_al_mem.mp hq
  rw [List.getElem?_set] at hu
  by_cases hik : k = i
  · rw [if_pos hik] at hu
    split at hu
    · cases hu; exact absurd rfl hn
    · cases hu
  · rw [if_neg hik] at hu
    exact x_al_mem.mpr ⟨u, hu, hn, rfl⟩
theorem x_lr_set2 {ad : Nat → Nat} {nL : Nat} {ls : List Value} {LS' : Array Slot} {k : Nat} {v : Value} (hl : ls.length = nL) (hd : x_nd ls k = true)
    (h : lv_has LS' nL ((k, x_mv ad v) :: (x_al ad ls).filter (fun q => !(q.1 == k) && (!(q.1 == k + 1) && !(q.1 + 1 == k && q.2.category == 2))))) : x_lr ad nL ((ls.set (k + 1) .null).set k v) LS' := by
  refine ⟨by rw [List.length_set, List.length_set]; exact hl, x_has_mono h fun q hq => ?_⟩
  obtain ⟨i, w⟩ := q
  obtain ⟨u, hu, hn, rfl⟩ := x_al_mem.mp hq
  rw [List.getElem?_set] at hu
  by_cases hik : k = i
  · rw [if_pos hik] at hu
    split at hu
    · cases hu
      rw [← hik]
      exact List.mem_cons_self
    · cases hu
  · rw [if_neg hik, List.getElem?_set] at hu
    by_cases hik1 : k + 1 = i
    · rw [if_pos hik1] at hu
      split at hu
      · cases hu; exact absurd rfl hn
      · cases hu
    · rw [if_neg hik1] at hu
      refine List.mem_cons_of_mem _ (List.mem_filter.mpr ⟨x_al_mem.mpr ⟨u, hu, hn, rfl⟩, ?_⟩)
      have h2 := x_nd_ok (ad := ad) hd (x_al_mem.mpr ⟨u, hu, hn, rfl⟩)
      dsimp only at h2 ⊢
      rw [h2]
      simp
      exact ⟨fun e => hik e.symm, fun e => hik1 e.symm⟩
