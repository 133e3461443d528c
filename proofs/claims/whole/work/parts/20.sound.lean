def x_St (D : va_G) (cA : Nat → ClassId) (base : Nat) (cb : Nat → Nat) (xs : List Int32) (h : x_H) (U : State) : Prop := x_Z D cA base cb xs U U.heap ∧ x_Pic D cA base cb xs h U.heap
def x_Qc (D : va_G) (cA : Nat → ClassId) (base : Nat) (cb : Nat → Nat) (xs : List Int32) (r : x_R) (h' : x_H) : Array Value → State → Outcome → State → Prop := fun _ st o t => (∃ v : Option Value, r = .inl v ∧ o = .returned (v.map (x_mv (x_ad base cb)))) ∧ x_Pic D cA base cb xs h' t.heap ∧ va_F (x_Ab base) st t
def x_XC (D : va_G) (cA : Nat → ClassId) (base : Nat) (cb : Nat → Nat) (xs : List Int32) (r : x_R) (h' : x_H) : String → State → State → Prop := fun E st t => r = .inr E ∧ x_Pic D cA base cb xs h' t.heap ∧ va_F (x_Ab base) st t
def x_rm (M : Nat) (h h' : x_H) : Room := { frames := x_hgt M + 6, cells := h'.2.2.1 - h.2.2.1, slots := h'.2.2.2 - h.2.2.2, locals := 100 * x_hgt M + 200 }
def x_Snd (n : Nat) : Prop := ∀ (M pc : Nat) (ls st : List Value) (h : x_H) (r : x_R) (h' : x_H), x_exec n M pc ls st h = some (r, h') →
  ∀ (p : Program) (l : Launch) (e : Env) (R : Room) (s : State) (m : MethodId) (args : Array Value) (below : List Frame) (meth : Method) (c : Code) (H : Heap) (locs : List Loc) (cells slots : Nat) (Q : State → Prop) (D : va_G) (cA : Nat → ClassId) (base : Nat) (cb : Nat → Nat) (xs : List Int32) (LS : Array Slot),
  l.stackTraces = false → x_FF p l s m args meth c M → x_Z D cA base cb xs s s.heap → ((x_hs M).isEmpty = false → c.exceptionTable.toList = tableOf (x_hh M)) → (x_hs M).all (x_hok1 M) = true ∧ x_hok2 (x_hs M) = true →
  x_Pic D cA base cb xs h H → va_S (x_Ab base) s.heap H locs → x_lr (x_ad base cb) (x_nl M) ls LS → x_hgt M + 6 ≤ R.frames → 100 * x_hgt M + 200 ≤ R.locals → cells + h'.2.2.1 ≤ R.cells + h.2.2.1 → slots + h'.2.2.2 ≤ R.slots + h.2.2.2 →
  (∀ (v : Option Value) (pc' : Nat) (st' : List Value) (i : Instr) (len : Nat) (LS' : Array Slot) (H' : Heap) (locs' : List Loc) (cells' slots' : Nat), r = .inl v → decode (x_code M) pc' = .ok (i, len) → (len = x_len1 i ∨ x_isw i = true) → x_isret M st' i v → x_Pic D cA base cb xs h' H' → va_S (x_Ab base) s.heap H' locs' → cells' + h.2.2.1 = cells + h'.2.2.1 → slots' + h.2.2.2 = slots + h'.2.2.2 →
    W p l e R s m args below meth c H' locs' cells' slots' Q (F0 m pc' LS' (st'.map (x_mv (x_ad base cb))))) →
  (∀ (E : String) (pc' : Nat) (st' : List Value) (h1 : x_H) (LS' : Array Slot) (H' : Heap) (locs' : List Loc) (cells' slots' : Nat), r = .inr E → x_tth M pc' = some E → x_wt st' ≤ 8 → h1.2.1 ≤ h1.2.2.1 → h' = (h1.1, h1.2.1, h1.2.2.1 + 1, h1.2.2.2 + 6) → LS'.size = x_nl M → x_Pic D cA base cb xs h1 H' → va_S (x_Ab base) s.heap H' locs' → cells' + h.2.2.1 = cells + h1.2.2.1 → slots' + h.2.2.2 = slots + h1.2.2.2 →
    W p l e R s m args below meth c H' locs' cells' slots' Q (F0 m pc' LS' (st'.map (x_mv (x_ad base cb))))) →
  (∀ (E : String) (pc' q : Nat) (rest : List Value) (ce : Cell) (LS' : Array Slot) (H' : Heap) (locs' : List Loc) (cells' slots' : Nat), r = .inr E → x_hdl M pc' E = none → x_Pic D cA base cb xs h' H' → va_S (x_Ab base) s.heap H' locs' → H'[q]? = some ce → ce.vm = .none → s.vm.findClass E = some ce.cls → cells' + h.2.2.1 = cells + h'.2.2.1 → slots' + h.2.2.2 = slots + h'.2.2.2 →
    vx_W p l e R s m args below meth c H' locs' cells' slots' Q (F0 m pc' LS' rest) q) →
  W p l e R s m args below meth c H locs cells slots Q (F0 m pc LS (st.map (x_mv (x_ad base cb))))
theorem x_St_blind {D : va_G} {cA : Nat → ClassId} {base : Nat} {cb : Nat → Nat} {xs : List Int32} {h : x_H} {av : List Value} : FrameBlind (va_Pc av (x_St D cA base cb xs h)) := fun a U g mk q => ⟨q.1, x_Z_same q.2.1 rfl, q.2.2⟩
theorem x_Pic_kept {D : va_G} {cA : Nat → ClassId} {base : Nat} {cb : Nat → Nat} {xs : List Int32} {h : x_H} {H H1 : Heap} (hP : x_Pic D cA base cb xs h H) (hN : h.2.1 ≤ h.2.2.1) (hq : ∀ q : Nat, q < H.size → H1[q]? = H[q]?) : x_Pic D cA base cb xs (h.1, h.2.1, h.2.2.1 + 1, h.2.2.2 + 6) H1 := by
  obtain ⟨p1, p2, p3, p4⟩ := hP
  exact ⟨x_P_kept p1 hq, fun z => by dsimp only at z; omega, p3, p4⟩
theorem x_wt1 {vs : List Value} (h : x_wt vs = vs.length) : ∀ v ∈ vs, v.category = 1 := by
  have hge : ∀ ws : List Value, ws.length ≤ x_wt ws := by
    intro ws
    induction ws with
    | nil => exact Nat.le_refl _
    | cons v r ih =>
      show r.length + 1 ≤ v.category + x_wt r
      have : 1 ≤ v.category := by cases v <;> exact Nat.le_of_ble_eq_true rfl
      omega
  induction vs with
  | nil => intro v hv; cases hv
  | cons a r ih =>
    have h1 : a.category + x_wt r = r.length + 1 := h
    have h2 := hge r
    have h3 : 1 ≤ a.category := by cases a <;> exact Nat.le_of_ble_eq_true rfl
    intro v hv
    rcases List.mem_cons.mp hv with rfl | hv
    · omega
    · exact ih (by omega) v hv
theorem x_args_in {vs : List Value} (h : ∀ v ∈ vs, v.category = 1) : ∀ (k i : Nat) (v : Value), vs[i]? = some v → (k + i, v) ∈ lv_args k vs := by
  induction vs with
  | nil => intro k i v hv; cases hv
  | cons a r ih =>
    intro k i v hv
    have ha : ¬ a.category = 2 := by rw [h a List.mem_cons_self]; decide
    show (k + i, v) ∈ (k, a) :: lv_args (if a.category = 2 then k + 2 else k + 1) r
    rw [if_neg ha]
    cases i with
    | zero =>
      cases hv
      exact List.mem_cons_self
    | succ j =>
      have h1 := ih (fun v hv => h v (List.mem_cons_of_mem _ hv)) (k + 1) j v hv
      rw [show k + (j + 1) = k + 1 + j by omega]
      exact List.mem_cons_of_mem _ h1
theorem x_sl_len {vs : List Value} (h : ∀ v ∈ vs, v.category = 1) : (lg_sl vs).length = vs.length := by
  induction vs with
  | nil => rfl
  | cons a r ih =>
    have ha : ¬ a.category = 2 := by rw [h a List.mem_cons_self]; decide
    have h1 := ih (fun v hv => h v (List.mem_cons_of_mem _ hv))
    unfold lg_sl at h1 ⊢
    rw [List.flatMap_cons, if_neg ha, List.length_append, h1]
    show 1 + r.length = r.length + 1
    omega
theorem x_entry {ad : Nat → Nat} {M : Nat} {av : List Value} (hw : x_wt av = av.length) (hn : av.length ≤ x_nl M) (m : MethodId) : ∃ LS : Array Slot, entryFrame m ((av.map (x_mv ad)).toArray) (x_nl M) = F0 m 0 LS [] ∧ x_lr ad (x_nl M) (x_ent M av) LS := by
  have hc : ∀ v ∈ av.map (x_mv ad), v.category = 1 := by
    intro v hv
    obtain ⟨u, hu, rfl⟩ := List.mem_map.mp hv
    rw [x_mv_cat]
    exact x_wt1 hw u hu
  have hlen := x_sl_len hc
  have hl := lv_entry (av.map (x_mv ad)) (n := x_nl M) (by rw [hlen, List.length_map]; exact hn)
  refine ⟨_, lg_entry_eq _ _ _, ?_, ?_⟩
  · unfold x_ent
    rw [List.length_append, List.length_replicate]
    omega
  · refine x_has_mono hl fun q hq => ?_
    obtain ⟨i, w⟩ := q
    obtain ⟨v, hv, hnn, rfl⟩ := x_al_mem.mp hq
    unfold x_ent at hv
    by_cases hi : i < av.length
    · rw [List.getElem?_append_left hi] at hv
      have := x_args_in hc 0 i (x_mv ad v) (by rw [List.getElem?_map, hv]; rfl)
      rw [Nat.zero_add] at this
      exact this
    · rw [List.getElem?_append_right (by omega), List.getElem?_replicate] at hv
      split at hv
      · cases hv; exact absurd rfl hnn
      · cases hv
theorem x_meth {n : Nat} (hS : x_Snd n) {M : Nat} {av : List Value} {h h' : x_H} {r : x_R} (hx : x_exec n M 0 (x_ent M av) [] h = some (r, h')) (hw : x_wt av = av.length) (hn : av.length ≤ x_nl M) (hM : x_mids.contains M = true) (hh : x_noh M = true ∨ ∃ v, r = .inl v)
    (l : Launch) (hlt : l.stackTraces = false) (D : va_G) (cA : Nat → ClassId) (base : Nat) (cb : Nat → Nat) (xs : List Int32) :
    vx_Met l (x_y M) (x_cw M :: x_GW) (x_rm M h h') (va_Pc (av.map (x_mv (x_ad base cb))) (x_St D cA base cb xs h)) (x_Qc D cA base cb xs r h') (x_XC D cA base cb xs r h') (h'.2.2.1 - h.2.2.1) (h'.2.2.2 - h.2.2.2) (x_Ab base) := by
  have hmono := x_exec_mono n _ _ _ _ _ _ _ hx
  have hok := List.all_eq_true.mp x_mids_ok M (by simpa using hM)
  unfold x_mok at hok
  simp only [Bool.and_eq_true, decide_eq_true_eq] at hok
  obtain ⟨⟨⟨o1, o2⟩, o3⟩, o4⟩ := hok
  have body : ∀ p e s m args below meth c s₁, BodyLoose p l (x_y M) (headSpec (x_cw M :: x_GW) (x_rm M h h')) (x_code M) (x_nl M) (x_ret M) e s m args below meth c s₁ → c.maxLocals = x_nl M → c.exceptionTable.toList = tableOf (x_hh M) → va_Pc (av.map (x_mv (x_ad base cb))) (x_St D cA base cb xs h) args s →
      W p l e (x_rm M h h') s m args below meth c s.heap [] 0 0 (vx_MQ below (x_Qc D cA base cb xs r h') (x_XC D cA base cb xs r h') args s (h'.2.2.1 - h.2.2.1) (h'.2.2.2 - h.2.2.2) (x_Ab base)) (entryFrame m args (x_nl M)) := by
    intro p e s m args below meth c s₁ B hml hT hv
    obtain ⟨rfl, hZ, hP⟩ := hv
    have hxx := B.exec
    have hb := B.bytes
    have hr := B.returns
    have hlocks := B.notSynchronized
    have hg := x_gw_of (atoms_spec (ws := x_cw M :: x_GW) B.pre)
    have hown : s.vm.findClass (x_cn (M / 100)) = some m.cls := by rw [← o2]; exact findClass_of_methodNamed B.named
    have hF : x_FF p l s m ((av.map (x_mv (x_ad base cb))).toArray) meth c M := ⟨hxx, hb, hml, hown, hg, fun z => by rw [(name_of_methodNamed B.named B.method).1]; exact z⟩
    obtain ⟨LS, hent, hlr⟩ := x_entry (ad := x_ad base cb) hw hn m
    rw [hent]
    refine hS M 0 (x_ent M av) [] h r h' hx p l e (x_rm M h h') s m _ below meth c s.heap [] 0 0 _ D cA base cb xs LS hlt hF hZ (fun _ => hT) ⟨o3, o4⟩ hP va_S.rf hlr (Nat.le_refl _) (Nat.le_refl _) (by show 0 + _ ≤ h'.2.2.1 - h.2.2.1 + _; omega) (by show 0 + _ ≤ h'.2.2.2 - h.2.2.2 + _; omega) ?_ ?_ ?_
    · intro v pc' st' i len LS' H' locs' cells' slots' hrv hd hlen hret hP' hS' hc hs
      have ec : cells' = h'.2.2.1 - h.2.2.1 := by omega
      have es : slots' = h'.2.2.2 - h.2.2.2 := by omega
      subst ec
      subst es
      have hq : ∀ t : State, t.heap = H' → s.WarmedH t.vm → x_Qc D cA base cb xs r h' ((av.map (x_mv (x_ad base cb))).toArray) s (.returned (v.map (x_mv (x_ad base cb)))) t := fun t ht hW => ⟨⟨v, hrv, rfl⟩, by rw [ht]; exact hP', hS'.F ht⟩
      have hlen1 : x_isw i = false → len = x_len1 i := fun z => hlen.resolve_right (by rw [z]; decide)
      rcases hret with ⟨x, ty, rfl, rfl, rfl, hty, hnar⟩ | ⟨a, rfl, rfl, rfl, hty⟩ | ⟨x, rfl, rfl, rfl, hty⟩ | ⟨x, rfl, rfl, rfl, hty⟩ | ⟨rfl, rfl, rfl, hty⟩
      · have := hlen1 rfl
        subst this
        exact vx_ret (W.zret hxx hb (hr.trans hty) hnar hq hS'.2.2 hd)
      · have := hlen1 rfl
        subst this
        exact vx_ret (W.aret hxx hb (hr.trans hty) (Or.inl ⟨_, rfl⟩) (Or.inr ⟨_, rfl⟩) hq hS'.2.2 hd)
      · have := hlen1 rfl
        subst this
        exact vx_ret (W.fret hxx hb (hr.trans hty) hq hS'.2.2 hd)
      · have := hlen1 rfl
        subst this
        exact vx_ret (W.dret hxx hb (hr.trans hty) hq hS'.2.2 hd)
      · have := hlen1 rfl
        subst this
        exact vx_ret (W.vret hxx hb (hr.trans hty) hq hS'.2.2 hd)
    · intro E pc' st' h1 LS' H' locs' cells' slots' hrE htt hwt hN hh' hsz hP' hS' hc hs
      subst hh'
      dsimp only at hmono hc hs ⊢
      refine x_throw hF hZ hlt hlocks hT hS' hsz htt (by show 6 ≤ x_hgt M + 6; omega) (by rw [x_mv_map_wt]; show _ ≤ 100 * x_hgt M + 200; omega) (by show cells' + 1 ≤ h1.2.2.1 + 1 - h.2.2.1; omega) (by show slots' + 6 ≤ h1.2.2.2 + 6 - h.2.2.2; omega) (by omega) (by omega) (fun t hal hsz2 hq => ⟨hrE, x_Pic_kept hP' hN hq, ?_⟩)
      exact ⟨Nat.le_trans hS'.1 hsz2, fun q h1 h2 => (hq q (Nat.lt_of_lt_of_le h1 hS'.1)).trans (hS'.2.1 q h1 h2)⟩
    · intro E pc' q rest ce LS' H' locs' cells' slots' hrE hhd hP' hS' hce hcv hcl hc hs
      have hnoh : x_noh M = true := by
        rcases hh with hh | ⟨v, hv⟩
        · exact hh
        · rw [hv] at hrE; cases hrE
      have hno : ∀ x ∈ c.exceptionTable.toList, covers x pc' = false := by
        intro x hx
        rw [hT] at hx
        have : x_hh M = [] := by
          unfold x_noh at hnoh
          unfold x_hh
          rw [List.isEmpty_iff.mp hnoh]
          rfl
        rw [this] at hx
        cases hx
      exact vx_out hno hlocks hce hcv hcl (fun t ht hal => ⟨hrE, by rw [ht]; exact hP', hS'.F ht⟩) hS'.2.2 (by omega) (by omega)
  by_cases hnoh : x_noh M = true
  · have hcw : x_cw M = .code (x_y M) (x_code M) (x_nl M) (x_ret M) := by unfold x_cw; rw [if_pos hnoh]
    have hhh : x_hh M = [] := by
      unfold x_noh at hnoh
      unfold x_hh
      rw [List.isEmpty_iff.mp hnoh]
      rfl
    refine vx_ofW (cc := x_code M) (maxL := x_nl M) (ret := x_ret M) o1 (by rw [hcw]) ?_
    intro p e s m args below meth c s₁ B hml hno hv
    refine body p e s m args below meth c s₁ B hml ?_ hv
    rw [hhh]
    exact List.eq_nil_iff_forall_not_mem.mpr fun x hx => hno x hx
  · have hcw : x_cw M = .codeWith (x_y M) (x_code M) (x_nl M) (x_ret M) (x_hh M) := by unfold x_cw; rw [if_neg hnoh]
    refine vx_ofWH (cc := x_code M) (maxL := x_nl M) (ret := x_ret M) (hh := x_hh M) o1 (by rw [hcw]) ?_
    intro p e s m args below meth c s₁ B hml hv
    refine body p e s m args below meth c s₁ B hml ?_ hv
    have h1 := atoms_spec (ws := x_cw M :: x_GW) B.pre _ List.mem_cons_self
    rw [hcw] at h1
    exact vx_table (x := x_y M) B h1
