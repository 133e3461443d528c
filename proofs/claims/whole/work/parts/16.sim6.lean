section XS6
variable {p : Program} {l : Launch} {e : Env} {R : Room} {s : State} {m : MethodId} {args : Array Value} {below : List Frame} {meth : Method} {c : Code} {H : Heap} {locs : List Loc} {cells slots : Nat} {Q : State → Prop}
variable {D : va_G} {cA : Nat → ClassId} {base : Nat} {cb : Nat → Nat} {xs : List Int32} {M pc : Nat} {LS : Array Slot} {ls st : List Value} {h : x_H} {q : Nat × List Value × List Value × x_H}
theorem x_str_ad {a : Nat} (h1 : 20000 ≤ a) (h2 : a < 20004) : ∃ j, j < 4 ∧ a - 20000 = j ∧ x_mv (x_ad base cb) (.ref a) = .ref (cb (20000 + j)) := by
  refine ⟨a - 20000, by omega, rfl, ?_⟩
  show Value.ref (x_ad base cb a) = _
  unfold x_ad
  rw [if_neg (by omega), show 20000 + (a - 20000) = a by omega]
theorem xs_str {i : Nat} {z : Nat × Nat × Nat} (hF : x_FF p l s m args meth c M) (hZ : x_Z D cA base cb xs s s.heap) (hP : x_Pic D cA base cb xs h H) (hS : va_S (x_Ab base) s.heap H locs) (hl : x_lr (x_ad base cb) (x_nl M) ls LS) (hRf : 4 ≤ R.frames) (hRl : 200 ≤ R.locals) (hRc : cells ≤ R.cells) (hRs : slots ≤ R.slots)
    (hz : x_lk x_itab (M / 100) i = some z) (hk : z.1 = 7 ∨ z.1 = 8 ∨ z.1 = 9) (hd : decode (x_code M) pc = .ok (.invokevirtual i, 3))
    (ha : x_str z.1 (pc + 3) ls st h = some (.inl q)) (k : x_Kt p l e R s m args below meth c Q D cA base cb xs M cells slots h q.1 q.2.1 q.2.2.1 q.2.2.2) :
    W p l e R s m args below meth c H locs cells slots Q (F0 m pc LS (st.map (x_mv (x_ad base cb)))) := by
  obtain ⟨hx, hb, hml, hown, hg, hin⟩ := hF
  obtain ⟨ps, -, hok⟩ := x_ip_mem (x_lk_mem hz)
  have hZH := x_Z_H hZ hS
  obtain ⟨kk, M', n⟩ := z
  dsimp only at hk ha hok
  unfold x_str at ha
  have hloc : ∀ x : Nat, x ≤ 64 → ∀ y, y ≤ 2 → 8 + (y + 11) + x ≤ R.locals := by intro x hx y hy; omega
  rcases hk with rfl | rfl | rfl
  · rw [if_pos rfl] at ha
    split at ha
    · rename_i a r
      split at ha
      · rename_i hc
        obtain ⟨h1, h2, hw⟩ := hc
        obtain rfl := x_go_inj ha
        obtain ⟨j, hj, hja, hmv⟩ := x_str_ad (base := base) (cb := cb) h1 h2
        obtain ⟨v, ⟨cO, hO1, hO2, hO3, -⟩, -⟩ := x_str_facts hZH hj
        have hgi := x_inp_all (ws := [.methodLink (x_cn (M / 100)) i yJ0_length_8abf5, .instanceMethod yJ0_length_8abf5, .selects RJ0 yJ0_length_8abf5 yJ0_length_8abf5, .initialized RJ0]) hok
        have hG : GoodIn x_GW (wsV (x_cn (M / 100)) i RJ0 yJ0_length_8abf5 (.code yJ0_length_8abf5 cJ0_length_8abf5 1 (some .int) :: x_GW)) := x_GoodInQ (pre := [.methodLink (x_cn (M / 100)) i yJ0_length_8abf5, .instanceMethod yJ0_length_8abf5, .selects RJ0 yJ0_length_8abf5 yJ0_length_8abf5, .initialized RJ0]) hgi (List.mem_filter.mpr ⟨List.mem_of_getElem? x_cwl, rfl⟩)
        rw [List.map_cons, hmv]
        refine vp_callSi (W.runV (As := []) (rest := r.map (x_mv (x_ad base cb))) ⟨hx, hb, hml, hown, x_GW_of hg⟩ (xc_J0_length (D := D) (cA := cA) (base := base) (cb := cb) (xs := xs) l j hj) (cwV 0 (x_GW_of hg) hG rfl rfl rfl (by decide +kernel) ⟨by show 1 + 1 ≤ _; omega, hloc 20 (by decide) 1 (by decide)⟩) ⟨x_blind, ⟨cO, hO1, hO2, hO3⟩, fun U hU hW => ⟨rfl, x_Z_U hZH hU hW⟩⟩ rfl rfl hl.2.1 rfl (lv_room (by rw [x_mv_map_wt]; exact hw)) hd ⟨hRc, hRs⟩) (fun r2 hr0 => ?_)
        subst hr0
        have k1 := k H locs LS cells slots hP hS hl rfl rfl
        rw [List.map_cons, hja] at k1
        exact k1
      · cases ha
    · cases ha
  · rw [if_neg (by decide), if_pos rfl] at ha
    split at ha
    · rename_i a r
      split at ha
      · rename_i hc
        obtain ⟨h1, h2, hw⟩ := hc
        obtain rfl := x_go_inj ha
        obtain ⟨j, hj, hja, hmv⟩ := x_str_ad (base := base) (cb := cb) h1 h2
        obtain ⟨v, ⟨cO, hO1, hO2, hO3, -⟩, -⟩ := x_str_facts hZH hj
        have hgi := x_inp_all (ws := [.methodLink (x_cn (M / 100)) i yJ0_isEmpty_aae02, .instanceMethod yJ0_isEmpty_aae02, .selects RJ0 yJ0_isEmpty_aae02 yJ0_isEmpty_aae02, .initialized RJ0]) hok
        have hG : GoodIn x_GW (wsV (x_cn (M / 100)) i RJ0 yJ0_isEmpty_aae02 (.code yJ0_isEmpty_aae02 cJ0_isEmpty_aae02 1 (some .boolean) :: x_GW)) := x_GoodInQ (pre := [.methodLink (x_cn (M / 100)) i yJ0_isEmpty_aae02, .instanceMethod yJ0_isEmpty_aae02, .selects RJ0 yJ0_isEmpty_aae02 yJ0_isEmpty_aae02, .initialized RJ0]) hgi (List.mem_filter.mpr ⟨List.mem_of_getElem? x_cwe, rfl⟩)
        rw [List.map_cons, hmv]
        refine vp_callSi (W.runV (As := []) (rest := r.map (x_mv (x_ad base cb))) ⟨hx, hb, hml, hown, x_GW_of hg⟩ (xc_J0_isEmpty (D := D) (cA := cA) (base := base) (cb := cb) (xs := xs) l j hj) (cwV 0 (x_GW_of hg) hG rfl rfl rfl (by decide +kernel) ⟨by show 0 + 1 ≤ _; omega, hloc 0 (by decide) 1 (by decide)⟩) ⟨x_blind, ⟨cO, hO1, hO2, hO3⟩, fun U hU hW => ⟨rfl, x_Z_U hZH hU hW⟩⟩ rfl rfl hl.2.1 rfl (lv_room (by rw [x_mv_map_wt]; exact hw)) hd ⟨hRc, hRs⟩) (fun r2 hr0 => ?_)
        subst hr0
        have k1 := k H locs LS cells slots hP hS hl rfl rfl
        rw [List.map_cons, hja] at k1
        exact k1
      · cases ha
    · cases ha
  · rw [if_neg (by decide), if_neg (by decide)] at ha
    split at ha
    · rename_i ix a r
      split at ha
      · rename_i hc
        obtain ⟨h1, h2, hw⟩ := hc
        split at ha
        · rename_i x hxx
          obtain rfl := x_go_inj ha
          obtain ⟨j, hj, hja, hmv⟩ := x_str_ad (base := base) (cb := cb) h1 h2
          rw [hja] at hxx
          obtain ⟨v, ⟨cO, hO1, hO2, hO3, -⟩, -⟩ := x_str_facts hZH hj
          have hgi := x_inp_all (ws := [.methodLink (x_cn (M / 100)) i yJ0_charAt_5068e, .instanceMethod yJ0_charAt_5068e, .selects RJ0 yJ0_charAt_5068e yJ0_charAt_5068e, .initialized RJ0]) hok
          have hG : GoodIn x_GW (wsV (x_cn (M / 100)) i RJ0 yJ0_charAt_5068e (.code yJ0_charAt_5068e cJ0_charAt_5068e 2 (some .char) :: x_GW)) := x_GoodInQ (pre := [.methodLink (x_cn (M / 100)) i yJ0_charAt_5068e, .instanceMethod yJ0_charAt_5068e, .selects RJ0 yJ0_charAt_5068e yJ0_charAt_5068e, .initialized RJ0]) hgi (List.mem_filter.mpr ⟨List.mem_of_getElem? x_cwc, rfl⟩)
          rw [List.map_cons, List.map_cons, hmv]
          refine vp_callSi (W.runV (As := [.int ix]) (rest := r.map (x_mv (x_ad base cb))) ⟨hx, hb, hml, hown, x_GW_of hg⟩ (xc_J0_charAt (D := D) (cA := cA) (base := base) (cb := cb) (xs := xs) l j hj ix x hxx) (cwV 1 (x_GW_of hg) hG rfl rfl rfl (by decide +kernel) ⟨by show 3 + 1 ≤ _; omega, hloc 64 (by decide) 2 (by decide)⟩) ⟨x_blind, ⟨cO, hO1, hO2, hO3⟩, fun U hU hW => ⟨rfl, x_Z_U hZH hU hW⟩⟩ rfl rfl hl.2.1 rfl (lv_room (by rw [x_mv_map_wt]; exact hw)) hd ⟨hRc, hRs⟩) (fun r2 hr0 => ?_)
          subst hr0
          exact k H locs LS cells slots hP hS hl rfl rfl
        · cases ha
      · cases ha
    · cases ha
theorem x_args_ninl {M' n nx : Nat} {st : List Value} (ha : x_args M' n nx st = some (.inl q)) : False := by
  unfold x_args at ha
  split at ha <;> cases ha
theorem x_call_ninl {M M' n nx : Nat} {st : List Value} (ha : x_call M M' n nx st = some (.inl q)) : False := by
  unfold x_call at ha
  split at ha
  · exact x_args_ninl ha
  · cases ha
set_option maxHeartbeats 4000000 in
theorem x_sim3 {i : Instr} (hF : x_FF p l s m args meth c M) (hZ : x_Z D cA base cb xs s s.heap) (hP : x_Pic D cA base cb xs h H) (hS : va_S (x_Ab base) s.heap H locs) (hl : x_lr (x_ad base cb) (x_nl M) ls LS) (hRf : 4 ≤ R.frames) (hRl : 200 ≤ R.locals) (hRc : cells ≤ R.cells) (hRs : slots ≤ R.slots)
    (hrc : cells + q.2.2.2.2.2.1 ≤ R.cells + h.2.2.1) (hrs : slots + q.2.2.2.2.2.2 ≤ R.slots + h.2.2.2)
    (hd : decode (x_code M) pc = .ok (i, x_len1 i)) (ha : x_do3 M pc ls st h i = some (.inl q)) (k : x_Kt p l e R s m args below meth c Q D cA base cb xs M cells slots h q.1 q.2.1 q.2.2.1 q.2.2.2) :
    W p l e R s m args below meth c H locs cells slots Q (F0 m pc LS (st.map (x_mv (x_ad base cb)))) := by
  have hF' := hF
  obtain ⟨hx, hb, hml, hown, hg, hin⟩ := hF'
  unfold x_do3 at ha
  split at ha
  · exact xs_ald hx hb hZ hP hS hl (Or.inl ⟨rfl, hd⟩) ha k
  · exact xs_ald hx hb hZ hP hS hl (Or.inr (Or.inl ⟨rfl, hd⟩)) ha k
  · exact xs_ald hx hb hZ hP hS hl (Or.inr (Or.inr ⟨rfl, hd⟩)) ha k
  · exact xs_ast hx hb hZ hP hS hl (fun x => Or.inl ⟨rfl, hd, rfl⟩) ha k
  · exact xs_ast hx hb hZ hP hS hl (fun x => Or.inr (Or.inl ⟨rfl, hd, rfl⟩)) ha k
  · exact xs_ast hx hb hZ hP hS hl (fun x => Or.inr (Or.inr ⟨rfl, hd, rfl⟩)) ha k
  · exact xs_vld hx hb hZ hP hS hl (Or.inl ⟨rfl, hd⟩) ha k
  · exact xs_vld hx hb hZ hP hS hl (Or.inr (Or.inl ⟨rfl, hd⟩)) ha k
  · exact xs_vld hx hb hZ hP hS hl (Or.inr (Or.inr ⟨rfl, hd⟩)) ha k
  · exact xs_vst hx hb hZ hP hS hl (Or.inl ⟨rfl, hd, rfl⟩) ha k
  · exact xs_vst hx hb hZ hP hS hl (Or.inr ⟨rfl, hd, rfl⟩) ha k
  · exact xs_bst hx hb hZ hP hS hl hd ha k
  · exact xs_len hx hb hZ hP hS hl hd ha k
  · exact xs_newa hF hZ hP hS hl hrc hrs hd (fun n => Or.inl ⟨rfl, rfl⟩) ha k
  · exact xs_newa hF hZ hP hS hl hrc hrs hd (fun n => Or.inr (Or.inl ⟨rfl, rfl⟩)) ha k
  · exact xs_newa hF hZ hP hS hl hrc hrs hd (fun n => Or.inr (Or.inr (Or.inl ⟨rfl, rfl⟩))) ha k
  · exact xs_newa hF hZ hP hS hl hrc hrs hd (fun n => Or.inr (Or.inr (Or.inr (Or.inl ⟨rfl, rfl⟩)))) ha k
  · exact xs_newa hF hZ hP hS hl hrc hrs hd (fun n => Or.inr (Or.inr (Or.inr (Or.inr ⟨rfl, rfl⟩)))) ha k
  · split at ha
    · rename_i hz
      exact xs_newq hF hZ hP hS hl hrc hrs hz hd ha k
    · cases ha
  · split at ha
    · rename_i z hz
      exact xs_get hF hZ hP hS hl hz hd ha k
    · cases ha
  · split at ha
    · rename_i z hz
      exact xs_put hF hZ hP hS hl hz hd ha k
    · cases ha
  · split at ha
    · rename_i ci hz
      exact xs_new hF hZ hP hS hl hrc hrs hz hd ha k
    · split at ha
      · split at ha <;> cases ha
      · cases ha
  · split at ha
    · rename_i z hz
      split at ha
      · split at ha
        · exact (x_call_ninl ha).elim
        · cases ha
      · split at ha
        · rename_i hk
          split at ha
          · exact xs_str hF hZ hP hS hl hRf hRl hRc hRs hz hk hd ha k
          · cases ha
        · cases ha
    · cases ha
  · split at ha
    · rename_i z hz
      split at ha
      · exact (x_call_ninl ha).elim
      · split at ha
        · rename_i hk
          have hz2 : (M / 100, _, z.1, z.2.1, z.2.2) ∈ x_itab := x_lk_mem hz
          rw [hk] at hz2
          have h6 : ∀ q ∈ x_itab, q.2.2.1 = 6 → q.2.2.2 = (0, 5) := by decide +kernel
          have h7 := h6 _ hz2 rfl
          obtain ⟨z1, z2, z3⟩ := z
          cases h7
          exact xs_cpy hF hZ hP hS hl (by omega) hRl hz2 hd ha k
        · cases ha
    · cases ha
  · split at ha
    · rename_i z hz
      split at ha
      · split at ha
        · exact (x_call_ninl ha).elim
        · cases ha
      · split at ha
        · rename_i hk
          obtain ⟨ps, -, hok⟩ := x_ip_mem (x_lk_mem hz)
          obtain ⟨z1, z2, z3⟩ := z
          dsimp only at hk hok
          subst hk
          split at ha
          · split at ha
            · rename_i b r hw
              obtain rfl := x_go_inj ha
              have hgi := x_inp_all (ws := [.methodLink (x_cn (M / 100)) _ objectInit, .instanceMethod objectInit, .code objectInit ⟨#[0xb1]⟩ 1 none]) hok
              exact W.objInit hx hb hown (x_GW_of hg _ (hgi _ List.mem_cons_self)) (x_GW_of hg _ (hgi _ (List.mem_cons_of_mem _ List.mem_cons_self))) (x_GW_of hg _ (hgi _ (List.mem_cons_of_mem _ (List.mem_cons_of_mem _ List.mem_cons_self)))) rfl (hl.2.1.trans hml.symm) rfl hd (by omega) (by show 2 * 0 + _ + 12 ≤ _; rw [x_mv_map_wt]; omega) (k H locs LS cells slots hP hS hl rfl rfl)
            · cases ha
          · cases ha
        · cases ha
    · cases ha
  · cases ha
theorem xs_sw {off : Int32 → Option Int} (hP : x_Pic D cA base cb xs h H) (hS : va_S (x_Ab base) s.heap H locs) (hl : x_lr (x_ad base cb) (x_nl M) ls LS)
    (row : ∀ (x : Int32) (r : List Value) (o : Int) (tgt : Nat), off x = some o → (pc : Int) + o = (tgt : Int) → W p l e R s m args below meth c H locs cells slots Q (F0 m tgt LS r) → W p l e R s m args below meth c H locs cells slots Q (F0 m pc LS (.int x :: r)))
    (ha : x_sw off pc ls st h = some (.inl q)) (k : x_Kt p l e R s m args below meth c Q D cA base cb xs M cells slots h q.1 q.2.1 q.2.2.1 q.2.2.2) :
    W p l e R s m args below meth c H locs cells slots Q (F0 m pc LS (st.map (x_mv (x_ad base cb)))) := by
  unfold x_sw at ha
  split at ha
  · rename_i x r
    split at ha
    · rename_i o ho
      split at ha
      · rename_i t ht
        obtain rfl := x_go_inj ha
        exact row x _ o t ho (x_bj_ok ht) (k H locs LS cells slots hP hS hl rfl rfl)
      · cases ha
    · cases ha
  · cases ha
theorem x_sim4 {i : Instr} {len : Nat} (hF : x_FF p l s m args meth c M) (hP : x_Pic D cA base cb xs h H) (hS : va_S (x_Ab base) s.heap H locs) (hl : x_lr (x_ad base cb) (x_nl M) ls LS)
    (hd : decode (x_code M) pc = .ok (i, len)) (ha : x_do4 M pc ls st h i = some (.inl q)) (k : x_Kt p l e R s m args below meth c Q D cA base cb xs M cells slots h q.1 q.2.1 q.2.2.1 q.2.2.2) :
    W p l e R s m args below meth c H locs cells slots Q (F0 m pc LS (st.map (x_mv (x_ad base cb)))) := by
  obtain ⟨hx, hb, hml, hown, hg, hin⟩ := hF
  unfold x_do4 at ha
  have nf : ∀ (v : Option Value), x_fin v h = some (.inl q) → False := fun v z => by unfold x_fin at z; cases z
  split at ha
  · split at ha
    · split at ha
      · split at ha
        · exact (nf _ ha).elim
        · cases ha
      · cases ha
    · cases ha
  · split at ha
    · split at ha
      · exact (nf _ ha).elim
      · cases ha
    · cases ha
  · split at ha
    · split at ha
      · exact (nf _ ha).elim
      · cases ha
    · cases ha
  · split at ha
    · split at ha
      · exact (nf _ ha).elim
      · cases ha
    · cases ha
  · split at ha
    · split at ha
      · exact (nf _ ha).elim
      · cases ha
    · cases ha
  · refine xs_sw hP hS hl (fun x r o t ho ht kk => ?_) ha k
    unfold x_tsw at ho
    split at ho
    · rename_i h1
      cases ho
      exact lv_tableOut hx hb hd (Or.inl h1) ht kk
    · split at ho
      · rename_i h1 h2
        cases ho
        exact lv_tableOut hx hb hd (Or.inr h2) ht kk
      · rename_i h1 h2
        exact lv_tableIn hx hb hd h1 h2 ho ht kk
  · split at ha
    · rename_i hp
      refine xs_sw hP hS hl (fun x r o t ho ht kk => ?_) ha k
      cases ho
      exact lv_lookup hx hb hd hp rfl ht kk
    · cases ha
  · cases ha
end XS6
