theorem x_ip_mem {q : Nat × Nat × Nat × Nat × Nat} (h : q ∈ x_itab) : ∃ ps, (q, ps) ∈ x_ip ∧ x_iok (q, ps) = true := by
  rw [← x_ip_eq] at h
  obtain ⟨z, hz, rfl⟩ := List.mem_map.mp h
  obtain ⟨q, ps⟩ := z
  exact ⟨ps, hz, List.all_eq_true.mp x_ip_ok _ hz⟩
theorem x_inp_all {ws : List Cond} {ps : List Nat} (h : x_inp ws ps = true) : ∀ w ∈ ws, w ∈ x_GW := by
  unfold x_inp at h
  rw [Bool.and_eq_true] at h
  obtain ⟨h1, h2⟩ := h
  have hl : ws.length = ps.length := by simpa using h1
  intro w hw
  obtain ⟨k, hk⟩ := List.getElem?_of_mem hw
  have hkl : k < ws.length := (List.getElem?_eq_some_iff.mp hk).1
  have hz : (w, ps[k]'(by omega)) ∈ ws.zip ps := by
    refine List.mem_of_getElem? (i := k) ?_
    rw [List.getElem?_zip_eq_some]
    exact ⟨hk, List.getElem?_eq_getElem _⟩
  have h3 := List.all_eq_true.mp h2 _ hz
  simp only [Bool.and_eq_true, decide_eq_true_eq] at h3
  exact List.mem_filter.mpr ⟨List.mem_of_getElem? h3.1, h3.2⟩
theorem x_GoodInP {cw : Cond} {pre : List Cond} (h : ∀ w ∈ pre ++ [cw], w ∈ x_GW) : GoodIn x_GW (pre ++ (cw :: x_GW)) := by
  refine x_GoodIn fun w hw => ?_
  rcases List.mem_append.mp hw with h1 | h1
  · exact h w (List.mem_append_left _ h1)
  · rcases List.mem_cons.mp h1 with rfl | h2
    · exact h w (List.mem_append_right _ List.mem_cons_self)
    · exact h2
theorem x_GoodInQ {cw : Cond} {pre : List Cond} (h : ∀ w ∈ pre, w ∈ x_GW) (hc : cw ∈ x_GW) : GoodIn x_GW (pre ++ (cw :: x_GW)) := x_GoodInP fun w hw => (List.mem_append.mp hw).elim (h w) (fun h1 => by rw [List.mem_singleton.mp h1]; exact hc)
theorem x_cwG {M : Nat} (h : x_mids.contains M = true) : x_cw M ∈ x_GW := List.mem_filter.mpr ⟨x_cw_in M (by simpa using h), x_cw_good M⟩
theorem x_Z_H {D : va_G} {cA : Nat → ClassId} {base : Nat} {cb : Nat → Nat} {xs : List Int32} {s : State} {H : Heap} {locs : List Loc} (hZ : x_Z D cA base cb xs s s.heap) (hS : va_S (x_Ab base) s.heap H locs) : x_Z D cA base cb xs s H := x_Z_next hZ (State.WarmedH.refl s) hS.1 hS.2.1
section XS5
variable {p : Program} {l : Launch} {e : Env} {R : Room} {s : State} {m : MethodId} {args : Array Value} {below : List Frame} {meth : Method} {c : Code} {H : Heap} {locs : List Loc} {cells slots : Nat} {Q : State → Prop}
variable {D : va_G} {cA : Nat → ClassId} {base : Nat} {cb : Nat → Nat} {xs : List Int32} {M pc : Nat} {LS : Array Slot} {ls st : List Value} {h : x_H} {q : Nat × List Value × List Value × x_H}
theorem xs_get {i : Nat} {z : Nat × Nat × Nat} (hF : x_FF p l s m args meth c M) (hZ : x_Z D cA base cb xs s s.heap) (hP : x_Pic D cA base cb xs h H) (hS : va_S (x_Ab base) s.heap H locs) (hl : x_lr (x_ad base cb) (x_nl M) ls LS)
    (hz : x_lk x_ftab (M / 100) i = some z) (hd : decode (x_code M) pc = .ok (.getfield i, 3)) (ha : x_getf z.1 z.2.1 (pc + 3) ls st h = some (.inl q)) (k : x_Kt p l e R s m args below meth c Q D cA base cb xs M cells slots h q.1 q.2.1 q.2.2.1 q.2.2.2) :
    W p l e R s m args below meth c H locs cells slots Q (F0 m pc LS (st.map (x_mv (x_ad base cb)))) := by
  obtain ⟨hx, hb, hml, hown, hg, hin⟩ := hF
  unfold x_getf at ha
  split at ha
  · rename_i a r
    split at ha
    · rename_i ci li hf
      split at ha
      · rename_i hc
        obtain ⟨rfl, haN⟩ := hc
        split at ha
        · rename_i v hv
          obtain rfl := x_go_inj ha
          have hr : x_mv (x_ad base cb) (.ref a) = .ref (x_ad base cb a) := rfl
          rw [List.map_cons, hr, x_ad_lt hP.2.2.1 haN]
          exact xw_get hx hb hg hown hZ.1 hP.1 haN hz hf hv hd (k H locs LS cells slots hP hS hl rfl rfl)
        · cases ha
      · cases ha
    · cases ha
  · cases ha
theorem xs_put {i : Nat} {z : Nat × Nat × Nat} (hF : x_FF p l s m args meth c M) (hZ : x_Z D cA base cb xs s s.heap) (hP : x_Pic D cA base cb xs h H) (hS : va_S (x_Ab base) s.heap H locs) (hl : x_lr (x_ad base cb) (x_nl M) ls LS)
    (hz : x_lk x_ftab (M / 100) i = some z) (hd : decode (x_code M) pc = .ok (.putfield i, 3)) (ha : x_putf M z.1 z.2.1 (pc + 3) ls st h = some (.inl q)) (k : x_Kt p l e R s m args below meth c Q D cA base cb xs M cells slots h q.1 q.2.1 q.2.2.1 q.2.2.2) :
    W p l e R s m args below meth c H locs cells slots Q (F0 m pc LS (st.map (x_mv (x_ad base cb)))) := by
  obtain ⟨hx, hb, hml, hown, hg, hin⟩ := hF
  unfold x_putf at ha
  split at ha
  · rename_i v a r
    split at ha
    · rename_i ci li hf
      split at ha
      · rename_i hc
        obtain ⟨rfl, haN, hk, hfit, hfin⟩ := hc
        obtain rfl := x_go_inj ha
        have hr : x_mv (x_ad base cb) (.ref a) = .ref (x_ad base cb a) := rfl
        rw [List.map_cons, List.map_cons, hr, x_ad_lt hP.2.2.1 haN]
        exact xw_put hx hb hg hown hZ.1 hP.1 hS haN hz hf hk hfit (hfin.imp id fun z => ⟨hin z.1, z.2⟩) hd (fun H1 locs1 z1 p1 s1 => k H1 locs1 LS cells slots (x_Pic_up hP z1 haN p1) s1 hl rfl rfl)
      · cases ha
    · cases ha
  · cases ha
theorem x_alloc_inj {nx n : Nat} {e0 : x_E} {h0 : x_H} {ls0 st0 : List Value} (ha : x_alloc h0 nx ls0 st0 e0 n = some (.inl q)) : (h0.2.2.1 = h0.2.1 ∧ h0.2.1 < 9000) ∧ q = (nx, ls0, .ref h0.2.1 :: st0, (x_up h0.1 h0.2.1 e0, h0.2.1 + 1, h0.2.2.1 + 1, h0.2.2.2 + n)) := by
  unfold x_alloc at ha
  split at ha
  · rename_i hc
    exact ⟨hc, x_go_inj ha⟩
  · cases ha
theorem x_Pic_new {H1 : Heap} {e0 : x_E} {n : Nat} (hP : x_Pic D cA base cb xs h H) (hc : h.2.2.1 = h.2.1 ∧ h.2.1 < 9000) (hz : H1.size = H.size + 1) (h1 : x_P D cA base cb (x_up h.1 h.2.1 e0) (h.2.1 + 1) H1) : x_Pic D cA base cb xs (x_up h.1 h.2.1 e0, h.2.1 + 1, h.2.2.1 + 1, h.2.2.2 + n) H1 := by
  obtain ⟨p1, p2, p3, p4⟩ := hP
  refine ⟨h1, fun _ => by rw [hz, p2 hc.1]; exact Nat.add_assoc _ _ _, by show h.2.1 + 1 ≤ 9000; omega, ?_⟩
  show x_up h.1 h.2.1 e0 10000 = _
  unfold x_up
  rw [if_neg (by omega)]
  exact p4
theorem x_mv_new (hP : x_Pic D cA base cb xs h H) (hc : h.2.1 < 9000) : x_mv (x_ad base cb) (.ref h.2.1) = .ref (base + h.2.1) := by
  show Value.ref (x_ad base cb h.2.1) = _
  unfold x_ad
  rw [if_pos hc]
theorem xs_newa {at_ : ArrayType} {e0 : Nat → x_E} {t : Nat} (hF : x_FF p l s m args meth c M) (hZ : x_Z D cA base cb xs s s.heap) (hP : x_Pic D cA base cb xs h H) (hS : va_S (x_Ab base) s.heap H locs) (hl : x_lr (x_ad base cb) (x_nl M) ls LS) (hrc : cells + q.2.2.2.2.2.1 ≤ R.cells + h.2.2.1) (hrs : slots + q.2.2.2.2.2.2 ≤ R.slots + h.2.2.2)
    (hd : decode (x_code M) pc = .ok (.newarray at_, 2))
    (he : ∀ n, (at_ = .int ∧ e0 n = .inl (0, List.replicate n 0)) ∨ (at_ = .boolean ∧ e0 n = .inl (1, List.replicate n 0)) ∨ (at_ = .char ∧ e0 n = .inl (2, List.replicate n 0)) ∨ (at_ = .long ∧ e0 n = .inr (100, List.replicate n (.long 0))) ∨ (at_ = .double ∧ e0 n = .inr (101, List.replicate n (.double 0))))
    (ha : x_news t (pc + 2) ls st h e0 = some (.inl q)) (k : x_Kt p l e R s m args below meth c Q D cA base cb xs M cells slots h q.1 q.2.1 q.2.2.1 q.2.2.2) :
    W p l e R s m args below meth c H locs cells slots Q (F0 m pc LS (st.map (x_mv (x_ad base cb)))) := by
  obtain ⟨hx, hb, hml, hown, hg, hin⟩ := hF
  unfold x_news at ha
  split at ha
  · rename_i n r
    split at ha
    · rename_i hn
      obtain ⟨hc, rfl⟩ := x_alloc_inj ha
      dsimp only at hrc hrs
      refine xw_newa hx hb hg hZ.1 hP.1 (hP.2.1 hc.1) hS hn.1 hn.2 (by omega) (by omega) hd (he _) (fun H1 z1 p1 s1 => ?_)
      have k1 := k H1 locs LS (cells + 1) (slots + n.toNatClampNeg) (x_Pic_new hP hc z1 p1) s1 hl (by dsimp only; omega) (by dsimp only; omega)
      rw [List.map_cons, x_mv_new hP hc.2] at k1
      exact k1
    · cases ha
  · cases ha
theorem xs_newq {i : Nat} {t : Nat} (hF : x_FF p l s m args meth c M) (hZ : x_Z D cA base cb xs s s.heap) (hP : x_Pic D cA base cb xs h H) (hS : va_S (x_Ab base) s.heap H locs) (hl : x_lr (x_ad base cb) (x_nl M) ls LS) (hrc : cells + q.2.2.2.2.2.1 ≤ R.cells + h.2.2.1) (hrs : slots + q.2.2.2.2.2.2 ≤ R.slots + h.2.2.2)
    (hz : x_lk x_ctab (M / 100) i = some 2) (hd : decode (x_code M) pc = .ok (.anewarray i, 3))
    (ha : x_news t (pc + 3) ls st h (fun n => .inr (102, List.replicate n .null)) = some (.inl q)) (k : x_Kt p l e R s m args below meth c Q D cA base cb xs M cells slots h q.1 q.2.1 q.2.2.1 q.2.2.2) :
    W p l e R s m args below meth c H locs cells slots Q (F0 m pc LS (st.map (x_mv (x_ad base cb)))) := by
  obtain ⟨hx, hb, hml, hown, hg, hin⟩ := hF
  unfold x_news at ha
  split at ha
  · rename_i n r
    split at ha
    · rename_i hn
      obtain ⟨hc, rfl⟩ := x_alloc_inj ha
      dsimp only at hrc hrs
      refine xw_newq hx hb hg hZ.2.2.1.2.2.2.2 hown hZ.1 hP.1 (hP.2.1 hc.1) hS hz hn.1 hn.2 (by omega) (by omega) hd (fun H1 z1 p1 s1 => ?_)
      have k1 := k H1 locs LS (cells + 1) (slots + n.toNatClampNeg) (x_Pic_new hP hc z1 p1) s1 hl (by dsimp only; omega) (by dsimp only; omega)
      rw [List.map_cons, x_mv_new hP hc.2] at k1
      exact k1
    · cases ha
  · cases ha
theorem xs_new {i ci : Nat} (hF : x_FF p l s m args meth c M) (hZ : x_Z D cA base cb xs s s.heap) (hP : x_Pic D cA base cb xs h H) (hS : va_S (x_Ab base) s.heap H locs) (hl : x_lr (x_ad base cb) (x_nl M) ls LS) (hrc : cells + q.2.2.2.2.2.1 ≤ R.cells + h.2.2.1) (hrs : slots + q.2.2.2.2.2.2 ≤ R.slots + h.2.2.2)
    (hz : x_lk x_ctab (M / 100) i = some ci) (hd : decode (x_code M) pc = .ok (.new i, 3))
    (ha : x_alloc h (pc + 3) ls st (.inr (ci, x_defs ci)) (x_N ci) = some (.inl q)) (k : x_Kt p l e R s m args below meth c Q D cA base cb xs M cells slots h q.1 q.2.1 q.2.2.1 q.2.2.2) :
    W p l e R s m args below meth c H locs cells slots Q (F0 m pc LS (st.map (x_mv (x_ad base cb)))) := by
  obtain ⟨hx, hb, hml, hown, hg, hin⟩ := hF
  obtain ⟨hc, rfl⟩ := x_alloc_inj ha
  dsimp only at hrc hrs
  refine xw_new hx hb hg hown hZ.1 hP.1 (hP.2.1 hc.1) hS hz (by omega) (by omega) hd (fun H1 z1 p1 s1 => ?_)
  have k1 := k H1 locs LS (cells + 1) (slots + x_N ci) (x_Pic_new hP hc z1 p1) s1 hl (by dsimp only; omega) (by dsimp only; omega)
  rw [List.map_cons, x_mv_new hP hc.2] at k1
  exact k1
theorem xs_cpy {i : Nat} (hF : x_FF p l s m args meth c M) (hZ : x_Z D cA base cb xs s s.heap) (hP : x_Pic D cA base cb xs h H) (hS : va_S (x_Ab base) s.heap H locs) (hl : x_lr (x_ad base cb) (x_nl M) ls LS) (hR : 1 ≤ R.frames) (hRl : 200 ≤ R.locals)
    (hz : (M / 100, i, 6, 0, 5) ∈ x_itab) (hd : decode (x_code M) pc = .ok (.invokestatic i, 3))
    (ha : x_cpy (pc + 3) ls st h = some (.inl q)) (k : x_Kt p l e R s m args below meth c Q D cA base cb xs M cells slots h q.1 q.2.1 q.2.2.1 q.2.2.2) :
    W p l e R s m args below meth c H locs cells slots Q (F0 m pc LS (st.map (x_mv (x_ad base cb)))) := by
  obtain ⟨hx, hb, hml, hown, hg, hin⟩ := hF
  obtain ⟨ps, -, hok⟩ := x_ip_mem hz
  have hlk := x_inp_all (ws := [.methodLink (x_cn (M / 100)) i arraycopyName]) hok _ List.mem_cons_self
  unfold x_cpy at ha
  split at ha
  · rename_i n dp a sp b r
    split at ha
    · rename_i t li u g hfa hfb
      split at ha
      · rename_i hc
        obtain ⟨rfl, rfl, haN, hbN, rfl, rfl, hn, hna, hnb, hw⟩ := hc
        obtain rfl := x_go_inj ha
        have hr : ∀ a, x_mv (x_ad base cb) (.ref a) = .ref (x_ad base cb a) := fun _ => rfl
        simp only [List.map_cons]
        rw [hr, hr, x_ad_lt hP.2.2.1 haN, x_ad_lt hP.2.2.1 hbN]
        refine xw_copy hx hb (hml.trans hl.2.1.symm) hg hown (x_GW_of hg _ hlk) hZ.1 hP.1 hS haN hbN hfa hfb hn hna hnb hR ?_ hd (fun H1 locs1 z1 p1 s1 => k H1 locs1 LS cells slots (x_Pic_up hP z1 haN p1) s1 hl rfl rfl)
        rw [x_mv_map_wt]
        have : nativeFrameWords "java/lang/System" "arraycopy" 5 + 11 ≤ 100 := by decide +kernel
        omega
      · cases ha
    · cases ha
  · cases ha
end XS5
