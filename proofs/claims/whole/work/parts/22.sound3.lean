def x_icok (q : Nat × Nat × Nat × Nat × Nat) : Bool := decide (5 ≤ q.2.2.1 ∧ q.2.2.1 ≤ 9) || (decide (q.2.2.2.2 ≤ x_nl q.2.2.2.1) && x_mids.contains q.2.2.2.1 && (decide (q.2.2.1 = 0 ∨ q.2.2.1 = 1) || !(x_tm.contains q.2.2.2.1)) && (decide (q.2.2.1 = 0) || decide (q.2.2.1 = 2) || decide (q.2.2.1 = 4) || decide (q.2.2.1 = 1) || decide (q.2.2.1 = 3) || decide (q.2.2.1 = 10)))
theorem x_itab_ic : x_itab.all x_icok = true := by decide +kernel
theorem x_tm_noh : x_tm.all x_noh = true := by decide +kernel
theorem x_ic {c ix kd M' n' : Nat} (h : x_lk x_itab c ix = some (kd, M', n')) (hk : ¬ (5 ≤ kd ∧ kd ≤ 9)) : n' ≤ x_nl M' ∧ x_mids.contains M' = true ∧ ((kd = 0 ∨ kd = 1) ∨ x_tm.contains M' = false) := by
  have h1 := List.all_eq_true.mp x_itab_ic _ (x_lk_mem h)
  unfold x_icok at h1
  simp only [Bool.and_eq_true, Bool.or_eq_true, decide_eq_true_eq, Bool.not_eq_true'] at h1
  rcases h1 with h1 | ⟨⟨⟨h1, h2⟩, h3⟩, -⟩
  · exact absurd h1 hk
  · exact ⟨h1, h2, h3⟩
theorem x_hdl_ne {M pc : Nat} {E : String} {z : Nat × Nat} (h : x_hdl M pc E = some z) : (x_hs M).isEmpty = false := by
  unfold x_hdl at h
  cases hh : x_hs M with
  | nil => rw [hh] at h; cases h
  | cons a r => rfl
theorem x_nl80 : x_mids.all (fun M => decide (x_nl M ≤ 80)) = true := by decide +kernel
theorem x_wt_rev (l : List Value) : x_wt l.reverse = x_wt l := by
  have happ : ∀ a b : List Value, x_wt (a ++ b) = x_wt a + x_wt b := by
    intro a b
    induction a with
    | nil => show x_wt b = 0 + x_wt b; omega
    | cons v r ih => show v.category + x_wt (r ++ b) = v.category + x_wt r + x_wt b; rw [ih]; omega
  induction l with
  | nil => rfl
  | cons v r ih =>
    rw [List.reverse_cons, happ, ih]
    show x_wt r + (v.category + 0) = v.category + x_wt r
    omega
set_option maxHeartbeats 4000000 in
theorem x_callsim {n : Nat} (ih : x_Snd n) {p : Program} {l : Launch} {e : Env} {R : Room} {s : State} {m : MethodId} {args : Array Value} {below : List Frame} {meth : Method} {c : Code} {H : Heap} {locs : List Loc} {cells slots : Nat} {D : va_G} {cA : Nat → ClassId} {base : Nat} {cb : Nat → Nat} {xs : List Int32} {M pc : Nat} {LS : Array Slot} {ls st : List Value} {h h1 : x_H} {i : Instr} {M' n' : Nat} {r1 : x_R}
    (hlt : l.stackTraces = false) (hF : x_FF p l s m args meth c M) (hZ : x_Z D cA base cb xs s s.heap) (hP : x_Pic D cA base cb xs h H) (hS : va_S (x_Ab base) s.heap H locs) (hl : x_lr (x_ad base cb) (x_nl M) ls LS) (hRf : x_hgt M + 6 ≤ R.frames) (hRl : 100 * x_hgt M + 200 ≤ R.locals) (hRc : cells + h1.2.2.1 ≤ R.cells + h.2.2.1) (hRs : slots + h1.2.2.2 ≤ R.slots + h.2.2.2)
    {ix kd : Nat} (hlk : x_lk x_itab (M / 100) ix = some (kd, M', n')) (hht : x_hgt M' < x_hgt M) (hns : n' ≤ st.length ∧ x_wt (st.drop n') ≤ 8 ∧ x_wt (st.take n') = n') (hk : (i = .invokevirtual ix ∧ kd = 0 ∧ x_recv M' n' st h = true) ∨ (i = .invokestatic ix ∧ (kd = 1 ∨ kd = 3 ∨ kd = 10)) ∨ (i = .invokespecial ix ∧ (kd = 2 ∨ kd = 4) ∧ x_recv M' n' st h = true)) (hd : decode (x_code M) pc = .ok (i, x_len1 i)) (hx : x_exec n M' 0 (x_ent M' ((st.take n').reverse)) [] h = some (r1, h1)) (hth : x_tm.contains M' = true ∨ ∃ v, r1 = .inl v) :
    vx_Run p l e R s m args below meth c H locs cells slots (h1.2.2.1 - h.2.2.1) (h1.2.2.2 - h.2.2.2) (F0 m pc LS (st.map (x_mv (x_ad base cb)))) ((st.drop n').map (x_mv (x_ad base cb))) (x_Qc D cA base cb xs r1 h1 ((((st.take n').reverse).map (x_mv (x_ad base cb))).toArray)) (x_XC D cA base cb xs r1 h1) (x_Ab base) := by
  obtain ⟨hxx, hb, hml, hown, hg, hin⟩ := hF
  obtain ⟨hn1, hw8, hwn⟩ := hns
  obtain ⟨ps, -, hok⟩ := x_ip_mem (x_lk_mem hlk)
  have hne : ¬ (5 ≤ kd ∧ kd ≤ 9) := by
    rcases hk with ⟨-, h0, -⟩ | ⟨-, h0⟩ | ⟨-, h0, -⟩ <;> omega
  obtain ⟨hnl, hmid, htm⟩ := x_ic hlk hne
  have hlen : ((st.take n').reverse).length = n' := by
    rw [List.length_reverse, List.length_take]
    omega
  have hwa : x_wt ((st.take n').reverse) = ((st.take n').reverse).length := by rw [x_wt_rev, hlen]; exact hwn
  have hh : x_noh M' = true ∨ ∃ v, r1 = .inl v := hth.imp (fun z => List.all_eq_true.mp x_tm_noh M' (by simpa using z)) id
  have hmono := x_exec_mono n _ _ _ _ _ _ _ hx
  have hmet := x_meth ih hx hwa (by rw [hlen]; exact hnl) hmid hh l hlt D cA base cb xs
  have hZH := x_Z_H hZ hS
  have hfr : (x_rm M' h h1).frames + 1 ≤ R.frames := by show x_hgt M' + 6 + 1 ≤ _; omega
  have hnl80 := List.all_eq_true.mp x_nl80 M' (by simpa using hmid)
  have hnl80 := of_decide_eq_true hnl80
  have hlo : 8 + (x_nl M' + 11) + (x_rm M' h h1).locals ≤ R.locals := by show 8 + (x_nl M' + 11) + (100 * x_hgt M' + 200) ≤ _; omega
  have hcs : cells + (h1.2.2.1 - h.2.2.1) ≤ R.cells ∧ slots + (h1.2.2.2 - h.2.2.2) ≤ R.slots := by omega
  have hst : st.map (x_mv (x_ad base cb)) = (((st.take n').reverse).map (x_mv (x_ad base cb))).reverse ++ (st.drop n').map (x_mv (x_ad base cb)) := by
    rw [← List.map_reverse, List.reverse_reverse, ← List.map_append, List.take_append_drop]
  have hroom : 2 * (F0 m pc LS (st.map (x_mv (x_ad base cb)))).monitorRoom + (((st.drop n').map (x_mv (x_ad base cb))).map fun v => v.category).sum ≤ 8 := lv_room (by rw [x_mv_map_wt]; exact hw8)
  have hPc : ∀ U : State, U.heap = H → s.WarmedH U.vm → va_Pc (((st.take n').reverse).map (x_mv (x_ad base cb))) (x_St D cA base cb xs h) (((st.take n').reverse).map (x_mv (x_ad base cb))).toArray U := fun U hU hW => ⟨rfl, x_Z_U hZH hU hW, by rw [hU]; exact hP⟩
  have hSx : CallFix p m c (x_code M) (x_nl M) s args x_GW (x_cn (M / 100)) := ⟨hxx, hb, hml, hown, x_GW_of hg⟩
  have hMv : (∃ v, r1 = .inl v) → Met l (x_y M') (x_cw M' :: x_GW) (x_rm M' h h1) (va_Pc (((st.take n').reverse).map (x_mv (x_ad base cb))) (x_St D cA base cb xs h)) (x_Qc D cA base cb xs r1 h1) (h1.2.2.1 - h.2.2.1) (h1.2.2.2 - h.2.2.2) (x_Ab base) := fun ⟨v, hv⟩ => x_met_of_vx hmet (fun E st t z => by have := z.1; rw [hv] at this; cases this)
  have hcode : x_noh M' = true → x_cw M' = .code (x_y M') (x_code M') (x_nl M') (x_ret M') := fun z => by unfold x_cw; rw [if_pos z]
  have hrecv : x_recv M' n' st h = true → 1 ≤ n' → ∃ b : Nat, ∃ vs : List Value, b < h.2.1 ∧ h.1 b = .inr (M' / 100 + 2, vs) ∧ ((st.take n').reverse).map (x_mv (x_ad base cb)) = .ref (base + b) :: ((st.take (n' - 1)).reverse).map (x_mv (x_ad base cb)) ∧ (((st.take (n' - 1)).reverse).map (x_mv (x_ad base cb))).length = n' - 1 := by
    intro hr h1
    obtain ⟨b, vs, hb1, hb2, hb3⟩ := x_recv_ok hr
    refine ⟨b, vs, hb2, hb3, ?_, ?_⟩
    · rw [x_take_last h1 hb1, List.map_cons]
      have hr : x_mv (x_ad base cb) (.ref b) = .ref (x_ad base cb b) := rfl
      rw [hr, x_ad_lt hP.2.2.1 hb2]
    · rw [List.length_map, List.length_reverse, List.length_take]
      omega
  unfold x_iok at hok
  rcases hk with ⟨rfl, rfl, hrv⟩ | ⟨rfl, rfl | rfl | rfl⟩ | ⟨rfl, rfl | rfl, hrv⟩
  · simp only [Bool.and_eq_true, decide_eq_true_eq, x_par] at hok
    obtain ⟨⟨⟨⟨⟨⟨g1, g2⟩, g3⟩, g4⟩, g5⟩, g6⟩, g7⟩ := hok
    obtain ⟨b, vs, hbN, hbv, hav, hal⟩ := hrecv hrv g4
    have hG : GoodIn x_GW (wsV (x_cn (M / 100)) ix (x_y M').cls (x_y M') (x_cw M' :: x_GW)) := x_GoodInQ (pre := [.methodLink (x_cn (M / 100)) ix (x_y M'), .instanceMethod (x_y M'), .selects (x_y M').cls (x_y M') (x_y M'), .initialized (x_y M').cls]) (x_inp_all g1) (x_cwG hmid)
    have hcell : ∃ cellB : Cell, H[base + b]? = some cellB ∧ cellB.vm.isStatics = false ∧ s.vm.findClass (x_y M').cls = some cellB.cls := by
      have h9 := hP.1 b hbN
      rw [hbv] at h9
      obtain ⟨rr, hr1, -, cell, q1, q2, q3, -⟩ := h9.2 (by omega)
      refine ⟨cell, q1, by rw [q3]; rfl, ?_⟩
      have hcl := x_cl_at (ci := M' / 100 + 2) (by omega)
      rw [g6, q2]
      exact (hZ.1.1 _ _ hcl).2.1
    rw [hav] at hmet hPc hst ⊢
    exact vx_runV (C := (x_y M').cls) (rest := (st.drop n').map (x_mv (x_ad base cb))) hSx hmet (cwV (n' - 1) (x_GW_of hg) hG (by rw [hcode g5]) rfl rfl ⟨rfl, g3.1.1, g3.1.2, g3.2⟩ ⟨hfr, hlo⟩) ⟨x_St_blind, hcell, hPc⟩ rfl hal hl.2.1 (by rw [show (F0 m pc LS (st.map (x_mv (x_ad base cb)))).stack = st.map (x_mv (x_ad base cb)) from rfl, hst, List.reverse_cons, List.append_assoc]; rfl) hroom hd hcs
  · simp only [Bool.and_eq_true, decide_eq_true_eq, x_par] at hok
    obtain ⟨⟨⟨g1, g2⟩, g3⟩, g5⟩ := hok
    have hG : GoodIn x_GW (va_wsS (x_cn (M / 100)) ix (x_y M') (x_cw M' :: x_GW)) := x_GoodInQ (pre := [.methodLink (x_cn (M / 100)) ix (x_y M'), .static (x_y M'), .initialized (x_y M').cls]) (x_inp_all g1) (x_cwG hmid)
    exact vx_runS (rest := (st.drop n').map (x_mv (x_ad base cb))) hSx hmet (va_cwS n' (x_GW_of hg) hG (by rw [hcode g5]) rfl rfl ⟨g3.1.1, g3.1.2, g3.2⟩ ⟨hfr, hlo⟩) ⟨x_St_blind, hPc⟩ rfl (by rw [List.length_map, hlen]) hl.2.1 hst hroom hd hcs
  · simp only [Bool.and_eq_true, decide_eq_true_eq, x_par] at hok
    obtain ⟨⟨⟨⟨g1, g2⟩, g3⟩, g5⟩, g6⟩ := hok
    have hg1 := x_inp_all (ws := [.static (x_y M'), .initialized (x_y M').cls]) g1
    have hG : GoodIn x_GW (x_cw M' :: x_GW) := x_GoodInQ (pre := []) (fun w hw => by cases hw) (x_cwG hmid)
    have hnest := hZ.2.2.1.2.2.1 _ (List.mem_of_getElem? g6) rfl
    have hr1 : ∃ v, r1 = .inl v := hth.resolve_left (by rcases htm with z | z <;> first | omega | (rw [z]; decide))
    exact x_vx_of_va (va_runSN (rest := (st.drop n').map (x_mv (x_ad base cb))) (host := "WireBoard") hSx (hMv hr1) ⟨va_cnB n' (x_GW_of hg) hG (by rw [hcode g5]) rfl rfl hnest (x_GW_of hg _ (hg1 _ (by simp))) ⟨g3.1.1, g3.1.2, g3.2⟩ ⟨hfr, hlo⟩, x_GW_of hg _ (hg1 _ (by simp)), trivial⟩ ⟨x_St_blind, hPc⟩ rfl (by rw [List.length_map, hlen]) hl.2.1 hst hroom hd hcs)
  · simp only [Bool.and_eq_true, decide_eq_true_eq, x_par, Bool.not_eq_true'] at hok
    obtain ⟨⟨⟨g1, g2⟩, g3⟩, g5⟩ := hok
    have hG : GoodIn x_GW (va_wsS (x_cn (M / 100)) ix (x_y M') (x_cw M' :: x_GW)) := x_GoodInQ (pre := [.methodLink (x_cn (M / 100)) ix (x_y M'), .static (x_y M'), .initialized (x_y M').cls]) (x_inp_all g1) (x_cwG hmid)
    have hr1 : ∃ v, r1 = .inl v := hth.resolve_left (by rcases htm with z | z <;> first | omega | (rw [z]; decide))
    have hcwW : x_cw M' = .codeWith (x_y M') (x_code M') (x_nl M') (x_ret M') (x_hh M') := by unfold x_cw; rw [if_neg (by rw [g5]; decide)]
    exact x_vx_of_va (vx_runSW (rest := (st.drop n').map (x_mv (x_ad base cb))) (hh := x_hh M') hSx (hMv hr1) (vx_cwSW n' (x_GW_of hg) hG (by rw [hcwW]) rfl rfl ⟨g3.1.1, g3.1.2, g3.2⟩ ⟨hfr, hlo⟩) ⟨x_St_blind, hPc⟩ rfl (by rw [List.length_map, hlen]) hl.2.1 hst hroom hd hcs)
  · simp only [Bool.and_eq_true, decide_eq_true_eq, x_par] at hok
    obtain ⟨⟨⟨⟨⟨⟨g1, g2⟩, g3⟩, g4⟩, g5⟩, g6⟩, g7⟩ := hok
    obtain ⟨b, vs, hbN, hbv, hav, hal⟩ := hrecv hrv g4
    have hg1 := x_inp_all (ws := [.methodLink (x_cn (M / 100)) ix (x_y M'), .instanceMethod (x_y M'), .initialized (x_y M').cls]) g1
    have hG : GoodIn x_GW (x_cw M' :: x_GW) := x_GoodInQ (pre := []) (fun w hw => by cases hw) (x_cwG hmid)
    have hr1 : ∃ v, r1 = .inl v := hth.resolve_left (by rcases htm with z | z <;> first | omega | (rw [z]; decide))
    have hM1 := hMv hr1
    rw [hav] at hM1 hPc hst ⊢
    exact x_vx_of_va (va_runI (rest := (st.drop n').map (x_mv (x_ad base cb))) hSx hM1 (cwI (n' - 1) (x_GW_of hg) hG (by rw [hcode g5, g7]) rfl rfl (x_GW_of hg _ (hg1 _ (by simp))) (x_GW_of hg _ (hg1 _ (by simp))) (x_GW_of hg _ (hg1 _ (by simp))) g6 ⟨g3.1.1, g3.1.2, g3.2⟩ ⟨hfr, hlo⟩) ⟨x_St_blind, hPc⟩ rfl hal hl.2.1 (by rw [show (F0 m pc LS (st.map (x_mv (x_ad base cb)))).stack = st.map (x_mv (x_ad base cb)) from rfl, hst, List.reverse_cons, List.append_assoc]; rfl) hroom hd hcs)
  · simp only [Bool.and_eq_true, decide_eq_true_eq, x_par] at hok
    obtain ⟨⟨⟨⟨⟨⟨⟨g1, g2⟩, g3⟩, g4⟩, g5⟩, g6⟩, g7⟩, g8⟩ := hok
    obtain ⟨b, vs, hbN, hbv, hav, hal⟩ := hrecv hrv g4
    have hg1 := x_inp_all (ws := [.instanceMethod (x_y M'), .initialized (x_y M').cls]) g1
    have hG : GoodIn x_GW (x_cw M' :: x_GW) := x_GoodInQ (pre := []) (fun w hw => by cases hw) (x_cwG hmid)
    have hnest := hZ.2.2.1.2.2.1 _ (List.mem_of_getElem? g8) rfl
    have hr1 : ∃ v, r1 = .inl v := hth.resolve_left (by rcases htm with z | z <;> first | omega | (rw [z]; decide))
    have hM1 := hMv hr1
    rw [hav] at hM1 hPc hst ⊢
    exact x_vx_of_va (va_runIN (rest := (st.drop n').map (x_mv (x_ad base cb))) (host := "WireBoard") hSx hM1 ⟨va_cnB (n' - 1) (x_GW_of hg) hG (by rw [hcode g5, g7]) rfl rfl hnest (x_GW_of hg _ (hg1 _ (by simp))) ⟨g3.1.1, g3.1.2, g3.2⟩ ⟨hfr, hlo⟩, g6, x_GW_of hg _ (hg1 _ (by simp))⟩ ⟨x_St_blind, hPc⟩ rfl hal hl.2.1 (by rw [show (F0 m pc LS (st.map (x_mv (x_ad base cb)))).stack = st.map (x_mv (x_ad base cb)) from rfl, hst, List.reverse_cons, List.append_assoc]; rfl) hroom hd hcs)
set_option maxHeartbeats 4000000 in
theorem x_sound (n : Nat) : x_Snd n := by
  induction n with
  | zero => intro M pc ls st h r h' hx; cases hx
  | succ n ih =>
    intro M pc ls st h r h' hx p l e R s m args below meth c H locs cells slots Q D cA base cb xs LS hlt hF hZ hT hM hP hS hl hRf hRl hRc hRs hret hths hthp
    have hmono := x_exec_mono _ _ _ _ _ _ _ _ hx
    have hx : x_F (x_exec n) M pc ls st h = some (r, h') := hx
    unfold x_F at hx
    split at hx
    · cases hx
    · rename_i q hq
      obtain ⟨pc1, ls1, st1, h1⟩ := q
      have hm1 := x_exec_mono _ _ _ _ _ _ _ _ hx
      dsimp only at hx hm1
      have k : x_Kt p l e R s m args below meth c Q D cA base cb xs M cells slots h pc1 ls1 st1 h1 := by
        intro H2 locs2 LS2 cells2 slots2 hP2 hS2 hl2 hc2 hs2
        refine ih M pc1 ls1 st1 h1 r h' hx p l e R s m args below meth c H2 locs2 cells2 slots2 Q D cA base cb xs LS2 hlt hF hZ hT hM hP2 hS2 hl2 hRf hRl (by omega) (by omega) ?_ ?_ ?_
        · intro v pc' st' i len LS' H' locs' cells' slots' a1 a2 a3 a4 a5 a6 a7 a8
          exact hret v pc' st' i len LS' H' locs' cells' slots' a1 a2 a3 a4 a5 a6 (by omega) (by omega)
        · intro E pc' st' g1 LS' H' locs' cells' slots' a1 a2 a3 a4 a5 a6 a7 a8 a9 a10
          exact hths E pc' st' g1 LS' H' locs' cells' slots' a1 a2 a3 a4 a5 a6 a7 a8 (by omega) (by omega)
        · intro E pc' q rest ce LS' H' locs' cells' slots' a1 a2 a3 a4 a5 a6 a7 a8 a9
          exact hthp E pc' q rest ce LS' H' locs' cells' slots' a1 a2 a3 a4 a5 a6 a7 (by omega) (by omega)
      have hgo : h.2.2.1 ≤ h1.2.2.1 ∧ h.2.2.2 ≤ h1.2.2.2 := by
        have gg : ∀ a : x_A, a = Sum.inl (pc1, ls1, st1, h1) → x_isgo h a → h.2.2.1 ≤ h1.2.2.1 ∧ h.2.2.2 ≤ h1.2.2.2 := by
          rintro a rfl ⟨pc', ls', st', h1, e, e1, e2⟩
          cases e
          exact ⟨e1, e2⟩
        obtain ⟨i, len, hd, ⟨-, h1 | h1 | h1⟩ | ⟨h1, -⟩⟩ := x_act_is hq
        · exact gg _ rfl (x_do1_is h1)
        · exact gg _ rfl (x_do2_is h1)
        · rcases x_do3_is h1 with h2 | ⟨_, _, _, _, _, h2⟩ | ⟨_, _, _, _, _, _, _, h2, _⟩
          · exact gg _ rfl h2
          · cases h2
          · cases h2
        · rcases x_do4_is h1 with h2 | ⟨_, h2, _⟩
          · exact gg _ rfl h2
          · cases h2
      obtain ⟨i, len, hd, ⟨hlen, hdo | hdo | hdo⟩ | ⟨hdo, -⟩⟩ := x_act_is hq
      · subst hlen
        exact x_sim1 hF hZ hP hS hl hd hdo k
      · subst hlen
        exact x_sim2 hF hP hS hl hd hdo k
      · subst hlen
        exact x_sim3 hF hZ hP hS hl (by omega) (by omega) (by omega) (by omega) (by dsimp only; omega) (by dsimp only; omega) hd hdo k
      · exact x_sim4 hF hP hS hl hd hdo k
    · rename_i q hq
      cases hx
      obtain ⟨i, len, hd, ⟨hlen, hdo | hdo | hdo⟩ | ⟨hdo, hlen⟩⟩ := x_act_is hq
      · obtain ⟨_, _, _, _, e, _⟩ := x_do1_is hdo
        cases e
      · obtain ⟨_, _, _, _, e, _⟩ := x_do2_is hdo
        cases e
      · rcases x_do3_is hdo with ⟨_, _, _, _, e, _⟩ | ⟨ix, E, rfl, hE, hw, h2⟩ | ⟨_, _, _, _, _, _, _, h2, _⟩
        · cases e
        · cases h2
          exact hths E pc st h LS H locs cells slots rfl hE hw.1 hw.2 rfl hl.2.1 hP hS rfl rfl
        · cases h2
      · rcases x_do4_is hdo with ⟨_, _, _, _, e, _⟩ | ⟨v, h2, hiv⟩
        · cases e
        · cases h2
          exact hret v pc st i len LS H locs cells slots rfl hd hlen hiv hP hS rfl rfl
    · rename_i q hq
      obtain ⟨i, len, hd, ⟨hlen, hdo | hdo | hdo⟩ | ⟨hdo, -⟩⟩ := x_act_is hq
      · obtain ⟨_, _, _, _, e, _⟩ := x_do1_is hdo
        cases e
      · obtain ⟨_, _, _, _, e, _⟩ := x_do2_is hdo
        cases e
      · rcases x_do3_is hdo with ⟨_, _, _, _, e, _⟩ | ⟨_, _, _, _, _, h2⟩ | hcall
        · cases e
        · cases h2
        · subst hlen
          have hcall2 := hcall
          obtain ⟨ix, kd, M', n', hlk, hht, hns, heq, hkk⟩ := hcall2
          cases heq
          dsimp only at hx hq hcall
          split at hx
          · cases hx
          · rename_i v h1 e1
            have hm1 := x_exec_mono _ _ _ _ _ _ _ _ e1
            have hm2 := x_exec_mono _ _ _ _ _ _ _ _ hx
            refine x_after hS (x_callsim ih hlt hF hZ hP hS hl hRf hRl (by omega) (by omega) hlk hht hns hkk hd e1 (Or.inr ⟨v, rfl⟩)) (fun v2 H1 locs1 hv2 hP1 hS1 => ?_) (fun E q2 ce H1 locs1 hE => by cases hE)
            cases hv2
            have hst : ((v.map (x_mv (x_ad base cb))).toList ++ (st.drop n').map (x_mv (x_ad base cb))) = (v.toList ++ st.drop n').map (x_mv (x_ad base cb)) := by
              cases v <;> simp
            rw [hst]
            refine ih M (pc + 3) ls (v.toList ++ st.drop n') h1 r h' hx p l e R s m args below meth c H1 locs1 _ _ Q D cA base cb xs LS hlt hF hZ hT hM hP1 hS1 hl hRf hRl (by omega) (by omega) ?_ ?_ ?_
            · intro v pc' st' i len LS' H' locs' cells' slots' a1 a2 a3 a4 a5 a6 a7 a8
              exact hret v pc' st' i len LS' H' locs' cells' slots' a1 a2 a3 a4 a5 a6 (by omega) (by omega)
            · intro E pc' st' g1 LS' H' locs' cells' slots' a1 a2 a3 a4 a5 a6 a7 a8 a9 a10
              exact hths E pc' st' g1 LS' H' locs' cells' slots' a1 a2 a3 a4 a5 a6 a7 a8 (by omega) (by omega)
            · intro E pc' q rest ce LS' H' locs' cells' slots' a1 a2 a3 a4 a5 a6 a7 a8 a9
              exact hthp E pc' q rest ce LS' H' locs' cells' slots' a1 a2 a3 a4 a5 a6 a7 (by omega) (by omega)
          · rename_i E h1 e1
            have hm1 := x_exec_mono _ _ _ _ _ _ _ _ e1
            split at hx
            · rename_i htm
              refine x_after hS (x_callsim ih hlt hF hZ hP hS hl hRf hRl ?_ ?_ hlk hht hns hkk hd e1 (Or.inl htm)) (fun v2 H1 locs1 hv2 => by cases hv2) (fun E2 q2 ce H1 locs1 hE hP1 hS1 hce hcv hcl => ?_)
              · split at hx
                · have hm2 := x_exec_mono _ _ _ _ _ _ _ _ hx
                  omega
                · cases hx
                  omega
              · split at hx
                · have hm2 := x_exec_mono _ _ _ _ _ _ _ _ hx
                  omega
                · cases hx
                  omega
              cases hE
              split at hx
              · rename_i z hz
                have hm2 := x_exec_mono _ _ _ _ _ _ _ _ hx
                refine x_catch hF hZ (hT (x_hdl_ne hz)) hM ⟨hl.2.1, hl.2.2.1⟩ hz hce hcv hcl (fun LS2 z1 z2 => ?_)
                refine ih M z.1 (List.replicate (x_nl M) .null) [] h1 r h' hx p l e R s m args below meth c H1 locs1 _ _ Q D cA base cb xs LS2 hlt hF hZ hT hM hP1 hS1 (x_lr_nulls z1 z2) hRf hRl (by omega) (by omega) ?_ ?_ ?_
                · intro v pc' st' i len LS' H' locs' cells' slots' a1 a2 a3 a4 a5 a6 a7 a8
                  exact hret v pc' st' i len LS' H' locs' cells' slots' a1 a2 a3 a4 a5 a6 (by omega) (by omega)
                · intro E pc' st' g1 LS' H' locs' cells' slots' a1 a2 a3 a4 a5 a6 a7 a8 a9 a10
                  exact hths E pc' st' g1 LS' H' locs' cells' slots' a1 a2 a3 a4 a5 a6 a7 a8 (by omega) (by omega)
                · intro E pc' q rest ce LS' H' locs' cells' slots' a1 a2 a3 a4 a5 a6 a7 a8 a9
                  exact hthp E pc' q rest ce LS' H' locs' cells' slots' a1 a2 a3 a4 a5 a6 a7 (by omega) (by omega)
              · rename_i hz
                cases hx
                exact hthp E pc q2 _ ce LS H1 locs1 _ _ rfl hz hP1 hS1 hce hcv hcl (by omega) (by omega)
            · cases hx
      · rcases x_do4_is hdo with ⟨_, _, _, _, e, _⟩ | ⟨_, h2, _⟩
        · cases e
        · cases h2
