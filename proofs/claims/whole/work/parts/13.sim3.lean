section XS3
variable {p : Program} {l : Launch} {e : Env} {R : Room} {s : State} {m : MethodId} {args : Array Value} {below : List Frame} {meth : Method} {c : Code} {H : Heap} {locs : List Loc} {cells slots : Nat} {Q : State → Prop}
variable {D : va_G} {cA : Nat → ClassId} {base : Nat} {cb : Nat → Nat} {xs : List Int32} {M pc : Nat} {LS : Array Slot} {ls st : List Value} {h : x_H} {q : Nat × List Value × List Value × x_H}
set_option maxHeartbeats 4000000 in
theorem x_sim2 {i : Instr} (hF : x_FF p l s m args meth c M) (hP : x_Pic D cA base cb xs h H) (hS : va_S (x_Ab base) s.heap H locs) (hl : x_lr (x_ad base cb) (x_nl M) ls LS)
    (hd : decode (x_code M) pc = .ok (i, x_len1 i)) (ha : x_do2 M pc ls st h i = some (.inl q)) (k : x_Kt p l e R s m args below meth c Q D cA base cb xs M cells slots h q.1 q.2.1 q.2.2.1 q.2.2.2) :
    W p l e R s m args below meth c H locs cells slots Q (F0 m pc LS (st.map (x_mv (x_ad base cb)))) := by
  obtain ⟨hx, hb, hml, hown, hg, hin⟩ := hF
  unfold x_do2 at ha
  split at ha
  · exact xs_if1 hP hS hl (fun x r t ht kt kf => lv_if_eq hx hb hd ht (fun z => kt (decide_eq_true z)) (fun z => kf (fun y => z (of_decide_eq_true y)))) ha k
  · exact xs_if1 hP hS hl (fun x r t ht kt kf => lv_if_ne hx hb hd ht (fun z => kt (decide_eq_true z)) (fun z => kf (fun y => of_decide_eq_true y z))) ha k
  · exact xs_if1 hP hS hl (fun x r t ht kt kf => lv_if_lt hx hb hd ht (fun z => kt (decide_eq_true z)) (fun z => kf (fun y => z (of_decide_eq_true y)))) ha k
  · exact xs_if1 hP hS hl (fun x r t ht kt kf => lv_if_ge hx hb hd ht (fun z => kt (decide_eq_true z)) (fun z => kf (fun y => z (of_decide_eq_true y)))) ha k
  · exact xs_if1 hP hS hl (fun x r t ht kt kf => lv_if_gt hx hb hd ht (fun z => kt (decide_eq_true z)) (fun z => kf (fun y => z (of_decide_eq_true y)))) ha k
  · exact xs_if1 hP hS hl (fun x r t ht kt kf => lv_if_le hx hb hd ht (fun z => kt (decide_eq_true z)) (fun z => kf (fun y => z (of_decide_eq_true y)))) ha k
  · exact xs_if2 hP hS hl (fun x y r t ht kt kf => lv_icmp_eq hx hb hd ht (fun z => kt (decide_eq_true z)) (fun z => kf (fun y => z (of_decide_eq_true y)))) ha k
  · exact xs_if2 hP hS hl (fun x y r t ht kt kf => lv_icmp_ne hx hb hd ht (fun z => kt (decide_eq_true z)) (fun z => kf (fun y => of_decide_eq_true y z))) ha k
  · exact xs_if2 hP hS hl (fun x y r t ht kt kf => lv_icmp_lt hx hb hd ht (fun z => kt (decide_eq_true z)) (fun z => kf (fun y => z (of_decide_eq_true y)))) ha k
  · exact xs_if2 hP hS hl (fun x y r t ht kt kf => lv_icmp_ge hx hb hd ht (fun z => kt (decide_eq_true z)) (fun z => kf (fun y => z (of_decide_eq_true y)))) ha k
  · exact xs_if2 hP hS hl (fun x y r t ht kt kf => lv_icmp_gt hx hb hd ht (fun z => kt (decide_eq_true z)) (fun z => kf (fun y => z (of_decide_eq_true y)))) ha k
  · exact xs_if2 hP hS hl (fun x y r t ht kt kf => lv_icmp_le hx hb hd ht (fun z => kt (decide_eq_true z)) (fun z => kf (fun y => z (of_decide_eq_true y)))) ha k
  · split at ha
    · rename_i t ht
      obtain rfl := x_go_inj ha
      exact lv_goto hx hb hd (x_bj_ok ht) (k H locs LS cells slots hP hS hl rfl rfl)
    · cases ha
  · split at ha
    · obtain rfl := x_go_inj ha
      exact W.lcmp hx hb hd (k H locs LS cells slots hP hS hl rfl rfl)
    · cases ha
  · split at ha
    · obtain rfl := x_go_inj ha
      exact lv_fcmp hx hb hd (k H locs LS cells slots hP hS hl rfl rfl)
    · cases ha
  · split at ha
    · obtain rfl := x_go_inj ha
      exact lv_dcmp hx hb hd (k H locs LS cells slots hP hS hl rfl rfl)
    · cases ha
  · split at ha
    · split at ha
      · rename_i hn
        obtain rfl := x_go_inj ha
        exact lv_fdiv hx hb hd hn (k H locs LS cells slots hP hS hl rfl rfl)
      · cases ha
    · cases ha
  · split at ha
    · split at ha
      · rename_i hn
        obtain rfl := x_go_inj ha
        exact lv_ddiv hx hb hd hn (k H locs LS cells slots hP hS hl rfl rfl)
      · cases ha
    · cases ha
  · split at ha
    · split at ha
      · rename_i hn
        obtain rfl := x_go_inj ha
        exact lv_f2d hx hb hd hn (k H locs LS cells slots hP hS hl rfl rfl)
      · cases ha
    · cases ha
  · split at ha
    · split at ha
      · rename_i hn
        obtain rfl := x_go_inj ha
        exact lv_dup hx hb hd (by rw [x_mv_cat]; exact hn) (k H locs LS cells slots hP hS hl rfl rfl)
      · cases ha
    · cases ha
  · split at ha
    · split at ha
      · rename_i hn
        obtain rfl := x_go_inj ha
        exact lv_dup2_11 hx hb hd (by rw [x_mv_cat]; exact hn.1) (by rw [x_mv_cat]; exact hn.2) (k H locs LS cells slots hP hS hl rfl rfl)
      · cases ha
    · cases ha
  · split at ha
    · split at ha
      · rename_i hn
        obtain rfl := x_go_inj ha
        exact lv_pop hx hb hd (by rw [x_mv_cat]; exact hn) (k H locs LS cells slots hP hS hl rfl rfl)
      · cases ha
    · cases ha
  · cases ha
theorem x_ad_lt {N a : Nat} (hN : N ≤ 9000) (ha : a < N) : x_ad base cb a = base + a := by
  unfold x_ad
  rw [if_pos (by omega)]
theorem x_Pic_up {H1 : Heap} {a : Nat} {e0 : x_E} (hP : x_Pic D cA base cb xs h H) (hz : H1.size = H.size) (ha : a < h.2.1) (h1 : x_P D cA base cb (x_up h.1 a e0) h.2.1 H1) : x_Pic D cA base cb xs (x_up h.1 a e0, h.2) H1 := by
  obtain ⟨p1, p2, p3, p4⟩ := hP
  refine ⟨h1, fun z => by rw [hz]; exact p2 z, p3, ?_⟩
  show x_up h.1 a e0 10000 = _
  unfold x_up
  rw [if_neg (by omega)]
  exact p4
theorem xs_ald {t : Nat} (hx : p.tables.exec = Jvm.exec) (hb : c.code = x_code M) (hZ : x_Z D cA base cb xs s s.heap) (hP : x_Pic D cA base cb xs h H) (hS : va_S (x_Ab base) s.heap H locs) (hl : x_lr (x_ad base cb) (x_nl M) ls LS)
    (hd : (t = 0 ∧ decode (x_code M) pc = .ok (.iaload, 1)) ∨ (t = 1 ∧ decode (x_code M) pc = .ok (.baload, 1)) ∨ (t = 2 ∧ decode (x_code M) pc = .ok (.caload, 1)))
    (ha : x_ald t (pc + 1) ls st h = some (.inl q)) (k : x_Kt p l e R s m args below meth c Q D cA base cb xs M cells slots h q.1 q.2.1 q.2.2.1 q.2.2.2) :
    W p l e R s m args below meth c H locs cells slots Q (F0 m pc LS (st.map (x_mv (x_ad base cb)))) := by
  unfold x_ald at ha
  split at ha
  · rename_i i a r
    split at ha
    · rename_i t' li hf
      split at ha
      · rename_i hc
        obtain ⟨rfl, hc⟩ := hc
        split at ha
        · rename_i x hxx
          obtain rfl := x_go_inj ha
          have k1 := k H locs LS cells slots hP hS hl rfl rfl
          have hr : x_mv (x_ad base cb) (.ref a) = .ref (x_ad base cb a) := rfl
          rw [List.map_cons, List.map_cons, hr]
          by_cases haN : a < h.2.1
          · rw [x_ad_lt hP.2.2.1 haN]
            exact xw_ald hx hb hZ.1 hP.1 haN hf hxx hd k1
          · rcases hc with hc | ⟨ha2, ht0⟩
            · exact absurd hc haN
            · subst ha2
              subst ht0
              rw [hP.2.2.2] at hf
              cases hf
              obtain ⟨g1, g2, g3⟩ := x_rd hxx
              have ha9 : x_ad base cb 10000 = cb 10000 := by
                unfold x_ad
                rw [if_neg (by decide)]
              rw [ha9]
              have hd0 : decode (x_code M) pc = .ok (.iaload, 1) := by
                rcases hd with ⟨-, z⟩ | ⟨z, -⟩ | ⟨z, -⟩
                · exact z
                · exact absurd z (by decide)
                · exact absurd z (by decide)
              have k2 : W p l e R s m args below meth c H locs cells slots Q (F0 m (pc + 1) LS (.int (xs.getD i.toNatClampNeg 0) :: r.map (x_mv (x_ad base cb)))) := by rw [g3]; exact k1
              exact va_sld hx hb hZ.2.1.1 (Nat.lt_of_lt_of_le hZ.2.2.2.1 hZ.2.2.2.2) (Nat.not_le.mpr hZ.2.2.2.1) hS (i := i) (fun z => z.elim g1 (Nat.not_le.mpr g2)) hd0 k2
        · cases ha
      · cases ha
    · cases ha
  · cases ha
theorem xs_ast {t : Nat} {nar : Int32 → Int32} (hx : p.tables.exec = Jvm.exec) (hb : c.code = x_code M) (hZ : x_Z D cA base cb xs s s.heap) (hP : x_Pic D cA base cb xs h H) (hS : va_S (x_Ab base) s.heap H locs) (hl : x_lr (x_ad base cb) (x_nl M) ls LS)
    (hd : ∀ x : Int32, (t = 0 ∧ decode (x_code M) pc = .ok (.iastore, 1) ∧ nar x = x) ∨ (t = 1 ∧ decode (x_code M) pc = .ok (.bastore, 1) ∧ nar x = vp_nar .boolean x) ∨ (t = 2 ∧ decode (x_code M) pc = .ok (.castore, 1) ∧ nar x = vp_nar .char x))
    (ha : x_ast t (pc + 1) nar ls st h = some (.inl q)) (k : x_Kt p l e R s m args below meth c Q D cA base cb xs M cells slots h q.1 q.2.1 q.2.2.1 q.2.2.2) :
    W p l e R s m args below meth c H locs cells slots Q (F0 m pc LS (st.map (x_mv (x_ad base cb)))) := by
  unfold x_ast at ha
  split at ha
  · rename_i x i a r
    split at ha
    · rename_i t' li hf
      split at ha
      · rename_i hc
        obtain ⟨rfl, haN, hc1, hc2⟩ := hc
        obtain rfl := x_go_inj ha
        have hr : x_mv (x_ad base cb) (.ref a) = .ref (x_ad base cb a) := rfl
        rw [List.map_cons, List.map_cons, List.map_cons, hr, x_ad_lt hP.2.2.1 haN]
        exact xw_ast hx hb hZ.1 hP.1 hS haN hf hc1 hc2 (hd x) (fun H1 locs1 z1 p1 s1 => k H1 locs1 LS cells slots (x_Pic_up hP z1 haN p1) s1 hl rfl rfl)
      · cases ha
    · cases ha
  · cases ha
theorem xs_vld {t : Nat} {qv : Value → Bool} (hx : p.tables.exec = Jvm.exec) (hb : c.code = x_code M) (hZ : x_Z D cA base cb xs s s.heap) (hP : x_Pic D cA base cb xs h H) (hS : va_S (x_Ab base) s.heap H locs) (hl : x_lr (x_ad base cb) (x_nl M) ls LS)
    (hd : (t = 100 ∧ decode (x_code M) pc = .ok (.laload, 1)) ∨ (t = 101 ∧ decode (x_code M) pc = .ok (.daload, 1)) ∨ (t = 102 ∧ decode (x_code M) pc = .ok (.aaload, 1)))
    (ha : x_vld t qv (pc + 1) ls st h = some (.inl q)) (k : x_Kt p l e R s m args below meth c Q D cA base cb xs M cells slots h q.1 q.2.1 q.2.2.1 q.2.2.2) :
    W p l e R s m args below meth c H locs cells slots Q (F0 m pc LS (st.map (x_mv (x_ad base cb)))) := by
  unfold x_vld at ha
  split at ha
  · rename_i i a r
    split at ha
    · rename_i t' li hf
      split at ha
      · rename_i hc
        obtain ⟨rfl, haN, hc1⟩ := hc
        split at ha
        · rename_i x hxx
          obtain rfl := x_go_inj ha
          have hr : x_mv (x_ad base cb) (.ref a) = .ref (x_ad base cb a) := rfl
          rw [List.map_cons, List.map_cons, hr, x_ad_lt hP.2.2.1 haN]
          exact xw_vld hx hb hZ.1 hP.1 haN hf hxx hd (k H locs LS cells slots hP hS hl rfl rfl)
        · cases ha
      · cases ha
    · cases ha
  · cases ha
theorem xs_len (hx : p.tables.exec = Jvm.exec) (hb : c.code = x_code M) (hZ : x_Z D cA base cb xs s s.heap) (hP : x_Pic D cA base cb xs h H) (hS : va_S (x_Ab base) s.heap H locs) (hl : x_lr (x_ad base cb) (x_nl M) ls LS)
    (hd : decode (x_code M) pc = .ok (.arraylength, 1))
    (ha : x_len (pc + 1) ls st h = some (.inl q)) (k : x_Kt p l e R s m args below meth c Q D cA base cb xs M cells slots h q.1 q.2.1 q.2.2.1 q.2.2.2) :
    W p l e R s m args below meth c H locs cells slots Q (F0 m pc LS (st.map (x_mv (x_ad base cb)))) := by
  unfold x_len at ha
  split at ha
  · rename_i a r
    split at ha
    · rename_i t li hf
      split at ha
      · rename_i hc
        obtain rfl := x_go_inj ha
        have hr : x_mv (x_ad base cb) (.ref a) = .ref (x_ad base cb a) := rfl
        rw [List.map_cons, hr]
        have k1 := k H locs LS cells slots hP hS hl rfl rfl
        by_cases haN : a < h.2.1
        · rw [x_ad_lt hP.2.2.1 haN]
          exact xw_len hx hb hZ.1 hP.1 haN hf hc.1 hd k1
        · rcases hc.2 with hc | ⟨ha2, ht0⟩
          · exact absurd hc haN
          · subst ha2
            rw [hP.2.2.2] at hf
            cases hf
            have ha9 : x_ad base cb 10000 = cb 10000 := by
              unfold x_ad
              rw [if_neg (by decide)]
            rw [ha9]
            exact va_slen hx hb hZ.2.1.1 (Nat.lt_of_lt_of_le hZ.2.2.2.1 hZ.2.2.2.2) (Nat.not_le.mpr hZ.2.2.2.1) hS hd k1
      · cases ha
    · cases ha
  · cases ha
theorem x_isL_ok {v : Value} (hv : x_isL v = true) : ∃ y, v = .long y := by
  cases v <;> first | exact ⟨_, rfl⟩ | exact (Bool.false_ne_true hv).elim
theorem x_isD_ok {v : Value} (hv : x_isD v = true) : ∃ y, v = .double y := by
  cases v <;> first | exact ⟨_, rfl⟩ | exact (Bool.false_ne_true hv).elim
theorem x_isB_ok {e0 : x_E} (hv : x_isB e0 = true) : ∃ y, e0 = .inr (2, y) := by
  unfold x_isB at hv
  split at hv
  · exact ⟨_, rfl⟩
  · cases hv
theorem xs_vst {t : Nat} {qv : Value → Bool} (hx : p.tables.exec = Jvm.exec) (hb : c.code = x_code M) (hZ : x_Z D cA base cb xs s s.heap) (hP : x_Pic D cA base cb xs h H) (hS : va_S (x_Ab base) s.heap H locs) (hl : x_lr (x_ad base cb) (x_nl M) ls LS)
    (hd : (t = 100 ∧ decode (x_code M) pc = .ok (.lastore, 1) ∧ qv = x_isL) ∨ (t = 101 ∧ decode (x_code M) pc = .ok (.dastore, 1) ∧ qv = x_isD))
    (ha : x_vst t qv (pc + 1) ls st h = some (.inl q)) (k : x_Kt p l e R s m args below meth c Q D cA base cb xs M cells slots h q.1 q.2.1 q.2.2.1 q.2.2.2) :
    W p l e R s m args below meth c H locs cells slots Q (F0 m pc LS (st.map (x_mv (x_ad base cb)))) := by
  unfold x_vst at ha
  split at ha
  · rename_i x i a r
    split at ha
    · rename_i t' li hf
      split at ha
      · rename_i hc
        obtain ⟨rfl, haN, hc0, hcx, hc1, hc2⟩ := hc
        obtain rfl := x_go_inj ha
        have hr : x_mv (x_ad base cb) (.ref a) = .ref (x_ad base cb a) := rfl
        rw [List.map_cons, List.map_cons, List.map_cons, hr, x_ad_lt hP.2.2.1 haN]
        rcases hd with ⟨rfl, hd, rfl⟩ | ⟨rfl, hd, rfl⟩
        · obtain ⟨y, rfl⟩ := x_isL_ok hcx
          exact xw_last hx hb hZ.1 hP.1 hS haN hf hc1 hc2 hd (fun H1 locs1 z1 p1 s1 => k H1 locs1 LS cells slots (x_Pic_up hP z1 haN p1) s1 hl rfl rfl)
        · obtain ⟨y, rfl⟩ := x_isD_ok hcx
          exact xw_dast hx hb hZ.1 hP.1 hS haN hf hc1 hc2 hd (fun H1 locs1 z1 p1 s1 => k H1 locs1 LS cells slots (x_Pic_up hP z1 haN p1) s1 hl rfl rfl)
      · cases ha
    · cases ha
  · cases ha
theorem xs_bst (hx : p.tables.exec = Jvm.exec) (hb : c.code = x_code M) (hZ : x_Z D cA base cb xs s s.heap) (hP : x_Pic D cA base cb xs h H) (hS : va_S (x_Ab base) s.heap H locs) (hl : x_lr (x_ad base cb) (x_nl M) ls LS)
    (hd : decode (x_code M) pc = .ok (.aastore, 1))
    (ha : x_bst (pc + 1) ls st h = some (.inl q)) (k : x_Kt p l e R s m args below meth c Q D cA base cb xs M cells slots h q.1 q.2.1 q.2.2.1 q.2.2.2) :
    W p l e R s m args below meth c H locs cells slots Q (F0 m pc LS (st.map (x_mv (x_ad base cb)))) := by
  unfold x_bst at ha
  split at ha
  · rename_i x i a r
    split at ha
    · rename_i t' li hf
      split at ha
      · rename_i hc
        obtain ⟨rfl, haN, hc0, hxN, hxB, hc1, hc2⟩ := hc
        obtain rfl := x_go_inj ha
        obtain ⟨vs, hvs⟩ := x_isB_ok hxB
        have hr : ∀ a, x_mv (x_ad base cb) (.ref a) = .ref (x_ad base cb a) := fun _ => rfl
        rw [List.map_cons, List.map_cons, List.map_cons, hr, hr, x_ad_lt hP.2.2.1 haN, x_ad_lt hP.2.2.1 hxN]
        exact xw_bst hx hb hZ.1 hP.1 hP.2.2.1 hS haN hf hxN hvs hc1 hc2 hd (fun H1 locs1 z1 p1 s1 => k H1 locs1 LS cells slots (x_Pic_up hP z1 haN p1) s1 hl rfl rfl)
      · cases ha
    · cases ha
  · cases ha
end XS3
