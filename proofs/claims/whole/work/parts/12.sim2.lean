section XS2
variable {p : Program} {l : Launch} {e : Env} {R : Room} {s : State} {m : MethodId} {args : Array Value} {below : List Frame} {meth : Method} {c : Code} {H : Heap} {locs : List Loc} {cells slots : Nat} {Q : State → Prop}
variable {D : va_G} {cA : Nat → ClassId} {base : Nat} {cb : Nat → Nat} {xs : List Int32} {M pc : Nat} {LS : Array Slot} {ls st : List Value} {h : x_H} {q : Nat × List Value × List Value × x_H}
theorem x_ktab_ok : x_ktab.all (fun q => decide (Cond.constant (x_cn q.1) q.2.1 q.2.2 ∈ lw_tbl)) = true := by decide +kernel
theorem x_dtab_ok : x_dtab.all (fun q => decide (Cond.constantDouble (x_cn q.1) q.2.1 q.2.2 ∈ lw_tbl)) = true := by decide +kernel
set_option maxHeartbeats 4000000 in
theorem x_sim1 {i : Instr} (hF : x_FF p l s m args meth c M) (hZ : x_Z D cA base cb xs s s.heap) (hP : x_Pic D cA base cb xs h H) (hS : va_S (x_Ab base) s.heap H locs) (hl : x_lr (x_ad base cb) (x_nl M) ls LS)
    (hd : decode (x_code M) pc = .ok (i, x_len1 i)) (ha : x_do1 M pc ls st h i = some (.inl q)) (k : x_Kt p l e R s m args below meth c Q D cA base cb xs M cells slots h q.1 q.2.1 q.2.2.1 q.2.2.2) :
    W p l e R s m args below meth c H locs cells slots Q (F0 m pc LS (st.map (x_mv (x_ad base cb)))) := by
  obtain ⟨hx, hb, hml, hown, hg, hin⟩ := hF
  unfold x_do1 at ha
  split at ha
  · exact xs_lda hP hS hl (fun x hv kk => lv_aload_n hx hb hd rfl hv kk) ha k
  · exact xs_lda hP hS hl (fun x hv kk => lv_aload hx hb hd hv kk) ha k
  · exact xs_ldi hP hS hl (fun x hv kk => lv_iload_n hx hb hd rfl hv kk) ha k
  · exact xs_ldi hP hS hl (fun x hv kk => lv_iload hx hb hd hv kk) ha k
  · exact xs_ldf hP hS hl (fun x hv kk => lv_fload hx hb hd hv kk) ha k
  · exact xs_ldd hP hS hl (fun x hv kk => lv_dload hx hb hd hv kk) ha k
  · exact xs_push hP hS hl (fun kk => lv_iconst hx hb hd rfl kk) ha k
  · exact xs_push hP hS hl (fun kk => lv_bipush hx hb hd rfl kk) ha k
  · exact xs_push hP hS hl (fun kk => lv_sipush hx hb hd rfl kk) ha k
  · exact xs_push hP hS hl (fun kk => lv_lconst hx hb hd rfl kk) ha k
  · split at ha
    · rename_i hn
      subst hn
      exact xs_push hP hS hl (fun kk => lv_fconst0 hx hb hd kk) ha k
    · cases ha
  · split at ha
    · rename_i v hv
      have hw := List.all_eq_true.mp x_ktab_ok _ (x_lk_mem hv)
      exact xs_push hP hS hl (fun kk => lv_ldc hx hb hown (hg _ (of_decide_eq_true hw) rfl) hd kk) ha k
    · obtain ⟨-, -, ⟨hst, -⟩, -⟩ := hZ
      have hr : ∀ (j : Nat), j < 4 → x_mv (x_ad base cb) (.ref (20000 + j)) = .ref (cb (20000 + j)) := by
        intro j hj
        show Value.ref (x_ad base cb (20000 + j)) = _
        unfold x_ad
        rw [if_neg (by omega)]
      split at ha
      · rename_i h2
        have hown2 : s.vm.findClass RX2 = some m.cls := by rw [h2] at hown; exact hown
        split at ha
        · rename_i hi; subst hi
          exact xs_push hP hS hl (fun kk => va_ldcS hx hb hown2 (hst 0 (by decide)) hd (by rw [← hr 0 (by decide)]; exact kk)) ha k
        · split at ha
          · rename_i hi; subst hi
            exact xs_push hP hS hl (fun kk => va_ldcS hx hb hown2 (hst 1 (by decide)) hd (by rw [← hr 1 (by decide)]; exact kk)) ha k
          · split at ha
            · rename_i hi; subst hi
              exact xs_push hP hS hl (fun kk => va_ldcS hx hb hown2 (hst 2 (by decide)) hd (by rw [← hr 2 (by decide)]; exact kk)) ha k
            · split at ha
              · rename_i hi; subst hi
                exact xs_push hP hS hl (fun kk => va_ldcS hx hb hown2 (hst 3 (by decide)) hd (by rw [← hr 3 (by decide)]; exact kk)) ha k
              · cases ha
      · cases ha
  · split at ha
    · rename_i v hv
      have hw := List.all_eq_true.mp x_dtab_ok _ (x_lk_mem hv)
      exact xs_push hP hS hl (fun kk => lv_ldc2d hx hb hown (hg _ (of_decide_eq_true hw) rfl) hd kk) ha k
    · cases ha
  · exact xs_sti hP hS hl (fun x r hi kk => lv_istore_n hx hb hd rfl hl.2 hi rfl kk) ha k
  · exact xs_sti hP hS hl (fun x r hi kk => lv_istore hx hb hd hl.2 hi rfl kk) ha k
  · exact xs_sta hP hS hl (fun x r hi kk => lv_astore_n hx hb hd rfl hl.2 hi rfl kk) ha k
  · exact xs_sta hP hS hl (fun x r hi kk => lv_astore hx hb hd hl.2 hi rfl kk) ha k
  · exact xs_stf hP hS hl (fun x r hi kk => lv_fstore hx hb hd hl.2 hi rfl kk) ha k
  · exact xs_std hP hS hl (fun x r hi kk => lv_dstore hx hb hd hl.2 hi rfl kk) ha k
  · exact xs_inc hP hS hl (fun x j hj hi kk => lv_iinc hx hb hd hl.2 hj rfl hi rfl kk) ha k
  · exact xs_a2 hP hS hl (fun x y r kk => lv_iadd hx hb hd kk) ha k
  · exact xs_a2 hP hS hl (fun x y r kk => lv_isub hx hb hd kk) ha k
  · exact xs_a2 hP hS hl (fun x y r kk => lv_imul hx hb hd kk) ha k
  · exact xs_a2 hP hS hl (fun x y r kk => lv_iand hx hb hd kk) ha k
  · exact xs_a2 hP hS hl (fun x y r kk => lv_ior hx hb hd kk) ha k
  · exact xs_a2 hP hS hl (fun x y r kk => lv_ishl hx hb hd kk) ha k
  · exact xs_a2 hP hS hl (fun x y r kk => lv_ishr hx hb hd kk) ha k
  · exact xs_dv hP hS hl (fun x y r hy kk => lv_idiv hx hb hd hy kk) ha k
  · exact xs_dv hP hS hl (fun x y r hy kk => lv_irem hx hb hd hy kk) ha k
  · exact xs_a1 (fun _ => rfl) hP hS hl (fun x r kk => lv_i2l hx hb hd rfl kk) ha k
  · exact xs_a1 (fun _ => rfl) hP hS hl (fun x r kk => lv_i2c hx hb hd rfl kk) ha k
  · exact xs_a1 (fun _ => rfl) hP hS hl (fun x r kk => lv_i2f hx hb hd kk) ha k
  · exact xs_a1 (fun _ => rfl) hP hS hl (fun x r kk => lv_i2d hx hb hd kk) ha k
  · cases ha
end XS2
