def x_Pic (D : va_G) (cA : Nat → ClassId) (base : Nat) (cb : Nat → Nat) (xs : List Int32) (h : x_H) (H : Heap) : Prop :=
  x_P D cA base cb h.1 h.2.1 H ∧ (h.2.2.1 = h.2.1 → H.size = base + h.2.1) ∧ h.2.1 ≤ 9000 ∧ h.1 10000 = .inl (0, xs)
def x_FF (p : Program) (l : Launch) (s : State) (m : MethodId) (args : Array Value) (meth : Method) (c : Code) (M : Nat) : Prop :=
  p.tables.exec = Jvm.exec ∧ c.code = x_code M ∧ c.maxLocals = x_nl M ∧ s.vm.findClass (x_cn (M / 100)) = some m.cls ∧ x_gw args s ∧ ((x_y M).name = "<init>" → meth.name = "<init>")
def x_Kt (p : Program) (l : Launch) (e : Env) (R : Room) (s : State) (m : MethodId) (args : Array Value) (below : List Frame) (meth : Method) (c : Code) (Q : State → Prop) (D : va_G) (cA : Nat → ClassId) (base : Nat) (cb : Nat → Nat) (xs : List Int32) (M cells slots : Nat) (h : x_H) (pc' : Nat) (ls' st' : List Value) (h' : x_H) : Prop :=
  ∀ (H' : Heap) (locs' : List Loc) (LS' : Array Slot) (cells' slots' : Nat), x_Pic D cA base cb xs h' H' → va_S (x_Ab base) s.heap H' locs' → x_lr (x_ad base cb) (x_nl M) ls' LS' → cells' + h.2.2.1 = cells + h'.2.2.1 → slots' + h.2.2.2 = slots + h'.2.2.2 →
    W p l e R s m args below meth c H' locs' cells' slots' Q (F0 m pc' LS' (st'.map (x_mv (x_ad base cb))))
theorem x_go_inj {pc : Nat} {ls st : List Value} {h : x_H} {q : Nat × List Value × List Value × x_H} (e : x_go pc ls st h = some (.inl q)) : q = (pc, ls, st, h) := by
  unfold x_go at e
  cases e
  rfl
theorem x_bj_ok {pc : Nat} {off : Int} {t : Nat} (h : x_bj pc off = some t) : (pc : Int) + off = (t : Int) := by
  unfold x_bj at h
  split at h
  · cases h
    omega
  · cases h
section XS
variable {p : Program} {l : Launch} {e : Env} {R : Room} {s : State} {m : MethodId} {args : Array Value} {below : List Frame} {meth : Method} {c : Code} {H : Heap} {locs : List Loc} {cells slots : Nat} {Q : State → Prop}
variable {D : va_G} {cA : Nat → ClassId} {base : Nat} {cb : Nat → Nat} {xs : List Int32} {M pc nx : Nat} {LS : Array Slot} {ls st : List Value} {h : x_H} {q : Nat × List Value × List Value × x_H}
theorem xs_push {v : Value} (hP : x_Pic D cA base cb xs h H) (hS : va_S (x_Ab base) s.heap H locs) (hl : x_lr (x_ad base cb) (x_nl M) ls LS)
    (row : W p l e R s m args below meth c H locs cells slots Q (F0 m nx LS (x_mv (x_ad base cb) v :: st.map (x_mv (x_ad base cb)))) → W p l e R s m args below meth c H locs cells slots Q (F0 m pc LS (st.map (x_mv (x_ad base cb)))))
    (ha : x_push nx ls st h v = some (.inl q)) (k : x_Kt p l e R s m args below meth c Q D cA base cb xs M cells slots h q.1 q.2.1 q.2.2.1 q.2.2.2) :
    W p l e R s m args below meth c H locs cells slots Q (F0 m pc LS (st.map (x_mv (x_ad base cb)))) := by
  obtain rfl := x_go_inj ha
  exact row (k H locs LS cells slots hP hS hl rfl rfl)
theorem xs_ldi {i : Nat} (hP : x_Pic D cA base cb xs h H) (hS : va_S (x_Ab base) s.heap H locs) (hl : x_lr (x_ad base cb) (x_nl M) ls LS)
    (row : ∀ x : Int32, LS[i]? = some (.val (.int x)) → W p l e R s m args below meth c H locs cells slots Q (F0 m nx LS (.int x :: st.map (x_mv (x_ad base cb)))) → W p l e R s m args below meth c H locs cells slots Q (F0 m pc LS (st.map (x_mv (x_ad base cb)))))
    (ha : x_ldi nx i ls st h = some (.inl q)) (k : x_Kt p l e R s m args below meth c Q D cA base cb xs M cells slots h q.1 q.2.1 q.2.2.1 q.2.2.2) :
    W p l e R s m args below meth c H locs cells slots Q (F0 m pc LS (st.map (x_mv (x_ad base cb)))) := by
  unfold x_ldi at ha
  split at ha
  · rename_i x hv
    obtain rfl := x_go_inj ha
    exact row x (x_lr_at hl hv (by intro z; cases z)) (k H locs LS cells slots hP hS hl rfl rfl)
  · cases ha
theorem xs_lda {i : Nat} (hP : x_Pic D cA base cb xs h H) (hS : va_S (x_Ab base) s.heap H locs) (hl : x_lr (x_ad base cb) (x_nl M) ls LS)
    (row : ∀ x : Nat, LS[i]? = some (.val (.ref x)) → W p l e R s m args below meth c H locs cells slots Q (F0 m nx LS (.ref x :: st.map (x_mv (x_ad base cb)))) → W p l e R s m args below meth c H locs cells slots Q (F0 m pc LS (st.map (x_mv (x_ad base cb)))))
    (ha : x_lda nx i ls st h = some (.inl q)) (k : x_Kt p l e R s m args below meth c Q D cA base cb xs M cells slots h q.1 q.2.1 q.2.2.1 q.2.2.2) :
    W p l e R s m args below meth c H locs cells slots Q (F0 m pc LS (st.map (x_mv (x_ad base cb)))) := by
  unfold x_lda at ha
  split at ha
  · rename_i x hv
    obtain rfl := x_go_inj ha
    exact row _ (x_lr_at hl hv (by intro z; cases z)) (k H locs LS cells slots hP hS hl rfl rfl)
  · cases ha
theorem xs_ldf {i : Nat} (hP : x_Pic D cA base cb xs h H) (hS : va_S (x_Ab base) s.heap H locs) (hl : x_lr (x_ad base cb) (x_nl M) ls LS)
    (row : ∀ x : UInt32, LS[i]? = some (.val (.float x)) → W p l e R s m args below meth c H locs cells slots Q (F0 m nx LS (.float x :: st.map (x_mv (x_ad base cb)))) → W p l e R s m args below meth c H locs cells slots Q (F0 m pc LS (st.map (x_mv (x_ad base cb)))))
    (ha : x_ldf nx i ls st h = some (.inl q)) (k : x_Kt p l e R s m args below meth c Q D cA base cb xs M cells slots h q.1 q.2.1 q.2.2.1 q.2.2.2) :
    W p l e R s m args below meth c H locs cells slots Q (F0 m pc LS (st.map (x_mv (x_ad base cb)))) := by
  unfold x_ldf at ha
  split at ha
  · rename_i x hv
    obtain rfl := x_go_inj ha
    exact row _ (x_lr_at hl hv (by intro z; cases z)) (k H locs LS cells slots hP hS hl rfl rfl)
  · cases ha
theorem xs_ldd {i : Nat} (hP : x_Pic D cA base cb xs h H) (hS : va_S (x_Ab base) s.heap H locs) (hl : x_lr (x_ad base cb) (x_nl M) ls LS)
    (row : ∀ x : UInt64, LS[i]? = some (.val (.double x)) → W p l e R s m args below meth c H locs cells slots Q (F0 m nx LS (.double x :: st.map (x_mv (x_ad base cb)))) → W p l e R s m args below meth c H locs cells slots Q (F0 m pc LS (st.map (x_mv (x_ad base cb)))))
    (ha : x_ldd nx i ls st h = some (.inl q)) (k : x_Kt p l e R s m args below meth c Q D cA base cb xs M cells slots h q.1 q.2.1 q.2.2.1 q.2.2.2) :
    W p l e R s m args below meth c H locs cells slots Q (F0 m pc LS (st.map (x_mv (x_ad base cb)))) := by
  unfold x_ldd at ha
  split at ha
  · rename_i x hv
    obtain rfl := x_go_inj ha
    exact row _ (x_lr_at hl hv (by intro z; cases z)) (k H locs LS cells slots hP hS hl rfl rfl)
  · cases ha
theorem xs_sti {i : Nat} (hP : x_Pic D cA base cb xs h H) (hS : va_S (x_Ab base) s.heap H locs) (hl : x_lr (x_ad base cb) (x_nl M) ls LS)
    (row : ∀ (x : Int32) (r : List Value), i < x_nl M → (∀ LS' : Array Slot, lv_has LS' (x_nl M) ((i, .int x) :: (x_al (x_ad base cb) ls).filter (fun q => !(q.1 == i) && !(q.1 + 1 == i && q.2.category == 2))) → W p l e R s m args below meth c H locs cells slots Q (F0 m nx LS' r)) → W p l e R s m args below meth c H locs cells slots Q (F0 m pc LS (.int x :: r)))
    (ha : x_sti nx i ls st h = some (.inl q)) (k : x_Kt p l e R s m args below meth c Q D cA base cb xs M cells slots h q.1 q.2.1 q.2.2.1 q.2.2.2) :
    W p l e R s m args below meth c H locs cells slots Q (F0 m pc LS (st.map (x_mv (x_ad base cb)))) := by
  unfold x_sti at ha
  split at ha
  · split at ha
    · rename_i hc
      obtain rfl := x_go_inj ha
      exact row _ _ (by rw [← hl.1]; exact hc.1) fun LS' hl' => k H locs LS' cells slots hP hS (x_lr_set hl.1 hc.2 hl') rfl rfl
    · cases ha
  · cases ha
theorem xs_sta {i : Nat} (hP : x_Pic D cA base cb xs h H) (hS : va_S (x_Ab base) s.heap H locs) (hl : x_lr (x_ad base cb) (x_nl M) ls LS)
    (row : ∀ (x : Nat) (r : List Value), i < x_nl M → (∀ LS' : Array Slot, lv_has LS' (x_nl M) ((i, .ref x) :: (x_al (x_ad base cb) ls).filter (fun q => !(q.1 == i) && !(q.1 + 1 == i && q.2.category == 2))) → W p l e R s m args below meth c H locs cells slots Q (F0 m nx LS' r)) → W p l e R s m args below meth c H locs cells slots Q (F0 m pc LS (.ref x :: r)))
    (ha : x_sta nx i ls st h = some (.inl q)) (k : x_Kt p l e R s m args below meth c Q D cA base cb xs M cells slots h q.1 q.2.1 q.2.2.1 q.2.2.2) :
    W p l e R s m args below meth c H locs cells slots Q (F0 m pc LS (st.map (x_mv (x_ad base cb)))) := by
  unfold x_sta at ha
  split at ha
  · split at ha
    · rename_i hc
      obtain rfl := x_go_inj ha
      exact row _ _ (by rw [← hl.1]; exact hc.1) fun LS' hl' => k H locs LS' cells slots hP hS (x_lr_set hl.1 hc.2 hl') rfl rfl
    · cases ha
  · cases ha
theorem xs_stf {i : Nat} (hP : x_Pic D cA base cb xs h H) (hS : va_S (x_Ab base) s.heap H locs) (hl : x_lr (x_ad base cb) (x_nl M) ls LS)
    (row : ∀ (x : UInt32) (r : List Value), i < x_nl M → (∀ LS' : Array Slot, lv_has LS' (x_nl M) ((i, .float x) :: (x_al (x_ad base cb) ls).filter (fun q => !(q.1 == i) && !(q.1 + 1 == i && q.2.category == 2))) → W p l e R s m args below meth c H locs cells slots Q (F0 m nx LS' r)) → W p l e R s m args below meth c H locs cells slots Q (F0 m pc LS (.float x :: r)))
    (ha : x_stf nx i ls st h = some (.inl q)) (k : x_Kt p l e R s m args below meth c Q D cA base cb xs M cells slots h q.1 q.2.1 q.2.2.1 q.2.2.2) :
    W p l e R s m args below meth c H locs cells slots Q (F0 m pc LS (st.map (x_mv (x_ad base cb)))) := by
  unfold x_stf at ha
  split at ha
  · split at ha
    · rename_i hc
      obtain rfl := x_go_inj ha
      exact row _ _ (by rw [← hl.1]; exact hc.1) fun LS' hl' => k H locs LS' cells slots hP hS (x_lr_set hl.1 hc.2 hl') rfl rfl
    · cases ha
  · cases ha
theorem xs_std {i : Nat} (hP : x_Pic D cA base cb xs h H) (hS : va_S (x_Ab base) s.heap H locs) (hl : x_lr (x_ad base cb) (x_nl M) ls LS)
    (row : ∀ (x : UInt64) (r : List Value), i + 1 < x_nl M → (∀ LS' : Array Slot, lv_has LS' (x_nl M) ((i, .double x) :: (x_al (x_ad base cb) ls).filter (fun q => !(q.1 == i) && (!(q.1 == i + 1) && !(q.1 + 1 == i && q.2.category == 2)))) → W p l e R s m args below meth c H locs cells slots Q (F0 m nx LS' r)) → W p l e R s m args below meth c H locs cells slots Q (F0 m pc LS (.double x :: r)))
    (ha : x_std nx i ls st h = some (.inl q)) (k : x_Kt p l e R s m args below meth c Q D cA base cb xs M cells slots h q.1 q.2.1 q.2.2.1 q.2.2.2) :
    W p l e R s m args below meth c H locs cells slots Q (F0 m pc LS (st.map (x_mv (x_ad base cb)))) := by
  unfold x_std at ha
  split at ha
  · split at ha
    · rename_i hc
      obtain rfl := x_go_inj ha
      exact row _ _ (by rw [← hl.1]; exact hc.1) fun LS' hl' => k H locs LS' cells slots hP hS (x_lr_set2 hl.1 hc.2 hl') rfl rfl
    · cases ha
  · cases ha
theorem xs_inc {i : Nat} {n : Int} (hP : x_Pic D cA base cb xs h H) (hS : va_S (x_Ab base) s.heap H locs) (hl : x_lr (x_ad base cb) (x_nl M) ls LS)
    (row : ∀ (x : Int32) (j : Nat), (x_al (x_ad base cb) ls)[j]? = some (i, .int x) → i < x_nl M → (∀ LS' : Array Slot, lv_has LS' (x_nl M) ((i, .int (x + Int32.ofInt n)) :: (x_al (x_ad base cb) ls).filter (fun q => !(q.1 == i) && !(q.1 + 1 == i && q.2.category == 2))) → W p l e R s m args below meth c H locs cells slots Q (F0 m nx LS' (st.map (x_mv (x_ad base cb))))) → W p l e R s m args below meth c H locs cells slots Q (F0 m pc LS (st.map (x_mv (x_ad base cb)))))
    (ha : x_inc nx i n ls st h = some (.inl q)) (k : x_Kt p l e R s m args below meth c Q D cA base cb xs M cells slots h q.1 q.2.1 q.2.2.1 q.2.2.2) :
    W p l e R s m args below meth c H locs cells slots Q (F0 m pc LS (st.map (x_mv (x_ad base cb)))) := by
  unfold x_inc at ha
  split at ha
  · rename_i x hv
    split at ha
    · rename_i hc
      obtain rfl := x_go_inj ha
      have hm : (i, Value.int x) ∈ x_al (x_ad base cb) ls := x_al_mem.mpr ⟨.int x, hv, (fun z => by cases z), rfl⟩
      obtain ⟨j, hj⟩ := List.getElem?_of_mem hm
      exact row x j hj (by rw [← hl.1]; exact (List.getElem?_eq_some_iff.mp hv).1) fun LS' hl' => k H locs LS' cells slots hP hS (x_lr_set hl.1 hc hl') rfl rfl
    · cases ha
  · cases ha
theorem xs_a1 {f : Int32 → Value} (hf : ∀ x, x_mv (x_ad base cb) (f x) = f x) (hP : x_Pic D cA base cb xs h H) (hS : va_S (x_Ab base) s.heap H locs) (hl : x_lr (x_ad base cb) (x_nl M) ls LS)
    (row : ∀ (x : Int32) (r : List Value), W p l e R s m args below meth c H locs cells slots Q (F0 m nx LS (f x :: r)) → W p l e R s m args below meth c H locs cells slots Q (F0 m pc LS (.int x :: r)))
    (ha : x_a1 f nx ls st h = some (.inl q)) (k : x_Kt p l e R s m args below meth c Q D cA base cb xs M cells slots h q.1 q.2.1 q.2.2.1 q.2.2.2) :
    W p l e R s m args below meth c H locs cells slots Q (F0 m pc LS (st.map (x_mv (x_ad base cb)))) := by
  unfold x_a1 at ha
  split at ha
  · rename_i x r
    obtain rfl := x_go_inj ha
    have k1 := k H locs LS cells slots hP hS hl rfl rfl
    rw [List.map_cons, hf] at k1
    exact row x _ k1
  · cases ha
theorem xs_a2 {f : Int32 → Int32 → Int32} (hP : x_Pic D cA base cb xs h H) (hS : va_S (x_Ab base) s.heap H locs) (hl : x_lr (x_ad base cb) (x_nl M) ls LS)
    (row : ∀ (x y : Int32) (r : List Value), W p l e R s m args below meth c H locs cells slots Q (F0 m nx LS (.int (f x y) :: r)) → W p l e R s m args below meth c H locs cells slots Q (F0 m pc LS (.int y :: .int x :: r)))
    (ha : x_a2 f nx ls st h = some (.inl q)) (k : x_Kt p l e R s m args below meth c Q D cA base cb xs M cells slots h q.1 q.2.1 q.2.2.1 q.2.2.2) :
    W p l e R s m args below meth c H locs cells slots Q (F0 m pc LS (st.map (x_mv (x_ad base cb)))) := by
  unfold x_a2 at ha
  split at ha
  · rename_i x y r
    obtain rfl := x_go_inj ha
    exact row _ _ _ (k H locs LS cells slots hP hS hl rfl rfl)
  · cases ha
theorem xs_dv {f : Int32 → Int32 → Int32} (hP : x_Pic D cA base cb xs h H) (hS : va_S (x_Ab base) s.heap H locs) (hl : x_lr (x_ad base cb) (x_nl M) ls LS)
    (row : ∀ (x y : Int32) (r : List Value), ¬ y = 0 → W p l e R s m args below meth c H locs cells slots Q (F0 m nx LS (.int (f x y) :: r)) → W p l e R s m args below meth c H locs cells slots Q (F0 m pc LS (.int y :: .int x :: r)))
    (ha : x_dv f nx ls st h = some (.inl q)) (k : x_Kt p l e R s m args below meth c Q D cA base cb xs M cells slots h q.1 q.2.1 q.2.2.1 q.2.2.2) :
    W p l e R s m args below meth c H locs cells slots Q (F0 m pc LS (st.map (x_mv (x_ad base cb)))) := by
  unfold x_dv at ha
  split at ha
  · split at ha
    · cases ha
    · rename_i hy
      obtain rfl := x_go_inj ha
      exact row _ _ _ hy (k H locs LS cells slots hP hS hl rfl rfl)
  · cases ha
theorem xs_if1 {P : Int32 → Bool} {off : Int} (hP : x_Pic D cA base cb xs h H) (hS : va_S (x_Ab base) s.heap H locs) (hl : x_lr (x_ad base cb) (x_nl M) ls LS)
    (row : ∀ (x : Int32) (r : List Value) (tgt : Nat), (pc : Int) + off = (tgt : Int) → (P x = true → W p l e R s m args below meth c H locs cells slots Q (F0 m tgt LS r)) → (¬ P x = true → W p l e R s m args below meth c H locs cells slots Q (F0 m nx LS r)) → W p l e R s m args below meth c H locs cells slots Q (F0 m pc LS (.int x :: r)))
    (ha : x_if1 P pc nx off ls st h = some (.inl q)) (k : x_Kt p l e R s m args below meth c Q D cA base cb xs M cells slots h q.1 q.2.1 q.2.2.1 q.2.2.2) :
    W p l e R s m args below meth c H locs cells slots Q (F0 m pc LS (st.map (x_mv (x_ad base cb)))) := by
  unfold x_if1 at ha
  split at ha
  · rename_i x r
    split at ha
    · rename_i t ht
      refine row x _ t (x_bj_ok ht) (fun hp => ?_) (fun hp => ?_)
      · rw [if_pos hp] at ha
        obtain rfl := x_go_inj ha
        exact k H locs LS cells slots hP hS hl rfl rfl
      · rw [if_neg hp] at ha
        obtain rfl := x_go_inj ha
        exact k H locs LS cells slots hP hS hl rfl rfl
    · cases ha
  · cases ha
theorem xs_if2 {P : Int32 → Int32 → Bool} {off : Int} (hP : x_Pic D cA base cb xs h H) (hS : va_S (x_Ab base) s.heap H locs) (hl : x_lr (x_ad base cb) (x_nl M) ls LS)
    (row : ∀ (x y : Int32) (r : List Value) (tgt : Nat), (pc : Int) + off = (tgt : Int) → (P x y = true → W p l e R s m args below meth c H locs cells slots Q (F0 m tgt LS r)) → (¬ P x y = true → W p l e R s m args below meth c H locs cells slots Q (F0 m nx LS r)) → W p l e R s m args below meth c H locs cells slots Q (F0 m pc LS (.int y :: .int x :: r)))
    (ha : x_if2 P pc nx off ls st h = some (.inl q)) (k : x_Kt p l e R s m args below meth c Q D cA base cb xs M cells slots h q.1 q.2.1 q.2.2.1 q.2.2.2) :
    W p l e R s m args below meth c H locs cells slots Q (F0 m pc LS (st.map (x_mv (x_ad base cb)))) := by
  unfold x_if2 at ha
  split at ha
  · rename_i y x r
    split at ha
    · rename_i t ht
      refine row x y _ t (x_bj_ok ht) (fun hp => ?_) (fun hp => ?_)
      · rw [if_pos hp] at ha
        obtain rfl := x_go_inj ha
        exact k H locs LS cells slots hP hS hl rfl rfl
      · rw [if_neg hp] at ha
        obtain rfl := x_go_inj ha
        exact k H locs LS cells slots hP hS hl rfl rfl
    · cases ha
  · cases ha
end XS
