def x_isgo (h : x_H) (a : x_A) : Prop := ∃ (pc' : Nat) (ls' st' : List Value) (h' : x_H), a = .inl (pc', ls', st', h') ∧ h.2.2.1 ≤ h'.2.2.1 ∧ h.2.2.2 ≤ h'.2.2.2
theorem x_go_is {pc : Nat} {ls st : List Value} {h0 h : x_H} {a : x_A} (ha : x_go pc ls st h = some a) (h1 : h0.2.2.1 ≤ h.2.2.1) (h2 : h0.2.2.2 ≤ h.2.2.2) : x_isgo h0 a := by
  unfold x_go at ha
  cases ha
  exact ⟨_, _, _, _, rfl, h1, h2⟩
theorem x_do1_is {M pc : Nat} {ls st : List Value} {h : x_H} {i : Instr} {a : x_A} (ha : x_do1 M pc ls st h i = some a) : x_isgo h a := by
  unfold x_do1 at ha
  split at ha <;> (try unfold x_lda at ha) <;> (try unfold x_ldi at ha) <;> (try unfold x_ldf at ha) <;> (try unfold x_ldd at ha) <;> (try unfold x_push at ha) <;> (try unfold x_sti at ha) <;> (try unfold x_sta at ha) <;> (try unfold x_stf at ha) <;> (try unfold x_std at ha) <;> (try unfold x_inc at ha) <;> (try unfold x_a1 at ha) <;> (try unfold x_a2 at ha) <;> (try unfold x_dv at ha) <;> (repeat' split at ha) <;> first | exact x_go_is ha (Nat.le_refl _) (Nat.le_refl _) | cases ha
theorem x_do2_is {M pc : Nat} {ls st : List Value} {h : x_H} {i : Instr} {a : x_A} (ha : x_do2 M pc ls st h i = some a) : x_isgo h a := by
  unfold x_do2 at ha
  split at ha <;> (try unfold x_if1 at ha) <;> (try unfold x_if2 at ha) <;> (repeat' split at ha) <;> first | exact x_go_is ha (Nat.le_refl _) (Nat.le_refl _) | cases ha
theorem x_alloc_is {h : x_H} {nx n : Nat} {ls st : List Value} {e0 : x_E} {a : x_A} (ha : x_alloc h nx ls st e0 n = some a) : x_isgo h a := by
  unfold x_alloc at ha
  split at ha
  · exact x_go_is ha (Nat.le_succ _) (Nat.le_add_right _ _)
  · cases ha
theorem x_news_is {h : x_H} {t nx : Nat} {ls st : List Value} {e0 : Nat → x_E} {a : x_A} (ha : x_news t nx ls st h e0 = some a) : x_isgo h a := by
  unfold x_news at ha
  split at ha
  · split at ha
    · exact x_alloc_is ha
    · cases ha
  · cases ha
theorem x_str_is {h : x_H} {kd nx : Nat} {ls st : List Value} {a : x_A} (ha : x_str kd nx ls st h = some a) : x_isgo h a := by
  unfold x_str at ha
  repeat' split at ha
  all_goals first | exact x_go_is ha (Nat.le_refl _) (Nat.le_refl _) | cases ha
def x_isthr (M pc : Nat) (st : List Value) (h : x_H) (i : Instr) (a : x_A) : Prop := ∃ (ix : Nat) (E : String), i = .new ix ∧ x_tth M pc = some E ∧ (x_wt st ≤ 8 ∧ h.2.1 ≤ h.2.2.1) ∧ a = .inr (.inl (.inr E, (h.1, h.2.1, h.2.2.1 + 1, h.2.2.2 + 6)))
def x_iscall (M pc : Nat) (st : List Value) (h : x_H) (i : Instr) (a : x_A) : Prop := ∃ (ix kd M' n : Nat), x_lk x_itab (M / 100) ix = some (kd, M', n) ∧ x_hgt M' < x_hgt M ∧ (n ≤ st.length ∧ x_wt (st.drop n) ≤ 8 ∧ x_wt (st.take n) = n) ∧ a = .inr (.inr (M', (st.take n).reverse, pc + 3, st.drop n)) ∧
  ((i = .invokevirtual ix ∧ kd = 0 ∧ x_recv M' n st h = true) ∨ (i = .invokestatic ix ∧ (kd = 1 ∨ kd = 3 ∨ kd = 10)) ∨ (i = .invokespecial ix ∧ (kd = 2 ∨ kd = 4) ∧ x_recv M' n st h = true))
theorem x_call_is {M M' n nx : Nat} {st : List Value} {a : x_A} (ha : x_call M M' n nx st = some a) : x_hgt M' < x_hgt M ∧ (n ≤ st.length ∧ x_wt (st.drop n) ≤ 8 ∧ x_wt (st.take n) = n) ∧ a = .inr (.inr (M', (st.take n).reverse, nx, st.drop n)) := by
  unfold x_call at ha
  split at ha
  · rename_i h1
    unfold x_args at ha
    split at ha
    · rename_i h2
      cases ha
      exact ⟨h1, h2, rfl⟩
    · cases ha
  · cases ha
theorem x_do3_is {M pc : Nat} {ls st : List Value} {h : x_H} {i : Instr} {a : x_A} (ha : x_do3 M pc ls st h i = some a) : x_isgo h a ∨ x_isthr M pc st h i a ∨ x_iscall M pc st h i a := by
  unfold x_do3 at ha
  split at ha
  · left; unfold x_ald at ha; repeat' split at ha
    all_goals first | exact x_go_is ha (Nat.le_refl _) (Nat.le_refl _) | cases ha
  · left; unfold x_ald at ha; repeat' split at ha
    all_goals first | exact x_go_is ha (Nat.le_refl _) (Nat.le_refl _) | cases ha
  · left; unfold x_ald at ha; repeat' split at ha
    all_goals first | exact x_go_is ha (Nat.le_refl _) (Nat.le_refl _) | cases ha
  · left; unfold x_ast at ha; repeat' split at ha
    all_goals first | exact x_go_is ha (Nat.le_refl _) (Nat.le_refl _) | cases ha
  · left; unfold x_ast at ha; repeat' split at ha
    all_goals first | exact x_go_is ha (Nat.le_refl _) (Nat.le_refl _) | cases ha
  · left; unfold x_ast at ha; repeat' split at ha
    all_goals first | exact x_go_is ha (Nat.le_refl _) (Nat.le_refl _) | cases ha
  · left; unfold x_vld at ha; repeat' split at ha
    all_goals first | exact x_go_is ha (Nat.le_refl _) (Nat.le_refl _) | cases ha
  · left; unfold x_vld at ha; repeat' split at ha
    all_goals first | exact x_go_is ha (Nat.le_refl _) (Nat.le_refl _) | cases ha
  · left; unfold x_vld at ha; repeat' split at ha
    all_goals first | exact x_go_is ha (Nat.le_refl _) (Nat.le_refl _) | cases ha
  · left; unfold x_vst at ha; repeat' split at ha
    all_goals first | exact x_go_is ha (Nat.le_refl _) (Nat.le_refl _) | cases ha
  · left; unfold x_vst at ha; repeat' split at ha
    all_goals first | exact x_go_is ha (Nat.le_refl _) (Nat.le_refl _) | cases ha
  · left; unfold x_bst at ha; repeat' split at ha
    all_goals first | exact x_go_is ha (Nat.le_refl _) (Nat.le_refl _) | cases ha
  · left; unfold x_len at ha; repeat' split at ha
    all_goals first | exact x_go_is ha (Nat.le_refl _) (Nat.le_refl _) | cases ha
  · exact Or.inl (x_news_is ha)
  · exact Or.inl (x_news_is ha)
  · exact Or.inl (x_news_is ha)
  · exact Or.inl (x_news_is ha)
  · exact Or.inl (x_news_is ha)
  · split at ha
    · exact Or.inl (x_news_is ha)
    · cases ha
  · left; unfold x_getf at ha; repeat' split at ha
    all_goals first | exact x_go_is ha (Nat.le_refl _) (Nat.le_refl _) | cases ha
  · left; unfold x_putf at ha; repeat' split at ha
    all_goals first | exact x_go_is ha (Nat.le_refl _) (Nat.le_refl _) | cases ha
  · split at ha
    · exact Or.inl (x_alloc_is ha)
    · split at ha
      · rename_i E hE
        split at ha
        · rename_i hw
          unfold x_thr at ha
          cases ha
          exact Or.inr (Or.inl ⟨_, E, rfl, hE, hw, rfl⟩)
        · cases ha
      · cases ha
  · split at ha
    · rename_i z hz
      obtain ⟨kd, M', n⟩ := z
      split at ha
      · rename_i hk
        split at ha
        · rename_i hrv
          obtain ⟨h1, h2, h3⟩ := x_call_is ha
          exact Or.inr (Or.inr ⟨_, kd, M', n, hz, h1, h2, h3, Or.inl ⟨rfl, hk, hrv⟩⟩)
        · cases ha
      · split at ha
        · split at ha
          · exact Or.inl (x_str_is ha)
          · cases ha
        · cases ha
    · cases ha
  · split at ha
    · rename_i z hz
      obtain ⟨kd, M', n⟩ := z
      split at ha
      · rename_i hk
        obtain ⟨h1, h2, h3⟩ := x_call_is ha
        exact Or.inr (Or.inr ⟨_, kd, M', n, hz, h1, h2, h3, Or.inr (Or.inl ⟨rfl, hk⟩)⟩)
      · split at ha
        · left; unfold x_cpy at ha; repeat' split at ha
          all_goals first | exact x_go_is ha (Nat.le_refl _) (Nat.le_refl _) | cases ha
        · cases ha
    · cases ha
  · split at ha
    · rename_i z hz
      obtain ⟨kd, M', n⟩ := z
      split at ha
      · rename_i hk
        split at ha
        · rename_i hrv
          obtain ⟨h1, h2, h3⟩ := x_call_is ha
          exact Or.inr (Or.inr ⟨_, kd, M', n, hz, h1, h2, h3, Or.inr (Or.inr ⟨rfl, hk, hrv⟩)⟩)
        · cases ha
      · split at ha
        · left; repeat' split at ha
          all_goals first | exact x_go_is ha (Nat.le_refl _) (Nat.le_refl _) | cases ha
        · cases ha
    · cases ha
  · cases ha
def x_isret (M : Nat) (st : List Value) (i : Instr) (v : Option Value) : Prop :=
  (∃ (x : Int32) (ty : FieldType), i = .ireturn ∧ st = [.int x] ∧ v = some (.int x) ∧ x_ret M = some ty ∧ narrow ty (.int x) = .int x) ∨
  (∃ a : Nat, i = .areturn ∧ st = [.ref a] ∧ v = some (.ref a) ∧ x_ret M = some (.object "java/lang/String")) ∨
  (∃ x : UInt32, i = .freturn ∧ st = [.float x] ∧ v = some (.float x) ∧ x_ret M = some .float) ∨
  (∃ x : UInt64, i = .dreturn ∧ st = [.double x] ∧ v = some (.double x) ∧ x_ret M = some .double) ∨
  (i = .return_ ∧ st = [] ∧ v = none ∧ x_ret M = none)
theorem x_fin_is {v : Option Value} {h : x_H} {a : x_A} (ha : x_fin v h = some a) : a = .inr (.inl (.inl v, h)) := by
  unfold x_fin at ha
  cases ha
  rfl
theorem x_do4_is {M pc : Nat} {ls st : List Value} {h : x_H} {i : Instr} {a : x_A} (ha : x_do4 M pc ls st h i = some a) : x_isgo h a ∨ ∃ v, a = .inr (.inl (.inl v, h)) ∧ x_isret M st i v := by
  unfold x_do4 at ha
  split at ha
  · split at ha
    · split at ha
      · rename_i ty hty
        split at ha
        · rename_i hn
          exact Or.inr ⟨_, x_fin_is ha, Or.inl ⟨_, ty, rfl, rfl, rfl, hty, hn⟩⟩
        · cases ha
      · cases ha
    · cases ha
  · split at ha
    · split at ha
      · rename_i hty
        exact Or.inr ⟨_, x_fin_is ha, Or.inr (Or.inl ⟨_, rfl, rfl, rfl, hty⟩)⟩
      · cases ha
    · cases ha
  · split at ha
    · split at ha
      · rename_i hty
        exact Or.inr ⟨_, x_fin_is ha, Or.inr (Or.inr (Or.inl ⟨_, rfl, rfl, rfl, hty⟩))⟩
      · cases ha
    · cases ha
  · split at ha
    · split at ha
      · rename_i hty
        exact Or.inr ⟨_, x_fin_is ha, Or.inr (Or.inr (Or.inr (Or.inl ⟨_, rfl, rfl, rfl, hty⟩)))⟩
      · cases ha
    · cases ha
  · split at ha
    · split at ha
      · rename_i hty
        exact Or.inr ⟨_, x_fin_is ha, Or.inr (Or.inr (Or.inr (Or.inr ⟨rfl, rfl, rfl, hty⟩)))⟩
      · cases ha
    · cases ha
  · left; unfold x_sw at ha; repeat' split at ha
    all_goals first | exact x_go_is ha (Nat.le_refl _) (Nat.le_refl _) | cases ha
  · split at ha
    · left; unfold x_sw at ha; repeat' split at ha
      all_goals first | exact x_go_is ha (Nat.le_refl _) (Nat.le_refl _) | cases ha
    · cases ha
  · cases ha
theorem x_isw_do {M pc : Nat} {ls st : List Value} {h : x_H} {i : Instr} (hi : x_isw i = true) : x_do1 M pc ls st h i = none ∧ x_do2 M pc ls st h i = none ∧ x_do3 M pc ls st h i = none := by
  unfold x_isw at hi
  split at hi
  · exact ⟨rfl, rfl, rfl⟩
  · exact ⟨rfl, rfl, rfl⟩
  · cases hi
theorem x_act_is {M pc : Nat} {ls st : List Value} {h : x_H} {a : x_A} (ha : x_act M pc ls st h = some a) : ∃ (i : Instr) (len : Nat), decode (x_code M) pc = .ok (i, len) ∧
    ((len = x_len1 i ∧ (x_do1 M pc ls st h i = some a ∨ x_do2 M pc ls st h i = some a ∨ x_do3 M pc ls st h i = some a)) ∨ (x_do4 M pc ls st h i = some a ∧ (len = x_len1 i ∨ x_isw i = true))) := by
  unfold x_act at ha
  split at ha
  · rename_i i len hd
    split at ha
    · rename_i hlen
      refine ⟨i, len, hd, ?_⟩
      rcases Option.or_eq_some_iff.mp ha with h1 | ⟨-, h1⟩
      · left
        refine ⟨hlen.resolve_right fun z => ?_, Or.inl h1⟩
        rw [(x_isw_do z).1] at h1
        cases h1
      · rcases Option.or_eq_some_iff.mp h1 with h2 | ⟨-, h2⟩
        · left
          refine ⟨hlen.resolve_right fun z => ?_, Or.inr (Or.inl h2)⟩
          rw [(x_isw_do z).2.1] at h2
          cases h2
        · rcases Option.or_eq_some_iff.mp h2 with h3 | ⟨-, h3⟩
          · left
            refine ⟨hlen.resolve_right fun z => ?_, Or.inr (Or.inr h3)⟩
            rw [(x_isw_do z).2.2] at h3
            cases h3
          · right
            exact ⟨h3, hlen⟩
    · cases ha
  · cases ha
theorem x_exec_mono (n : Nat) : ∀ (M pc : Nat) (ls st : List Value) (h : x_H) (r : x_R) (h' : x_H), x_exec n M pc ls st h = some (r, h') → h.2.2.1 ≤ h'.2.2.1 ∧ h.2.2.2 ≤ h'.2.2.2 := by
  induction n with
  | zero => intro M pc ls st h r h' hz; cases hz
  | succ n ih =>
    intro M pc ls st h r h' hz
    have hz : x_F (x_exec n) M pc ls st h = some (r, h') := hz
    unfold x_F at hz
    have key : ∀ q, x_act M pc ls st h = some (.inl q) → h.2.2.1 ≤ q.2.2.2.2.2.1 ∧ h.2.2.2 ≤ q.2.2.2.2.2.2 := by
      intro q hq
      have gg : ∀ a, a = Sum.inl q → x_isgo h a → h.2.2.1 ≤ q.2.2.2.2.2.1 ∧ h.2.2.2 ≤ q.2.2.2.2.2.2 := by
        rintro a rfl ⟨pc', ls', st', h1, e, e1, e2⟩
        cases e
        exact ⟨e1, e2⟩
      obtain ⟨i, len, hd, ⟨-, h1 | h1 | h1⟩ | ⟨h1, -⟩⟩ := x_act_is hq
      · exact gg _ rfl (x_do1_is h1)
      · exact gg _ rfl (x_do2_is h1)
      · rcases x_do3_is h1 with h2 | ⟨_, _, _, _, _, h2⟩ | ⟨_, _, _, _, _, _, _, h2, _⟩
        · exact gg _ rfl h2
        · cases h2
        · cases h2
      · rcases x_do4_is h1 with h2 | ⟨_, h2, _⟩
        · exact gg _ rfl h2
        · cases h2
    split at hz
    · cases hz
    · rename_i q hq
      have h1 := ih _ _ _ _ _ _ _ hz
      have h2 := key q hq
      omega
    · rename_i q hq
      cases hz
      obtain ⟨i, len, hd, ⟨-, h1 | h1 | h1⟩ | ⟨h1, -⟩⟩ := x_act_is hq
      · obtain ⟨_, _, _, _, e, _⟩ := x_do1_is h1
        cases e
      · obtain ⟨_, _, _, _, e, _⟩ := x_do2_is h1
        cases e
      · rcases x_do3_is h1 with ⟨_, _, _, _, e, _⟩ | ⟨_, _, _, _, _, h2⟩ | ⟨_, _, _, _, _, _, _, h2, _⟩
        · cases e
        · cases h2
          exact ⟨Nat.le_succ _, Nat.le_add_right _ _⟩
        · cases h2
      · rcases x_do4_is h1 with ⟨_, _, _, _, e, _⟩ | ⟨_, h2, _⟩
        · cases e
        · cases h2
          exact ⟨Nat.le_refl _, Nat.le_refl _⟩
    · split at hz
      · cases hz
      · rename_i e1
        have h1 := ih _ _ _ _ _ _ _ e1
        have h2 := ih _ _ _ _ _ _ _ hz
        omega
      · rename_i e1
        have h1 := ih _ _ _ _ _ _ _ e1
        split at hz
        · split at hz
          · have h2 := ih _ _ _ _ _ _ _ hz
            omega
          · cases hz
            exact h1
        · cases hz
