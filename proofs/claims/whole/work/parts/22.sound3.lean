def x_icok (q : Nat × Nat × Nat × Nat × Nat) : Bool := decide (5 ≤ q.2.2.1 ∧ q.2.2.1 ≤ 9) || (decide (q.2.2.2.2 ≤ x_nl q.2.2.2.1) && x_mids.contains q.2.2.2.1 && (decide (q.2.2.1 = 0 ∨ q.2.2.1 = 1) || !(x_tm.contains q.2.2.2.1)) && (decide (q.2.2.1 = 0) || decide (q.2.2.1 = 2) || decide (q.2.2.1 = 4) || decide (q.2.2.1 = 1) || decide (q.2.2.1 = 3) || decide (q.2.2.1 = 10)))
theorem x_itab_ic : x_itab.all x_icok = true := by decide +kernel
theorem x_tm_noh : x_tm.all x_noh = true := by decide +kernel
set_option maxHeartbeats 4000000 in
theorem x_sound (n : Nat) : x_Snd n := by
  induction n with
  | zero => intro M pc ls st h r h' hx; cases hx
  | succ n ih =>
    intro M pc ls st h r h' hx p l e R s m args below meth c H locs cells slots Q D cA base cb xs LS hF hZ hT hM hP hS hl hRf hRl hRc hRs hret hths hthp
    have hmono := x_exec_mono _ _ _ _ _ _ _ _ hx
    have hx : x_F (x_exec n) M pc ls st h = some (r, h') := hx
    unfold x_F at hx
    split at hx
    · cases hx
    · rename_i q hq
      obtain ⟨pc1, ls1, st1, h1⟩ := q
      have hm1 := x_exec_mono _ _ _ _ _ _ _ _ hx
      dsimp only at hx hm1
      have k : x_Kt p l e R s m args below meth c Q D cA base cb xs M cells slots h pc1 ls1 st1 h1 := by
        intro H2 locs2 LS2 cells2 slots2 hP2 hS2 hl2 hc2 hs2
        refine ih M pc1 ls1 st1 h1 r h' hx p l e R s m args below meth c H2 locs2 cells2 slots2 Q D cA base cb xs LS2 hF hZ hT hM hP2 hS2 hl2 hRf hRl (by omega) (by omega) ?_ ?_ ?_
        · intro v pc' st' i len LS' H' locs' cells' slots' a1 a2 a3 a4 a5 a6 a7 a8
          exact hret v pc' st' i len LS' H' locs' cells' slots' a1 a2 a3 a4 a5 a6 (by omega) (by omega)
        · intro E pc' st' g1 LS' H' locs' cells' slots' a1 a2 a3 a4 a5 a6 a7 a8 a9 a10
          exact hths E pc' st' g1 LS' H' locs' cells' slots' a1 a2 a3 a4 a5 a6 a7 a8 (by omega) (by omega)
        · intro E pc' q rest ce LS' H' locs' cells' slots' a1 a2 a3 a4 a5 a6 a7 a8 a9
          exact hthp E pc' q rest ce LS' H' locs' cells' slots' a1 a2 a3 a4 a5 a6 a7 (by omega) (by omega)
      have hgo : h.2.2.1 ≤ h1.2.2.1 ∧ h.2.2.2 ≤ h1.2.2.2 := by
        have gg : ∀ a : x_A, a = Sum.inl (pc1, ls1, st1, h1) → x_isgo h a → h.2.2.1 ≤ h1.2.2.1 ∧ h.2.2.2 ≤ h1.2.2.2 := by
          rintro a rfl ⟨pc', ls', st', h1, e, e1, e2⟩
          cases e
          exact ⟨e1, e2⟩
        obtain ⟨i, len, hd, ⟨-, h1 | h1 | h1⟩ | ⟨h1, -⟩⟩ := x_act_is hq
        · exact gg _ rfl (x_do1_is h1)
        · exact gg _ rfl (x_do2_is h1)
        · rcases x_do3_is h1 with h2 | ⟨_, _, _, _, _, h2⟩ | ⟨_, _, _, _, _, _, _, h2, _⟩
          · exact gg _ rfl h2
          · cases h2
          · cases h2
        · rcases x_do4_is h1 with h2 | ⟨_, h2, _⟩
          · exact gg _ rfl h2
          · cases h2
      obtain ⟨i, len, hd, ⟨hlen, hdo | hdo | hdo⟩ | ⟨hdo, -⟩⟩ := x_act_is hq
      · subst hlen
        exact x_sim1 hF hZ hP hS hl hd hdo k
      · subst hlen
        exact x_sim2 hF hP hS hl hd hdo k
      · subst hlen
        exact x_sim3 hF hZ hP hS hl (by omega) (by omega) (by omega) (by omega) (by dsimp only; omega) (by dsimp only; omega) hd hdo k
      · exact x_sim4 hF hP hS hl hd hdo k
    · rename_i q hq
      cases hx
      obtain ⟨i, len, hd, ⟨hlen, hdo | hdo | hdo⟩ | ⟨hdo, hlen⟩⟩ := x_act_is hq
      · obtain ⟨_, _, _, _, e, _⟩ := x_do1_is hdo
        cases e
      · obtain ⟨_, _, _, _, e, _⟩ := x_do2_is hdo
        cases e
      · rcases x_do3_is hdo with ⟨_, _, _, _, e, _⟩ | ⟨ix, E, rfl, hE, hw, h2⟩ | ⟨_, _, _, _, _, _, _, h2, _⟩
        · cases e
        · cases h2
          exact hths E pc st h LS H locs cells slots rfl hE hw.1 hw.2 rfl hl.2.1 hP hS rfl rfl
        · cases h2
      · rcases x_do4_is hdo with ⟨_, _, _, _, e, _⟩ | ⟨v, h2, hiv⟩
        · cases e
        · cases h2
          exact hret v pc st i len LS H locs cells slots rfl hd hlen hiv hP hS rfl rfl
    · rename_i q hq
      sorry
