/-- a datum that is no NaN, not below zero, and fits -/
def q_pd (f : FP.Core.Fmt) (d : FP.Core.Datum) : Prop := d = .inf false ∨ ∃ (c : Nat) (q : Int), d = .fin false c q ∧ c < 2 ^ f.p ∧ q ≤ f.qmax
theorem q_pd_round {f : FP.Core.Fmt} {n dn : Nat} {e : Int} (hp : 1 ≤ f.p) (hq : f.qmin ≤ f.qmax) : q_pd f (FP.Core.roundRatio f false n dn e) := by
  have h1 : f.tails < 2 ^ f.p := Nat.pow_lt_pow_right (by decide) (by omega)
  unfold FP.Core.roundRatio
  by_cases hn : n = 0
  · rw [if_pos hn]
    exact .inr ⟨0, _, rfl, Nat.pow_pos (by decide), hq⟩
  · rw [if_neg hn]
    unfold FP.Core.roundAt FP.Core.settle FP.Core.bound
    generalize FP.Core.nearest _ _ = c
    generalize FP.Core.quantum _ _ _ _ = q
    by_cases hc : c < 2 ^ f.p
    · rw [if_pos hc]
      by_cases hq : q ≤ f.qmax
      · rw [if_pos hq]
        exact .inr ⟨c, q, rfl, hc, hq⟩
      · rw [if_neg hq]
        exact .inl rfl
    · rw [if_neg hc]
      by_cases hq : q + 1 ≤ f.qmax
      · rw [if_pos hq]
        exact .inr ⟨_, _, rfl, h1, hq⟩
      · rw [if_neg hq]
        exact .inl rfl
theorem q_pd32 {d : FP.Core.Datum} (h : q_pd FP.Core.b32 d) : FP.Core.encode FP.Core.b32 d ≤ 2139095040 := by
  rcases h with rfl | ⟨c, q, rfl, hc, hq⟩
  · decide +kernel
  · have hc2 : c < 16777216 := hc
    have hq2 : q ≤ 104 := hq
    clear hc hq
    have ht : FP.Core.b32.tails = 8388608 := rfl
    have he : FP.Core.b32.exps = 256 := rfl
    have hm : FP.Core.b32.qmin = -149 := rfl
    unfold FP.Core.encode FP.Core.assemble
    try dsimp only
    rw [ht, he, hm, show false.toNat = 0 from rfl]
    clear ht he hm
    by_cases h : c < 8388608
    · rw [if_pos h]
      omega
    · rw [if_neg h]
      obtain ⟨z, hz⟩ : ∃ z, (q - -149).toNat + 1 = z := ⟨_, rfl⟩
      have h2 : z ≤ 254 := by omega
      rw [hz]
      have h3 : (0 * 256 + z) * 8388608 ≤ 254 * 8388608 := Nat.mul_le_mul_right _ (by omega)
      have h4 : c - 8388608 ≤ 8388607 := by
        clear h3 hz h2
        omega
      exact Nat.le_trans (Nat.add_le_add h3 h4) (by decide)
theorem q_pd64 {d : FP.Core.Datum} (h : q_pd FP.Core.b64 d) : FP.Core.encode FP.Core.b64 d ≤ 9218868437227405312 := by
  rcases h with rfl | ⟨c, q, rfl, hc, hq⟩
  · decide +kernel
  · have hc2 : c < 9007199254740992 := hc
    have hq2 : q ≤ 971 := hq
    clear hc hq
    have ht : FP.Core.b64.tails = 4503599627370496 := rfl
    have he : FP.Core.b64.exps = 2048 := rfl
    have hm : FP.Core.b64.qmin = -1074 := rfl
    unfold FP.Core.encode FP.Core.assemble
    try dsimp only
    rw [ht, he, hm, show false.toNat = 0 from rfl]
    clear ht he hm
    by_cases h : c < 4503599627370496
    · rw [if_pos h]
      omega
    · rw [if_neg h]
      obtain ⟨z, hz⟩ : ∃ z, (q - -1074).toNat + 1 = z := ⟨_, rfl⟩
      have h2 : z ≤ 2046 := by omega
      rw [hz]
      have h3 : (0 * 2048 + z) * 4503599627370496 ≤ 2046 * 4503599627370496 := Nat.mul_le_mul_right _ (by omega)
      have h4 : c - 4503599627370496 ≤ 4503599627370495 := by
        clear h3 hz h2
        omega
      exact Nat.le_trans (Nat.add_le_add h3 h4) (by decide)
/-- what stands for a number up to infinity -/
theorem q_dec32 {n : Nat} (h : n ≤ 2139095040) : FP.Core.decode FP.Core.b32 n = .inf false ∨ ∃ (c : Nat) (q : Int), FP.Core.decode FP.Core.b32 n = .fin false c q := by
  have ht : FP.Core.b32.tails = 8388608 := rfl
  have he : FP.Core.b32.exps = 256 := rfl
  have hs : FP.Core.fieldS FP.Core.b32 n = false := by
    unfold FP.Core.fieldS
    rw [ht, he, show n / 8388608 / 256 = 0 by omega]
    rfl
  unfold FP.Core.decode
  rw [hs]
  by_cases h1 : FP.Core.fieldE FP.Core.b32 n = FP.Core.b32.exps - 1
  · rw [if_pos h1]
    unfold FP.Core.fieldE at h1
    rw [ht, he] at h1
    have h2 : FP.Core.fieldT FP.Core.b32 n = 0 := by
      unfold FP.Core.fieldT
      rw [ht]
      omega
    rw [if_pos h2]
    exact .inl rfl
  · rw [if_neg h1]
    by_cases h2 : FP.Core.fieldE FP.Core.b32 n = 0
    · rw [if_pos h2]
      exact .inr ⟨_, _, rfl⟩
    · rw [if_neg h2]
      exact .inr ⟨_, _, rfl⟩
theorem q_dec64 {n : Nat} (h : n ≤ 9218868437227405312) : FP.Core.decode FP.Core.b64 n = .inf false ∨ ∃ (c : Nat) (q : Int), FP.Core.decode FP.Core.b64 n = .fin false c q := by
  have ht : FP.Core.b64.tails = 4503599627370496 := rfl
  have he : FP.Core.b64.exps = 2048 := rfl
  have hs : FP.Core.fieldS FP.Core.b64 n = false := by
    unfold FP.Core.fieldS
    rw [ht, he, show n / 4503599627370496 / 2048 = 0 by omega]
    rfl
  unfold FP.Core.decode
  rw [hs]
  by_cases h1 : FP.Core.fieldE FP.Core.b64 n = FP.Core.b64.exps - 1
  · rw [if_pos h1]
    unfold FP.Core.fieldE at h1
    rw [ht, he] at h1
    have h2 : FP.Core.fieldT FP.Core.b64 n = 0 := by
      unfold FP.Core.fieldT
      rw [ht]
      omega
    rw [if_pos h2]
    exact .inl rfl
  · rw [if_neg h1]
    by_cases h2 : FP.Core.fieldE FP.Core.b64 n = 0
    · rw [if_pos h2]
      exact .inr ⟨_, _, rfl⟩
    · rw [if_neg h2]
      exact .inr ⟨_, _, rfl⟩
theorem q_u32 {n : Nat} (h : n ≤ 2139095040) : (UInt32.ofNat n).toNat = n := by
  rw [UInt32.toNat_ofNat']
  exact Nat.mod_eq_of_lt (by omega)
theorem q_u64 {n : Nat} (h : n ≤ 9218868437227405312) : (UInt64.ofNat n).toNat = n := by
  rw [UInt64.toNat_ofNat']
  exact Nat.mod_eq_of_lt (by omega)
theorem q_i2f {a : Int} (h0 : 0 ≤ a) (hr : q_R a) : (FP.i2f (q_i a)).toNat ≤ 2139095040 := by
  have e : (q_i a).toInt = a := q_ti hr
  have := q_pd32 (q_pd_round (f := FP.Core.b32) (n := a.natAbs) (dn := 1) (e := 0) (by decide) (by decide))
  show (UInt32.ofNat (FP.Core.fromInt FP.Core.b32 (q_i a).toInt)).toNat ≤ _
  rw [e]
  have e2 : FP.Core.fromInt FP.Core.b32 a = FP.Core.encode FP.Core.b32 (FP.Core.roundRatio FP.Core.b32 false a.natAbs 1 0) := by
    unfold FP.Core.fromInt FP.Core.ofInt
    rw [decide_eq_false (by omega)]
    rfl
  rw [e2, q_u32 this]
  exact this
theorem q_i2f1 : ∀ n, n < 6 → (match FP.Core.decode FP.Core.b32 (FP.i2f (q_i (((n + 1 : Nat)) : Int))).toNat with | .fin s c _ => decide (s = false ∧ c ≠ 0) | _ => false) = true := by decide +kernel
theorem q_fdiv {a : Int} {n : Nat} (h0 : 0 ≤ a) (hr : q_R a) (hn : n < 6) : (FP.fdiv (FP.i2f (q_i a)) (FP.i2f (q_i ((n + 1 : Nat) : Int)))).toNat ≤ 2139095040 := by
  have ha := q_dec32 (q_i2f h0 hr)
  have hb := q_i2f1 n hn
  show (UInt32.ofNat (FP.Core.encode FP.Core.b32 (FP.Core.quotient FP.Core.b32 (FP.Core.decode FP.Core.b32 (FP.i2f (q_i a)).toNat) (FP.Core.decode FP.Core.b32 (FP.i2f (q_i ((n + 1 : Nat) : Int))).toNat)))).toNat ≤ _
  generalize FP.Core.decode FP.Core.b32 (FP.i2f (q_i ((n + 1 : Nat) : Int))).toNat = d at *
  have key : ∀ z, q_pd FP.Core.b32 z → (UInt32.ofNat (FP.Core.encode FP.Core.b32 z)).toNat ≤ 2139095040 := fun z hz => by
    rw [q_u32 (q_pd32 hz)]
    exact q_pd32 hz
  cases d with
  | nan => cases hb
  | inf s => cases hb
  | fin s c q =>
    have hb2 := of_decide_eq_true hb
    obtain ⟨rfl, hc⟩ := hb2
    rcases ha with e | ⟨c1, q1, e⟩
    · rw [e]
      exact key _ (.inl rfl)
    · rw [e]
      apply key
      unfold FP.Core.quotient
      try dsimp only
      rw [if_neg hc]
      exact q_pd_round (by decide) (by decide)
/-- a float that is no NaN -/
theorem q_fnn {u : UInt32} (h : u.toNat ≤ 2139095040) : u &&& 0x7fffffff ≤ 0x7f800000 := by
  rw [UInt32.le_iff_toNat_le, UInt32.toNat_and]
  exact Nat.le_trans Nat.and_le_left h
theorem q_f2d {u : UInt32} (h : u.toNat ≤ 2139095040) : (FP.f2d u).toNat ≤ 9218868437227405312 := by
  have hd := q_dec32 h
  have e1 : FP.Core.fIsNaN u = false := by
    show decide (FP.Core.decode FP.Core.b32 u.toNat = .nan) = false
    rcases hd with e | ⟨c, q, e⟩
    · rw [e]; rfl
    · rw [e]; rfl
  have key : ∀ z, q_pd FP.Core.b64 z → (UInt64.ofNat (FP.Core.encode FP.Core.b64 z)).toNat ≤ 9218868437227405312 := fun z hz => by
    rw [q_u64 (q_pd64 hz)]
    exact q_pd64 hz
  unfold FP.f2d
  rw [e1, if_neg (by decide)]
  show (UInt64.ofNat (FP.Core.encode FP.Core.b64 (FP.Core.round FP.Core.b64 (FP.Core.decode FP.Core.b32 u.toNat)))).toNat ≤ _
  apply key
  rcases hd with e | ⟨c, q, e⟩
  · rw [e]
    exact .inl rfl
  · rw [e]
    exact q_pd_round (by decide) (by decide)
theorem q_dnn {u : UInt64} (h : u.toNat ≤ 9218868437227405312) : u &&& 0x7fffffffffffffff ≤ 0x7ff0000000000000 := by
  rw [UInt64.le_iff_toNat_le, UInt64.toNat_and]
  exact Nat.le_trans Nat.and_le_left h
theorem q_icmp {x : Int} : compare x x = .eq := by
  show compareOfLessAndEq x x = .eq
  unfold compareOfLessAndEq
  rw [if_neg (by omega), if_pos rfl]
theorem q_deq {u : UInt64} (h : u.toNat ≤ 9218868437227405312) : Op.cmpValue (FP.dcmp u u) .l = 0 := by
  have e : FP.dcmp u u = some .eq := by
    show FP.Core.order (FP.Core.decode FP.Core.b64 u.toNat) (FP.Core.decode FP.Core.b64 u.toNat) = some .eq
    rcases q_dec64 h with e | ⟨c, q, e⟩
    · rw [e]
      exact congrArg some q_icmp
    · rw [e]
      exact congrArg some q_icmp
  rw [e]
  rfl
