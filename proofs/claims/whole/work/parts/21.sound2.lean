theorem x_met_of_vx {l : Launch} {y : MethodName} {ws : List Cond} {rm : Room} {Pc : Array Value → State → Prop} {Qc : Array Value → State → Outcome → State → Prop} {XC : String → State → State → Prop} {mc ms : Nat} {free : Addr → Prop} (hM : vx_Met l y ws rm Pc Qc XC mc ms free) (hX : ∀ E st t, ¬ XC E st t) : Met l y ws rm Pc Qc mc ms free := by
  intro p e ha hc hk s m args below hf happ hP hK
  obtain ⟨n, o, h1, h2, h3, h4⟩ := hM p e ha hc hk s m args below hf happ hP hK
  refine ⟨n, o, h1, h2, h3, ?_⟩
  rcases h4 with h4 | ⟨q, -, E, ce, L, hx, -⟩
  · exact h4
  · exact absurd hx (hX _ _ _)
section XC2
variable {p : Program} {l : Launch} {e : Env} {R : Room} {s : State} {m : MethodId} {args : Array Value} {below : List Frame} {meth : Method} {c : Code} {H : Heap} {locs : List Loc} {cells slots : Nat} {Q : State → Prop}
variable {D : va_G} {cA : Nat → ClassId} {base : Nat} {cb : Nat → Nat} {xs : List Int32} {M pc : Nat} {LS : Array Slot} {ls st rest : List Value} {h h1 : x_H} {r1 : x_R}
theorem x_vx_of_va {mc ms : Nat} {g : JFrame} {rst : List Value} {Qa : State → Outcome → State → Prop} {XC : String → State → State → Prop} {free : Addr → Prop} (hr : va_Run p l e R s m args below meth c H locs cells slots mc ms g rst Qa free) : vx_Run p l e R s m args below meth c H locs cells slots mc ms g rst Qa XC free := by
  intro T hT X
  exact Or.inl (hr T hT X)
theorem x_after {mc ms : Nat} {st0 : List Value} {a : Array Value} (hS : va_S (x_Ab base) s.heap H locs)
    (hr : vx_Run p l e R s m args below meth c H locs cells slots mc ms (F0 m pc LS st0) rest (x_Qc D cA base cb xs r1 h1 a) (x_XC D cA base cb xs r1 h1) (x_Ab base))
    (kr : ∀ (v : Option Value) (H1 : Heap) (locs1 : List Loc), r1 = .inl v → x_Pic D cA base cb xs h1 H1 → va_S (x_Ab base) s.heap H1 locs1 → W p l e R s m args below meth c H1 locs1 (cells + mc) (slots + ms) Q (F0 m (pc + 3) LS ((v.map (x_mv (x_ad base cb))).toList ++ rest)))
    (kt : ∀ (E : String) (q : Nat) (ce : Cell) (H1 : Heap) (locs1 : List Loc), r1 = .inr E → x_Pic D cA base cb xs h1 H1 → va_S (x_Ab base) s.heap H1 locs1 → H1[q]? = some ce → ce.vm = .none → s.vm.findClass E = some ce.cls → vx_W p l e R s m args below meth c H1 locs1 (cells + mc) (slots + ms) Q (F0 m pc LS rest) q) :
    W p l e R s m args below meth c H locs cells slots Q (F0 m pc LS st0) := by
  intro T hT X
  have hA : ∀ q, q < H.size → x_Ab base q → x_Ab base q := fun _ _ z => z
  rcases hr T hT X with ⟨v, st₀, t, T', L, h0, X', hL, e1, e2, ⟨⟨u, hu, hv⟩, hP, hF⟩, st⟩ | ⟨q, st₀, t, T', L, E, ce, h0, X', hL, e1, e2, ⟨hE, hP, hF⟩, hce, hcv, hcl, st⟩
  · cases hv
    obtain ⟨k1, k2, k3⟩ := vx_keep h0 e1 hS hA (fun _ z => z) hL hF
    obtain ⟨t2, a1, b1⟩ := kr u T'.heap (locs ++ L) hu (by rw [e1]; exact hP) k3 T' rfl X'
    exact ⟨t2, st t2 a1, b1⟩
  · obtain ⟨k1, k2, k3⟩ := vx_keep h0 e1 hS hA (fun _ z => z) hL hF
    obtain ⟨t2, a1, b1⟩ := kt E q ce T'.heap (locs ++ L) hE (by rw [e1]; exact hP) k3 (by rw [e1]; exact hce) hcv hcl T' rfl X'
    exact ⟨t2, st.trans a1, b1⟩
end XC2
theorem x_recv_ok {M' n : Nat} {st : List Value} {h : x_H} (hr : x_recv M' n st h = true) : ∃ (b : Nat) (vs : List Value), st[n - 1]? = some (.ref b) ∧ b < h.2.1 ∧ h.1 b = .inr (M' / 100 + 2, vs) := by
  unfold x_recv at hr
  split at hr
  · rename_i b hb
    split at hr
    · rename_i c vs hv
      obtain ⟨h1, h2⟩ := of_decide_eq_true hr
      subst h2
      exact ⟨b, vs, hb, h1, hv⟩
    · cases hr
  · cases hr
theorem x_take_rev {st : List Value} {n : Nat} (hn : n ≤ st.length) : st = ((st.take n).reverse).reverse ++ st.drop n := by
  rw [List.reverse_reverse, List.take_append_drop]
theorem x_take_last {st : List Value} {n : Nat} {v : Value} (h1 : 1 ≤ n) (hv : st[n - 1]? = some v) : (st.take n).reverse = v :: (st.take (n - 1)).reverse := by
  have h2 : st.take n = st.take (n - 1) ++ [v] := by
    have h3 := List.take_succ (l := st) (i := n - 1)
    rw [hv, show n - 1 + 1 = n by omega] at h3
    exact h3
  rw [h2, List.reverse_append]
  rfl
