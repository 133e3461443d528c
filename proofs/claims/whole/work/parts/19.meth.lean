abbrev x_HE : Type := Nat × Nat × Nat × Nat × String × Nat × Nat
def x_hok1 (M : Nat) (z : x_HE) : Bool := decide (z.2.2.2.1 ≠ 0) && decide (.classLink (x_cn (M / 100)) z.2.2.2.1 z.2.2.2.2.1 ∈ lw_tbl) && decide (.castable z.2.2.2.2.1 z.2.2.2.2.1 ∈ lw_tbl) && (match decode (x_code M) z.2.2.1 with
  | .ok (.astore_n k, 1) => decide (z.2.2.2.2.2.1 = z.2.2.1 + 1) && decide ((k : Nat) < x_nl M)
  | .ok (.astore k, 2) => decide (z.2.2.2.2.2.1 = z.2.2.1 + 2) && decide (k < x_nl M)
  | _ => false)
def x_hok2 : List x_HE → Bool
  | [] => true
  | z :: r => r.all (fun w => decide (w.2.2.2.2.1 = z.2.2.2.2.1) || x_ncs.contains (w.2.2.2.2.1, z.2.2.2.2.1)) && x_hok2 r
def x_mok (M : Nat) : Bool := plainName (x_y M).cls && decide ((x_y M).cls = x_cn (M / 100)) && (x_hs M).all (x_hok1 M) && x_hok2 (x_hs M)
theorem x_mids_ok : x_mids.all x_mok = true := by decide +kernel
theorem x_law_ok : (x_hs 928).isEmpty = true ∧ x_y 928 = ⟨"WireBoardLaw", "law", "([I)Z"⟩ := by decide +kernel
theorem x_hok2_pre {pre suf : List x_HE} {z : x_HE} (h : x_hok2 (pre ++ z :: suf) = true) : ∀ w ∈ pre, w.2.2.2.2.1 = z.2.2.2.2.1 ∨ (z.2.2.2.2.1, w.2.2.2.2.1) ∈ x_ncs := by
  induction pre with
  | nil => intro w hw; cases hw
  | cons a r ih =>
    simp only [List.cons_append, x_hok2, Bool.and_eq_true] at h
    intro w hw
    rcases List.mem_cons.mp hw with rfl | hw
    · have h1 := List.all_eq_true.mp h.1 z (by simp)
      simp only [Bool.or_eq_true, decide_eq_true_eq] at h1
      rcases h1 with h1 | h1
      · exact Or.inl h1.symm
      · exact Or.inr (by simpa using h1)
    · exact ih h.2 w hw
section XM
variable {p : Program} {l : Launch} {e : Env} {R : Room} {s : State} {m : MethodId} {args : Array Value} {below : List Frame} {meth : Method} {c : Code} {H : Heap} {locs : List Loc} {cells slots : Nat} {Q : State → Prop}
variable {D : va_G} {cA : Nat → ClassId} {base : Nat} {cb : Nat → Nat} {xs : List Int32} {M pc : Nat} {LS : Array Slot} {ls st rest : List Value} {h : x_H}
theorem x_lr_nulls {ad : Nat → Nat} {nL : Nat} {LS : Array Slot} (h1 : LS.size = nL) (h2 : lv_wf LS) : x_lr ad nL (List.replicate nL .null) LS := by
  refine ⟨List.length_replicate, h1, h2, fun q hq => ?_⟩
  obtain ⟨i, w⟩ := q
  obtain ⟨v, hv, hn, -⟩ := x_al_mem.mp hq
  rw [List.getElem?_replicate] at hv
  split at hv
  · cases hv; exact absurd rfl hn
  · cases hv
theorem x_catch {E : String} {ce : Cell} {q : Nat} {z : Nat × Nat} (hF : x_FF p l s m args meth c M) (hZ : x_Z D cA base cb xs s s.heap) (hT : c.exceptionTable.toList = tableOf (x_hh M)) (hM : (x_hs M).all (x_hok1 M) = true ∧ x_hok2 (x_hs M) = true) (hl : LS.size = x_nl M ∧ lv_wf LS)
    (hz : x_hdl M pc E = some z) (hcell : H[q]? = some ce) (hv : ce.vm = .none) (hcl : s.vm.findClass E = some ce.cls)
    (k : ∀ LS' : Array Slot, LS'.size = x_nl M → lv_wf LS' → W p l e R s m args below meth c H locs cells slots Q (F0 m z.1 LS' [])) :
    vx_W p l e R s m args below meth c H locs cells slots Q (F0 m pc LS rest) q := by
  obtain ⟨hx, hb, hml, hown, hg, hin⟩ := hF
  unfold x_hdl at hz
  cases hf : (x_hs M).find? (fun z => decide (z.1 ≤ pc ∧ pc < z.2.1) && z.2.2.2.2.1 == E) with
  | none => rw [hf] at hz; cases hz
  | some y =>
    rw [hf] at hz
    have hz : y.2.2.2.2.2 = z := Option.some.inj hz
    obtain ⟨hp, pre, suf, hsplit, hpre⟩ := List.find?_eq_some_iff_append.mp hf
    simp only [Bool.and_eq_true, decide_eq_true_eq, beq_iff_eq] at hp
    obtain ⟨⟨c1, c2⟩, hE⟩ := hp
    have hym : y ∈ x_hs M := by rw [hsplit]; simp
    have hok := List.all_eq_true.mp hM.1 y hym
    unfold x_hok1 at hok
    simp only [Bool.and_eq_true, decide_eq_true_eq] at hok
    obtain ⟨⟨⟨o1, o2⟩, o3⟩, o4⟩ := hok
    have hnw := hZ.2.2.1.2.2.1
    have hnc := hZ.2.2.1.2.2.2.1
    have h2 := hM.2
    rw [hsplit] at h2
    have hT2 : c.exceptionTable.toList = pre.map (fun q => (⟨q.1, q.2.1, q.2.2.1, q.2.2.2.1⟩ : ExceptionTableEntry)) ++ (⟨y.1, y.2.1, y.2.2.1, y.2.2.2.1⟩ : ExceptionTableEntry) :: suf.map (fun q => (⟨q.1, q.2.1, q.2.2.1, q.2.2.2.1⟩ : ExceptionTableEntry)) := by
      rw [hT, x_hh, hsplit, tableOf, List.map_map, List.map_append, List.map_cons]
      rfl
    refine vx_catch hown _ _ _ hT2 (fun w hw => ?_) (by simp [covers, c1, c2]) o1 (hg _ o2 rfl) (name := y.2.2.2.2.1) ?_ hcell hv hcl ?_
    · obtain ⟨w', hw', rfl⟩ := List.mem_map.mp hw
      have hn := hpre w' hw'
      by_cases hcov : w'.1 ≤ pc ∧ pc < w'.2.1
      · right
        have hne : ¬ w'.2.2.2.2.1 = E := fun z => by
          have := hn
          simp [hcov, z] at this
        have hok' := List.all_eq_true.mp hM.1 w' (by rw [hsplit]; exact List.mem_append_left _ hw')
        unfold x_hok1 at hok'
        simp only [Bool.and_eq_true, decide_eq_true_eq] at hok'
        obtain ⟨⟨⟨p1, p2⟩, -⟩, -⟩ := hok'
        refine ⟨p1, w'.2.2.2.2.1, hg _ p2 rfl, ?_⟩
        rcases x_hok2_pre h2 w' hw' with h3 | h3
        · exact absurd (h3.trans hE) hne
        · have h4 := hnc _ h3
          rw [hE] at h4
          exact h4
      · left
        show (decide _ && decide _) = false
        simpa using hcov
    · rw [hE] at o3 ⊢
      exact va_Nw.use rfl (hnw _ o3 rfl)
    · have hl' : lv_has LS (x_nl M) [] := ⟨hl.1, hl.2, fun q hq => by cases hq⟩
      split at o4
      · rename_i kk hd
        simp only [Bool.and_eq_true, decide_eq_true_eq] at o4
        refine lv_astore_n hx hb hd rfl hl' o4.2 rfl (fun LS' h9 => ?_)
        have k1 := k LS' h9.1 h9.2.1
        rw [← hz, o4.1] at k1
        exact k1
      · rename_i kk hd
        simp only [Bool.and_eq_true, decide_eq_true_eq] at o4
        refine lv_astore hx hb hd hl' o4.2 rfl (fun LS' h9 => ?_)
        have k1 := k LS' h9.1 h9.2.1
        rw [← hz, o4.1] at k1
        exact k1
      · cases o4
end XM
