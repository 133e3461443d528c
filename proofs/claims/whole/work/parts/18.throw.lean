def x_names : List String := ["java/lang/RuntimeException", "java/lang/Exception"]
def x_tcl : List (Nat × String) := [(125, "java/lang/IllegalArgumentException"), (203, "java/lang/IllegalStateException"), (229, "java/lang/UnsupportedOperationException"), (255, "java/lang/IndexOutOfBoundsException"), (267, "java/lang/ArithmeticException")]
def x_tcok (q : Nat × String) : Bool := Bundle.fit q.2 && decide (.initialized q.2 ∈ lw_tbl) && (vx_atS RX7 q.1 q.2 x_names).all (fun w => decide (w ∈ lw_tbl) && (goodWord w || x_nw w) && vx_ot w)
theorem x_tcl0 : x_tcok (125, "java/lang/IllegalArgumentException") = true := by decide +kernel
theorem x_tcl2 : x_tcok (203, "java/lang/IllegalStateException") = true := by decide +kernel
theorem x_tcl3 : x_tcok (229, "java/lang/UnsupportedOperationException") = true := by decide +kernel
theorem x_tcl4 : x_tcok (255, "java/lang/IndexOutOfBoundsException") = true := by decide +kernel
theorem x_tcl5 : x_tcok (267, "java/lang/ArithmeticException") = true := by decide +kernel
def x_nseok : Bool := Bundle.fit "java/util/NoSuchElementException" && decide (.initialized "java/util/NoSuchElementException" ∈ lw_tbl) && (x_atX RX7 160 "java/util/NoSuchElementException" 13 prog_29_method_4_code x_names).all (fun w => decide (w ∈ lw_tbl) && (goodWord w || x_nw w) && vx_ot w)
theorem x_nse_ok : x_nseok = true := by decide +kernel
theorem x_tcl_ok : x_tcl.all x_tcok = true := by
  simp only [x_tcl, List.all_cons, List.all_nil, x_tcl0, x_tcl2, x_tcl3, x_tcl4, x_tcl5, Bool.and_true]
def x_tok (q : Nat × Nat × String × Nat × Nat × Nat × Nat × String) : Bool :=
  let M := q.1
  let pc := q.2.1
  let E := q.2.2.1
  let ik := q.2.2.2.1
  let is := q.2.2.2.2.1
  let ic := q.2.2.2.2.2.1
  let w := q.2.2.2.2.2.2.1
  decide (M / 100 = 7) && x_noh M && (x_tcl.contains (ic, E) || decide (ic = 160 ∧ E = "java/util/NoSuchElementException" ∧ w = 0)) && decide (.classLink RX7 ik E ∈ lw_tbl) && decide (decode (x_code M) pc = .ok (.new ik, 3)) && decide (decode (x_code M) (pc + 3) = .ok (.dup, 1)) &&
  ((decide (w = 0) && decide (decode (x_code M) (pc + 4) = .ok (.ldc is, 2)) && decide (decode (x_code M) (pc + 6) = .ok (.invokespecial ic, 3)) && decide (decode (x_code M) (pc + 9) = .ok (.athrow, 1))) ||
   (decide (w = 1) && decide (decode (x_code M) (pc + 4) = .ok (.ldc_w is, 3)) && decide (decode (x_code M) (pc + 7) = .ok (.invokespecial ic, 3)) && decide (decode (x_code M) (pc + 10) = .ok (.athrow, 1))))
theorem x_ttab_ok : x_ttab.all x_tok = true := by decide +kernel
theorem x_nw_on {w : Cond} (h : x_nw w = true) : w.onTables = true := by
  cases w <;> first | rfl | exact (Bool.false_ne_true h).elim
section XTH
variable {p : Program} {l : Launch} {e : Env} {R : Room} {s : State} {m : MethodId} {args : Array Value} {below : List Frame} {meth : Method} {c : Code} {H : Heap} {locs : List Loc} {cells slots : Nat}
variable {D : va_G} {cA : Nat → ClassId} {base : Nat} {cb : Nat → Nat} {xs : List Int32} {M pc : Nat} {LS : Array Slot} {rest : List Value}
variable {Qc : Array Value → State → Outcome → State → Prop} {XC : String → State → State → Prop} {mc ms : Nat}
theorem x_throw {E : String} (hF : x_FF p l s m args meth c M) (hZ : x_Z D cA base cb xs s s.heap) (hlt : l.stackTraces = false) (hlocks : meth.locks = false) (hT : c.exceptionTable.toList = tableOf (x_hh M)) (hS : va_S (x_Ab base) s.heap H locs) (hsz : LS.size = x_nl M) (htt : x_tth M pc = some E)
    (hRf : 6 ≤ R.frames) (hRl : (rest.map fun v => v.category).sum + 90 ≤ R.locals) (hRc : cells + 1 ≤ R.cells) (hRs : slots + 6 ≤ R.slots) (hc : cells + 1 ≤ mc) (hs : slots + 6 ≤ ms)
    (hx : ∀ t : State, s.vm.Alike t.vm → H.size ≤ t.heap.size → (∀ q : Nat, q < H.size → t.heap[q]? = H[q]?) → XC E s t) :
    W p l e R s m args below meth c H locs cells slots (vx_MQ below Qc XC args s mc ms (x_Ab base)) (F0 m pc LS rest) := by
  obtain ⟨hxx, hb, hml, hown, hg, hin⟩ := hF
  unfold x_tth at htt
  cases hlk : x_lk x_ttab M pc with
  | none => rw [hlk] at htt; cases htt
  | some z =>
    rw [hlk] at htt
    obtain ⟨E', ik, is, ic, w, tx⟩ := z
    have hE : E' = E := Option.some.inj htt
    subst hE
    have hmem := x_lk_mem hlk
    have hok := List.all_eq_true.mp x_ttab_ok _ hmem
    unfold x_tok at hok
    simp only [Bool.and_eq_true, Bool.or_eq_true, decide_eq_true_eq] at hok
    obtain ⟨⟨⟨⟨⟨⟨h1, h2⟩, h3⟩, h4⟩, h5⟩, h6⟩, h7⟩ := hok
    have hno : ∀ k, ∀ x ∈ c.exceptionTable.toList, covers x k = false := by
      intro k x hx
      rw [hT] at hx
      have : x_hh M = [] := by
        unfold x_noh at h2
        unfold x_hh
        rw [List.isEmpty_iff.mp h2]
        rfl
      rw [this] at hx
      cases hx
    have hU := hZ.2.1.2.2.2.2.1
    have hN := hZ.2.1.2.2.2.2.2
    have hown7 : s.vm.findClass RX7 = some m.cls := by rw [h1] at hown; exact hown
    obtain ⟨sa, hsa⟩ := hZ.2.2.1.2.1 _ hmem
    have hnw := hZ.2.2.1.2.2.1
    rcases h3 with h3 | ⟨rfl, rfl, rfl⟩
    rotate_left
    · rcases h7 with ⟨⟨⟨-, d4⟩, d6⟩, d9⟩ | ⟨⟨⟨k0, -⟩, -⟩, -⟩
      rotate_left
      · cases k0
      have h8 := x_nse_ok
      unfold x_nseok at h8
      simp only [Bool.and_eq_true, decide_eq_true_eq] at h8
      obtain ⟨⟨g1, g2⟩, g3⟩ := h8
      have hat : ∀ w ∈ x_atX RX7 160 "java/util/NoSuchElementException" 13 prog_29_method_4_code x_names, w.before args s = true := by
        intro w hw
        have h9 := List.all_eq_true.mp g3 w hw
        simp only [Bool.and_eq_true, Bool.or_eq_true, decide_eq_true_eq] at h9
        obtain ⟨⟨k1, k2⟩, -⟩ := h9
        rcases k2 with k2 | k2
        · exact hg w k1 k2
        · exact va_Nw.use (x_nw_on k2) (hnw w k1 k2)
      have hgood : ∀ w ∈ Cond.classLink RX7 ik "java/util/NoSuchElementException" :: Cond.initialized "java/util/NoSuchElementException" :: x_atX RX7 160 "java/util/NoSuchElementException" 13 prog_29_method_4_code x_names, vx_ot w = true := by
        intro w hw
        rcases List.mem_cons.mp hw with rfl | hw
        · rfl
        · rcases List.mem_cons.mp hw with rfl | hw
          · rfl
          · have h9 := List.all_eq_true.mp g3 w hw
            simp only [Bool.and_eq_true] at h9
            exact h9.2
      have hnames : ∀ n ∈ x_names, Bundle.fit n = true := by decide +kernel
      have hfr : x_names.length + 3 < R.frames := by show 2 + 3 < _; omega
      exact x_throwX (names := x_names) (free := x_Ab base) hxx hb hlt x_nse_0 x_nse_1 x_nse_2 x_nse_5 hown7 g1 hnames (hg _ h4 rfl) (hg _ g2 rfl) hsa hat hgood hU hN hS (hsz.trans hml.symm) h5 h6 d4 d6 d9 (hno _) hfr (by show _ + (13 * (2 + 1) + 43) ≤ _; omega) hRc hRs hlocks hx hS.2.2 hc hs
    have h8 := List.all_eq_true.mp x_tcl_ok (ic, E') (by simpa using h3)
    unfold x_tcok at h8
    simp only [Bool.and_eq_true, decide_eq_true_eq] at h8
    obtain ⟨⟨g1, g2⟩, g3⟩ := h8
    have hat : ∀ w ∈ vx_atS RX7 ic E' x_names, w.before args s = true := by
      intro w hw
      have h9 := List.all_eq_true.mp g3 w hw
      simp only [Bool.and_eq_true, Bool.or_eq_true, decide_eq_true_eq] at h9
      obtain ⟨⟨k1, k2⟩, -⟩ := h9
      rcases k2 with k2 | k2
      · exact hg w k1 k2
      · exact va_Nw.use (x_nw_on k2) (hnw w k1 k2)
    have hgood : ∀ w ∈ Cond.classLink RX7 ik E' :: Cond.initialized E' :: vx_atS RX7 ic E' x_names, vx_ot w = true := by
      intro w hw
      rcases List.mem_cons.mp hw with rfl | hw
      · rfl
      · rcases List.mem_cons.mp hw with rfl | hw
        · rfl
        · have h9 := List.all_eq_true.mp g3 w hw
          simp only [Bool.and_eq_true] at h9
          exact h9.2
    have hnames : ∀ n ∈ x_names, Bundle.fit n = true := by decide +kernel
    have hfr : x_names.length + 3 < R.frames := by show 2 + 3 < _; omega
    rcases h7 with ⟨⟨⟨-, d4⟩, d6⟩, d9⟩ | ⟨⟨⟨-, d4⟩, d6⟩, d9⟩
    · exact vx_throwS (names := x_names) (free := x_Ab base) hxx hb hlt hown7 g1 hnames (hg _ h4 rfl) (hg _ g2 rfl) hsa hat hgood hU hN hS (hsz.trans hml.symm) h5 h6 d4 d6 d9 (hno _) hfr (by show _ + (13 * (2 + 1) + 43) ≤ _; omega) hRc hRs hlocks hx hS.2.2 hc hs
    · exact vx_throwSW (names := x_names) (free := x_Ab base) hxx hb hlt hown7 g1 hnames (hg _ h4 rfl) (hg _ g2 rfl) hsa hat hgood hU hN hS (hsz.trans hml.symm) h5 h6 d4 d6 d9 (hno _) hfr (by show _ + (13 * (2 + 1) + 43) ≤ _; omega) hRc hRs hlocks hx hS.2.2 hc hs
end XTH
