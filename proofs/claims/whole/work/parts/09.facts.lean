def x_nw : Cond → Bool
  | .castable .. => true
  | .declares _ => true
  | .methodLinkNest .. => true
  | _ => false
theorem x_nw_warm {w : Cond} (hw : x_nw w = true) {s U : State} (hW : s.WarmedH U.vm) (h : va_Nw w s) : va_Nw w U := by
  cases w <;> first | exact (Bool.false_ne_true hw).elim | exact va_Nw.warmC hW h | exact va_Nw.warmD hW h | exact va_Nw.warmM hW h
def x_lens : List Nat := [1, 4, 3, 0]
def x_byts : List (List Int32) := [x_chs 0, x_chs 1, x_chs 2, x_chs 3]
def x_ncs : List (String × String) := [("java/lang/IllegalArgumentException", "java/lang/IndexOutOfBoundsException"), ("java/util/NoSuchElementException", "java/lang/IndexOutOfBoundsException"), ("java/lang/UnsupportedOperationException", "java/lang/IllegalArgumentException"), ("java/util/NoSuchElementException", "java/lang/IllegalArgumentException")]
def x_sx (j : Nat) : Nat := (x_stab.getD j (0, 0, "")).2.1
def x_st (j : Nat) : String := (x_stab.getD j (0, 0, "")).2.2
def x_Z1 (base : Nat) (cb : Nat → Nat) (xs : List Int32) (s : State) (H : Heap) : Prop :=
  va_X (cb 10000) xs.length (fun j => xs.getD j 0) s H ∧ (∃ adV : Nat → Nat, vk_S 4 x_lens x_byts (fun j => cb (20000 + j)) adV (x_Ab base) s H) ∧
  va_Z "java/lang/String" "COMPACT_STRINGS" "Z" (.int 1) (x_Ab base) s H ∧ va_Zq "jdk/internal/util/Preconditions" "SIOOBE_FORMATTER" "Ljava/util/function/BiFunction;" (x_Ab base) s H ∧
  vx_Zq Bundle.tN "UNASSIGNED_STACK" Bundle.steD (x_Ab base) s H ∧ vx_Zq Bundle.tN "SUPPRESSED_SENTINEL" Bundle.listD (x_Ab base) s H
def x_Z2 (cb : Nat → Nat) (s : State) : Prop :=
  (∀ j, j < 4 → vk_R RX2 (x_sx j) (x_st j) (cb (20000 + j)) s) ∧ (∀ q ∈ x_ttab, ∃ sa, vk_R RX7 q.2.2.2.2.1 q.2.2.2.2.2.2.2 sa s) ∧
  (∀ w ∈ lw_tbl, x_nw w = true → va_Nw w s) ∧ (∀ q ∈ x_ncs, va_Nc q.1 q.2 s) ∧ va_AO "WireBoard$Board" s
def x_Z (D : va_G) (cA : Nat → ClassId) (base : Nat) (cb : Nat → Nat) (xs : List Int32) (s : State) (H : Heap) : Prop :=
  x_K D cA s ∧ x_Z1 base cb xs s H ∧ x_Z2 cb s ∧ cb 10000 < base ∧ base ≤ H.size
theorem x_Z1_moved {base : Nat} {cb : Nat → Nat} {xs : List Int32} {s U : State} {H : Heap} (hv : s.vm.Alike U.vm) (h : x_Z1 base cb xs s H) : x_Z1 base cb xs U H := by
  obtain ⟨h1, ⟨adV, h2⟩, h3, h4, h5, h6⟩ := h
  exact ⟨h1.moved hv, ⟨adV, h2.moved hv⟩, h3.moved hv, h4.moved hv, h5.moved hv, h6.moved hv⟩
theorem x_Z1_kept {base : Nat} {cb : Nat → Nat} {xs : List Int32} {s : State} {H H1 : Heap} (h : x_Z1 base cb xs s H) (hc : cb 10000 < base) (hb : base ≤ H.size) (hq : ∀ a : Nat, a < H.size → ¬ x_Ab base a → H1[a]? = H[a]?) : x_Z1 base cb xs s H1 := by
  obtain ⟨h1, ⟨adV, h2⟩, h3, h4, h5, h6⟩ := h
  exact ⟨h1.kept (hq _ (Nat.lt_of_lt_of_le hc hb) (Nat.not_le.mpr hc)), ⟨adV, h2.kept hq⟩, h3.kept hq, h4.kept hq, h5.kept hq, h6.kept hq⟩
theorem x_Z2_warm {cb : Nat → Nat} {s U : State} (hW : s.WarmedH U.vm) (h : x_Z2 cb s) : x_Z2 cb U := by
  obtain ⟨h1, h2, h3, h4, h5⟩ := h
  exact ⟨fun j hj => (h1 j hj).warm hW, fun q hq => by obtain ⟨sa, h⟩ := h2 q hq; exact ⟨sa, h.warm hW⟩, fun w hw hn => x_nw_warm hn hW (h3 w hw hn), fun q hq => (h4 q hq).moved hW.alike, h5.moved hW.alike⟩
theorem x_Z_next {D : va_G} {cA : Nat → ClassId} {base : Nat} {cb : Nat → Nat} {xs : List Int32} {s U : State} {H H1 : Heap} (h : x_Z D cA base cb xs s H) (hW : s.WarmedH U.vm) (hz : H.size ≤ H1.size) (hq : ∀ a : Nat, a < H.size → ¬ x_Ab base a → H1[a]? = H[a]?) : x_Z D cA base cb xs U H1 := by
  obtain ⟨hK, h1, h2, h3, h4⟩ := h
  exact ⟨va_K.moved hW.alike hK, x_Z1_kept (x_Z1_moved hW.alike h1) h3 h4 hq, x_Z2_warm hW h2, h3, Nat.le_trans h4 hz⟩
theorem x_Z_same {D : va_G} {cA : Nat → ClassId} {base : Nat} {cb : Nat → Nat} {xs : List Int32} {s U : State} {H : Heap} (h : x_Z D cA base cb xs s H) (hv : s.vm = U.vm) : x_Z D cA base cb xs U H := by
  obtain ⟨hK, h1, ⟨g1, g2, g3, g4, g5⟩, h3, h4⟩ := h
  have ha : s.vm.Alike U.vm := by rw [hv]; exact Vm.Alike.refl U.vm
  refine ⟨va_K.moved ha hK, x_Z1_moved ha h1, ⟨fun j hj => (g1 j hj).same hv.symm, fun q hq => ?_, fun w hw hn => ?_, fun q hq => (g4 q hq).moved ha, g5.moved ha⟩, h3, h4⟩
  · obtain ⟨sa, h⟩ := g2 q hq
    exact ⟨sa, h.same hv.symm⟩
  · exact va_Nw.same (by cases w <;> first | rfl | exact (Bool.false_ne_true hn).elim) hv (g3 w hw hn)
