/-! words that stay true under warmer tables though no callee's list may hold them; the two statics that an exception's making reads -/
def NWL : List Cond := lw_tbl.filter (fun w => w.onTables && w.keepsFace)
def NWN : List Cond := [.methodLinkNest "LeasePair$Net" 20 ⟨"LeasePair$Message", "<init>", "()V"⟩ "LeasePair", .methodLinkNest "LeasePair" 45 ⟨"LeasePair$Message", "<init>", "()V"⟩ "LeasePair", .methodLinkNest "LeasePair$Net" 25 ⟨"LeasePair", "isWithin", "(III)Z"⟩ "LeasePair", .arrayOver (.object "LeasePair$Server"), .arrayOver (.object "LeasePair$LeaseRecord"), .arrayOver (.object "LeasePair$Client"), .arrayOver (.object "LeasePair$Message")]
def NWk (U : State) : Prop := (∀ w ∈ NWL, w.before #[] U = true) ∧ ∀ w ∈ NWN, w.before #[] U = true
theorem NWk.moved {s U : State} (hW : s.WarmedH U.vm) (h : NWk s) : NWk U := by
  refine ⟨fun w hw => ?_, fun w hw => ?_⟩
  · have hg := (List.mem_filter.mp hw).2
    simp only [Bool.and_eq_true] at hg
    have h1 : w.before #[] (s.setVm U.vm) = true := Cond.before_shiftedFace (State.Shifted.of_warmed hW) w hg.2 (h.1 w hw)
    exact va_tabs hg.1 (rfl : (s.setVm U.vm).vm = U.vm) h1
  · have h1 := h.2 w hw
    simp only [NWN, List.mem_cons, List.not_mem_nil, or_false] at hw
    rcases hw with rfl | rfl | rfl | rfl | rfl | rfl | rfl
    · exact va_Nw.warmM hW h1
    · exact va_Nw.warmM hW h1
    · exact va_Nw.warmM hW h1
    · exact va_AO.moved hW.alike h1
    · exact va_AO.moved hW.alike h1
    · exact va_AO.moved hW.alike h1
    · exact va_AO.moved hW.alike h1
theorem NWk.same {s U : State} (h : s.vm = U.vm) (hs : NWk s) : NWk U := by
  refine ⟨fun w hw => ?_, fun w hw => ?_⟩
  · have hg := (List.mem_filter.mp hw).2
    simp only [Bool.and_eq_true] at hg
    exact va_tabs hg.1 h (hs.1 w hw)
  · have h1 := hs.2 w hw
    simp only [NWN, List.mem_cons, List.not_mem_nil, or_false] at hw
    rcases hw with rfl | rfl | rfl | rfl | rfl | rfl | rfl
    · exact va_tabs rfl h h1
    · exact va_tabs rfl h h1
    · exact va_tabs rfl h h1
    · exact va_AO.moved (h ▸ Vm.Alike.refl s.vm) h1
    · exact va_AO.moved (h ▸ Vm.Alike.refl s.vm) h1
    · exact va_AO.moved (h ▸ Vm.Alike.refl s.vm) h1
    · exact va_AO.moved (h ▸ Vm.Alike.refl s.vm) h1
/-- a static field of an old cell that holds a reference or null -/
def STf (b : Nat) (C n d : String) (U : State) (H : Heap) : Prop := ∃ (c : ClassId) (k : Class) (i : Nat) (f : Field) (a : Nat) (cell : Cell), U.vm.findClass C = some c ∧ U.fieldFound? C n d = some (c, k, i, f) ∧ f.isStatic = true ∧ k.statics = some a ∧ H[a]? = some cell ∧ cell.vm.isStatics = true ∧ cell.cls = c ∧ f.slot < cell.slots.size ∧ k.staticTypes[f.slot]? = some f.type ∧ a < b ∧ (cell.slots[f.slot]? = some .null ∨ ∃ t, cell.slots[f.slot]? = some (.ref t))
theorem STf.moved {b : Nat} {C n d : String} {u U : State} {H H1 : Heap} (hvm : u.vm.Alike U.vm) (hH : ∀ q, q < b → H1[q]? = H[q]?) (h : STf b C n d u H) : STf b C n d U H1 := by
  obtain ⟨c, k, i, f, a, cell, h1, h2, h3, h4, h5, h6, h7, h8, h9, h10, h11⟩ := h
  obtain ⟨k', hi', he⟩ := State.fieldFound?_setVm hvm h2
  exact ⟨c, k', i, f, a, cell, by rw [hvm.findClass]; exact h1, hi', h3, by rw [he]; exact h4, by rw [hH a h10]; exact h5, h6, h7, h8, by rw [he]; exact h9, h10, h11⟩
theorem STf.lays {b : Nat} {C n d : String} {s : State} {args : Array Value} (h : STf b C n d s s.heap) : (Cond.laysStatic C n d).before args s = true := by
  obtain ⟨c, k, i, f, a, cell, h1, h2, h3, h4, h5, h6, h7, h8, h9, -⟩ := h
  exact Cond.laysStatic_of h1 h2 h3 h4 h5 h6 h7 h8 h9
theorem STf.isRef {b : Nat} {C n d : String} {s : State} {args : Array Value} (h : STf b C n d s s.heap) : (Cond.isRef (.static C n d)).before args s = true := by
  obtain ⟨c, k, i, f, a, cell, h1, h2, h3, h4, h5, h6, h7, h8, h9, -, h11⟩ := h
  rcases h11 with h11 | ⟨t, h11⟩
  · have he : (Term.static C n d).eval args s none [] s = some .null := by
      simp [Term.eval, State.fieldNamed?, h2, h3, h4, h5, h6, h11]
    simp [Cond.before, Cond.holds, Cond.value, he]
  · have he : (Term.static C n d).eval args s none [] s = some (.ref t) := by
      simp [Term.eval, State.fieldNamed?, h2, h3, h4, h5, h6, h11]
    simp [Cond.before, Cond.holds, Cond.value, he]
def BW (K : Kx) (U : State) : Prop := K.base ≤ U.heap.size ∧ NWk U ∧ STf K.base "java/lang/Throwable" "UNASSIGNED_STACK" "[Ljava/lang/StackTraceElement;" U U.heap ∧ STf K.base "java/lang/Throwable" "SUPPRESSED_SENTINEL" "Ljava/util/List;" U U.heap
theorem BW.moved {K : Kx} {s U : State} (hW : s.WarmedH U.vm) (hz : s.heap.size ≤ U.heap.size) (hH : ∀ q, q < K.base → U.heap[q]? = s.heap[q]?) (h : BW K s) : BW K U :=
  ⟨Nat.le_trans h.1 hz, h.2.1.moved hW, h.2.2.1.moved hW.alike hH, h.2.2.2.moved hW.alike hH⟩
