/-! methods that may throw an IllegalArgumentException -/
theorem we_link : Cond.classLink R_LP 199 "java/lang/IllegalArgumentException" ∈ WA := wa_3 (List.mem_of_getElem? (i := 28) (by decide +kernel)) (by decide +kernel)
theorem we_inst : Cond.instantiable "java/lang/IllegalArgumentException" 6 ∈ WA := wa_3 (List.mem_of_getElem? (i := 29) (by decide +kernel)) (by decide +kernel)
theorem we_init : Cond.initialized "java/lang/IllegalArgumentException" ∈ WA := wa_1 (List.mem_of_getElem? (i := 12) (by decide +kernel)) (by decide +kernel)
def IAE : String := "java/lang/IllegalArgumentException"
def iaeW : List Cond := Bundle.ownAtoms0 "LeasePair" 201 "java/lang/IllegalArgumentException" ["java/lang/RuntimeException", "java/lang/Exception"]
theorem iae_all : iaeW.all (fun w => decide (w ∈ NWL) || decide (w = .isRef (.static "java/lang/Throwable" "UNASSIGNED_STACK" "[Ljava/lang/StackTraceElement;")) || decide (w = .isRef (.static "java/lang/Throwable" "SUPPRESSED_SENTINEL" "Ljava/util/List;")) || decide (w = .laysStatic "java/lang/Throwable" "UNASSIGNED_STACK" "[Ljava/lang/StackTraceElement;") || decide (w = .laysStatic "java/lang/Throwable" "SUPPRESSED_SENTINEL" "Ljava/util/List;")) = true := by decide +kernel
theorem iae_ok {K : Kx} {s : State} {args : Array Value} (h : BW K s) : ∀ w ∈ iaeW, w.before args s = true := by
  intro w hw
  have h1 := List.all_eq_true.mp iae_all w hw
  simp only [Bool.or_eq_true, decide_eq_true_eq] at h1
  rcases h1 with (((h1 | h1) | h1) | h1) | h1
  · have hg := (List.mem_filter.mp h1).2
    simp only [Bool.and_eq_true] at hg
    exact va_tabs hg.1 rfl (h.2.1.1 w h1)
  · rw [h1]; exact h.2.2.1.isRef
  · rw [h1]; exact h.2.2.2.isRef
  · rw [h1]; exact h.2.2.1.lays
  · rw [h1]; exact h.2.2.2.lays
/-- where it has thrown: the world as it was -/
def TX (K : Kx) (V : Vx) (I : MI3) (P : MP) (mc ms : Nat) (st : State) (o : Outcome) (t : State) : Prop :=
  ∃ (q : Addr) (ce : Cell) (L : List Loc), o = .threw q ∧ Wd K V I P t.heap ∧ st.heap.size ≤ t.heap.size ∧ (∀ z, z < K.base → t.heap[z]? = st.heap[z]?) ∧ t.heap[q]? = some ce ∧ ce.vm = .none ∧ st.vm.findClass IAE = some ce.cls ∧ st.WarmedH t.vm ∧ st.sameButNew ({ t with vm := st.vm } : State) L mc ms ∧ ∀ z ∈ L, K.base ≤ z.base
def QX (K : Kx) (V : Vx) (I : MI3) (P : MP) (post : Px) (xp : Prop) (mc ms : Nat) : Array Value → State → Outcome → State → Prop := fun a st o t =>
  (QC K post a st o t ∧ ∃ L, FrameEnd st o t L mc ms ∧ ∀ q ∈ L, K.base ≤ q.base) ∨ (xp ∧ TX K V I P mc ms st o t)
def CtX (l : Launch) (K : Kx) (md : Mx) (d : Nat × Nat) (mc ms : Nat) (av : List Value) (V : Vx) (I : MI3) (P : MP) (post : Px) (xp : Prop) : Prop :=
  MetFree l md.1 (headSpec (wsM md) (rmM d mc ms)) (PC K av V I P) (fun _ _ _ _ _ => True) (QX K V I P post xp mc ms)
/-- old cells, where nothing old was written -/
theorem sb_frame {s U : State} {k n : Nat} (h : s.sameButNew ({ U with vm := s.vm } : State) [] k n) : s.heap.size ≤ U.heap.size ∧ ∀ q : Nat, q < s.heap.size → U.heap[q]? = s.heap[q]? := by
  obtain ⟨-, h2, -, -, -, h6⟩ := h
  refine ⟨h2, fun q hq => ?_⟩
  obtain ⟨c9, e1, e2, -, e4⟩ := h6 q _ (Array.getElem?_eq_getElem hq)
  have hs : c9.slots = (s.heap[q]).slots := Array.ext_getElem? fun i => e4 i (fun hm => nomatch hm)
  have h9 : c9 = s.heap[q] := by rw [hs] at e2; exact e2
  have e5 : U.heap[q]? = some c9 := e1
  rw [e5, h9, Array.getElem?_eq_getElem hq]
theorem d_LP_need_0 : decode b_LP_need 0 = .ok (.iload_n 0, 1) := by decide +kernel
theorem d_LP_need_1 : decode b_LP_need 1 = .ok (.ifCond .ne 11, 3) := by decide +kernel
theorem d_LP_need_4 : decode b_LP_need 4 = .ok (.new 199, 3) := by decide +kernel
theorem d_LP_need_7 : decode b_LP_need 7 = .ok (.dup, 1) := by decide +kernel
theorem d_LP_need_8 : decode b_LP_need 8 = .ok (.invokespecial 201, 3) := by decide +kernel
theorem d_LP_need_11 : decode b_LP_need 11 = .ok (.athrow, 1) := by decide +kernel
theorem d_LP_need_12 : decode b_LP_need 12 = .ok (.return_, 1) := by decide +kernel
set_option maxHeartbeats 4000000 in
theorem c_LP_need (l : Launch) (hlt : l.stackTraces = false) (K : Kx) (V : Vx) (I : MI3) (P : MP) (hV : ∀ z, V.2.2 z) (z : Int32) : CtX l K md_LP_need (8, 100) 1 6 [.int z] V I P (fun V' r I' P' => (V' = V ∧ r = none ∧ I' = I ∧ P' = P) ∧ ¬ z = 0) (z = 0) := by
  refine MetFree.of_bodyS (code := b_LP_need) (maxLocals := 1) (ret := none) (by decide) ?_ ?_
  · intro args s m h hn
    obtain ⟨meth, c, h1, h2, h3, h4, h5, h6, -, -⟩ := Cond.code_spec hn (atoms_spec (ws := wsM md_LP_need) h _ List.mem_cons_self)
    exact ⟨meth, c, h1, h2, h3, h4, h5, h6⟩
  · intro p e s m args below meth c s₁ B hml hv _
    obtain ⟨rfl, hW, hK, hb, hap⟩ := hv
    have hts := atoms_spec (ws := wsM md_LP_need) B.pre
    have hwa : ∀ w ∈ WA, w.before ([Value.int z] : List Value).toArray s = true := fun w hw => hts w (List.mem_cons_of_mem _ hw)
    have hown : s.vm.findClass "LeasePair" = some m.cls := findClass_of_methodNamed B.named
    have hx := B.exec
    have hbb := B.bytes
    have hlocks := B.notSynchronized
    have hh0 : s₁.heap = s.heap := by rw [B.state]; rfl
    have hl := lv_entry ([.int z]) (n := 1) (Nat.le_of_ble_eq_true rfl)
    have X0 := Stand.of_body B
    suffices hgo : W p l e (rmM (8, 100) 1 6) s m ([Value.int z] : List Value).toArray below meth c s.heap [] 0 0 (fun t => ∃ o, t.status = .running ∧ Ended t below o ∧ QX K V I P (fun V' r I' P' => (V' = V ∧ r = none ∧ I' = I ∧ P' = P) ∧ ¬ z = 0) (z = 0) 1 6 ([Value.int z] : List Value).toArray s o t) (entryFrame m ([Value.int z] : List Value).toArray 1) by
      obtain ⟨t, a1, o, b1, b2, b3⟩ := hgo s₁ hh0 X0
      exact ⟨t, o, a1, b1, b2, b3⟩
    rw [lg_entry_eq]
    generalize (lg_sl ([.int z]) ++ List.replicate (1 - (lg_sl ([.int z])).length) Slot.unset).toArray = ls at hl ⊢
    have hl : lv_has ls 1 [(0, .int z)] := hl
    refine lv_iload_n hx hbb d_LP_need_0 rfl (lv_at hl 0 rfl) ?_
    refine lv_if_ne (tgt := 12) hx hbb d_LP_need_1 (by decide) (fun c1 => ?_) (fun c1 => ?_)
    · have kk : W p l e (rmM (8, 100) 1 6) s m ([Value.int z] : List Value).toArray below meth c s.heap [] 0 0 (MQ below (QC K (fun V' r I' P' => (V' = V ∧ r = none ∧ I' = I ∧ P' = P) ∧ ¬ z = 0)) ([Value.int z] : List Value).toArray s 1 6 (fun q => K.base ≤ q)) (F0 m 12 ls []) :=
        W.widen (Nat.zero_le _) (Nat.zero_le _) (W.vret hx hbb B.returns (fun t ht hWt => ⟨_, V, I, P, rfl, ⟨⟨rfl, rfl, rfl, rfl⟩, c1⟩, by rw [ht]; exact hW, by rw [ht]; exact Nat.le_refl _, fun q _ => by rw [ht]⟩) (fun _ h => nomatch h) d_LP_need_12 hlocks)
      intro T hT X
      obtain ⟨t, a1, o, b1, b2, b3⟩ := kk T hT X
      exact ⟨t, a1, o, b1, b2, Or.inl b3⟩
    · intro T hT X
      have htr : e.platform.stackTraces = false := (show e.platform.stackTraces = l.stackTraces by rw [X.admits.platform]).trans hlt
      have hok := iae_ok (args := ([Value.int z] : List Value).toArray) hb
      obtain ⟨vm₁, cX, kX, hfX, hkX, -, -, X₁, st1⟩ := X.newCold hx (own := "LeasePair") (C := IAE) (index := 199) (n := 6) hown (hwa _ we_link) (hwa _ we_inst) (hwa _ we_init)
        (g := F0 m 4 ls []) rfl (by rw [hbb]; exact d_LP_need_4) (Nat.le_refl _) (Nat.le_refl _)
      generalize hT1 : (T.setVm vm₁).pushCell { cls := cX, slots := kX.instanceTypes.map defaultValue, vm := .none } = T1 at X₁ st1
      have hcellA : T1.heap[T.heap.size]? = some (freshCell cX kX) := by rw [← hT1]; exact State.heap_pushCell_size _ _
      have d7' : decode c.code 7 = .ok (.dup, 1) := by rw [hbb]; exact d_LP_need_7
      obtain ⟨U, hsteps, hrun, hend, hWU, hsame, ce, hce, hO⟩ := X₁.ctorThrow0 hx htr (own := "LeasePair") (cls := IAE) (names := ["java/lang/RuntimeException", "java/lang/Exception"]) (ic := 201) hown (by decide) (by decide) hok (fun x hx => nomatch hx) hfX hkX hcellA (by rw [hT]; exact Nat.le_refl _)
        (g := { method := m, pc := 8, locals := ls, stack := .ref T.heap.size :: .ref T.heap.size :: [], locked := none }) rfl (by rw [hl.1]; exact hml.symm) rfl rfl (rest := []) rfl
        (by rw [hbb]; exact d_LP_need_8) (by rw [hbb]; exact d_LP_need_11) (fun x hx => by
          obtain ⟨meth9, c9, h1, h2, -, -, -, -, h7, -⟩ := Cond.code_spec B.named (hts _ List.mem_cons_self)
          cases Option.some.inj (h1.symm.trans B.method)
          cases Option.some.inj (h2.symm.trans X0.code)
          rw [Array.isEmpty_iff.mp h7] at hx
          cases hx) (by decide) (Nat.le_of_ble_eq_true rfl) hlocks
      obtain ⟨f1, f2⟩ := sb_frame hsame
      refine ⟨U, ?_, .threw T.heap.size, hrun, hend, Or.inr ⟨c1, T.heap.size, ce, [], rfl, Wd_kept hap hW (fun q hq => f2 q hq) V (fun _ _ h => h) (fun _ h => h) (hV _), f1, fun q hq => f2 q (Nat.lt_of_lt_of_le hq hb.1), hce, hO.vm, hO.cls, hWU, hsame, fun _ h => nomatch h⟩⟩
      refine st1 _ ?_
      show Steps p.tables e below (T1.setTop { method := m, pc := 7, locals := ls, stack := .ref T.heap.size :: [], locked := none }) _
      jvm_step X₁.here [X₁.here.top, hx, d7', Value.category]
      exact hsteps
