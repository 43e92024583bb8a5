/-! methods with a handler; calls of them -/
theorem we_law : Cond.classLink R_Law 13 IAE ∈ WA := wa_3 (List.mem_of_getElem? (i := 15) (by decide +kernel)) (by decide +kernel)
theorem we_cast : Cond.castable IAE IAE ∈ NWL := List.mem_filter.mpr ⟨List.mem_append_right _ (List.mem_append_right _ (List.mem_append_right _ (List.mem_append_left _ (List.mem_of_getElem? (i := 30) (by decide +kernel))))), by decide +kernel⟩
abbrev Hd : Type := List (Nat × Nat × Nat × Nat)
def wsH (md : Mx) (hd : Hd) : List Cond := .codeWith md.1 md.2.1 md.2.2.1 md.2.2.2 hd :: WA
def CtH (l : Launch) (K : Kx) (md : Mx) (hd : Hd) (d : Nat × Nat) (mc ms : Nat) (av : List Value) (V : Vx) (I : MI3) (P : MP) (post : Px) : Prop :=
  MetFree l md.1 (headSpec (wsH md hd) (rmM d mc ms)) (PC K av V I P) (fun _ _ _ _ _ => True) (fun a st o t => QC K post a st o t ∧ ∃ L, FrameEnd st o t L mc ms ∧ ∀ q ∈ L, K.base ≤ q.base)
section JH
theorem cth_of {l : Launch} {K : Kx} {md : Mx} {hd : Hd} {d : Nat × Nat} {mc ms : Nat} {av : List Value} {V : Vx} {I : MI3} {P : MP} {post : Px} (lv : List (Nat × Value)) (hy : plainName md.1.cls = true) (hn : (lg_sl av).length ≤ md.2.2.1) (hcat : ∀ v ∈ av, v.category = 1) (hlv : lv_args 0 av = lv)
    (body : ∀ X : Jx, X.l = l → HX X md K d mc ms post → X.c.exceptionTable.toList.map (fun h => (h.startPc, h.endPc, h.handlerPc, h.catchType)) = hd → J X K V I P 0 0 0 lv []) : CtH l K md hd d mc ms av V I P post := by
  refine MetFree.of_bodyS (code := md.2.1) (maxLocals := md.2.2.1) (ret := md.2.2.2) hy ?_ ?_
  · intro args s m h hn
    obtain ⟨m', meth, c, h0, h1, h2, h3, h4, -, h5, h6, -⟩ := Cond.codeWith_spec (atoms_spec (ws := wsH md hd) h _ List.mem_cons_self)
    cases Option.some.inj (hn.symm.trans h0)
    exact ⟨meth, c, h1, h2, h3, h4, h5, h6⟩
  · intro p e s m args below meth c s₁ B hml hv _
    obtain ⟨rfl, hW, hK, hb, hap⟩ := hv
    have hts := atoms_spec (ws := wsH md hd) B.pre
    have hown : s.vm.findClass md.1.cls = some m.cls := findClass_of_methodNamed B.named
    have hnm : meth.name = md.1.name := (name_of_methodNamed B.named B.method).1
    have hh0 : s₁.heap = s.heap := by rw [B.state]; rfl
    have hl := lv_entry av hn
    have ht9 : c.exceptionTable.toList.map (fun h => (h.startPc, h.endPc, h.handlerPc, h.catchType)) = hd := by
      obtain ⟨m9, meth9, c9, h0, h1, h2, -, -, h7, -, -, -⟩ := Cond.codeWith_spec (hts _ List.mem_cons_self)
      cases Option.some.inj (B.named.symm.trans h0)
      cases Option.some.inj (h1.symm.trans B.method)
      cases Option.some.inj (h2.symm.trans (Stand.of_body B).code)
      exact h7
    have K1 := body (p, l, e, rmM d mc ms, s, m, av.toArray, below, meth, c, MQ below (QC K post) av.toArray s mc ms (fun q => K.base ≤ q), md.2.2.1) rfl
      ⟨⟨B.exec, B.bytes, hml, hown, fun w hw => hts w (List.mem_cons_of_mem _ hw), hK, hb, hap⟩, rfl, rfl, B.returns, B.notSynchronized, hnm, rfl⟩ ht9
    have K2 := K1 s.heap [] ((lg_sl av ++ List.replicate (md.2.2.1 - (lg_sl av).length) Slot.unset).toArray) hW (Nat.le_refl _) (fun _ _ => rfl) (fun _ h => by cases h) ⟨⟨hl.1, hl.2.1, fun q hq => by rw [← hlv] at hq; exact hl.2.2 q (clL_mem hq)⟩, by rw [← hlv]; exact lv_cat1 av 0 hcat⟩
    have K3 : W p l e (rmM d mc ms) s m av.toArray below meth c s.heap [] 0 0 (MQ below (QC K post) av.toArray s mc ms (fun q => K.base ≤ q)) (entryFrame m av.toArray md.2.2.1) := by
      rw [lg_entry_eq]
      exact K2
    obtain ⟨t, a1, o, b1, b2, b3⟩ := K3 s₁ hh0 (Stand.of_body B)
    exact ⟨t, o, a1, b1, b2, b3⟩
variable {X : Jx} {cc : ByteArray} {own : String} {K : Kx} {V : Vx} {I : MI3} {P : MP} {cells slots pc : Nat} {lv : List (Nat × Value)} {st : List Value} {md : Mx} {d : Nat × Nat} {mc ms : Nat} {post : Px} {hd : Hd}
/-- the search where the table has one entry that covers the pc, its class cold or warm -/
theorem fh_one {e : Env} {s : State} {f : JFrame} {a : Addr} {meth : Method} {code : Code} {x : ExceptionTableEntry} {c : ClassId} {cell : Cell} {Q : Handler → Pre} {E : CtlPost} {d : Bool} {acts : List Action} (hm : s.vm.method? f.method = some meth) (hc : meth.code = some code) (ht : code.exceptionTable.toList = [x]) (hx : covers x f.pc = true) (h0 : x.catchType ≠ 0)
    (hl : s.vm.ClassLinks e.platform f.method.cls x.catchType c) (hcell : s.heap[a]? = some cell) (hobj : ∀ k, cell.vm ≠ .statics k) (hk : ∃ k, s.vm.classes[cell.cls]? = some k) (hcl : ∃ k, s.vm.classes[c]? = some k) (hfit : s.vm.assignable cell.cls c = true) :
    wp (findHandler f a) Q E e d acts s ↔ Q (.found x.handlerPc) d acts (s.setVm (s.vm.noted f.method.cls x.catchType (.cls c))) := by
  rw [W.findHandler_eq hm hc, ht]
  simp only [covers] at hx
  obtain ⟨r1, r2⟩ := (resolveClass_links e.toSetting hl).op (op := VmOp.resolveClass f.method.cls x.catchType) rfl
  have hal : s.vm.Alike (s.vm.noted f.method.cls x.catchType (.cls c)) := (Vm.Alike.refl s.vm).noted _ _ _
  obtain ⟨k1, hk1⟩ := hk
  obtain ⟨k2, hk2⟩ := hcl
  obtain ⟨k3, hk3, -⟩ := hal.2.2 _ _ hk1
  obtain ⟨k4, hk4, -⟩ := hal.2.2 _ _ hk2
  have hf2 : (s.vm.noted f.method.cls x.catchType (.cls c)).assignable cell.cls c = true := by rw [hal.assignable]; exact hfit
  simp [findHandler.go, hx, h0, r1, r2, hcell, hobj, hk3, hk4, hf2, VmOp.dirties, VmOp.acts]
/-- it is caught here -/
theorem jt_catch (h : OkX X cc R_Law K) {p0 p1 hp : Nat} (ht : X.c.exceptionTable.toList.map (fun h => (h.startPc, h.endPc, h.handlerPc, h.catchType)) = [(p0, p1, hp, 13)]) (hc : p0 ≤ pc ∧ pc < p1) (kk : ∀ q, J X K V I P cells slots hp lv [.ref q]) : JT X K V I P cells slots pc lv st := by
  intro H locs ls q ce a b e f g h1 h2 h3 T hT Z
  have hts := h.2.2.2.2.1
  obtain ⟨c3, cT, hc3, hcT, hasg⟩ := Cond.castable_spec (h.2.2.2.2.2.2.1.2.1.1 _ we_cast)
  cases h3.symm.trans hc3
  obtain ⟨x, hx⟩ : ∃ x, X.c.exceptionTable.toList = [x] := by
    cases hq : X.c.exceptionTable.toList with
    | nil => rw [hq] at ht; cases ht
    | cons x t =>
      rw [hq] at ht
      cases t with
      | nil => exact ⟨x, rfl⟩
      | cons y t => simp at ht
  rw [hx] at ht
  have ht2 : (x.startPc, x.endPc, x.handlerPc, x.catchType) = (p0, p1, hp, 13) := List.cons.inj ht |>.1
  have e1 : x.startPc = p0 := congrArg (fun z => z.1) ht2
  have e2 : x.endPc = p1 := congrArg (fun z => z.2.1) ht2
  have e3 : x.handlerPc = hp := congrArg (fun z => z.2.2.1) ht2
  have e4 : x.catchType = 13 := congrArg (fun z => z.2.2.2) ht2
  have hcov : covers x (F0 X.m pc ls st).pc = true := by
    show covers x pc = true
    unfold covers
    rw [e1, e2]
    simp [hc.1, hc.2]
  have hpl : X.e.platform.magicAccessors = ({} : Platform).magicAccessors := by rw [Z.admits.platform]
  obtain ⟨c9, hc9, hcl⟩ := Cond.classLink_spec h.2.2.2.1 (hts _ we_law) X.e.platform hpl
  cases hcT.symm.trans hc9
  obtain ⟨dk, _, _, kt, hd, _, _, _, _, hkt, _, hop⟩ := hcl.here
  have hal := Z.warmed.alike
  obtain ⟨kt2, hkt2, -⟩ := hal.2.2 _ _ hkt
  have hfit : T.vm.assignable ce.cls cT = true := by rw [hal.assignable]; exact hasg
  have hcl2 := Z.warmed.classLinks hcl
  have hW2 : X.s.WarmedH (T.vm.noted X.m.cls 13 (.cls cT)) := Z.warmed.noted hd hop (State.rightAt_cls hcl)
  obtain ⟨t, a1, b1⟩ := kk q H locs ls a b e f g (T.setVm (T.vm.noted X.m.cls 13 (.cls cT))) hT (Z.noted hW2)
  refine ⟨t, ?_, b1⟩
  have hat : At T (F0 X.m pc ls st).method X.c X.below := Z.here
  obtain ⟨hgo, hw⟩ := hat.throwing q
  refine Steps.head hgo hw ?_
  have hfd := fun (Q : Handler → Pre) (E : CtlPost) (d9 : Bool) (as9 : List Action) => fh_one (e := X.e) (s := (T.setTop (F0 X.m pc ls st)).pushFrame (.throwing q)) (f := F0 X.m pc ls st) (a := q) (Q := Q) (E := E) (d := d9) (acts := as9) (meth := X.meth) (code := X.c) Z.method' Z.code hx hcov (by rw [e4]; decide) (c := cT) (cell := ce) (by rw [e4]; exact hcl2) (by show T.heap[q]? = _; rw [hT]; exact h1) (fun k hk => by rw [h2] at hk; cases hk) (Vm.classAt_of_assignable hfit ⟨kt2, hkt2⟩) ⟨kt2, hkt2⟩ hfit
  rw [e3, e4] at hfd
  have hgoes : (stepThrowing X.e ((T.setTop (F0 X.m pc ls st)).pushFrame (.throwing q)) q (.java (F0 X.m pc ls st) :: T.frames.tail)).1 = (((T.setTop (F0 X.m pc ls st)).pushFrame (.throwing q)).setVm (T.vm.noted X.m.cls 13 (.cls cT))).setFrames (.java (F0 X.m hp ls [.ref q]) :: T.frames.tail) := by
    simp only [stepThrowing, searchFrame, vmDo]
    generalize hr : Sem.go _ X.e false [] ((T.setTop (F0 X.m pc ls st)).pushFrame (.throwing q)) = res
    obtain ⟨as, rfl, -⟩ := Sem.eq_ok_of hr (a := Handler.found hp) (s' := ((T.setTop (F0 X.m pc ls st)).pushFrame (.throwing q)).setVm (T.vm.noted X.m.cls 13 (.cls cT))) (acts' := []) (by simp [hfd _ _ _ _]; rfl)
    rfl
  rw [stepThread_throwing (frames_entered hat.top _), hgoes]
  obtain ⟨g0, hg0⟩ := Option.isSome_iff_exists.mp hat.top
  obtain ⟨r0, hr0⟩ := State.topJava?_eq_some.mp hg0
  have hr2 : (T.setVm (T.vm.noted X.m.cls 13 (.cls cT))).frames = .java g0 :: r0 := hr0
  rw [State.setTop_of_frames _ hr2] at a1
  have e9 : (((T.setTop (F0 X.m pc ls st)).pushFrame (.throwing q)).setVm (T.vm.noted X.m.cls 13 (.cls cT))).setFrames (.java (F0 X.m hp ls [.ref q]) :: T.frames.tail) = (T.setVm (T.vm.noted X.m.cls 13 (.cls cT))).setFrames (.java (F0 X.m hp ls [.ref q]) :: r0) := by
    rw [hr0, List.tail_cons, State.setTop_of_frames _ hr0]
    show ((((T.setVm (T.vm.noted X.m.cls 13 (.cls cT))).setFrames _).setFrames _).setFrames _) = _
    rw [State.setFrames_setFrames, State.setFrames_setFrames]
  rw [e9]
  exact a1
theorem x_backH (h : OkX X cc own K) {T : State} {locs : List Loc} {H : Heap} {rest : List Value} {ls : Array Slot} {av : List Value} {ig : Instr} (hT : T.heap = H) (Z : Stand X.p X.l X.e X.R X.s X.m X.args X.below X.meth X.c T locs cells slots) (hM : CtH X.l K md hd d mc ms av V I P post) (w3 : Cond.codeWith md.1 md.2.1 md.2.2.1 md.2.2.2 hd ∈ WA) (w2 : Cond.initialized md.1.cls ∈ WA)
    (a : Wd K V I P H) (b : X.s.heap.size ≤ H.size) (e : ∀ q, q < K.base → H[q]? = X.s.heap[q]?) (g : hasL ls X.nL lv) (hdg : decode X.c.code pc = .ok (ig, 3)) (hcat : (rest.map fun v => v.category).sum ≤ 8) (hR : d.1 + 1 ≤ X.R.frames ∧ md.2.2.1 + 19 + d.2 ≤ X.R.locals) (hf : cells + mc ≤ X.R.cells ∧ slots + ms ≤ X.R.slots) {mk : MethodId} (hn : T.methodNamed? md.1 = some mk) :
    ∃ (v : Option Value) (T' : State) (L : List Loc) (V' : Vx) (I' : MI3) (P' : MP), Stand X.p X.l X.e X.R X.s X.m X.args X.below X.meth X.c T' (locs ++ L) (cells + mc) (slots + ms) ∧ (∀ q ∈ L, K.base ≤ q.base) ∧ post V' v I' P' ∧ Wd K V' I' P' T'.heap ∧ H.size ≤ T'.heap.size ∧ (∀ q, q < K.base → T'.heap[q]? = H[q]?) ∧
      Steps X.p.tables X.e X.below (doInvoke X.e (T.setTop (F0 X.m pc ls rest)) [] mk av.toArray).1 (T'.setTop (F0 X.m (pc + 3) ls (v.toList ++ rest))) := by
  have ht := h.2.2.2.2.1
  have hgw : GoodIn WA (wsH md hd) := by
    intro w hw
    rcases List.mem_cons.mp hw with rfl | hw
    · exact ⟨w3, WA_good _ w3⟩
    · exact ⟨hw, WA_good _ hw⟩
  have hbef : ∀ w ∈ wsH md hd, w.before av.toArray T = true := fun w hw => word_at Z.warmed (hgw w hw).2 (ht w (hgw w hw).1)
  have h2 : (Cond.codeWith md.1 md.2.1 md.2.2.1 md.2.2.2 hd).before av.toArray T = true := hbef _ List.mem_cons_self
  have h3 : (Cond.initialized md.1.cls).before av.toArray T = true := word_at Z.warmed (WA_good _ w2) (ht _ w2)
  obtain ⟨mk', methY, cY, hn', hmY, hcY, -, hlY, -, -, -, -⟩ := Cond.codeWith_spec h2
  cases Option.some.inj (hn.symm.trans hn')
  obtain ⟨kY, hkY, -⟩ := className_of_methodNamed hn
  have hinitY : kY.init = .initialized := Cond.initialized_spec (findClass_of_methodNamed hn) hkY h3
  have hat : At T (F0 X.m pc ls rest).method X.c X.below := Z.here
  have hmr : (F0 X.m pc ls rest).monitorRoom = 0 := rfl
  have happ : (headSpec (wsH md hd) (rmM d mc ms)).appliesLoose md.1 X.e.platform (T.calling (F0 X.m pc ls rest) mk av.toArray) = true :=
    Spec.appliesLoose_calling (g := F0 X.m pc ls rest) hat hdg hn hkY hinitY
      (Z.room_calling (g := F0 X.m pc ls rest) (R' := rmM d mc ms) (g.1.1.trans h.2.2.1.symm) hmY hcY hR.1 (by rw [hmr, hlY]; show 2 * 0 + (rest.map fun v => v.category).sum + (md.2.2.1 + 11) + d.2 ≤ _; omega) hf.1 hf.2) (atoms_intro hbef)
  have hPc : PC K av V I P av.toArray (T.calling (F0 X.m pc ls rest) mk av.toArray) := PC_blind _ _ _ _ (pc_at h a b e T hT Z.warmed)
  obtain ⟨mid, hmid⟩ := hat.above
  have hfr : (T.setTop (F0 X.m pc ls rest)).frames = (.java (F0 X.m pc ls rest) :: mid) ++ X.below := by rw [State.frames_setTop' _ hat.top, hmid]; rfl
  obtain ⟨o, s₂, hsteps, -, hend, hq⟩ := Steps.callFree hM X.p Z.admits Z.cas Z.clock (acts := []) hfr happ hPc trivial
  rw [State.frames_setTop' _ hat.top, Z.tail] at hend
  have hch : (T.calling (F0 X.m pc ls rest) mk av.toArray).heap = H := hT
  obtain ⟨⟨v, V', I', P', rfl, hp, hw, hz, hk⟩, L, hfe, hL⟩ := hq
  obtain ⟨-, hW₂, hsm⟩ := hfe
  obtain ⟨T', ZT, -, -, hs2⟩ := Z.outOf (g := F0 X.m pc ls rest) rfl hdg hend hW₂ hsm
  have hhp : T'.heap = s₂.heap := by rw [hs2]; rfl
  replace hz : H.size ≤ s₂.heap.size := by rw [← hch]; exact hz
  refine ⟨v, T', L, V', I', P', ZT, hL, hp, by rw [hhp]; exact hw, by rw [hhp]; exact hz, fun z hz9 => by rw [hhp, ← hch]; exact hk z hz9, ?_⟩
  rw [hs2] at hsteps
  exact hsteps
/-- the words of a call of a method with a handler -/
def MLh (own : String) (idx : Nat) (md : Mx) (hd : Hd) (n : Nat) : Prop := Cond.methodLink own idx md.1 ∈ WA ∧ Cond.initialized md.1.cls ∈ WA ∧ Cond.codeWith md.1 md.2.1 md.2.2.1 md.2.2.2 hd ∈ WA ∧ Cond.static md.1 ∈ WA ∧ (md.1.cls ≠ "java/lang/invoke/MethodHandle" ∧ md.1.cls ≠ "java/lang/invoke/VarHandle" ∧ (parseMethodDescriptor md.1.desc).map (fun d => d.parameters.length) = some n)
theorem jh_callS (h : OkX X cc own K) {idx n : Nat} {As rest st0 : List Value} (hM : CtH X.l K md hd d mc ms As V I P post) (dd : decode cc pc = .ok (.invokestatic idx, 3)) (w : MLh own idx md hd n)
    (hst : st0 = As.reverse ++ rest) (hn : As.length = n) (hcat : (rest.map fun v => v.category).sum ≤ 8) (hR : d.1 + 1 ≤ X.R.frames ∧ md.2.2.1 + 19 + d.2 ≤ X.R.locals) (hf : cells + mc ≤ X.R.cells ∧ slots + ms ≤ X.R.slots)
    (kk : ∀ (V' : Vx) (r : Option Value) (I' : MI3) (P' : MP), post V' r I' P' → J X K V' I' P' (cells + mc) (slots + ms) (pc + 3) lv (r.toList ++ rest)) : J X K V I P cells slots pc lv st0 := by
  subst hst
  intro H locs ls a b e f g T hT Z
  have ht := h.2.2.2.2.1
  obtain ⟨w1, wi, wc, w2, wd⟩ := w
  obtain ⟨mk, methM, cM, hnamed, hmethM, -, -, -, -, -, -, hsigM⟩ := Cond.codeWith_spec (ht _ wc)
  have hstatic : methM.isStatic = true := Cond.static_spec hnamed hmethM (ht _ w2)
  obtain ⟨kP, hkP, -⟩ := className_of_methodNamed hnamed
  have hinitP : kP.init = .initialized := Cond.initialized_spec (findClass_of_methodNamed hnamed) hkP (ht _ wi)
  have hlen : As.length = methM.sig.parameters.length := by
    have h9 := wd.2.2
    rw [hsigM] at h9
    exact hn.trans (Option.some.inj h9).symm
  obtain ⟨vm₁, X₁, hstep₁⟩ := Z.invokestatic h.1 h.2.2.2.1 (ht _ w1) hnamed hmethM hstatic hkP hinitP ⟨wd.1, wd.2.1⟩ (g := F0 X.m pc ls (As.reverse ++ rest)) rfl (argsL := As) (rest := rest) hlen rfl (by rw [h.2.1]; exact dd)
  obtain ⟨v, T', L, V', I', P', ZT, hL, hp, hw, hz, hk, go⟩ := x_backH h (T := T.setVm vm₁) (rest := rest) (ls := ls) hT X₁ hM wc wi a b e g (by rw [h.2.1]; exact dd) hcat hR hf (X₁.named hnamed)
  obtain ⟨t, a1, b1⟩ := kk V' v I' P' hp T'.heap (locs ++ L) ls hw (Nat.le_trans b hz) (fun q hq => (hk q hq).trans (e q hq)) (fun z hz => (List.mem_append.mp hz).elim (f z) (hL z)) g T' rfl ZT
  exact ⟨t, hstep₁ _ (fun acts => by rw [doInvoke_state]; exact go.trans a1), b1⟩
end JH
