/-! methods with a handler; calls of them -/
theorem we_law : Cond.classLink R_Law 13 IAE ∈ WA := wa_3 (List.mem_of_getElem? (i := 15) (by decide +kernel)) (by decide +kernel)
theorem we_cast : Cond.castable IAE IAE ∈ NWL := List.mem_filter.mpr ⟨List.mem_append_right _ (List.mem_append_right _ (List.mem_append_right _ (List.mem_append_left _ (List.mem_of_getElem? (i := 30) (by decide +kernel))))), by decide +kernel⟩
abbrev Hd : Type := List (Nat × Nat × Nat × Nat)
def wsH (md : Mx) (hd : Hd) : List Cond := .codeWith md.1 md.2.1 md.2.2.1 md.2.2.2 hd :: WA
def CtH (l : Launch) (K : Kx) (md : Mx) (hd : Hd) (d : Nat × Nat) (mc ms : Nat) (av : List Value) (V : Vx) (I : MI3) (P : MP) (post : Px) : Prop :=
  MetFree l md.1 (headSpec (wsH md hd) (rmM d mc ms)) (PC K av V I P) (fun _ _ _ _ _ => True) (fun a st o t => QC K post a st o t ∧ ∃ L, FrameEnd st o t L mc ms ∧ ∀ q ∈ L, K.base ≤ q.base)
section JH
theorem cth_of {l : Launch} {K : Kx} {md : Mx} {hd : Hd} {d : Nat × Nat} {mc ms : Nat} {av : List Value} {V : Vx} {I : MI3} {P : MP} {post : Px} (lv : List (Nat × Value)) (hy : plainName md.1.cls = true) (hn : (lg_sl av).length ≤ md.2.2.1) (hcat : ∀ v ∈ av, v.category = 1) (hlv : lv_args 0 av = lv)
    (body : ∀ X : Jx, X.l = l → HX X md K d mc ms post → X.c.exceptionTable.toList.map (fun h => (h.startPc, h.endPc, h.handlerPc, h.catchType)) = hd → J X K V I P 0 0 0 lv []) : CtH l K md hd d mc ms av V I P post := by
  refine MetFree.of_bodyS (code := md.2.1) (maxLocals := md.2.2.1) (ret := md.2.2.2) hy ?_ ?_
  · intro args s m h hn
    obtain ⟨m', meth, c, h0, h1, h2, h3, h4, -, h5, h6, -⟩ := Cond.codeWith_spec (atoms_spec (ws := wsH md hd) h _ List.mem_cons_self)
    cases Option.some.inj (hn.symm.trans h0)
    exact ⟨meth, c, h1, h2, h3, h4, h5, h6⟩
  · intro p e s m args below meth c s₁ B hml hv _
    obtain ⟨rfl, hW, hK, hb, hap⟩ := hv
    have hts := atoms_spec (ws := wsH md hd) B.pre
    have hown : s.vm.findClass md.1.cls = some m.cls := findClass_of_methodNamed B.named
    have hnm : meth.name = md.1.name := (name_of_methodNamed B.named B.method).1
    have hh0 : s₁.heap = s.heap := by rw [B.state]; rfl
    have hl := lv_entry av hn
    have ht9 : c.exceptionTable.toList.map (fun h => (h.startPc, h.endPc, h.handlerPc, h.catchType)) = hd := by
      obtain ⟨m9, meth9, c9, h0, h1, h2, -, -, h7, -, -, -⟩ := Cond.codeWith_spec (hts _ List.mem_cons_self)
      cases Option.some.inj (B.named.symm.trans h0)
      cases Option.some.inj (h1.symm.trans B.method)
      cases Option.some.inj (h2.symm.trans (Stand.of_body B).code)
      exact h7
    have K1 := body (p, l, e, rmM d mc ms, s, m, av.toArray, below, meth, c, MQ below (QC K post) av.toArray s mc ms (fun q => K.base ≤ q), md.2.2.1) rfl
      ⟨⟨B.exec, B.bytes, hml, hown, fun w hw => hts w (List.mem_cons_of_mem _ hw), hK, hb, hap⟩, rfl, rfl, B.returns, B.notSynchronized, hnm, rfl⟩ ht9
    have K2 := K1 s.heap [] ((lg_sl av ++ List.replicate (md.2.2.1 - (lg_sl av).length) Slot.unset).toArray) hW (Nat.le_refl _) (fun _ _ => rfl) (fun _ h => by cases h) ⟨⟨hl.1, hl.2.1, fun q hq => by rw [← hlv] at hq; exact hl.2.2 q (clL_mem hq)⟩, by rw [← hlv]; exact lv_cat1 av 0 hcat⟩
    have K3 : W p l e (rmM d mc ms) s m av.toArray below meth c s.heap [] 0 0 (MQ below (QC K post) av.toArray s mc ms (fun q => K.base ≤ q)) (entryFrame m av.toArray md.2.2.1) := by
      rw [lg_entry_eq]
      exact K2
    obtain ⟨t, a1, o, b1, b2, b3⟩ := K3 s₁ hh0 (Stand.of_body B)
    exact ⟨t, o, a1, b1, b2, b3⟩
variable {X : Jx} {cc : ByteArray} {own : String} {K : Kx} {V : Vx} {I : MI3} {P : MP} {cells slots pc : Nat} {lv : List (Nat × Value)} {st : List Value} {md : Mx} {d : Nat × Nat} {mc ms : Nat} {post : Px} {hd : Hd}
/-- it is caught here -/
theorem jt_catch (h : OkX X cc R_Law K) {p0 p1 hp : Nat} (ht : X.c.exceptionTable.toList.map (fun h => (h.startPc, h.endPc, h.handlerPc, h.catchType)) = [(p0, p1, hp, 13)]) (hc : p0 ≤ pc ∧ pc < p1) (kk : ∀ q, J X K V I P cells slots hp lv [.ref q]) : JT X K V I P cells slots pc lv st := by
  intro H locs ls q ce a b e f g h1 h2 h3 T hT Z
  have hts := h.2.2.2.2.1
  obtain ⟨c3, cT, hc3, hcT, hasg⟩ := Cond.castable_spec (h.2.2.2.2.2.2.1.2.1.1 _ we_cast)
  cases h3.symm.trans hc3
  obtain ⟨x, hx⟩ : ∃ x, X.c.exceptionTable.toList = [x] := by
    cases hq : X.c.exceptionTable.toList with
    | nil => rw [hq] at ht; cases ht
    | cons x t =>
      rw [hq] at ht
      cases t with
      | nil => exact ⟨x, rfl⟩
      | cons y t => simp at ht
  rw [hx] at ht
  have ht2 : (x.startPc, x.endPc, x.handlerPc, x.catchType) = (p0, p1, hp, 13) := List.cons.inj ht |>.1
  have e1 : x.startPc = p0 := congrArg (fun z => z.1) ht2
  have e2 : x.endPc = p1 := congrArg (fun z => z.2.1) ht2
  have e3 : x.handlerPc = hp := congrArg (fun z => z.2.2.1) ht2
  have e4 : x.catchType = 13 := congrArg (fun z => z.2.2.2) ht2
  have hcov : covers x (F0 X.m pc ls st).pc = true := by
    show covers x pc = true
    unfold covers
    rw [e1, e2]
    simp [hc.1, hc.2]
  obtain ⟨vm', XV, stV⟩ := Z.caughtLink q (g := F0 X.m pc ls st) rfl (own := R_Law) (name := IAE) h.2.2.2.1 [] x [] hx (fun y hy => by cases hy) hcov (by rw [e4]; decide) (by rw [e4]; exact hts _ we_law) (cT := cT) (cell := ce) hcT (by rw [hT]; exact h1) (by rw [h2]; rfl) hasg
  rw [e3] at stV
  obtain ⟨t, a1, b1⟩ := kk q H locs ls a b e f g (T.setVm vm') hT XV
  refine ⟨t, ?_, b1⟩
  rw [Z.pushThrowing_eq]
  exact stV t a1
theorem x_backH (h : OkX X cc own K) {T : State} {locs : List Loc} {H : Heap} {rest : List Value} {ls : Array Slot} {av : List Value} {ig : Instr} (hT : T.heap = H) (Z : Stand X.p X.l X.e X.R X.s X.m X.args X.below X.meth X.c T locs cells slots) (hM : CtH X.l K md hd d mc ms av V I P post) (w3 : Cond.codeWith md.1 md.2.1 md.2.2.1 md.2.2.2 hd ∈ WA) (w2 : Cond.initialized md.1.cls ∈ WA)
    (a : Wd K V I P H) (b : X.s.heap.size ≤ H.size) (e : ∀ q, q < K.base → H[q]? = X.s.heap[q]?) (g : hasL ls X.nL lv) (hdg : decode X.c.code pc = .ok (ig, 3)) (hcat : (rest.map fun v => v.category).sum ≤ 8) (hR : d.1 + 1 ≤ X.R.frames ∧ md.2.2.1 + 19 + d.2 ≤ X.R.locals) (hf : cells + mc ≤ X.R.cells ∧ slots + ms ≤ X.R.slots) {mk : MethodId} (hn : T.methodNamed? md.1 = some mk) :
    ∃ (v : Option Value) (T' : State) (L : List Loc) (V' : Vx) (I' : MI3) (P' : MP), Stand X.p X.l X.e X.R X.s X.m X.args X.below X.meth X.c T' (locs ++ L) (cells + mc) (slots + ms) ∧ (∀ q ∈ L, K.base ≤ q.base) ∧ post V' v I' P' ∧ Wd K V' I' P' T'.heap ∧ H.size ≤ T'.heap.size ∧ (∀ q, q < K.base → T'.heap[q]? = H[q]?) ∧
      Steps X.p.tables X.e X.below (doInvoke X.e (T.setTop (F0 X.m pc ls rest)) [] mk av.toArray).1 (T'.setTop (F0 X.m (pc + 3) ls (v.toList ++ rest))) := by
  have ht := h.2.2.2.2.1
  have hgw : GoodIn WA (wsH md hd) := by
    intro w hw
    rcases List.mem_cons.mp hw with rfl | hw
    · exact ⟨w3, WA_good _ w3⟩
    · exact ⟨hw, WA_good _ hw⟩
  have hbef : ∀ w ∈ wsH md hd, w.before av.toArray T = true := fun w hw => word_at Z.warmed (hgw w hw).2 (ht w (hgw w hw).1)
  have h2 : (Cond.codeWith md.1 md.2.1 md.2.2.1 md.2.2.2 hd).before av.toArray T = true := hbef _ List.mem_cons_self
  have h3 : (Cond.initialized md.1.cls).before av.toArray T = true := word_at Z.warmed (WA_good _ w2) (ht _ w2)
  obtain ⟨mk', methY, cY, hn', hmY, hcY, -, hlY, -, -, -, -⟩ := Cond.codeWith_spec h2
  cases Option.some.inj (hn.symm.trans hn')
  obtain ⟨kY, hkY, -⟩ := className_of_methodNamed hn
  have hinitY : kY.init = .initialized := Cond.initialized_spec (findClass_of_methodNamed hn) hkY h3
  have hat : At T (F0 X.m pc ls rest).method X.c X.below := Z.here
  have hmr : (F0 X.m pc ls rest).monitorRoom = 0 := rfl
  have happ : (headSpec (wsH md hd) (rmM d mc ms)).appliesLoose md.1 X.e.platform (T.calling (F0 X.m pc ls rest) mk av.toArray) = true :=
    Spec.appliesLoose_calling (g := F0 X.m pc ls rest) hat hdg hn hkY hinitY
      (Z.room_calling (g := F0 X.m pc ls rest) (R' := rmM d mc ms) (g.1.1.trans h.2.2.1.symm) hmY hcY hR.1 (by rw [hmr, hlY]; show 2 * 0 + (rest.map fun v => v.category).sum + (md.2.2.1 + 11) + d.2 ≤ _; omega) hf.1 hf.2) (atoms_intro hbef)
  have hPc : PC K av V I P av.toArray (T.calling (F0 X.m pc ls rest) mk av.toArray) := PC_blind _ _ _ _ (pc_at h a b e T hT Z.warmed)
  obtain ⟨mid, hmid⟩ := hat.above
  have hfr : (T.setTop (F0 X.m pc ls rest)).frames = (.java (F0 X.m pc ls rest) :: mid) ++ X.below := by rw [State.frames_setTop' _ hat.top, hmid]; rfl
  obtain ⟨o, s₂, hsteps, -, hend, hq⟩ := Steps.callFree hM X.p Z.admits Z.cas Z.clock (acts := []) hfr happ hPc trivial
  rw [State.frames_setTop' _ hat.top, Z.tail] at hend
  have hch : (T.calling (F0 X.m pc ls rest) mk av.toArray).heap = H := hT
  obtain ⟨⟨v, V', I', P', rfl, hp, hw, hz, hk⟩, L, hfe, hL⟩ := hq
  obtain ⟨-, hW₂, hsm⟩ := hfe
  obtain ⟨T', ZT, -, -, hs2⟩ := Z.outOf (g := F0 X.m pc ls rest) rfl hdg hend hW₂ hsm
  have hhp : T'.heap = s₂.heap := by rw [hs2]; rfl
  replace hz : H.size ≤ s₂.heap.size := by rw [← hch]; exact hz
  refine ⟨v, T', L, V', I', P', ZT, hL, hp, by rw [hhp]; exact hw, by rw [hhp]; exact hz, fun z hz9 => by rw [hhp, ← hch]; exact hk z hz9, ?_⟩
  rw [hs2] at hsteps
  exact hsteps
/-- the words of a call of a method with a handler -/
def MLh (own : String) (idx : Nat) (md : Mx) (hd : Hd) (n : Nat) : Prop := Cond.methodLink own idx md.1 ∈ WA ∧ Cond.initialized md.1.cls ∈ WA ∧ Cond.codeWith md.1 md.2.1 md.2.2.1 md.2.2.2 hd ∈ WA ∧ Cond.static md.1 ∈ WA ∧ (md.1.cls ≠ "java/lang/invoke/MethodHandle" ∧ md.1.cls ≠ "java/lang/invoke/VarHandle" ∧ (parseMethodDescriptor md.1.desc).map (fun d => d.parameters.length) = some n)
theorem jh_callS (h : OkX X cc own K) {idx n : Nat} {As rest st0 : List Value} (hM : CtH X.l K md hd d mc ms As V I P post) (dd : decode cc pc = .ok (.invokestatic idx, 3)) (w : MLh own idx md hd n)
    (hst : st0 = As.reverse ++ rest) (hn : As.length = n) (hcat : (rest.map fun v => v.category).sum ≤ 8) (hR : d.1 + 1 ≤ X.R.frames ∧ md.2.2.1 + 19 + d.2 ≤ X.R.locals) (hf : cells + mc ≤ X.R.cells ∧ slots + ms ≤ X.R.slots)
    (kk : ∀ (V' : Vx) (r : Option Value) (I' : MI3) (P' : MP), post V' r I' P' → J X K V' I' P' (cells + mc) (slots + ms) (pc + 3) lv (r.toList ++ rest)) : J X K V I P cells slots pc lv st0 := by
  subst hst
  intro H locs ls a b e f g T hT Z
  have ht := h.2.2.2.2.1
  obtain ⟨w1, wi, wc, w2, wd⟩ := w
  obtain ⟨mk, methM, cM, hnamed, hmethM, -, -, -, -, -, -, hsigM⟩ := Cond.codeWith_spec (ht _ wc)
  have hstatic : methM.isStatic = true := Cond.static_spec hnamed hmethM (ht _ w2)
  obtain ⟨kP, hkP, -⟩ := className_of_methodNamed hnamed
  have hinitP : kP.init = .initialized := Cond.initialized_spec (findClass_of_methodNamed hnamed) hkP (ht _ wi)
  have hlen : As.length = methM.sig.parameters.length := by
    have h9 := wd.2.2
    rw [hsigM] at h9
    exact hn.trans (Option.some.inj h9).symm
  obtain ⟨vm₁, X₁, hstep₁⟩ := Z.invokestatic h.1 h.2.2.2.1 (ht _ w1) hnamed hmethM hstatic hkP hinitP ⟨wd.1, wd.2.1⟩ (g := F0 X.m pc ls (As.reverse ++ rest)) rfl (argsL := As) (rest := rest) hlen rfl (by rw [h.2.1]; exact dd)
  obtain ⟨v, T', L, V', I', P', ZT, hL, hp, hw, hz, hk, go⟩ := x_backH h (T := T.setVm vm₁) (rest := rest) (ls := ls) hT X₁ hM wc wi a b e g (by rw [h.2.1]; exact dd) hcat hR hf (X₁.named hnamed)
  obtain ⟨t, a1, b1⟩ := kk V' v I' P' hp T'.heap (locs ++ L) ls hw (Nat.le_trans b hz) (fun q hq => (hk q hq).trans (e q hq)) (fun z hz => (List.mem_append.mp hz).elim (f z) (hL z)) g T' rfl ZT
  exact ⟨t, hstep₁ _ (fun acts => by rw [doInvoke_state]; exact go.trans a1), b1⟩
end JH
