/-! calls that may throw -/
section JX
/-- the same frame, with an end that returns -/
def X0 (X : Jx) (K : Kx) (mc ms : Nat) (post : Px) : Jx := (X.p, X.l, X.e, X.R, X.s, X.m, X.args, X.below, X.meth, X.c, MQ X.below (QC K post) X.args X.s mc ms (fun q => K.base ≤ q), X.nL)
def HXX (X : Jx) (md : Mx) (K : Kx) (d : Nat × Nat) (mc ms : Nat) (V : Vx) (I : MI3) (P : MP) (post : Px) (xp : Prop) : Prop :=
  HX (X0 X K mc ms post) md K d mc ms post ∧ (∀ x ∈ X.c.exceptionTable.toList, False) ∧ X.Q = (fun t => ∃ o, t.status = .running ∧ Ended t X.below o ∧ QX K V I P post xp mc ms X.args X.s o t)
theorem ctx_of {l : Launch} {K : Kx} {md : Mx} {d : Nat × Nat} {mc ms : Nat} {av : List Value} {V : Vx} {I : MI3} {P : MP} {post : Px} {xp : Prop} (lv : List (Nat × Value)) (hy : plainName md.1.cls = true) (hn : (lg_sl av).length ≤ md.2.2.1) (hcat : ∀ v ∈ av, v.category = 1) (hlv : lv_args 0 av = lv)
    (body : ∀ X : Jx, X.l = l → HXX X md K d mc ms V I P post xp → J X K V I P 0 0 0 lv []) : CtX l K md d mc ms av V I P post xp := by
  refine MetFree.of_bodyS (code := md.2.1) (maxLocals := md.2.2.1) (ret := md.2.2.2) hy ?_ ?_
  · intro args s m h hn
    obtain ⟨meth, c, h1, h2, h3, h4, h5, h6, -, -⟩ := Cond.code_spec hn (atoms_spec (ws := wsM md) h _ List.mem_cons_self)
    exact ⟨meth, c, h1, h2, h3, h4, h5, h6⟩
  · intro p e s m args below meth c s₁ B hml hv _
    obtain ⟨rfl, hW, hK, hb, hap⟩ := hv
    have hts := atoms_spec (ws := wsM md) B.pre
    have hown : s.vm.findClass md.1.cls = some m.cls := findClass_of_methodNamed B.named
    have hnm : meth.name = md.1.name := (name_of_methodNamed B.named B.method).1
    have hh0 : s₁.heap = s.heap := by rw [B.state]; rfl
    have hl := lv_entry av hn
    have ht9 : ∀ x ∈ c.exceptionTable.toList, False := by
      obtain ⟨meth9, c9, h1, h2, -, -, -, -, h7, -⟩ := Cond.code_spec B.named (hts _ List.mem_cons_self)
      cases Option.some.inj (h1.symm.trans B.method)
      cases Option.some.inj (h2.symm.trans (Stand.of_body B).code)
      intro x hx
      rw [Array.isEmpty_iff.mp h7] at hx
      cases hx
    have K1 := body (p, l, e, rmM d mc ms, s, m, av.toArray, below, meth, c, (fun t => ∃ o, t.status = .running ∧ Ended t below o ∧ QX K V I P post xp mc ms av.toArray s o t), md.2.2.1) rfl
      ⟨⟨⟨B.exec, B.bytes, hml, hown, fun w hw => hts w (List.mem_cons_of_mem _ hw), hK, hb, hap⟩, rfl, rfl, B.returns, B.notSynchronized, hnm, rfl⟩, ht9, rfl⟩
    have K2 := K1 s.heap [] ((lg_sl av ++ List.replicate (md.2.2.1 - (lg_sl av).length) Slot.unset).toArray) hW (Nat.le_refl _) (fun _ _ => rfl) (fun _ h => by cases h) ⟨⟨hl.1, hl.2.1, fun q hq => by rw [← hlv] at hq; exact hl.2.2 q (clL_mem hq)⟩, by rw [← hlv]; exact lv_cat1 av 0 hcat⟩
    have K3 : W p l e (rmM d mc ms) s m av.toArray below meth c s.heap [] 0 0 (fun t => ∃ o, t.status = .running ∧ Ended t below o ∧ QX K V I P post xp mc ms av.toArray s o t) (entryFrame m av.toArray md.2.2.1) := by
      rw [lg_entry_eq]
      exact K2
    obtain ⟨t, a1, o, b1, b2, b3⟩ := K3 s₁ hh0 (Stand.of_body B)
    exact ⟨t, o, a1, b1, b2, b3⟩
variable {X : Jx} {cc : ByteArray} {own : String} {K : Kx} {V : Vx} {I : MI3} {P : MP} {cells slots pc : Nat} {lv : List (Nat × Value)} {st : List Value} {md md' : Mx} {d d' : Nat × Nat} {mc ms mc' ms' : Nat} {post post' : Px} {xp xp' : Prop}
theorem jx_ret {V0 : Vx} {I0 : MI3} {P0 : MP} (h : HXX X md K d mc ms V0 I0 P0 post xp) (k : J (X0 X K mc ms post) K V I P cells slots pc lv st) : J X K V I P cells slots pc lv st := by
  intro H locs ls a b e f g T hT Z
  obtain ⟨t, a1, o, b1, b2, b3⟩ := k H locs ls a b e f g T hT Z
  refine ⟨t, a1, ?_⟩
  rw [h.2.2]
  exact ⟨o, b1, b2, Or.inl b3⟩
/-- a frame over which a thrown object lies -/
def JT (X : Jx) (K : Kx) (V : Vx) (I : MI3) (P : MP) (cells slots pc : Nat) (lv : List (Nat × Value)) (st : List Value) : Prop :=
  ∀ (H : Heap) (locs : List Loc) (ls : Array Slot) (q : Addr) (ce : Cell), Wd K V I P H → X.s.heap.size ≤ H.size → (∀ q, q < K.base → H[q]? = X.s.heap[q]?) → (∀ z ∈ locs, K.base ≤ z.base) → hasL ls X.nL lv → H[q]? = some ce → ce.vm = .none → X.s.vm.findClass IAE = some ce.cls →
    ∀ T : State, T.heap = H → Stand X.p X.l X.e X.R X.s X.m X.args X.below X.meth X.c T locs cells slots → ∃ t, Steps X.p.tables X.e X.below ((T.setTop (F0 X.m pc ls st)).pushFrame (.throwing q)) t ∧ X.Q t
/-- it goes on to the caller -/
theorem jx_out (h : HXX X md K d mc ms V I P post xp) (hx : xp) (hc : cells ≤ mc) (hs : slots ≤ ms) : JT X K V I P cells slots pc lv st := by
  intro H locs ls q ce a b e f g h1 h2 h3 T hT Z
  obtain ⟨st1, hrun, hend, hW, hsm⟩ := Z.leaveThrown q (g := F0 X.m pc ls st) rfl rfl rfl (fun x hx => (h.2.1 x hx).elim) h.1.2.2.2.2.1
  refine ⟨_, st1, ?_⟩
  rw [h.2.2]
  refine ⟨.threw q, hrun, hend, Or.inr ⟨hx, q, ce, locs, rfl, ?_, ?_, ?_, ?_, h2, h3, hW, hsm.mono hc hs, f⟩⟩
  · show Wd K V I P T.heap
    rw [hT]; exact a
  · show X.s.heap.size ≤ T.heap.size
    rw [hT]; exact b
  · intro z hz
    show T.heap[z]? = _
    rw [hT]; exact e z hz
  · show T.heap[q]? = some ce
    rw [hT]; exact h1
/-- from the callee's entry: it comes back, or throws -/
theorem x_back (h : OkX X cc own K) {T : State} {locs : List Loc} {H : Heap} {rest : List Value} {ls : Array Slot} {av : List Value} {ig : Instr} (hT : T.heap = H) (Z : Stand X.p X.l X.e X.R X.s X.m X.args X.below X.meth X.c T locs cells slots) (hM : CtX X.l K md d mc ms av V I P post xp) (w3 : Cond.code md.1 md.2.1 md.2.2.1 md.2.2.2 ∈ WA) (w2 : Cond.initialized md.1.cls ∈ WA)
    (a : Wd K V I P H) (b : X.s.heap.size ≤ H.size) (e : ∀ q, q < K.base → H[q]? = X.s.heap[q]?) (g : hasL ls X.nL lv) (hdg : decode X.c.code pc = .ok (ig, 3)) (hcat : (rest.map fun v => v.category).sum ≤ 8) (hR : d.1 + 1 ≤ X.R.frames ∧ md.2.2.1 + 19 + d.2 ≤ X.R.locals) (hf : cells + mc ≤ X.R.cells ∧ slots + ms ≤ X.R.slots) {mk : MethodId} (hn : T.methodNamed? md.1 = some mk) :
    (∃ (v : Option Value) (T' : State) (L : List Loc) (V' : Vx) (I' : MI3) (P' : MP), Stand X.p X.l X.e X.R X.s X.m X.args X.below X.meth X.c T' (locs ++ L) (cells + mc) (slots + ms) ∧ (∀ q ∈ L, K.base ≤ q.base) ∧ post V' v I' P' ∧ Wd K V' I' P' T'.heap ∧ H.size ≤ T'.heap.size ∧ (∀ q, q < K.base → T'.heap[q]? = H[q]?) ∧
      Steps X.p.tables X.e X.below (doInvoke X.e (T.setTop (F0 X.m pc ls rest)) [] mk av.toArray).1 (T'.setTop (F0 X.m (pc + 3) ls (v.toList ++ rest)))) ∨
    (xp ∧ ∃ (q : Addr) (ce : Cell) (T' : State) (L : List Loc), Stand X.p X.l X.e X.R X.s X.m X.args X.below X.meth X.c T' (locs ++ L) (cells + mc) (slots + ms) ∧ (∀ q ∈ L, K.base ≤ q.base) ∧ Wd K V I P T'.heap ∧ H.size ≤ T'.heap.size ∧ (∀ q, q < K.base → T'.heap[q]? = H[q]?) ∧ T'.heap[q]? = some ce ∧ ce.vm = .none ∧ X.s.vm.findClass IAE = some ce.cls ∧
      Steps X.p.tables X.e X.below (doInvoke X.e (T.setTop (F0 X.m pc ls rest)) [] mk av.toArray).1 ((T'.setTop (F0 X.m pc ls rest)).pushFrame (.throwing q))) := by
  have ht := h.2.2.2.2.1
  have hgw := good_ws (md := md) w3
  have hbef : ∀ w ∈ wsM md, w.before av.toArray T = true := fun w hw => word_at Z.warmed (hgw w hw).2 (ht w (hgw w hw).1)
  have h2 : (Cond.code md.1 md.2.1 md.2.2.1 md.2.2.2).before av.toArray T = true := hbef _ List.mem_cons_self
  have h3 : (Cond.initialized md.1.cls).before av.toArray T = true := word_at Z.warmed (WA_good _ w2) (ht _ w2)
  obtain ⟨methY, cY, hmY, hcY, -, hlY, -, -, -, -⟩ := Cond.code_spec hn h2
  obtain ⟨kY, hkY, -⟩ := className_of_methodNamed hn
  have hinitY : kY.init = .initialized := Cond.initialized_spec (findClass_of_methodNamed hn) hkY h3
  have hat : At T (F0 X.m pc ls rest).method X.c X.below := Z.here
  have hmr : (F0 X.m pc ls rest).monitorRoom = 0 := rfl
  have happ : (headSpec (wsM md) (rmM d mc ms)).appliesLoose md.1 X.e.platform (T.calling (F0 X.m pc ls rest) mk av.toArray) = true :=
    Spec.appliesLoose_calling (g := F0 X.m pc ls rest) hat hdg hn hkY hinitY
      (Z.room_calling (g := F0 X.m pc ls rest) (R' := rmM d mc ms) (g.1.1.trans h.2.2.1.symm) hmY hcY hR.1 (by rw [hmr, hlY]; show 2 * 0 + (rest.map fun v => v.category).sum + (md.2.2.1 + 11) + d.2 ≤ _; omega) hf.1 hf.2) (atoms_intro hbef)
  have hPc : PC K av V I P av.toArray (T.calling (F0 X.m pc ls rest) mk av.toArray) := PC_blind _ _ _ _ (pc_at h a b e T hT Z.warmed)
  obtain ⟨mid, hmid⟩ := hat.above
  have hfr : (T.setTop (F0 X.m pc ls rest)).frames = (.java (F0 X.m pc ls rest) :: mid) ++ X.below := by rw [State.frames_setTop' _ hat.top, hmid]; rfl
  obtain ⟨o, s₂, hsteps, -, hend, hq⟩ := Steps.callFree hM X.p Z.admits Z.cas Z.clock (acts := []) hfr happ hPc trivial
  rw [State.frames_setTop' _ hat.top, Z.tail] at hend
  have hch : (T.calling (F0 X.m pc ls rest) mk av.toArray).heap = H := hT
  rcases hq with ⟨⟨v, V', I', P', rfl, hp, hw, hz, hk⟩, L, hfe, hL⟩ | ⟨hxp, q, ce, L, rfl, hw, hz, hk, hce, hcv, hcl, hW₂, hsm, hL⟩
  · obtain ⟨-, hW₂, hsm⟩ := hfe
    obtain ⟨T', ZT, -, -, hs2⟩ := Z.outOf (g := F0 X.m pc ls rest) rfl hdg hend hW₂ hsm
    have hhp : T'.heap = s₂.heap := by rw [hs2]; rfl
    replace hz : H.size ≤ s₂.heap.size := by rw [← hch]; exact hz
    refine Or.inl ⟨v, T', L, V', I', P', ZT, hL, hp, by rw [hhp]; exact hw, by rw [hhp]; exact hz, fun z hz9 => by rw [hhp, ← hch]; exact hk z hz9, ?_⟩
    rw [hs2] at hsteps
    exact hsteps
  · obtain ⟨T', ZT, -, -, hs2⟩ := Z.outOfThrown (g := F0 X.m pc ls rest) rfl hend hW₂ hsm
    have hhp : T'.heap = s₂.heap := by rw [hs2]; exact (Stand.throwing_heap T' _ q).symm
    replace hz : H.size ≤ s₂.heap.size := by rw [← hch]; exact hz
    have hcl9 : X.s.vm.findClass IAE = some ce.cls := by
      have h9 : T.vm.findClass IAE = some ce.cls := hcl
      rw [Z.warmed.alike.findClass] at h9
      exact h9
    refine Or.inr ⟨hxp, q, ce, T', L, ZT, hL, by rw [hhp]; exact hw, by rw [hhp]; exact hz, fun z hz9 => by rw [hhp, ← hch]; exact hk z hz9, by rw [hhp]; exact hce, hcv, hcl9, ?_⟩
    rw [hs2] at hsteps
    exact hsteps
theorem jx_callS (h : OkX X cc own K) {idx n : Nat} {As rest st0 : List Value} (hM : CtX X.l K md d mc ms As V I P post xp) (dd : decode cc pc = .ok (.invokestatic idx, 3)) (w : MLk own idx md n) (w2 : Cond.static md.1 ∈ WA)
    (hst : st0 = As.reverse ++ rest) (hn : As.length = n) (hcat : (rest.map fun v => v.category).sum ≤ 8) (hR : d.1 + 1 ≤ X.R.frames ∧ md.2.2.1 + 19 + d.2 ≤ X.R.locals) (hf : cells + mc ≤ X.R.cells ∧ slots + ms ≤ X.R.slots)
    (kx : xp → JT X K V I P (cells + mc) (slots + ms) pc lv rest) (kk : ∀ (V' : Vx) (r : Option Value) (I' : MI3) (P' : MP), post V' r I' P' → J X K V' I' P' (cells + mc) (slots + ms) (pc + 3) lv (r.toList ++ rest)) : J X K V I P cells slots pc lv st0 := by
  subst hst
  intro H locs ls a b e f g T hT Z
  have ht := h.2.2.2.2.1
  obtain ⟨w1, wi, wc, wd⟩ := w
  obtain ⟨mk, hnamed⟩ := Cond.code_named (ht _ wc)
  obtain ⟨methM, cM, hmethM, -, -, -, -, -, -, hsigM⟩ := Cond.code_spec hnamed (ht _ wc)
  have hstatic : methM.isStatic = true := Cond.static_spec hnamed hmethM (ht _ w2)
  obtain ⟨kP, hkP, -⟩ := className_of_methodNamed hnamed
  have hinitP : kP.init = .initialized := Cond.initialized_spec (findClass_of_methodNamed hnamed) hkP (ht _ wi)
  have hlen : As.length = methM.sig.parameters.length := by
    have h9 := wd.2.2
    rw [hsigM] at h9
    exact hn.trans (Option.some.inj h9).symm
  obtain ⟨vm₁, X₁, hstep₁⟩ := Z.invokestatic h.1 h.2.2.2.1 (ht _ w1) hnamed hmethM hstatic hkP hinitP ⟨wd.1, wd.2.1⟩ (g := F0 X.m pc ls (As.reverse ++ rest)) rfl (argsL := As) (rest := rest) hlen rfl (by rw [h.2.1]; exact dd)
  rcases x_back h (T := T.setVm vm₁) (rest := rest) (ls := ls) hT X₁ hM wc wi a b e g (by rw [h.2.1]; exact dd) hcat hR hf (X₁.named hnamed) with ⟨v, T', L, V', I', P', ZT, hL, hp, hw, hz, hk, go⟩ | ⟨hxp, q, ce, T', L, ZT, hL, hw, hz, hk, hce, hcv, hcl, go⟩
  · obtain ⟨t, a1, b1⟩ := kk V' v I' P' hp T'.heap (locs ++ L) ls hw (Nat.le_trans b hz) (fun q hq => (hk q hq).trans (e q hq)) (fun z hz => (List.mem_append.mp hz).elim (f z) (hL z)) g T' rfl ZT
    exact ⟨t, hstep₁ _ (fun acts => by rw [doInvoke_state]; exact go.trans a1), b1⟩
  · obtain ⟨t, a1, b1⟩ := kx hxp T'.heap (locs ++ L) ls q ce hw (Nat.le_trans b hz) (fun q hq => (hk q hq).trans (e q hq)) (fun z hz => (List.mem_append.mp hz).elim (f z) (hL z)) g hce hcv hcl T' rfl ZT
    exact ⟨t, hstep₁ _ (fun acts => by rw [doInvoke_state]; exact go.trans a1), b1⟩
theorem jx_callV (h : OkX X cc own K) {idx ci i n : Nat} {As rest st0 : List Value} {r : vw_C} (hM : CtX X.l K md d mc ms (.ref (K.ad ci i) :: As) V I P post xp) (dd : decode cc pc = .ok (.invokevirtual idx, 3)) (w : MLk own idx md n) (w2 : Cond.instanceMethod md.1 ∈ WA ∧ Cond.selects md.1.cls md.1 md.1 ∈ WA)
    (hv : V.1 ci i) (hcl : classes[ci]? = some r ∧ r.1 = md.1.cls) (hst : st0 = As.reverse ++ .ref (K.ad ci i) :: rest) (hn : As.length = n) (hcat : (rest.map fun v => v.category).sum ≤ 8) (hR : d.1 + 1 ≤ X.R.frames ∧ md.2.2.1 + 19 + d.2 ≤ X.R.locals) (hf : cells + mc ≤ X.R.cells ∧ slots + ms ≤ X.R.slots)
    (kx : xp → JT X K V I P (cells + mc) (slots + ms) pc lv rest) (kk : ∀ (V' : Vx) (r : Option Value) (I' : MI3) (P' : MP), post V' r I' P' → J X K V' I' P' (cells + mc) (slots + ms) (pc + 3) lv (r.toList ++ rest)) : J X K V I P cells slots pc lv st0 := by
  subst hst
  intro H locs ls a b e f g T hT Z
  have ht := h.2.2.2.2.1
  obtain ⟨w1, wi, wc, wd⟩ := w
  obtain ⟨hpv, r', hr', cell, q1, q2, q3, q4⟩ := a.1 ci i hv
  cases Option.some.inj (hcl.1.symm.trans hr')
  have hcls := (h.2.2.2.2.2.1.1 ci r hcl.1).2
  obtain ⟨mk, methM, hnamed, hmethM, hstM, habM⟩ := Cond.instanceMethod_spec (ht _ w2.1)
  obtain ⟨methM', cM, hmethM', -, -, -, -, -, -, hsigM⟩ := Cond.code_spec hnamed (ht _ wc)
  cases hmethM.symm.trans hmethM'
  obtain ⟨c2, r2, m2, s1, s2, s3, s4, kP, hkP, hkPi⟩ := Cond.selects_spec (ht _ w2.2)
  have hcc : X.s.vm.findClass md.1.cls = some cell.cls := by rw [q2, ← hcl.2]; exact hcls.1
  cases hcc.symm.trans s1
  cases (State.methodFound?_of_named hnamed ⟨wd.1, wd.2.1⟩).symm.trans s2
  cases hnamed.symm.trans s3
  have hselP : selectMethod X.e.platform X.s.vm cell.cls mk = .method mk := by rw [Launch.admits_selectMethod Z.admits]; exact s4
  have hlen : As.length = methM.sig.parameters.length := by
    have h9 := wd.2.2
    rw [hsigM] at h9
    exact hn.trans (Option.some.inj h9).symm
  obtain ⟨vm₁, X₁, hstep₁⟩ := Z.invokevirtual h.1 h.2.2.2.1 (ht _ w1) hnamed hmethM hstM hkP hkPi ⟨wd.1, wd.2.1⟩ (a := K.ad ci i) (cell := cell) (by rw [hT]; exact q1)
    (fun z h9 => by rw [q3] at h9; cases h9) hselP hmethM habM hkP hkPi (g := F0 X.m pc ls (As.reverse ++ .ref (K.ad ci i) :: rest)) rfl (argsL := As) (rest := rest) hlen rfl (by rw [h.2.1]; exact dd)
  rcases x_back h (T := T.setVm vm₁) (rest := rest) (ls := ls) hT X₁ hM wc wi a b e g (by rw [h.2.1]; exact dd) hcat hR hf (X₁.named hnamed) with ⟨v, T', L, V', I', P', ZT, hL, hp, hw, hz, hk, go⟩ | ⟨hxp, q, ce, T', L, ZT, hL, hw, hz, hk, hce, hcv, hcl, go⟩
  · obtain ⟨t, a1, b1⟩ := kk V' v I' P' hp T'.heap (locs ++ L) ls hw (Nat.le_trans b hz) (fun q hq => (hk q hq).trans (e q hq)) (fun z hz => (List.mem_append.mp hz).elim (f z) (hL z)) g T' rfl ZT
    exact ⟨t, hstep₁ _ (fun acts => by rw [doInvoke_state]; exact go.trans a1), b1⟩
  · obtain ⟨t, a1, b1⟩ := kx hxp T'.heap (locs ++ L) ls q ce hw (Nat.le_trans b hz) (fun q hq => (hk q hq).trans (e q hq)) (fun z hz => (List.mem_append.mp hz).elim (f z) (hL z)) g hce hcv hcl T' rfl ZT
    exact ⟨t, hstep₁ _ (fun acts => by rw [doInvoke_state]; exact go.trans a1), b1⟩
end JX
