/-! contracts: entry, returns, calls -/
abbrev Px : Type := Vx → Option Value → MI3 → MP → Prop
def QC (K : Kx) (post : Px) : Array Value → State → Outcome → State → Prop := fun _ st o t =>
  ∃ (r : Option Value) (V' : Vx) (I' : MI3) (P' : MP), o = .returned r ∧ post V' r I' P' ∧ Wd K V' I' P' t.heap ∧ st.heap.size ≤ t.heap.size ∧ ∀ q, q < K.base → t.heap[q]? = st.heap[q]?
def KS (K : Kx) (U : State) : Prop := va_K (K.dC, K.dI) classes (tysK K) U ∧ BW K U ∧ K.apart
/-- a method: its name, bytes, number of locals, answer -/
abbrev Mx : Type := MethodName × ByteArray × Nat × Option FieldType
def wsM (md : Mx) : List Cond := .code md.1 md.2.1 md.2.2.1 md.2.2.2 :: WA
def rmM (d : Nat × Nat) (mc ms : Nat) : Room := { frames := d.1, cells := mc, slots := ms, locals := d.2 }
def PC (K : Kx) (av : List Value) (V : Vx) (I : MI3) (P : MP) : Array Value → State → Prop := va_Pc av (fun U => Wd K V I P U.heap ∧ KS K U)
def Ct (l : Launch) (K : Kx) (md : Mx) (d : Nat × Nat) (mc ms : Nat) (av : List Value) (V : Vx) (I : MI3) (P : MP) (post : Px) : Prop :=
  Met l md.1 (wsM md) (rmM d mc ms) (PC K av V I P) (QC K post) mc ms (fun q => K.base ≤ q)
/-- what a walk of the method md's body has -/
def HX (X : Jx) (md : Mx) (K : Kx) (d : Nat × Nat) (mc ms : Nat) (post : Px) : Prop :=
  OkX X md.2.1 md.1.cls K ∧ X.nL = md.2.2.1 ∧ X.R = rmM d mc ms ∧ X.meth.sig.returnType = md.2.2.2 ∧ X.meth.locks = false ∧ X.meth.name = md.1.name ∧ X.Q = MQ X.below (QC K post) X.args X.s mc ms (fun q => K.base ≤ q)
theorem PC_blind {K : Kx} {av : List Value} {V : Vx} {I : MI3} {P : MP} : FrameBlind (PC K av V I P) := by
  intro a U g mk h
  obtain ⟨h1, h2, h3, h4, h5⟩ := h
  exact ⟨h1, h2, va_K.moved (u := U) (U := U.calling g mk a) (Vm.Alike.refl U.vm) h3, ⟨h4.1, h4.2.1.same (rfl : U.vm = (U.calling g mk a).vm), h4.2.2.1.moved (U := U.calling g mk a) (Vm.Alike.refl U.vm) (fun _ _ => rfl), h4.2.2.2.moved (U := U.calling g mk a) (Vm.Alike.refl U.vm) (fun _ _ => rfl)⟩, h5⟩
theorem lv_cat1 : ∀ (vs : List Value) (n : Nat), (∀ v ∈ vs, v.category = 1) → ∀ q ∈ lv_args n vs, q.2.category = 1
  | [], n, _, q, hq => by simp [lv_args] at hq
  | v :: t, n, h, q, hq => by
    unfold lv_args at hq
    rcases List.mem_cons.mp hq with rfl | hq
    · exact h v List.mem_cons_self
    · exact lv_cat1 t _ (fun w hw => h w (List.mem_cons_of_mem _ hw)) q hq
theorem ct_of {l : Launch} {K : Kx} {md : Mx} {d : Nat × Nat} {mc ms : Nat} {av : List Value} {V : Vx} {I : MI3} {P : MP} {post : Px} (lv : List (Nat × Value)) (hy : plainName md.1.cls = true) (hn : (lg_sl av).length ≤ md.2.2.1) (hcat : ∀ v ∈ av, v.category = 1) (hlv : lv_args 0 av = lv)
    (body : ∀ X : Jx, X.l = l → HX X md K d mc ms post → J X K V I P 0 0 0 lv []) : Ct l K md d mc ms av V I P post := by
  refine Met.ofW (cc := md.2.1) (maxL := md.2.2.1) (ret := md.2.2.2) hy rfl ?_
  intro p e s m args below meth c s₁ B hml hv
  obtain ⟨rfl, hW, hK, hb, hap⟩ := hv
  have hts := atoms_spec (ws := wsM md) B.pre
  have hown : s.vm.findClass md.1.cls = some m.cls := findClass_of_methodNamed B.named
  have hnm : meth.name = md.1.name := (name_of_methodNamed B.named B.method).1
  have hl := lv_entry av hn
  rw [lg_entry_eq]
  generalize (lg_sl av ++ List.replicate (md.2.2.1 - (lg_sl av).length) Slot.unset).toArray = ls at hl ⊢
  have K1 := body (p, l, e, rmM d mc ms, s, m, av.toArray, below, meth, c, MQ below (QC K post) av.toArray s mc ms (fun q => K.base ≤ q), md.2.2.1) rfl
    ⟨⟨B.exec, B.bytes, hml, hown, fun w hw => hts w (List.mem_cons_of_mem _ hw), hK, hb, hap⟩, rfl, rfl, B.returns, B.notSynchronized, hnm, rfl⟩
  refine K1 s.heap [] ls hW (Nat.le_refl _) (fun _ _ => rfl) (fun _ h => by cases h) ⟨⟨hl.1, hl.2.1, fun q hq => ?_⟩, ?_⟩
  · rw [← hlv] at hq
    exact hl.2.2 q (clL_mem hq)
  · rw [← hlv]
    exact lv_cat1 av 0 hcat
section JC
variable {X : Jx} {cc : ByteArray} {own : String} {K : Kx} {V : Vx} {I : MI3} {P : MP} {cells slots pc : Nat} {lv : List (Nat × Value)} {st : List Value} {md : Mx} {d : Nat × Nat} {mc ms : Nat} {post : Px}
theorem j_iret (h : HX X md K d mc ms post) {v : Int32} (dd : decode md.2.1 pc = .ok (.ireturn, 1)) (hr : md.2.2.2 = some .int) (hc : cells ≤ mc) (hs : slots ≤ ms) (hp : post V (some (.int v)) I P) : J X K V I P cells slots pc lv [.int v] := by
  intro H locs ls a b e f g
  obtain ⟨⟨h1, h2, -⟩, -, -, h5, h6, -, h8⟩ := h
  unfold JW
  rw [h8]
  refine W.widen hc hs ?_
  exact W.iret h1 h2 (h5.trans hr) (fun t ht hW => ⟨_, V, I, P, rfl, hp, by rw [ht]; exact a, by rw [ht]; exact b, fun q hq => by rw [ht]; exact e q hq⟩) f dd h6
theorem j_zret (h : HX X md K d mc ms post) {v : Int32} (dd : decode md.2.1 pc = .ok (.ireturn, 1)) (hr : md.2.2.2 = some .boolean) (hz : v = 0 ∨ v = 1) (hc : cells ≤ mc) (hs : slots ≤ ms) (hp : post V (some (.int v)) I P) : J X K V I P cells slots pc lv [.int v] := by
  intro H locs ls a b e f g
  obtain ⟨⟨h1, h2, -⟩, -, -, h5, h6, -, h8⟩ := h
  unfold JW
  rw [h8]
  refine W.widen hc hs ?_
  exact W.zret h1 h2 (h5.trans hr) (z_nar hz) (fun t ht hW => ⟨_, V, I, P, rfl, hp, by rw [ht]; exact a, by rw [ht]; exact b, fun q hq => by rw [ht]; exact e q hq⟩) f dd h6
theorem j_vret (h : HX X md K d mc ms post) (dd : decode md.2.1 pc = .ok (.return_, 1)) (hr : md.2.2.2 = none) (hc : cells ≤ mc) (hs : slots ≤ ms) (hp : post V none I P) : J X K V I P cells slots pc lv [] := by
  intro H locs ls a b e f g
  obtain ⟨⟨h1, h2, -⟩, -, -, h5, h6, -, h8⟩ := h
  unfold JW
  rw [h8]
  refine W.widen hc hs ?_
  exact W.vret h1 h2 (h5.trans hr) (fun t ht hW => ⟨_, V, I, P, rfl, hp, by rw [ht]; exact a, by rw [ht]; exact b, fun q hq => by rw [ht]; exact e q hq⟩) f dd h6
theorem j_aret (h : HX X md K d mc ms post) {q0 : Nat} {C : String} (dd : decode md.2.1 pc = .ok (.areturn, 1)) (hr : md.2.2.2 = some (.object C)) (hc : cells ≤ mc) (hs : slots ≤ ms) (hp : post V (some (.ref q0)) I P) : J X K V I P cells slots pc lv [.ref q0] := by
  intro H locs ls a b e f g
  obtain ⟨⟨h1, h2, -⟩, -, -, h5, h6, -, h8⟩ := h
  unfold JW
  rw [h8]
  refine W.widen hc hs ?_
  exact W.aret h1 h2 (h5.trans hr) (Or.inl ⟨_, rfl⟩) (Or.inr ⟨_, rfl⟩) (fun t ht hW => ⟨_, V, I, P, rfl, hp, by rw [ht]; exact a, by rw [ht]; exact b, fun q hq => by rw [ht]; exact e q hq⟩) f dd h6
/-- behind a call that returns -/
theorem j_run {rest st0 : List Value} {a0 : Array Value} (hr : ∀ (H : Heap) (locs : List Loc) (ls : Array Slot), Wd K V I P H → X.s.heap.size ≤ H.size → (∀ q, q < K.base → H[q]? = X.s.heap[q]?) → hasL ls X.nL lv → va_Run X.p X.l X.e X.R X.s X.m X.args X.below X.meth X.c H locs cells slots mc ms (F0 X.m pc ls st0) rest (QC K post a0) (fun q => K.base ≤ q))
    (kk : ∀ (V' : Vx) (r : Option Value) (I' : MI3) (P' : MP), post V' r I' P' → J X K V' I' P' (cells + mc) (slots + ms) (pc + 3) lv (r.toList ++ rest)) : J X K V I P cells slots pc lv st0 := by
  intro H locs ls a b e f g T hT Z
  obtain ⟨v, st₀, t, T', L, h0, X', hL, e1, e2, ⟨r, V', I', P', hv, hp, hw, hz, hk⟩, go⟩ := hr H locs ls a b e g T hT Z
  cases hv
  rw [h0] at hz hk
  obtain ⟨t2, a1, b1⟩ := kk V' v I' P' hp T'.heap (locs ++ L) ls (by rw [e1]; exact hw) (Nat.le_trans b (by rw [e1]; exact hz)) (fun q hq => by rw [e1, hk q hq]; exact e q hq) (fun z hz => by
    rcases List.mem_append.mp hz with h | h
    · exact f z h
    · exact hL z h) g T' rfl X'
  exact ⟨t2, go t2 a1, b1⟩
/-- the words of a call -/
def MLk (own : String) (idx : Nat) (md : Mx) (n : Nat) : Prop := Cond.methodLink own idx md.1 ∈ WA ∧ Cond.initialized md.1.cls ∈ WA ∧ Cond.code md.1 md.2.1 md.2.2.1 md.2.2.2 ∈ WA ∧ (md.1.cls ≠ "java/lang/invoke/MethodHandle" ∧ md.1.cls ≠ "java/lang/invoke/VarHandle" ∧ (parseMethodDescriptor md.1.desc).map (fun d => d.parameters.length) = some n)
theorem good_ws (h : Cond.code md.1 md.2.1 md.2.2.1 md.2.2.2 ∈ WA) : GoodIn WA (wsM md) := by
  intro w hw
  rcases List.mem_cons.mp hw with rfl | hw
  · exact ⟨h, WA_good _ h⟩
  · exact ⟨hw, WA_good _ hw⟩
theorem ml_callB (h : OkX X cc own K) {idx n : Nat} (w : MLk own idx md n) (hR : d.1 + 1 ≤ X.R.frames ∧ md.2.2.1 + 19 + d.2 ≤ X.R.locals) : CallB X.R X.s X.args own idx md.1 md.2.1 md.2.2.1 md.2.2.2 (wsM md) (rmM d mc ms) mc ms n := by
  obtain ⟨w1, w2, w3, w4⟩ := w
  have ht := h.2.2.2.2.1
  exact callB_of n ht (good_ws w3) rfl rfl rfl (ht _ w2) (ht _ w1) w4 ⟨hR.1, by show 8 + (md.2.2.1 + 11) + d.2 ≤ _; omega⟩
theorem pc_at (h : OkX X cc own K) {H : Heap} {av : List Value} (a : Wd K V I P H) (b : X.s.heap.size ≤ H.size) (e : ∀ q, q < K.base → H[q]? = X.s.heap[q]?) (U : State) (hU : U.heap = H) (hW : X.s.WarmedH U.vm) : PC K av V I P av.toArray U :=
  ⟨rfl, by rw [hU]; exact a, va_K.moved hW.alike h.2.2.2.2.2.1, h.2.2.2.2.2.2.1.moved hW (by rw [hU]; exact b) (by rw [hU]; exact e), h.2.2.2.2.2.2.2⟩
theorem st_room {m : MethodId} {pc : Nat} {ls : Array Slot} {st0 rest : List Value} (h : (rest.map fun v => v.category).sum ≤ 8) : 2 * (F0 m pc ls st0).monitorRoom + (rest.map fun v => v.category).sum ≤ 8 := by
  have : (F0 m pc ls st0).monitorRoom = 0 := rfl
  omega
theorem j_callV (h : OkX X cc own K) {idx ci i n : Nat} {As rest st0 : List Value} {r : vw_C} (hM : Ct X.l K md d mc ms (.ref (K.ad ci i) :: As) V I P post) (dd : decode cc pc = .ok (.invokevirtual idx, 3)) (w : MLk own idx md n) (w2 : Cond.instanceMethod md.1 ∈ WA ∧ Cond.selects md.1.cls md.1 md.1 ∈ WA)
    (hv : V.1 ci i) (hcl : classes[ci]? = some r ∧ r.1 = md.1.cls) (hst : st0 = As.reverse ++ .ref (K.ad ci i) :: rest) (hn : As.length = n) (hcat : (rest.map fun v => v.category).sum ≤ 8) (hR : d.1 + 1 ≤ X.R.frames ∧ md.2.2.1 + 19 + d.2 ≤ X.R.locals) (hf : cells + mc ≤ X.R.cells ∧ slots + ms ≤ X.R.slots)
    (kk : ∀ (V' : Vx) (r : Option Value) (I' : MI3) (P' : MP), post V' r I' P' → J X K V' I' P' (cells + mc) (slots + ms) (pc + 3) lv (r.toList ++ rest)) : J X K V I P cells slots pc lv st0 := by
  subst hst
  refine j_run (post := post) (rest := rest) (a0 := (Value.ref (K.ad ci i) :: As).toArray) (fun H locs ls a b e g => ?_) kk
  obtain ⟨hpv, r', hr', cell, q1, q2, q3, q4⟩ := a.1 ci i hv
  cases Option.some.inj (hcl.1.symm.trans hr')
  have hcls := (h.2.2.2.2.2.1.1 ci r hcl.1).2
  have ht := h.2.2.2.2.1
  exact va_runV (Ts := WA) ⟨h.1, h.2.1, h.2.2.1, h.2.2.2.1, ht⟩ hM ⟨ml_callB h w hR, ht _ w2.1, ht _ w2.2⟩ ⟨PC_blind, ⟨cell, q1, by rw [q3]; rfl, by rw [q2, ← hcl.2]; exact hcls.1⟩, fun U hU hW => pc_at h a b e U hU hW⟩ rfl hn g.1.1 rfl (st_room hcat) dd hf
theorem j_callS (h : OkX X cc own K) {idx n : Nat} {As rest st0 : List Value} (hM : Ct X.l K md d mc ms As V I P post) (dd : decode cc pc = .ok (.invokestatic idx, 3)) (w : MLk own idx md n) (w2 : Cond.static md.1 ∈ WA)
    (hst : st0 = As.reverse ++ rest) (hn : As.length = n) (hcat : (rest.map fun v => v.category).sum ≤ 8) (hR : d.1 + 1 ≤ X.R.frames ∧ md.2.2.1 + 19 + d.2 ≤ X.R.locals) (hf : cells + mc ≤ X.R.cells ∧ slots + ms ≤ X.R.slots)
    (kk : ∀ (V' : Vx) (r : Option Value) (I' : MI3) (P' : MP), post V' r I' P' → J X K V' I' P' (cells + mc) (slots + ms) (pc + 3) lv (r.toList ++ rest)) : J X K V I P cells slots pc lv st0 := by
  subst hst
  refine j_run (post := post) (rest := rest) (a0 := As.toArray) (fun H locs ls a b e g => ?_) kk
  have ht := h.2.2.2.2.1
  exact va_runS (Ts := WA) ⟨h.1, h.2.1, h.2.2.1, h.2.2.2.1, ht⟩ hM ⟨ml_callB h w hR, ht _ w2⟩ ⟨PC_blind, fun U hU hW => pc_at h a b e U hU hW⟩ rfl hn g.1.1 rfl (st_room hcat) dd hf
theorem j_callI (h : OkX X cc own K) {idx q0 n : Nat} {As rest st0 : List Value} (hM : Ct X.l K md d mc ms (.ref q0 :: As) V I P post) (dd : decode cc pc = .ok (.invokespecial idx, 3)) (w : MLk own idx md n) (w2 : Cond.instanceMethod md.1 ∈ WA) (hin : md.1.name = "<init>") (hret : md.2.2.2 = none)
    (hst : st0 = As.reverse ++ .ref q0 :: rest) (hn : As.length = n) (hcat : (rest.map fun v => v.category).sum ≤ 8) (hR : d.1 + 1 ≤ X.R.frames ∧ md.2.2.1 + 19 + d.2 ≤ X.R.locals) (hf : cells + mc ≤ X.R.cells ∧ slots + ms ≤ X.R.slots)
    (kk : ∀ (V' : Vx) (r : Option Value) (I' : MI3) (P' : MP), post V' r I' P' → J X K V' I' P' (cells + mc) (slots + ms) (pc + 3) lv (r.toList ++ rest)) : J X K V I P cells slots pc lv st0 := by
  subst hst
  refine j_run (post := post) (rest := rest) (a0 := (Value.ref q0 :: As).toArray) (fun H locs ls a b e g => ?_) kk
  have ht := h.2.2.2.2.1
  exact va_runI (Ts := WA) ⟨h.1, h.2.1, h.2.2.1, h.2.2.2.1, ht⟩ hM ⟨hret ▸ ml_callB h w hR, hin, ht _ w2⟩ ⟨PC_blind, fun U hU hW => pc_at h a b e U hU hW⟩ rfl hn g.1.1 rfl (st_room hcat) dd hf
theorem hR_of {d' : Nat × Nat} {n : Nat} (h : HX X md K d mc ms post) (h1 : d'.1 + 1 ≤ d.1) (h2 : n + 19 + d'.2 ≤ d.2) : d'.1 + 1 ≤ X.R.frames ∧ n + 19 + d'.2 ≤ X.R.locals := by
  rw [h.2.2.1]
  exact ⟨h1, h2⟩
theorem hf_of {mc' ms' : Nat} (h : HX X md K d mc ms post) (h1 : cells + mc' ≤ mc) (h2 : slots + ms' ≤ ms) : cells + mc' ≤ X.R.cells ∧ slots + ms' ≤ X.R.slots := by
  rw [h.2.2.1]
  exact ⟨h1, h2⟩
theorem ca_n : ∀ v ∈ ([] : List Value), v.category = 1 := fun _ h => by cases h
theorem ca_i {x : Int32} {t : List Value} (h : ∀ v ∈ t, v.category = 1) : ∀ v ∈ Value.int x :: t, v.category = 1 := fun v hv => (List.mem_cons.mp hv).elim (fun e => by rw [e]; rfl) (h v)
theorem ca_r {x : Nat} {t : List Value} (h : ∀ v ∈ t, v.category = 1) : ∀ v ∈ Value.ref x :: t, v.category = 1 := fun v hv => (List.mem_cons.mp hv).elim (fun e => by rw [e]; rfl) (h v)
end JC
