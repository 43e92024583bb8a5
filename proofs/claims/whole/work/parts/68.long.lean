/-! longs, the script, cell -/
def enc (v : Int64) : Nat := v.toBitVec.toNat
theorem enc_of (v : Int64) : Int64.ofNat (enc v) = v := by
  apply Int64.toBitVec_inj.mp
  show BitVec.ofNat 64 v.toBitVec.toNat = v.toBitVec
  simp
section JL
variable {X : Jx} {cc : ByteArray} {own : String} {K : Kx} {V : Vx} {I : MI3} {P : MP} {cells slots pc : Nat} {lv : List (Nat × Value)} {st : List Value} {b L : Nat} {xs : Nat → Int32}
theorem j_lald (h : OkX X cc own K) {a col j : Nat} {x : Int32} {y : Int64} (d : decode cc pc = .ok (.laload, 1)) (hi : ainf a = (1, 9, col)) (ht : atyT (aty a) = .long ∧ aty a < 7) (ha : V.2.1 a) (hx : x = nI j) (hj : j < K.alen a) (hl : K.alen a < 2147483648) (hp : P col j = some (enc y)) (kk : J X K V I P cells slots (pc + 1) lv (.long y :: st)) : J X K V I P cells slots pc lv (.int x :: .ref (K.aad a) :: st) := by
  intro H locs ls w b' e f g
  subst hx
  have hin := n_in hj hl
  have hcl : (nI j).toNatClampNeg = j := nI_clamp (by omega)
  have hA := (w.2.1 a ha).2
  rw [acont_l hi] at hA
  refine W.lald (v := .long y) h.1 h.2.1 hA (ht.1 ▸ (h.2.2.2.2.2.1.2 (aty a) _ (tys_at K ht.2)).1 (K.alen a) (fun j => .long (Int64.ofNat ((P col j).getD 0)))) (fun q => by cases q) (by show ¬ (nI j < 0 ∨ (arrV _ _ _).slots.size ≤ _); rw [arrV_size]; exact hin) (by show (arrV _ _ _).slots[_]? = _; rw [hcl, arrV_read _ _ hj]; show some (Value.long (Int64.ofNat ((P col j).getD 0))) = _; rw [hp]; show some (Value.long (Int64.ofNat (enc y))) = _; rw [enc_of]) rfl rfl d (kk H locs ls w b' e f g)
theorem j_last (h : OkX X cc own K) {a col j : Nat} {x : Int32} {y : Int64} (d : decode cc pc = .ok (.lastore, 1)) (hi : ainf a = (1, 9, col)) (ht : atyT (aty a) = .long ∧ aty a < 7) (ha : V.2.1 a) (hx : x = nI j) (hj : j < K.alen a) (hl : K.alen a < 2147483648) (kk : J X K V I (up P col j (some (enc y))) cells slots (pc + 1) lv st) : J X K V I P cells slots pc lv (.long y :: .int x :: .ref (K.aad a) :: st) := by
  intro H locs ls w b' e f g
  subst hx
  have hin := n_in hj hl
  have hcl : (nI j).toNatClampNeg = j := nI_clamp (by omega)
  have hap := h.2.2.2.2.2.2.2
  have hA := (w.2.1 a ha).2
  have hpa := (w.2.1 a ha).1
  rw [acont_l hi] at hA
  refine W.last h.1 h.2.1 hA (ht.1 ▸ (h.2.2.2.2.2.1.2 (aty a) _ (tys_at K ht.2)).1 (K.alen a) (fun j => .long (Int64.ofNat ((P col j).getD 0)))) (fun q => by cases q) (by show ¬ (nI j < 0 ∨ (arrV _ _ _).slots.size ≤ _); rw [arrV_size]; exact hin) rfl rfl d fun H1 e1 z oq => ?_
  have hba := hap.2.2.2.2.1 a hpa
  refine kk H1 _ ls (Wd_ast hap w ha ?_ oq z (fun ci r k i hr hk => fval_up (b := 9) (fun h1 h2 => absurd (by rw [hi]; exact h2.symm) (tbl_ra hr hk (b := (cinf ci k).2.1) (col := (cinf ci k).2.2) (by rw [← h1]) (hap.2.2.2.2.2 a hpa) (by rw [hi]; exact (by simp))))) (fun a' h1 h2 => acont_up (fun hf h3 => h2 (tbl_rr2 h1 (hap.2.2.2.2.2 a hpa) hf (by rw [hi]; exact (by simp)) (by rw [h3, hi]))))) (by rw [z]; exact b') (fun q hq => by rw [oq q (Nat.ne_of_lt (Nat.lt_of_lt_of_le hq hba))]; exact e q hq) (t_lc f hba) g
  rw [e1, acont_l hi, vp_cell_l, vp_cell_l, arrV_store, hcl]
  congr 2
  funext q
  by_cases hq : q = j
  · subst hq; simp [updV, up, enc_of]
  · simp [updV, up, hq]
theorem j_sld (h : OkX X cc own K) (hX : va_X b L xs X.s X.s.heap) (hbl : b < K.base) {j : Nat} {x : Int32} (d : decode cc pc = .ok (.iaload, 1)) (hx : x = nI j) (hj : j < L) (hl : L < 2147483648) (kk : J X K V I P cells slots (pc + 1) lv (.int (xs j) :: st)) : J X K V I P cells slots pc lv (.int x :: .ref b :: st) := by
  intro H locs ls w b' e f g
  subst hx
  have hin := n_in hj hl
  have hcl : (nI j).toNatClampNeg = j := nI_clamp (by omega)
  obtain ⟨scr, h1, h2, h3, h4, h5⟩ := hX
  exact W.iald (v := .int (xs j)) h.1 h.2.1 (by rw [e b hbl]; exact h1) h2 h3 (by rw [h4]; exact hin) (by rw [hcl]; exact h5 _ hj) rfl rfl d (kk H locs ls w b' e f g)
theorem j_slen (h : OkX X cc own K) (hX : va_X b L xs X.s X.s.heap) (hbl : b < K.base) (d : decode cc pc = .ok (.arraylength, 1)) (kk : J X K V I P cells slots (pc + 1) lv (.int (nI L) :: st)) : J X K V I P cells slots pc lv (.ref b :: st) := by
  intro H locs ls w b' e f g
  obtain ⟨scr, h1, h2, h3, h4, h5⟩ := hX
  exact W.alen (n := nI L) h.1 h.2.1 (by rw [e b hbl]; exact h1) h2 (by rw [h4] <;> rfl) rfl rfl d (kk H locs ls w b' e f g)
end JL
/-- a method that reads the script -/
def PCs (K : Kx) (av : List Value) (b L : Nat) (xs : Nat → Int32) (V : Vx) (I : MI3) (P : MP) : Array Value → State → Prop := va_Pc av (fun U => (Wd K V I P U.heap ∧ KS K U) ∧ va_X b L xs U U.heap ∧ b < K.base)
theorem PCs_blind {K : Kx} {av : List Value} {b L : Nat} {xs : Nat → Int32} {V : Vx} {I : MI3} {P : MP} : FrameBlind (PCs K av b L xs V I P) := by
  intro a U g mk h
  obtain ⟨h1, h2, h3, h4⟩ := h
  have := PC_blind (K := K) (av := av) (V := V) (I := I) (P := P) a U g mk ⟨h1, h2⟩
  exact ⟨this.1, this.2, va_X.moved (u := U) (U := U.calling g mk a) (Vm.Alike.refl U.vm) h3, h4⟩
def CtS (l : Launch) (K : Kx) (md : Mx) (d : Nat × Nat) (mc ms : Nat) (av : List Value) (b L : Nat) (xs : Nat → Int32) (V : Vx) (I : MI3) (P : MP) (post : Px) : Prop :=
  Met l md.1 (wsM md) (rmM d mc ms) (PCs K av b L xs V I P) (QC K post) mc ms (fun q => K.base ≤ q)
theorem cts_of {l : Launch} {K : Kx} {md : Mx} {d : Nat × Nat} {mc ms : Nat} {av : List Value} {b L : Nat} {xs : Nat → Int32} {V : Vx} {I : MI3} {P : MP} {post : Px} (lv : List (Nat × Value)) (hy : plainName md.1.cls = true) (hn : (lg_sl av).length ≤ md.2.2.1) (hcat : ∀ v ∈ av, v.category = 1) (hlv : lv_args 0 av = lv)
    (body : ∀ X : Jx, X.l = l → HX X md K d mc ms post → va_X b L xs X.s X.s.heap → b < K.base → J X K V I P 0 0 0 lv []) : CtS l K md d mc ms av b L xs V I P post := by
  refine Met.ofW (cc := md.2.1) (maxL := md.2.2.1) (ret := md.2.2.2) hy rfl ?_
  intro p e s m args below meth c s₁ B hml hv
  obtain ⟨rfl, ⟨hW, hK, hb, hap⟩, hX, hbl⟩ := hv
  have hts := atoms_spec (ws := wsM md) B.pre
  have hown : s.vm.findClass md.1.cls = some m.cls := findClass_of_methodNamed B.named
  have hnm : meth.name = md.1.name := (name_of_methodNamed B.named B.method).1
  have hl := lv_entry av hn
  rw [lg_entry_eq]
  generalize (lg_sl av ++ List.replicate (md.2.2.1 - (lg_sl av).length) Slot.unset).toArray = ls at hl ⊢
  have K1 := body (p, l, e, rmM d mc ms, s, m, av.toArray, below, meth, c, MQ below (QC K post) av.toArray s mc ms (fun q => K.base ≤ q), md.2.2.1) rfl
    ⟨⟨B.exec, B.bytes, hml, hown, fun w hw => hts w (List.mem_cons_of_mem _ hw), hK, hb, hap⟩, rfl, rfl, B.returns, B.notSynchronized, hnm, rfl⟩ hX hbl
  refine K1 s.heap [] ls hW (Nat.le_refl _) (fun _ _ => rfl) (fun _ h => by cases h) ⟨⟨hl.1, hl.2.1, fun q hq => ?_⟩, ?_⟩
  · rw [← hlv] at hq
    exact hl.2.2 q (clL_mem hq)
  · rw [← hlv]
    exact lv_cat1 av 0 hcat
section JLS
variable {X : Jx} {cc : ByteArray} {own : String} {K : Kx} {V : Vx} {I : MI3} {P : MP} {cells slots pc : Nat} {lv : List (Nat × Value)} {st : List Value} {b L : Nat} {xs : Nat → Int32} {md : Mx} {d : Nat × Nat} {mc ms : Nat} {post : Px}
theorem js_callS (h : OkX X cc own K) (hX : va_X b L xs X.s X.s.heap) (hbl : b < K.base) {idx n : Nat} {As rest st0 : List Value} (hM : CtS X.l K md d mc ms As b L xs V I P post) (dd : decode cc pc = .ok (.invokestatic idx, 3)) (w : MLk own idx md n) (w2 : Cond.static md.1 ∈ WA)
    (hst : st0 = As.reverse ++ rest) (hn : As.length = n) (hcat : (rest.map fun v => v.category).sum ≤ 8) (hR : d.1 + 1 ≤ X.R.frames ∧ md.2.2.1 + 19 + d.2 ≤ X.R.locals) (hf : cells + mc ≤ X.R.cells ∧ slots + ms ≤ X.R.slots)
    (kk : ∀ (V' : Vx) (r : Option Value) (I' : MI3) (P' : MP), post V' r I' P' → J X K V' I' P' (cells + mc) (slots + ms) (pc + 3) lv (r.toList ++ rest)) : J X K V I P cells slots pc lv st0 := by
  subst hst
  refine j_run (post := post) (rest := rest) (a0 := As.toArray) (fun H locs ls a b' e g => ?_) kk
  have ht := h.2.2.2.2.1
  exact va_runS (Ts := WA) ⟨h.1, h.2.1, h.2.2.1, h.2.2.2.1, ht⟩ hM ⟨ml_callB h w hR, ht _ w2⟩ ⟨PCs_blind, fun U hU hW => ⟨(pc_at (av := As) h a b' e U hU hW).1, (pc_at (av := As) h a b' e U hU hW).2, va_X.moved hW.alike (hX.kept (by rw [hU]; exact e b hbl)), hbl⟩⟩ rfl hn g.1.1 rfl (st_room hcat) dd hf
end JLS
def scl (xs : Nat → Int32) (L k : Nat) : Int32 := if k < L then xs k else 0
theorem d_Law_cell_0 : decode b_Law_cell 0 = .ok (.iload_n 1, 1) := by decide +kernel
theorem d_Law_cell_1 : decode b_Law_cell 1 = .ok (.aload_n 0, 1) := by decide +kernel
theorem d_Law_cell_2 : decode b_Law_cell 2 = .ok (.arraylength, 1) := by decide +kernel
theorem d_Law_cell_3 : decode b_Law_cell 3 = .ok (.if_icmp .ge 9, 3) := by decide +kernel
theorem d_Law_cell_6 : decode b_Law_cell 6 = .ok (.aload_n 0, 1) := by decide +kernel
theorem d_Law_cell_7 : decode b_Law_cell 7 = .ok (.iload_n 1, 1) := by decide +kernel
theorem d_Law_cell_8 : decode b_Law_cell 8 = .ok (.iaload, 1) := by decide +kernel
theorem d_Law_cell_9 : decode b_Law_cell 9 = .ok (.goto 4, 3) := by decide +kernel
theorem d_Law_cell_12 : decode b_Law_cell 12 = .ok (.iconst 0, 1) := by decide +kernel
theorem d_Law_cell_13 : decode b_Law_cell 13 = .ok (.ireturn, 1) := by decide +kernel
set_option maxRecDepth 100000 in
theorem c_Law_cell (l : Launch) (K : Kx) (V : Vx) (I : MI3) (P : MP) (b L : Nat) (xs : Nat → Int32) (hL : L ≤ 3075) (k : Nat) (hk : k < 3) : CtS l K md_Law_cell (0, 0) 0 0 [.ref b, .int (nI k)] b L xs V I P (EQ V (some (.int (scl xs L k))) I P) := by
  refine cts_of [(0, .ref b), (1, .int (nI k))] (by decide) (Nat.le_of_ble_eq_true rfl) (ca_r (ca_i ca_n)) rfl ?_
  intro X hl hX hS hbl
  have h : OkX X b_Law_cell R_Law K := hX.1
  have hN : X.nL = 2 := hX.2.1
  refine j_iload_n h d_Law_cell_0 rfl ?_
  refine j_aload_n h d_Law_cell_1 rfl ?_
  refine j_slen h hS hbl d_Law_cell_2 ?_
  refine j_ic_ge (tgt := 12) h d_Law_cell_3 (by decide) (fun c => ?_) (fun c => ?_)
  · refine j_iconst (v := 0) h d_Law_cell_12 (by decide) ?_
    refine j_iret hX d_Law_cell_13 rfl (Nat.le_refl _) (Nat.le_refl _) ⟨rfl, ?_, rfl, rfl⟩
    rw [nI_leI (by omega) (by omega)] at c
    unfold scl
    rw [if_neg (by omega)]
  · rw [nI_leI (by omega) (by omega)] at c
    refine j_aload_n h d_Law_cell_6 rfl ?_
    refine j_iload_n h d_Law_cell_7 rfl ?_
    refine j_sld h hS hbl d_Law_cell_8 rfl (by omega) (by omega) ?_
    refine j_goto (tgt := 13) h d_Law_cell_9 (by decide) ?_
    refine j_iret hX d_Law_cell_13 rfl (Nat.le_refl _) (Nat.le_refl _) ⟨rfl, ?_, rfl, rfl⟩
    unfold scl
    rw [if_pos (by omega)]
