/-! the net: has, takeAll, remove -/
section JNN
variable {X : Jx} {cc : ByteArray} {own : String} {K : Kx} {V : Vx} {I : MI3} {P : MP} {cells slots pc : Nat} {lv : List (Nat × Value)} {st : List Value} {md : Mx} {d : Nat × Nat} {mc ms : Nat} {post : Px}
theorem j_callSN (h : OkX X cc own K) {idx n : Nat} {host : String} {As rest st0 : List Value} (hM : Ct X.l K md d mc ms As V I P post) (dd : decode cc pc = .ok (.invokestatic idx, 3)) (wn : Cond.methodLinkNest own idx md.1 host ∈ NWN) (w3 : Cond.code md.1 md.2.1 md.2.2.1 md.2.2.2 ∈ WA) (w2 : Cond.initialized md.1.cls ∈ WA) (ws : Cond.static md.1 ∈ WA) (hd : md.1.cls ≠ "java/lang/invoke/MethodHandle" ∧ md.1.cls ≠ "java/lang/invoke/VarHandle" ∧ (parseMethodDescriptor md.1.desc).map (fun d => d.parameters.length) = some n)
    (hst : st0 = As.reverse ++ rest) (hn : As.length = n) (hcat : (rest.map fun v => v.category).sum ≤ 8) (hR : d.1 + 1 ≤ X.R.frames ∧ md.2.2.1 + 19 + d.2 ≤ X.R.locals) (hf : cells + mc ≤ X.R.cells ∧ slots + ms ≤ X.R.slots)
    (kk : ∀ (V' : Vx) (r : Option Value) (I' : MI3) (P' : MP), post V' r I' P' → J X K V' I' P' (cells + mc) (slots + ms) (pc + 3) lv (r.toList ++ rest)) : J X K V I P cells slots pc lv st0 := by
  subst hst
  refine j_run (post := post) (rest := rest) (a0 := As.toArray) (fun H locs ls a b e g => ?_) kk
  have ht := h.2.2.2.2.1
  exact va_runSN (Ts := WA) ⟨h.1, h.2.1, h.2.2.1, h.2.2.2.1, ht⟩ hM ⟨va_cnB n ht (good_ws w3) rfl rfl rfl (h.2.2.2.2.2.2.1.2.1.2 _ wn) (ht _ w2) hd ⟨hR.1, by show 8 + (md.2.2.1 + 11) + d.2 ≤ _; omega⟩, ht _ ws, trivial⟩ ⟨PC_blind, fun U hU hW => pc_at h a b e U hU hW⟩ rfl hn g.1.1 rfl (st_room hcat) dd hf
theorem j_callIN (h : OkX X cc own K) {idx q0 n : Nat} {host : String} {As rest st0 : List Value} (hM : Ct X.l K md d mc ms (.ref q0 :: As) V I P post) (dd : decode cc pc = .ok (.invokespecial idx, 3)) (wn : Cond.methodLinkNest own idx md.1 host ∈ NWN) (w3 : Cond.code md.1 md.2.1 md.2.2.1 md.2.2.2 ∈ WA) (w2 : Cond.initialized md.1.cls ∈ WA) (ws : Cond.instanceMethod md.1 ∈ WA) (hin : md.1.name = "<init>") (hret : md.2.2.2 = none) (hd : md.1.cls ≠ "java/lang/invoke/MethodHandle" ∧ md.1.cls ≠ "java/lang/invoke/VarHandle" ∧ (parseMethodDescriptor md.1.desc).map (fun d => d.parameters.length) = some n)
    (hst : st0 = As.reverse ++ .ref q0 :: rest) (hn : As.length = n) (hcat : (rest.map fun v => v.category).sum ≤ 8) (hR : d.1 + 1 ≤ X.R.frames ∧ md.2.2.1 + 19 + d.2 ≤ X.R.locals) (hf : cells + mc ≤ X.R.cells ∧ slots + ms ≤ X.R.slots)
    (kk : ∀ (V' : Vx) (r : Option Value) (I' : MI3) (P' : MP), post V' r I' P' → J X K V' I' P' (cells + mc) (slots + ms) (pc + 3) lv (r.toList ++ rest)) : J X K V I P cells slots pc lv st0 := by
  subst hst
  refine j_run (post := post) (rest := rest) (a0 := (Value.ref q0 :: As).toArray) (fun H locs ls a b e g => ?_) kk
  have ht := h.2.2.2.2.1
  exact va_runIN (Ts := WA) ⟨h.1, h.2.1, h.2.2.1, h.2.2.2.1, ht⟩ hM ⟨hret ▸ va_cnB n ht (good_ws w3) rfl rfl rfl (h.2.2.2.2.2.2.1.2.1.2 _ wn) (ht _ w2) hd ⟨hR.1, by show 8 + (md.2.2.1 + 11) + d.2 ≤ _; omega⟩, hin, ht _ ws⟩ ⟨PC_blind, fun U hU hW => pc_at h a b e U hU hW⟩ rfl hn g.1.1 rfl (st_room hcat) dd hf
end JNN
def PE (P P' : MP) : Prop := ∀ col i, col ≠ 5 → col ≠ 6 → col ≠ 14 → col ≠ 15 → P' col i = P col i
theorem CS_pe {K : Kx} {V : Vx} {P P' : MP} {n : Nat} (pe : PE P P') (c : CS K V P n) : CS K V P' n := by
  obtain ⟨a, b, p0, p1, p2, p3, p4, p10, p11, p12⟩ := c
  have e := fun col i h1 h2 h3 h4 => pe col i h1 h2 h3 h4
  refine ⟨a, b, ?_, ?_, ?_, ?_, ?_, ?_, ?_, ?_⟩
  · rw [e _ _ (by decide) (by decide) (by decide) (by decide)]; exact p0
  · rw [e _ _ (by decide) (by decide) (by decide) (by decide)]; exact p1
  · rw [e _ _ (by decide) (by decide) (by decide) (by decide)]; exact p2
  · rw [e _ _ (by decide) (by decide) (by decide) (by decide)]; exact p3
  · intro s hs; rw [e _ _ (by decide) (by decide) (by decide) (by decide)]; exact p4 s hs
  · intro s hs; rw [e _ _ (by decide) (by decide) (by decide) (by decide)]; exact p10 s hs
  · intro s hs; rw [e _ _ (by decide) (by decide) (by decide) (by decide)]; exact p11 s hs
  · intro s a hs ha; rw [e _ _ (by omega) (by omega) (by omega) (by omega)]; exact p12 s a hs ha
/-- the ring or its arrays have moved -/
def TP (K : Kx) (V : Vx) (C D : MI) (P : MP) (ld sk : Int32) (r : Option Value) (A : MI) (N T : List Msg) (U : Msg) : Px := fun V' r' I' P' => V' = V ∧ r' = r ∧ PE P P' ∧ ∃ B, I' = bk4 A B C D ∧ NC K P' B ld sk N T U
theorem NC_take {K : Kx} {P : MP} {B : MI} {ld sk : Int32} {N T : List Msg} {U : Msg} {t f ft : Nat} {g : Nat → Nat → Nat} (kb : KB B ld sk) (w : NCw K P B N T U t g f ft) : NC K (up (up P 5 0 (some (K.aad (5 - t)))) 6 0 (some (K.aad (4 + t)))) (up (up (up B 71 0 (nI f)) 70 0 0) 72 0 0) ld sk [] N U := by
  obtain ⟨⟨ht, hf, hc, b70, b72, p5, p6, hg, hgi⟩, hN, b71, hft, hT, hU, hz⟩ := w
  have keep : ∀ q x, CM B q x → CM (up (up (up B 71 0 (nI f)) 70 0 0) 72 0 0) q x := fun q x h => CM_kept h (fun col hcol => by rw [up_c _ _ (by omega), up_c _ _ (by omega), up_c _ _ (by omega)])
  refine ⟨fun s hs => ?_, 1 - t, g, 0, f, ⟨by omega, by decide, by decide, rfl, rfl, ?_, ?_, ?_, hgi⟩, ?_, rfl, hf, ?_, keep _ _ hU, ?_⟩
  · obtain ⟨k1, k2, k3, k4⟩ := kb s hs
    exact ⟨k1, k2, k3, k4⟩
  · show some (K.aad (5 - t)) = some (K.aad (4 + (1 - t)))
    rw [show 5 - t = 4 + (1 - t) by omega]
  · show some (K.aad (4 + t)) = some (K.aad (5 - (1 - t)))
    rw [show 4 + t = 5 - (1 - t) by omega]
  · intro u j hu hj
    refine ⟨?_, (hg u j hu hj).2⟩
    rw [up_c _ _ (by omega), up_c _ _ (by omega)]
    exact (hg u j hu hj).1
  · intro k x hk
    simp at hk
  · intro k x hk
    have hl := (List.getElem?_eq_some_iff.mp hk).1
    refine ⟨by omega, ?_⟩
    rw [show 1 - (1 - t) = t by omega]
    exact keep _ _ (hN k x hk)
  · intro q hq
    exact hz q hq
theorem d_Net_has_0 : decode b_Net_has 0 = .ok (.iload_n 1, 1) := by decide +kernel
theorem d_Net_has_1 : decode b_Net_has 1 = .ok (.iconst 0, 1) := by decide +kernel
theorem d_Net_has_2 : decode b_Net_has 2 = .ok (.aload_n 0, 1) := by decide +kernel
theorem d_Net_has_3 : decode b_Net_has 3 = .ok (.getfield 21, 3) := by decide +kernel
theorem d_Net_has_6 : decode b_Net_has 6 = .ok (.iconst 1, 1) := by decide +kernel
theorem d_Net_has_7 : decode b_Net_has 7 = .ok (.isub, 1) := by decide +kernel
theorem d_Net_has_8 : decode b_Net_has 8 = .ok (.invokestatic 25, 3) := by decide +kernel
theorem d_Net_has_11 : decode b_Net_has 11 = .ok (.ireturn, 1) := by decide +kernel
set_option maxRecDepth 100000 in
set_option maxHeartbeats 4000000 in
theorem c_Net_has (l : Launch) (K : Kx) (V : Vx) (A B C D : MI) (P : MP) (n : Nat) (cs : CS K V P n) (c : Nat) (b72 : B 72 0 = nI c) (x : Int32) : Ct l K md_Net_has (1, 22) 0 0 [.ref (K.ad 4 0), .int x] V (bk4 A B C D) P (EQ V (some (.int (b01 (¬ x < 0 ∧ ¬ nI c - 1 < x)))) (bk4 A B C D) P) := by
  refine ct_of [(0, .ref (K.ad 4 0)), (1, .int x)] (by decide) (Nat.le_of_ble_eq_true rfl) (ca_r (ca_i ca_n)) rfl ?_
  intro X hl hX
  have h : OkX X b_Net_has R_Net K := hX.1
  have hN : X.nL = 2 := hX.2.1
  have hnv := cs_nv cs
  refine j_iload_n h d_Net_has_0 rfl ?_
  refine j_iconst (v := 0) h d_Net_has_1 (by decide) ?_
  refine j_aload_n h d_Net_has_2 rfl ?_
  refine j_get1e h d_Net_has_3 fl_Net_21 rfl (by assumption) b72 ?_
  refine j_iconst (v := 1) h d_Net_has_6 (by decide) ?_
  refine j_isub h d_Net_has_7 ?_
  refine j_callSN (n := 3) (host := "LeasePair") h (c_LP_isWithin _ _ _ _ _ _ _ _ _ _ _) d_Net_has_8 (by decide +kernel) wk_LP_isWithin wn_LP_isWithin ms_LP_isWithin (by decide +kernel) rfl rfl (Nat.le_of_ble_eq_true rfl) (hR_of hX (by decide) (by decide)) (hf_of hX (by decide) (by decide)) ?_
  rintro _ _ _ _ ⟨rfl, rfl, rfl, rfl⟩
  exact j_zret hX d_Net_has_11 rfl (by first | exact Or.inl rfl | exact Or.inr rfl | exact b01_z _ | assumption) (Nat.le_refl _) (Nat.le_refl _) ⟨rfl, rfl, rfl, rfl⟩
theorem d_Net_takeAll_0 : decode b_Net_takeAll 0 = .ok (.aload_n 0, 1) := by decide +kernel
theorem d_Net_takeAll_1 : decode b_Net_takeAll 1 = .ok (.getfield 11, 3) := by decide +kernel
theorem d_Net_takeAll_4 : decode b_Net_takeAll 4 = .ok (.astore_n 1, 1) := by decide +kernel
theorem d_Net_takeAll_5 : decode b_Net_takeAll 5 = .ok (.aload_n 0, 1) := by decide +kernel
theorem d_Net_takeAll_6 : decode b_Net_takeAll 6 = .ok (.aload_n 0, 1) := by decide +kernel
theorem d_Net_takeAll_7 : decode b_Net_takeAll 7 = .ok (.getfield 17, 3) := by decide +kernel
theorem d_Net_takeAll_10 : decode b_Net_takeAll 10 = .ok (.putfield 11, 3) := by decide +kernel
theorem d_Net_takeAll_13 : decode b_Net_takeAll 13 = .ok (.aload_n 0, 1) := by decide +kernel
theorem d_Net_takeAll_14 : decode b_Net_takeAll 14 = .ok (.aload_n 1, 1) := by decide +kernel
theorem d_Net_takeAll_15 : decode b_Net_takeAll 15 = .ok (.putfield 17, 3) := by decide +kernel
theorem d_Net_takeAll_18 : decode b_Net_takeAll 18 = .ok (.aload_n 0, 1) := by decide +kernel
theorem d_Net_takeAll_19 : decode b_Net_takeAll 19 = .ok (.aload_n 0, 1) := by decide +kernel
theorem d_Net_takeAll_20 : decode b_Net_takeAll 20 = .ok (.getfield 29, 3) := by decide +kernel
theorem d_Net_takeAll_23 : decode b_Net_takeAll 23 = .ok (.putfield 32, 3) := by decide +kernel
theorem d_Net_takeAll_26 : decode b_Net_takeAll 26 = .ok (.aload_n 0, 1) := by decide +kernel
theorem d_Net_takeAll_27 : decode b_Net_takeAll 27 = .ok (.iconst 0, 1) := by decide +kernel
theorem d_Net_takeAll_28 : decode b_Net_takeAll 28 = .ok (.putfield 29, 3) := by decide +kernel
theorem d_Net_takeAll_31 : decode b_Net_takeAll 31 = .ok (.aload_n 0, 1) := by decide +kernel
theorem d_Net_takeAll_32 : decode b_Net_takeAll 32 = .ok (.getfield 21, 3) := by decide +kernel
theorem d_Net_takeAll_35 : decode b_Net_takeAll 35 = .ok (.istore_n 2, 1) := by decide +kernel
theorem d_Net_takeAll_36 : decode b_Net_takeAll 36 = .ok (.aload_n 0, 1) := by decide +kernel
theorem d_Net_takeAll_37 : decode b_Net_takeAll 37 = .ok (.iconst 0, 1) := by decide +kernel
theorem d_Net_takeAll_38 : decode b_Net_takeAll 38 = .ok (.putfield 21, 3) := by decide +kernel
theorem d_Net_takeAll_41 : decode b_Net_takeAll 41 = .ok (.iload_n 2, 1) := by decide +kernel
theorem d_Net_takeAll_42 : decode b_Net_takeAll 42 = .ok (.ireturn, 1) := by decide +kernel
set_option maxRecDepth 100000 in
set_option maxHeartbeats 4000000 in
theorem c_Net_takeAll (l : Launch) (K : Kx) (V : Vx) (A B C D : MI) (P : MP) (n : Nat) (cs : CS K V P n) (ld sk : Int32) (N T : List Msg) (U : Msg) (hnc : NC K P B ld sk N T U) : Ct l K md_Net_takeAll (0, 0) 0 0 [.ref (K.ad 4 0)] V (bk4 A B C D) P (TP K V C D P ld sk (some (.int (nI N.length))) A [] N U) := by
  refine ct_of [(0, .ref (K.ad 4 0))] (by decide) (Nat.le_of_ble_eq_true rfl) (ca_r ca_n) rfl ?_
  intro X hl hX
  have h : OkX X b_Net_takeAll R_Net K := hX.1
  have hN : X.nL = 3 := hX.2.1
  have hnv := cs_nv cs
  obtain ⟨kb, t, g, f, ft, nw⟩ := id hnc
  obtain ⟨ht, hf, hc, b70, b72, p5, p6, hg, hgi⟩ := id nw.1
  refine j_aload_n h d_Net_takeAll_0 rfl ?_
  refine j_getR h d_Net_takeAll_1 fl_Net_11 rfl (by assumption) p5 ?_
  refine j_astore_n h d_Net_takeAll_4 (Nat.lt_of_lt_of_eq (m := 3) (by decide) hN.symm) ?_
  refine j_aload_n h d_Net_takeAll_5 rfl ?_
  refine j_aload_n h d_Net_takeAll_6 rfl ?_
  refine j_getR h d_Net_takeAll_7 fl_Net_17 rfl (by assumption) p6 ?_
  refine j_putR h d_Net_takeAll_10 fw_Net_11 rfl ⟨rfl, rfl⟩ (by assumption) ?_
  refine j_aload_n h d_Net_takeAll_13 rfl ?_
  refine j_aload_n h d_Net_takeAll_14 rfl ?_
  refine j_putR h d_Net_takeAll_15 fw_Net_17 rfl ⟨rfl, rfl⟩ (by assumption) ?_
  refine j_aload_n h d_Net_takeAll_18 rfl ?_
  refine j_aload_n h d_Net_takeAll_19 rfl ?_
  refine j_get1e h d_Net_takeAll_20 fl_Net_29 rfl (by assumption) b70 ?_
  refine j_put1 h d_Net_takeAll_23 fw_Net_32 rfl rfl (by assumption) ?_
  refine j_aload_n h d_Net_takeAll_26 rfl ?_
  refine j_iconst (v := 0) h d_Net_takeAll_27 (by decide) ?_
  refine j_put1 h d_Net_takeAll_28 fw_Net_29 rfl rfl (by assumption) ?_
  refine j_aload_n h d_Net_takeAll_31 rfl ?_
  refine j_get1e h d_Net_takeAll_32 fl_Net_21 rfl (by assumption) b72 ?_
  refine j_istore_n h d_Net_takeAll_35 (Nat.lt_of_lt_of_eq (m := 3) (by decide) hN.symm) ?_
  refine j_aload_n h d_Net_takeAll_36 rfl ?_
  refine j_iconst (v := 0) h d_Net_takeAll_37 (by decide) ?_
  refine j_put1 h d_Net_takeAll_38 fw_Net_21 rfl rfl (by assumption) ?_
  refine j_iload_n h d_Net_takeAll_41 rfl ?_
  exact j_iret hX d_Net_takeAll_42 rfl (Nat.le_refl _) (Nat.le_refl _) ⟨rfl, rfl, fun col i h1 h2 _ _ => by rw [up_c _ _ h2, up_c _ _ h1], _, rfl, NC_take kb nw⟩
theorem c_Net_at_w (l : Launch) (K : Kx) (V : Vx) (A B C D : MI) (P : MP) (n : Nat) (cs : CS K V P n) (t f q : Nat) (ht : t < 2) (hf : f < 300) (b70 : B 70 0 = nI f) (p5 : P 5 0 = some (K.aad (4 + t))) (k : Nat) (hk : k ≤ 300) (hp : P (14 + t) ((f + k) % 300) = some q) : Ct l K md_Net_at (0, 0) 0 0 [.ref (K.ad 4 0), .int (nI k)] V (bk4 A B C D) P (EQ V (some (.ref q)) (bk4 A B C D) P) := by
  refine ct_of [(0, .ref (K.ad 4 0)), (1, .int (nI k))] (by decide) (Nat.le_of_ble_eq_true rfl) (ca_r (ca_i ca_n)) rfl ?_
  intro X hl hX
  have h : OkX X b_Net_at R_Net K := hX.1
  have hnv := cs_nv cs
  refine j_aload_n h d_Net_at_0 rfl ?_
  refine j_getR h d_Net_at_1 fl_Net_11 rfl (by assumption) p5 ?_
  refine j_aload_n h d_Net_at_4 rfl ?_
  refine j_get1e h d_Net_at_5 fl_Net_29 rfl (by assumption) b70 ?_
  refine j_iload_n h d_Net_at_8 rfl ?_
  refine j_iadd h d_Net_at_9 ?_
  refine j_sipush (v := 300) h d_Net_at_10 (by decide) ?_
  refine j_irem h d_Net_at_13 (by decide) ?_
  refine j_ring h cs ht (by rw [nI_add]; exact rem300 (by omega)) (Nat.mod_lt _ (by decide)) hp d_Net_at_14 ?_
  exact j_aret hX d_Net_at_15 rfl (Nat.le_refl _) (Nat.le_refl _) ⟨rfl, rfl, rfl, rfl⟩
theorem NC_rm {K : Kx} {P P3 : MP} {B : MI} {ld sk : Int32} {N T : List Msg} {U : Msg} {t f ft pl : Nat} {g g3 : Nat → Nat → Nat} (kb : KB B ld sk) (w : NCw K P B N T U t g f ft) (hpl : pl < N.length) (h1 : ∀ u j, u < 2 → j < 300 → P3 (14 + u) j = some (K.ad 5 (g3 u j)))
    (h2 : ∀ p, p < 300 → g3 t ((f + p) % 300) = if pl ≤ p ∧ p < N.length - 1 then g t ((f + p + 1) % 300) else if p = N.length - 1 then g t ((f + pl) % 300) else g t ((f + p) % 300)) (h3 : ∀ j, j < 300 → g3 (1 - t) j = g (1 - t) j) (h4 : ∀ col j, col ≠ 14 + t → P3 col j = P col j) : NC K P3 (up B 72 0 (nI (N.length - 1))) ld sk (N.eraseIdx pl) T U := by
  obtain ⟨⟨ht, hf, hc, b70, b72, p5, p6, hg, hgi⟩, hN, b71, hft, hT, hU, hz⟩ := w
  have hl : (N.eraseIdx pl).length = N.length - 1 := by rw [List.length_eraseIdx]; rw [if_pos hpl]
  have keep : ∀ q x, CM B q x → CM (up B 72 0 (nI (N.length - 1))) q x := fun q x h => CM_kept h (fun col hcol => by rw [up_c _ _ (by omega)])
  obtain ⟨pi, hpi⟩ : ∃ pi : Nat → Nat, pi = fun p => if pl ≤ p ∧ p < N.length - 1 then p + 1 else if p = N.length - 1 then pl else p := ⟨_, rfl⟩
  have hpi' : ∀ p, pi p = if pl ≤ p ∧ p < N.length - 1 then p + 1 else if p = N.length - 1 then pl else p := fun p => by rw [hpi]
  have hg3 : ∀ p, p < 300 → g3 t ((f + p) % 300) = g t ((f + pi p) % 300) := by
    intro p hp
    rw [h2 p hp, hpi']
    split
    · rfl
    · split <;> rfl
  have hlt : ∀ p, p < 300 → pi p < 300 := by
    intro p hp
    rw [hpi']
    split
    · omega
    · split <;> omega
  have hinj : ∀ p p', p < 300 → p' < 300 → pi p = pi p' → p = p' := by
    intro p p' hp hp' e
    rw [hpi', hpi'] at e
    split at e <;> split at e <;> (try split at e) <;> (try split at e) <;> omega
  have hj : ∀ j, j < 300 → ∃ p, p < 300 ∧ j = (f + p) % 300 := fun j hj => ⟨(j + 300 - f) % 300, Nat.mod_lt _ (by decide), by omega⟩
  have hmod : ∀ p p', p < 300 → p' < 300 → (f + p) % 300 = (f + p') % 300 → p = p' := fun p p' h h' e => by omega
  have hb : ∀ u j, u < 2 → j < 300 → ∃ j', j' < 300 ∧ g3 u j = g u j' ∧ ∀ i, i < 300 → g3 u i = g u j' → i = j := by
    intro u j hu hjj
    by_cases hut : u = t
    · subst hut
      obtain ⟨p, hp, rfl⟩ := hj j hjj
      refine ⟨(f + pi p) % 300, Nat.mod_lt _ (by decide), hg3 p hp, fun i hi e => ?_⟩
      obtain ⟨p', hp', rfl⟩ := hj i hi
      rw [hg3 p' hp'] at e
      have := (hgi u _ u _ hu (Nat.mod_lt _ (by decide)) hu (Nat.mod_lt _ (by decide)) e).2
      have := hmod _ _ (hlt p' hp') (hlt p hp) this
      rw [hinj _ _ hp' hp this]
    · have : u = 1 - t := by omega
      subst this
      refine ⟨j, hjj, h3 j hjj, fun i hi e => ?_⟩
      rw [h3 i hi] at e
      exact (hgi (1 - t) _ (1 - t) _ hu hi hu hjj e).2
  refine ⟨fun s hs => ?_, t, g3, f, ft, ⟨ht, hf, by omega, b70, by rw [hl]; rfl, ?_, ?_, ?_, ?_⟩, ?_, b71, hft, ?_, keep _ _ hU, fun q hq => hz q hq⟩
  · obtain ⟨k1, k2, k3, k4⟩ := kb s hs
    exact ⟨k1, k2, k3, k4⟩
  · rw [h4 _ _ (by omega)]; exact p5
  · rw [h4 _ _ (by omega)]; exact p6
  · intro u j hu hjj
    obtain ⟨j', h5, h6, -⟩ := hb u j hu hjj
    exact ⟨h1 u j hu hjj, by rw [h6]; exact (hg u j' hu h5).2⟩
  · intro u j u' j' hu hjj hu' hj' e
    obtain ⟨a, ha, ea, ia⟩ := hb u j hu hjj
    obtain ⟨b, hb', eb, ib⟩ := hb u' j' hu' hj'
    rw [ea, eb] at e
    obtain ⟨e1, e2⟩ := hgi u a u' b hu ha hu' hb' e
    subst e1; subst e2
    exact ⟨rfl, ib j hjj ea⟩
  · intro k x hk
    have hkl : k < N.length - 1 := by
      have := (List.getElem?_eq_some_iff.mp hk).1
      omega
    rw [List.getElem?_eraseIdx] at hk
    rw [hg3 k (by omega), hpi']
    split at hk
    · rw [if_neg (by omega), if_neg (by omega)]
      exact keep _ _ (hN k x hk)
    · rw [if_pos (by omega)]
      exact keep _ _ (hN (k + 1) x hk)
  · intro k x hk
    obtain ⟨e1, e2⟩ := hT k x hk
    refine ⟨e1, ?_⟩
    rw [h3 _ (Nat.mod_lt _ (by decide))]
    exact keep _ _ e2
theorem d_Net_remove_0 : decode b_Net_remove 0 = .ok (.aload_n 0, 1) := by decide +kernel
theorem d_Net_remove_1 : decode b_Net_remove 1 = .ok (.iload_n 1, 1) := by decide +kernel
theorem d_Net_remove_2 : decode b_Net_remove 2 = .ok (.invokevirtual 35, 3) := by decide +kernel
theorem d_Net_remove_5 : decode b_Net_remove 5 = .ok (.astore_n 2, 1) := by decide +kernel
theorem d_Net_remove_6 : decode b_Net_remove 6 = .ok (.iload_n 1, 1) := by decide +kernel
theorem d_Net_remove_7 : decode b_Net_remove 7 = .ok (.istore_n 3, 1) := by decide +kernel
theorem d_Net_remove_8 : decode b_Net_remove 8 = .ok (.iload_n 3, 1) := by decide +kernel
theorem d_Net_remove_9 : decode b_Net_remove 9 = .ok (.aload_n 0, 1) := by decide +kernel
theorem d_Net_remove_10 : decode b_Net_remove 10 = .ok (.getfield 21, 3) := by decide +kernel
theorem d_Net_remove_13 : decode b_Net_remove 13 = .ok (.iconst 1, 1) := by decide +kernel
theorem d_Net_remove_14 : decode b_Net_remove 14 = .ok (.isub, 1) := by decide +kernel
theorem d_Net_remove_15 : decode b_Net_remove 15 = .ok (.if_icmp .ge 31, 3) := by decide +kernel
theorem d_Net_remove_18 : decode b_Net_remove 18 = .ok (.aload_n 0, 1) := by decide +kernel
theorem d_Net_remove_19 : decode b_Net_remove 19 = .ok (.getfield 11, 3) := by decide +kernel
theorem d_Net_remove_22 : decode b_Net_remove 22 = .ok (.aload_n 0, 1) := by decide +kernel
theorem d_Net_remove_23 : decode b_Net_remove 23 = .ok (.getfield 29, 3) := by decide +kernel
theorem d_Net_remove_26 : decode b_Net_remove 26 = .ok (.iload_n 3, 1) := by decide +kernel
theorem d_Net_remove_27 : decode b_Net_remove 27 = .ok (.iadd, 1) := by decide +kernel
theorem d_Net_remove_28 : decode b_Net_remove 28 = .ok (.sipush 300, 3) := by decide +kernel
theorem d_Net_remove_31 : decode b_Net_remove 31 = .ok (.irem, 1) := by decide +kernel
theorem d_Net_remove_32 : decode b_Net_remove 32 = .ok (.aload_n 0, 1) := by decide +kernel
theorem d_Net_remove_33 : decode b_Net_remove 33 = .ok (.iload_n 3, 1) := by decide +kernel
theorem d_Net_remove_34 : decode b_Net_remove 34 = .ok (.iconst 1, 1) := by decide +kernel
theorem d_Net_remove_35 : decode b_Net_remove 35 = .ok (.iadd, 1) := by decide +kernel
theorem d_Net_remove_36 : decode b_Net_remove 36 = .ok (.invokevirtual 35, 3) := by decide +kernel
theorem d_Net_remove_39 : decode b_Net_remove 39 = .ok (.aastore, 1) := by decide +kernel
theorem d_Net_remove_40 : decode b_Net_remove 40 = .ok (.iinc 3 1, 3) := by decide +kernel
theorem d_Net_remove_43 : decode b_Net_remove 43 = .ok (.goto (-35), 3) := by decide +kernel
theorem d_Net_remove_46 : decode b_Net_remove 46 = .ok (.aload_n 0, 1) := by decide +kernel
theorem d_Net_remove_47 : decode b_Net_remove 47 = .ok (.getfield 11, 3) := by decide +kernel
theorem d_Net_remove_50 : decode b_Net_remove 50 = .ok (.aload_n 0, 1) := by decide +kernel
theorem d_Net_remove_51 : decode b_Net_remove 51 = .ok (.getfield 29, 3) := by decide +kernel
theorem d_Net_remove_54 : decode b_Net_remove 54 = .ok (.aload_n 0, 1) := by decide +kernel
theorem d_Net_remove_55 : decode b_Net_remove 55 = .ok (.getfield 21, 3) := by decide +kernel
theorem d_Net_remove_58 : decode b_Net_remove 58 = .ok (.iadd, 1) := by decide +kernel
theorem d_Net_remove_59 : decode b_Net_remove 59 = .ok (.iconst 1, 1) := by decide +kernel
theorem d_Net_remove_60 : decode b_Net_remove 60 = .ok (.isub, 1) := by decide +kernel
theorem d_Net_remove_61 : decode b_Net_remove 61 = .ok (.sipush 300, 3) := by decide +kernel
theorem d_Net_remove_64 : decode b_Net_remove 64 = .ok (.irem, 1) := by decide +kernel
theorem d_Net_remove_65 : decode b_Net_remove 65 = .ok (.aload_n 2, 1) := by decide +kernel
theorem d_Net_remove_66 : decode b_Net_remove 66 = .ok (.aastore, 1) := by decide +kernel
theorem d_Net_remove_67 : decode b_Net_remove 67 = .ok (.aload_n 0, 1) := by decide +kernel
theorem d_Net_remove_68 : decode b_Net_remove 68 = .ok (.dup, 1) := by decide +kernel
theorem d_Net_remove_69 : decode b_Net_remove 69 = .ok (.getfield 21, 3) := by decide +kernel
theorem d_Net_remove_72 : decode b_Net_remove 72 = .ok (.iconst 1, 1) := by decide +kernel
theorem d_Net_remove_73 : decode b_Net_remove 73 = .ok (.isub, 1) := by decide +kernel
theorem d_Net_remove_74 : decode b_Net_remove 74 = .ok (.putfield 21, 3) := by decide +kernel
theorem d_Net_remove_77 : decode b_Net_remove 77 = .ok (.return_, 1) := by decide +kernel
set_option maxRecDepth 100000 in
set_option maxHeartbeats 4000000 in
theorem c_Net_remove (l : Launch) (K : Kx) (V : Vx) (A B C D : MI) (P : MP) (n : Nat) (cs : CS K V P n) (ld sk : Int32) (N T : List Msg) (U : Msg) (hnc : NC K P B ld sk N T U) (pl : Nat) (hpl : pl < N.length) : Ct l K md_Net_remove (1, 21) 0 0 [.ref (K.ad 4 0), .int (nI pl)] V (bk4 A B C D) P (TP K V C D P ld sk none A (N.eraseIdx pl) T U) := by
  refine ct_of [(0, .ref (K.ad 4 0)), (1, .int (nI pl))] (by decide) (Nat.le_of_ble_eq_true rfl) (ca_r (ca_i ca_n)) rfl ?_
  intro X hl hX
  have h : OkX X b_Net_remove R_Net K := hX.1
  have hN : X.nL = 4 := hX.2.1
  have hnv := cs_nv cs
  obtain ⟨kb, t, g, f, ft, nw⟩ := id hnc
  obtain ⟨ht, hf, hc, b70, b72, p5, p6, hg, hgi⟩ := id nw.1
  have hm1 : nI N.length - 1 = nI (N.length - 1) := by
    obtain ⟨z, hz⟩ : ∃ z, N.length = z + 1 := ⟨N.length - 1, by omega⟩
    rw [hz]; exact nI_pred z
  have hfc : nI f + nI N.length - 1 = nI (f + (N.length - 1)) := by
    rw [nI_add]
    obtain ⟨z, hz⟩ : ∃ z, N.length = z + 1 := ⟨N.length - 1, by omega⟩
    rw [hz, ← Nat.add_assoc]; exact nI_pred (f + z)
  have hL : ∀ (k i : Nat) (P1 : MP) (g1 : Nat → Nat → Nat), i + k = N.length - 1 → (∀ u j, u < 2 → j < 300 → P1 (14 + u) j = some (K.ad 5 (g1 u j))) ∧ (∀ p, p < 300 → g1 t ((f + p) % 300) = if pl ≤ p ∧ p < i then g t ((f + p + 1) % 300) else g t ((f + p) % 300)) ∧ (∀ j, j < 300 → g1 (1 - t) j = g (1 - t) j) ∧ (∀ col j, col ≠ 14 + t → P1 col j = P col j) ∧ pl ≤ i → J X K V (bk4 A B C D) P1 0 0 8 [(0, .ref (K.ad 4 0)), (1, .int (nI pl)), (2, .ref (K.ad 5 (g t ((f + pl) % 300)))), (3, .int (nI i))] [] := by
    intro k
    induction k with
    | zero =>
      intro i P1 g1 hi hv
      have hi2 : i = N.length - 1 := by omega
      subst hi2
      refine j_iload_n h d_Net_remove_8 rfl ?_
      refine j_aload_n h d_Net_remove_9 rfl ?_
      refine j_get1e h d_Net_remove_10 fl_Net_21 rfl (by assumption) b72 ?_
      refine j_iconst (v := 1) h d_Net_remove_13 (by decide) ?_
      refine j_isub h d_Net_remove_14 ?_
      rw [hm1]
      refine j_ic_ge (tgt := 46) h d_Net_remove_15 (by decide) (fun _ => ?_) (fun c => absurd (nI_le (Nat.le_refl _) (by omega)) c)
      obtain ⟨r1, r2, r3, r4, r5⟩ := hv
      have cs1 : CS K V P1 n := CS_pe (fun col i _ _ h3 h4 => r4 col i (by omega)) cs
      have p51 : P1 5 0 = some (K.aad (4 + t)) := by rw [r4 _ _ (by omega)]; exact p5
      refine j_aload_n h d_Net_remove_46 rfl ?_
      refine j_getR h d_Net_remove_47 fl_Net_11 rfl (by assumption) p51 ?_
      refine j_aload_n h d_Net_remove_50 rfl ?_
      refine j_get1e h d_Net_remove_51 fl_Net_29 rfl (by assumption) b70 ?_
      refine j_aload_n h d_Net_remove_54 rfl ?_
      refine j_get1e h d_Net_remove_55 fl_Net_21 rfl (by assumption) b72 ?_
      refine j_iadd h d_Net_remove_58 ?_
      refine j_iconst (v := 1) h d_Net_remove_59 (by decide) ?_
      refine j_isub h d_Net_remove_60 ?_
      rw [hfc]
      refine j_sipush (v := 300) h d_Net_remove_61 (by decide) ?_
      refine j_irem h d_Net_remove_64 (by decide) ?_
      rw [rem300 (show f + (N.length - 1) < 2 ^ 31 by omega)]
      refine j_aload_n h d_Net_remove_65 rfl ?_
      refine j_aast (a := 4 + t) (ci := 5) h d_Net_remove_66 (ai_msg ht).1 rfl ⟨by rw [(ai_msg ht).2]; rfl, by rw [(ai_msg ht).2]; decide⟩ (cs_av cs (by omega)) (cs_mv cs (Nat.lt_succ_of_lt (hg t _ ht (Nat.mod_lt _ (by decide))).2)) rfl (by rw [cs_ml cs ht]; exact Nat.mod_lt _ (by decide)) (by rw [cs_ml cs ht]; decide) ?_
      refine j_aload_n h d_Net_remove_67 rfl ?_
      refine j_dup h d_Net_remove_68 rfl ?_
      refine j_get1e h d_Net_remove_69 fl_Net_21 rfl (by assumption) b72 ?_
      refine j_iconst (v := 1) h d_Net_remove_72 (by decide) ?_
      refine j_isub h d_Net_remove_73 ?_
      rw [hm1]
      refine j_put1 h d_Net_remove_74 fw_Net_21 rfl rfl (by assumption) ?_
      exact j_vret hX d_Net_remove_77 rfl (Nat.le_refl _) (Nat.le_refl _) ⟨rfl, rfl, fun col i _ _ h3 h4 => by rw [up_c _ _ (by omega)]; exact r4 col i (by omega), _, rfl, NC_rm kb nw hpl (g3 := fun u j => if u = t ∧ j = (f + (N.length - 1)) % 300 then g t ((f + pl) % 300) else g1 u j) (fun u j hu hj => by
          by_cases e : u = t ∧ j = (f + (N.length - 1)) % 300
          · obtain ⟨rfl, rfl⟩ := e
            rw [up_s, if_pos ⟨rfl, rfl⟩]
          · rw [if_neg e, up_rd, if_neg (fun z => e ⟨by omega, z.2⟩)]
            exact r1 u j hu hj) (fun p hp => by
          by_cases e : p = N.length - 1
          · subst e
            rw [if_pos ⟨rfl, rfl⟩, if_neg (by omega), if_pos rfl]
          · rw [if_neg (fun z => e (by omega)), r2 p hp, if_neg e]) (fun j hj => by rw [if_neg (by omega)]; exact r3 j hj) (fun col j hcol => by rw [up_c _ _ hcol]; exact r4 col j hcol)⟩
    | succ k ih =>
      intro i P1 g1 hi hv
      have hi2 : i < N.length - 1 := by omega
      obtain ⟨r1, r2, r3, r4, r5⟩ := hv
      have cs1 : CS K V P1 n := CS_pe (fun col i _ _ h3 h4 => r4 col i (by omega)) cs
      have p51 : P1 5 0 = some (K.aad (4 + t)) := by rw [r4 _ _ (by omega)]; exact p5
      have hi3 : i + 1 < N.length := by omega
      have hg1 : g1 t ((f + (i + 1)) % 300) < 600 := by rw [r2 (i + 1) (by omega), if_neg (by omega)]; exact (hg t _ ht (Nat.mod_lt _ (by decide))).2
      refine j_iload_n h d_Net_remove_8 rfl ?_
      refine j_aload_n h d_Net_remove_9 rfl ?_
      refine j_get1e h d_Net_remove_10 fl_Net_21 rfl (by assumption) b72 ?_
      refine j_iconst (v := 1) h d_Net_remove_13 (by decide) ?_
      refine j_isub h d_Net_remove_14 ?_
      rw [hm1]
      refine j_ic_ge (tgt := 46) h d_Net_remove_15 (by decide) (fun c => absurd c (nI_ge hi2 (by omega))) (fun _ => ?_)
      refine j_aload_n h d_Net_remove_18 rfl ?_
      refine j_getR h d_Net_remove_19 fl_Net_11 rfl (by assumption) p51 ?_
      refine j_aload_n h d_Net_remove_22 rfl ?_
      refine j_get1e h d_Net_remove_23 fl_Net_29 rfl (by assumption) b70 ?_
      refine j_iload_n h d_Net_remove_26 rfl ?_
      refine j_iadd h d_Net_remove_27 ?_
      refine j_sipush (v := 300) h d_Net_remove_28 (by decide) ?_
      refine j_irem h d_Net_remove_31 (by decide) ?_
      rw [nI_add, rem300 (show f + i < 2 ^ 31 by omega)]
      refine j_aload_n h d_Net_remove_32 rfl ?_
      refine j_iload_n h d_Net_remove_33 rfl ?_
      refine j_iconst (v := 1) h d_Net_remove_34 (by decide) ?_
      refine j_iadd h d_Net_remove_35 ?_
      rw [nI_1]
      refine j_callV h (c_Net_at_w _ _ _ _ _ _ _ _ _ cs1 _ _ _ ht hf b70 p51 (i + 1) (by omega) (r1 t _ ht (Nat.mod_lt _ (by decide)))) d_Net_remove_36 ml_Net_35 mv_Net_at (by assumption) ⟨rfl, rfl⟩ rfl rfl (Nat.le_of_ble_eq_true rfl) (hR_of hX (by decide) (by decide)) (hf_of hX (by decide) (by decide)) ?_
      rintro _ _ _ _ ⟨rfl, rfl, rfl, rfl⟩
      refine j_aast (a := 4 + t) (ci := 5) h d_Net_remove_39 (ai_msg ht).1 rfl ⟨by rw [(ai_msg ht).2]; rfl, by rw [(ai_msg ht).2]; decide⟩ (cs_av cs (by omega)) (cs_mv cs (Nat.lt_succ_of_lt hg1)) rfl (by rw [cs_ml cs ht]; exact Nat.mod_lt _ (by decide)) (by rw [cs_ml cs ht]; decide) ?_
      refine j_iinc (v := nI (i + 1)) h d_Net_remove_40 rfl (nI_i i) (Nat.lt_of_lt_of_eq (m := 4) (by decide) hN.symm) ?_
      refine j_goto (tgt := 8) h d_Net_remove_43 (by decide) ?_
      refine j_lv (lv' := [(0, .ref (K.ad 4 0)), (1, .int (nI pl)), (2, .ref (K.ad 5 (g t ((f + pl) % 300)))), (3, .int (nI (i + 1)))]) (lvs rfl (lvs rfl (lvs rfl (lvs rfl lvs0)))) ?_
      refine ih (i + 1) _ (fun u j => if u = t ∧ j = (f + i) % 300 then g1 t ((f + (i + 1)) % 300) else g1 u j) (by omega) ⟨?_, ?_, ?_, ?_, by omega⟩
      · intro u j hu hj
        by_cases e : u = t ∧ j = (f + i) % 300
        · obtain ⟨rfl, rfl⟩ := e
          rw [up_s, if_pos ⟨rfl, rfl⟩]
        · rw [if_neg e]
          rw [up_rd, if_neg (fun z => e ⟨by omega, z.2⟩)]
          exact r1 u j hu hj
      · intro p hp
        by_cases e : p = i
        · subst e
          rw [if_pos ⟨rfl, rfl⟩, if_pos ⟨by omega, by omega⟩]
          rw [r2 (p + 1) (by omega), if_neg (by omega)]
          rfl
        · rw [if_neg (fun z => e (by omega)), r2 p hp]
          by_cases e2 : pl ≤ p ∧ p < i
          · rw [if_pos e2, if_pos ⟨by omega, by omega⟩]
          · rw [if_neg e2, if_neg (by omega)]
      · intro j hj
        rw [if_neg (by omega)]
        exact r3 j hj
      · intro col j hcol
        rw [up_c _ _ hcol]
        exact r4 col j hcol
  refine j_aload_n h d_Net_remove_0 rfl ?_
  refine j_iload_n h d_Net_remove_1 rfl ?_
  refine j_callV h (c_Net_at_w _ _ _ _ _ _ _ _ _ cs _ _ _ ht hf b70 p5 _ (by omega) (hg t _ ht (Nat.mod_lt _ (by decide))).1) d_Net_remove_2 ml_Net_35 mv_Net_at (by assumption) ⟨rfl, rfl⟩ rfl rfl (Nat.le_of_ble_eq_true rfl) (hR_of hX (by decide) (by decide)) (hf_of hX (by decide) (by decide)) ?_
  rintro _ _ _ _ ⟨rfl, rfl, rfl, rfl⟩
  refine j_astore_n h d_Net_remove_5 (Nat.lt_of_lt_of_eq (m := 4) (by decide) hN.symm) ?_
  refine j_iload_n h d_Net_remove_6 rfl ?_
  refine j_istore_n h d_Net_remove_7 (Nat.lt_of_lt_of_eq (m := 4) (by decide) hN.symm) ?_
  refine j_lv (lv' := [(0, .ref (K.ad 4 0)), (1, .int (nI pl)), (2, .ref (K.ad 5 (g t ((f + pl) % 300)))), (3, .int (nI pl))]) (lvs rfl (lvs rfl (lvs rfl (lvs rfl lvs0)))) ?_
  exact hL (N.length - 1 - pl) pl _ g (by omega) ⟨fun u j hu hj => (hg u j hu hj).1, fun p hp => by rw [if_neg (by omega)], fun _ _ => rfl, fun _ _ _ => rfl, Nat.le_refl _⟩
