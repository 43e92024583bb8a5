/-! the law's calls of the class: what is thrown is caught -/
/-- the answer that went into the long: a number, or a truth value -/
def gi (v : Int32) : Int64 := v.toInt64
def gz (v : Int32) : Int64 := if v = 0 then 0 else 1
def PW (V : Vx) (I : MI3) (P : MP) (Q : Px) (xp : Prop) (g : Int32 → Int64) : Px := fun V' r I' P' => (r = some (.int 0) ∧ ∃ v P1, Q V (some (.int v)) I' P1 ∧ V' = V ∧ P' = up P1 99 0 (some (enc (g v)))) ∨ (r = some (.int 1) ∧ xp ∧ V' = V ∧ I' = I ∧ P' = P)
def PWv (V : Vx) (I : MI3) (P : MP) (Q : Px) (xp : Prop) : Px := fun V' r I' P' => (r = some (.int 0) ∧ Q V none I' P' ∧ V' = V) ∨ (r = some (.int 1) ∧ xp ∧ V' = V ∧ I' = I ∧ P' = P)
theorem d_Law_seconds_0 : decode b_Law_seconds 0 = .ok (.aload_n 2, 1) := by decide +kernel
theorem d_Law_seconds_1 : decode b_Law_seconds 1 = .ok (.iconst 0, 1) := by decide +kernel
theorem d_Law_seconds_2 : decode b_Law_seconds 2 = .ok (.aload_n 0, 1) := by decide +kernel
theorem d_Law_seconds_3 : decode b_Law_seconds 3 = .ok (.iload_n 1, 1) := by decide +kernel
theorem d_Law_seconds_4 : decode b_Law_seconds 4 = .ok (.invokevirtual 7, 3) := by decide +kernel
theorem d_Law_seconds_7 : decode b_Law_seconds 7 = .ok (.i2l, 1) := by decide +kernel
theorem d_Law_seconds_8 : decode b_Law_seconds 8 = .ok (.lastore, 1) := by decide +kernel
theorem d_Law_seconds_9 : decode b_Law_seconds 9 = .ok (.goto 6, 3) := by decide +kernel
theorem d_Law_seconds_12 : decode b_Law_seconds 12 = .ok (.astore_n 3, 1) := by decide +kernel
theorem d_Law_seconds_13 : decode b_Law_seconds 13 = .ok (.iconst 1, 1) := by decide +kernel
theorem d_Law_seconds_14 : decode b_Law_seconds 14 = .ok (.ireturn, 1) := by decide +kernel
theorem d_Law_seconds_15 : decode b_Law_seconds 15 = .ok (.iconst 0, 1) := by decide +kernel
theorem d_Law_seconds_16 : decode b_Law_seconds 16 = .ok (.ireturn, 1) := by decide +kernel
def md_Law_seconds : Mx := (⟨R_Law, "seconds", "(LLeasePair;I[J)I"⟩, b_Law_seconds, 4, some .int)
theorem wk_Law_seconds : Cond.codeWith md_Law_seconds.1 md_Law_seconds.2.1 md_Law_seconds.2.2.1 md_Law_seconds.2.2.2 [(0, 9, 12, 13)] ∈ WA := wa_3 (List.mem_of_getElem? (i := 14) (by decide +kernel)) (by decide +kernel)
theorem mh_Law_seconds : MLh R_Law 77 md_Law_seconds [(0, 9, 12, 13)] 3 := ⟨wa_3 (List.mem_of_getElem? (i := 12) (by decide +kernel)) (by decide +kernel), wit_Law, wk_Law_seconds, wa_3 (List.mem_of_getElem? (i := 13) (by decide +kernel)) (by decide +kernel), by decide +kernel⟩
set_option maxRecDepth 100000 in
set_option maxHeartbeats 4000000 in
theorem c_Law_seconds (l : Launch) (K : Kx) (V : Vx) (I : MI3) (P : MP) (Q : Px) (xp : Prop) (z0 : Int32) (hM : CtX l K md_LP_seconds (9, 120) 1 6 [.ref (K.ad 0 0), .int z0] V I P Q xp) (hQ : ∀ V' r I' P', Q V' r I' P' → V' = V ∧ ∃ v, r = some (.int v)) (ha : V.2.1 40) (hl40 : K.alen 40 = 1) (hv : V.1 0 0) : CtH l K md_Law_seconds [(0, 9, 12, 13)] (10, 141) 1 6 [.ref (K.ad 0 0), .int z0, .ref (K.aad 40)] V I P (PW V I P Q xp gi) := by
  refine cth_of [(0, .ref (K.ad 0 0)), (1, .int z0), (2, .ref (K.aad 40))] (by decide) (Nat.le_of_ble_eq_true rfl) (ca_r (ca_i (ca_r ca_n))) rfl ?_
  intro X hl hX hT
  have h : OkX X b_Law_seconds R_Law K := hX.1
  have hN : X.nL = 4 := hX.2.1
  rw [← hl] at hM
  refine j_aload_n h d_Law_seconds_0 rfl ?_
  refine j_iconst (v := 0) h d_Law_seconds_1 (by decide) ?_
  refine j_aload_n h d_Law_seconds_2 rfl ?_
  refine j_iload_n h d_Law_seconds_3 rfl ?_
  refine jx_callV h hM d_Law_seconds_4 ml_Law_7 mv_LP_seconds hv ⟨rfl, rfl⟩ rfl rfl (Nat.le_of_ble_eq_true rfl) (hR_of hX (by decide) (by decide)) (hf_of hX (by decide) (by decide)) ?_ ?_
  · intro hx
    refine jt_catch h hT ⟨by decide, by decide⟩ (fun q => ?_)
    refine j_astore_n h d_Law_seconds_12 (Nat.lt_of_lt_of_eq (m := 4) (by decide) hN.symm) ?_
    refine j_iconst (v := 1) h d_Law_seconds_13 (by decide) ?_
    exact j_iret hX d_Law_seconds_14 rfl (by decide) (by decide) (Or.inr ⟨rfl, hx, rfl, rfl, rfl⟩)
  · intro V' r I' P' hq
    obtain ⟨e1, v, e2⟩ := hQ _ _ _ _ hq
    subst e1 e2
    refine j_i2l h d_Law_seconds_7 ?_
    refine j_last (a := 40) (col := 99) (j := 0) h d_Law_seconds_8 rfl ⟨rfl, by decide⟩ ha rfl (by rw [hl40]; decide) (by rw [hl40]; decide) ?_
    refine j_goto (tgt := 15) h d_Law_seconds_9 (by decide) ?_
    refine j_iconst (v := 0) h d_Law_seconds_15 (by decide) ?_
    exact j_iret hX d_Law_seconds_16 rfl (by decide) (by decide) (Or.inl ⟨rfl, v, P', hq, rfl, rfl⟩)
theorem d_Law_skew_0 : decode b_Law_skew 0 = .ok (.aload_n 3, 1) := by decide +kernel
theorem d_Law_skew_1 : decode b_Law_skew 1 = .ok (.iconst 0, 1) := by decide +kernel
theorem d_Law_skew_2 : decode b_Law_skew 2 = .ok (.aload_n 0, 1) := by decide +kernel
theorem d_Law_skew_3 : decode b_Law_skew 3 = .ok (.iload_n 1, 1) := by decide +kernel
theorem d_Law_skew_4 : decode b_Law_skew 4 = .ok (.iload_n 2, 1) := by decide +kernel
theorem d_Law_skew_5 : decode b_Law_skew 5 = .ok (.invokevirtual 15, 3) := by decide +kernel
theorem d_Law_skew_8 : decode b_Law_skew 8 = .ok (.i2l, 1) := by decide +kernel
theorem d_Law_skew_9 : decode b_Law_skew 9 = .ok (.lastore, 1) := by decide +kernel
theorem d_Law_skew_10 : decode b_Law_skew 10 = .ok (.goto 7, 3) := by decide +kernel
theorem d_Law_skew_13 : decode b_Law_skew 13 = .ok (.astore 4, 2) := by decide +kernel
theorem d_Law_skew_15 : decode b_Law_skew 15 = .ok (.iconst 1, 1) := by decide +kernel
theorem d_Law_skew_16 : decode b_Law_skew 16 = .ok (.ireturn, 1) := by decide +kernel
theorem d_Law_skew_17 : decode b_Law_skew 17 = .ok (.iconst 0, 1) := by decide +kernel
theorem d_Law_skew_18 : decode b_Law_skew 18 = .ok (.ireturn, 1) := by decide +kernel
def md_Law_skew : Mx := (⟨R_Law, "skew", "(LLeasePair;II[J)I"⟩, b_Law_skew, 5, some .int)
theorem wk_Law_skew : Cond.codeWith md_Law_skew.1 md_Law_skew.2.1 md_Law_skew.2.2.1 md_Law_skew.2.2.2 [(0, 10, 13, 13)] ∈ WA := wa_3 (List.mem_of_getElem? (i := 91) (by decide +kernel)) (by decide +kernel)
theorem mh_Law_skew : MLh R_Law 85 md_Law_skew [(0, 10, 13, 13)] 4 := ⟨wa_3 (List.mem_of_getElem? (i := 89) (by decide +kernel)) (by decide +kernel), wit_Law, wk_Law_skew, wa_3 (List.mem_of_getElem? (i := 90) (by decide +kernel)) (by decide +kernel), by decide +kernel⟩
set_option maxRecDepth 100000 in
set_option maxHeartbeats 4000000 in
theorem c_Law_skew (l : Launch) (K : Kx) (V : Vx) (I : MI3) (P : MP) (Q : Px) (xp : Prop) (z0 z1 : Int32) (hM : CtX l K md_LP_skew (10, 141) 2 12 [.ref (K.ad 0 0), .int z0, .int z1] V I P Q xp) (hQ : ∀ V' r I' P', Q V' r I' P' → V' = V ∧ ∃ v, r = some (.int v)) (ha : V.2.1 40) (hl40 : K.alen 40 = 1) (hv : V.1 0 0) : CtH l K md_Law_skew [(0, 10, 13, 13)] (11, 165) 2 12 [.ref (K.ad 0 0), .int z0, .int z1, .ref (K.aad 40)] V I P (PW V I P Q xp gi) := by
  refine cth_of [(0, .ref (K.ad 0 0)), (1, .int z0), (2, .int z1), (3, .ref (K.aad 40))] (by decide) (Nat.le_of_ble_eq_true rfl) (ca_r (ca_i (ca_i (ca_r ca_n)))) rfl ?_
  intro X hl hX hT
  have h : OkX X b_Law_skew R_Law K := hX.1
  have hN : X.nL = 5 := hX.2.1
  rw [← hl] at hM
  refine j_aload_n h d_Law_skew_0 rfl ?_
  refine j_iconst (v := 0) h d_Law_skew_1 (by decide) ?_
  refine j_aload_n h d_Law_skew_2 rfl ?_
  refine j_iload_n h d_Law_skew_3 rfl ?_
  refine j_iload_n h d_Law_skew_4 rfl ?_
  refine jx_callV h hM d_Law_skew_5 ml_Law_15 mv_LP_skew hv ⟨rfl, rfl⟩ rfl rfl (Nat.le_of_ble_eq_true rfl) (hR_of hX (by decide) (by decide)) (hf_of hX (by decide) (by decide)) ?_ ?_
  · intro hx
    refine jt_catch h hT ⟨by decide, by decide⟩ (fun q => ?_)
    refine j_astore h d_Law_skew_13 (Nat.lt_of_lt_of_eq (m := 5) (by decide) hN.symm) ?_
    refine j_iconst (v := 1) h d_Law_skew_15 (by decide) ?_
    exact j_iret hX d_Law_skew_16 rfl (by decide) (by decide) (Or.inr ⟨rfl, hx, rfl, rfl, rfl⟩)
  · intro V' r I' P' hq
    obtain ⟨e1, v, e2⟩ := hQ _ _ _ _ hq
    subst e1 e2
    refine j_i2l h d_Law_skew_8 ?_
    refine j_last (a := 40) (col := 99) (j := 0) h d_Law_skew_9 rfl ⟨rfl, by decide⟩ ha rfl (by rw [hl40]; decide) (by rw [hl40]; decide) ?_
    refine j_goto (tgt := 17) h d_Law_skew_10 (by decide) ?_
    refine j_iconst (v := 0) h d_Law_skew_17 (by decide) ?_
    exact j_iret hX d_Law_skew_18 rfl (by decide) (by decide) (Or.inl ⟨rfl, v, P', hq, rfl, rfl⟩)
theorem d_Law_kill_0 : decode b_Law_kill 0 = .ok (.aload_n 2, 1) := by decide +kernel
theorem d_Law_kill_1 : decode b_Law_kill 1 = .ok (.iconst 0, 1) := by decide +kernel
theorem d_Law_kill_2 : decode b_Law_kill 2 = .ok (.aload_n 0, 1) := by decide +kernel
theorem d_Law_kill_3 : decode b_Law_kill 3 = .ok (.iload_n 1, 1) := by decide +kernel
theorem d_Law_kill_4 : decode b_Law_kill 4 = .ok (.invokevirtual 19, 3) := by decide +kernel
theorem d_Law_kill_7 : decode b_Law_kill 7 = .ok (.ifCond .eq 7, 3) := by decide +kernel
theorem d_Law_kill_10 : decode b_Law_kill 10 = .ok (.lconst 1, 1) := by decide +kernel
theorem d_Law_kill_11 : decode b_Law_kill 11 = .ok (.goto 4, 3) := by decide +kernel
theorem d_Law_kill_14 : decode b_Law_kill 14 = .ok (.lconst 0, 1) := by decide +kernel
theorem d_Law_kill_15 : decode b_Law_kill 15 = .ok (.lastore, 1) := by decide +kernel
theorem d_Law_kill_16 : decode b_Law_kill 16 = .ok (.goto 6, 3) := by decide +kernel
theorem d_Law_kill_19 : decode b_Law_kill 19 = .ok (.astore_n 3, 1) := by decide +kernel
theorem d_Law_kill_20 : decode b_Law_kill 20 = .ok (.iconst 1, 1) := by decide +kernel
theorem d_Law_kill_21 : decode b_Law_kill 21 = .ok (.ireturn, 1) := by decide +kernel
theorem d_Law_kill_22 : decode b_Law_kill 22 = .ok (.iconst 0, 1) := by decide +kernel
theorem d_Law_kill_23 : decode b_Law_kill 23 = .ok (.ireturn, 1) := by decide +kernel
def md_Law_kill : Mx := (⟨R_Law, "kill", "(LLeasePair;I[J)I"⟩, b_Law_kill, 4, some .int)
theorem wk_Law_kill : Cond.codeWith md_Law_kill.1 md_Law_kill.2.1 md_Law_kill.2.2.1 md_Law_kill.2.2.2 [(0, 16, 19, 13)] ∈ WA := wa_3 (List.mem_of_getElem? (i := 102) (by decide +kernel)) (by decide +kernel)
theorem mh_Law_kill : MLh R_Law 89 md_Law_kill [(0, 16, 19, 13)] 3 := ⟨wa_3 (List.mem_of_getElem? (i := 100) (by decide +kernel)) (by decide +kernel), wit_Law, wk_Law_kill, wa_3 (List.mem_of_getElem? (i := 101) (by decide +kernel)) (by decide +kernel), by decide +kernel⟩
set_option maxRecDepth 100000 in
set_option maxHeartbeats 4000000 in
theorem c_Law_kill (l : Launch) (K : Kx) (V : Vx) (I : MI3) (P : MP) (Q : Px) (xp : Prop) (z0 : Int32) (hM : CtX l K md_LP_kill (10, 141) 1 6 [.ref (K.ad 0 0), .int z0] V I P Q xp) (hQ : ∀ V' r I' P', Q V' r I' P' → V' = V ∧ ∃ v, r = some (.int v)) (ha : V.2.1 40) (hl40 : K.alen 40 = 1) (hv : V.1 0 0) : CtH l K md_Law_kill [(0, 16, 19, 13)] (11, 164) 1 6 [.ref (K.ad 0 0), .int z0, .ref (K.aad 40)] V I P (PW V I P Q xp gz) := by
  refine cth_of [(0, .ref (K.ad 0 0)), (1, .int z0), (2, .ref (K.aad 40))] (by decide) (Nat.le_of_ble_eq_true rfl) (ca_r (ca_i (ca_r ca_n))) rfl ?_
  intro X hl hX hT
  have h : OkX X b_Law_kill R_Law K := hX.1
  have hN : X.nL = 4 := hX.2.1
  rw [← hl] at hM
  refine j_aload_n h d_Law_kill_0 rfl ?_
  refine j_iconst (v := 0) h d_Law_kill_1 (by decide) ?_
  refine j_aload_n h d_Law_kill_2 rfl ?_
  refine j_iload_n h d_Law_kill_3 rfl ?_
  refine jx_callV h hM d_Law_kill_4 ml_Law_19 mv_LP_kill hv ⟨rfl, rfl⟩ rfl rfl (Nat.le_of_ble_eq_true rfl) (hR_of hX (by decide) (by decide)) (hf_of hX (by decide) (by decide)) ?_ ?_
  · intro hx
    refine jt_catch h hT ⟨by decide, by decide⟩ (fun q => ?_)
    refine j_astore_n h d_Law_kill_19 (Nat.lt_of_lt_of_eq (m := 4) (by decide) hN.symm) ?_
    refine j_iconst (v := 1) h d_Law_kill_20 (by decide) ?_
    exact j_iret hX d_Law_kill_21 rfl (by decide) (by decide) (Or.inr ⟨rfl, hx, rfl, rfl, rfl⟩)
  · intro V' r I' P' hq
    obtain ⟨e1, v, e2⟩ := hQ _ _ _ _ hq
    subst e1 e2
    refine j_if_eq (tgt := 14) h d_Law_kill_7 (by decide) (fun c1 => ?_) (fun c1 => ?_)
    · have eg : gz v = 0 := if_pos c1
      refine j_lconst (v := 0) h d_Law_kill_14 (by decide) ?_
      refine j_last (a := 40) (col := 99) (j := 0) h d_Law_kill_15 rfl ⟨rfl, by decide⟩ ha rfl (by rw [hl40]; decide) (by rw [hl40]; decide) ?_
      refine j_goto (tgt := 22) h d_Law_kill_16 (by decide) ?_
      refine j_iconst (v := 0) h d_Law_kill_22 (by decide) ?_
      exact j_iret hX d_Law_kill_23 rfl (by decide) (by decide) (Or.inl ⟨rfl, v, P', hq, rfl, by rw [eg]⟩)
    · have eg : gz v = 1 := if_neg c1
      refine j_lconst (v := 1) h d_Law_kill_10 (by decide) ?_
      refine j_goto (tgt := 15) h d_Law_kill_11 (by decide) ?_
      refine j_last (a := 40) (col := 99) (j := 0) h d_Law_kill_15 rfl ⟨rfl, by decide⟩ ha rfl (by rw [hl40]; decide) (by rw [hl40]; decide) ?_
      refine j_goto (tgt := 22) h d_Law_kill_16 (by decide) ?_
      refine j_iconst (v := 0) h d_Law_kill_22 (by decide) ?_
      exact j_iret hX d_Law_kill_23 rfl (by decide) (by decide) (Or.inl ⟨rfl, v, P', hq, rfl, by rw [eg]⟩)
theorem d_Law_fuse_0 : decode b_Law_fuse 0 = .ok (.aload_n 0, 1) := by decide +kernel
theorem d_Law_fuse_1 : decode b_Law_fuse 1 = .ok (.iload_n 1, 1) := by decide +kernel
theorem d_Law_fuse_2 : decode b_Law_fuse 2 = .ok (.iload_n 2, 1) := by decide +kernel
theorem d_Law_fuse_3 : decode b_Law_fuse 3 = .ok (.invokevirtual 23, 3) := by decide +kernel
theorem d_Law_fuse_6 : decode b_Law_fuse 6 = .ok (.goto 6, 3) := by decide +kernel
theorem d_Law_fuse_9 : decode b_Law_fuse 9 = .ok (.astore_n 3, 1) := by decide +kernel
theorem d_Law_fuse_10 : decode b_Law_fuse 10 = .ok (.iconst 1, 1) := by decide +kernel
theorem d_Law_fuse_11 : decode b_Law_fuse 11 = .ok (.ireturn, 1) := by decide +kernel
theorem d_Law_fuse_12 : decode b_Law_fuse 12 = .ok (.iconst 0, 1) := by decide +kernel
theorem d_Law_fuse_13 : decode b_Law_fuse 13 = .ok (.ireturn, 1) := by decide +kernel
def md_Law_fuse : Mx := (⟨R_Law, "fuse", "(LLeasePair;II)I"⟩, b_Law_fuse, 4, some .int)
theorem wk_Law_fuse : Cond.codeWith md_Law_fuse.1 md_Law_fuse.2.1 md_Law_fuse.2.2.1 md_Law_fuse.2.2.2 [(0, 6, 9, 13)] ∈ WA := wa_3 (List.mem_of_getElem? (i := 110) (by decide +kernel)) (by decide +kernel)
theorem mh_Law_fuse : MLh R_Law 92 md_Law_fuse [(0, 6, 9, 13)] 3 := ⟨wa_3 (List.mem_of_getElem? (i := 108) (by decide +kernel)) (by decide +kernel), wit_Law, wk_Law_fuse, wa_3 (List.mem_of_getElem? (i := 109) (by decide +kernel)) (by decide +kernel), by decide +kernel⟩
set_option maxRecDepth 100000 in
set_option maxHeartbeats 4000000 in
theorem c_Law_fuse (l : Launch) (K : Kx) (V : Vx) (I : MI3) (P : MP) (Q : Px) (xp : Prop) (z0 z1 : Int32) (hM : CtX l K md_LP_fuse (10, 141) 2 12 [.ref (K.ad 0 0), .int z0, .int z1] V I P Q xp) (hQ : ∀ V' r I' P', Q V' r I' P' → V' = V ∧ r = none) (hv : V.1 0 0) : CtH l K md_Law_fuse [(0, 6, 9, 13)] (11, 164) 2 12 [.ref (K.ad 0 0), .int z0, .int z1] V I P (PWv V I P Q xp) := by
  refine cth_of [(0, .ref (K.ad 0 0)), (1, .int z0), (2, .int z1)] (by decide) (Nat.le_of_ble_eq_true rfl) (ca_r (ca_i (ca_i ca_n))) rfl ?_
  intro X hl hX hT
  have h : OkX X b_Law_fuse R_Law K := hX.1
  have hN : X.nL = 4 := hX.2.1
  rw [← hl] at hM
  refine j_aload_n h d_Law_fuse_0 rfl ?_
  refine j_iload_n h d_Law_fuse_1 rfl ?_
  refine j_iload_n h d_Law_fuse_2 rfl ?_
  refine jx_callV h hM d_Law_fuse_3 ml_Law_23 mv_LP_fuse hv ⟨rfl, rfl⟩ rfl rfl (Nat.le_of_ble_eq_true rfl) (hR_of hX (by decide) (by decide)) (hf_of hX (by decide) (by decide)) ?_ ?_
  · intro hx
    refine jt_catch h hT ⟨by decide, by decide⟩ (fun q => ?_)
    refine j_astore_n h d_Law_fuse_9 (Nat.lt_of_lt_of_eq (m := 4) (by decide) hN.symm) ?_
    refine j_iconst (v := 1) h d_Law_fuse_10 (by decide) ?_
    exact j_iret hX d_Law_fuse_11 rfl (by decide) (by decide) (Or.inr ⟨rfl, hx, rfl, rfl, rfl⟩)
  · intro V' r I' P' hq
    obtain ⟨e1, e2⟩ := hQ _ _ _ _ hq
    subst e1 e2
    refine j_goto (tgt := 12) h d_Law_fuse_6 (by decide) ?_
    refine j_iconst (v := 0) h d_Law_fuse_12 (by decide) ?_
    exact j_iret hX d_Law_fuse_13 rfl (by decide) (by decide) (Or.inl ⟨rfl, hq, rfl⟩)
theorem d_Law_start_0 : decode b_Law_start 0 = .ok (.aload_n 2, 1) := by decide +kernel
theorem d_Law_start_1 : decode b_Law_start 1 = .ok (.iconst 0, 1) := by decide +kernel
theorem d_Law_start_2 : decode b_Law_start 2 = .ok (.aload_n 0, 1) := by decide +kernel
theorem d_Law_start_3 : decode b_Law_start 3 = .ok (.iload_n 1, 1) := by decide +kernel
theorem d_Law_start_4 : decode b_Law_start 4 = .ok (.invokevirtual 27, 3) := by decide +kernel
theorem d_Law_start_7 : decode b_Law_start 7 = .ok (.ifCond .eq 7, 3) := by decide +kernel
theorem d_Law_start_10 : decode b_Law_start 10 = .ok (.lconst 1, 1) := by decide +kernel
theorem d_Law_start_11 : decode b_Law_start 11 = .ok (.goto 4, 3) := by decide +kernel
theorem d_Law_start_14 : decode b_Law_start 14 = .ok (.lconst 0, 1) := by decide +kernel
theorem d_Law_start_15 : decode b_Law_start 15 = .ok (.lastore, 1) := by decide +kernel
theorem d_Law_start_16 : decode b_Law_start 16 = .ok (.goto 6, 3) := by decide +kernel
theorem d_Law_start_19 : decode b_Law_start 19 = .ok (.astore_n 3, 1) := by decide +kernel
theorem d_Law_start_20 : decode b_Law_start 20 = .ok (.iconst 1, 1) := by decide +kernel
theorem d_Law_start_21 : decode b_Law_start 21 = .ok (.ireturn, 1) := by decide +kernel
theorem d_Law_start_22 : decode b_Law_start 22 = .ok (.iconst 0, 1) := by decide +kernel
theorem d_Law_start_23 : decode b_Law_start 23 = .ok (.ireturn, 1) := by decide +kernel
def md_Law_start : Mx := (⟨R_Law, "start", "(LLeasePair;I[J)I"⟩, b_Law_start, 4, some .int)
theorem wk_Law_start : Cond.codeWith md_Law_start.1 md_Law_start.2.1 md_Law_start.2.2.1 md_Law_start.2.2.2 [(0, 16, 19, 13)] ∈ WA := wa_3 (List.mem_of_getElem? (i := 117) (by decide +kernel)) (by decide +kernel)
theorem mh_Law_start : MLh R_Law 96 md_Law_start [(0, 16, 19, 13)] 3 := ⟨wa_3 (List.mem_of_getElem? (i := 115) (by decide +kernel)) (by decide +kernel), wit_Law, wk_Law_start, wa_3 (List.mem_of_getElem? (i := 116) (by decide +kernel)) (by decide +kernel), by decide +kernel⟩
set_option maxRecDepth 100000 in
set_option maxHeartbeats 4000000 in
theorem c_Law_start (l : Launch) (K : Kx) (V : Vx) (I : MI3) (P : MP) (Q : Px) (xp : Prop) (z0 : Int32) (hM : CtX l K md_LP_start (10, 141) 1 6 [.ref (K.ad 0 0), .int z0] V I P Q xp) (hQ : ∀ V' r I' P', Q V' r I' P' → V' = V ∧ ∃ v, r = some (.int v)) (ha : V.2.1 40) (hl40 : K.alen 40 = 1) (hv : V.1 0 0) : CtH l K md_Law_start [(0, 16, 19, 13)] (11, 163) 1 6 [.ref (K.ad 0 0), .int z0, .ref (K.aad 40)] V I P (PW V I P Q xp gz) := by
  refine cth_of [(0, .ref (K.ad 0 0)), (1, .int z0), (2, .ref (K.aad 40))] (by decide) (Nat.le_of_ble_eq_true rfl) (ca_r (ca_i (ca_r ca_n))) rfl ?_
  intro X hl hX hT
  have h : OkX X b_Law_start R_Law K := hX.1
  have hN : X.nL = 4 := hX.2.1
  rw [← hl] at hM
  refine j_aload_n h d_Law_start_0 rfl ?_
  refine j_iconst (v := 0) h d_Law_start_1 (by decide) ?_
  refine j_aload_n h d_Law_start_2 rfl ?_
  refine j_iload_n h d_Law_start_3 rfl ?_
  refine jx_callV h hM d_Law_start_4 ml_Law_27 mv_LP_start hv ⟨rfl, rfl⟩ rfl rfl (Nat.le_of_ble_eq_true rfl) (hR_of hX (by decide) (by decide)) (hf_of hX (by decide) (by decide)) ?_ ?_
  · intro hx
    refine jt_catch h hT ⟨by decide, by decide⟩ (fun q => ?_)
    refine j_astore_n h d_Law_start_19 (Nat.lt_of_lt_of_eq (m := 4) (by decide) hN.symm) ?_
    refine j_iconst (v := 1) h d_Law_start_20 (by decide) ?_
    exact j_iret hX d_Law_start_21 rfl (by decide) (by decide) (Or.inr ⟨rfl, hx, rfl, rfl, rfl⟩)
  · intro V' r I' P' hq
    obtain ⟨e1, v, e2⟩ := hQ _ _ _ _ hq
    subst e1 e2
    refine j_if_eq (tgt := 14) h d_Law_start_7 (by decide) (fun c1 => ?_) (fun c1 => ?_)
    · have eg : gz v = 0 := if_pos c1
      refine j_lconst (v := 0) h d_Law_start_14 (by decide) ?_
      refine j_last (a := 40) (col := 99) (j := 0) h d_Law_start_15 rfl ⟨rfl, by decide⟩ ha rfl (by rw [hl40]; decide) (by rw [hl40]; decide) ?_
      refine j_goto (tgt := 22) h d_Law_start_16 (by decide) ?_
      refine j_iconst (v := 0) h d_Law_start_22 (by decide) ?_
      exact j_iret hX d_Law_start_23 rfl (by decide) (by decide) (Or.inl ⟨rfl, v, P', hq, rfl, by rw [eg]⟩)
    · have eg : gz v = 1 := if_neg c1
      refine j_lconst (v := 1) h d_Law_start_10 (by decide) ?_
      refine j_goto (tgt := 15) h d_Law_start_11 (by decide) ?_
      refine j_last (a := 40) (col := 99) (j := 0) h d_Law_start_15 rfl ⟨rfl, by decide⟩ ha rfl (by rw [hl40]; decide) (by rw [hl40]; decide) ?_
      refine j_goto (tgt := 22) h d_Law_start_16 (by decide) ?_
      refine j_iconst (v := 0) h d_Law_start_22 (by decide) ?_
      exact j_iret hX d_Law_start_23 rfl (by decide) (by decide) (Or.inl ⟨rfl, v, P', hq, rfl, by rw [eg]⟩)
theorem d_Law_partnerDown_0 : decode b_Law_partnerDown 0 = .ok (.aload_n 2, 1) := by decide +kernel
theorem d_Law_partnerDown_1 : decode b_Law_partnerDown 1 = .ok (.iconst 0, 1) := by decide +kernel
theorem d_Law_partnerDown_2 : decode b_Law_partnerDown 2 = .ok (.aload_n 0, 1) := by decide +kernel
theorem d_Law_partnerDown_3 : decode b_Law_partnerDown 3 = .ok (.iload_n 1, 1) := by decide +kernel
theorem d_Law_partnerDown_4 : decode b_Law_partnerDown 4 = .ok (.invokevirtual 30, 3) := by decide +kernel
theorem d_Law_partnerDown_7 : decode b_Law_partnerDown 7 = .ok (.ifCond .eq 7, 3) := by decide +kernel
theorem d_Law_partnerDown_10 : decode b_Law_partnerDown 10 = .ok (.lconst 1, 1) := by decide +kernel
theorem d_Law_partnerDown_11 : decode b_Law_partnerDown 11 = .ok (.goto 4, 3) := by decide +kernel
theorem d_Law_partnerDown_14 : decode b_Law_partnerDown 14 = .ok (.lconst 0, 1) := by decide +kernel
theorem d_Law_partnerDown_15 : decode b_Law_partnerDown 15 = .ok (.lastore, 1) := by decide +kernel
theorem d_Law_partnerDown_16 : decode b_Law_partnerDown 16 = .ok (.goto 6, 3) := by decide +kernel
theorem d_Law_partnerDown_19 : decode b_Law_partnerDown 19 = .ok (.astore_n 3, 1) := by decide +kernel
theorem d_Law_partnerDown_20 : decode b_Law_partnerDown 20 = .ok (.iconst 1, 1) := by decide +kernel
theorem d_Law_partnerDown_21 : decode b_Law_partnerDown 21 = .ok (.ireturn, 1) := by decide +kernel
theorem d_Law_partnerDown_22 : decode b_Law_partnerDown 22 = .ok (.iconst 0, 1) := by decide +kernel
theorem d_Law_partnerDown_23 : decode b_Law_partnerDown 23 = .ok (.ireturn, 1) := by decide +kernel
def md_Law_partnerDown : Mx := (⟨R_Law, "partnerDown", "(LLeasePair;I[J)I"⟩, b_Law_partnerDown, 4, some .int)
theorem wk_Law_partnerDown : Cond.codeWith md_Law_partnerDown.1 md_Law_partnerDown.2.1 md_Law_partnerDown.2.2.1 md_Law_partnerDown.2.2.2 [(0, 16, 19, 13)] ∈ WA := wa_3 (List.mem_of_getElem? (i := 132) (by decide +kernel)) (by decide +kernel)
theorem mh_Law_partnerDown : MLh R_Law 99 md_Law_partnerDown [(0, 16, 19, 13)] 3 := ⟨wa_3 (List.mem_of_getElem? (i := 130) (by decide +kernel)) (by decide +kernel), wit_Law, wk_Law_partnerDown, wa_3 (List.mem_of_getElem? (i := 131) (by decide +kernel)) (by decide +kernel), by decide +kernel⟩
set_option maxRecDepth 100000 in
set_option maxHeartbeats 4000000 in
theorem c_Law_partnerDown (l : Launch) (K : Kx) (V : Vx) (I : MI3) (P : MP) (Q : Px) (xp : Prop) (z0 : Int32) (hM : CtX l K md_LP_partnerDown (10, 141) 1 6 [.ref (K.ad 0 0), .int z0] V I P Q xp) (hQ : ∀ V' r I' P', Q V' r I' P' → V' = V ∧ ∃ v, r = some (.int v)) (ha : V.2.1 40) (hl40 : K.alen 40 = 1) (hv : V.1 0 0) : CtH l K md_Law_partnerDown [(0, 16, 19, 13)] (11, 163) 1 6 [.ref (K.ad 0 0), .int z0, .ref (K.aad 40)] V I P (PW V I P Q xp gz) := by
  refine cth_of [(0, .ref (K.ad 0 0)), (1, .int z0), (2, .ref (K.aad 40))] (by decide) (Nat.le_of_ble_eq_true rfl) (ca_r (ca_i (ca_r ca_n))) rfl ?_
  intro X hl hX hT
  have h : OkX X b_Law_partnerDown R_Law K := hX.1
  have hN : X.nL = 4 := hX.2.1
  rw [← hl] at hM
  refine j_aload_n h d_Law_partnerDown_0 rfl ?_
  refine j_iconst (v := 0) h d_Law_partnerDown_1 (by decide) ?_
  refine j_aload_n h d_Law_partnerDown_2 rfl ?_
  refine j_iload_n h d_Law_partnerDown_3 rfl ?_
  refine jx_callV h hM d_Law_partnerDown_4 ml_Law_30 mv_LP_partnerDown hv ⟨rfl, rfl⟩ rfl rfl (Nat.le_of_ble_eq_true rfl) (hR_of hX (by decide) (by decide)) (hf_of hX (by decide) (by decide)) ?_ ?_
  · intro hx
    refine jt_catch h hT ⟨by decide, by decide⟩ (fun q => ?_)
    refine j_astore_n h d_Law_partnerDown_19 (Nat.lt_of_lt_of_eq (m := 4) (by decide) hN.symm) ?_
    refine j_iconst (v := 1) h d_Law_partnerDown_20 (by decide) ?_
    exact j_iret hX d_Law_partnerDown_21 rfl (by decide) (by decide) (Or.inr ⟨rfl, hx, rfl, rfl, rfl⟩)
  · intro V' r I' P' hq
    obtain ⟨e1, v, e2⟩ := hQ _ _ _ _ hq
    subst e1 e2
    refine j_if_eq (tgt := 14) h d_Law_partnerDown_7 (by decide) (fun c1 => ?_) (fun c1 => ?_)
    · have eg : gz v = 0 := if_pos c1
      refine j_lconst (v := 0) h d_Law_partnerDown_14 (by decide) ?_
      refine j_last (a := 40) (col := 99) (j := 0) h d_Law_partnerDown_15 rfl ⟨rfl, by decide⟩ ha rfl (by rw [hl40]; decide) (by rw [hl40]; decide) ?_
      refine j_goto (tgt := 22) h d_Law_partnerDown_16 (by decide) ?_
      refine j_iconst (v := 0) h d_Law_partnerDown_22 (by decide) ?_
      exact j_iret hX d_Law_partnerDown_23 rfl (by decide) (by decide) (Or.inl ⟨rfl, v, P', hq, rfl, by rw [eg]⟩)
    · have eg : gz v = 1 := if_neg c1
      refine j_lconst (v := 1) h d_Law_partnerDown_10 (by decide) ?_
      refine j_goto (tgt := 15) h d_Law_partnerDown_11 (by decide) ?_
      refine j_last (a := 40) (col := 99) (j := 0) h d_Law_partnerDown_15 rfl ⟨rfl, by decide⟩ ha rfl (by rw [hl40]; decide) (by rw [hl40]; decide) ?_
      refine j_goto (tgt := 22) h d_Law_partnerDown_16 (by decide) ?_
      refine j_iconst (v := 0) h d_Law_partnerDown_22 (by decide) ?_
      exact j_iret hX d_Law_partnerDown_23 rfl (by decide) (by decide) (Or.inl ⟨rfl, v, P', hq, rfl, by rw [eg]⟩)
theorem d_Law_ask_0 : decode b_Law_ask 0 = .ok (.aload 6, 2) := by decide +kernel
theorem d_Law_ask_2 : decode b_Law_ask 2 = .ok (.iconst 0, 1) := by decide +kernel
theorem d_Law_ask_3 : decode b_Law_ask 3 = .ok (.aload_n 0, 1) := by decide +kernel
theorem d_Law_ask_4 : decode b_Law_ask 4 = .ok (.iload_n 1, 1) := by decide +kernel
theorem d_Law_ask_5 : decode b_Law_ask 5 = .ok (.iload_n 2, 1) := by decide +kernel
theorem d_Law_ask_6 : decode b_Law_ask 6 = .ok (.iload_n 3, 1) := by decide +kernel
theorem d_Law_ask_7 : decode b_Law_ask 7 = .ok (.iload 4, 2) := by decide +kernel
theorem d_Law_ask_9 : decode b_Law_ask 9 = .ok (.iload 5, 2) := by decide +kernel
theorem d_Law_ask_11 : decode b_Law_ask 11 = .ok (.invokevirtual 33, 3) := by decide +kernel
theorem d_Law_ask_14 : decode b_Law_ask 14 = .ok (.i2l, 1) := by decide +kernel
theorem d_Law_ask_15 : decode b_Law_ask 15 = .ok (.lastore, 1) := by decide +kernel
theorem d_Law_ask_16 : decode b_Law_ask 16 = .ok (.goto 7, 3) := by decide +kernel
theorem d_Law_ask_19 : decode b_Law_ask 19 = .ok (.astore 7, 2) := by decide +kernel
theorem d_Law_ask_21 : decode b_Law_ask 21 = .ok (.iconst 1, 1) := by decide +kernel
theorem d_Law_ask_22 : decode b_Law_ask 22 = .ok (.ireturn, 1) := by decide +kernel
theorem d_Law_ask_23 : decode b_Law_ask 23 = .ok (.iconst 0, 1) := by decide +kernel
theorem d_Law_ask_24 : decode b_Law_ask 24 = .ok (.ireturn, 1) := by decide +kernel
def md_Law_ask : Mx := (⟨R_Law, "ask", "(LLeasePair;IIIII[J)I"⟩, b_Law_ask, 8, some .int)
theorem wk_Law_ask : Cond.codeWith md_Law_ask.1 md_Law_ask.2.1 md_Law_ask.2.2.1 md_Law_ask.2.2.2 [(0, 16, 19, 13)] ∈ WA := wa_3 (List.mem_of_getElem? (i := 143) (by decide +kernel)) (by decide +kernel)
theorem mh_Law_ask : MLh R_Law 102 md_Law_ask [(0, 16, 19, 13)] 7 := ⟨wa_3 (List.mem_of_getElem? (i := 141) (by decide +kernel)) (by decide +kernel), wit_Law, wk_Law_ask, wa_3 (List.mem_of_getElem? (i := 142) (by decide +kernel)) (by decide +kernel), by decide +kernel⟩
set_option maxRecDepth 100000 in
set_option maxHeartbeats 4000000 in
theorem c_Law_ask (l : Launch) (K : Kx) (V : Vx) (I : MI3) (P : MP) (Q : Px) (xp : Prop) (z0 z1 z2 z3 z4 : Int32) (hM : CtX l K md_LP_ask (10, 141) 5 30 [.ref (K.ad 0 0), .int z0, .int z1, .int z2, .int z3, .int z4] V I P Q xp) (hQ : ∀ V' r I' P', Q V' r I' P' → V' = V ∧ ∃ v, r = some (.int v)) (ha : V.2.1 40) (hl40 : K.alen 40 = 1) (hv : V.1 0 0) : CtH l K md_Law_ask [(0, 16, 19, 13)] (11, 168) 5 30 [.ref (K.ad 0 0), .int z0, .int z1, .int z2, .int z3, .int z4, .ref (K.aad 40)] V I P (PW V I P Q xp gi) := by
  refine cth_of [(0, .ref (K.ad 0 0)), (1, .int z0), (2, .int z1), (3, .int z2), (4, .int z3), (5, .int z4), (6, .ref (K.aad 40))] (by decide) (Nat.le_of_ble_eq_true rfl) (ca_r (ca_i (ca_i (ca_i (ca_i (ca_i (ca_r ca_n))))))) rfl ?_
  intro X hl hX hT
  have h : OkX X b_Law_ask R_Law K := hX.1
  have hN : X.nL = 8 := hX.2.1
  rw [← hl] at hM
  refine j_aload h d_Law_ask_0 rfl ?_
  refine j_iconst (v := 0) h d_Law_ask_2 (by decide) ?_
  refine j_aload_n h d_Law_ask_3 rfl ?_
  refine j_iload_n h d_Law_ask_4 rfl ?_
  refine j_iload_n h d_Law_ask_5 rfl ?_
  refine j_iload_n h d_Law_ask_6 rfl ?_
  refine j_iload h d_Law_ask_7 rfl ?_
  refine j_iload h d_Law_ask_9 rfl ?_
  refine jx_callV h hM d_Law_ask_11 ml_Law_33 mv_LP_ask hv ⟨rfl, rfl⟩ rfl rfl (Nat.le_of_ble_eq_true rfl) (hR_of hX (by decide) (by decide)) (hf_of hX (by decide) (by decide)) ?_ ?_
  · intro hx
    refine jt_catch h hT ⟨by decide, by decide⟩ (fun q => ?_)
    refine j_astore h d_Law_ask_19 (Nat.lt_of_lt_of_eq (m := 8) (by decide) hN.symm) ?_
    refine j_iconst (v := 1) h d_Law_ask_21 (by decide) ?_
    exact j_iret hX d_Law_ask_22 rfl (by decide) (by decide) (Or.inr ⟨rfl, hx, rfl, rfl, rfl⟩)
  · intro V' r I' P' hq
    obtain ⟨e1, v, e2⟩ := hQ _ _ _ _ hq
    subst e1 e2
    refine j_i2l h d_Law_ask_14 ?_
    refine j_last (a := 40) (col := 99) (j := 0) h d_Law_ask_15 rfl ⟨rfl, by decide⟩ ha rfl (by rw [hl40]; decide) (by rw [hl40]; decide) ?_
    refine j_goto (tgt := 23) h d_Law_ask_16 (by decide) ?_
    refine j_iconst (v := 0) h d_Law_ask_23 (by decide) ?_
    exact j_iret hX d_Law_ask_24 rfl (by decide) (by decide) (Or.inl ⟨rfl, v, P', hq, rfl, rfl⟩)
theorem d_Law_send_0 : decode b_Law_send 0 = .ok (.aload_n 2, 1) := by decide +kernel
theorem d_Law_send_1 : decode b_Law_send 1 = .ok (.iconst 0, 1) := by decide +kernel
theorem d_Law_send_2 : decode b_Law_send 2 = .ok (.aload_n 0, 1) := by decide +kernel
theorem d_Law_send_3 : decode b_Law_send 3 = .ok (.iload_n 1, 1) := by decide +kernel
theorem d_Law_send_4 : decode b_Law_send 4 = .ok (.invokevirtual 37, 3) := by decide +kernel
theorem d_Law_send_7 : decode b_Law_send 7 = .ok (.i2l, 1) := by decide +kernel
theorem d_Law_send_8 : decode b_Law_send 8 = .ok (.lastore, 1) := by decide +kernel
theorem d_Law_send_9 : decode b_Law_send 9 = .ok (.goto 6, 3) := by decide +kernel
theorem d_Law_send_12 : decode b_Law_send 12 = .ok (.astore_n 3, 1) := by decide +kernel
theorem d_Law_send_13 : decode b_Law_send 13 = .ok (.iconst 1, 1) := by decide +kernel
theorem d_Law_send_14 : decode b_Law_send 14 = .ok (.ireturn, 1) := by decide +kernel
theorem d_Law_send_15 : decode b_Law_send 15 = .ok (.iconst 0, 1) := by decide +kernel
theorem d_Law_send_16 : decode b_Law_send 16 = .ok (.ireturn, 1) := by decide +kernel
def md_Law_send : Mx := (⟨R_Law, "send", "(LLeasePair;I[J)I"⟩, b_Law_send, 4, some .int)
theorem wk_Law_send : Cond.codeWith md_Law_send.1 md_Law_send.2.1 md_Law_send.2.2.1 md_Law_send.2.2.2 [(0, 9, 12, 13)] ∈ WA := wa_3 (List.mem_of_getElem? (i := 160) (by decide +kernel)) (by decide +kernel)
theorem mh_Law_send : MLh R_Law 106 md_Law_send [(0, 9, 12, 13)] 3 := ⟨wa_3 (List.mem_of_getElem? (i := 158) (by decide +kernel)) (by decide +kernel), wit_Law, wk_Law_send, wa_3 (List.mem_of_getElem? (i := 159) (by decide +kernel)) (by decide +kernel), by decide +kernel⟩
set_option maxRecDepth 100000 in
set_option maxHeartbeats 4000000 in
theorem c_Law_send (l : Launch) (K : Kx) (V : Vx) (I : MI3) (P : MP) (Q : Px) (xp : Prop) (z0 : Int32) (hM : CtX l K md_LP_send (10, 141) 1 6 [.ref (K.ad 0 0), .int z0] V I P Q xp) (hQ : ∀ V' r I' P', Q V' r I' P' → V' = V ∧ ∃ v, r = some (.int v)) (ha : V.2.1 40) (hl40 : K.alen 40 = 1) (hv : V.1 0 0) : CtH l K md_Law_send [(0, 9, 12, 13)] (11, 163) 1 6 [.ref (K.ad 0 0), .int z0, .ref (K.aad 40)] V I P (PW V I P Q xp gi) := by
  refine cth_of [(0, .ref (K.ad 0 0)), (1, .int z0), (2, .ref (K.aad 40))] (by decide) (Nat.le_of_ble_eq_true rfl) (ca_r (ca_i (ca_r ca_n))) rfl ?_
  intro X hl hX hT
  have h : OkX X b_Law_send R_Law K := hX.1
  have hN : X.nL = 4 := hX.2.1
  rw [← hl] at hM
  refine j_aload_n h d_Law_send_0 rfl ?_
  refine j_iconst (v := 0) h d_Law_send_1 (by decide) ?_
  refine j_aload_n h d_Law_send_2 rfl ?_
  refine j_iload_n h d_Law_send_3 rfl ?_
  refine jx_callV h hM d_Law_send_4 ml_Law_37 mv_LP_send hv ⟨rfl, rfl⟩ rfl rfl (Nat.le_of_ble_eq_true rfl) (hR_of hX (by decide) (by decide)) (hf_of hX (by decide) (by decide)) ?_ ?_
  · intro hx
    refine jt_catch h hT ⟨by decide, by decide⟩ (fun q => ?_)
    refine j_astore_n h d_Law_send_12 (Nat.lt_of_lt_of_eq (m := 4) (by decide) hN.symm) ?_
    refine j_iconst (v := 1) h d_Law_send_13 (by decide) ?_
    exact j_iret hX d_Law_send_14 rfl (by decide) (by decide) (Or.inr ⟨rfl, hx, rfl, rfl, rfl⟩)
  · intro V' r I' P' hq
    obtain ⟨e1, v, e2⟩ := hQ _ _ _ _ hq
    subst e1 e2
    refine j_i2l h d_Law_send_7 ?_
    refine j_last (a := 40) (col := 99) (j := 0) h d_Law_send_8 rfl ⟨rfl, by decide⟩ ha rfl (by rw [hl40]; decide) (by rw [hl40]; decide) ?_
    refine j_goto (tgt := 15) h d_Law_send_9 (by decide) ?_
    refine j_iconst (v := 0) h d_Law_send_15 (by decide) ?_
    exact j_iret hX d_Law_send_16 rfl (by decide) (by decide) (Or.inl ⟨rfl, v, P', hq, rfl, rfl⟩)
theorem d_Law_tidy_0 : decode b_Law_tidy 0 = .ok (.aload_n 2, 1) := by decide +kernel
theorem d_Law_tidy_1 : decode b_Law_tidy 1 = .ok (.iconst 0, 1) := by decide +kernel
theorem d_Law_tidy_2 : decode b_Law_tidy 2 = .ok (.aload_n 0, 1) := by decide +kernel
theorem d_Law_tidy_3 : decode b_Law_tidy 3 = .ok (.iload_n 1, 1) := by decide +kernel
theorem d_Law_tidy_4 : decode b_Law_tidy 4 = .ok (.invokevirtual 40, 3) := by decide +kernel
theorem d_Law_tidy_7 : decode b_Law_tidy 7 = .ok (.i2l, 1) := by decide +kernel
theorem d_Law_tidy_8 : decode b_Law_tidy 8 = .ok (.lastore, 1) := by decide +kernel
theorem d_Law_tidy_9 : decode b_Law_tidy 9 = .ok (.goto 6, 3) := by decide +kernel
theorem d_Law_tidy_12 : decode b_Law_tidy 12 = .ok (.astore_n 3, 1) := by decide +kernel
theorem d_Law_tidy_13 : decode b_Law_tidy 13 = .ok (.iconst 1, 1) := by decide +kernel
theorem d_Law_tidy_14 : decode b_Law_tidy 14 = .ok (.ireturn, 1) := by decide +kernel
theorem d_Law_tidy_15 : decode b_Law_tidy 15 = .ok (.iconst 0, 1) := by decide +kernel
theorem d_Law_tidy_16 : decode b_Law_tidy 16 = .ok (.ireturn, 1) := by decide +kernel
def md_Law_tidy : Mx := (⟨R_Law, "tidy", "(LLeasePair;I[J)I"⟩, b_Law_tidy, 4, some .int)
theorem wk_Law_tidy : Cond.codeWith md_Law_tidy.1 md_Law_tidy.2.1 md_Law_tidy.2.2.1 md_Law_tidy.2.2.2 [(0, 9, 12, 13)] ∈ WA := wa_3 (List.mem_of_getElem? (i := 172) (by decide +kernel)) (by decide +kernel)
theorem mh_Law_tidy : MLh R_Law 109 md_Law_tidy [(0, 9, 12, 13)] 3 := ⟨wa_3 (List.mem_of_getElem? (i := 170) (by decide +kernel)) (by decide +kernel), wit_Law, wk_Law_tidy, wa_3 (List.mem_of_getElem? (i := 171) (by decide +kernel)) (by decide +kernel), by decide +kernel⟩
set_option maxRecDepth 100000 in
set_option maxHeartbeats 4000000 in
theorem c_Law_tidy (l : Launch) (K : Kx) (V : Vx) (I : MI3) (P : MP) (Q : Px) (xp : Prop) (z0 : Int32) (hM : CtX l K md_LP_tidy (10, 141) 1 6 [.ref (K.ad 0 0), .int z0] V I P Q xp) (hQ : ∀ V' r I' P', Q V' r I' P' → V' = V ∧ ∃ v, r = some (.int v)) (ha : V.2.1 40) (hl40 : K.alen 40 = 1) (hv : V.1 0 0) : CtH l K md_Law_tidy [(0, 9, 12, 13)] (11, 163) 1 6 [.ref (K.ad 0 0), .int z0, .ref (K.aad 40)] V I P (PW V I P Q xp gi) := by
  refine cth_of [(0, .ref (K.ad 0 0)), (1, .int z0), (2, .ref (K.aad 40))] (by decide) (Nat.le_of_ble_eq_true rfl) (ca_r (ca_i (ca_r ca_n))) rfl ?_
  intro X hl hX hT
  have h : OkX X b_Law_tidy R_Law K := hX.1
  have hN : X.nL = 4 := hX.2.1
  rw [← hl] at hM
  refine j_aload_n h d_Law_tidy_0 rfl ?_
  refine j_iconst (v := 0) h d_Law_tidy_1 (by decide) ?_
  refine j_aload_n h d_Law_tidy_2 rfl ?_
  refine j_iload_n h d_Law_tidy_3 rfl ?_
  refine jx_callV h hM d_Law_tidy_4 ml_Law_40 mv_LP_tidy hv ⟨rfl, rfl⟩ rfl rfl (Nat.le_of_ble_eq_true rfl) (hR_of hX (by decide) (by decide)) (hf_of hX (by decide) (by decide)) ?_ ?_
  · intro hx
    refine jt_catch h hT ⟨by decide, by decide⟩ (fun q => ?_)
    refine j_astore_n h d_Law_tidy_12 (Nat.lt_of_lt_of_eq (m := 4) (by decide) hN.symm) ?_
    refine j_iconst (v := 1) h d_Law_tidy_13 (by decide) ?_
    exact j_iret hX d_Law_tidy_14 rfl (by decide) (by decide) (Or.inr ⟨rfl, hx, rfl, rfl, rfl⟩)
  · intro V' r I' P' hq
    obtain ⟨e1, v, e2⟩ := hQ _ _ _ _ hq
    subst e1 e2
    refine j_i2l h d_Law_tidy_7 ?_
    refine j_last (a := 40) (col := 99) (j := 0) h d_Law_tidy_8 rfl ⟨rfl, by decide⟩ ha rfl (by rw [hl40]; decide) (by rw [hl40]; decide) ?_
    refine j_goto (tgt := 15) h d_Law_tidy_9 (by decide) ?_
    refine j_iconst (v := 0) h d_Law_tidy_15 (by decide) ?_
    exact j_iret hX d_Law_tidy_16 rfl (by decide) (by decide) (Or.inl ⟨rfl, v, P', hq, rfl, rfl⟩)
theorem d_Law_give_0 : decode b_Law_give 0 = .ok (.aload_n 3, 1) := by decide +kernel
theorem d_Law_give_1 : decode b_Law_give 1 = .ok (.iconst 0, 1) := by decide +kernel
theorem d_Law_give_2 : decode b_Law_give 2 = .ok (.aload_n 0, 1) := by decide +kernel
theorem d_Law_give_3 : decode b_Law_give 3 = .ok (.iload_n 1, 1) := by decide +kernel
theorem d_Law_give_4 : decode b_Law_give 4 = .ok (.iload_n 2, 1) := by decide +kernel
theorem d_Law_give_5 : decode b_Law_give 5 = .ok (.invokevirtual 43, 3) := by decide +kernel
theorem d_Law_give_8 : decode b_Law_give 8 = .ok (.i2l, 1) := by decide +kernel
theorem d_Law_give_9 : decode b_Law_give 9 = .ok (.lastore, 1) := by decide +kernel
theorem d_Law_give_10 : decode b_Law_give 10 = .ok (.goto 7, 3) := by decide +kernel
theorem d_Law_give_13 : decode b_Law_give 13 = .ok (.astore 4, 2) := by decide +kernel
theorem d_Law_give_15 : decode b_Law_give 15 = .ok (.iconst 1, 1) := by decide +kernel
theorem d_Law_give_16 : decode b_Law_give 16 = .ok (.ireturn, 1) := by decide +kernel
theorem d_Law_give_17 : decode b_Law_give 17 = .ok (.iconst 0, 1) := by decide +kernel
theorem d_Law_give_18 : decode b_Law_give 18 = .ok (.ireturn, 1) := by decide +kernel
def md_Law_give : Mx := (⟨R_Law, "give", "(LLeasePair;II[J)I"⟩, b_Law_give, 5, some .int)
theorem wk_Law_give : Cond.codeWith md_Law_give.1 md_Law_give.2.1 md_Law_give.2.2.1 md_Law_give.2.2.2 [(0, 10, 13, 13)] ∈ WA := wa_3 (List.mem_of_getElem? (i := 200) (by decide +kernel)) (by decide +kernel)
theorem mh_Law_give : MLh R_Law 112 md_Law_give [(0, 10, 13, 13)] 4 := ⟨wa_3 (List.mem_of_getElem? (i := 198) (by decide +kernel)) (by decide +kernel), wit_Law, wk_Law_give, wa_3 (List.mem_of_getElem? (i := 199) (by decide +kernel)) (by decide +kernel), by decide +kernel⟩
set_option maxRecDepth 100000 in
set_option maxHeartbeats 4000000 in
theorem c_Law_give (l : Launch) (K : Kx) (V : Vx) (I : MI3) (P : MP) (Q : Px) (xp : Prop) (z0 z1 : Int32) (hM : CtX l K md_LP_give (10, 141) 2 12 [.ref (K.ad 0 0), .int z0, .int z1] V I P Q xp) (hQ : ∀ V' r I' P', Q V' r I' P' → V' = V ∧ ∃ v, r = some (.int v)) (ha : V.2.1 40) (hl40 : K.alen 40 = 1) (hv : V.1 0 0) : CtH l K md_Law_give [(0, 10, 13, 13)] (11, 164) 2 12 [.ref (K.ad 0 0), .int z0, .int z1, .ref (K.aad 40)] V I P (PW V I P Q xp gi) := by
  refine cth_of [(0, .ref (K.ad 0 0)), (1, .int z0), (2, .int z1), (3, .ref (K.aad 40))] (by decide) (Nat.le_of_ble_eq_true rfl) (ca_r (ca_i (ca_i (ca_r ca_n)))) rfl ?_
  intro X hl hX hT
  have h : OkX X b_Law_give R_Law K := hX.1
  have hN : X.nL = 5 := hX.2.1
  rw [← hl] at hM
  refine j_aload_n h d_Law_give_0 rfl ?_
  refine j_iconst (v := 0) h d_Law_give_1 (by decide) ?_
  refine j_aload_n h d_Law_give_2 rfl ?_
  refine j_iload_n h d_Law_give_3 rfl ?_
  refine j_iload_n h d_Law_give_4 rfl ?_
  refine jx_callV h hM d_Law_give_5 ml_Law_43 mv_LP_give hv ⟨rfl, rfl⟩ rfl rfl (Nat.le_of_ble_eq_true rfl) (hR_of hX (by decide) (by decide)) (hf_of hX (by decide) (by decide)) ?_ ?_
  · intro hx
    refine jt_catch h hT ⟨by decide, by decide⟩ (fun q => ?_)
    refine j_astore h d_Law_give_13 (Nat.lt_of_lt_of_eq (m := 5) (by decide) hN.symm) ?_
    refine j_iconst (v := 1) h d_Law_give_15 (by decide) ?_
    exact j_iret hX d_Law_give_16 rfl (by decide) (by decide) (Or.inr ⟨rfl, hx, rfl, rfl, rfl⟩)
  · intro V' r I' P' hq
    obtain ⟨e1, v, e2⟩ := hQ _ _ _ _ hq
    subst e1 e2
    refine j_i2l h d_Law_give_8 ?_
    refine j_last (a := 40) (col := 99) (j := 0) h d_Law_give_9 rfl ⟨rfl, by decide⟩ ha rfl (by rw [hl40]; decide) (by rw [hl40]; decide) ?_
    refine j_goto (tgt := 17) h d_Law_give_10 (by decide) ?_
    refine j_iconst (v := 0) h d_Law_give_17 (by decide) ?_
    exact j_iret hX d_Law_give_18 rfl (by decide) (by decide) (Or.inl ⟨rfl, v, P', hq, rfl, rfl⟩)
theorem d_Law_carry_0 : decode b_Law_carry 0 = .ok (.aload_n 2, 1) := by decide +kernel
theorem d_Law_carry_1 : decode b_Law_carry 1 = .ok (.iconst 0, 1) := by decide +kernel
theorem d_Law_carry_2 : decode b_Law_carry 2 = .ok (.aload_n 0, 1) := by decide +kernel
theorem d_Law_carry_3 : decode b_Law_carry 3 = .ok (.iload_n 1, 1) := by decide +kernel
theorem d_Law_carry_4 : decode b_Law_carry 4 = .ok (.invokevirtual 46, 3) := by decide +kernel
theorem d_Law_carry_7 : decode b_Law_carry 7 = .ok (.ifCond .eq 7, 3) := by decide +kernel
theorem d_Law_carry_10 : decode b_Law_carry 10 = .ok (.lconst 1, 1) := by decide +kernel
theorem d_Law_carry_11 : decode b_Law_carry 11 = .ok (.goto 4, 3) := by decide +kernel
theorem d_Law_carry_14 : decode b_Law_carry 14 = .ok (.lconst 0, 1) := by decide +kernel
theorem d_Law_carry_15 : decode b_Law_carry 15 = .ok (.lastore, 1) := by decide +kernel
theorem d_Law_carry_16 : decode b_Law_carry 16 = .ok (.goto 6, 3) := by decide +kernel
theorem d_Law_carry_19 : decode b_Law_carry 19 = .ok (.astore_n 3, 1) := by decide +kernel
theorem d_Law_carry_20 : decode b_Law_carry 20 = .ok (.iconst 1, 1) := by decide +kernel
theorem d_Law_carry_21 : decode b_Law_carry 21 = .ok (.ireturn, 1) := by decide +kernel
theorem d_Law_carry_22 : decode b_Law_carry 22 = .ok (.iconst 0, 1) := by decide +kernel
theorem d_Law_carry_23 : decode b_Law_carry 23 = .ok (.ireturn, 1) := by decide +kernel
def md_Law_carry : Mx := (⟨R_Law, "carry", "(LLeasePair;I[J)I"⟩, b_Law_carry, 4, some .int)
theorem wk_Law_carry : Cond.codeWith md_Law_carry.1 md_Law_carry.2.1 md_Law_carry.2.2.1 md_Law_carry.2.2.2 [(0, 16, 19, 13)] ∈ WA := wa_3 (List.mem_of_getElem? (i := 211) (by decide +kernel)) (by decide +kernel)
theorem mh_Law_carry : MLh R_Law 115 md_Law_carry [(0, 16, 19, 13)] 3 := ⟨wa_3 (List.mem_of_getElem? (i := 209) (by decide +kernel)) (by decide +kernel), wit_Law, wk_Law_carry, wa_3 (List.mem_of_getElem? (i := 210) (by decide +kernel)) (by decide +kernel), by decide +kernel⟩
set_option maxRecDepth 100000 in
set_option maxHeartbeats 4000000 in
theorem c_Law_carry (l : Launch) (K : Kx) (V : Vx) (I : MI3) (P : MP) (Q : Px) (xp : Prop) (z0 : Int32) (hM : CtX l K md_LP_carry (9, 141) 1 6 [.ref (K.ad 0 0), .int z0] V I P Q xp) (hQ : ∀ V' r I' P', Q V' r I' P' → V' = V ∧ ∃ v, r = some (.int v)) (ha : V.2.1 40) (hl40 : K.alen 40 = 1) (hv : V.1 0 0) : CtH l K md_Law_carry [(0, 16, 19, 13)] (10, 162) 1 6 [.ref (K.ad 0 0), .int z0, .ref (K.aad 40)] V I P (PW V I P Q xp gz) := by
  refine cth_of [(0, .ref (K.ad 0 0)), (1, .int z0), (2, .ref (K.aad 40))] (by decide) (Nat.le_of_ble_eq_true rfl) (ca_r (ca_i (ca_r ca_n))) rfl ?_
  intro X hl hX hT
  have h : OkX X b_Law_carry R_Law K := hX.1
  have hN : X.nL = 4 := hX.2.1
  rw [← hl] at hM
  refine j_aload_n h d_Law_carry_0 rfl ?_
  refine j_iconst (v := 0) h d_Law_carry_1 (by decide) ?_
  refine j_aload_n h d_Law_carry_2 rfl ?_
  refine j_iload_n h d_Law_carry_3 rfl ?_
  refine jx_callV h hM d_Law_carry_4 ml_Law_46 mv_LP_carry hv ⟨rfl, rfl⟩ rfl rfl (Nat.le_of_ble_eq_true rfl) (hR_of hX (by decide) (by decide)) (hf_of hX (by decide) (by decide)) ?_ ?_
  · intro hx
    refine jt_catch h hT ⟨by decide, by decide⟩ (fun q => ?_)
    refine j_astore_n h d_Law_carry_19 (Nat.lt_of_lt_of_eq (m := 4) (by decide) hN.symm) ?_
    refine j_iconst (v := 1) h d_Law_carry_20 (by decide) ?_
    exact j_iret hX d_Law_carry_21 rfl (by decide) (by decide) (Or.inr ⟨rfl, hx, rfl, rfl, rfl⟩)
  · intro V' r I' P' hq
    obtain ⟨e1, v, e2⟩ := hQ _ _ _ _ hq
    subst e1 e2
    refine j_if_eq (tgt := 14) h d_Law_carry_7 (by decide) (fun c1 => ?_) (fun c1 => ?_)
    · have eg : gz v = 0 := if_pos c1
      refine j_lconst (v := 0) h d_Law_carry_14 (by decide) ?_
      refine j_last (a := 40) (col := 99) (j := 0) h d_Law_carry_15 rfl ⟨rfl, by decide⟩ ha rfl (by rw [hl40]; decide) (by rw [hl40]; decide) ?_
      refine j_goto (tgt := 22) h d_Law_carry_16 (by decide) ?_
      refine j_iconst (v := 0) h d_Law_carry_22 (by decide) ?_
      exact j_iret hX d_Law_carry_23 rfl (by decide) (by decide) (Or.inl ⟨rfl, v, P', hq, rfl, by rw [eg]⟩)
    · have eg : gz v = 1 := if_neg c1
      refine j_lconst (v := 1) h d_Law_carry_10 (by decide) ?_
      refine j_goto (tgt := 15) h d_Law_carry_11 (by decide) ?_
      refine j_last (a := 40) (col := 99) (j := 0) h d_Law_carry_15 rfl ⟨rfl, by decide⟩ ha rfl (by rw [hl40]; decide) (by rw [hl40]; decide) ?_
      refine j_goto (tgt := 22) h d_Law_carry_16 (by decide) ?_
      refine j_iconst (v := 0) h d_Law_carry_22 (by decide) ?_
      exact j_iret hX d_Law_carry_23 rfl (by decide) (by decide) (Or.inl ⟨rfl, v, P', hq, rfl, by rw [eg]⟩)
theorem d_Law_drop_0 : decode b_Law_drop 0 = .ok (.aload_n 2, 1) := by decide +kernel
theorem d_Law_drop_1 : decode b_Law_drop 1 = .ok (.iconst 0, 1) := by decide +kernel
theorem d_Law_drop_2 : decode b_Law_drop 2 = .ok (.aload_n 0, 1) := by decide +kernel
theorem d_Law_drop_3 : decode b_Law_drop 3 = .ok (.iload_n 1, 1) := by decide +kernel
theorem d_Law_drop_4 : decode b_Law_drop 4 = .ok (.invokevirtual 49, 3) := by decide +kernel
theorem d_Law_drop_7 : decode b_Law_drop 7 = .ok (.i2l, 1) := by decide +kernel
theorem d_Law_drop_8 : decode b_Law_drop 8 = .ok (.lastore, 1) := by decide +kernel
theorem d_Law_drop_9 : decode b_Law_drop 9 = .ok (.goto 6, 3) := by decide +kernel
theorem d_Law_drop_12 : decode b_Law_drop 12 = .ok (.astore_n 3, 1) := by decide +kernel
theorem d_Law_drop_13 : decode b_Law_drop 13 = .ok (.iconst 1, 1) := by decide +kernel
theorem d_Law_drop_14 : decode b_Law_drop 14 = .ok (.ireturn, 1) := by decide +kernel
theorem d_Law_drop_15 : decode b_Law_drop 15 = .ok (.iconst 0, 1) := by decide +kernel
theorem d_Law_drop_16 : decode b_Law_drop 16 = .ok (.ireturn, 1) := by decide +kernel
def md_Law_drop : Mx := (⟨R_Law, "drop", "(LLeasePair;I[J)I"⟩, b_Law_drop, 4, some .int)
theorem wk_Law_drop : Cond.codeWith md_Law_drop.1 md_Law_drop.2.1 md_Law_drop.2.2.1 md_Law_drop.2.2.2 [(0, 9, 12, 13)] ∈ WA := wa_3 (List.mem_of_getElem? (i := 228) (by decide +kernel)) (by decide +kernel)
theorem mh_Law_drop : MLh R_Law 122 md_Law_drop [(0, 9, 12, 13)] 3 := ⟨wa_3 (List.mem_of_getElem? (i := 226) (by decide +kernel)) (by decide +kernel), wit_Law, wk_Law_drop, wa_3 (List.mem_of_getElem? (i := 227) (by decide +kernel)) (by decide +kernel), by decide +kernel⟩
set_option maxRecDepth 100000 in
set_option maxHeartbeats 4000000 in
theorem c_Law_drop (l : Launch) (K : Kx) (V : Vx) (I : MI3) (P : MP) (Q : Px) (xp : Prop) (z0 : Int32) (hM : CtX l K md_LP_drop (10, 141) 1 6 [.ref (K.ad 0 0), .int z0] V I P Q xp) (hQ : ∀ V' r I' P', Q V' r I' P' → V' = V ∧ ∃ v, r = some (.int v)) (ha : V.2.1 40) (hl40 : K.alen 40 = 1) (hv : V.1 0 0) : CtH l K md_Law_drop [(0, 9, 12, 13)] (11, 162) 1 6 [.ref (K.ad 0 0), .int z0, .ref (K.aad 40)] V I P (PW V I P Q xp gi) := by
  refine cth_of [(0, .ref (K.ad 0 0)), (1, .int z0), (2, .ref (K.aad 40))] (by decide) (Nat.le_of_ble_eq_true rfl) (ca_r (ca_i (ca_r ca_n))) rfl ?_
  intro X hl hX hT
  have h : OkX X b_Law_drop R_Law K := hX.1
  have hN : X.nL = 4 := hX.2.1
  rw [← hl] at hM
  refine j_aload_n h d_Law_drop_0 rfl ?_
  refine j_iconst (v := 0) h d_Law_drop_1 (by decide) ?_
  refine j_aload_n h d_Law_drop_2 rfl ?_
  refine j_iload_n h d_Law_drop_3 rfl ?_
  refine jx_callV h hM d_Law_drop_4 ml_Law_49 mv_LP_drop hv ⟨rfl, rfl⟩ rfl rfl (Nat.le_of_ble_eq_true rfl) (hR_of hX (by decide) (by decide)) (hf_of hX (by decide) (by decide)) ?_ ?_
  · intro hx
    refine jt_catch h hT ⟨by decide, by decide⟩ (fun q => ?_)
    refine j_astore_n h d_Law_drop_12 (Nat.lt_of_lt_of_eq (m := 4) (by decide) hN.symm) ?_
    refine j_iconst (v := 1) h d_Law_drop_13 (by decide) ?_
    exact j_iret hX d_Law_drop_14 rfl (by decide) (by decide) (Or.inr ⟨rfl, hx, rfl, rfl, rfl⟩)
  · intro V' r I' P' hq
    obtain ⟨e1, v, e2⟩ := hQ _ _ _ _ hq
    subst e1 e2
    refine j_i2l h d_Law_drop_7 ?_
    refine j_last (a := 40) (col := 99) (j := 0) h d_Law_drop_8 rfl ⟨rfl, by decide⟩ ha rfl (by rw [hl40]; decide) (by rw [hl40]; decide) ?_
    refine j_goto (tgt := 15) h d_Law_drop_9 (by decide) ?_
    refine j_iconst (v := 0) h d_Law_drop_15 (by decide) ?_
    exact j_iret hX d_Law_drop_16 rfl (by decide) (by decide) (Or.inl ⟨rfl, v, P', hq, rfl, rfl⟩)
theorem d_Law_message_0 : decode b_Law_message 0 = .ok (.aload_n 3, 1) := by decide +kernel
theorem d_Law_message_1 : decode b_Law_message 1 = .ok (.iconst 0, 1) := by decide +kernel
theorem d_Law_message_2 : decode b_Law_message 2 = .ok (.aload_n 0, 1) := by decide +kernel
theorem d_Law_message_3 : decode b_Law_message 3 = .ok (.iload_n 1, 1) := by decide +kernel
theorem d_Law_message_4 : decode b_Law_message 4 = .ok (.iload_n 2, 1) := by decide +kernel
theorem d_Law_message_5 : decode b_Law_message 5 = .ok (.invokevirtual 52, 3) := by decide +kernel
theorem d_Law_message_8 : decode b_Law_message 8 = .ok (.i2l, 1) := by decide +kernel
theorem d_Law_message_9 : decode b_Law_message 9 = .ok (.lastore, 1) := by decide +kernel
theorem d_Law_message_10 : decode b_Law_message 10 = .ok (.goto 7, 3) := by decide +kernel
theorem d_Law_message_13 : decode b_Law_message 13 = .ok (.astore 4, 2) := by decide +kernel
theorem d_Law_message_15 : decode b_Law_message 15 = .ok (.iconst 1, 1) := by decide +kernel
theorem d_Law_message_16 : decode b_Law_message 16 = .ok (.ireturn, 1) := by decide +kernel
theorem d_Law_message_17 : decode b_Law_message 17 = .ok (.iconst 0, 1) := by decide +kernel
theorem d_Law_message_18 : decode b_Law_message 18 = .ok (.ireturn, 1) := by decide +kernel
def md_Law_message : Mx := (⟨R_Law, "message", "(LLeasePair;II[J)I"⟩, b_Law_message, 5, some .int)
theorem wk_Law_message : Cond.codeWith md_Law_message.1 md_Law_message.2.1 md_Law_message.2.2.1 md_Law_message.2.2.2 [(0, 10, 13, 13)] ∈ WA := wa_3 (List.mem_of_getElem? (i := 239) (by decide +kernel)) (by decide +kernel)
theorem mh_Law_message : MLh R_Law 129 md_Law_message [(0, 10, 13, 13)] 4 := ⟨wa_3 (List.mem_of_getElem? (i := 237) (by decide +kernel)) (by decide +kernel), wit_Law, wk_Law_message, wa_3 (List.mem_of_getElem? (i := 238) (by decide +kernel)) (by decide +kernel), by decide +kernel⟩
set_option maxRecDepth 100000 in
set_option maxHeartbeats 4000000 in
theorem c_Law_message (l : Launch) (K : Kx) (V : Vx) (I : MI3) (P : MP) (Q : Px) (xp : Prop) (z0 z1 : Int32) (hM : CtX l K md_LP_message (10, 141) 1 6 [.ref (K.ad 0 0), .int z0, .int z1] V I P Q xp) (hQ : ∀ V' r I' P', Q V' r I' P' → V' = V ∧ ∃ v, r = some (.int v)) (ha : V.2.1 40) (hl40 : K.alen 40 = 1) (hv : V.1 0 0) : CtH l K md_Law_message [(0, 10, 13, 13)] (11, 163) 1 6 [.ref (K.ad 0 0), .int z0, .int z1, .ref (K.aad 40)] V I P (PW V I P Q xp gi) := by
  refine cth_of [(0, .ref (K.ad 0 0)), (1, .int z0), (2, .int z1), (3, .ref (K.aad 40))] (by decide) (Nat.le_of_ble_eq_true rfl) (ca_r (ca_i (ca_i (ca_r ca_n)))) rfl ?_
  intro X hl hX hT
  have h : OkX X b_Law_message R_Law K := hX.1
  have hN : X.nL = 5 := hX.2.1
  rw [← hl] at hM
  refine j_aload_n h d_Law_message_0 rfl ?_
  refine j_iconst (v := 0) h d_Law_message_1 (by decide) ?_
  refine j_aload_n h d_Law_message_2 rfl ?_
  refine j_iload_n h d_Law_message_3 rfl ?_
  refine j_iload_n h d_Law_message_4 rfl ?_
  refine jx_callV h hM d_Law_message_5 ml_Law_52 mv_LP_message hv ⟨rfl, rfl⟩ rfl rfl (Nat.le_of_ble_eq_true rfl) (hR_of hX (by decide) (by decide)) (hf_of hX (by decide) (by decide)) ?_ ?_
  · intro hx
    refine jt_catch h hT ⟨by decide, by decide⟩ (fun q => ?_)
    refine j_astore h d_Law_message_13 (Nat.lt_of_lt_of_eq (m := 5) (by decide) hN.symm) ?_
    refine j_iconst (v := 1) h d_Law_message_15 (by decide) ?_
    exact j_iret hX d_Law_message_16 rfl (by decide) (by decide) (Or.inr ⟨rfl, hx, rfl, rfl, rfl⟩)
  · intro V' r I' P' hq
    obtain ⟨e1, v, e2⟩ := hQ _ _ _ _ hq
    subst e1 e2
    refine j_i2l h d_Law_message_8 ?_
    refine j_last (a := 40) (col := 99) (j := 0) h d_Law_message_9 rfl ⟨rfl, by decide⟩ ha rfl (by rw [hl40]; decide) (by rw [hl40]; decide) ?_
    refine j_goto (tgt := 17) h d_Law_message_10 (by decide) ?_
    refine j_iconst (v := 0) h d_Law_message_17 (by decide) ?_
    exact j_iret hX d_Law_message_18 rfl (by decide) (by decide) (Or.inl ⟨rfl, v, P', hq, rfl, rfl⟩)
theorem d_Law_client_0 : decode b_Law_client 0 = .ok (.aload_n 3, 1) := by decide +kernel
theorem d_Law_client_1 : decode b_Law_client 1 = .ok (.iconst 0, 1) := by decide +kernel
theorem d_Law_client_2 : decode b_Law_client 2 = .ok (.aload_n 0, 1) := by decide +kernel
theorem d_Law_client_3 : decode b_Law_client 3 = .ok (.iload_n 1, 1) := by decide +kernel
theorem d_Law_client_4 : decode b_Law_client 4 = .ok (.iload_n 2, 1) := by decide +kernel
theorem d_Law_client_5 : decode b_Law_client 5 = .ok (.invokevirtual 55, 3) := by decide +kernel
theorem d_Law_client_8 : decode b_Law_client 8 = .ok (.i2l, 1) := by decide +kernel
theorem d_Law_client_9 : decode b_Law_client 9 = .ok (.lastore, 1) := by decide +kernel
theorem d_Law_client_10 : decode b_Law_client 10 = .ok (.goto 7, 3) := by decide +kernel
theorem d_Law_client_13 : decode b_Law_client 13 = .ok (.astore 4, 2) := by decide +kernel
theorem d_Law_client_15 : decode b_Law_client 15 = .ok (.iconst 1, 1) := by decide +kernel
theorem d_Law_client_16 : decode b_Law_client 16 = .ok (.ireturn, 1) := by decide +kernel
theorem d_Law_client_17 : decode b_Law_client 17 = .ok (.iconst 0, 1) := by decide +kernel
theorem d_Law_client_18 : decode b_Law_client 18 = .ok (.ireturn, 1) := by decide +kernel
def md_Law_client : Mx := (⟨R_Law, "client", "(LLeasePair;II[J)I"⟩, b_Law_client, 5, some .int)
theorem wk_Law_client : Cond.codeWith md_Law_client.1 md_Law_client.2.1 md_Law_client.2.2.1 md_Law_client.2.2.2 [(0, 10, 13, 13)] ∈ WA := wa_4 (List.mem_of_getElem? (i := 10) (by decide +kernel)) (by decide +kernel)
theorem mh_Law_client : MLh R_Law 132 md_Law_client [(0, 10, 13, 13)] 4 := ⟨wa_4 (List.mem_of_getElem? (i := 8) (by decide +kernel)) (by decide +kernel), wit_Law, wk_Law_client, wa_4 (List.mem_of_getElem? (i := 9) (by decide +kernel)) (by decide +kernel), by decide +kernel⟩
set_option maxRecDepth 100000 in
set_option maxHeartbeats 4000000 in
theorem c_Law_client (l : Launch) (K : Kx) (V : Vx) (I : MI3) (P : MP) (Q : Px) (xp : Prop) (z0 z1 : Int32) (hM : CtX l K md_LP_client (10, 141) 2 12 [.ref (K.ad 0 0), .int z0, .int z1] V I P Q xp) (hQ : ∀ V' r I' P', Q V' r I' P' → V' = V ∧ ∃ v, r = some (.int v)) (ha : V.2.1 40) (hl40 : K.alen 40 = 1) (hv : V.1 0 0) : CtH l K md_Law_client [(0, 10, 13, 13)] (11, 164) 2 12 [.ref (K.ad 0 0), .int z0, .int z1, .ref (K.aad 40)] V I P (PW V I P Q xp gi) := by
  refine cth_of [(0, .ref (K.ad 0 0)), (1, .int z0), (2, .int z1), (3, .ref (K.aad 40))] (by decide) (Nat.le_of_ble_eq_true rfl) (ca_r (ca_i (ca_i (ca_r ca_n)))) rfl ?_
  intro X hl hX hT
  have h : OkX X b_Law_client R_Law K := hX.1
  have hN : X.nL = 5 := hX.2.1
  rw [← hl] at hM
  refine j_aload_n h d_Law_client_0 rfl ?_
  refine j_iconst (v := 0) h d_Law_client_1 (by decide) ?_
  refine j_aload_n h d_Law_client_2 rfl ?_
  refine j_iload_n h d_Law_client_3 rfl ?_
  refine j_iload_n h d_Law_client_4 rfl ?_
  refine jx_callV h hM d_Law_client_5 ml_Law_55 mv_LP_client hv ⟨rfl, rfl⟩ rfl rfl (Nat.le_of_ble_eq_true rfl) (hR_of hX (by decide) (by decide)) (hf_of hX (by decide) (by decide)) ?_ ?_
  · intro hx
    refine jt_catch h hT ⟨by decide, by decide⟩ (fun q => ?_)
    refine j_astore h d_Law_client_13 (Nat.lt_of_lt_of_eq (m := 5) (by decide) hN.symm) ?_
    refine j_iconst (v := 1) h d_Law_client_15 (by decide) ?_
    exact j_iret hX d_Law_client_16 rfl (by decide) (by decide) (Or.inr ⟨rfl, hx, rfl, rfl, rfl⟩)
  · intro V' r I' P' hq
    obtain ⟨e1, v, e2⟩ := hQ _ _ _ _ hq
    subst e1 e2
    refine j_i2l h d_Law_client_8 ?_
    refine j_last (a := 40) (col := 99) (j := 0) h d_Law_client_9 rfl ⟨rfl, by decide⟩ ha rfl (by rw [hl40]; decide) (by rw [hl40]; decide) ?_
    refine j_goto (tgt := 17) h d_Law_client_10 (by decide) ?_
    refine j_iconst (v := 0) h d_Law_client_17 (by decide) ?_
    exact j_iret hX d_Law_client_18 rfl (by decide) (by decide) (Or.inl ⟨rfl, v, P', hq, rfl, rfl⟩)
theorem d_Law_record_0 : decode b_Law_record 0 = .ok (.aload 4, 2) := by decide +kernel
theorem d_Law_record_2 : decode b_Law_record 2 = .ok (.iconst 0, 1) := by decide +kernel
theorem d_Law_record_3 : decode b_Law_record 3 = .ok (.aload_n 0, 1) := by decide +kernel
theorem d_Law_record_4 : decode b_Law_record 4 = .ok (.iload_n 1, 1) := by decide +kernel
theorem d_Law_record_5 : decode b_Law_record 5 = .ok (.iload_n 2, 1) := by decide +kernel
theorem d_Law_record_6 : decode b_Law_record 6 = .ok (.iload_n 3, 1) := by decide +kernel
theorem d_Law_record_7 : decode b_Law_record 7 = .ok (.invokevirtual 58, 3) := by decide +kernel
theorem d_Law_record_10 : decode b_Law_record 10 = .ok (.i2l, 1) := by decide +kernel
theorem d_Law_record_11 : decode b_Law_record 11 = .ok (.lastore, 1) := by decide +kernel
theorem d_Law_record_12 : decode b_Law_record 12 = .ok (.goto 7, 3) := by decide +kernel
theorem d_Law_record_15 : decode b_Law_record 15 = .ok (.astore 5, 2) := by decide +kernel
theorem d_Law_record_17 : decode b_Law_record 17 = .ok (.iconst 1, 1) := by decide +kernel
theorem d_Law_record_18 : decode b_Law_record 18 = .ok (.ireturn, 1) := by decide +kernel
theorem d_Law_record_19 : decode b_Law_record 19 = .ok (.iconst 0, 1) := by decide +kernel
theorem d_Law_record_20 : decode b_Law_record 20 = .ok (.ireturn, 1) := by decide +kernel
def md_Law_record : Mx := (⟨R_Law, "record", "(LLeasePair;III[J)I"⟩, b_Law_record, 6, some .int)
theorem wk_Law_record : Cond.codeWith md_Law_record.1 md_Law_record.2.1 md_Law_record.2.2.1 md_Law_record.2.2.2 [(0, 12, 15, 13)] ∈ WA := wa_4 (List.mem_of_getElem? (i := 17) (by decide +kernel)) (by decide +kernel)
theorem mh_Law_record : MLh R_Law 135 md_Law_record [(0, 12, 15, 13)] 5 := ⟨wa_4 (List.mem_of_getElem? (i := 15) (by decide +kernel)) (by decide +kernel), wit_Law, wk_Law_record, wa_4 (List.mem_of_getElem? (i := 16) (by decide +kernel)) (by decide +kernel), by decide +kernel⟩
set_option maxRecDepth 100000 in
set_option maxHeartbeats 4000000 in
theorem c_Law_record (l : Launch) (K : Kx) (V : Vx) (I : MI3) (P : MP) (Q : Px) (xp : Prop) (z0 z1 z2 : Int32) (hM : CtX l K md_LP_record (10, 141) 2 12 [.ref (K.ad 0 0), .int z0, .int z1, .int z2] V I P Q xp) (hQ : ∀ V' r I' P', Q V' r I' P' → V' = V ∧ ∃ v, r = some (.int v)) (ha : V.2.1 40) (hl40 : K.alen 40 = 1) (hv : V.1 0 0) : CtH l K md_Law_record [(0, 12, 15, 13)] (11, 165) 2 12 [.ref (K.ad 0 0), .int z0, .int z1, .int z2, .ref (K.aad 40)] V I P (PW V I P Q xp gi) := by
  refine cth_of [(0, .ref (K.ad 0 0)), (1, .int z0), (2, .int z1), (3, .int z2), (4, .ref (K.aad 40))] (by decide) (Nat.le_of_ble_eq_true rfl) (ca_r (ca_i (ca_i (ca_i (ca_r ca_n))))) rfl ?_
  intro X hl hX hT
  have h : OkX X b_Law_record R_Law K := hX.1
  have hN : X.nL = 6 := hX.2.1
  rw [← hl] at hM
  refine j_aload h d_Law_record_0 rfl ?_
  refine j_iconst (v := 0) h d_Law_record_2 (by decide) ?_
  refine j_aload_n h d_Law_record_3 rfl ?_
  refine j_iload_n h d_Law_record_4 rfl ?_
  refine j_iload_n h d_Law_record_5 rfl ?_
  refine j_iload_n h d_Law_record_6 rfl ?_
  refine jx_callV h hM d_Law_record_7 ml_Law_58 mv_LP_record hv ⟨rfl, rfl⟩ rfl rfl (Nat.le_of_ble_eq_true rfl) (hR_of hX (by decide) (by decide)) (hf_of hX (by decide) (by decide)) ?_ ?_
  · intro hx
    refine jt_catch h hT ⟨by decide, by decide⟩ (fun q => ?_)
    refine j_astore h d_Law_record_15 (Nat.lt_of_lt_of_eq (m := 6) (by decide) hN.symm) ?_
    refine j_iconst (v := 1) h d_Law_record_17 (by decide) ?_
    exact j_iret hX d_Law_record_18 rfl (by decide) (by decide) (Or.inr ⟨rfl, hx, rfl, rfl, rfl⟩)
  · intro V' r I' P' hq
    obtain ⟨e1, v, e2⟩ := hQ _ _ _ _ hq
    subst e1 e2
    refine j_i2l h d_Law_record_10 ?_
    refine j_last (a := 40) (col := 99) (j := 0) h d_Law_record_11 rfl ⟨rfl, by decide⟩ ha rfl (by rw [hl40]; decide) (by rw [hl40]; decide) ?_
    refine j_goto (tgt := 19) h d_Law_record_12 (by decide) ?_
    refine j_iconst (v := 0) h d_Law_record_19 (by decide) ?_
    exact j_iret hX d_Law_record_20 rfl (by decide) (by decide) (Or.inl ⟨rfl, v, P', hq, rfl, rfl⟩)
theorem d_Law_server_0 : decode b_Law_server 0 = .ok (.aload_n 3, 1) := by decide +kernel
theorem d_Law_server_1 : decode b_Law_server 1 = .ok (.iconst 0, 1) := by decide +kernel
theorem d_Law_server_2 : decode b_Law_server 2 = .ok (.aload_n 0, 1) := by decide +kernel
theorem d_Law_server_3 : decode b_Law_server 3 = .ok (.iload_n 1, 1) := by decide +kernel
theorem d_Law_server_4 : decode b_Law_server 4 = .ok (.iload_n 2, 1) := by decide +kernel
theorem d_Law_server_5 : decode b_Law_server 5 = .ok (.invokevirtual 62, 3) := by decide +kernel
theorem d_Law_server_8 : decode b_Law_server 8 = .ok (.i2l, 1) := by decide +kernel
theorem d_Law_server_9 : decode b_Law_server 9 = .ok (.lastore, 1) := by decide +kernel
theorem d_Law_server_10 : decode b_Law_server 10 = .ok (.goto 7, 3) := by decide +kernel
theorem d_Law_server_13 : decode b_Law_server 13 = .ok (.astore 4, 2) := by decide +kernel
theorem d_Law_server_15 : decode b_Law_server 15 = .ok (.iconst 1, 1) := by decide +kernel
theorem d_Law_server_16 : decode b_Law_server 16 = .ok (.ireturn, 1) := by decide +kernel
theorem d_Law_server_17 : decode b_Law_server 17 = .ok (.iconst 0, 1) := by decide +kernel
theorem d_Law_server_18 : decode b_Law_server 18 = .ok (.ireturn, 1) := by decide +kernel
def md_Law_server : Mx := (⟨R_Law, "server", "(LLeasePair;II[J)I"⟩, b_Law_server, 5, some .int)
theorem wk_Law_server : Cond.codeWith md_Law_server.1 md_Law_server.2.1 md_Law_server.2.2.1 md_Law_server.2.2.2 [(0, 10, 13, 13)] ∈ WA := wa_4 (List.mem_of_getElem? (i := 28) (by decide +kernel)) (by decide +kernel)
theorem mh_Law_server : MLh R_Law 139 md_Law_server [(0, 10, 13, 13)] 4 := ⟨wa_4 (List.mem_of_getElem? (i := 26) (by decide +kernel)) (by decide +kernel), wit_Law, wk_Law_server, wa_4 (List.mem_of_getElem? (i := 27) (by decide +kernel)) (by decide +kernel), by decide +kernel⟩
set_option maxRecDepth 100000 in
set_option maxHeartbeats 4000000 in
theorem c_Law_server (l : Launch) (K : Kx) (V : Vx) (I : MI3) (P : MP) (Q : Px) (xp : Prop) (z0 z1 : Int32) (hM : CtX l K md_LP_server (10, 141) 2 12 [.ref (K.ad 0 0), .int z0, .int z1] V I P Q xp) (hQ : ∀ V' r I' P', Q V' r I' P' → V' = V ∧ ∃ v, r = some (.int v)) (ha : V.2.1 40) (hl40 : K.alen 40 = 1) (hv : V.1 0 0) : CtH l K md_Law_server [(0, 10, 13, 13)] (11, 164) 2 12 [.ref (K.ad 0 0), .int z0, .int z1, .ref (K.aad 40)] V I P (PW V I P Q xp gi) := by
  refine cth_of [(0, .ref (K.ad 0 0)), (1, .int z0), (2, .int z1), (3, .ref (K.aad 40))] (by decide) (Nat.le_of_ble_eq_true rfl) (ca_r (ca_i (ca_i (ca_r ca_n)))) rfl ?_
  intro X hl hX hT
  have h : OkX X b_Law_server R_Law K := hX.1
  have hN : X.nL = 5 := hX.2.1
  rw [← hl] at hM
  refine j_aload_n h d_Law_server_0 rfl ?_
  refine j_iconst (v := 0) h d_Law_server_1 (by decide) ?_
  refine j_aload_n h d_Law_server_2 rfl ?_
  refine j_iload_n h d_Law_server_3 rfl ?_
  refine j_iload_n h d_Law_server_4 rfl ?_
  refine jx_callV h hM d_Law_server_5 ml_Law_62 mv_LP_server hv ⟨rfl, rfl⟩ rfl rfl (Nat.le_of_ble_eq_true rfl) (hR_of hX (by decide) (by decide)) (hf_of hX (by decide) (by decide)) ?_ ?_
  · intro hx
    refine jt_catch h hT ⟨by decide, by decide⟩ (fun q => ?_)
    refine j_astore h d_Law_server_13 (Nat.lt_of_lt_of_eq (m := 5) (by decide) hN.symm) ?_
    refine j_iconst (v := 1) h d_Law_server_15 (by decide) ?_
    exact j_iret hX d_Law_server_16 rfl (by decide) (by decide) (Or.inr ⟨rfl, hx, rfl, rfl, rfl⟩)
  · intro V' r I' P' hq
    obtain ⟨e1, v, e2⟩ := hQ _ _ _ _ hq
    subst e1 e2
    refine j_i2l h d_Law_server_8 ?_
    refine j_last (a := 40) (col := 99) (j := 0) h d_Law_server_9 rfl ⟨rfl, by decide⟩ ha rfl (by rw [hl40]; decide) (by rw [hl40]; decide) ?_
    refine j_goto (tgt := 17) h d_Law_server_10 (by decide) ?_
    refine j_iconst (v := 0) h d_Law_server_17 (by decide) ?_
    exact j_iret hX d_Law_server_18 rfl (by decide) (by decide) (Or.inl ⟨rfl, v, P', hq, rfl, rfl⟩)
