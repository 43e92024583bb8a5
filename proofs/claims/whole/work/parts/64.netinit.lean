/-! the constructor of the net -/
theorem wk_Msg_init : Cond.code md_Msg_init.1 md_Msg_init.2.1 md_Msg_init.2.2.1 md_Msg_init.2.2.2 ∈ WA := wa_1 (List.mem_of_getElem? (i := 173) (by decide +kernel)) (by decide +kernel)
theorem mo_Msg_init : Cond.instanceMethod md_Msg_init.1 ∈ WA := wa_1 (List.mem_of_getElem? (i := 172) (by decide +kernel)) (by decide +kernel)
def netP (K : Kx) (P : MP) : Nat → MP
  | 0 => P
  | j + 1 => up (up (netP K P j) 14 j (some (K.ad 5 (2 * j)))) 15 j (some (K.ad 5 (2 * j + 1)))
theorem netP_c (K : Kx) (P : MP) {col i : Nat} (h1 : col ≠ 14) (h2 : col ≠ 15) : ∀ j, netP K P j col i = P col i
  | 0 => rfl
  | j + 1 => by
    show up (up (netP K P j) 14 j _) 15 j _ col i = _
    rw [up_c _ _ h2, up_c _ _ h1]
    exact netP_c K P h1 h2 j
theorem netP_lt (K : Kx) (P : MP) {i : Nat} : ∀ j, i < j → netP K P j 14 i = some (K.ad 5 (2 * i)) ∧ netP K P j 15 i = some (K.ad 5 (2 * i + 1))
  | 0, h => absurd h (by omega)
  | j + 1, h => by
    show up (up (netP K P j) 14 j _) 15 j _ 14 i = _ ∧ up (up (netP K P j) 14 j _) 15 j _ 15 i = _
    by_cases q : i = j
    · subst q; rw [up_s, up_c _ _ (by decide), up_s]; exact ⟨rfl, rfl⟩
    · rw [up_i _ _ q, up_i _ _ q, up_i _ _ q, up_i _ _ q]; exact netP_lt K P j (by omega)
def netPP (K : Kx) (P : MP) : MP := netP K (up (up P 5 0 (some (K.aad 4))) 6 0 (some (K.aad 5))) 300
theorem kf_net {K : Kx} {n : Nat} (kf : KF K n) : K.pv 4 0 ∧ (K.aad 4 = K.ad 4 0 + 1 ∧ K.pa 4 ∧ K.alen 4 = 300) ∧ (K.aad 5 = K.ad 4 0 + 2 ∧ K.pa 5 ∧ K.alen 5 = 300) := by
  rw [kf.2.1, kf.2.2.1, kf.2.2.2.1, kf.2.2.2.2.2, kf.2.2.2.2.1]
  refine ⟨rfl, ⟨?_, Or.inl (by decide), rfl⟩, ⟨?_, Or.inl (by decide), rfl⟩⟩
  · show K.base + 24 + 2 * n = K.base + 23 + 2 * n + 1
    omega
  · show K.base + 25 + 2 * n = K.base + 23 + 2 * n + 2
    omega
theorem kf_msg {K : Kx} {n q : Nat} (kf : KF K n) (hq : q < 601) : K.ad 5 q = K.ad 4 0 + 3 + q ∧ K.pv 5 q := by
  rw [kf.2.1, kf.2.2.2.2.1]
  refine ⟨?_, hq⟩
  show K.base + 26 + 2 * n + q = K.base + 23 + 2 * n + 3 + q
  omega
theorem msg_df {A B C D : MI} {P : MP} {r : Nat} (h : ∀ col, 80 ≤ col → col ≤ 94 → B col r = 0) : ∀ j, j < 15 → defaultValue (ftyp 5 j) = fval (bk4 A B C D) P (cinf 5 j) r := by
  intro j hj
  match j, hj with
  | 0, _ => exact congrArg Value.int (h 80 (by decide) (by decide)).symm
  | 1, _ => exact congrArg Value.int (h 82 (by decide) (by decide)).symm
  | 2, _ => exact congrArg Value.int (h 81 (by decide) (by decide)).symm
  | 3, _ => exact congrArg Value.int (h 83 (by decide) (by decide)).symm
  | 4, _ => exact congrArg Value.int (h 84 (by decide) (by decide)).symm
  | 5, _ => exact congrArg Value.int (h 85 (by decide) (by decide)).symm
  | 6, _ => exact congrArg Value.int (h 86 (by decide) (by decide)).symm
  | 7, _ => exact congrArg Value.int (h 87 (by decide) (by decide)).symm
  | 8, _ => exact congrArg Value.int (h 88 (by decide) (by decide)).symm
  | 9, _ => exact congrArg Value.int (h 89 (by decide) (by decide)).symm
  | 10, _ => exact congrArg Value.int (h 90 (by decide) (by decide)).symm
  | 11, _ => exact congrArg Value.int (h 91 (by decide) (by decide)).symm
  | 12, _ => exact congrArg Value.int (h 92 (by decide) (by decide)).symm
  | 13, _ => exact congrArg Value.int (h 93 (by decide) (by decide)).symm
  | 14, _ => exact congrArg Value.int (h 94 (by decide) (by decide)).symm
  | k + 15, hk => exact absurd hk (by omega)
theorem d_Net_init_0 : decode b_Net_init 0 = .ok (.aload_n 0, 1) := by decide +kernel
theorem d_Net_init_1 : decode b_Net_init 1 = .ok (.invokespecial 3, 3) := by decide +kernel
theorem d_Net_init_4 : decode b_Net_init 4 = .ok (.aload_n 0, 1) := by decide +kernel
theorem d_Net_init_5 : decode b_Net_init 5 = .ok (.sipush 300, 3) := by decide +kernel
theorem d_Net_init_8 : decode b_Net_init 8 = .ok (.anewarray 9, 3) := by decide +kernel
theorem d_Net_init_11 : decode b_Net_init 11 = .ok (.putfield 11, 3) := by decide +kernel
theorem d_Net_init_14 : decode b_Net_init 14 = .ok (.aload_n 0, 1) := by decide +kernel
theorem d_Net_init_15 : decode b_Net_init 15 = .ok (.sipush 300, 3) := by decide +kernel
theorem d_Net_init_18 : decode b_Net_init 18 = .ok (.anewarray 9, 3) := by decide +kernel
theorem d_Net_init_21 : decode b_Net_init 21 = .ok (.putfield 17, 3) := by decide +kernel
theorem d_Net_init_24 : decode b_Net_init 24 = .ok (.iconst 0, 1) := by decide +kernel
theorem d_Net_init_25 : decode b_Net_init 25 = .ok (.istore_n 1, 1) := by decide +kernel
theorem d_Net_init_26 : decode b_Net_init 26 = .ok (.iload_n 1, 1) := by decide +kernel
theorem d_Net_init_27 : decode b_Net_init 27 = .ok (.sipush 300, 3) := by decide +kernel
theorem d_Net_init_30 : decode b_Net_init 30 = .ok (.if_icmp .ge 35, 3) := by decide +kernel
theorem d_Net_init_33 : decode b_Net_init 33 = .ok (.aload_n 0, 1) := by decide +kernel
theorem d_Net_init_34 : decode b_Net_init 34 = .ok (.getfield 11, 3) := by decide +kernel
theorem d_Net_init_37 : decode b_Net_init 37 = .ok (.iload_n 1, 1) := by decide +kernel
theorem d_Net_init_38 : decode b_Net_init 38 = .ok (.new 9, 3) := by decide +kernel
theorem d_Net_init_41 : decode b_Net_init 41 = .ok (.dup, 1) := by decide +kernel
theorem d_Net_init_42 : decode b_Net_init 42 = .ok (.invokespecial 20, 3) := by decide +kernel
theorem d_Net_init_45 : decode b_Net_init 45 = .ok (.aastore, 1) := by decide +kernel
theorem d_Net_init_46 : decode b_Net_init 46 = .ok (.aload_n 0, 1) := by decide +kernel
theorem d_Net_init_47 : decode b_Net_init 47 = .ok (.getfield 17, 3) := by decide +kernel
theorem d_Net_init_50 : decode b_Net_init 50 = .ok (.iload_n 1, 1) := by decide +kernel
theorem d_Net_init_51 : decode b_Net_init 51 = .ok (.new 9, 3) := by decide +kernel
theorem d_Net_init_54 : decode b_Net_init 54 = .ok (.dup, 1) := by decide +kernel
theorem d_Net_init_55 : decode b_Net_init 55 = .ok (.invokespecial 20, 3) := by decide +kernel
theorem d_Net_init_58 : decode b_Net_init 58 = .ok (.aastore, 1) := by decide +kernel
theorem d_Net_init_59 : decode b_Net_init 59 = .ok (.iinc 1 1, 3) := by decide +kernel
theorem d_Net_init_62 : decode b_Net_init 62 = .ok (.goto (-36), 3) := by decide +kernel
theorem d_Net_init_65 : decode b_Net_init 65 = .ok (.return_, 1) := by decide +kernel
set_option maxRecDepth 100000 in
set_option maxHeartbeats 4000000 in
theorem c_Net_init (l : Launch) (K : Kx) (n : Nat) (kf : KF K n) (A B C D : MI) (P : MP) (hB : ∀ col, 80 ≤ col → col ≤ 94 → ∀ i, B col i = 0) (hP : ∀ j, P 14 j = none) (hP2 : ∀ j, P 15 j = none) : Ct l K md_Net_init (2, 40) (602) (9600) [.ref (K.ad 4 0)] (Vz K (K.ad 4 0 + 1)) (bk4 A B C D) P (EQ (Vz K (K.ad 4 0 + 603)) none (bk4 A B C D) (netPP K P)) := by
  refine ct_of [(0, .ref (K.ad 4 0))] (by decide) (Nat.le_of_ble_eq_true rfl) (ca_r ca_n) rfl ?_
  intro X hl hX
  have h : OkX X b_Net_init R_Net K := hX.1
  have hN : X.nL = 2 := hX.2.1
  have hin : X.meth.name = "<init>" := hX.2.2.2.2.2.1
  have hL : ∀ (k i : Nat), i + k = 300 → J X K (Vz K (K.ad 4 0 + 3 + 2 * i)) (bk4 A B C D) (netP K (up (up P 5 0 (some (K.aad 4))) 6 0 (some (K.aad 5))) i) (2 + 2 * i) (600 + 30 * i) 26 [(0, .ref (K.ad 4 0)), (1, .int (nI i))] [] := by
    intro k
    induction k with
    | zero =>
      intro i hi
      have hi2 : i = 300 := by omega
      subst hi2
      refine j_iload_n h d_Net_init_26 rfl ?_
      refine j_sipush (v := nI 300) h d_Net_init_27 (by decide +kernel) ?_
      refine j_ic_ge (tgt := 65) h d_Net_init_30 (by decide) (fun _ => ?_) (fun c => absurd (nI_le (Nat.le_refl _) (by decide)) c)
      exact j_vret hX d_Net_init_65 rfl (by decide) (by decide) ⟨rfl, rfl, rfl, rfl⟩
    | succ k ih =>
      intro i hi
      have hi2 : i < 300 := by omega
      refine j_iload_n h d_Net_init_26 rfl ?_
      refine j_sipush (v := nI 300) h d_Net_init_27 (by decide +kernel) ?_
      refine j_ic_ge (tgt := 65) h d_Net_init_30 (by decide) (fun c => absurd c (nI_ge hi2 (by decide))) (fun _ => ?_)
      refine j_aload_n h d_Net_init_33 rfl ?_
      refine j_getR h d_Net_init_34 fl_Net_11 rfl (vz_o (kf_net kf).1 (by omega)) ((netP_c K _ (by decide) (by decide) i).trans ((up_c _ _ (by decide)).trans (up_s _ _ _ _))) ?_
      refine j_iload_n h d_Net_init_37 rfl ?_
      refine z_new (ci := 5) (i := (2 * i)) (m := 15) h d_Net_init_38 rfl rfl wcl_Net_9 win_Msg wit_Msg (by have := (kf_msg (q := (2 * i)) kf (by omega)).1; omega) (kf_msg (q := (2 * i)) kf (by omega)).2 (msg_df fun col h1 h2 => hB col h1 h2 _) (hf_of hX (by omega) (by omega)) ?_
      refine j_dup h d_Net_init_41 rfl ?_
      refine j_callIN (n := 0) (host := "LeasePair") h (c_Msg_init _ _ _ _ _ _ _ _ (2 * i) (vz_o (kf_msg (q := (2 * i)) kf (by omega)).2 (by have := (kf_msg (q := (2 * i)) kf (by omega)).1; omega))) d_Net_init_42 (by decide +kernel) wk_Msg_init wit_Msg mo_Msg_init rfl rfl (by decide +kernel) rfl rfl (Nat.le_of_ble_eq_true rfl) (hR_of hX (by decide) (by decide)) (hf_of hX (by omega) (by omega)) ?_
      rintro _ _ _ _ ⟨rfl, rfl, rfl, rfl⟩
      refine j_aast (a := 4) (b := 9) (col := 14) (ci := 5) (i := (2 * i)) h d_Net_init_45 rfl rfl ⟨rfl, by decide⟩ (vz_a (kf_net kf).2.1.2.1 (by have := (kf_net kf).2.1.1; omega)) (vz_o (kf_msg (q := (2 * i)) kf (by omega)).2 (by have := (kf_msg (q := (2 * i)) kf (by omega)).1; omega)) rfl (by rw [(kf_net kf).2.1.2.2]; exact hi2) (by rw [(kf_net kf).2.1.2.2]; decide) ?_
      refine j_aload_n h d_Net_init_46 rfl ?_
      refine j_getR h d_Net_init_47 fl_Net_17 rfl (vz_o (kf_net kf).1 (by omega)) ((up_c _ _ (by decide)).trans ((netP_c K _ (by decide) (by decide) i).trans (up_s _ _ _ _))) ?_
      refine j_iload_n h d_Net_init_50 rfl ?_
      refine z_new (ci := 5) (i := (2 * i + 1)) (m := 15) h d_Net_init_51 rfl rfl wcl_Net_9 win_Msg wit_Msg (by have := (kf_msg (q := (2 * i + 1)) kf (by omega)).1; omega) (kf_msg (q := (2 * i + 1)) kf (by omega)).2 (msg_df fun col h1 h2 => hB col h1 h2 _) (hf_of hX (by omega) (by omega)) ?_
      refine j_dup h d_Net_init_54 rfl ?_
      refine j_callIN (n := 0) (host := "LeasePair") h (c_Msg_init _ _ _ _ _ _ _ _ (2 * i + 1) (vz_o (kf_msg (q := (2 * i + 1)) kf (by omega)).2 (by have := (kf_msg (q := (2 * i + 1)) kf (by omega)).1; omega))) d_Net_init_55 (by decide +kernel) wk_Msg_init wit_Msg mo_Msg_init rfl rfl (by decide +kernel) rfl rfl (Nat.le_of_ble_eq_true rfl) (hR_of hX (by decide) (by decide)) (hf_of hX (by omega) (by omega)) ?_
      rintro _ _ _ _ ⟨rfl, rfl, rfl, rfl⟩
      refine j_aast (a := 5) (b := 9) (col := 15) (ci := 5) (i := (2 * i + 1)) h d_Net_init_58 rfl rfl ⟨rfl, by decide⟩ (vz_a (kf_net kf).2.2.2.1 (by have := (kf_net kf).2.2.1; omega)) (vz_o (kf_msg (q := (2 * i + 1)) kf (by omega)).2 (by have := (kf_msg (q := (2 * i + 1)) kf (by omega)).1; omega)) rfl (by rw [(kf_net kf).2.2.2.2]; exact hi2) (by rw [(kf_net kf).2.2.2.2]; decide) ?_
      refine j_iinc (v := nI (i + 1)) h d_Net_init_59 rfl (nI_i i) (Nat.lt_of_lt_of_eq (m := 2) (by decide) hN.symm) ?_
      refine j_goto (tgt := 26) h d_Net_init_62 (by decide) ?_
      refine j_lv (lv' := [(0, .ref (K.ad 4 0)), (1, .int (nI (i + 1)))]) (lvs rfl (lvs rfl lvs0)) ?_
      refine j_widen (k := 2 + 2 * (i + 1)) (n := 600 + 30 * (i + 1)) (by omega) (by omega) ?_
      refine j_V (congrArg (Vz K) (show _ = K.ad 4 0 + 3 + 2 * (i + 1) by omega)) ?_
      exact ih (i + 1) (by omega)
  refine j_aload_n h d_Net_init_0 rfl ?_
  refine j_obj h d_Net_init_1 wo_Net (hM2_of hX (by decide) (Nat.le_of_ble_eq_true rfl)) ?_
  refine j_aload_n h d_Net_init_4 rfl ?_
  refine j_sipush (v := nI 300) h d_Net_init_5 (by decide +kernel) ?_
  refine z_anewa (a := 4) (col := 14) h d_Net_init_8 wcl_Net_9 wao_Msg rfl (by decide) (kf_net kf).2.1.2.2 (by decide) rfl (kf_net kf).2.1.1 (kf_net kf).2.1.2.1 rfl hP (hf_of hX (by decide) (by decide)) ?_
  refine j_putR h d_Net_init_11 fw_Net_11 rfl ⟨rfl, rfl⟩ (vz_o (kf_net kf).1 (by omega)) ?_
  refine j_aload_n h d_Net_init_14 rfl ?_
  refine j_sipush (v := nI 300) h d_Net_init_15 (by decide +kernel) ?_
  refine z_anewa (a := 5) (col := 15) h d_Net_init_18 wcl_Net_9 wao_Msg rfl (by decide) (kf_net kf).2.2.2.2 (by decide) rfl (kf_net kf).2.2.1 (kf_net kf).2.2.2.1 rfl (fun j => (up_c _ _ (by decide)).trans (hP2 j)) (hf_of hX (by decide) (by decide)) ?_
  refine j_putR h d_Net_init_21 fw_Net_17 rfl ⟨rfl, rfl⟩ (vz_o (kf_net kf).1 (by omega)) ?_
  refine j_iconst (v := 0) h d_Net_init_24 (by decide) ?_
  refine j_istore_n h d_Net_init_25 (Nat.lt_of_lt_of_eq (m := 2) (by decide) hN.symm) ?_
  refine j_lv (lv' := [(0, .ref (K.ad 4 0)), (1, .int (nI 0))]) (lvs rfl (lvs rfl lvs0)) ?_
  refine j_widen (k := 2 + 2 * 0) (n := 600 + 30 * 0) (by decide) (by decide) ?_
  exact hL 300 0 (by decide)
