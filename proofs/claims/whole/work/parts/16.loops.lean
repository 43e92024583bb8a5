/-! loops over a server's records -/
def lstOwn (A : MI) (s : Nat) : Nat → Nat → Int32
  | 0, _ => -1
  | k + 1, i => if A 10 (32 * s + i) = 1 then nI i else lstOwn A s k (i + 1)
def clrR (s : Nat) : Nat → Nat → MI → MI
  | 0, _, A => A
  | k + 1, i, A => clrR s k (i + 1) (up (up A 22 (32 * s + i) 0) 21 (32 * s + i) 0)
theorem d_Srv_leastOwn_0 : decode b_Srv_leastOwn 0 = .ok (.iconst 0, 1) := by decide +kernel
theorem d_Srv_leastOwn_1 : decode b_Srv_leastOwn 1 = .ok (.istore_n 1, 1) := by decide +kernel
theorem d_Srv_leastOwn_2 : decode b_Srv_leastOwn 2 = .ok (.iload_n 1, 1) := by decide +kernel
theorem d_Srv_leastOwn_3 : decode b_Srv_leastOwn 3 = .ok (.aload_n 0, 1) := by decide +kernel
theorem d_Srv_leastOwn_4 : decode b_Srv_leastOwn 4 = .ok (.getfield 26, 3) := by decide +kernel
theorem d_Srv_leastOwn_7 : decode b_Srv_leastOwn 7 = .ok (.arraylength, 1) := by decide +kernel
theorem d_Srv_leastOwn_8 : decode b_Srv_leastOwn 8 = .ok (.if_icmp .ge 24, 3) := by decide +kernel
theorem d_Srv_leastOwn_11 : decode b_Srv_leastOwn 11 = .ok (.aload_n 0, 1) := by decide +kernel
theorem d_Srv_leastOwn_12 : decode b_Srv_leastOwn 12 = .ok (.getfield 26, 3) := by decide +kernel
theorem d_Srv_leastOwn_15 : decode b_Srv_leastOwn 15 = .ok (.iload_n 1, 1) := by decide +kernel
theorem d_Srv_leastOwn_16 : decode b_Srv_leastOwn 16 = .ok (.aaload, 1) := by decide +kernel
theorem d_Srv_leastOwn_17 : decode b_Srv_leastOwn 17 = .ok (.getfield 71, 3) := by decide +kernel
theorem d_Srv_leastOwn_20 : decode b_Srv_leastOwn 20 = .ok (.iconst 1, 1) := by decide +kernel
theorem d_Srv_leastOwn_21 : decode b_Srv_leastOwn 21 = .ok (.if_icmp .ne 5, 3) := by decide +kernel
theorem d_Srv_leastOwn_24 : decode b_Srv_leastOwn 24 = .ok (.iload_n 1, 1) := by decide +kernel
theorem d_Srv_leastOwn_25 : decode b_Srv_leastOwn 25 = .ok (.ireturn, 1) := by decide +kernel
theorem d_Srv_leastOwn_26 : decode b_Srv_leastOwn 26 = .ok (.iinc 1 1, 3) := by decide +kernel
theorem d_Srv_leastOwn_29 : decode b_Srv_leastOwn 29 = .ok (.goto (-27), 3) := by decide +kernel
theorem d_Srv_leastOwn_32 : decode b_Srv_leastOwn 32 = .ok (.iconst (-1), 1) := by decide +kernel
theorem d_Srv_leastOwn_33 : decode b_Srv_leastOwn 33 = .ok (.ireturn, 1) := by decide +kernel
set_option maxRecDepth 100000 in
set_option maxHeartbeats 4000000 in
theorem c_Srv_leastOwn (l : Launch) (K : Kx) (V : Vx) (A B C D : MI) (P : MP) (n : Nat) (cs : CS K V P n) (s : Nat) (hs : s < 2) : Ct l K md_Srv_leastOwn (0, 0) 0 0 [.ref (K.ad 1 s)] V (bk4 A B C D) P (EQ V (some (.int (lstOwn A s n 0))) (bk4 A B C D) P) := by
  refine ct_of [(0, .ref (K.ad 1 s))] (by decide) (Nat.le_of_ble_eq_true rfl) (ca_r ca_n) rfl ?_
  intro X hl hX
  have h : OkX X b_Srv_leastOwn R_Srv K := hX.1
  have hN : X.nL = 2 := hX.2.1
  have hsv := cs_sv cs hs
  have hL : ∀ (k i : Nat) , i + k = n → lstOwn A s n 0 = lstOwn A s k i → J X K V (bk4 A B C D) P 0 0 2 [(0, .ref (K.ad 1 s)), (1, .int (nI i))] [] := by
    intro k
    induction k with
    | zero =>
      intro i  hi hv
      have hi2 : i = n := by omega
      subst hi2
      refine j_iload_n h d_Srv_leastOwn_2 rfl ?_
      refine j_aload_n h d_Srv_leastOwn_3 rfl ?_
      refine j_getR h d_Srv_leastOwn_4 fl_Srv_26 rfl (by assumption) (cs_rp cs hs) ?_
      refine j_recl h cs hs d_Srv_leastOwn_7 ?_
      refine j_ic_ge (tgt := 32) h d_Srv_leastOwn_8 (by decide) (fun _ => ?_) (fun c => absurd (nI_le (Nat.le_refl _) (cs_n31 cs)) c)
      refine j_iconst (v := -1) h d_Srv_leastOwn_32 (by decide) ?_
      exact j_iret hX d_Srv_leastOwn_33 rfl (Nat.le_refl _) (Nat.le_refl _) ⟨rfl, by rw [hv]; simp_all [lstOwn], rfl, rfl⟩
    | succ k ih =>
      intro i  hi hv
      have hi2 : i < n := by omega
      have hr := cs_rv cs hs hi2
      refine j_iload_n h d_Srv_leastOwn_2 rfl ?_
      refine j_aload_n h d_Srv_leastOwn_3 rfl ?_
      refine j_getR h d_Srv_leastOwn_4 fl_Srv_26 rfl (by assumption) (cs_rp cs hs) ?_
      refine j_recl h cs hs d_Srv_leastOwn_7 ?_
      refine j_ic_ge (tgt := 32) h d_Srv_leastOwn_8 (by decide) (fun c => absurd c (nI_ge hi2 (cs_n31 cs))) (fun _ => ?_)
      refine j_aload_n h d_Srv_leastOwn_11 rfl ?_
      refine j_getR h d_Srv_leastOwn_12 fl_Srv_26 rfl (by assumption) (cs_rp cs hs) ?_
      refine j_iload_n h d_Srv_leastOwn_15 rfl ?_
      refine j_recs h cs hs hi2 d_Srv_leastOwn_16 ?_
      refine j_get0 h d_Srv_leastOwn_17 fl_Srv_71 rfl (by assumption) ?_
      refine j_iconst (v := 1) h d_Srv_leastOwn_20 (by decide) ?_
      refine j_ic_ne (tgt := 26) h d_Srv_leastOwn_21 (by decide) (fun c1 => ?_) (fun c1 => ?_)
      · refine j_iinc (v := nI (i + 1)) h d_Srv_leastOwn_26 rfl (nI_i i) (Nat.lt_of_lt_of_eq (m := 2) (by decide) hN.symm) ?_
        refine j_goto (tgt := 2) h d_Srv_leastOwn_29 (by decide) ?_
        refine j_lv (lv' := [(0, .ref (K.ad 1 s)), (1, .int (nI (i + 1)))]) (lvs rfl (lvs rfl lvs0)) ?_
        exact ih (i + 1) (by omega) (hv.trans (by simp only [lstOwn]; rw [if_neg (by assumption)]))
      · refine j_iload_n h d_Srv_leastOwn_24 rfl ?_
        exact j_iret hX d_Srv_leastOwn_25 rfl (Nat.le_refl _) (Nat.le_refl _) ⟨rfl, by rw [hv]; simp_all [lstOwn], rfl, rfl⟩
  refine j_iconst (v := 0) h d_Srv_leastOwn_0 (by decide) ?_
  refine j_istore_n h d_Srv_leastOwn_1 (Nat.lt_of_lt_of_eq (m := 2) (by decide) hN.symm) ?_
  refine j_lv (lv' := [(0, .ref (K.ad 1 s)), (1, .int (nI 0))]) (lvs rfl (lvs rfl lvs0)) ?_
  exact hL n 0 (by omega) rfl
theorem d_Srv_comeUp_0 : decode b_Srv_comeUp 0 = .ok (.aload_n 0, 1) := by decide +kernel
theorem d_Srv_comeUp_1 : decode b_Srv_comeUp 1 = .ok (.dup, 1) := by decide +kernel
theorem d_Srv_comeUp_2 : decode b_Srv_comeUp 2 = .ok (.getfield 36, 3) := by decide +kernel
theorem d_Srv_comeUp_5 : decode b_Srv_comeUp 5 = .ok (.iconst 1, 1) := by decide +kernel
theorem d_Srv_comeUp_6 : decode b_Srv_comeUp 6 = .ok (.iadd, 1) := by decide +kernel
theorem d_Srv_comeUp_7 : decode b_Srv_comeUp 7 = .ok (.putfield 36, 3) := by decide +kernel
theorem d_Srv_comeUp_10 : decode b_Srv_comeUp 10 = .ok (.aload_n 0, 1) := by decide +kernel
theorem d_Srv_comeUp_11 : decode b_Srv_comeUp 11 = .ok (.iconst 1, 1) := by decide +kernel
theorem d_Srv_comeUp_12 : decode b_Srv_comeUp 12 = .ok (.putfield 33, 3) := by decide +kernel
theorem d_Srv_comeUp_15 : decode b_Srv_comeUp 15 = .ok (.iconst 0, 1) := by decide +kernel
theorem d_Srv_comeUp_16 : decode b_Srv_comeUp 16 = .ok (.istore_n 1, 1) := by decide +kernel
theorem d_Srv_comeUp_17 : decode b_Srv_comeUp 17 = .ok (.iload_n 1, 1) := by decide +kernel
theorem d_Srv_comeUp_18 : decode b_Srv_comeUp 18 = .ok (.aload_n 0, 1) := by decide +kernel
theorem d_Srv_comeUp_19 : decode b_Srv_comeUp 19 = .ok (.getfield 26, 3) := by decide +kernel
theorem d_Srv_comeUp_22 : decode b_Srv_comeUp 22 = .ok (.arraylength, 1) := by decide +kernel
theorem d_Srv_comeUp_23 : decode b_Srv_comeUp 23 = .ok (.if_icmp .ge 29, 3) := by decide +kernel
theorem d_Srv_comeUp_26 : decode b_Srv_comeUp 26 = .ok (.aload_n 0, 1) := by decide +kernel
theorem d_Srv_comeUp_27 : decode b_Srv_comeUp 27 = .ok (.getfield 26, 3) := by decide +kernel
theorem d_Srv_comeUp_30 : decode b_Srv_comeUp 30 = .ok (.iload_n 1, 1) := by decide +kernel
theorem d_Srv_comeUp_31 : decode b_Srv_comeUp 31 = .ok (.aaload, 1) := by decide +kernel
theorem d_Srv_comeUp_32 : decode b_Srv_comeUp 32 = .ok (.iconst 0, 1) := by decide +kernel
theorem d_Srv_comeUp_33 : decode b_Srv_comeUp 33 = .ok (.putfield 58, 3) := by decide +kernel
theorem d_Srv_comeUp_36 : decode b_Srv_comeUp 36 = .ok (.aload_n 0, 1) := by decide +kernel
theorem d_Srv_comeUp_37 : decode b_Srv_comeUp 37 = .ok (.getfield 26, 3) := by decide +kernel
theorem d_Srv_comeUp_40 : decode b_Srv_comeUp 40 = .ok (.iload_n 1, 1) := by decide +kernel
theorem d_Srv_comeUp_41 : decode b_Srv_comeUp 41 = .ok (.aaload, 1) := by decide +kernel
theorem d_Srv_comeUp_42 : decode b_Srv_comeUp 42 = .ok (.iconst 0, 1) := by decide +kernel
theorem d_Srv_comeUp_43 : decode b_Srv_comeUp 43 = .ok (.putfield 62, 3) := by decide +kernel
theorem d_Srv_comeUp_46 : decode b_Srv_comeUp 46 = .ok (.iinc 1 1, 3) := by decide +kernel
theorem d_Srv_comeUp_49 : decode b_Srv_comeUp 49 = .ok (.goto (-32), 3) := by decide +kernel
theorem d_Srv_comeUp_52 : decode b_Srv_comeUp 52 = .ok (.aload_n 0, 1) := by decide +kernel
theorem d_Srv_comeUp_53 : decode b_Srv_comeUp 53 = .ok (.iconst 0, 1) := by decide +kernel
theorem d_Srv_comeUp_54 : decode b_Srv_comeUp 54 = .ok (.putfield 49, 3) := by decide +kernel
theorem d_Srv_comeUp_57 : decode b_Srv_comeUp 57 = .ok (.aload_n 0, 1) := by decide +kernel
theorem d_Srv_comeUp_58 : decode b_Srv_comeUp 58 = .ok (.invokevirtual 65, 3) := by decide +kernel
theorem d_Srv_comeUp_61 : decode b_Srv_comeUp 61 = .ok (.return_, 1) := by decide +kernel
set_option maxRecDepth 100000 in
set_option maxHeartbeats 4000000 in
theorem c_Srv_comeUp (l : Launch) (K : Kx) (V : Vx) (A B C D : MI) (P : MP) (n : Nat) (cs : CS K V P n) (s : Nat) (hs : s < 2) : Ct l K md_Srv_comeUp (2, 40) 0 0 [.ref (K.ad 1 s)] V (bk4 A B C D) P (EQ V (none) (bk4 (wr (up (clrR s n 0 (up (up A 2 s (A 2 s + 1)) 0 s 1)) 6 s 0) s) B C D) P) := by
  refine ct_of [(0, .ref (K.ad 1 s))] (by decide) (Nat.le_of_ble_eq_true rfl) (ca_r ca_n) rfl ?_
  intro X hl hX
  have h : OkX X b_Srv_comeUp R_Srv K := hX.1
  have hN : X.nL = 2 := hX.2.1
  have hsv := cs_sv cs hs
  have hL : ∀ (k i : Nat) (A1 : MI), i + k = n → clrR s n 0 (up (up A 2 s (A 2 s + 1)) 0 s 1) = clrR s k i A1 → J X K V (bk4 A1 B C D) P 0 0 17 [(0, .ref (K.ad 1 s)), (1, .int (nI i))] [] := by
    intro k
    induction k with
    | zero =>
      intro i A1 hi hv
      have hi2 : i = n := by omega
      subst hi2
      refine j_iload_n h d_Srv_comeUp_17 rfl ?_
      refine j_aload_n h d_Srv_comeUp_18 rfl ?_
      refine j_getR h d_Srv_comeUp_19 fl_Srv_26 rfl (by assumption) (cs_rp cs hs) ?_
      refine j_recl h cs hs d_Srv_comeUp_22 ?_
      refine j_ic_ge (tgt := 52) h d_Srv_comeUp_23 (by decide) (fun _ => ?_) (fun c => absurd (nI_le (Nat.le_refl _) (cs_n31 cs)) c)
      refine j_aload_n h d_Srv_comeUp_52 rfl ?_
      refine j_iconst (v := 0) h d_Srv_comeUp_53 (by decide) ?_
      refine j_put0 h d_Srv_comeUp_54 fw_Srv_49 rfl rfl (by assumption) ?_
      refine j_aload_n h d_Srv_comeUp_57 rfl ?_
      refine j_callV h (c_Srv_write _ _ _ _ _ _ _ _ _ hsv) d_Srv_comeUp_58 ml_Srv_65 mv_Srv_write (by assumption) ⟨rfl, rfl⟩ rfl rfl (Nat.le_of_ble_eq_true rfl) (hR_of hX (by decide) (by decide)) (hf_of hX (by decide) (by decide)) ?_
      rintro _ _ _ _ ⟨rfl, rfl, rfl, rfl⟩
      exact j_vret hX d_Srv_comeUp_61 rfl (Nat.le_refl _) (Nat.le_refl _) ⟨rfl, rfl, by rw [hv]; rfl, rfl⟩
    | succ k ih =>
      intro i A1 hi hv
      have hi2 : i < n := by omega
      have hr := cs_rv cs hs hi2
      refine j_iload_n h d_Srv_comeUp_17 rfl ?_
      refine j_aload_n h d_Srv_comeUp_18 rfl ?_
      refine j_getR h d_Srv_comeUp_19 fl_Srv_26 rfl (by assumption) (cs_rp cs hs) ?_
      refine j_recl h cs hs d_Srv_comeUp_22 ?_
      refine j_ic_ge (tgt := 52) h d_Srv_comeUp_23 (by decide) (fun c => absurd c (nI_ge hi2 (cs_n31 cs))) (fun _ => ?_)
      refine j_aload_n h d_Srv_comeUp_26 rfl ?_
      refine j_getR h d_Srv_comeUp_27 fl_Srv_26 rfl (by assumption) (cs_rp cs hs) ?_
      refine j_iload_n h d_Srv_comeUp_30 rfl ?_
      refine j_recs h cs hs hi2 d_Srv_comeUp_31 ?_
      refine j_iconst (v := 0) h d_Srv_comeUp_32 (by decide) ?_
      refine j_putZ0 h d_Srv_comeUp_33 fw_Srv_58 rfl rfl (by assumption) (by first | exact Or.inl rfl | exact Or.inr rfl | assumption) ?_
      refine j_aload_n h d_Srv_comeUp_36 rfl ?_
      refine j_getR h d_Srv_comeUp_37 fl_Srv_26 rfl (by assumption) (cs_rp cs hs) ?_
      refine j_iload_n h d_Srv_comeUp_40 rfl ?_
      refine j_recs h cs hs hi2 d_Srv_comeUp_41 ?_
      refine j_iconst (v := 0) h d_Srv_comeUp_42 (by decide) ?_
      refine j_putZ0 h d_Srv_comeUp_43 fw_Srv_62 rfl rfl (by assumption) (by first | exact Or.inl rfl | exact Or.inr rfl | assumption) ?_
      refine j_iinc (v := nI (i + 1)) h d_Srv_comeUp_46 rfl (nI_i i) (Nat.lt_of_lt_of_eq (m := 2) (by decide) hN.symm) ?_
      refine j_goto (tgt := 17) h d_Srv_comeUp_49 (by decide) ?_
      refine j_lv (lv' := [(0, .ref (K.ad 1 s)), (1, .int (nI (i + 1)))]) (lvs rfl (lvs rfl lvs0)) ?_
      exact ih (i + 1) _ (by omega) hv
  refine j_aload_n h d_Srv_comeUp_0 rfl ?_
  refine j_dup h d_Srv_comeUp_1 rfl ?_
  refine j_get0 h d_Srv_comeUp_2 fl_Srv_36 rfl (by assumption) ?_
  refine j_iconst (v := 1) h d_Srv_comeUp_5 (by decide) ?_
  refine j_iadd h d_Srv_comeUp_6 ?_
  refine j_put0 h d_Srv_comeUp_7 fw_Srv_36 rfl rfl (by assumption) ?_
  refine j_aload_n h d_Srv_comeUp_10 rfl ?_
  refine j_iconst (v := 1) h d_Srv_comeUp_11 (by decide) ?_
  refine j_put0 h d_Srv_comeUp_12 fw_Srv_33 rfl rfl (by assumption) ?_
  refine j_iconst (v := 0) h d_Srv_comeUp_15 (by decide) ?_
  refine j_istore_n h d_Srv_comeUp_16 (Nat.lt_of_lt_of_eq (m := 2) (by decide) hN.symm) ?_
  refine j_lv (lv' := [(0, .ref (K.ad 1 s)), (1, .int (nI 0))]) (lvs rfl (lvs rfl lvs0)) ?_
  exact hL n 0 _ (by omega) rfl
