/-! LeasePair: what a caller may ask -/
theorem d_LP_seconds_0 : decode b_LP_seconds 0 = .ok (.iload_n 1, 1) := by decide +kernel
theorem d_LP_seconds_1 : decode b_LP_seconds 1 = .ok (.iconst 0, 1) := by decide +kernel
theorem d_LP_seconds_2 : decode b_LP_seconds 2 = .ok (.ldc 50, 2) := by decide +kernel
theorem d_LP_seconds_4 : decode b_LP_seconds 4 = .ok (.invokestatic 51, 3) := by decide +kernel
theorem d_LP_seconds_7 : decode b_LP_seconds 7 = .ok (.ifCond .eq 18, 3) := by decide +kernel
theorem d_LP_seconds_10 : decode b_LP_seconds 10 = .ok (.iload_n 1, 1) := by decide +kernel
theorem d_LP_seconds_11 : decode b_LP_seconds 11 = .ok (.ldc 55, 2) := by decide +kernel
theorem d_LP_seconds_13 : decode b_LP_seconds 13 = .ok (.aload_n 0, 1) := by decide +kernel
theorem d_LP_seconds_14 : decode b_LP_seconds 14 = .ok (.getfield 56, 3) := by decide +kernel
theorem d_LP_seconds_17 : decode b_LP_seconds 17 = .ok (.isub, 1) := by decide +kernel
theorem d_LP_seconds_18 : decode b_LP_seconds 18 = .ok (.if_icmp .gt 7, 3) := by decide +kernel
theorem d_LP_seconds_21 : decode b_LP_seconds 21 = .ok (.iconst 1, 1) := by decide +kernel
theorem d_LP_seconds_22 : decode b_LP_seconds 22 = .ok (.goto 4, 3) := by decide +kernel
theorem d_LP_seconds_25 : decode b_LP_seconds 25 = .ok (.iconst 0, 1) := by decide +kernel
theorem d_LP_seconds_26 : decode b_LP_seconds 26 = .ok (.invokestatic 59, 3) := by decide +kernel
theorem d_LP_seconds_29 : decode b_LP_seconds 29 = .ok (.aload_n 0, 1) := by decide +kernel
theorem d_LP_seconds_30 : decode b_LP_seconds 30 = .ok (.dup, 1) := by decide +kernel
theorem d_LP_seconds_31 : decode b_LP_seconds 31 = .ok (.getfield 56, 3) := by decide +kernel
theorem d_LP_seconds_34 : decode b_LP_seconds 34 = .ok (.iload_n 1, 1) := by decide +kernel
theorem d_LP_seconds_35 : decode b_LP_seconds 35 = .ok (.iadd, 1) := by decide +kernel
theorem d_LP_seconds_36 : decode b_LP_seconds 36 = .ok (.putfield 56, 3) := by decide +kernel
theorem d_LP_seconds_39 : decode b_LP_seconds 39 = .ok (.aload_n 0, 1) := by decide +kernel
theorem d_LP_seconds_40 : decode b_LP_seconds 40 = .ok (.getfield 56, 3) := by decide +kernel
theorem d_LP_seconds_43 : decode b_LP_seconds 43 = .ok (.ireturn, 1) := by decide +kernel
set_option maxRecDepth 100000 in
set_option maxHeartbeats 4000000 in
theorem c_LP_seconds (l : Launch) (hlt : l.stackTraces = false) (K : Kx) (V : Vx) (A B C D : MI) (P : MP) (hV : ∀ z, V.2.2 z) (n : Nat) (cs : CS K V P n) (z : Int32) : CtX l K md_LP_seconds (9, 120) 1 6 [.ref (K.ad 0 0), .int z] V (bk4 A B C D) P (fun V' r I' P' => (wn z 0 100000 ∧ z ≤ 1000000000 - A 40 0) ∧ EQ V (some (.int (A 40 0 + z))) (bk4 (up A 40 0 (A 40 0 + z)) B C D) P V' r I' P') (¬ (wn z 0 100000 ∧ z ≤ 1000000000 - A 40 0)) := by
  refine ctx_of [(0, .ref (K.ad 0 0)), (1, .int z)] (by decide) (Nat.le_of_ble_eq_true rfl) (ca_r (ca_i ca_n)) rfl ?_
  intro X hl hXX
  have hX := hXX.1
  have h : OkX X b_LP_seconds R_LP K := hX.1
  have hN : X.nL = 2 := hX.2.1
  have hlt9 : X.l.stackTraces = false := by rw [hl]; exact hlt
  have hlv := cs_lv cs
  refine j_iload_n h d_LP_seconds_0 rfl ?_
  refine j_iconst (v := 0) h d_LP_seconds_1 (by decide) ?_
  refine j_ldc h d_LP_seconds_2 wc_LP_50 ?_
  refine j_callS h (c_LP_isWithin _ _ _ _ _ _ _ _ _ _ _) d_LP_seconds_4 ml_LP_51 ms_LP_isWithin rfl rfl (Nat.le_of_ble_eq_true rfl) (hRx hXX (by decide) (by decide)) (hfx hXX (by decide) (by decide)) ?_
  rintro _ _ _ _ ⟨rfl, rfl, rfl, rfl⟩
  refine j_if_eq (tgt := 25) h d_LP_seconds_7 (by decide) (fun c1 => ?_) (fun c1 => ?_)
  · refine j_iconst (v := 0) h d_LP_seconds_25 (by decide) ?_
    refine jx_callS h (c_LP_need _ hlt9 _ _ _ _ hV _) d_LP_seconds_26 ml_LP_59 ms_LP_need rfl rfl (Nat.le_of_ble_eq_true rfl) (hRx hXX (by decide) (by decide)) (hfx hXX (by decide) (by decide)) (fun hx => jx_out hXX (by first | exact absurd hx (by decide) | (clear hX hXX h hl; simp_all [b01_0, wn]; done) | (clear hX hXX h hl; grind [b01_0, wn])) (by decide) (by decide)) ?_
    rintro _ _ _ _ ⟨⟨rfl, rfl, rfl, rfl⟩, cn26⟩
    exact absurd rfl cn26
  · refine j_iload_n h d_LP_seconds_10 rfl ?_
    refine j_ldc h d_LP_seconds_11 wc_LP_55 ?_
    refine j_aload_n h d_LP_seconds_13 rfl ?_
    refine j_get0 h d_LP_seconds_14 fl_LP_56 rfl (by assumption) ?_
    refine j_isub h d_LP_seconds_17 ?_
    refine j_ic_gt (tgt := 25) h d_LP_seconds_18 (by decide) (fun c2 => ?_) (fun c2 => ?_)
    · refine j_iconst (v := 0) h d_LP_seconds_25 (by decide) ?_
      refine jx_callS h (c_LP_need _ hlt9 _ _ _ _ hV _) d_LP_seconds_26 ml_LP_59 ms_LP_need rfl rfl (Nat.le_of_ble_eq_true rfl) (hRx hXX (by decide) (by decide)) (hfx hXX (by decide) (by decide)) (fun hx => jx_out hXX (by first | exact absurd hx (by decide) | (clear hX hXX h hl; simp_all [b01_0, wn]; done) | (clear hX hXX h hl; grind [b01_0, wn])) (by decide) (by decide)) ?_
      rintro _ _ _ _ ⟨⟨rfl, rfl, rfl, rfl⟩, cn26⟩
      exact absurd rfl cn26
    · refine j_iconst (v := 1) h d_LP_seconds_21 (by decide) ?_
      refine j_goto (tgt := 26) h d_LP_seconds_22 (by decide) ?_
      refine jx_callS h (c_LP_need _ hlt9 _ _ _ _ hV _) d_LP_seconds_26 ml_LP_59 ms_LP_need rfl rfl (Nat.le_of_ble_eq_true rfl) (hRx hXX (by decide) (by decide)) (hfx hXX (by decide) (by decide)) (fun hx => jx_out hXX (by first | exact absurd hx (by decide) | (clear hX hXX h hl; simp_all [b01_0, wn]; done) | (clear hX hXX h hl; grind [b01_0, wn])) (by decide) (by decide)) ?_
      rintro _ _ _ _ ⟨⟨rfl, rfl, rfl, rfl⟩, cn26⟩
      refine j_aload_n h d_LP_seconds_29 rfl ?_
      refine j_dup h d_LP_seconds_30 rfl ?_
      refine j_get0 h d_LP_seconds_31 fl_LP_56 rfl (by assumption) ?_
      refine j_iload_n h d_LP_seconds_34 rfl ?_
      refine j_iadd h d_LP_seconds_35 ?_
      refine j_put0 h d_LP_seconds_36 fw_LP_56 rfl rfl (by assumption) ?_
      refine j_aload_n h d_LP_seconds_39 rfl ?_
      refine j_get0 h d_LP_seconds_40 fl_LP_56 rfl (by assumption) ?_
      exact jx_ret hXX (j_iret hX d_LP_seconds_43 rfl (by decide) (by decide) ⟨(by clear hX hXX h hl; first | (simp_all [b01_0, wn]; done) | grind [b01_0, wn]), rfl, rfl, rfl, rfl⟩)
theorem d_LP_skew_0 : decode b_LP_skew 0 = .ok (.aload_n 0, 1) := by decide +kernel
theorem d_LP_skew_1 : decode b_LP_skew 1 = .ok (.iload_n 1, 1) := by decide +kernel
theorem d_LP_skew_2 : decode b_LP_skew 2 = .ok (.invokevirtual 63, 3) := by decide +kernel
theorem d_LP_skew_5 : decode b_LP_skew 5 = .ok (.astore_n 3, 1) := by decide +kernel
theorem d_LP_skew_6 : decode b_LP_skew 6 = .ok (.iload_n 2, 1) := by decide +kernel
theorem d_LP_skew_7 : decode b_LP_skew 7 = .ok (.iconst 0, 1) := by decide +kernel
theorem d_LP_skew_8 : decode b_LP_skew 8 = .ok (.aload_n 0, 1) := by decide +kernel
theorem d_LP_skew_9 : decode b_LP_skew 9 = .ok (.getfield 17, 3) := by decide +kernel
theorem d_LP_skew_12 : decode b_LP_skew 12 = .ok (.invokestatic 51, 3) := by decide +kernel
theorem d_LP_skew_15 : decode b_LP_skew 15 = .ok (.invokestatic 59, 3) := by decide +kernel
theorem d_LP_skew_18 : decode b_LP_skew 18 = .ok (.aload_n 3, 1) := by decide +kernel
theorem d_LP_skew_19 : decode b_LP_skew 19 = .ok (.getfield 67, 3) := by decide +kernel
theorem d_LP_skew_22 : decode b_LP_skew 22 = .ok (.istore 4, 2) := by decide +kernel
theorem d_LP_skew_24 : decode b_LP_skew 24 = .ok (.aload_n 3, 1) := by decide +kernel
theorem d_LP_skew_25 : decode b_LP_skew 25 = .ok (.iload_n 2, 1) := by decide +kernel
theorem d_LP_skew_26 : decode b_LP_skew 26 = .ok (.putfield 67, 3) := by decide +kernel
theorem d_LP_skew_29 : decode b_LP_skew 29 = .ok (.iload 4, 2) := by decide +kernel
theorem d_LP_skew_31 : decode b_LP_skew 31 = .ok (.ireturn, 1) := by decide +kernel
set_option maxRecDepth 100000 in
set_option maxHeartbeats 4000000 in
theorem c_LP_skew (l : Launch) (hlt : l.stackTraces = false) (K : Kx) (V : Vx) (A B C D : MI) (P : MP) (hV : ∀ z, V.2.2 z) (n : Nat) (cs : CS K V P n) (z w : Int32) : CtX l K md_LP_skew (10, 141) 2 12 [.ref (K.ad 0 0), .int z, .int w] V (bk4 A B C D) P (fun V' r I' P' => ∃ s, s < 2 ∧ z = nI s ∧ wn w 0 (A 44 0) ∧ EQ V (some (.int (A 1 s))) (bk4 (up A 1 s w) B C D) P V' r I' P') (¬ (wn z 0 1 ∧ wn w 0 (A 44 0))) := by
  refine ctx_of [(0, .ref (K.ad 0 0)), (1, .int z), (2, .int w)] (by decide) (Nat.le_of_ble_eq_true rfl) (ca_r (ca_i (ca_i ca_n))) rfl ?_
  intro X hl hXX
  have hX := hXX.1
  have h : OkX X b_LP_skew R_LP K := hX.1
  have hN : X.nL = 5 := hX.2.1
  have hlt9 : X.l.stackTraces = false := by rw [hl]; exact hlt
  have hlv := cs_lv cs
  refine j_aload_n h d_LP_skew_0 rfl ?_
  refine j_iload_n h d_LP_skew_1 rfl ?_
  refine jx_callV h (c_LP_serverOf _ hlt9 _ _ _ _ _ _ _ hV _ cs _) d_LP_skew_2 ml_LP_63 mv_LP_serverOf (by assumption) ⟨rfl, rfl⟩ rfl rfl (Nat.le_of_ble_eq_true rfl) (hRx hXX (by decide) (by decide)) (hfx hXX (by decide) (by decide)) (fun hx => jx_out hXX (by first | exact absurd hx (by decide) | (clear hX hXX h hl; simp_all [b01_0, wn]; done) | (clear hX hXX h hl; grind [b01_0, wn])) (by decide) (by decide)) ?_
  rintro _ _ _ _ ⟨s, hs, rfl, rfl, rfl, rfl, rfl⟩
  have hsv := cs_sv cs hs
  refine j_astore_n h d_LP_skew_5 (Nat.lt_of_lt_of_eq (m := 5) (by decide) hN.symm) ?_
  refine j_iload_n h d_LP_skew_6 rfl ?_
  refine j_iconst (v := 0) h d_LP_skew_7 (by decide) ?_
  refine j_aload_n h d_LP_skew_8 rfl ?_
  refine j_get0 h d_LP_skew_9 fl_LP_17 rfl (by assumption) ?_
  refine j_callS h (c_LP_isWithin _ _ _ _ _ _ _ _ _ _ _) d_LP_skew_12 ml_LP_51 ms_LP_isWithin rfl rfl (Nat.le_of_ble_eq_true rfl) (hRx hXX (by decide) (by decide)) (hfx hXX (by decide) (by decide)) ?_
  rintro _ _ _ _ ⟨rfl, rfl, rfl, rfl⟩
  refine jx_callS h (c_LP_need _ hlt9 _ _ _ _ hV _) d_LP_skew_15 ml_LP_59 ms_LP_need rfl rfl (Nat.le_of_ble_eq_true rfl) (hRx hXX (by decide) (by decide)) (hfx hXX (by decide) (by decide)) (fun hx => jx_out hXX (by first | exact absurd hx (by decide) | (clear hX hXX h hl; simp_all [b01_0, wn]; done) | (clear hX hXX h hl; grind [b01_0, wn])) (by decide) (by decide)) ?_
  rintro _ _ _ _ ⟨⟨rfl, rfl, rfl, rfl⟩, cn15⟩
  refine j_aload_n h d_LP_skew_18 rfl ?_
  refine j_get0 h d_LP_skew_19 fl_LP_67 rfl (by assumption) ?_
  refine j_istore h d_LP_skew_22 (Nat.lt_of_lt_of_eq (m := 5) (by decide) hN.symm) ?_
  refine j_aload_n h d_LP_skew_24 rfl ?_
  refine j_iload_n h d_LP_skew_25 rfl ?_
  refine j_put0 h d_LP_skew_26 fw_LP_67 rfl rfl (by assumption) ?_
  refine j_iload h d_LP_skew_29 rfl ?_
  exact jx_ret hXX (j_iret hX d_LP_skew_31 rfl (by decide) (by decide) ⟨s, hs, rfl, (by clear hX hXX h hl; first | (simp_all [b01_0, wn]; done) | grind [b01_0, wn]), rfl, rfl, rfl, rfl⟩)
theorem d_LP_kill_0 : decode b_LP_kill 0 = .ok (.aload_n 0, 1) := by decide +kernel
theorem d_LP_kill_1 : decode b_LP_kill 1 = .ok (.iload_n 1, 1) := by decide +kernel
theorem d_LP_kill_2 : decode b_LP_kill 2 = .ok (.invokevirtual 63, 3) := by decide +kernel
theorem d_LP_kill_5 : decode b_LP_kill 5 = .ok (.astore_n 2, 1) := by decide +kernel
theorem d_LP_kill_6 : decode b_LP_kill 6 = .ok (.aload_n 2, 1) := by decide +kernel
theorem d_LP_kill_7 : decode b_LP_kill 7 = .ok (.getfield 70, 3) := by decide +kernel
theorem d_LP_kill_10 : decode b_LP_kill 10 = .ok (.ifCond .eq 7, 3) := by decide +kernel
theorem d_LP_kill_13 : decode b_LP_kill 13 = .ok (.iconst 1, 1) := by decide +kernel
theorem d_LP_kill_14 : decode b_LP_kill 14 = .ok (.goto 4, 3) := by decide +kernel
theorem d_LP_kill_17 : decode b_LP_kill 17 = .ok (.iconst 0, 1) := by decide +kernel
theorem d_LP_kill_18 : decode b_LP_kill 18 = .ok (.istore_n 3, 1) := by decide +kernel
theorem d_LP_kill_19 : decode b_LP_kill 19 = .ok (.aload_n 2, 1) := by decide +kernel
theorem d_LP_kill_20 : decode b_LP_kill 20 = .ok (.invokevirtual 73, 3) := by decide +kernel
theorem d_LP_kill_23 : decode b_LP_kill 23 = .ok (.iload_n 3, 1) := by decide +kernel
theorem d_LP_kill_24 : decode b_LP_kill 24 = .ok (.ireturn, 1) := by decide +kernel
set_option maxRecDepth 100000 in
set_option maxHeartbeats 4000000 in
theorem c_LP_kill (l : Launch) (hlt : l.stackTraces = false) (K : Kx) (V : Vx) (A B C D : MI) (P : MP) (hV : ∀ z, V.2.2 z) (n : Nat) (cs : CS K V P n) (z : Int32) : CtX l K md_LP_kill (10, 141) 1 6 [.ref (K.ad 0 0), .int z] V (bk4 A B C D) P (fun V' r I' P' => ∃ s, s < 2 ∧ z = nI s ∧ EQ V (some (.int (b01 (¬ A 0 s = 0)))) (bk4 (up (up A 0 s 0) 6 s 0) B C D) P V' r I' P') (¬ wn z 0 1) := by
  refine ctx_of [(0, .ref (K.ad 0 0)), (1, .int z)] (by decide) (Nat.le_of_ble_eq_true rfl) (ca_r (ca_i ca_n)) rfl ?_
  intro X hl hXX
  have hX := hXX.1
  have h : OkX X b_LP_kill R_LP K := hX.1
  have hN : X.nL = 4 := hX.2.1
  have hlt9 : X.l.stackTraces = false := by rw [hl]; exact hlt
  have hlv := cs_lv cs
  refine j_aload_n h d_LP_kill_0 rfl ?_
  refine j_iload_n h d_LP_kill_1 rfl ?_
  refine jx_callV h (c_LP_serverOf _ hlt9 _ _ _ _ _ _ _ hV _ cs _) d_LP_kill_2 ml_LP_63 mv_LP_serverOf (by assumption) ⟨rfl, rfl⟩ rfl rfl (Nat.le_of_ble_eq_true rfl) (hRx hXX (by decide) (by decide)) (hfx hXX (by decide) (by decide)) (fun hx => jx_out hXX (by first | exact absurd hx (by decide) | (clear hX hXX h hl; simp_all [b01_0, wn]; done) | (clear hX hXX h hl; grind [b01_0, wn])) (by decide) (by decide)) ?_
  rintro _ _ _ _ ⟨s, hs, rfl, rfl, rfl, rfl, rfl⟩
  have hsv := cs_sv cs hs
  refine j_astore_n h d_LP_kill_5 (Nat.lt_of_lt_of_eq (m := 4) (by decide) hN.symm) ?_
  refine j_aload_n h d_LP_kill_6 rfl ?_
  refine j_get0 h d_LP_kill_7 fl_LP_70 rfl (by assumption) ?_
  refine j_if_eq (tgt := 17) h d_LP_kill_10 (by decide) (fun c1 => ?_) (fun c1 => ?_)
  · refine j_iconst (v := 0) h d_LP_kill_17 (by decide) ?_
    refine j_istore_n h d_LP_kill_18 (Nat.lt_of_lt_of_eq (m := 4) (by decide) hN.symm) ?_
    refine j_aload_n h d_LP_kill_19 rfl ?_
    refine j_callV h (c_Srv_die _ _ _ _ _ _ _ _ _ hsv) d_LP_kill_20 ml_LP_73 mv_Srv_die (by assumption) ⟨rfl, rfl⟩ rfl rfl (Nat.le_of_ble_eq_true rfl) (hRx hXX (by decide) (by decide)) (hfx hXX (by decide) (by decide)) ?_
    rintro _ _ _ _ ⟨rfl, rfl, rfl, rfl⟩
    refine j_iload_n h d_LP_kill_23 rfl ?_
    exact jx_ret hXX (j_zret hX d_LP_kill_24 rfl (by first | exact Or.inl rfl | exact Or.inr rfl | exact b01_z _ | assumption) (by decide) (by decide) ⟨s, hs, rfl, rfl, by clear hX hXX h hl; simp_all [b01], rfl, rfl⟩)
  · refine j_iconst (v := 1) h d_LP_kill_13 (by decide) ?_
    refine j_goto (tgt := 18) h d_LP_kill_14 (by decide) ?_
    refine j_istore_n h d_LP_kill_18 (Nat.lt_of_lt_of_eq (m := 4) (by decide) hN.symm) ?_
    refine j_aload_n h d_LP_kill_19 rfl ?_
    refine j_callV h (c_Srv_die _ _ _ _ _ _ _ _ _ hsv) d_LP_kill_20 ml_LP_73 mv_Srv_die (by assumption) ⟨rfl, rfl⟩ rfl rfl (Nat.le_of_ble_eq_true rfl) (hRx hXX (by decide) (by decide)) (hfx hXX (by decide) (by decide)) ?_
    rintro _ _ _ _ ⟨rfl, rfl, rfl, rfl⟩
    refine j_iload_n h d_LP_kill_23 rfl ?_
    exact jx_ret hXX (j_zret hX d_LP_kill_24 rfl (by first | exact Or.inl rfl | exact Or.inr rfl | exact b01_z _ | assumption) (by decide) (by decide) ⟨s, hs, rfl, rfl, by clear hX hXX h hl; simp_all [b01], rfl, rfl⟩)
theorem d_LP_fuse_0 : decode b_LP_fuse 0 = .ok (.aload_n 0, 1) := by decide +kernel
theorem d_LP_fuse_1 : decode b_LP_fuse 1 = .ok (.iload_n 1, 1) := by decide +kernel
theorem d_LP_fuse_2 : decode b_LP_fuse 2 = .ok (.invokevirtual 63, 3) := by decide +kernel
theorem d_LP_fuse_5 : decode b_LP_fuse 5 = .ok (.astore_n 3, 1) := by decide +kernel
theorem d_LP_fuse_6 : decode b_LP_fuse 6 = .ok (.iload_n 2, 1) := by decide +kernel
theorem d_LP_fuse_7 : decode b_LP_fuse 7 = .ok (.iconst 0, 1) := by decide +kernel
theorem d_LP_fuse_8 : decode b_LP_fuse 8 = .ok (.bipush 100, 2) := by decide +kernel
theorem d_LP_fuse_10 : decode b_LP_fuse 10 = .ok (.invokestatic 51, 3) := by decide +kernel
theorem d_LP_fuse_13 : decode b_LP_fuse 13 = .ok (.invokestatic 59, 3) := by decide +kernel
theorem d_LP_fuse_16 : decode b_LP_fuse 16 = .ok (.aload_n 3, 1) := by decide +kernel
theorem d_LP_fuse_17 : decode b_LP_fuse 17 = .ok (.iload_n 2, 1) := by decide +kernel
theorem d_LP_fuse_18 : decode b_LP_fuse 18 = .ok (.putfield 76, 3) := by decide +kernel
theorem d_LP_fuse_21 : decode b_LP_fuse 21 = .ok (.return_, 1) := by decide +kernel
set_option maxRecDepth 100000 in
set_option maxHeartbeats 4000000 in
theorem c_LP_fuse (l : Launch) (hlt : l.stackTraces = false) (K : Kx) (V : Vx) (A B C D : MI) (P : MP) (hV : ∀ z, V.2.2 z) (n : Nat) (cs : CS K V P n) (z w : Int32) : CtX l K md_LP_fuse (10, 141) 2 12 [.ref (K.ad 0 0), .int z, .int w] V (bk4 A B C D) P (fun V' r I' P' => ∃ s, s < 2 ∧ z = nI s ∧ wn w 0 100 ∧ EQ V (none) (bk4 (up A 6 s w) B C D) P V' r I' P') (¬ (wn z 0 1 ∧ wn w 0 100)) := by
  refine ctx_of [(0, .ref (K.ad 0 0)), (1, .int z), (2, .int w)] (by decide) (Nat.le_of_ble_eq_true rfl) (ca_r (ca_i (ca_i ca_n))) rfl ?_
  intro X hl hXX
  have hX := hXX.1
  have h : OkX X b_LP_fuse R_LP K := hX.1
  have hN : X.nL = 4 := hX.2.1
  have hlt9 : X.l.stackTraces = false := by rw [hl]; exact hlt
  have hlv := cs_lv cs
  refine j_aload_n h d_LP_fuse_0 rfl ?_
  refine j_iload_n h d_LP_fuse_1 rfl ?_
  refine jx_callV h (c_LP_serverOf _ hlt9 _ _ _ _ _ _ _ hV _ cs _) d_LP_fuse_2 ml_LP_63 mv_LP_serverOf (by assumption) ⟨rfl, rfl⟩ rfl rfl (Nat.le_of_ble_eq_true rfl) (hRx hXX (by decide) (by decide)) (hfx hXX (by decide) (by decide)) (fun hx => jx_out hXX (by first | exact absurd hx (by decide) | (clear hX hXX h hl; simp_all [b01_0, wn]; done) | (clear hX hXX h hl; grind [b01_0, wn])) (by decide) (by decide)) ?_
  rintro _ _ _ _ ⟨s, hs, rfl, rfl, rfl, rfl, rfl⟩
  have hsv := cs_sv cs hs
  refine j_astore_n h d_LP_fuse_5 (Nat.lt_of_lt_of_eq (m := 4) (by decide) hN.symm) ?_
  refine j_iload_n h d_LP_fuse_6 rfl ?_
  refine j_iconst (v := 0) h d_LP_fuse_7 (by decide) ?_
  refine j_bipush (v := 100) h d_LP_fuse_8 (by decide) ?_
  refine j_callS h (c_LP_isWithin _ _ _ _ _ _ _ _ _ _ _) d_LP_fuse_10 ml_LP_51 ms_LP_isWithin rfl rfl (Nat.le_of_ble_eq_true rfl) (hRx hXX (by decide) (by decide)) (hfx hXX (by decide) (by decide)) ?_
  rintro _ _ _ _ ⟨rfl, rfl, rfl, rfl⟩
  refine jx_callS h (c_LP_need _ hlt9 _ _ _ _ hV _) d_LP_fuse_13 ml_LP_59 ms_LP_need rfl rfl (Nat.le_of_ble_eq_true rfl) (hRx hXX (by decide) (by decide)) (hfx hXX (by decide) (by decide)) (fun hx => jx_out hXX (by first | exact absurd hx (by decide) | (clear hX hXX h hl; simp_all [b01_0, wn]; done) | (clear hX hXX h hl; grind [b01_0, wn])) (by decide) (by decide)) ?_
  rintro _ _ _ _ ⟨⟨rfl, rfl, rfl, rfl⟩, cn13⟩
  refine j_aload_n h d_LP_fuse_16 rfl ?_
  refine j_iload_n h d_LP_fuse_17 rfl ?_
  refine j_put0 h d_LP_fuse_18 fw_LP_76 rfl rfl (by assumption) ?_
  exact jx_ret hXX (j_vret hX d_LP_fuse_21 rfl (by decide) (by decide) ⟨s, hs, rfl, (by clear hX hXX h hl; first | (simp_all [b01_0, wn]; done) | grind [b01_0, wn]), rfl, rfl, rfl, rfl⟩)
theorem d_LP_partnerDown_0 : decode b_LP_partnerDown 0 = .ok (.aload_n 0, 1) := by decide +kernel
theorem d_LP_partnerDown_1 : decode b_LP_partnerDown 1 = .ok (.iload_n 1, 1) := by decide +kernel
theorem d_LP_partnerDown_2 : decode b_LP_partnerDown 2 = .ok (.invokevirtual 63, 3) := by decide +kernel
theorem d_LP_partnerDown_5 : decode b_LP_partnerDown 5 = .ok (.astore_n 2, 1) := by decide +kernel
theorem d_LP_partnerDown_6 : decode b_LP_partnerDown 6 = .ok (.aload_n 2, 1) := by decide +kernel
theorem d_LP_partnerDown_7 : decode b_LP_partnerDown 7 = .ok (.getfield 70, 3) := by decide +kernel
theorem d_LP_partnerDown_10 : decode b_LP_partnerDown 10 = .ok (.iconst 2, 1) := by decide +kernel
theorem d_LP_partnerDown_11 : decode b_LP_partnerDown 11 = .ok (.if_icmp .ne 18, 3) := by decide +kernel
theorem d_LP_partnerDown_14 : decode b_LP_partnerDown 14 = .ok (.aload_n 0, 1) := by decide +kernel
theorem d_LP_partnerDown_15 : decode b_LP_partnerDown 15 = .ok (.getfield 22, 3) := by decide +kernel
theorem d_LP_partnerDown_18 : decode b_LP_partnerDown 18 = .ok (.aload_n 2, 1) := by decide +kernel
theorem d_LP_partnerDown_19 : decode b_LP_partnerDown 19 = .ok (.getfield 86, 3) := by decide +kernel
theorem d_LP_partnerDown_22 : decode b_LP_partnerDown 22 = .ok (.aaload, 1) := by decide +kernel
theorem d_LP_partnerDown_23 : decode b_LP_partnerDown 23 = .ok (.getfield 70, 3) := by decide +kernel
theorem d_LP_partnerDown_26 : decode b_LP_partnerDown 26 = .ok (.ifCond .eq 5, 3) := by decide +kernel
theorem d_LP_partnerDown_29 : decode b_LP_partnerDown 29 = .ok (.iconst 0, 1) := by decide +kernel
theorem d_LP_partnerDown_30 : decode b_LP_partnerDown 30 = .ok (.ireturn, 1) := by decide +kernel
theorem d_LP_partnerDown_31 : decode b_LP_partnerDown 31 = .ok (.aload_n 2, 1) := by decide +kernel
theorem d_LP_partnerDown_32 : decode b_LP_partnerDown 32 = .ok (.aload_n 0, 1) := by decide +kernel
theorem d_LP_partnerDown_33 : decode b_LP_partnerDown 33 = .ok (.aload_n 2, 1) := by decide +kernel
theorem d_LP_partnerDown_34 : decode b_LP_partnerDown 34 = .ok (.invokevirtual 89, 3) := by decide +kernel
theorem d_LP_partnerDown_37 : decode b_LP_partnerDown 37 = .ok (.invokevirtual 93, 3) := by decide +kernel
theorem d_LP_partnerDown_40 : decode b_LP_partnerDown 40 = .ok (.iconst 1, 1) := by decide +kernel
theorem d_LP_partnerDown_41 : decode b_LP_partnerDown 41 = .ok (.ireturn, 1) := by decide +kernel
set_option maxRecDepth 100000 in
set_option maxHeartbeats 4000000 in
theorem c_LP_partnerDown (l : Launch) (hlt : l.stackTraces = false) (K : Kx) (V : Vx) (A B C D : MI) (P : MP) (hV : ∀ z, V.2.2 z) (n : Nat) (cs : CS K V P n) (ld sk : Int32) (kb : KB B ld sk) (z : Int32) : CtX l K md_LP_partnerDown (10, 141) 1 6 [.ref (K.ad 0 0), .int z] V (bk4 A B C D) P (fun V' r I' P' => ∃ s, s < 2 ∧ z = nI s ∧ EQ V (some (.int (b01 (A 0 s = 2 ∧ A 0 (1 - s) = 0)))) (bk4 (if (A 0 s = 2 ∧ A 0 (1 - s) = 0) then wr (solR s n 0 (up (up A 0 s 3) 5 s (clk A s))) s else A) B C D) P V' r I' P') (¬ wn z 0 1) := by
  refine ctx_of [(0, .ref (K.ad 0 0)), (1, .int z)] (by decide) (Nat.le_of_ble_eq_true rfl) (ca_r (ca_i ca_n)) rfl ?_
  intro X hl hXX
  have hX := hXX.1
  have h : OkX X b_LP_partnerDown R_LP K := hX.1
  have hN : X.nL = 3 := hX.2.1
  have hlt9 : X.l.stackTraces = false := by rw [hl]; exact hlt
  have hlv := cs_lv cs
  refine j_aload_n h d_LP_partnerDown_0 rfl ?_
  refine j_iload_n h d_LP_partnerDown_1 rfl ?_
  refine jx_callV h (c_LP_serverOf _ hlt9 _ _ _ _ _ _ _ hV _ cs _) d_LP_partnerDown_2 ml_LP_63 mv_LP_serverOf (by assumption) ⟨rfl, rfl⟩ rfl rfl (Nat.le_of_ble_eq_true rfl) (hRx hXX (by decide) (by decide)) (hfx hXX (by decide) (by decide)) (fun hx => jx_out hXX (by first | exact absurd hx (by decide) | (clear hX hXX h hl; simp_all [b01_0, wn]; done) | (clear hX hXX h hl; grind [b01_0, wn])) (by decide) (by decide)) ?_
  rintro _ _ _ _ ⟨s, hs, rfl, rfl, rfl, rfl, rfl⟩
  have hsv := cs_sv cs hs
  refine j_astore_n h d_LP_partnerDown_5 (Nat.lt_of_lt_of_eq (m := 3) (by decide) hN.symm) ?_
  refine j_aload_n h d_LP_partnerDown_6 rfl ?_
  refine j_get0 h d_LP_partnerDown_7 fl_LP_70 rfl (by assumption) ?_
  refine j_iconst (v := 2) h d_LP_partnerDown_10 (by decide) ?_
  refine j_ic_ne (tgt := 29) h d_LP_partnerDown_11 (by decide) (fun c1 => ?_) (fun c1 => ?_)
  · refine j_iconst (v := 0) h d_LP_partnerDown_29 (by decide) ?_
    exact jx_ret hXX (j_zret hX d_LP_partnerDown_30 rfl (by first | exact Or.inl rfl | exact Or.inr rfl | exact b01_z _ | assumption) (by decide) (by decide) ⟨s, hs, rfl, rfl, by clear hX hXX h hl; simp_all [b01], by clear hX hXX h hl; simp_all, rfl⟩)
  · refine j_aload_n h d_LP_partnerDown_14 rfl ?_
    refine j_getR h d_LP_partnerDown_15 fl_LP_22 rfl (by assumption) (cs_p0 cs) ?_
    refine j_aload_n h d_LP_partnerDown_18 rfl ?_
    refine j_get1e (v := nI (1 - s)) h d_LP_partnerDown_19 fl_LP_86 rfl (by assumption) (kb s hs).2.1 ?_
    have hps : 1 - s < 2 := by omega
    have hpv := cs_sv cs hps
    refine j_srvs h cs hps d_LP_partnerDown_22 ?_
    refine j_get0 h d_LP_partnerDown_23 fl_LP_70 rfl (by assumption) ?_
    refine j_if_eq (tgt := 31) h d_LP_partnerDown_26 (by decide) (fun c2 => ?_) (fun c2 => ?_)
    · refine j_aload_n h d_LP_partnerDown_31 rfl ?_
      refine j_aload_n h d_LP_partnerDown_32 rfl ?_
      refine j_aload_n h d_LP_partnerDown_33 rfl ?_
      refine j_callV h (c_LP_clockOf _ _ _ _ _ _ _ _ hlv _ hsv) d_LP_partnerDown_34 ml_LP_89 mv_LP_clockOf (by assumption) ⟨rfl, rfl⟩ rfl rfl (Nat.le_of_ble_eq_true rfl) (hRx hXX (by decide) (by decide)) (hfx hXX (by decide) (by decide)) ?_
      rintro _ _ _ _ ⟨rfl, rfl, rfl, rfl⟩
      refine j_callV h (c_Srv_goAlone _ _ _ _ _ _ _ _ _ cs _ hs _) d_LP_partnerDown_37 ml_LP_93 mv_Srv_goAlone (by assumption) ⟨rfl, rfl⟩ rfl rfl (Nat.le_of_ble_eq_true rfl) (hRx hXX (by decide) (by decide)) (hfx hXX (by decide) (by decide)) ?_
      rintro _ _ _ _ ⟨rfl, rfl, rfl, rfl⟩
      refine j_iconst (v := 1) h d_LP_partnerDown_40 (by decide) ?_
      exact jx_ret hXX (j_zret hX d_LP_partnerDown_41 rfl (by first | exact Or.inl rfl | exact Or.inr rfl | exact b01_z _ | assumption) (by decide) (by decide) ⟨s, hs, rfl, rfl, by clear hX hXX h hl; simp_all [b01], by clear hX hXX h hl; simp_all, rfl⟩)
    · refine j_iconst (v := 0) h d_LP_partnerDown_29 (by decide) ?_
      exact jx_ret hXX (j_zret hX d_LP_partnerDown_30 rfl (by first | exact Or.inl rfl | exact Or.inr rfl | exact b01_z _ | assumption) (by decide) (by decide) ⟨s, hs, rfl, rfl, by clear hX hXX h hl; simp_all [b01], by clear hX hXX h hl; simp_all, rfl⟩)
theorem d_LP_tidy_0 : decode b_LP_tidy 0 = .ok (.aload_n 0, 1) := by decide +kernel
theorem d_LP_tidy_1 : decode b_LP_tidy 1 = .ok (.iload_n 1, 1) := by decide +kernel
theorem d_LP_tidy_2 : decode b_LP_tidy 2 = .ok (.invokevirtual 63, 3) := by decide +kernel
theorem d_LP_tidy_5 : decode b_LP_tidy 5 = .ok (.astore_n 2, 1) := by decide +kernel
theorem d_LP_tidy_6 : decode b_LP_tidy 6 = .ok (.aload_n 2, 1) := by decide +kernel
theorem d_LP_tidy_7 : decode b_LP_tidy 7 = .ok (.invokevirtual 127, 3) := by decide +kernel
theorem d_LP_tidy_10 : decode b_LP_tidy 10 = .ok (.ifCond .eq 15, 3) := by decide +kernel
theorem d_LP_tidy_13 : decode b_LP_tidy 13 = .ok (.aload_n 2, 1) := by decide +kernel
theorem d_LP_tidy_14 : decode b_LP_tidy 14 = .ok (.aload_n 0, 1) := by decide +kernel
theorem d_LP_tidy_15 : decode b_LP_tidy 15 = .ok (.aload_n 2, 1) := by decide +kernel
theorem d_LP_tidy_16 : decode b_LP_tidy 16 = .ok (.invokevirtual 89, 3) := by decide +kernel
theorem d_LP_tidy_19 : decode b_LP_tidy 19 = .ok (.invokevirtual 131, 3) := by decide +kernel
theorem d_LP_tidy_22 : decode b_LP_tidy 22 = .ok (.goto 4, 3) := by decide +kernel
theorem d_LP_tidy_25 : decode b_LP_tidy 25 = .ok (.iconst (-1), 1) := by decide +kernel
theorem d_LP_tidy_26 : decode b_LP_tidy 26 = .ok (.ireturn, 1) := by decide +kernel
set_option maxRecDepth 100000 in
set_option maxHeartbeats 4000000 in
theorem c_LP_tidy (l : Launch) (hlt : l.stackTraces = false) (K : Kx) (V : Vx) (A B C D : MI) (P : MP) (hV : ∀ z, V.2.2 z) (n : Nat) (cs : CS K V P n) (ld sk : Int32) (kb : KB B ld sk) (z : Int32) : CtX l K md_LP_tidy (10, 141) 1 6 [.ref (K.ad 0 0), .int z] V (bk4 A B C D) P (fun V' r I' P' => ∃ s, s < 2 ∧ z = nI s ∧ EQ V (some (.int (if (A 0 s = 2 ∨ A 0 s = 3) then (endR s ld sk (clk A s) n 0 0 A).1 else -1))) (bk4 (if (A 0 s = 2 ∨ A 0 s = 3) then wrIf (endR s ld sk (clk A s) n 0 0 A).1 (endR s ld sk (clk A s) n 0 0 A).2 s else A) B C D) P V' r I' P') (¬ wn z 0 1) := by
  refine ctx_of [(0, .ref (K.ad 0 0)), (1, .int z)] (by decide) (Nat.le_of_ble_eq_true rfl) (ca_r (ca_i ca_n)) rfl ?_
  intro X hl hXX
  have hX := hXX.1
  have h : OkX X b_LP_tidy R_LP K := hX.1
  have hN : X.nL = 3 := hX.2.1
  have hlt9 : X.l.stackTraces = false := by rw [hl]; exact hlt
  have hlv := cs_lv cs
  refine j_aload_n h d_LP_tidy_0 rfl ?_
  refine j_iload_n h d_LP_tidy_1 rfl ?_
  refine jx_callV h (c_LP_serverOf _ hlt9 _ _ _ _ _ _ _ hV _ cs _) d_LP_tidy_2 ml_LP_63 mv_LP_serverOf (by assumption) ⟨rfl, rfl⟩ rfl rfl (Nat.le_of_ble_eq_true rfl) (hRx hXX (by decide) (by decide)) (hfx hXX (by decide) (by decide)) (fun hx => jx_out hXX (by first | exact absurd hx (by decide) | (clear hX hXX h hl; simp_all [b01_0, wn]; done) | (clear hX hXX h hl; grind [b01_0, wn])) (by decide) (by decide)) ?_
  rintro _ _ _ _ ⟨s, hs, rfl, rfl, rfl, rfl, rfl⟩
  have hsv := cs_sv cs hs
  refine j_astore_n h d_LP_tidy_5 (Nat.lt_of_lt_of_eq (m := 3) (by decide) hN.symm) ?_
  refine j_aload_n h d_LP_tidy_6 rfl ?_
  refine j_callV h (c_Srv_serves _ _ _ _ _ _ _ _ _ hsv) d_LP_tidy_7 ml_LP_127 mv_Srv_serves (by assumption) ⟨rfl, rfl⟩ rfl rfl (Nat.le_of_ble_eq_true rfl) (hRx hXX (by decide) (by decide)) (hfx hXX (by decide) (by decide)) ?_
  rintro _ _ _ _ ⟨rfl, rfl, rfl, rfl⟩
  refine j_if_eq (tgt := 25) h d_LP_tidy_10 (by decide) (fun c1 => ?_) (fun c1 => ?_)
  · refine j_iconst (v := -1) h d_LP_tidy_25 (by decide) ?_
    exact jx_ret hXX (j_iret hX d_LP_tidy_26 rfl (by decide) (by decide) ⟨s, hs, rfl, rfl, by have k3 := (kb s hs).2.2.1; have k4 := (kb s hs).2.2.2; clear hX hXX h hl; first | (simp_all [b01_0]; done) | grind [b01_0], by have k3 := (kb s hs).2.2.1; have k4 := (kb s hs).2.2.2; clear hX hXX h hl; first | (simp_all [b01_0]; done) | grind [b01_0], rfl⟩)
  · refine j_aload_n h d_LP_tidy_13 rfl ?_
    refine j_aload_n h d_LP_tidy_14 rfl ?_
    refine j_aload_n h d_LP_tidy_15 rfl ?_
    refine j_callV h (c_LP_clockOf _ _ _ _ _ _ _ _ hlv _ hsv) d_LP_tidy_16 ml_LP_89 mv_LP_clockOf (by assumption) ⟨rfl, rfl⟩ rfl rfl (Nat.le_of_ble_eq_true rfl) (hRx hXX (by decide) (by decide)) (hfx hXX (by decide) (by decide)) ?_
    rintro _ _ _ _ ⟨rfl, rfl, rfl, rfl⟩
    refine j_callV h (c_Srv_endWhatIsOver _ _ _ _ _ _ _ _ _ cs _ hs _) d_LP_tidy_19 ml_LP_131 mv_Srv_endWhatIsOver (by assumption) ⟨rfl, rfl⟩ rfl rfl (Nat.le_of_ble_eq_true rfl) (hRx hXX (by decide) (by decide)) (hfx hXX (by decide) (by decide)) ?_
    rintro _ _ _ _ ⟨rfl, rfl, rfl, rfl⟩
    refine j_goto (tgt := 26) h d_LP_tidy_22 (by decide) ?_
    exact jx_ret hXX (j_iret hX d_LP_tidy_26 rfl (by decide) (by decide) ⟨s, hs, rfl, rfl, by have k3 := (kb s hs).2.2.1; have k4 := (kb s hs).2.2.2; clear hX hXX h hl; first | (simp_all [b01_0]; done) | grind [b01_0], by have k3 := (kb s hs).2.2.1; have k4 := (kb s hs).2.2.2; clear hX hXX h hl; first | (simp_all [b01_0]; done) | grind [b01_0], rfl⟩)
theorem d_LP_give_0 : decode b_LP_give 0 = .ok (.aload_n 0, 1) := by decide +kernel
theorem d_LP_give_1 : decode b_LP_give 1 = .ok (.iload_n 1, 1) := by decide +kernel
theorem d_LP_give_2 : decode b_LP_give 2 = .ok (.invokevirtual 63, 3) := by decide +kernel
theorem d_LP_give_5 : decode b_LP_give 5 = .ok (.astore_n 3, 1) := by decide +kernel
theorem d_LP_give_6 : decode b_LP_give 6 = .ok (.iload_n 2, 1) := by decide +kernel
theorem d_LP_give_7 : decode b_LP_give 7 = .ok (.iconst 1, 1) := by decide +kernel
theorem d_LP_give_8 : decode b_LP_give 8 = .ok (.bipush 32, 2) := by decide +kernel
theorem d_LP_give_10 : decode b_LP_give 10 = .ok (.invokestatic 51, 3) := by decide +kernel
theorem d_LP_give_13 : decode b_LP_give 13 = .ok (.invokestatic 59, 3) := by decide +kernel
theorem d_LP_give_16 : decode b_LP_give 16 = .ok (.aload_n 3, 1) := by decide +kernel
theorem d_LP_give_17 : decode b_LP_give 17 = .ok (.getfield 70, 3) := by decide +kernel
theorem d_LP_give_20 : decode b_LP_give 20 = .ok (.iconst 2, 1) := by decide +kernel
theorem d_LP_give_21 : decode b_LP_give 21 = .ok (.if_icmp .ne 11, 3) := by decide +kernel
theorem d_LP_give_24 : decode b_LP_give 24 = .ok (.aload_n 3, 1) := by decide +kernel
theorem d_LP_give_25 : decode b_LP_give 25 = .ok (.iload_n 2, 1) := by decide +kernel
theorem d_LP_give_26 : decode b_LP_give 26 = .ok (.invokevirtual 135, 3) := by decide +kernel
theorem d_LP_give_29 : decode b_LP_give 29 = .ok (.goto 4, 3) := by decide +kernel
theorem d_LP_give_32 : decode b_LP_give 32 = .ok (.iconst (-1), 1) := by decide +kernel
theorem d_LP_give_33 : decode b_LP_give 33 = .ok (.ireturn, 1) := by decide +kernel
set_option maxRecDepth 100000 in
set_option maxHeartbeats 4000000 in
theorem c_LP_give (l : Launch) (hlt : l.stackTraces = false) (K : Kx) (V : Vx) (A B C D : MI) (P : MP) (hV : ∀ z, V.2.2 z) (n : Nat) (cs : CS K V P n) (z w : Int32) : CtX l K md_LP_give (10, 141) 2 12 [.ref (K.ad 0 0), .int z, .int w] V (bk4 A B C D) P (fun V' r I' P' => ∃ s, s < 2 ∧ z = nI s ∧ wn w 1 32 ∧ EQ V (some (.int (if A 0 s = 2 then (hndR s w n 0 0 A).1 else -1))) (bk4 (if A 0 s = 2 then wrIf (hndR s w n 0 0 A).1 (hndR s w n 0 0 A).2 s else A) B C D) P V' r I' P') (¬ (wn z 0 1 ∧ wn w 1 32)) := by
  refine ctx_of [(0, .ref (K.ad 0 0)), (1, .int z), (2, .int w)] (by decide) (Nat.le_of_ble_eq_true rfl) (ca_r (ca_i (ca_i ca_n))) rfl ?_
  intro X hl hXX
  have hX := hXX.1
  have h : OkX X b_LP_give R_LP K := hX.1
  have hN : X.nL = 4 := hX.2.1
  have hlt9 : X.l.stackTraces = false := by rw [hl]; exact hlt
  have hlv := cs_lv cs
  refine j_aload_n h d_LP_give_0 rfl ?_
  refine j_iload_n h d_LP_give_1 rfl ?_
  refine jx_callV h (c_LP_serverOf _ hlt9 _ _ _ _ _ _ _ hV _ cs _) d_LP_give_2 ml_LP_63 mv_LP_serverOf (by assumption) ⟨rfl, rfl⟩ rfl rfl (Nat.le_of_ble_eq_true rfl) (hRx hXX (by decide) (by decide)) (hfx hXX (by decide) (by decide)) (fun hx => jx_out hXX (by first | exact absurd hx (by decide) | (clear hX hXX h hl; simp_all [b01_0, wn]; done) | (clear hX hXX h hl; grind [b01_0, wn])) (by decide) (by decide)) ?_
  rintro _ _ _ _ ⟨s, hs, rfl, rfl, rfl, rfl, rfl⟩
  have hsv := cs_sv cs hs
  refine j_astore_n h d_LP_give_5 (Nat.lt_of_lt_of_eq (m := 4) (by decide) hN.symm) ?_
  refine j_iload_n h d_LP_give_6 rfl ?_
  refine j_iconst (v := 1) h d_LP_give_7 (by decide) ?_
  refine j_bipush (v := 32) h d_LP_give_8 (by decide) ?_
  refine j_callS h (c_LP_isWithin _ _ _ _ _ _ _ _ _ _ _) d_LP_give_10 ml_LP_51 ms_LP_isWithin rfl rfl (Nat.le_of_ble_eq_true rfl) (hRx hXX (by decide) (by decide)) (hfx hXX (by decide) (by decide)) ?_
  rintro _ _ _ _ ⟨rfl, rfl, rfl, rfl⟩
  refine jx_callS h (c_LP_need _ hlt9 _ _ _ _ hV _) d_LP_give_13 ml_LP_59 ms_LP_need rfl rfl (Nat.le_of_ble_eq_true rfl) (hRx hXX (by decide) (by decide)) (hfx hXX (by decide) (by decide)) (fun hx => jx_out hXX (by first | exact absurd hx (by decide) | (clear hX hXX h hl; simp_all [b01_0, wn]; done) | (clear hX hXX h hl; grind [b01_0, wn])) (by decide) (by decide)) ?_
  rintro _ _ _ _ ⟨⟨rfl, rfl, rfl, rfl⟩, cn13⟩
  refine j_aload_n h d_LP_give_16 rfl ?_
  refine j_get0 h d_LP_give_17 fl_LP_70 rfl (by assumption) ?_
  refine j_iconst (v := 2) h d_LP_give_20 (by decide) ?_
  refine j_ic_ne (tgt := 32) h d_LP_give_21 (by decide) (fun c1 => ?_) (fun c1 => ?_)
  · refine j_iconst (v := -1) h d_LP_give_32 (by decide) ?_
    exact jx_ret hXX (j_iret hX d_LP_give_33 rfl (by decide) (by decide) ⟨s, hs, rfl, (by clear hX hXX h hl; first | (simp_all [b01_0, wn]; done) | grind [b01_0, wn]), rfl, by clear hX hXX h hl; simp_all, by clear hX hXX h hl; simp_all, rfl⟩)
  · refine j_aload_n h d_LP_give_24 rfl ?_
    refine j_iload_n h d_LP_give_25 rfl ?_
    refine j_callV h (c_Srv_handOver _ _ _ _ _ _ _ _ _ cs _ hs _) d_LP_give_26 ml_LP_135 mv_Srv_handOver (by assumption) ⟨rfl, rfl⟩ rfl rfl (Nat.le_of_ble_eq_true rfl) (hRx hXX (by decide) (by decide)) (hfx hXX (by decide) (by decide)) ?_
    rintro _ _ _ _ ⟨rfl, rfl, rfl, rfl⟩
    refine j_goto (tgt := 33) h d_LP_give_29 (by decide) ?_
    exact jx_ret hXX (j_iret hX d_LP_give_33 rfl (by decide) (by decide) ⟨s, hs, rfl, (by clear hX hXX h hl; first | (simp_all [b01_0, wn]; done) | grind [b01_0, wn]), rfl, by clear hX hXX h hl; simp_all, by clear hX hXX h hl; simp_all, rfl⟩)
