/-! what the operations do, on the columns: servers (index s): 0 state 1 offset 2 epoch 3 live 4 heard 5 declared 6 fuse 7 writes; records (index 32 s + a): 10 kind 11 client 12 end 13 request 14 released 15 version 16 since 17 pending 18 known 19 seen 20 void 21 sole 22 fresh; clients: 30 leased 31 until 32 last 33 lastKind; 40 time 41 most 42 addresses 43 lead 44 skew -/
def gr (x y : Int32) : Int32 := if x < y then y else x
def b01 (c : Prop) [Decidable c] : Int32 := if c then 1 else 0
theorem b01_t {c : Prop} [Decidable c] (h : c) : b01 c = 1 := if_pos h
theorem b01_f {c : Prop} [Decidable c] (h : ¬ c) : b01 c = 0 := if_neg h
theorem b01_0 {c : Prop} [Decidable c] : b01 c = 0 ↔ ¬ c := by unfold b01; split <;> simp_all
theorem b01_1 {c : Prop} [Decidable c] : b01 c = 1 ↔ c := by unfold b01; split <;> simp_all
theorem b01_z (c : Prop) [Decidable c] : b01 c = 0 ∨ b01 c = 1 := by unfold b01; split <;> simp
def wr (A : MI) (s : Nat) : MI :=
  if A 6 s = 1 then up (up (up A 7 s (A 7 s + 1)) 0 s 0) 6 s 0 else if 1 < A 6 s then up (up A 7 s (A 7 s + 1)) 6 s (A 6 s - 1) else up A 7 s (A 7 s + 1)
def chg (A : MI) (r : Nat) : MI := up (up A 15 r (A 15 r + 1)) 17 r 1
def chgTo (A : MI) (r : Nat) (k : Int32) : MI := chg (up A 10 r k) r
def bnd (A : MI) (r : Nat) (c e q sn : Int32) : MI := up (up (up (up (up (up (up A 10 r 2) 11 r c) 12 r e) 13 r q) 14 r 0) 16 r sn) 18 r 0
def settle (A : MI) (r : Nat) (k : Int32) : MI := up (up A 10 r k) 17 r 0
theorem d_Rec_change_0 : decode b_Rec_change 0 = .ok (.aload_n 0, 1) := by decide +kernel
theorem d_Rec_change_1 : decode b_Rec_change 1 = .ok (.dup, 1) := by decide +kernel
theorem d_Rec_change_2 : decode b_Rec_change 2 = .ok (.getfield 18, 3) := by decide +kernel
theorem d_Rec_change_5 : decode b_Rec_change 5 = .ok (.iconst 1, 1) := by decide +kernel
theorem d_Rec_change_6 : decode b_Rec_change 6 = .ok (.iadd, 1) := by decide +kernel
theorem d_Rec_change_7 : decode b_Rec_change 7 = .ok (.putfield 18, 3) := by decide +kernel
theorem d_Rec_change_10 : decode b_Rec_change 10 = .ok (.aload_n 0, 1) := by decide +kernel
theorem d_Rec_change_11 : decode b_Rec_change 11 = .ok (.iconst 1, 1) := by decide +kernel
theorem d_Rec_change_12 : decode b_Rec_change 12 = .ok (.putfield 21, 3) := by decide +kernel
theorem d_Rec_change_15 : decode b_Rec_change 15 = .ok (.return_, 1) := by decide +kernel
set_option maxRecDepth 100000 in
set_option maxHeartbeats 4000000 in
theorem c_Rec_change (l : Launch) (K : Kx) (V : Vx) (A B C D : MI) (P : MP) (r : Nat) (hr : V.1 2 r) : Ct l K md_Rec_change (0, 0) 0 0 [.ref (K.ad 2 r)] V (bk4 A B C D) P (EQ V (none) (bk4 (chg A r) B C D) P) := by
  refine ct_of [(0, .ref (K.ad 2 r))] (by decide) (Nat.le_of_ble_eq_true rfl) (ca_r ca_n) rfl ?_
  intro X hl hX
  have h : OkX X b_Rec_change R_Rec K := hX.1
  have hN : X.nL = 1 := hX.2.1
  refine j_aload_n h d_Rec_change_0 rfl ?_
  refine j_dup h d_Rec_change_1 rfl ?_
  refine j_get0 h d_Rec_change_2 fl_Rec_18 rfl (by assumption) ?_
  refine j_iconst (v := 1) h d_Rec_change_5 (by decide) ?_
  refine j_iadd h d_Rec_change_6 ?_
  refine j_put0 h d_Rec_change_7 fw_Rec_18 rfl rfl (by assumption) ?_
  refine j_aload_n h d_Rec_change_10 rfl ?_
  refine j_iconst (v := 1) h d_Rec_change_11 (by decide) ?_
  refine j_putZ0 h d_Rec_change_12 fw_Rec_21 rfl rfl (by assumption) (by first | exact Or.inl rfl | exact Or.inr rfl | assumption) ?_
  exact j_vret hX d_Rec_change_15 rfl (Nat.le_refl _) (Nat.le_refl _) ⟨rfl, rfl, rfl, rfl⟩
theorem d_Rec_changeTo_0 : decode b_Rec_changeTo 0 = .ok (.aload_n 0, 1) := by decide +kernel
theorem d_Rec_changeTo_1 : decode b_Rec_changeTo 1 = .ok (.iload_n 1, 1) := by decide +kernel
theorem d_Rec_changeTo_2 : decode b_Rec_changeTo 2 = .ok (.putfield 9, 3) := by decide +kernel
theorem d_Rec_changeTo_5 : decode b_Rec_changeTo 5 = .ok (.aload_n 0, 1) := by decide +kernel
theorem d_Rec_changeTo_6 : decode b_Rec_changeTo 6 = .ok (.invokevirtual 25, 3) := by decide +kernel
theorem d_Rec_changeTo_9 : decode b_Rec_changeTo 9 = .ok (.return_, 1) := by decide +kernel
set_option maxRecDepth 100000 in
set_option maxHeartbeats 4000000 in
theorem c_Rec_changeTo (l : Launch) (K : Kx) (V : Vx) (A B C D : MI) (P : MP) (r : Nat) (hr : V.1 2 r) (k : Int32) : Ct l K md_Rec_changeTo (1, 20) 0 0 [.ref (K.ad 2 r), .int k] V (bk4 A B C D) P (EQ V (none) (bk4 (chgTo A r k) B C D) P) := by
  refine ct_of [(0, .ref (K.ad 2 r)), (1, .int k)] (by decide) (Nat.le_of_ble_eq_true rfl) (ca_r (ca_i ca_n)) rfl ?_
  intro X hl hX
  have h : OkX X b_Rec_changeTo R_Rec K := hX.1
  have hN : X.nL = 2 := hX.2.1
  refine j_aload_n h d_Rec_changeTo_0 rfl ?_
  refine j_iload_n h d_Rec_changeTo_1 rfl ?_
  refine j_put0 h d_Rec_changeTo_2 fw_Rec_9 rfl rfl (by assumption) ?_
  refine j_aload_n h d_Rec_changeTo_5 rfl ?_
  refine j_callV h (c_Rec_change _ _ _ _ _ _ _ _ _ hr) d_Rec_changeTo_6 ml_Rec_25 mv_Rec_change (by assumption) ⟨rfl, rfl⟩ rfl rfl (Nat.le_of_ble_eq_true rfl) (hR_of hX (by decide) (by decide)) (hf_of hX (by decide) (by decide)) ?_
  rintro _ _ _ _ ⟨rfl, rfl, rfl, rfl⟩
  exact j_vret hX d_Rec_changeTo_9 rfl (Nat.le_refl _) (Nat.le_refl _) ⟨rfl, rfl, rfl, rfl⟩
theorem d_Rec_bind_0 : decode b_Rec_bind 0 = .ok (.aload_n 0, 1) := by decide +kernel
theorem d_Rec_bind_1 : decode b_Rec_bind 1 = .ok (.iconst 2, 1) := by decide +kernel
theorem d_Rec_bind_2 : decode b_Rec_bind 2 = .ok (.putfield 9, 3) := by decide +kernel
theorem d_Rec_bind_5 : decode b_Rec_bind 5 = .ok (.aload_n 0, 1) := by decide +kernel
theorem d_Rec_bind_6 : decode b_Rec_bind 6 = .ok (.iload_n 1, 1) := by decide +kernel
theorem d_Rec_bind_7 : decode b_Rec_bind 7 = .ok (.putfield 15, 3) := by decide +kernel
theorem d_Rec_bind_10 : decode b_Rec_bind 10 = .ok (.aload_n 0, 1) := by decide +kernel
theorem d_Rec_bind_11 : decode b_Rec_bind 11 = .ok (.iload_n 2, 1) := by decide +kernel
theorem d_Rec_bind_12 : decode b_Rec_bind 12 = .ok (.putfield 28, 3) := by decide +kernel
theorem d_Rec_bind_15 : decode b_Rec_bind 15 = .ok (.aload_n 0, 1) := by decide +kernel
theorem d_Rec_bind_16 : decode b_Rec_bind 16 = .ok (.iload_n 3, 1) := by decide +kernel
theorem d_Rec_bind_17 : decode b_Rec_bind 17 = .ok (.putfield 31, 3) := by decide +kernel
theorem d_Rec_bind_20 : decode b_Rec_bind 20 = .ok (.aload_n 0, 1) := by decide +kernel
theorem d_Rec_bind_21 : decode b_Rec_bind 21 = .ok (.iconst 0, 1) := by decide +kernel
theorem d_Rec_bind_22 : decode b_Rec_bind 22 = .ok (.putfield 34, 3) := by decide +kernel
theorem d_Rec_bind_25 : decode b_Rec_bind 25 = .ok (.aload_n 0, 1) := by decide +kernel
theorem d_Rec_bind_26 : decode b_Rec_bind 26 = .ok (.iload 4, 2) := by decide +kernel
theorem d_Rec_bind_28 : decode b_Rec_bind 28 = .ok (.putfield 37, 3) := by decide +kernel
theorem d_Rec_bind_31 : decode b_Rec_bind 31 = .ok (.aload_n 0, 1) := by decide +kernel
theorem d_Rec_bind_32 : decode b_Rec_bind 32 = .ok (.iconst 0, 1) := by decide +kernel
theorem d_Rec_bind_33 : decode b_Rec_bind 33 = .ok (.putfield 40, 3) := by decide +kernel
theorem d_Rec_bind_36 : decode b_Rec_bind 36 = .ok (.return_, 1) := by decide +kernel
set_option maxRecDepth 100000 in
set_option maxHeartbeats 4000000 in
theorem c_Rec_bind (l : Launch) (K : Kx) (V : Vx) (A B C D : MI) (P : MP) (r : Nat) (hr : V.1 2 r) (c e q sn : Int32) : Ct l K md_Rec_bind (0, 0) 0 0 [.ref (K.ad 2 r), .int c, .int e, .int q, .int sn] V (bk4 A B C D) P (EQ V (none) (bk4 (bnd A r c e q sn) B C D) P) := by
  refine ct_of [(0, .ref (K.ad 2 r)), (1, .int c), (2, .int e), (3, .int q), (4, .int sn)] (by decide) (Nat.le_of_ble_eq_true rfl) (ca_r (ca_i (ca_i (ca_i (ca_i ca_n))))) rfl ?_
  intro X hl hX
  have h : OkX X b_Rec_bind R_Rec K := hX.1
  have hN : X.nL = 5 := hX.2.1
  refine j_aload_n h d_Rec_bind_0 rfl ?_
  refine j_iconst (v := 2) h d_Rec_bind_1 (by decide) ?_
  refine j_put0 h d_Rec_bind_2 fw_Rec_9 rfl rfl (by assumption) ?_
  refine j_aload_n h d_Rec_bind_5 rfl ?_
  refine j_iload_n h d_Rec_bind_6 rfl ?_
  refine j_put0 h d_Rec_bind_7 fw_Rec_15 rfl rfl (by assumption) ?_
  refine j_aload_n h d_Rec_bind_10 rfl ?_
  refine j_iload_n h d_Rec_bind_11 rfl ?_
  refine j_put0 h d_Rec_bind_12 fw_Rec_28 rfl rfl (by assumption) ?_
  refine j_aload_n h d_Rec_bind_15 rfl ?_
  refine j_iload_n h d_Rec_bind_16 rfl ?_
  refine j_put0 h d_Rec_bind_17 fw_Rec_31 rfl rfl (by assumption) ?_
  refine j_aload_n h d_Rec_bind_20 rfl ?_
  refine j_iconst (v := 0) h d_Rec_bind_21 (by decide) ?_
  refine j_putZ0 h d_Rec_bind_22 fw_Rec_34 rfl rfl (by assumption) (by first | exact Or.inl rfl | exact Or.inr rfl | assumption) ?_
  refine j_aload_n h d_Rec_bind_25 rfl ?_
  refine j_iload h d_Rec_bind_26 rfl ?_
  refine j_put0 h d_Rec_bind_28 fw_Rec_37 rfl rfl (by assumption) ?_
  refine j_aload_n h d_Rec_bind_31 rfl ?_
  refine j_iconst (v := 0) h d_Rec_bind_32 (by decide) ?_
  refine j_put0 h d_Rec_bind_33 fw_Rec_40 rfl rfl (by assumption) ?_
  exact j_vret hX d_Rec_bind_36 rfl (Nat.le_refl _) (Nat.le_refl _) ⟨rfl, rfl, rfl, rfl⟩
theorem d_Rec_settle_0 : decode b_Rec_settle 0 = .ok (.aload_n 0, 1) := by decide +kernel
theorem d_Rec_settle_1 : decode b_Rec_settle 1 = .ok (.iload_n 1, 1) := by decide +kernel
theorem d_Rec_settle_2 : decode b_Rec_settle 2 = .ok (.putfield 9, 3) := by decide +kernel
theorem d_Rec_settle_5 : decode b_Rec_settle 5 = .ok (.aload_n 0, 1) := by decide +kernel
theorem d_Rec_settle_6 : decode b_Rec_settle 6 = .ok (.iconst 0, 1) := by decide +kernel
theorem d_Rec_settle_7 : decode b_Rec_settle 7 = .ok (.putfield 21, 3) := by decide +kernel
theorem d_Rec_settle_10 : decode b_Rec_settle 10 = .ok (.return_, 1) := by decide +kernel
set_option maxRecDepth 100000 in
set_option maxHeartbeats 4000000 in
theorem c_Rec_settle (l : Launch) (K : Kx) (V : Vx) (A B C D : MI) (P : MP) (r : Nat) (hr : V.1 2 r) (k : Int32) : Ct l K md_Rec_settle (0, 0) 0 0 [.ref (K.ad 2 r), .int k] V (bk4 A B C D) P (EQ V (none) (bk4 (settle A r k) B C D) P) := by
  refine ct_of [(0, .ref (K.ad 2 r)), (1, .int k)] (by decide) (Nat.le_of_ble_eq_true rfl) (ca_r (ca_i ca_n)) rfl ?_
  intro X hl hX
  have h : OkX X b_Rec_settle R_Rec K := hX.1
  have hN : X.nL = 2 := hX.2.1
  refine j_aload_n h d_Rec_settle_0 rfl ?_
  refine j_iload_n h d_Rec_settle_1 rfl ?_
  refine j_put0 h d_Rec_settle_2 fw_Rec_9 rfl rfl (by assumption) ?_
  refine j_aload_n h d_Rec_settle_5 rfl ?_
  refine j_iconst (v := 0) h d_Rec_settle_6 (by decide) ?_
  refine j_putZ0 h d_Rec_settle_7 fw_Rec_21 rfl rfl (by assumption) (by first | exact Or.inl rfl | exact Or.inr rfl | assumption) ?_
  exact j_vret hX d_Rec_settle_10 rfl (Nat.le_refl _) (Nat.le_refl _) ⟨rfl, rfl, rfl, rfl⟩
theorem d_Rec_isBoundTo_0 : decode b_Rec_isBoundTo 0 = .ok (.aload_n 0, 1) := by decide +kernel
theorem d_Rec_isBoundTo_1 : decode b_Rec_isBoundTo 1 = .ok (.getfield 9, 3) := by decide +kernel
theorem d_Rec_isBoundTo_4 : decode b_Rec_isBoundTo 4 = .ok (.iconst 2, 1) := by decide +kernel
theorem d_Rec_isBoundTo_5 : decode b_Rec_isBoundTo 5 = .ok (.if_icmp .ne 15, 3) := by decide +kernel
theorem d_Rec_isBoundTo_8 : decode b_Rec_isBoundTo 8 = .ok (.aload_n 0, 1) := by decide +kernel
theorem d_Rec_isBoundTo_9 : decode b_Rec_isBoundTo 9 = .ok (.getfield 15, 3) := by decide +kernel
theorem d_Rec_isBoundTo_12 : decode b_Rec_isBoundTo 12 = .ok (.iload_n 1, 1) := by decide +kernel
theorem d_Rec_isBoundTo_13 : decode b_Rec_isBoundTo 13 = .ok (.if_icmp .ne 7, 3) := by decide +kernel
theorem d_Rec_isBoundTo_16 : decode b_Rec_isBoundTo 16 = .ok (.iconst 1, 1) := by decide +kernel
theorem d_Rec_isBoundTo_17 : decode b_Rec_isBoundTo 17 = .ok (.goto 4, 3) := by decide +kernel
theorem d_Rec_isBoundTo_20 : decode b_Rec_isBoundTo 20 = .ok (.iconst 0, 1) := by decide +kernel
theorem d_Rec_isBoundTo_21 : decode b_Rec_isBoundTo 21 = .ok (.ireturn, 1) := by decide +kernel
set_option maxRecDepth 100000 in
set_option maxHeartbeats 4000000 in
theorem c_Rec_isBoundTo (l : Launch) (K : Kx) (V : Vx) (A B C D : MI) (P : MP) (r : Nat) (hr : V.1 2 r) (x : Int32) : Ct l K md_Rec_isBoundTo (0, 0) 0 0 [.ref (K.ad 2 r), .int x] V (bk4 A B C D) P (EQ V (some (.int (b01 (A 10 r = 2 ∧ A 11 r = x)))) (bk4 A B C D) P) := by
  refine ct_of [(0, .ref (K.ad 2 r)), (1, .int x)] (by decide) (Nat.le_of_ble_eq_true rfl) (ca_r (ca_i ca_n)) rfl ?_
  intro X hl hX
  have h : OkX X b_Rec_isBoundTo R_Rec K := hX.1
  have hN : X.nL = 2 := hX.2.1
  refine j_aload_n h d_Rec_isBoundTo_0 rfl ?_
  refine j_get0 h d_Rec_isBoundTo_1 fl_Rec_9 rfl (by assumption) ?_
  refine j_iconst (v := 2) h d_Rec_isBoundTo_4 (by decide) ?_
  refine j_ic_ne (tgt := 20) h d_Rec_isBoundTo_5 (by decide) (fun c1 => ?_) (fun c1 => ?_)
  · refine j_iconst (v := 0) h d_Rec_isBoundTo_20 (by decide) ?_
    exact j_zret hX d_Rec_isBoundTo_21 rfl (by first | exact Or.inl rfl | exact Or.inr rfl | exact b01_z _ | assumption) (Nat.le_refl _) (Nat.le_refl _) ⟨rfl, by simp_all [b01], rfl, rfl⟩
  · refine j_aload_n h d_Rec_isBoundTo_8 rfl ?_
    refine j_get0 h d_Rec_isBoundTo_9 fl_Rec_15 rfl (by assumption) ?_
    refine j_iload_n h d_Rec_isBoundTo_12 rfl ?_
    refine j_ic_ne (tgt := 20) h d_Rec_isBoundTo_13 (by decide) (fun c2 => ?_) (fun c2 => ?_)
    · refine j_iconst (v := 0) h d_Rec_isBoundTo_20 (by decide) ?_
      exact j_zret hX d_Rec_isBoundTo_21 rfl (by first | exact Or.inl rfl | exact Or.inr rfl | exact b01_z _ | assumption) (Nat.le_refl _) (Nat.le_refl _) ⟨rfl, by simp_all [b01], rfl, rfl⟩
    · refine j_iconst (v := 1) h d_Rec_isBoundTo_16 (by decide) ?_
      refine j_goto (tgt := 21) h d_Rec_isBoundTo_17 (by decide) ?_
      exact j_zret hX d_Rec_isBoundTo_21 rfl (by first | exact Or.inl rfl | exact Or.inr rfl | exact b01_z _ | assumption) (Nat.le_refl _) (Nat.le_refl _) ⟨rfl, by simp_all [b01], rfl, rfl⟩
