/-! the model: what a caller may ask -/
def MRp (V : Vx) (A B : MI) (P : MP) (r : Option Value) (C : MI) (code : Int32) (N : List Msg) : Px := fun V' r' I' P' => V' = V ∧ r' = r ∧ P' = P ∧ ∃ D', I' = bk4 A B C D' ∧ D' 70 0 = code ∧ MN D' N
theorem MN_70 {D : MI} {N : List Msg} {v : Int32} (h : MN D N) : MN (up D 70 0 v) N := ⟨h.1, (up_c _ _ (by decide)).trans h.2.1, fun k x hk w hw => (up_c _ _ (by decide)).trans (h.2.2 k x hk w hw)⟩
theorem i_add {a b : Int32} (h1 : -2147483648 ≤ a.toInt + b.toInt) (h2 : a.toInt + b.toInt < 2147483648) : (a + b).toInt = a.toInt + b.toInt := by
  rw [Int32.toInt_add]
  exact Int.bmod_eq_of_le (by omega) (by omega)
theorem i_sub {a b : Int32} (h1 : -2147483648 ≤ a.toInt - b.toInt) (h2 : a.toInt - b.toInt < 2147483648) : (a - b).toInt = a.toInt - b.toInt := by
  rw [Int32.toInt_sub]
  exact Int.bmod_eq_of_le (by omega) (by omega)
theorem tm_ok {t z : Int32} (ht : wn t 0 1000000000) (hz : wn z 0 100000) : t + z ≤ 1000000000 ↔ z ≤ 1000000000 - t := by
  obtain ⟨a, ha, rfl⟩ := wn_nat (b := 1000000000) (by decide) ht
  obtain ⟨b, hb, rfl⟩ := wn_nat (b := 100000) (by decide) hz
  have e1 := nI_toInt (n := a) (by omega)
  have e2 := nI_toInt (n := b) (by omega)
  have e3 : (1000000000 : Int32).toInt = 1000000000 := rfl
  rw [Int32.le_iff_toInt_le, Int32.le_iff_toInt_le, i_add (by omega) (by omega), i_sub (by omega) (by omega), e1, e2, e3]
  omega
theorem srv01 {s : Nat} (h : s < 2) : nI s = 0 ∨ nI s = 1 := by
  rcases (show s = 0 ∨ s = 1 by omega) with rfl | rfl
  · exact Or.inl rfl
  · exact Or.inr rfl
theorem d_Mod_isPlace_0 : decode b_Mod_isPlace 0 = .ok (.iload_n 1, 1) := by decide +kernel
theorem d_Mod_isPlace_1 : decode b_Mod_isPlace 1 = .ok (.ifCond .lt 15, 3) := by decide +kernel
theorem d_Mod_isPlace_4 : decode b_Mod_isPlace 4 = .ok (.iload_n 1, 1) := by decide +kernel
theorem d_Mod_isPlace_5 : decode b_Mod_isPlace 5 = .ok (.aload_n 0, 1) := by decide +kernel
theorem d_Mod_isPlace_6 : decode b_Mod_isPlace 6 = .ok (.getfield 114, 3) := by decide +kernel
theorem d_Mod_isPlace_9 : decode b_Mod_isPlace 9 = .ok (.if_icmp .ge 7, 3) := by decide +kernel
theorem d_Mod_isPlace_12 : decode b_Mod_isPlace 12 = .ok (.iconst 1, 1) := by decide +kernel
theorem d_Mod_isPlace_13 : decode b_Mod_isPlace 13 = .ok (.goto 4, 3) := by decide +kernel
theorem d_Mod_isPlace_16 : decode b_Mod_isPlace 16 = .ok (.iconst 0, 1) := by decide +kernel
theorem d_Mod_isPlace_17 : decode b_Mod_isPlace 17 = .ok (.ireturn, 1) := by decide +kernel
set_option maxRecDepth 100000 in
set_option maxHeartbeats 4000000 in
theorem c_Mod_isPlace (l : Launch) (K : Kx) (V : Vx) (A B C D : MI) (P : MP) (ms : MSt K V P) (N : List Msg) (hm : MN D N) (z : Int32) : Ct l K md_Mod_isPlace (0, 0) 0 0 [.ref (K.ad 6 0), .int z] V (bk4 A B C D) P (EQ V (some (.int (b01 (¬ z < 0 ∧ ¬ nI N.length ≤ z)))) (bk4 A B C D) P) := by
  refine ct_of [(0, .ref (K.ad 6 0)), (1, .int z)] (by decide) (Nat.le_of_ble_eq_true rfl) (ca_r (ca_i ca_n)) rfl ?_
  intro X hl hX
  have h : OkX X b_Mod_isPlace R_Mod K := hX.1
  have hN : X.nL = 2 := hX.2.1
  have hmv := ms.1
  refine j_iload_n h d_Mod_isPlace_0 rfl ?_
  refine j_if_lt (tgt := 16) h d_Mod_isPlace_1 (by decide) (fun c1 => ?_) (fun c1 => ?_)
  · refine j_iconst (v := 0) h d_Mod_isPlace_16 (by decide) ?_
    exact j_zret hX d_Mod_isPlace_17 rfl (by first | exact Or.inl rfl | exact Or.inr rfl | exact b01_z _ | assumption) (Nat.le_refl _) (Nat.le_refl _) ⟨rfl, by clear hX h hl; first | (simp_all [b01]; done) | grind [b01], rfl, rfl⟩
  · refine j_iload_n h d_Mod_isPlace_4 rfl ?_
    refine j_aload_n h d_Mod_isPlace_5 rfl ?_
    refine j_get3e (v := nI N.length) h d_Mod_isPlace_6 fl_Mod_114 rfl (by assumption) (by first | exact hm.2.1 | exact (MN_70 hm).2.1) ?_
    refine j_ic_ge (tgt := 16) h d_Mod_isPlace_9 (by decide) (fun c2 => ?_) (fun c2 => ?_)
    · refine j_iconst (v := 0) h d_Mod_isPlace_16 (by decide) ?_
      exact j_zret hX d_Mod_isPlace_17 rfl (by first | exact Or.inl rfl | exact Or.inr rfl | exact b01_z _ | assumption) (Nat.le_refl _) (Nat.le_refl _) ⟨rfl, by clear hX h hl; first | (simp_all [b01]; done) | grind [b01], rfl, rfl⟩
    · refine j_iconst (v := 1) h d_Mod_isPlace_12 (by decide) ?_
      refine j_goto (tgt := 17) h d_Mod_isPlace_13 (by decide) ?_
      exact j_zret hX d_Mod_isPlace_17 rfl (by first | exact Or.inl rfl | exact Or.inr rfl | exact b01_z _ | assumption) (Nat.le_refl _) (Nat.le_refl _) ⟨rfl, by clear hX h hl; first | (simp_all [b01]; done) | grind [b01], rfl, rfl⟩
theorem d_Mod_seconds_0 : decode b_Mod_seconds 0 = .ok (.aload_n 0, 1) := by decide +kernel
theorem d_Mod_seconds_1 : decode b_Mod_seconds 1 = .ok (.iload_n 1, 1) := by decide +kernel
theorem d_Mod_seconds_2 : decode b_Mod_seconds 2 = .ok (.ifCond .lt 24, 3) := by decide +kernel
theorem d_Mod_seconds_5 : decode b_Mod_seconds 5 = .ok (.iload_n 1, 1) := by decide +kernel
theorem d_Mod_seconds_6 : decode b_Mod_seconds 6 = .ok (.ldc 200, 2) := by decide +kernel
theorem d_Mod_seconds_8 : decode b_Mod_seconds 8 = .ok (.if_icmp .gt 18, 3) := by decide +kernel
theorem d_Mod_seconds_11 : decode b_Mod_seconds 11 = .ok (.aload_n 0, 1) := by decide +kernel
theorem d_Mod_seconds_12 : decode b_Mod_seconds 12 = .ok (.getfield 111, 3) := by decide +kernel
theorem d_Mod_seconds_15 : decode b_Mod_seconds 15 = .ok (.iload_n 1, 1) := by decide +kernel
theorem d_Mod_seconds_16 : decode b_Mod_seconds 16 = .ok (.iadd, 1) := by decide +kernel
theorem d_Mod_seconds_17 : decode b_Mod_seconds 17 = .ok (.ldc 201, 2) := by decide +kernel
theorem d_Mod_seconds_19 : decode b_Mod_seconds 19 = .ok (.if_icmp .gt 7, 3) := by decide +kernel
theorem d_Mod_seconds_22 : decode b_Mod_seconds 22 = .ok (.iconst 1, 1) := by decide +kernel
theorem d_Mod_seconds_23 : decode b_Mod_seconds 23 = .ok (.goto 4, 3) := by decide +kernel
theorem d_Mod_seconds_26 : decode b_Mod_seconds 26 = .ok (.iconst 0, 1) := by decide +kernel
theorem d_Mod_seconds_27 : decode b_Mod_seconds 27 = .ok (.invokevirtual 202, 3) := by decide +kernel
theorem d_Mod_seconds_30 : decode b_Mod_seconds 30 = .ok (.ifCond .ne 5, 3) := by decide +kernel
theorem d_Mod_seconds_33 : decode b_Mod_seconds 33 = .ok (.iconst 0, 1) := by decide +kernel
theorem d_Mod_seconds_34 : decode b_Mod_seconds 34 = .ok (.ireturn, 1) := by decide +kernel
theorem d_Mod_seconds_35 : decode b_Mod_seconds 35 = .ok (.aload_n 0, 1) := by decide +kernel
theorem d_Mod_seconds_36 : decode b_Mod_seconds 36 = .ok (.dup, 1) := by decide +kernel
theorem d_Mod_seconds_37 : decode b_Mod_seconds 37 = .ok (.getfield 111, 3) := by decide +kernel
theorem d_Mod_seconds_40 : decode b_Mod_seconds 40 = .ok (.iload_n 1, 1) := by decide +kernel
theorem d_Mod_seconds_41 : decode b_Mod_seconds 41 = .ok (.iadd, 1) := by decide +kernel
theorem d_Mod_seconds_42 : decode b_Mod_seconds 42 = .ok (.putfield 111, 3) := by decide +kernel
theorem d_Mod_seconds_45 : decode b_Mod_seconds 45 = .ok (.aload_n 0, 1) := by decide +kernel
theorem d_Mod_seconds_46 : decode b_Mod_seconds 46 = .ok (.getfield 111, 3) := by decide +kernel
theorem d_Mod_seconds_49 : decode b_Mod_seconds 49 = .ok (.ireturn, 1) := by decide +kernel
set_option maxRecDepth 100000 in
set_option maxHeartbeats 4000000 in
theorem c_Mod_seconds_no (l : Launch) (K : Kx) (V : Vx) (A B C D : MI) (P : MP) (ms : MSt K V P) (N : List Msg) (hm : MN D N) (z : Int32) (ht : wn (C 40 0) 0 1000000000) (hno : ¬ (wn z 0 100000 ∧ C 40 0 + z ≤ 1000000000)) : Ct l K md_Mod_seconds (1, 21) 0 0 [.ref (K.ad 6 0), .int z] V (bk4 A B C D) P (MRp V A B P (some (.int 0)) C 1 N) := by
  refine ct_of [(0, .ref (K.ad 6 0)), (1, .int z)] (by decide) (Nat.le_of_ble_eq_true rfl) (ca_r (ca_i ca_n)) rfl ?_
  intro X hl hX
  have h : OkX X b_Mod_seconds R_Mod K := hX.1
  have hN : X.nL = 2 := hX.2.1
  have hmv := ms.1
  refine j_aload_n h d_Mod_seconds_0 rfl ?_
  refine j_iload_n h d_Mod_seconds_1 rfl ?_
  refine j_if_lt (tgt := 26) h d_Mod_seconds_2 (by decide) (fun c1 => ?_) (fun c1 => ?_)
  · refine j_iconst (v := 0) h d_Mod_seconds_26 (by decide) ?_
    refine j_callV h (c_Mod_isRight _ _ _ _ _ _ _ _ ms _ (by first | exact Or.inl rfl | exact Or.inr rfl)) d_Mod_seconds_27 ml_Mod_202 mv_Mod_isRight (by assumption) ⟨rfl, rfl⟩ rfl rfl (Nat.le_of_ble_eq_true rfl) (hR_of hX (by decide) (by decide)) (hf_of hX (by decide) (by decide)) ?_
    rintro _ _ _ _ ⟨rfl, rfl, rfl, rfl⟩
    refine j_if_ne (tgt := 35) h d_Mod_seconds_30 (by decide) (fun c2 => absurd c2 (by decide)) (fun c2 => ?_)
    refine j_iconst (v := 0) h d_Mod_seconds_33 (by decide) ?_
    exact j_iret hX d_Mod_seconds_34 rfl (Nat.le_refl _) (Nat.le_refl _) ⟨rfl, rfl, rfl, _, rfl, by simp [up_rd], by first | exact MN_70 hm | exact hm | exact hm3⟩
  · refine j_iload_n h d_Mod_seconds_5 rfl ?_
    refine j_ldc h d_Mod_seconds_6 wc_Mod_200 ?_
    refine j_ic_gt (tgt := 26) h d_Mod_seconds_8 (by decide) (fun c3 => ?_) (fun c3 => ?_)
    · refine j_iconst (v := 0) h d_Mod_seconds_26 (by decide) ?_
      refine j_callV h (c_Mod_isRight _ _ _ _ _ _ _ _ ms _ (by first | exact Or.inl rfl | exact Or.inr rfl)) d_Mod_seconds_27 ml_Mod_202 mv_Mod_isRight (by assumption) ⟨rfl, rfl⟩ rfl rfl (Nat.le_of_ble_eq_true rfl) (hR_of hX (by decide) (by decide)) (hf_of hX (by decide) (by decide)) ?_
      rintro _ _ _ _ ⟨rfl, rfl, rfl, rfl⟩
      refine j_if_ne (tgt := 35) h d_Mod_seconds_30 (by decide) (fun c4 => absurd c4 (by decide)) (fun c4 => ?_)
      refine j_iconst (v := 0) h d_Mod_seconds_33 (by decide) ?_
      exact j_iret hX d_Mod_seconds_34 rfl (Nat.le_refl _) (Nat.le_refl _) ⟨rfl, rfl, rfl, _, rfl, by simp [up_rd], by first | exact MN_70 hm | exact hm | exact hm3⟩
    · refine j_aload_n h d_Mod_seconds_11 rfl ?_
      refine j_get2 h d_Mod_seconds_12 fl_Mod_111 rfl (by assumption) ?_
      refine j_iload_n h d_Mod_seconds_15 rfl ?_
      refine j_iadd h d_Mod_seconds_16 ?_
      refine j_ldc h d_Mod_seconds_17 wc_Mod_201 ?_
      refine j_ic_gt (tgt := 26) h d_Mod_seconds_19 (by decide) (fun c5 => ?_) (fun c5 => ?_)
      · refine j_iconst (v := 0) h d_Mod_seconds_26 (by decide) ?_
        refine j_callV h (c_Mod_isRight _ _ _ _ _ _ _ _ ms _ (by first | exact Or.inl rfl | exact Or.inr rfl)) d_Mod_seconds_27 ml_Mod_202 mv_Mod_isRight (by assumption) ⟨rfl, rfl⟩ rfl rfl (Nat.le_of_ble_eq_true rfl) (hR_of hX (by decide) (by decide)) (hf_of hX (by decide) (by decide)) ?_
        rintro _ _ _ _ ⟨rfl, rfl, rfl, rfl⟩
        refine j_if_ne (tgt := 35) h d_Mod_seconds_30 (by decide) (fun c6 => absurd c6 (by decide)) (fun c6 => ?_)
        refine j_iconst (v := 0) h d_Mod_seconds_33 (by decide) ?_
        exact j_iret hX d_Mod_seconds_34 rfl (Nat.le_refl _) (Nat.le_refl _) ⟨rfl, rfl, rfl, _, rfl, by simp [up_rd], by first | exact MN_70 hm | exact hm | exact hm3⟩
      · refine j_iconst (v := 1) h d_Mod_seconds_22 (by decide) ?_
        refine j_goto (tgt := 27) h d_Mod_seconds_23 (by decide) ?_
        exfalso
        clear hX h hl
        first | (simp_all [wn, b01_0, b01_1]; done) | grind [wn, b01_0, b01_1]
set_option maxRecDepth 100000 in
set_option maxHeartbeats 4000000 in
theorem c_Mod_seconds_ok (l : Launch) (K : Kx) (V : Vx) (A B C D : MI) (P : MP) (ms : MSt K V P) (N : List Msg) (hm : MN D N) (z : Int32) (hz : wn z 0 100000) (hz2 : C 40 0 + z ≤ 1000000000) : Ct l K md_Mod_seconds (1, 21) 0 0 [.ref (K.ad 6 0), .int z] V (bk4 A B C D) P (MRp V A B P (some (.int (C 40 0 + z))) (up C 40 0 (C 40 0 + z)) 0 N) := by
  refine ct_of [(0, .ref (K.ad 6 0)), (1, .int z)] (by decide) (Nat.le_of_ble_eq_true rfl) (ca_r (ca_i ca_n)) rfl ?_
  intro X hl hX
  have h : OkX X b_Mod_seconds R_Mod K := hX.1
  have hN : X.nL = 2 := hX.2.1
  have hmv := ms.1
  refine j_aload_n h d_Mod_seconds_0 rfl ?_
  refine j_iload_n h d_Mod_seconds_1 rfl ?_
  refine j_if_lt (tgt := 26) h d_Mod_seconds_2 (by decide) (fun c1 => ?_) (fun c1 => ?_)
  · refine j_iconst (v := 0) h d_Mod_seconds_26 (by decide) ?_
    exfalso
    clear hX h hl
    first | (simp_all [wn, b01_0, b01_1]; done) | grind [wn, b01_0, b01_1]
  · refine j_iload_n h d_Mod_seconds_5 rfl ?_
    refine j_ldc h d_Mod_seconds_6 wc_Mod_200 ?_
    refine j_ic_gt (tgt := 26) h d_Mod_seconds_8 (by decide) (fun c2 => ?_) (fun c2 => ?_)
    · refine j_iconst (v := 0) h d_Mod_seconds_26 (by decide) ?_
      exfalso
      clear hX h hl
      first | (simp_all [wn, b01_0, b01_1]; done) | grind [wn, b01_0, b01_1]
    · refine j_aload_n h d_Mod_seconds_11 rfl ?_
      refine j_get2 h d_Mod_seconds_12 fl_Mod_111 rfl (by assumption) ?_
      refine j_iload_n h d_Mod_seconds_15 rfl ?_
      refine j_iadd h d_Mod_seconds_16 ?_
      refine j_ldc h d_Mod_seconds_17 wc_Mod_201 ?_
      refine j_ic_gt (tgt := 26) h d_Mod_seconds_19 (by decide) (fun c3 => ?_) (fun c3 => ?_)
      · refine j_iconst (v := 0) h d_Mod_seconds_26 (by decide) ?_
        exfalso
        clear hX h hl
        first | (simp_all [wn, b01_0, b01_1]; done) | grind [wn, b01_0, b01_1]
      · refine j_iconst (v := 1) h d_Mod_seconds_22 (by decide) ?_
        refine j_goto (tgt := 27) h d_Mod_seconds_23 (by decide) ?_
        refine j_callV h (c_Mod_isRight _ _ _ _ _ _ _ _ ms _ (by first | exact Or.inl rfl | exact Or.inr rfl)) d_Mod_seconds_27 ml_Mod_202 mv_Mod_isRight (by assumption) ⟨rfl, rfl⟩ rfl rfl (Nat.le_of_ble_eq_true rfl) (hR_of hX (by decide) (by decide)) (hf_of hX (by decide) (by decide)) ?_
        rintro _ _ _ _ ⟨rfl, rfl, rfl, rfl⟩
        refine j_if_ne (tgt := 35) h d_Mod_seconds_30 (by decide) (fun c4 => ?_) (fun c4 => absurd c4 (by decide))
        refine j_aload_n h d_Mod_seconds_35 rfl ?_
        refine j_dup h d_Mod_seconds_36 rfl ?_
        refine j_get2 h d_Mod_seconds_37 fl_Mod_111 rfl (by assumption) ?_
        refine j_iload_n h d_Mod_seconds_40 rfl ?_
        refine j_iadd h d_Mod_seconds_41 ?_
        refine j_put2 h d_Mod_seconds_42 fw_Mod_111 rfl rfl (by assumption) ?_
        refine j_aload_n h d_Mod_seconds_45 rfl ?_
        refine j_get2 h d_Mod_seconds_46 fl_Mod_111 rfl (by assumption) ?_
        exact j_iret hX d_Mod_seconds_49 rfl (Nat.le_refl _) (Nat.le_refl _) ⟨rfl, rfl, rfl, _, rfl, by simp [up_rd], by first | exact MN_70 hm | exact hm | exact hm3⟩
theorem d_Mod_skew_0 : decode b_Mod_skew 0 = .ok (.aload_n 0, 1) := by decide +kernel
theorem d_Mod_skew_1 : decode b_Mod_skew 1 = .ok (.aload_n 0, 1) := by decide +kernel
theorem d_Mod_skew_2 : decode b_Mod_skew 2 = .ok (.iload_n 1, 1) := by decide +kernel
theorem d_Mod_skew_3 : decode b_Mod_skew 3 = .ok (.invokevirtual 206, 3) := by decide +kernel
theorem d_Mod_skew_6 : decode b_Mod_skew 6 = .ok (.ifCond .eq 19, 3) := by decide +kernel
theorem d_Mod_skew_9 : decode b_Mod_skew 9 = .ok (.iload_n 2, 1) := by decide +kernel
theorem d_Mod_skew_10 : decode b_Mod_skew 10 = .ok (.ifCond .lt 15, 3) := by decide +kernel
theorem d_Mod_skew_13 : decode b_Mod_skew 13 = .ok (.iload_n 2, 1) := by decide +kernel
theorem d_Mod_skew_14 : decode b_Mod_skew 14 = .ok (.aload_n 0, 1) := by decide +kernel
theorem d_Mod_skew_15 : decode b_Mod_skew 15 = .ok (.getfield 105, 3) := by decide +kernel
theorem d_Mod_skew_18 : decode b_Mod_skew 18 = .ok (.if_icmp .gt 7, 3) := by decide +kernel
theorem d_Mod_skew_21 : decode b_Mod_skew 21 = .ok (.iconst 1, 1) := by decide +kernel
theorem d_Mod_skew_22 : decode b_Mod_skew 22 = .ok (.goto 4, 3) := by decide +kernel
theorem d_Mod_skew_25 : decode b_Mod_skew 25 = .ok (.iconst 0, 1) := by decide +kernel
theorem d_Mod_skew_26 : decode b_Mod_skew 26 = .ok (.invokevirtual 202, 3) := by decide +kernel
theorem d_Mod_skew_29 : decode b_Mod_skew 29 = .ok (.ifCond .ne 5, 3) := by decide +kernel
theorem d_Mod_skew_32 : decode b_Mod_skew 32 = .ok (.iconst 0, 1) := by decide +kernel
theorem d_Mod_skew_33 : decode b_Mod_skew 33 = .ok (.ireturn, 1) := by decide +kernel
theorem d_Mod_skew_34 : decode b_Mod_skew 34 = .ok (.aload_n 0, 1) := by decide +kernel
theorem d_Mod_skew_35 : decode b_Mod_skew 35 = .ok (.getfield 13, 3) := by decide +kernel
theorem d_Mod_skew_38 : decode b_Mod_skew 38 = .ok (.iload_n 1, 1) := by decide +kernel
theorem d_Mod_skew_39 : decode b_Mod_skew 39 = .ok (.iaload, 1) := by decide +kernel
theorem d_Mod_skew_40 : decode b_Mod_skew 40 = .ok (.istore_n 3, 1) := by decide +kernel
theorem d_Mod_skew_41 : decode b_Mod_skew 41 = .ok (.aload_n 0, 1) := by decide +kernel
theorem d_Mod_skew_42 : decode b_Mod_skew 42 = .ok (.getfield 13, 3) := by decide +kernel
theorem d_Mod_skew_45 : decode b_Mod_skew 45 = .ok (.iload_n 1, 1) := by decide +kernel
theorem d_Mod_skew_46 : decode b_Mod_skew 46 = .ok (.iload_n 2, 1) := by decide +kernel
theorem d_Mod_skew_47 : decode b_Mod_skew 47 = .ok (.iastore, 1) := by decide +kernel
theorem d_Mod_skew_48 : decode b_Mod_skew 48 = .ok (.iload_n 3, 1) := by decide +kernel
theorem d_Mod_skew_49 : decode b_Mod_skew 49 = .ok (.ireturn, 1) := by decide +kernel
set_option maxRecDepth 100000 in
set_option maxHeartbeats 4000000 in
theorem c_Mod_skew_no (l : Launch) (K : Kx) (V : Vx) (A B C D : MI) (P : MP) (ms : MSt K V P) (N : List Msg) (hm : MN D N) (z w : Int32) (hno : ¬ ((z = 0 ∨ z = 1) ∧ wn w 0 (C 44 0))) : Ct l K md_Mod_skew (1, 21) 0 0 [.ref (K.ad 6 0), .int z, .int w] V (bk4 A B C D) P (MRp V A B P (some (.int 0)) C 1 N) := by
  refine ct_of [(0, .ref (K.ad 6 0)), (1, .int z), (2, .int w)] (by decide) (Nat.le_of_ble_eq_true rfl) (ca_r (ca_i (ca_i ca_n))) rfl ?_
  intro X hl hX
  have h : OkX X b_Mod_skew R_Mod K := hX.1
  have hN : X.nL = 4 := hX.2.1
  have hmv := ms.1
  refine j_aload_n h d_Mod_skew_0 rfl ?_
  refine j_aload_n h d_Mod_skew_1 rfl ?_
  refine j_iload_n h d_Mod_skew_2 rfl ?_
  refine j_callV h (c_Mod_isServer _ _ _ _ _ _ _ _ ms _) d_Mod_skew_3 ml_Mod_206 mv_Mod_isServer (by assumption) ⟨rfl, rfl⟩ rfl rfl (Nat.le_of_ble_eq_true rfl) (hR_of hX (by decide) (by decide)) (hf_of hX (by decide) (by decide)) ?_
  rintro _ _ _ _ ⟨rfl, rfl, rfl, rfl⟩
  refine j_if_eq (tgt := 25) h d_Mod_skew_6 (by decide) (fun c1 => ?_) (fun c1 => ?_)
  · refine j_iconst (v := 0) h d_Mod_skew_25 (by decide) ?_
    refine j_callV h (c_Mod_isRight _ _ _ _ _ _ _ _ ms _ (by first | exact Or.inl rfl | exact Or.inr rfl)) d_Mod_skew_26 ml_Mod_202 mv_Mod_isRight (by assumption) ⟨rfl, rfl⟩ rfl rfl (Nat.le_of_ble_eq_true rfl) (hR_of hX (by decide) (by decide)) (hf_of hX (by decide) (by decide)) ?_
    rintro _ _ _ _ ⟨rfl, rfl, rfl, rfl⟩
    refine j_if_ne (tgt := 34) h d_Mod_skew_29 (by decide) (fun c2 => absurd c2 (by decide)) (fun c2 => ?_)
    refine j_iconst (v := 0) h d_Mod_skew_32 (by decide) ?_
    exact j_iret hX d_Mod_skew_33 rfl (Nat.le_refl _) (Nat.le_refl _) ⟨rfl, rfl, rfl, _, rfl, by simp [up_rd], by first | exact MN_70 hm | exact hm | exact hm3⟩
  · refine j_iload_n h d_Mod_skew_9 rfl ?_
    refine j_if_lt (tgt := 25) h d_Mod_skew_10 (by decide) (fun c3 => ?_) (fun c3 => ?_)
    · refine j_iconst (v := 0) h d_Mod_skew_25 (by decide) ?_
      refine j_callV h (c_Mod_isRight _ _ _ _ _ _ _ _ ms _ (by first | exact Or.inl rfl | exact Or.inr rfl)) d_Mod_skew_26 ml_Mod_202 mv_Mod_isRight (by assumption) ⟨rfl, rfl⟩ rfl rfl (Nat.le_of_ble_eq_true rfl) (hR_of hX (by decide) (by decide)) (hf_of hX (by decide) (by decide)) ?_
      rintro _ _ _ _ ⟨rfl, rfl, rfl, rfl⟩
      refine j_if_ne (tgt := 34) h d_Mod_skew_29 (by decide) (fun c4 => absurd c4 (by decide)) (fun c4 => ?_)
      refine j_iconst (v := 0) h d_Mod_skew_32 (by decide) ?_
      exact j_iret hX d_Mod_skew_33 rfl (Nat.le_refl _) (Nat.le_refl _) ⟨rfl, rfl, rfl, _, rfl, by simp [up_rd], by first | exact MN_70 hm | exact hm | exact hm3⟩
    · refine j_iload_n h d_Mod_skew_13 rfl ?_
      refine j_aload_n h d_Mod_skew_14 rfl ?_
      refine j_get2 h d_Mod_skew_15 fl_Mod_105 rfl (by assumption) ?_
      refine j_ic_gt (tgt := 25) h d_Mod_skew_18 (by decide) (fun c5 => ?_) (fun c5 => ?_)
      · refine j_iconst (v := 0) h d_Mod_skew_25 (by decide) ?_
        refine j_callV h (c_Mod_isRight _ _ _ _ _ _ _ _ ms _ (by first | exact Or.inl rfl | exact Or.inr rfl)) d_Mod_skew_26 ml_Mod_202 mv_Mod_isRight (by assumption) ⟨rfl, rfl⟩ rfl rfl (Nat.le_of_ble_eq_true rfl) (hR_of hX (by decide) (by decide)) (hf_of hX (by decide) (by decide)) ?_
        rintro _ _ _ _ ⟨rfl, rfl, rfl, rfl⟩
        refine j_if_ne (tgt := 34) h d_Mod_skew_29 (by decide) (fun c6 => absurd c6 (by decide)) (fun c6 => ?_)
        refine j_iconst (v := 0) h d_Mod_skew_32 (by decide) ?_
        exact j_iret hX d_Mod_skew_33 rfl (Nat.le_refl _) (Nat.le_refl _) ⟨rfl, rfl, rfl, _, rfl, by simp [up_rd], by first | exact MN_70 hm | exact hm | exact hm3⟩
      · refine j_iconst (v := 1) h d_Mod_skew_21 (by decide) ?_
        refine j_goto (tgt := 26) h d_Mod_skew_22 (by decide) ?_
        exfalso
        clear hX h hl
        first | (simp_all [wn, b01_0, b01_1]; done) | grind [wn, b01_0, b01_1]
set_option maxRecDepth 100000 in
set_option maxHeartbeats 4000000 in
theorem c_Mod_skew_ok (l : Launch) (K : Kx) (V : Vx) (A B C D : MI) (P : MP) (ms : MSt K V P) (N : List Msg) (hm : MN D N) (s : Nat) (hs : s < 2) (w : Int32) (hw : wn w 0 (C 44 0)) : Ct l K md_Mod_skew (1, 21) 0 0 [.ref (K.ad 6 0), .int (nI s), .int w] V (bk4 A B C D) P (MRp V A B P (some (.int (C 1 s))) (up C 1 s w) 0 N) := by
  refine ct_of [(0, .ref (K.ad 6 0)), (1, .int (nI s)), (2, .int w)] (by decide) (Nat.le_of_ble_eq_true rfl) (ca_r (ca_i (ca_i ca_n))) rfl ?_
  intro X hl hX
  have h : OkX X b_Mod_skew R_Mod K := hX.1
  have hN : X.nL = 4 := hX.2.1
  have hmv := ms.1
  have h01 := srv01 hs
  refine j_aload_n h d_Mod_skew_0 rfl ?_
  refine j_aload_n h d_Mod_skew_1 rfl ?_
  refine j_iload_n h d_Mod_skew_2 rfl ?_
  refine j_callV h (c_Mod_isServer _ _ _ _ _ _ _ _ ms _) d_Mod_skew_3 ml_Mod_206 mv_Mod_isServer (by assumption) ⟨rfl, rfl⟩ rfl rfl (Nat.le_of_ble_eq_true rfl) (hR_of hX (by decide) (by decide)) (hf_of hX (by decide) (by decide)) ?_
  rintro _ _ _ _ ⟨rfl, rfl, rfl, rfl⟩
  refine j_if_eq (tgt := 25) h d_Mod_skew_6 (by decide) (fun c1 => ?_) (fun c1 => ?_)
  · refine j_iconst (v := 0) h d_Mod_skew_25 (by decide) ?_
    exfalso
    clear hX h hl
    first | (simp_all [wn, b01_0, b01_1]; done) | grind [wn, b01_0, b01_1]
  · refine j_iload_n h d_Mod_skew_9 rfl ?_
    refine j_if_lt (tgt := 25) h d_Mod_skew_10 (by decide) (fun c2 => ?_) (fun c2 => ?_)
    · refine j_iconst (v := 0) h d_Mod_skew_25 (by decide) ?_
      exfalso
      clear hX h hl
      first | (simp_all [wn, b01_0, b01_1]; done) | grind [wn, b01_0, b01_1]
    · refine j_iload_n h d_Mod_skew_13 rfl ?_
      refine j_aload_n h d_Mod_skew_14 rfl ?_
      refine j_get2 h d_Mod_skew_15 fl_Mod_105 rfl (by assumption) ?_
      refine j_ic_gt (tgt := 25) h d_Mod_skew_18 (by decide) (fun c3 => ?_) (fun c3 => ?_)
      · refine j_iconst (v := 0) h d_Mod_skew_25 (by decide) ?_
        exfalso
        clear hX h hl
        first | (simp_all [wn, b01_0, b01_1]; done) | grind [wn, b01_0, b01_1]
      · refine j_iconst (v := 1) h d_Mod_skew_21 (by decide) ?_
        refine j_goto (tgt := 26) h d_Mod_skew_22 (by decide) ?_
        refine j_callV h (c_Mod_isRight _ _ _ _ _ _ _ _ ms _ (by first | exact Or.inl rfl | exact Or.inr rfl)) d_Mod_skew_26 ml_Mod_202 mv_Mod_isRight (by assumption) ⟨rfl, rfl⟩ rfl rfl (Nat.le_of_ble_eq_true rfl) (hR_of hX (by decide) (by decide)) (hf_of hX (by decide) (by decide)) ?_
        rintro _ _ _ _ ⟨rfl, rfl, rfl, rfl⟩
        refine j_if_ne (tgt := 34) h d_Mod_skew_29 (by decide) (fun c4 => ?_) (fun c4 => absurd c4 (by decide))
        refine j_aload_n h d_Mod_skew_34 rfl ?_
        refine j_getR h d_Mod_skew_35 fl_Mod_13 rfl (by assumption) (mP ms (a := 11) (by decide)) ?_
        refine j_iload_n h d_Mod_skew_38 rfl ?_
        refine m_iald2 (a := 11) (L := 2) (j := s) h ms d_Mod_skew_39 (by decide) rfl (by decide) rfl rfl (by omega) ?_
        refine j_istore_n h d_Mod_skew_40 (Nat.lt_of_lt_of_eq (m := 4) (by decide) hN.symm) ?_
        refine j_aload_n h d_Mod_skew_41 rfl ?_
        refine j_getR h d_Mod_skew_42 fl_Mod_13 rfl (by assumption) (mP ms (a := 11) (by decide)) ?_
        refine j_iload_n h d_Mod_skew_45 rfl ?_
        refine j_iload_n h d_Mod_skew_46 rfl ?_
        refine m_iast2 (a := 11) (L := 2) (j := s) h ms d_Mod_skew_47 (by decide) rfl (by decide) rfl rfl (by omega) ?_
        refine j_iload_n h d_Mod_skew_48 rfl ?_
        exact j_iret hX d_Mod_skew_49 rfl (Nat.le_refl _) (Nat.le_refl _) ⟨rfl, rfl, rfl, _, rfl, by simp [up_rd], by first | exact MN_70 hm | exact hm | exact hm3⟩
theorem d_Mod_kill_0 : decode b_Mod_kill 0 = .ok (.aload_n 0, 1) := by decide +kernel
theorem d_Mod_kill_1 : decode b_Mod_kill 1 = .ok (.aload_n 0, 1) := by decide +kernel
theorem d_Mod_kill_2 : decode b_Mod_kill 2 = .ok (.iload_n 1, 1) := by decide +kernel
theorem d_Mod_kill_3 : decode b_Mod_kill 3 = .ok (.invokevirtual 206, 3) := by decide +kernel
theorem d_Mod_kill_6 : decode b_Mod_kill 6 = .ok (.invokevirtual 202, 3) := by decide +kernel
theorem d_Mod_kill_9 : decode b_Mod_kill 9 = .ok (.ifCond .ne 5, 3) := by decide +kernel
theorem d_Mod_kill_12 : decode b_Mod_kill 12 = .ok (.iconst 0, 1) := by decide +kernel
theorem d_Mod_kill_13 : decode b_Mod_kill 13 = .ok (.ireturn, 1) := by decide +kernel
theorem d_Mod_kill_14 : decode b_Mod_kill 14 = .ok (.aload_n 0, 1) := by decide +kernel
theorem d_Mod_kill_15 : decode b_Mod_kill 15 = .ok (.getfield 7, 3) := by decide +kernel
theorem d_Mod_kill_18 : decode b_Mod_kill 18 = .ok (.iload_n 1, 1) := by decide +kernel
theorem d_Mod_kill_19 : decode b_Mod_kill 19 = .ok (.iaload, 1) := by decide +kernel
theorem d_Mod_kill_20 : decode b_Mod_kill 20 = .ok (.ifCond .eq 7, 3) := by decide +kernel
theorem d_Mod_kill_23 : decode b_Mod_kill 23 = .ok (.iconst 1, 1) := by decide +kernel
theorem d_Mod_kill_24 : decode b_Mod_kill 24 = .ok (.goto 4, 3) := by decide +kernel
theorem d_Mod_kill_27 : decode b_Mod_kill 27 = .ok (.iconst 0, 1) := by decide +kernel
theorem d_Mod_kill_28 : decode b_Mod_kill 28 = .ok (.istore_n 2, 1) := by decide +kernel
theorem d_Mod_kill_29 : decode b_Mod_kill 29 = .ok (.aload_n 0, 1) := by decide +kernel
theorem d_Mod_kill_30 : decode b_Mod_kill 30 = .ok (.getfield 7, 3) := by decide +kernel
theorem d_Mod_kill_33 : decode b_Mod_kill 33 = .ok (.iload_n 1, 1) := by decide +kernel
theorem d_Mod_kill_34 : decode b_Mod_kill 34 = .ok (.iconst 0, 1) := by decide +kernel
theorem d_Mod_kill_35 : decode b_Mod_kill 35 = .ok (.iastore, 1) := by decide +kernel
theorem d_Mod_kill_36 : decode b_Mod_kill 36 = .ok (.aload_n 0, 1) := by decide +kernel
theorem d_Mod_kill_37 : decode b_Mod_kill 37 = .ok (.getfield 28, 3) := by decide +kernel
theorem d_Mod_kill_40 : decode b_Mod_kill 40 = .ok (.iload_n 1, 1) := by decide +kernel
theorem d_Mod_kill_41 : decode b_Mod_kill 41 = .ok (.iconst 0, 1) := by decide +kernel
theorem d_Mod_kill_42 : decode b_Mod_kill 42 = .ok (.iastore, 1) := by decide +kernel
theorem d_Mod_kill_43 : decode b_Mod_kill 43 = .ok (.iload_n 2, 1) := by decide +kernel
theorem d_Mod_kill_44 : decode b_Mod_kill 44 = .ok (.ireturn, 1) := by decide +kernel
set_option maxRecDepth 100000 in
set_option maxHeartbeats 4000000 in
theorem c_Mod_kill_no (l : Launch) (K : Kx) (V : Vx) (A B C D : MI) (P : MP) (ms : MSt K V P) (N : List Msg) (hm : MN D N) (z : Int32) (hno : ¬ (z = 0 ∨ z = 1)) : Ct l K md_Mod_kill (1, 21) 0 0 [.ref (K.ad 6 0), .int z] V (bk4 A B C D) P (MRp V A B P (some (.int 0)) C 1 N) := by
  refine ct_of [(0, .ref (K.ad 6 0)), (1, .int z)] (by decide) (Nat.le_of_ble_eq_true rfl) (ca_r (ca_i ca_n)) rfl ?_
  intro X hl hX
  have h : OkX X b_Mod_kill R_Mod K := hX.1
  have hN : X.nL = 3 := hX.2.1
  have hmv := ms.1
  refine j_aload_n h d_Mod_kill_0 rfl ?_
  refine j_aload_n h d_Mod_kill_1 rfl ?_
  refine j_iload_n h d_Mod_kill_2 rfl ?_
  refine j_callV h (c_Mod_isServer _ _ _ _ _ _ _ _ ms _) d_Mod_kill_3 ml_Mod_206 mv_Mod_isServer (by assumption) ⟨rfl, rfl⟩ rfl rfl (Nat.le_of_ble_eq_true rfl) (hR_of hX (by decide) (by decide)) (hf_of hX (by decide) (by decide)) ?_
  rintro _ _ _ _ ⟨rfl, rfl, rfl, rfl⟩
  refine j_int (v' := 0) (by first | exact b01_f (by clear hX h hl; first | (simp_all [wn, b01_0, b01_1]; done) | grind [wn, b01_0, b01_1]) | (clear hX h hl; first | (simp_all [wn, b01_0, b01_1]; done) | grind [wn, b01_0, b01_1])) ?_
  refine j_callV h (c_Mod_isRight _ _ _ _ _ _ _ _ ms _ (by first | exact Or.inl rfl | exact Or.inr rfl)) d_Mod_kill_6 ml_Mod_202 mv_Mod_isRight (by assumption) ⟨rfl, rfl⟩ rfl rfl (Nat.le_of_ble_eq_true rfl) (hR_of hX (by decide) (by decide)) (hf_of hX (by decide) (by decide)) ?_
  rintro _ _ _ _ ⟨rfl, rfl, rfl, rfl⟩
  refine j_if_ne (tgt := 14) h d_Mod_kill_9 (by decide) (fun c1 => absurd c1 (by decide)) (fun c1 => ?_)
  refine j_iconst (v := 0) h d_Mod_kill_12 (by decide) ?_
  exact j_zret hX d_Mod_kill_13 rfl (by first | exact Or.inl rfl | exact Or.inr rfl | exact b01_z _ | assumption) (Nat.le_refl _) (Nat.le_refl _) ⟨rfl, rfl, rfl, _, rfl, by simp [up_rd], by first | exact MN_70 hm | exact hm | exact hm3⟩
set_option maxRecDepth 100000 in
set_option maxHeartbeats 4000000 in
theorem c_Mod_kill_ok (l : Launch) (K : Kx) (V : Vx) (A B C D : MI) (P : MP) (ms : MSt K V P) (N : List Msg) (hm : MN D N) (s : Nat) (hs : s < 2) : Ct l K md_Mod_kill (1, 21) 0 0 [.ref (K.ad 6 0), .int (nI s)] V (bk4 A B C D) P (MRp V A B P (some (.int (b01 (¬ C 0 s = 0)))) (up (up C 0 s 0) 6 s 0) 0 N) := by
  refine ct_of [(0, .ref (K.ad 6 0)), (1, .int (nI s))] (by decide) (Nat.le_of_ble_eq_true rfl) (ca_r (ca_i ca_n)) rfl ?_
  intro X hl hX
  have h : OkX X b_Mod_kill R_Mod K := hX.1
  have hN : X.nL = 3 := hX.2.1
  have hmv := ms.1
  have h01 := srv01 hs
  refine j_aload_n h d_Mod_kill_0 rfl ?_
  refine j_aload_n h d_Mod_kill_1 rfl ?_
  refine j_iload_n h d_Mod_kill_2 rfl ?_
  refine j_callV h (c_Mod_isServer _ _ _ _ _ _ _ _ ms _) d_Mod_kill_3 ml_Mod_206 mv_Mod_isServer (by assumption) ⟨rfl, rfl⟩ rfl rfl (Nat.le_of_ble_eq_true rfl) (hR_of hX (by decide) (by decide)) (hf_of hX (by decide) (by decide)) ?_
  rintro _ _ _ _ ⟨rfl, rfl, rfl, rfl⟩
  refine j_int (v' := 1) (by first | exact b01_t (by clear hX h hl; first | (simp_all [wn, b01_0, b01_1]; done) | grind [wn, b01_0, b01_1]) | (clear hX h hl; first | (simp_all [wn, b01_0, b01_1]; done) | grind [wn, b01_0, b01_1])) ?_
  refine j_callV h (c_Mod_isRight _ _ _ _ _ _ _ _ ms _ (by first | exact Or.inl rfl | exact Or.inr rfl)) d_Mod_kill_6 ml_Mod_202 mv_Mod_isRight (by assumption) ⟨rfl, rfl⟩ rfl rfl (Nat.le_of_ble_eq_true rfl) (hR_of hX (by decide) (by decide)) (hf_of hX (by decide) (by decide)) ?_
  rintro _ _ _ _ ⟨rfl, rfl, rfl, rfl⟩
  refine j_if_ne (tgt := 14) h d_Mod_kill_9 (by decide) (fun c1 => ?_) (fun c1 => absurd c1 (by decide))
  refine j_aload_n h d_Mod_kill_14 rfl ?_
  refine j_getR h d_Mod_kill_15 fl_Mod_7 rfl (by assumption) (mP ms (a := 10) (by decide)) ?_
  refine j_iload_n h d_Mod_kill_18 rfl ?_
  refine m_iald2 (a := 10) (L := 2) (j := s) h ms d_Mod_kill_19 (by decide) rfl (by decide) rfl rfl (by omega) ?_
  refine j_if_eq (tgt := 27) h d_Mod_kill_20 (by decide) (fun c2 => ?_) (fun c2 => ?_)
  · refine j_iconst (v := 0) h d_Mod_kill_27 (by decide) ?_
    refine j_istore_n h d_Mod_kill_28 (Nat.lt_of_lt_of_eq (m := 3) (by decide) hN.symm) ?_
    refine j_aload_n h d_Mod_kill_29 rfl ?_
    refine j_getR h d_Mod_kill_30 fl_Mod_7 rfl (by assumption) (mP ms (a := 10) (by decide)) ?_
    refine j_iload_n h d_Mod_kill_33 rfl ?_
    refine j_iconst (v := 0) h d_Mod_kill_34 (by decide) ?_
    refine m_iast2 (a := 10) (L := 2) (j := s) h ms d_Mod_kill_35 (by decide) rfl (by decide) rfl rfl (by omega) ?_
    refine j_aload_n h d_Mod_kill_36 rfl ?_
    refine j_getR h d_Mod_kill_37 fl_Mod_28 rfl (by assumption) (mP ms (a := 16) (by decide)) ?_
    refine j_iload_n h d_Mod_kill_40 rfl ?_
    refine j_iconst (v := 0) h d_Mod_kill_41 (by decide) ?_
    refine m_iast2 (a := 16) (L := 2) (j := s) h ms d_Mod_kill_42 (by decide) rfl (by decide) rfl rfl (by omega) ?_
    refine j_iload_n h d_Mod_kill_43 rfl ?_
    exact j_zret hX d_Mod_kill_44 rfl (by first | exact Or.inl rfl | exact Or.inr rfl | exact b01_z _ | assumption) (Nat.le_refl _) (Nat.le_refl _) ⟨rfl, by clear hX h hl; simp_all [b01], rfl, _, rfl, by simp [up_rd], by first | exact MN_70 hm | exact hm | exact hm3⟩
  · refine j_iconst (v := 1) h d_Mod_kill_23 (by decide) ?_
    refine j_goto (tgt := 28) h d_Mod_kill_24 (by decide) ?_
    refine j_istore_n h d_Mod_kill_28 (Nat.lt_of_lt_of_eq (m := 3) (by decide) hN.symm) ?_
    refine j_aload_n h d_Mod_kill_29 rfl ?_
    refine j_getR h d_Mod_kill_30 fl_Mod_7 rfl (by assumption) (mP ms (a := 10) (by decide)) ?_
    refine j_iload_n h d_Mod_kill_33 rfl ?_
    refine j_iconst (v := 0) h d_Mod_kill_34 (by decide) ?_
    refine m_iast2 (a := 10) (L := 2) (j := s) h ms d_Mod_kill_35 (by decide) rfl (by decide) rfl rfl (by omega) ?_
    refine j_aload_n h d_Mod_kill_36 rfl ?_
    refine j_getR h d_Mod_kill_37 fl_Mod_28 rfl (by assumption) (mP ms (a := 16) (by decide)) ?_
    refine j_iload_n h d_Mod_kill_40 rfl ?_
    refine j_iconst (v := 0) h d_Mod_kill_41 (by decide) ?_
    refine m_iast2 (a := 16) (L := 2) (j := s) h ms d_Mod_kill_42 (by decide) rfl (by decide) rfl rfl (by omega) ?_
    refine j_iload_n h d_Mod_kill_43 rfl ?_
    exact j_zret hX d_Mod_kill_44 rfl (by first | exact Or.inl rfl | exact Or.inr rfl | exact b01_z _ | assumption) (Nat.le_refl _) (Nat.le_refl _) ⟨rfl, by clear hX h hl; simp_all [b01], rfl, _, rfl, by simp [up_rd], by first | exact MN_70 hm | exact hm | exact hm3⟩
theorem d_Mod_fuse_0 : decode b_Mod_fuse 0 = .ok (.aload_n 0, 1) := by decide +kernel
theorem d_Mod_fuse_1 : decode b_Mod_fuse 1 = .ok (.aload_n 0, 1) := by decide +kernel
theorem d_Mod_fuse_2 : decode b_Mod_fuse 2 = .ok (.iload_n 1, 1) := by decide +kernel
theorem d_Mod_fuse_3 : decode b_Mod_fuse 3 = .ok (.invokevirtual 206, 3) := by decide +kernel
theorem d_Mod_fuse_6 : decode b_Mod_fuse 6 = .ok (.ifCond .eq 17, 3) := by decide +kernel
theorem d_Mod_fuse_9 : decode b_Mod_fuse 9 = .ok (.iload_n 2, 1) := by decide +kernel
theorem d_Mod_fuse_10 : decode b_Mod_fuse 10 = .ok (.ifCond .lt 13, 3) := by decide +kernel
theorem d_Mod_fuse_13 : decode b_Mod_fuse 13 = .ok (.iload_n 2, 1) := by decide +kernel
theorem d_Mod_fuse_14 : decode b_Mod_fuse 14 = .ok (.bipush 100, 2) := by decide +kernel
theorem d_Mod_fuse_16 : decode b_Mod_fuse 16 = .ok (.if_icmp .gt 7, 3) := by decide +kernel
theorem d_Mod_fuse_19 : decode b_Mod_fuse 19 = .ok (.iconst 1, 1) := by decide +kernel
theorem d_Mod_fuse_20 : decode b_Mod_fuse 20 = .ok (.goto 4, 3) := by decide +kernel
theorem d_Mod_fuse_23 : decode b_Mod_fuse 23 = .ok (.iconst 0, 1) := by decide +kernel
theorem d_Mod_fuse_24 : decode b_Mod_fuse 24 = .ok (.invokevirtual 202, 3) := by decide +kernel
theorem d_Mod_fuse_27 : decode b_Mod_fuse 27 = .ok (.ifCond .eq 10, 3) := by decide +kernel
theorem d_Mod_fuse_30 : decode b_Mod_fuse 30 = .ok (.aload_n 0, 1) := by decide +kernel
theorem d_Mod_fuse_31 : decode b_Mod_fuse 31 = .ok (.getfield 28, 3) := by decide +kernel
theorem d_Mod_fuse_34 : decode b_Mod_fuse 34 = .ok (.iload_n 1, 1) := by decide +kernel
theorem d_Mod_fuse_35 : decode b_Mod_fuse 35 = .ok (.iload_n 2, 1) := by decide +kernel
theorem d_Mod_fuse_36 : decode b_Mod_fuse 36 = .ok (.iastore, 1) := by decide +kernel
theorem d_Mod_fuse_37 : decode b_Mod_fuse 37 = .ok (.return_, 1) := by decide +kernel
set_option maxRecDepth 100000 in
set_option maxHeartbeats 4000000 in
theorem c_Mod_fuse_no (l : Launch) (K : Kx) (V : Vx) (A B C D : MI) (P : MP) (ms : MSt K V P) (N : List Msg) (hm : MN D N) (z w : Int32) (hno : ¬ ((z = 0 ∨ z = 1) ∧ wn w 0 100)) : Ct l K md_Mod_fuse (1, 21) 0 0 [.ref (K.ad 6 0), .int z, .int w] V (bk4 A B C D) P (MRp V A B P (none) C 1 N) := by
  refine ct_of [(0, .ref (K.ad 6 0)), (1, .int z), (2, .int w)] (by decide) (Nat.le_of_ble_eq_true rfl) (ca_r (ca_i (ca_i ca_n))) rfl ?_
  intro X hl hX
  have h : OkX X b_Mod_fuse R_Mod K := hX.1
  have hN : X.nL = 3 := hX.2.1
  have hmv := ms.1
  refine j_aload_n h d_Mod_fuse_0 rfl ?_
  refine j_aload_n h d_Mod_fuse_1 rfl ?_
  refine j_iload_n h d_Mod_fuse_2 rfl ?_
  refine j_callV h (c_Mod_isServer _ _ _ _ _ _ _ _ ms _) d_Mod_fuse_3 ml_Mod_206 mv_Mod_isServer (by assumption) ⟨rfl, rfl⟩ rfl rfl (Nat.le_of_ble_eq_true rfl) (hR_of hX (by decide) (by decide)) (hf_of hX (by decide) (by decide)) ?_
  rintro _ _ _ _ ⟨rfl, rfl, rfl, rfl⟩
  refine j_if_eq (tgt := 23) h d_Mod_fuse_6 (by decide) (fun c1 => ?_) (fun c1 => ?_)
  · refine j_iconst (v := 0) h d_Mod_fuse_23 (by decide) ?_
    refine j_callV h (c_Mod_isRight _ _ _ _ _ _ _ _ ms _ (by first | exact Or.inl rfl | exact Or.inr rfl)) d_Mod_fuse_24 ml_Mod_202 mv_Mod_isRight (by assumption) ⟨rfl, rfl⟩ rfl rfl (Nat.le_of_ble_eq_true rfl) (hR_of hX (by decide) (by decide)) (hf_of hX (by decide) (by decide)) ?_
    rintro _ _ _ _ ⟨rfl, rfl, rfl, rfl⟩
    refine j_if_eq (tgt := 37) h d_Mod_fuse_27 (by decide) (fun c2 => ?_) (fun c2 => absurd c2 (by decide))
    exact j_vret hX d_Mod_fuse_37 rfl (Nat.le_refl _) (Nat.le_refl _) ⟨rfl, rfl, rfl, _, rfl, by simp [up_rd], by first | exact MN_70 hm | exact hm | exact hm3⟩
  · refine j_iload_n h d_Mod_fuse_9 rfl ?_
    refine j_if_lt (tgt := 23) h d_Mod_fuse_10 (by decide) (fun c3 => ?_) (fun c3 => ?_)
    · refine j_iconst (v := 0) h d_Mod_fuse_23 (by decide) ?_
      refine j_callV h (c_Mod_isRight _ _ _ _ _ _ _ _ ms _ (by first | exact Or.inl rfl | exact Or.inr rfl)) d_Mod_fuse_24 ml_Mod_202 mv_Mod_isRight (by assumption) ⟨rfl, rfl⟩ rfl rfl (Nat.le_of_ble_eq_true rfl) (hR_of hX (by decide) (by decide)) (hf_of hX (by decide) (by decide)) ?_
      rintro _ _ _ _ ⟨rfl, rfl, rfl, rfl⟩
      refine j_if_eq (tgt := 37) h d_Mod_fuse_27 (by decide) (fun c4 => ?_) (fun c4 => absurd c4 (by decide))
      exact j_vret hX d_Mod_fuse_37 rfl (Nat.le_refl _) (Nat.le_refl _) ⟨rfl, rfl, rfl, _, rfl, by simp [up_rd], by first | exact MN_70 hm | exact hm | exact hm3⟩
    · refine j_iload_n h d_Mod_fuse_13 rfl ?_
      refine j_bipush (v := 100) h d_Mod_fuse_14 (by decide) ?_
      refine j_ic_gt (tgt := 23) h d_Mod_fuse_16 (by decide) (fun c5 => ?_) (fun c5 => ?_)
      · refine j_iconst (v := 0) h d_Mod_fuse_23 (by decide) ?_
        refine j_callV h (c_Mod_isRight _ _ _ _ _ _ _ _ ms _ (by first | exact Or.inl rfl | exact Or.inr rfl)) d_Mod_fuse_24 ml_Mod_202 mv_Mod_isRight (by assumption) ⟨rfl, rfl⟩ rfl rfl (Nat.le_of_ble_eq_true rfl) (hR_of hX (by decide) (by decide)) (hf_of hX (by decide) (by decide)) ?_
        rintro _ _ _ _ ⟨rfl, rfl, rfl, rfl⟩
        refine j_if_eq (tgt := 37) h d_Mod_fuse_27 (by decide) (fun c6 => ?_) (fun c6 => absurd c6 (by decide))
        exact j_vret hX d_Mod_fuse_37 rfl (Nat.le_refl _) (Nat.le_refl _) ⟨rfl, rfl, rfl, _, rfl, by simp [up_rd], by first | exact MN_70 hm | exact hm | exact hm3⟩
      · refine j_iconst (v := 1) h d_Mod_fuse_19 (by decide) ?_
        refine j_goto (tgt := 24) h d_Mod_fuse_20 (by decide) ?_
        exfalso
        clear hX h hl
        first | (simp_all [wn, b01_0, b01_1]; done) | grind [wn, b01_0, b01_1]
set_option maxRecDepth 100000 in
set_option maxHeartbeats 4000000 in
theorem c_Mod_fuse_ok (l : Launch) (K : Kx) (V : Vx) (A B C D : MI) (P : MP) (ms : MSt K V P) (N : List Msg) (hm : MN D N) (s : Nat) (hs : s < 2) (w : Int32) (hw : wn w 0 100) : Ct l K md_Mod_fuse (1, 21) 0 0 [.ref (K.ad 6 0), .int (nI s), .int w] V (bk4 A B C D) P (MRp V A B P (none) (up C 6 s w) 0 N) := by
  refine ct_of [(0, .ref (K.ad 6 0)), (1, .int (nI s)), (2, .int w)] (by decide) (Nat.le_of_ble_eq_true rfl) (ca_r (ca_i (ca_i ca_n))) rfl ?_
  intro X hl hX
  have h : OkX X b_Mod_fuse R_Mod K := hX.1
  have hN : X.nL = 3 := hX.2.1
  have hmv := ms.1
  have h01 := srv01 hs
  refine j_aload_n h d_Mod_fuse_0 rfl ?_
  refine j_aload_n h d_Mod_fuse_1 rfl ?_
  refine j_iload_n h d_Mod_fuse_2 rfl ?_
  refine j_callV h (c_Mod_isServer _ _ _ _ _ _ _ _ ms _) d_Mod_fuse_3 ml_Mod_206 mv_Mod_isServer (by assumption) ⟨rfl, rfl⟩ rfl rfl (Nat.le_of_ble_eq_true rfl) (hR_of hX (by decide) (by decide)) (hf_of hX (by decide) (by decide)) ?_
  rintro _ _ _ _ ⟨rfl, rfl, rfl, rfl⟩
  refine j_if_eq (tgt := 23) h d_Mod_fuse_6 (by decide) (fun c1 => ?_) (fun c1 => ?_)
  · refine j_iconst (v := 0) h d_Mod_fuse_23 (by decide) ?_
    exfalso
    clear hX h hl
    first | (simp_all [wn, b01_0, b01_1]; done) | grind [wn, b01_0, b01_1]
  · refine j_iload_n h d_Mod_fuse_9 rfl ?_
    refine j_if_lt (tgt := 23) h d_Mod_fuse_10 (by decide) (fun c2 => ?_) (fun c2 => ?_)
    · refine j_iconst (v := 0) h d_Mod_fuse_23 (by decide) ?_
      exfalso
      clear hX h hl
      first | (simp_all [wn, b01_0, b01_1]; done) | grind [wn, b01_0, b01_1]
    · refine j_iload_n h d_Mod_fuse_13 rfl ?_
      refine j_bipush (v := 100) h d_Mod_fuse_14 (by decide) ?_
      refine j_ic_gt (tgt := 23) h d_Mod_fuse_16 (by decide) (fun c3 => ?_) (fun c3 => ?_)
      · refine j_iconst (v := 0) h d_Mod_fuse_23 (by decide) ?_
        exfalso
        clear hX h hl
        first | (simp_all [wn, b01_0, b01_1]; done) | grind [wn, b01_0, b01_1]
      · refine j_iconst (v := 1) h d_Mod_fuse_19 (by decide) ?_
        refine j_goto (tgt := 24) h d_Mod_fuse_20 (by decide) ?_
        refine j_callV h (c_Mod_isRight _ _ _ _ _ _ _ _ ms _ (by first | exact Or.inl rfl | exact Or.inr rfl)) d_Mod_fuse_24 ml_Mod_202 mv_Mod_isRight (by assumption) ⟨rfl, rfl⟩ rfl rfl (Nat.le_of_ble_eq_true rfl) (hR_of hX (by decide) (by decide)) (hf_of hX (by decide) (by decide)) ?_
        rintro _ _ _ _ ⟨rfl, rfl, rfl, rfl⟩
        refine j_if_eq (tgt := 37) h d_Mod_fuse_27 (by decide) (fun c4 => absurd c4 (by decide)) (fun c4 => ?_)
        refine j_aload_n h d_Mod_fuse_30 rfl ?_
        refine j_getR h d_Mod_fuse_31 fl_Mod_28 rfl (by assumption) (mP ms (a := 16) (by decide)) ?_
        refine j_iload_n h d_Mod_fuse_34 rfl ?_
        refine j_iload_n h d_Mod_fuse_35 rfl ?_
        refine m_iast2 (a := 16) (L := 2) (j := s) h ms d_Mod_fuse_36 (by decide) rfl (by decide) rfl rfl (by omega) ?_
        exact j_vret hX d_Mod_fuse_37 rfl (Nat.le_refl _) (Nat.le_refl _) ⟨rfl, rfl, rfl, _, rfl, by simp [up_rd], by first | exact MN_70 hm | exact hm | exact hm3⟩
theorem d_Mod_messages_0 : decode b_Mod_messages 0 = .ok (.aload_n 0, 1) := by decide +kernel
theorem d_Mod_messages_1 : decode b_Mod_messages 1 = .ok (.iconst 0, 1) := by decide +kernel
theorem d_Mod_messages_2 : decode b_Mod_messages 2 = .ok (.putfield 108, 3) := by decide +kernel
theorem d_Mod_messages_5 : decode b_Mod_messages 5 = .ok (.aload_n 0, 1) := by decide +kernel
theorem d_Mod_messages_6 : decode b_Mod_messages 6 = .ok (.getfield 114, 3) := by decide +kernel
theorem d_Mod_messages_9 : decode b_Mod_messages 9 = .ok (.ireturn, 1) := by decide +kernel
set_option maxRecDepth 100000 in
set_option maxHeartbeats 4000000 in
theorem c_Mod_messages (l : Launch) (K : Kx) (V : Vx) (A B C D : MI) (P : MP) (ms : MSt K V P) (N : List Msg) (hm : MN D N) : Ct l K md_Mod_messages (0, 0) 0 0 [.ref (K.ad 6 0)] V (bk4 A B C D) P (MRp V A B P (some (.int (nI N.length))) C 0 N) := by
  refine ct_of [(0, .ref (K.ad 6 0))] (by decide) (Nat.le_of_ble_eq_true rfl) (ca_r ca_n) rfl ?_
  intro X hl hX
  have h : OkX X b_Mod_messages R_Mod K := hX.1
  have hN : X.nL = 1 := hX.2.1
  have hmv := ms.1
  refine j_aload_n h d_Mod_messages_0 rfl ?_
  refine j_iconst (v := 0) h d_Mod_messages_1 (by decide) ?_
  refine j_put3 h d_Mod_messages_2 fw_Mod_108 rfl rfl (by assumption) ?_
  refine j_aload_n h d_Mod_messages_5 rfl ?_
  refine j_get3e (v := nI N.length) h d_Mod_messages_6 fl_Mod_114 rfl (by assumption) (by first | exact hm.2.1 | exact (MN_70 hm).2.1) ?_
  exact j_iret hX d_Mod_messages_9 rfl (Nat.le_refl _) (Nat.le_refl _) ⟨rfl, rfl, rfl, _, rfl, by simp [up_rd], by first | exact MN_70 hm | exact hm | exact hm3⟩
theorem d_Mod_most_0 : decode b_Mod_most 0 = .ok (.aload_n 0, 1) := by decide +kernel
theorem d_Mod_most_1 : decode b_Mod_most 1 = .ok (.iconst 0, 1) := by decide +kernel
theorem d_Mod_most_2 : decode b_Mod_most 2 = .ok (.putfield 108, 3) := by decide +kernel
theorem d_Mod_most_5 : decode b_Mod_most 5 = .ok (.aload_n 0, 1) := by decide +kernel
theorem d_Mod_most_6 : decode b_Mod_most 6 = .ok (.getfield 197, 3) := by decide +kernel
theorem d_Mod_most_9 : decode b_Mod_most 9 = .ok (.ireturn, 1) := by decide +kernel
set_option maxRecDepth 100000 in
set_option maxHeartbeats 4000000 in
theorem c_Mod_most (l : Launch) (K : Kx) (V : Vx) (A B C D : MI) (P : MP) (ms : MSt K V P) (N : List Msg) (hm : MN D N) : Ct l K md_Mod_most (0, 0) 0 0 [.ref (K.ad 6 0)] V (bk4 A B C D) P (MRp V A B P (some (.int (C 41 0))) C 0 N) := by
  refine ct_of [(0, .ref (K.ad 6 0))] (by decide) (Nat.le_of_ble_eq_true rfl) (ca_r ca_n) rfl ?_
  intro X hl hX
  have h : OkX X b_Mod_most R_Mod K := hX.1
  have hN : X.nL = 1 := hX.2.1
  have hmv := ms.1
  refine j_aload_n h d_Mod_most_0 rfl ?_
  refine j_iconst (v := 0) h d_Mod_most_1 (by decide) ?_
  refine j_put3 h d_Mod_most_2 fw_Mod_108 rfl rfl (by assumption) ?_
  refine j_aload_n h d_Mod_most_5 rfl ?_
  refine j_get2 h d_Mod_most_6 fl_Mod_197 rfl (by assumption) ?_
  exact j_iret hX d_Mod_most_9 rfl (Nat.le_refl _) (Nat.le_refl _) ⟨rfl, rfl, rfl, _, rfl, by simp [up_rd], by first | exact MN_70 hm | exact hm | exact hm3⟩
theorem d_Mod_drop_0 : decode b_Mod_drop 0 = .ok (.aload_n 0, 1) := by decide +kernel
theorem d_Mod_drop_1 : decode b_Mod_drop 1 = .ok (.aload_n 0, 1) := by decide +kernel
theorem d_Mod_drop_2 : decode b_Mod_drop 2 = .ok (.iload_n 1, 1) := by decide +kernel
theorem d_Mod_drop_3 : decode b_Mod_drop 3 = .ok (.invokevirtual 216, 3) := by decide +kernel
theorem d_Mod_drop_6 : decode b_Mod_drop 6 = .ok (.invokevirtual 202, 3) := by decide +kernel
theorem d_Mod_drop_9 : decode b_Mod_drop 9 = .ok (.ifCond .ne 5, 3) := by decide +kernel
theorem d_Mod_drop_12 : decode b_Mod_drop 12 = .ok (.iconst 0, 1) := by decide +kernel
theorem d_Mod_drop_13 : decode b_Mod_drop 13 = .ok (.ireturn, 1) := by decide +kernel
theorem d_Mod_drop_14 : decode b_Mod_drop 14 = .ok (.aload_n 0, 1) := by decide +kernel
theorem d_Mod_drop_15 : decode b_Mod_drop 15 = .ok (.iload_n 1, 1) := by decide +kernel
theorem d_Mod_drop_16 : decode b_Mod_drop 16 = .ok (.invokevirtual 117, 3) := by decide +kernel
theorem d_Mod_drop_19 : decode b_Mod_drop 19 = .ok (.aload_n 0, 1) := by decide +kernel
theorem d_Mod_drop_20 : decode b_Mod_drop 20 = .ok (.getfield 114, 3) := by decide +kernel
theorem d_Mod_drop_23 : decode b_Mod_drop 23 = .ok (.ireturn, 1) := by decide +kernel
set_option maxRecDepth 100000 in
set_option maxHeartbeats 4000000 in
theorem c_Mod_drop_no (l : Launch) (K : Kx) (V : Vx) (A B C D : MI) (P : MP) (ms : MSt K V P) (N : List Msg) (hm : MN D N) (z : Int32) (hno : ¬ (¬ z < 0 ∧ ¬ nI N.length ≤ z)) : Ct l K md_Mod_drop (1, 22) 0 0 [.ref (K.ad 6 0), .int z] V (bk4 A B C D) P (MRp V A B P (some (.int 0)) C 1 N) := by
  refine ct_of [(0, .ref (K.ad 6 0)), (1, .int z)] (by decide) (Nat.le_of_ble_eq_true rfl) (ca_r (ca_i ca_n)) rfl ?_
  intro X hl hX
  have h : OkX X b_Mod_drop R_Mod K := hX.1
  have hN : X.nL = 2 := hX.2.1
  have hmv := ms.1
  refine j_aload_n h d_Mod_drop_0 rfl ?_
  refine j_aload_n h d_Mod_drop_1 rfl ?_
  refine j_iload_n h d_Mod_drop_2 rfl ?_
  refine j_callV h (c_Mod_isPlace _ _ _ _ _ _ _ _ ms _ hm _) d_Mod_drop_3 ml_Mod_216 mv_Mod_isPlace (by assumption) ⟨rfl, rfl⟩ rfl rfl (Nat.le_of_ble_eq_true rfl) (hR_of hX (by decide) (by decide)) (hf_of hX (by decide) (by decide)) ?_
  rintro _ _ _ _ ⟨rfl, rfl, rfl, rfl⟩
  refine j_int (v' := 0) (by first | exact b01_f (by clear hX h hl; first | (simp_all [wn, b01_0, b01_1]; done) | grind [wn, b01_0, b01_1]) | (clear hX h hl; first | (simp_all [wn, b01_0, b01_1]; done) | grind [wn, b01_0, b01_1])) ?_
  refine j_callV h (c_Mod_isRight _ _ _ _ _ _ _ _ ms _ (by first | exact Or.inl rfl | exact Or.inr rfl)) d_Mod_drop_6 ml_Mod_202 mv_Mod_isRight (by assumption) ⟨rfl, rfl⟩ rfl rfl (Nat.le_of_ble_eq_true rfl) (hR_of hX (by decide) (by decide)) (hf_of hX (by decide) (by decide)) ?_
  rintro _ _ _ _ ⟨rfl, rfl, rfl, rfl⟩
  refine j_if_ne (tgt := 14) h d_Mod_drop_9 (by decide) (fun c1 => absurd c1 (by decide)) (fun c1 => ?_)
  refine j_iconst (v := 0) h d_Mod_drop_12 (by decide) ?_
  exact j_iret hX d_Mod_drop_13 rfl (Nat.le_refl _) (Nat.le_refl _) ⟨rfl, rfl, rfl, _, rfl, by simp [up_rd], by first | exact MN_70 hm | exact hm | exact hm3⟩
set_option maxRecDepth 100000 in
set_option maxHeartbeats 4000000 in
theorem c_Mod_drop_ok (l : Launch) (K : Kx) (V : Vx) (A B C D : MI) (P : MP) (ms : MSt K V P) (N : List Msg) (hm : MN D N) (k : Nat) (hk : k < N.length) : Ct l K md_Mod_drop (1, 22) 0 0 [.ref (K.ad 6 0), .int (nI k)] V (bk4 A B C D) P (MRp V A B P (some (.int (nI (N.eraseIdx k).length))) C 0 (N.eraseIdx k)) := by
  refine ct_of [(0, .ref (K.ad 6 0)), (1, .int (nI k))] (by decide) (Nat.le_of_ble_eq_true rfl) (ca_r (ca_i ca_n)) rfl ?_
  intro X hl hX
  have h : OkX X b_Mod_drop R_Mod K := hX.1
  have hN : X.nL = 2 := hX.2.1
  have hmv := ms.1
  have hk0 := nI_n0 (k := k) (by have := hm.1; omega)
  have hk1 := nI_ge hk (by have := hm.1; omega)
  refine j_aload_n h d_Mod_drop_0 rfl ?_
  refine j_aload_n h d_Mod_drop_1 rfl ?_
  refine j_iload_n h d_Mod_drop_2 rfl ?_
  refine j_callV h (c_Mod_isPlace _ _ _ _ _ _ _ _ ms _ hm _) d_Mod_drop_3 ml_Mod_216 mv_Mod_isPlace (by assumption) ⟨rfl, rfl⟩ rfl rfl (Nat.le_of_ble_eq_true rfl) (hR_of hX (by decide) (by decide)) (hf_of hX (by decide) (by decide)) ?_
  rintro _ _ _ _ ⟨rfl, rfl, rfl, rfl⟩
  refine j_int (v' := 1) (by first | exact b01_t (by clear hX h hl; first | (simp_all [wn, b01_0, b01_1]; done) | grind [wn, b01_0, b01_1]) | (clear hX h hl; first | (simp_all [wn, b01_0, b01_1]; done) | grind [wn, b01_0, b01_1])) ?_
  refine j_callV h (c_Mod_isRight _ _ _ _ _ _ _ _ ms _ (by first | exact Or.inl rfl | exact Or.inr rfl)) d_Mod_drop_6 ml_Mod_202 mv_Mod_isRight (by assumption) ⟨rfl, rfl⟩ rfl rfl (Nat.le_of_ble_eq_true rfl) (hR_of hX (by decide) (by decide)) (hf_of hX (by decide) (by decide)) ?_
  rintro _ _ _ _ ⟨rfl, rfl, rfl, rfl⟩
  refine j_if_ne (tgt := 14) h d_Mod_drop_9 (by decide) (fun c1 => ?_) (fun c1 => absurd c1 (by decide))
  refine j_aload_n h d_Mod_drop_14 rfl ?_
  refine j_iload_n h d_Mod_drop_15 rfl ?_
  refine j_callV h (c_Mod_remove _ _ _ _ _ _ _ _ ms _ (MN_70 hm) _ hk) d_Mod_drop_16 ml_Mod_117 mv_Mod_remove (by assumption) ⟨rfl, rfl⟩ rfl rfl (Nat.le_of_ble_eq_true rfl) (hR_of hX (by decide) (by decide)) (hf_of hX (by decide) (by decide)) ?_
  rintro V3 _ _ P3 ⟨rfl, rfl, rfl, D3, rfl, hq3, hm3⟩
  have e70 : D3 70 0 = 0 := (hq3 70 0 (by decide) (by decide)).trans (by simp [up_rd])
  refine j_aload_n h d_Mod_drop_19 rfl ?_
  refine j_get3e (v := nI (N.eraseIdx k).length) h d_Mod_drop_20 fl_Mod_114 rfl (by assumption) hm3.2.1 ?_
  exact j_iret hX d_Mod_drop_23 rfl (Nat.le_refl _) (Nat.le_refl _) ⟨rfl, rfl, rfl, D3, rfl, e70, hm3⟩
theorem d_Mod_message_0 : decode b_Mod_message 0 = .ok (.aload_n 0, 1) := by decide +kernel
theorem d_Mod_message_1 : decode b_Mod_message 1 = .ok (.aload_n 0, 1) := by decide +kernel
theorem d_Mod_message_2 : decode b_Mod_message 2 = .ok (.iload_n 1, 1) := by decide +kernel
theorem d_Mod_message_3 : decode b_Mod_message 3 = .ok (.invokevirtual 216, 3) := by decide +kernel
theorem d_Mod_message_6 : decode b_Mod_message 6 = .ok (.ifCond .eq 17, 3) := by decide +kernel
theorem d_Mod_message_9 : decode b_Mod_message 9 = .ok (.iload_n 2, 1) := by decide +kernel
theorem d_Mod_message_10 : decode b_Mod_message 10 = .ok (.ifCond .lt 13, 3) := by decide +kernel
theorem d_Mod_message_13 : decode b_Mod_message 13 = .ok (.iload_n 2, 1) := by decide +kernel
theorem d_Mod_message_14 : decode b_Mod_message 14 = .ok (.bipush 6, 2) := by decide +kernel
theorem d_Mod_message_16 : decode b_Mod_message 16 = .ok (.if_icmp .gt 7, 3) := by decide +kernel
theorem d_Mod_message_19 : decode b_Mod_message 19 = .ok (.iconst 1, 1) := by decide +kernel
theorem d_Mod_message_20 : decode b_Mod_message 20 = .ok (.goto 4, 3) := by decide +kernel
theorem d_Mod_message_23 : decode b_Mod_message 23 = .ok (.iconst 0, 1) := by decide +kernel
theorem d_Mod_message_24 : decode b_Mod_message 24 = .ok (.invokevirtual 202, 3) := by decide +kernel
theorem d_Mod_message_27 : decode b_Mod_message 27 = .ok (.ifCond .ne 5, 3) := by decide +kernel
theorem d_Mod_message_30 : decode b_Mod_message 30 = .ok (.iconst 0, 1) := by decide +kernel
theorem d_Mod_message_31 : decode b_Mod_message 31 = .ok (.ireturn, 1) := by decide +kernel
theorem d_Mod_message_32 : decode b_Mod_message 32 = .ok (.aload_n 0, 1) := by decide +kernel
theorem d_Mod_message_33 : decode b_Mod_message 33 = .ok (.getfield 86, 3) := by decide +kernel
theorem d_Mod_message_36 : decode b_Mod_message 36 = .ok (.bipush 14, 2) := by decide +kernel
theorem d_Mod_message_38 : decode b_Mod_message 38 = .ok (.iload_n 1, 1) := by decide +kernel
theorem d_Mod_message_39 : decode b_Mod_message 39 = .ok (.imul, 1) := by decide +kernel
theorem d_Mod_message_40 : decode b_Mod_message 40 = .ok (.iload_n 2, 1) := by decide +kernel
theorem d_Mod_message_41 : decode b_Mod_message 41 = .ok (.iadd, 1) := by decide +kernel
theorem d_Mod_message_42 : decode b_Mod_message 42 = .ok (.iaload, 1) := by decide +kernel
theorem d_Mod_message_43 : decode b_Mod_message 43 = .ok (.ireturn, 1) := by decide +kernel
set_option maxRecDepth 100000 in
set_option maxHeartbeats 4000000 in
theorem c_Mod_message_no (l : Launch) (K : Kx) (V : Vx) (A B C D : MI) (P : MP) (ms : MSt K V P) (N : List Msg) (hm : MN D N) (z w : Int32) (hno : ¬ ((¬ z < 0 ∧ ¬ nI N.length ≤ z) ∧ wn w 0 6)) : Ct l K md_Mod_message (1, 22) 0 0 [.ref (K.ad 6 0), .int z, .int w] V (bk4 A B C D) P (MRp V A B P (some (.int 0)) C 1 N) := by
  refine ct_of [(0, .ref (K.ad 6 0)), (1, .int z), (2, .int w)] (by decide) (Nat.le_of_ble_eq_true rfl) (ca_r (ca_i (ca_i ca_n))) rfl ?_
  intro X hl hX
  have h : OkX X b_Mod_message R_Mod K := hX.1
  have hN : X.nL = 3 := hX.2.1
  have hmv := ms.1
  refine j_aload_n h d_Mod_message_0 rfl ?_
  refine j_aload_n h d_Mod_message_1 rfl ?_
  refine j_iload_n h d_Mod_message_2 rfl ?_
  refine j_callV h (c_Mod_isPlace _ _ _ _ _ _ _ _ ms _ hm _) d_Mod_message_3 ml_Mod_216 mv_Mod_isPlace (by assumption) ⟨rfl, rfl⟩ rfl rfl (Nat.le_of_ble_eq_true rfl) (hR_of hX (by decide) (by decide)) (hf_of hX (by decide) (by decide)) ?_
  rintro _ _ _ _ ⟨rfl, rfl, rfl, rfl⟩
  refine j_if_eq (tgt := 23) h d_Mod_message_6 (by decide) (fun c1 => ?_) (fun c1 => ?_)
  · refine j_iconst (v := 0) h d_Mod_message_23 (by decide) ?_
    refine j_callV h (c_Mod_isRight _ _ _ _ _ _ _ _ ms _ (by first | exact Or.inl rfl | exact Or.inr rfl)) d_Mod_message_24 ml_Mod_202 mv_Mod_isRight (by assumption) ⟨rfl, rfl⟩ rfl rfl (Nat.le_of_ble_eq_true rfl) (hR_of hX (by decide) (by decide)) (hf_of hX (by decide) (by decide)) ?_
    rintro _ _ _ _ ⟨rfl, rfl, rfl, rfl⟩
    refine j_if_ne (tgt := 32) h d_Mod_message_27 (by decide) (fun c2 => absurd c2 (by decide)) (fun c2 => ?_)
    refine j_iconst (v := 0) h d_Mod_message_30 (by decide) ?_
    exact j_iret hX d_Mod_message_31 rfl (Nat.le_refl _) (Nat.le_refl _) ⟨rfl, rfl, rfl, _, rfl, by simp [up_rd], by first | exact MN_70 hm | exact hm | exact hm3⟩
  · refine j_iload_n h d_Mod_message_9 rfl ?_
    refine j_if_lt (tgt := 23) h d_Mod_message_10 (by decide) (fun c3 => ?_) (fun c3 => ?_)
    · refine j_iconst (v := 0) h d_Mod_message_23 (by decide) ?_
      refine j_callV h (c_Mod_isRight _ _ _ _ _ _ _ _ ms _ (by first | exact Or.inl rfl | exact Or.inr rfl)) d_Mod_message_24 ml_Mod_202 mv_Mod_isRight (by assumption) ⟨rfl, rfl⟩ rfl rfl (Nat.le_of_ble_eq_true rfl) (hR_of hX (by decide) (by decide)) (hf_of hX (by decide) (by decide)) ?_
      rintro _ _ _ _ ⟨rfl, rfl, rfl, rfl⟩
      refine j_if_ne (tgt := 32) h d_Mod_message_27 (by decide) (fun c4 => absurd c4 (by decide)) (fun c4 => ?_)
      refine j_iconst (v := 0) h d_Mod_message_30 (by decide) ?_
      exact j_iret hX d_Mod_message_31 rfl (Nat.le_refl _) (Nat.le_refl _) ⟨rfl, rfl, rfl, _, rfl, by simp [up_rd], by first | exact MN_70 hm | exact hm | exact hm3⟩
    · refine j_iload_n h d_Mod_message_13 rfl ?_
      refine j_bipush (v := 6) h d_Mod_message_14 (by decide) ?_
      refine j_ic_gt (tgt := 23) h d_Mod_message_16 (by decide) (fun c5 => ?_) (fun c5 => ?_)
      · refine j_iconst (v := 0) h d_Mod_message_23 (by decide) ?_
        refine j_callV h (c_Mod_isRight _ _ _ _ _ _ _ _ ms _ (by first | exact Or.inl rfl | exact Or.inr rfl)) d_Mod_message_24 ml_Mod_202 mv_Mod_isRight (by assumption) ⟨rfl, rfl⟩ rfl rfl (Nat.le_of_ble_eq_true rfl) (hR_of hX (by decide) (by decide)) (hf_of hX (by decide) (by decide)) ?_
        rintro _ _ _ _ ⟨rfl, rfl, rfl, rfl⟩
        refine j_if_ne (tgt := 32) h d_Mod_message_27 (by decide) (fun c6 => absurd c6 (by decide)) (fun c6 => ?_)
        refine j_iconst (v := 0) h d_Mod_message_30 (by decide) ?_
        exact j_iret hX d_Mod_message_31 rfl (Nat.le_refl _) (Nat.le_refl _) ⟨rfl, rfl, rfl, _, rfl, by simp [up_rd], by first | exact MN_70 hm | exact hm | exact hm3⟩
      · refine j_iconst (v := 1) h d_Mod_message_19 (by decide) ?_
        refine j_goto (tgt := 24) h d_Mod_message_20 (by decide) ?_
        exfalso
        clear hX h hl
        first | (simp_all [wn, b01_0, b01_1]; done) | grind [wn, b01_0, b01_1]
set_option maxRecDepth 100000 in
set_option maxHeartbeats 4000000 in
theorem c_Mod_message_ok (l : Launch) (K : Kx) (V : Vx) (A B C D : MI) (P : MP) (ms : MSt K V P) (N : List Msg) (hm : MN D N) (k : Nat) (x : Msg) (hx : N[k]? = some x) (w : Nat) (hw : w < 7) : Ct l K md_Mod_message (1, 22) 0 0 [.ref (K.ad 6 0), .int (nI k), .int (nI w)] V (bk4 A B C D) P (MRp V A B P (some (.int (x w))) C 0 N) := by
  refine ct_of [(0, .ref (K.ad 6 0)), (1, .int (nI k)), (2, .int (nI w))] (by decide) (Nat.le_of_ble_eq_true rfl) (ca_r (ca_i (ca_i ca_n))) rfl ?_
  intro X hl hX
  have h : OkX X b_Mod_message R_Mod K := hX.1
  have hN : X.nL = 3 := hX.2.1
  have hmv := ms.1
  have hk : k < N.length := (List.getElem?_eq_some_iff.mp hx).1
  have hm3 := hm.1
  have hk0 := nI_n0 (k := k) (by omega)
  have hk1 := nI_ge hk (by omega)
  have hw0 := nI_n0 (k := w) (by omega)
  have hw1 : ¬ (6 : Int32) < nI w := fun q => absurd ((nI_ltI (a := 6) (by decide) (by omega)).mp q) (by omega)
  refine j_aload_n h d_Mod_message_0 rfl ?_
  refine j_aload_n h d_Mod_message_1 rfl ?_
  refine j_iload_n h d_Mod_message_2 rfl ?_
  refine j_callV h (c_Mod_isPlace _ _ _ _ _ _ _ _ ms _ hm _) d_Mod_message_3 ml_Mod_216 mv_Mod_isPlace (by assumption) ⟨rfl, rfl⟩ rfl rfl (Nat.le_of_ble_eq_true rfl) (hR_of hX (by decide) (by decide)) (hf_of hX (by decide) (by decide)) ?_
  rintro _ _ _ _ ⟨rfl, rfl, rfl, rfl⟩
  refine j_if_eq (tgt := 23) h d_Mod_message_6 (by decide) (fun c1 => ?_) (fun c1 => ?_)
  · refine j_iconst (v := 0) h d_Mod_message_23 (by decide) ?_
    exfalso
    clear hX h hl
    first | (simp_all [wn, b01_0, b01_1]; done) | grind [wn, b01_0, b01_1]
  · refine j_iload_n h d_Mod_message_9 rfl ?_
    refine j_if_lt (tgt := 23) h d_Mod_message_10 (by decide) (fun c2 => ?_) (fun c2 => ?_)
    · refine j_iconst (v := 0) h d_Mod_message_23 (by decide) ?_
      exfalso
      clear hX h hl
      first | (simp_all [wn, b01_0, b01_1]; done) | grind [wn, b01_0, b01_1]
    · refine j_iload_n h d_Mod_message_13 rfl ?_
      refine j_bipush (v := 6) h d_Mod_message_14 (by decide) ?_
      refine j_ic_gt (tgt := 23) h d_Mod_message_16 (by decide) (fun c3 => ?_) (fun c3 => ?_)
      · refine j_iconst (v := 0) h d_Mod_message_23 (by decide) ?_
        exfalso
        clear hX h hl
        first | (simp_all [wn, b01_0, b01_1]; done) | grind [wn, b01_0, b01_1]
      · refine j_iconst (v := 1) h d_Mod_message_19 (by decide) ?_
        refine j_goto (tgt := 24) h d_Mod_message_20 (by decide) ?_
        refine j_callV h (c_Mod_isRight _ _ _ _ _ _ _ _ ms _ (by first | exact Or.inl rfl | exact Or.inr rfl)) d_Mod_message_24 ml_Mod_202 mv_Mod_isRight (by assumption) ⟨rfl, rfl⟩ rfl rfl (Nat.le_of_ble_eq_true rfl) (hR_of hX (by decide) (by decide)) (hf_of hX (by decide) (by decide)) ?_
        rintro _ _ _ _ ⟨rfl, rfl, rfl, rfl⟩
        refine j_if_ne (tgt := 32) h d_Mod_message_27 (by decide) (fun c4 => ?_) (fun c4 => absurd c4 (by decide))
        refine j_aload_n h d_Mod_message_32 rfl ?_
        refine j_getR h d_Mod_message_33 fl_Mod_86 rfl (by assumption) (mP ms (a := 35) (by decide)) ?_
        refine j_bipush (v := 14) h d_Mod_message_36 (by decide) ?_
        refine j_iload_n h d_Mod_message_38 rfl ?_
        refine j_imul h d_Mod_message_39 ?_
        refine j_iload_n h d_Mod_message_40 rfl ?_
        refine j_ix14 (s := k) (a := w) h d_Mod_message_41 ?_
        refine m_iald3 (a := 35) (L := 4200) (j := (14 * k + w)) h ms d_Mod_message_42 (by decide) rfl (by decide) rfl rfl (by omega) ?_
        exact j_iret hX d_Mod_message_43 rfl (Nat.le_refl _) (Nat.le_refl _) ⟨rfl, by rw [show up D 70 0 _ 72 (14 * k + w) = D 72 (14 * k + w) from rfl, hm.2.2 k x hx w (by omega)], rfl, _, rfl, by simp [up_rd], by first | exact MN_70 hm | exact hm | exact hm3⟩
