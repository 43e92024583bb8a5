/-! the model: what a caller may ask, the rest -/
theorem d_Mod_client_0 : decode b_Mod_client 0 = .ok (.aload_n 0, 1) := by decide +kernel
theorem d_Mod_client_1 : decode b_Mod_client 1 = .ok (.iload_n 1, 1) := by decide +kernel
theorem d_Mod_client_2 : decode b_Mod_client 2 = .ok (.ifCond .lt 22, 3) := by decide +kernel
theorem d_Mod_client_5 : decode b_Mod_client 5 = .ok (.iload_n 1, 1) := by decide +kernel
theorem d_Mod_client_6 : decode b_Mod_client 6 = .ok (.bipush 16, 2) := by decide +kernel
theorem d_Mod_client_8 : decode b_Mod_client 8 = .ok (.if_icmp .ge 16, 3) := by decide +kernel
theorem d_Mod_client_11 : decode b_Mod_client 11 = .ok (.iload_n 2, 1) := by decide +kernel
theorem d_Mod_client_12 : decode b_Mod_client 12 = .ok (.ifCond .lt 12, 3) := by decide +kernel
theorem d_Mod_client_15 : decode b_Mod_client 15 = .ok (.iload_n 2, 1) := by decide +kernel
theorem d_Mod_client_16 : decode b_Mod_client 16 = .ok (.iconst 2, 1) := by decide +kernel
theorem d_Mod_client_17 : decode b_Mod_client 17 = .ok (.if_icmp .gt 7, 3) := by decide +kernel
theorem d_Mod_client_20 : decode b_Mod_client 20 = .ok (.iconst 1, 1) := by decide +kernel
theorem d_Mod_client_21 : decode b_Mod_client 21 = .ok (.goto 4, 3) := by decide +kernel
theorem d_Mod_client_24 : decode b_Mod_client 24 = .ok (.iconst 0, 1) := by decide +kernel
theorem d_Mod_client_25 : decode b_Mod_client 25 = .ok (.invokevirtual 202, 3) := by decide +kernel
theorem d_Mod_client_28 : decode b_Mod_client 28 = .ok (.ifCond .ne 5, 3) := by decide +kernel
theorem d_Mod_client_31 : decode b_Mod_client 31 = .ok (.iconst 0, 1) := by decide +kernel
theorem d_Mod_client_32 : decode b_Mod_client 32 = .ok (.ireturn, 1) := by decide +kernel
theorem d_Mod_client_33 : decode b_Mod_client 33 = .ok (.iload_n 2, 1) := by decide +kernel
theorem d_Mod_client_34 : decode b_Mod_client 34 = .ok (.ifCond .ne 24, 3) := by decide +kernel
theorem d_Mod_client_37 : decode b_Mod_client 37 = .ok (.aload_n 0, 1) := by decide +kernel
theorem d_Mod_client_38 : decode b_Mod_client 38 = .ok (.iload_n 1, 1) := by decide +kernel
theorem d_Mod_client_39 : decode b_Mod_client 39 = .ok (.invokevirtual 194, 3) := by decide +kernel
theorem d_Mod_client_42 : decode b_Mod_client 42 = .ok (.ifCond .eq 12, 3) := by decide +kernel
theorem d_Mod_client_45 : decode b_Mod_client 45 = .ok (.aload_n 0, 1) := by decide +kernel
theorem d_Mod_client_46 : decode b_Mod_client 46 = .ok (.getfield 74, 3) := by decide +kernel
theorem d_Mod_client_49 : decode b_Mod_client 49 = .ok (.iload_n 1, 1) := by decide +kernel
theorem d_Mod_client_50 : decode b_Mod_client 50 = .ok (.iaload, 1) := by decide +kernel
theorem d_Mod_client_51 : decode b_Mod_client 51 = .ok (.goto 40, 3) := by decide +kernel
theorem d_Mod_client_54 : decode b_Mod_client 54 = .ok (.iconst (-1), 1) := by decide +kernel
theorem d_Mod_client_55 : decode b_Mod_client 55 = .ok (.goto 36, 3) := by decide +kernel
theorem d_Mod_client_58 : decode b_Mod_client 58 = .ok (.iload_n 2, 1) := by decide +kernel
theorem d_Mod_client_59 : decode b_Mod_client 59 = .ok (.iconst 1, 1) := by decide +kernel
theorem d_Mod_client_60 : decode b_Mod_client 60 = .ok (.if_icmp .ne 25, 3) := by decide +kernel
theorem d_Mod_client_63 : decode b_Mod_client 63 = .ok (.aload_n 0, 1) := by decide +kernel
theorem d_Mod_client_64 : decode b_Mod_client 64 = .ok (.getfield 74, 3) := by decide +kernel
theorem d_Mod_client_67 : decode b_Mod_client 67 = .ok (.iload_n 1, 1) := by decide +kernel
theorem d_Mod_client_68 : decode b_Mod_client 68 = .ok (.iaload, 1) := by decide +kernel
theorem d_Mod_client_69 : decode b_Mod_client 69 = .ok (.ifCond .ge 7, 3) := by decide +kernel
theorem d_Mod_client_72 : decode b_Mod_client 72 = .ok (.iconst 0, 1) := by decide +kernel
theorem d_Mod_client_73 : decode b_Mod_client 73 = .ok (.goto 18, 3) := by decide +kernel
theorem d_Mod_client_76 : decode b_Mod_client 76 = .ok (.aload_n 0, 1) := by decide +kernel
theorem d_Mod_client_77 : decode b_Mod_client 77 = .ok (.getfield 77, 3) := by decide +kernel
theorem d_Mod_client_80 : decode b_Mod_client 80 = .ok (.iload_n 1, 1) := by decide +kernel
theorem d_Mod_client_81 : decode b_Mod_client 81 = .ok (.iaload, 1) := by decide +kernel
theorem d_Mod_client_82 : decode b_Mod_client 82 = .ok (.goto 9, 3) := by decide +kernel
theorem d_Mod_client_85 : decode b_Mod_client 85 = .ok (.aload_n 0, 1) := by decide +kernel
theorem d_Mod_client_86 : decode b_Mod_client 86 = .ok (.getfield 80, 3) := by decide +kernel
theorem d_Mod_client_89 : decode b_Mod_client 89 = .ok (.iload_n 1, 1) := by decide +kernel
theorem d_Mod_client_90 : decode b_Mod_client 90 = .ok (.iaload, 1) := by decide +kernel
theorem d_Mod_client_91 : decode b_Mod_client 91 = .ok (.ireturn, 1) := by decide +kernel
set_option maxRecDepth 100000 in
set_option maxHeartbeats 4000000 in
theorem c_Mod_client_no (l : Launch) (K : Kx) (V : Vx) (A B C D : MI) (P : MP) (ms : MSt K V P) (N : List Msg) (hm : MN D N) (z w : Int32) (hno : ¬ ((¬ z < 0 ∧ ¬ 16 ≤ z) ∧ wn w 0 2)) : Ct l K md_Mod_client (1, 21) 0 0 [.ref (K.ad 6 0), .int z, .int w] V (bk4 A B C D) P (MRp V A B P (some (.int 0)) C 1 N) := by
  refine ct_of [(0, .ref (K.ad 6 0)), (1, .int z), (2, .int w)] (by decide) (Nat.le_of_ble_eq_true rfl) (ca_r (ca_i (ca_i ca_n))) rfl ?_
  intro X hl hX
  have h : OkX X b_Mod_client R_Mod K := hX.1
  have hN : X.nL = 3 := hX.2.1
  have hmv := ms.1
  refine j_aload_n h d_Mod_client_0 rfl ?_
  refine j_iload_n h d_Mod_client_1 rfl ?_
  refine j_if_lt (tgt := 24) h d_Mod_client_2 (by decide) (fun c1 => ?_) (fun c1 => ?_)
  · refine j_iconst (v := 0) h d_Mod_client_24 (by decide) ?_
    refine j_callV h (c_Mod_isRight _ _ _ _ _ _ _ _ ms _ (by first | exact Or.inl rfl | exact Or.inr rfl)) d_Mod_client_25 ml_Mod_202 mv_Mod_isRight (by assumption) ⟨rfl, rfl⟩ rfl rfl (Nat.le_of_ble_eq_true rfl) (hR_of hX (by decide) (by decide)) (hf_of hX (by decide) (by decide)) ?_
    rintro _ _ _ _ ⟨rfl, rfl, rfl, rfl⟩
    refine j_if_ne (tgt := 33) h d_Mod_client_28 (by decide) (fun c2 => absurd c2 (by decide)) (fun c2 => ?_)
    refine j_iconst (v := 0) h d_Mod_client_31 (by decide) ?_
    exact j_iret hX d_Mod_client_32 rfl (Nat.le_refl _) (Nat.le_refl _) ⟨rfl, rfl, rfl, _, rfl, by simp [up_rd], by first | exact MN_70 hm | exact hm | exact hm3⟩
  · refine j_iload_n h d_Mod_client_5 rfl ?_
    refine j_bipush (v := 16) h d_Mod_client_6 (by decide) ?_
    refine j_ic_ge (tgt := 24) h d_Mod_client_8 (by decide) (fun c3 => ?_) (fun c3 => ?_)
    · refine j_iconst (v := 0) h d_Mod_client_24 (by decide) ?_
      refine j_callV h (c_Mod_isRight _ _ _ _ _ _ _ _ ms _ (by first | exact Or.inl rfl | exact Or.inr rfl)) d_Mod_client_25 ml_Mod_202 mv_Mod_isRight (by assumption) ⟨rfl, rfl⟩ rfl rfl (Nat.le_of_ble_eq_true rfl) (hR_of hX (by decide) (by decide)) (hf_of hX (by decide) (by decide)) ?_
      rintro _ _ _ _ ⟨rfl, rfl, rfl, rfl⟩
      refine j_if_ne (tgt := 33) h d_Mod_client_28 (by decide) (fun c4 => absurd c4 (by decide)) (fun c4 => ?_)
      refine j_iconst (v := 0) h d_Mod_client_31 (by decide) ?_
      exact j_iret hX d_Mod_client_32 rfl (Nat.le_refl _) (Nat.le_refl _) ⟨rfl, rfl, rfl, _, rfl, by simp [up_rd], by first | exact MN_70 hm | exact hm | exact hm3⟩
    · refine j_iload_n h d_Mod_client_11 rfl ?_
      refine j_if_lt (tgt := 24) h d_Mod_client_12 (by decide) (fun c5 => ?_) (fun c5 => ?_)
      · refine j_iconst (v := 0) h d_Mod_client_24 (by decide) ?_
        refine j_callV h (c_Mod_isRight _ _ _ _ _ _ _ _ ms _ (by first | exact Or.inl rfl | exact Or.inr rfl)) d_Mod_client_25 ml_Mod_202 mv_Mod_isRight (by assumption) ⟨rfl, rfl⟩ rfl rfl (Nat.le_of_ble_eq_true rfl) (hR_of hX (by decide) (by decide)) (hf_of hX (by decide) (by decide)) ?_
        rintro _ _ _ _ ⟨rfl, rfl, rfl, rfl⟩
        refine j_if_ne (tgt := 33) h d_Mod_client_28 (by decide) (fun c6 => absurd c6 (by decide)) (fun c6 => ?_)
        refine j_iconst (v := 0) h d_Mod_client_31 (by decide) ?_
        exact j_iret hX d_Mod_client_32 rfl (Nat.le_refl _) (Nat.le_refl _) ⟨rfl, rfl, rfl, _, rfl, by simp [up_rd], by first | exact MN_70 hm | exact hm | exact hm3⟩
      · refine j_iload_n h d_Mod_client_15 rfl ?_
        refine j_iconst (v := 2) h d_Mod_client_16 (by decide) ?_
        refine j_ic_gt (tgt := 24) h d_Mod_client_17 (by decide) (fun c7 => ?_) (fun c7 => ?_)
        · refine j_iconst (v := 0) h d_Mod_client_24 (by decide) ?_
          refine j_callV h (c_Mod_isRight _ _ _ _ _ _ _ _ ms _ (by first | exact Or.inl rfl | exact Or.inr rfl)) d_Mod_client_25 ml_Mod_202 mv_Mod_isRight (by assumption) ⟨rfl, rfl⟩ rfl rfl (Nat.le_of_ble_eq_true rfl) (hR_of hX (by decide) (by decide)) (hf_of hX (by decide) (by decide)) ?_
          rintro _ _ _ _ ⟨rfl, rfl, rfl, rfl⟩
          refine j_if_ne (tgt := 33) h d_Mod_client_28 (by decide) (fun c8 => absurd c8 (by decide)) (fun c8 => ?_)
          refine j_iconst (v := 0) h d_Mod_client_31 (by decide) ?_
          exact j_iret hX d_Mod_client_32 rfl (Nat.le_refl _) (Nat.le_refl _) ⟨rfl, rfl, rfl, _, rfl, by simp [up_rd], by first | exact MN_70 hm | exact hm | exact hm3⟩
        · refine j_iconst (v := 1) h d_Mod_client_20 (by decide) ?_
          refine j_goto (tgt := 25) h d_Mod_client_21 (by decide) ?_
          exfalso
          clear hX h hl
          first | (simp_all [wn, b01_0, b01_1]; done) | grind [wn, b01_0, b01_1]
set_option maxRecDepth 100000 in
set_option maxHeartbeats 4000000 in
theorem c_Mod_client_ok (l : Launch) (K : Kx) (V : Vx) (A B C D : MI) (P : MP) (ms : MSt K V P) (N : List Msg) (hm : MN D N) (c : Nat) (hc : c < 16) (w : Nat) (hw : w < 3) (h30 : C 30 c = -1 ↔ C 30 c < 0) (h31 : C 30 c = -1 → C 31 c = 0) : Ct l K md_Mod_client (1, 21) 0 0 [.ref (K.ad 6 0), .int (nI c), .int (nI w)] V (bk4 A B C D) P (MRp V A B P (some (.int (ctell C c w))) C 0 N) := by
  refine ct_of [(0, .ref (K.ad 6 0)), (1, .int (nI c)), (2, .int (nI w))] (by decide) (Nat.le_of_ble_eq_true rfl) (ca_r (ca_i (ca_i ca_n))) rfl ?_
  intro X hl hX
  have h : OkX X b_Mod_client R_Mod K := hX.1
  have hN : X.nL = 3 := hX.2.1
  have hmv := ms.1
  have c0 := nI_n0 (k := c) (by omega)
  have cg : ¬ (16 : Int32) ≤ nI c := fun q => absurd ((nI_leI (a := 16) (by decide) (by omega)).mp q) (by omega)
  match w, hw with
  | 0, _ =>
    refine j_aload_n h d_Mod_client_0 rfl ?_
    refine j_iload_n h d_Mod_client_1 rfl ?_
    refine j_if_lt (tgt := 24) h d_Mod_client_2 (by decide) (fun c1 => ?_) (fun c1 => ?_)
    · refine j_iconst (v := 0) h d_Mod_client_24 (by decide) ?_
      exfalso
      clear hX h hl
      first | (simp_all [wn, b01_0, b01_1]; done) | grind [wn, b01_0, b01_1]
    · refine j_iload_n h d_Mod_client_5 rfl ?_
      refine j_bipush (v := 16) h d_Mod_client_6 (by decide) ?_
      refine j_ic_ge (tgt := 24) h d_Mod_client_8 (by decide) (fun c2 => ?_) (fun c2 => ?_)
      · refine j_iconst (v := 0) h d_Mod_client_24 (by decide) ?_
        exfalso
        clear hX h hl
        first | (simp_all [wn, b01_0, b01_1]; done) | grind [wn, b01_0, b01_1]
      · refine j_iload_n h d_Mod_client_11 rfl ?_
        refine j_if_lt (tgt := 24) h d_Mod_client_12 (by decide) (fun c3 => absurd c3 (by decide)) (fun c3 => ?_)
        refine j_iload_n h d_Mod_client_15 rfl ?_
        refine j_iconst (v := 2) h d_Mod_client_16 (by decide) ?_
        refine j_ic_gt (tgt := 24) h d_Mod_client_17 (by decide) (fun c4 => absurd c4 (by decide)) (fun c4 => ?_)
        refine j_iconst (v := 1) h d_Mod_client_20 (by decide) ?_
        refine j_goto (tgt := 25) h d_Mod_client_21 (by decide) ?_
        refine j_callV h (c_Mod_isRight _ _ _ _ _ _ _ _ ms _ (by first | exact Or.inl rfl | exact Or.inr rfl)) d_Mod_client_25 ml_Mod_202 mv_Mod_isRight (by assumption) ⟨rfl, rfl⟩ rfl rfl (Nat.le_of_ble_eq_true rfl) (hR_of hX (by decide) (by decide)) (hf_of hX (by decide) (by decide)) ?_
        rintro _ _ _ _ ⟨rfl, rfl, rfl, rfl⟩
        refine j_if_ne (tgt := 33) h d_Mod_client_28 (by decide) (fun c5 => ?_) (fun c5 => absurd c5 (by decide))
        refine j_iload_n h d_Mod_client_33 rfl ?_
        refine j_if_ne (tgt := 58) h d_Mod_client_34 (by decide) (fun c6 => absurd c6 (by decide)) (fun c6 => ?_)
        refine j_aload_n h d_Mod_client_37 rfl ?_
        refine j_iload_n h d_Mod_client_38 rfl ?_
        refine j_callV h (c_Mod_holds _ _ _ _ _ _ _ _ ms _ hc) d_Mod_client_39 ml_Mod_194 mv_Mod_holds (by assumption) ⟨rfl, rfl⟩ rfl rfl (Nat.le_of_ble_eq_true rfl) (hR_of hX (by decide) (by decide)) (hf_of hX (by decide) (by decide)) ?_
        rintro _ _ _ _ ⟨rfl, rfl, rfl, rfl⟩
        refine j_if_eq (tgt := 54) h d_Mod_client_42 (by decide) (fun c7 => ?_) (fun c7 => ?_)
        · refine j_iconst (v := -1) h d_Mod_client_54 (by decide) ?_
          refine j_goto (tgt := 91) h d_Mod_client_55 (by decide) ?_
          exact j_iret hX d_Mod_client_91 rfl (Nat.le_refl _) (Nat.le_refl _) ⟨rfl, by clear hX h hl; first | rfl | (simp_all [ctell, b01_0]; done) | grind [ctell, b01_0], rfl, _, rfl, by simp [up_rd], by first | exact MN_70 hm | exact hm | exact hm3⟩
        · refine j_aload_n h d_Mod_client_45 rfl ?_
          refine j_getR h d_Mod_client_46 fl_Mod_74 rfl (by assumption) (mP ms (a := 31) (by decide)) ?_
          refine j_iload_n h d_Mod_client_49 rfl ?_
          refine m_iald2 (a := 31) (L := 16) (j := c) h ms d_Mod_client_50 (by decide) rfl (by decide) rfl rfl (by omega) ?_
          refine j_goto (tgt := 91) h d_Mod_client_51 (by decide) ?_
          exact j_iret hX d_Mod_client_91 rfl (Nat.le_refl _) (Nat.le_refl _) ⟨rfl, by clear hX h hl; first | rfl | (simp_all [ctell, b01_0]; done) | grind [ctell, b01_0], rfl, _, rfl, by simp [up_rd], by first | exact MN_70 hm | exact hm | exact hm3⟩
  | 1, _ =>
    refine j_aload_n h d_Mod_client_0 rfl ?_
    refine j_iload_n h d_Mod_client_1 rfl ?_
    refine j_if_lt (tgt := 24) h d_Mod_client_2 (by decide) (fun c1 => ?_) (fun c1 => ?_)
    · refine j_iconst (v := 0) h d_Mod_client_24 (by decide) ?_
      exfalso
      clear hX h hl
      first | (simp_all [wn, b01_0, b01_1]; done) | grind [wn, b01_0, b01_1]
    · refine j_iload_n h d_Mod_client_5 rfl ?_
      refine j_bipush (v := 16) h d_Mod_client_6 (by decide) ?_
      refine j_ic_ge (tgt := 24) h d_Mod_client_8 (by decide) (fun c2 => ?_) (fun c2 => ?_)
      · refine j_iconst (v := 0) h d_Mod_client_24 (by decide) ?_
        exfalso
        clear hX h hl
        first | (simp_all [wn, b01_0, b01_1]; done) | grind [wn, b01_0, b01_1]
      · refine j_iload_n h d_Mod_client_11 rfl ?_
        refine j_if_lt (tgt := 24) h d_Mod_client_12 (by decide) (fun c3 => absurd c3 (by decide)) (fun c3 => ?_)
        refine j_iload_n h d_Mod_client_15 rfl ?_
        refine j_iconst (v := 2) h d_Mod_client_16 (by decide) ?_
        refine j_ic_gt (tgt := 24) h d_Mod_client_17 (by decide) (fun c4 => absurd c4 (by decide)) (fun c4 => ?_)
        refine j_iconst (v := 1) h d_Mod_client_20 (by decide) ?_
        refine j_goto (tgt := 25) h d_Mod_client_21 (by decide) ?_
        refine j_callV h (c_Mod_isRight _ _ _ _ _ _ _ _ ms _ (by first | exact Or.inl rfl | exact Or.inr rfl)) d_Mod_client_25 ml_Mod_202 mv_Mod_isRight (by assumption) ⟨rfl, rfl⟩ rfl rfl (Nat.le_of_ble_eq_true rfl) (hR_of hX (by decide) (by decide)) (hf_of hX (by decide) (by decide)) ?_
        rintro _ _ _ _ ⟨rfl, rfl, rfl, rfl⟩
        refine j_if_ne (tgt := 33) h d_Mod_client_28 (by decide) (fun c5 => ?_) (fun c5 => absurd c5 (by decide))
        refine j_iload_n h d_Mod_client_33 rfl ?_
        refine j_if_ne (tgt := 58) h d_Mod_client_34 (by decide) (fun c6 => ?_) (fun c6 => absurd c6 (by decide))
        refine j_iload_n h d_Mod_client_58 rfl ?_
        refine j_iconst (v := 1) h d_Mod_client_59 (by decide) ?_
        refine j_ic_ne (tgt := 85) h d_Mod_client_60 (by decide) (fun c7 => absurd c7 (by decide)) (fun c7 => ?_)
        refine j_aload_n h d_Mod_client_63 rfl ?_
        refine j_getR h d_Mod_client_64 fl_Mod_74 rfl (by assumption) (mP ms (a := 31) (by decide)) ?_
        refine j_iload_n h d_Mod_client_67 rfl ?_
        refine m_iald2 (a := 31) (L := 16) (j := c) h ms d_Mod_client_68 (by decide) rfl (by decide) rfl rfl (by omega) ?_
        refine j_if_ge (tgt := 76) h d_Mod_client_69 (by decide) (fun c8 => ?_) (fun c8 => ?_)
        · refine j_aload_n h d_Mod_client_76 rfl ?_
          refine j_getR h d_Mod_client_77 fl_Mod_77 rfl (by assumption) (mP ms (a := 32) (by decide)) ?_
          refine j_iload_n h d_Mod_client_80 rfl ?_
          refine m_iald2 (a := 32) (L := 16) (j := c) h ms d_Mod_client_81 (by decide) rfl (by decide) rfl rfl (by omega) ?_
          refine j_goto (tgt := 91) h d_Mod_client_82 (by decide) ?_
          exact j_iret hX d_Mod_client_91 rfl (Nat.le_refl _) (Nat.le_refl _) ⟨rfl, by clear hX h hl; first | rfl | (simp_all [ctell, b01_0]; done) | grind [ctell, b01_0], rfl, _, rfl, by simp [up_rd], by first | exact MN_70 hm | exact hm | exact hm3⟩
        · refine j_iconst (v := 0) h d_Mod_client_72 (by decide) ?_
          refine j_goto (tgt := 91) h d_Mod_client_73 (by decide) ?_
          exact j_iret hX d_Mod_client_91 rfl (Nat.le_refl _) (Nat.le_refl _) ⟨rfl, by clear hX h hl; first | rfl | (simp_all [ctell, b01_0]; done) | grind [ctell, b01_0], rfl, _, rfl, by simp [up_rd], by first | exact MN_70 hm | exact hm | exact hm3⟩
  | 2, _ =>
    refine j_aload_n h d_Mod_client_0 rfl ?_
    refine j_iload_n h d_Mod_client_1 rfl ?_
    refine j_if_lt (tgt := 24) h d_Mod_client_2 (by decide) (fun c1 => ?_) (fun c1 => ?_)
    · refine j_iconst (v := 0) h d_Mod_client_24 (by decide) ?_
      exfalso
      clear hX h hl
      first | (simp_all [wn, b01_0, b01_1]; done) | grind [wn, b01_0, b01_1]
    · refine j_iload_n h d_Mod_client_5 rfl ?_
      refine j_bipush (v := 16) h d_Mod_client_6 (by decide) ?_
      refine j_ic_ge (tgt := 24) h d_Mod_client_8 (by decide) (fun c2 => ?_) (fun c2 => ?_)
      · refine j_iconst (v := 0) h d_Mod_client_24 (by decide) ?_
        exfalso
        clear hX h hl
        first | (simp_all [wn, b01_0, b01_1]; done) | grind [wn, b01_0, b01_1]
      · refine j_iload_n h d_Mod_client_11 rfl ?_
        refine j_if_lt (tgt := 24) h d_Mod_client_12 (by decide) (fun c3 => absurd c3 (by decide)) (fun c3 => ?_)
        refine j_iload_n h d_Mod_client_15 rfl ?_
        refine j_iconst (v := 2) h d_Mod_client_16 (by decide) ?_
        refine j_ic_gt (tgt := 24) h d_Mod_client_17 (by decide) (fun c4 => absurd c4 (by decide)) (fun c4 => ?_)
        refine j_iconst (v := 1) h d_Mod_client_20 (by decide) ?_
        refine j_goto (tgt := 25) h d_Mod_client_21 (by decide) ?_
        refine j_callV h (c_Mod_isRight _ _ _ _ _ _ _ _ ms _ (by first | exact Or.inl rfl | exact Or.inr rfl)) d_Mod_client_25 ml_Mod_202 mv_Mod_isRight (by assumption) ⟨rfl, rfl⟩ rfl rfl (Nat.le_of_ble_eq_true rfl) (hR_of hX (by decide) (by decide)) (hf_of hX (by decide) (by decide)) ?_
        rintro _ _ _ _ ⟨rfl, rfl, rfl, rfl⟩
        refine j_if_ne (tgt := 33) h d_Mod_client_28 (by decide) (fun c5 => ?_) (fun c5 => absurd c5 (by decide))
        refine j_iload_n h d_Mod_client_33 rfl ?_
        refine j_if_ne (tgt := 58) h d_Mod_client_34 (by decide) (fun c6 => ?_) (fun c6 => absurd c6 (by decide))
        refine j_iload_n h d_Mod_client_58 rfl ?_
        refine j_iconst (v := 1) h d_Mod_client_59 (by decide) ?_
        refine j_ic_ne (tgt := 85) h d_Mod_client_60 (by decide) (fun c7 => ?_) (fun c7 => absurd c7 (by decide))
        refine j_aload_n h d_Mod_client_85 rfl ?_
        refine j_getR h d_Mod_client_86 fl_Mod_80 rfl (by assumption) (mP ms (a := 33) (by decide)) ?_
        refine j_iload_n h d_Mod_client_89 rfl ?_
        refine m_iald2 (a := 33) (L := 16) (j := c) h ms d_Mod_client_90 (by decide) rfl (by decide) rfl rfl (by omega) ?_
        exact j_iret hX d_Mod_client_91 rfl (Nat.le_refl _) (Nat.le_refl _) ⟨rfl, by clear hX h hl; first | rfl | (simp_all [ctell, b01_0]; done) | grind [ctell, b01_0], rfl, _, rfl, by simp [up_rd], by first | exact MN_70 hm | exact hm | exact hm3⟩
  | k + 3, hk => exact absurd hk (by omega)
theorem d_Mod_record_0 : decode b_Mod_record 0 = .ok (.aload_n 0, 1) := by decide +kernel
theorem d_Mod_record_1 : decode b_Mod_record 1 = .ok (.aload_n 0, 1) := by decide +kernel
theorem d_Mod_record_2 : decode b_Mod_record 2 = .ok (.iload_n 1, 1) := by decide +kernel
theorem d_Mod_record_3 : decode b_Mod_record 3 = .ok (.invokevirtual 206, 3) := by decide +kernel
theorem d_Mod_record_6 : decode b_Mod_record 6 = .ok (.ifCond .eq 29, 3) := by decide +kernel
theorem d_Mod_record_9 : decode b_Mod_record 9 = .ok (.iload_n 2, 1) := by decide +kernel
theorem d_Mod_record_10 : decode b_Mod_record 10 = .ok (.ifCond .lt 25, 3) := by decide +kernel
theorem d_Mod_record_13 : decode b_Mod_record 13 = .ok (.iload_n 2, 1) := by decide +kernel
theorem d_Mod_record_14 : decode b_Mod_record 14 = .ok (.aload_n 0, 1) := by decide +kernel
theorem d_Mod_record_15 : decode b_Mod_record 15 = .ok (.getfield 98, 3) := by decide +kernel
theorem d_Mod_record_18 : decode b_Mod_record 18 = .ok (.if_icmp .ge 17, 3) := by decide +kernel
theorem d_Mod_record_21 : decode b_Mod_record 21 = .ok (.iload_n 3, 1) := by decide +kernel
theorem d_Mod_record_22 : decode b_Mod_record 22 = .ok (.ifCond .lt 13, 3) := by decide +kernel
theorem d_Mod_record_25 : decode b_Mod_record 25 = .ok (.iload_n 3, 1) := by decide +kernel
theorem d_Mod_record_26 : decode b_Mod_record 26 = .ok (.bipush 9, 2) := by decide +kernel
theorem d_Mod_record_28 : decode b_Mod_record 28 = .ok (.if_icmp .gt 7, 3) := by decide +kernel
theorem d_Mod_record_31 : decode b_Mod_record 31 = .ok (.iconst 1, 1) := by decide +kernel
theorem d_Mod_record_32 : decode b_Mod_record 32 = .ok (.goto 4, 3) := by decide +kernel
theorem d_Mod_record_35 : decode b_Mod_record 35 = .ok (.iconst 0, 1) := by decide +kernel
theorem d_Mod_record_36 : decode b_Mod_record 36 = .ok (.invokevirtual 202, 3) := by decide +kernel
theorem d_Mod_record_39 : decode b_Mod_record 39 = .ok (.ifCond .ne 5, 3) := by decide +kernel
theorem d_Mod_record_42 : decode b_Mod_record 42 = .ok (.iconst 0, 1) := by decide +kernel
theorem d_Mod_record_43 : decode b_Mod_record 43 = .ok (.ireturn, 1) := by decide +kernel
theorem d_Mod_record_44 : decode b_Mod_record 44 = .ok (.bipush 32, 2) := by decide +kernel
theorem d_Mod_record_46 : decode b_Mod_record 46 = .ok (.iload_n 1, 1) := by decide +kernel
theorem d_Mod_record_47 : decode b_Mod_record 47 = .ok (.imul, 1) := by decide +kernel
theorem d_Mod_record_48 : decode b_Mod_record 48 = .ok (.iload_n 2, 1) := by decide +kernel
theorem d_Mod_record_49 : decode b_Mod_record 49 = .ok (.iadd, 1) := by decide +kernel
theorem d_Mod_record_50 : decode b_Mod_record 50 = .ok (.istore 4, 2) := by decide +kernel
theorem d_Mod_record_52 : decode b_Mod_record 52 = .ok (.iload_n 3, 1) := by decide +kernel
theorem d_Mod_record_53 : decode b_Mod_record 53 = .ok (.tableswitch 123 0 8 #[51, 59, 67, 75, 83, 91, 99, 107, 115], 51) := by decide +kernel
theorem d_Mod_record_104 : decode b_Mod_record 104 = .ok (.aload_n 0, 1) := by decide +kernel
theorem d_Mod_record_105 : decode b_Mod_record 105 = .ok (.getfield 34, 3) := by decide +kernel
theorem d_Mod_record_108 : decode b_Mod_record 108 = .ok (.iload 4, 2) := by decide +kernel
theorem d_Mod_record_110 : decode b_Mod_record 110 = .ok (.iaload, 1) := by decide +kernel
theorem d_Mod_record_111 : decode b_Mod_record 111 = .ok (.ireturn, 1) := by decide +kernel
theorem d_Mod_record_112 : decode b_Mod_record 112 = .ok (.aload_n 0, 1) := by decide +kernel
theorem d_Mod_record_113 : decode b_Mod_record 113 = .ok (.getfield 37, 3) := by decide +kernel
theorem d_Mod_record_116 : decode b_Mod_record 116 = .ok (.iload 4, 2) := by decide +kernel
theorem d_Mod_record_118 : decode b_Mod_record 118 = .ok (.iaload, 1) := by decide +kernel
theorem d_Mod_record_119 : decode b_Mod_record 119 = .ok (.ireturn, 1) := by decide +kernel
theorem d_Mod_record_120 : decode b_Mod_record 120 = .ok (.aload_n 0, 1) := by decide +kernel
theorem d_Mod_record_121 : decode b_Mod_record 121 = .ok (.getfield 40, 3) := by decide +kernel
theorem d_Mod_record_124 : decode b_Mod_record 124 = .ok (.iload 4, 2) := by decide +kernel
theorem d_Mod_record_126 : decode b_Mod_record 126 = .ok (.iaload, 1) := by decide +kernel
theorem d_Mod_record_127 : decode b_Mod_record 127 = .ok (.ireturn, 1) := by decide +kernel
theorem d_Mod_record_128 : decode b_Mod_record 128 = .ok (.aload_n 0, 1) := by decide +kernel
theorem d_Mod_record_129 : decode b_Mod_record 129 = .ok (.getfield 43, 3) := by decide +kernel
theorem d_Mod_record_132 : decode b_Mod_record 132 = .ok (.iload 4, 2) := by decide +kernel
theorem d_Mod_record_134 : decode b_Mod_record 134 = .ok (.iaload, 1) := by decide +kernel
theorem d_Mod_record_135 : decode b_Mod_record 135 = .ok (.ireturn, 1) := by decide +kernel
theorem d_Mod_record_136 : decode b_Mod_record 136 = .ok (.aload_n 0, 1) := by decide +kernel
theorem d_Mod_record_137 : decode b_Mod_record 137 = .ok (.getfield 50, 3) := by decide +kernel
theorem d_Mod_record_140 : decode b_Mod_record 140 = .ok (.iload 4, 2) := by decide +kernel
theorem d_Mod_record_142 : decode b_Mod_record 142 = .ok (.iaload, 1) := by decide +kernel
theorem d_Mod_record_143 : decode b_Mod_record 143 = .ok (.ireturn, 1) := by decide +kernel
theorem d_Mod_record_144 : decode b_Mod_record 144 = .ok (.aload_n 0, 1) := by decide +kernel
theorem d_Mod_record_145 : decode b_Mod_record 145 = .ok (.getfield 59, 3) := by decide +kernel
theorem d_Mod_record_148 : decode b_Mod_record 148 = .ok (.iload 4, 2) := by decide +kernel
theorem d_Mod_record_150 : decode b_Mod_record 150 = .ok (.iaload, 1) := by decide +kernel
theorem d_Mod_record_151 : decode b_Mod_record 151 = .ok (.ireturn, 1) := by decide +kernel
theorem d_Mod_record_152 : decode b_Mod_record 152 = .ok (.aload_n 0, 1) := by decide +kernel
theorem d_Mod_record_153 : decode b_Mod_record 153 = .ok (.getfield 62, 3) := by decide +kernel
theorem d_Mod_record_156 : decode b_Mod_record 156 = .ok (.iload 4, 2) := by decide +kernel
theorem d_Mod_record_158 : decode b_Mod_record 158 = .ok (.iaload, 1) := by decide +kernel
theorem d_Mod_record_159 : decode b_Mod_record 159 = .ok (.ireturn, 1) := by decide +kernel
theorem d_Mod_record_160 : decode b_Mod_record 160 = .ok (.aload_n 0, 1) := by decide +kernel
theorem d_Mod_record_161 : decode b_Mod_record 161 = .ok (.getfield 65, 3) := by decide +kernel
theorem d_Mod_record_164 : decode b_Mod_record 164 = .ok (.iload 4, 2) := by decide +kernel
theorem d_Mod_record_166 : decode b_Mod_record 166 = .ok (.iaload, 1) := by decide +kernel
theorem d_Mod_record_167 : decode b_Mod_record 167 = .ok (.ireturn, 1) := by decide +kernel
theorem d_Mod_record_168 : decode b_Mod_record 168 = .ok (.aload_n 0, 1) := by decide +kernel
theorem d_Mod_record_169 : decode b_Mod_record 169 = .ok (.getfield 53, 3) := by decide +kernel
theorem d_Mod_record_172 : decode b_Mod_record 172 = .ok (.iload 4, 2) := by decide +kernel
theorem d_Mod_record_174 : decode b_Mod_record 174 = .ok (.iaload, 1) := by decide +kernel
theorem d_Mod_record_175 : decode b_Mod_record 175 = .ok (.ireturn, 1) := by decide +kernel
theorem d_Mod_record_176 : decode b_Mod_record 176 = .ok (.aload_n 0, 1) := by decide +kernel
theorem d_Mod_record_177 : decode b_Mod_record 177 = .ok (.getfield 56, 3) := by decide +kernel
theorem d_Mod_record_180 : decode b_Mod_record 180 = .ok (.iload 4, 2) := by decide +kernel
theorem d_Mod_record_182 : decode b_Mod_record 182 = .ok (.baload, 1) := by decide +kernel
theorem d_Mod_record_183 : decode b_Mod_record 183 = .ok (.ifCond .eq 7, 3) := by decide +kernel
theorem d_Mod_record_186 : decode b_Mod_record 186 = .ok (.iconst 1, 1) := by decide +kernel
theorem d_Mod_record_187 : decode b_Mod_record 187 = .ok (.goto 4, 3) := by decide +kernel
theorem d_Mod_record_190 : decode b_Mod_record 190 = .ok (.iconst 0, 1) := by decide +kernel
theorem d_Mod_record_191 : decode b_Mod_record 191 = .ok (.aload_n 0, 1) := by decide +kernel
theorem d_Mod_record_192 : decode b_Mod_record 192 = .ok (.getfield 46, 3) := by decide +kernel
theorem d_Mod_record_195 : decode b_Mod_record 195 = .ok (.iload 4, 2) := by decide +kernel
theorem d_Mod_record_197 : decode b_Mod_record 197 = .ok (.baload, 1) := by decide +kernel
theorem d_Mod_record_198 : decode b_Mod_record 198 = .ok (.ifCond .eq 7, 3) := by decide +kernel
theorem d_Mod_record_201 : decode b_Mod_record 201 = .ok (.iconst 2, 1) := by decide +kernel
theorem d_Mod_record_202 : decode b_Mod_record 202 = .ok (.goto 4, 3) := by decide +kernel
theorem d_Mod_record_205 : decode b_Mod_record 205 = .ok (.iconst 0, 1) := by decide +kernel
theorem d_Mod_record_206 : decode b_Mod_record 206 = .ok (.iadd, 1) := by decide +kernel
theorem d_Mod_record_207 : decode b_Mod_record 207 = .ok (.aload_n 0, 1) := by decide +kernel
theorem d_Mod_record_208 : decode b_Mod_record 208 = .ok (.getfield 68, 3) := by decide +kernel
theorem d_Mod_record_211 : decode b_Mod_record 211 = .ok (.iload 4, 2) := by decide +kernel
theorem d_Mod_record_213 : decode b_Mod_record 213 = .ok (.baload, 1) := by decide +kernel
theorem d_Mod_record_214 : decode b_Mod_record 214 = .ok (.ifCond .eq 7, 3) := by decide +kernel
theorem d_Mod_record_217 : decode b_Mod_record 217 = .ok (.iconst 4, 1) := by decide +kernel
theorem d_Mod_record_218 : decode b_Mod_record 218 = .ok (.goto 4, 3) := by decide +kernel
theorem d_Mod_record_221 : decode b_Mod_record 221 = .ok (.iconst 0, 1) := by decide +kernel
theorem d_Mod_record_222 : decode b_Mod_record 222 = .ok (.iadd, 1) := by decide +kernel
theorem d_Mod_record_223 : decode b_Mod_record 223 = .ok (.ireturn, 1) := by decide +kernel
set_option maxRecDepth 100000 in
set_option maxHeartbeats 4000000 in
theorem c_Mod_record_no (l : Launch) (K : Kx) (V : Vx) (A B C D : MI) (P : MP) (ms : MSt K V P) (N : List Msg) (hm : MN D N) (n : Nat) (ld sk : Int32) (hf : MF C n ld sk) (z y w : Int32) (hno : ¬ ((z = 0 ∨ z = 1) ∧ (¬ y < 0 ∧ ¬ nI n ≤ y) ∧ wn w 0 9)) : Ct l K md_Mod_record (1, 21) 0 0 [.ref (K.ad 6 0), .int z, .int y, .int w] V (bk4 A B C D) P (MRp V A B P (some (.int 0)) C 1 N) := by
  refine ct_of [(0, .ref (K.ad 6 0)), (1, .int z), (2, .int y), (3, .int w)] (by decide) (Nat.le_of_ble_eq_true rfl) (ca_r (ca_i (ca_i (ca_i ca_n)))) rfl ?_
  intro X hl hX
  have h : OkX X b_Mod_record R_Mod K := hX.1
  have hN : X.nL = 5 := hX.2.1
  have hmv := ms.1
  obtain ⟨hn32, h42, h43, h44⟩ := hf
  refine j_aload_n h d_Mod_record_0 rfl ?_
  refine j_aload_n h d_Mod_record_1 rfl ?_
  refine j_iload_n h d_Mod_record_2 rfl ?_
  refine j_callV h (c_Mod_isServer _ _ _ _ _ _ _ _ ms _) d_Mod_record_3 ml_Mod_206 mv_Mod_isServer (by assumption) ⟨rfl, rfl⟩ rfl rfl (Nat.le_of_ble_eq_true rfl) (hR_of hX (by decide) (by decide)) (hf_of hX (by decide) (by decide)) ?_
  rintro _ _ _ _ ⟨rfl, rfl, rfl, rfl⟩
  refine j_if_eq (tgt := 35) h d_Mod_record_6 (by decide) (fun c1 => ?_) (fun c1 => ?_)
  · refine j_iconst (v := 0) h d_Mod_record_35 (by decide) ?_
    refine j_callV h (c_Mod_isRight _ _ _ _ _ _ _ _ ms _ (by first | exact Or.inl rfl | exact Or.inr rfl)) d_Mod_record_36 ml_Mod_202 mv_Mod_isRight (by assumption) ⟨rfl, rfl⟩ rfl rfl (Nat.le_of_ble_eq_true rfl) (hR_of hX (by decide) (by decide)) (hf_of hX (by decide) (by decide)) ?_
    rintro _ _ _ _ ⟨rfl, rfl, rfl, rfl⟩
    refine j_if_ne (tgt := 44) h d_Mod_record_39 (by decide) (fun c2 => absurd c2 (by decide)) (fun c2 => ?_)
    refine j_iconst (v := 0) h d_Mod_record_42 (by decide) ?_
    exact j_iret hX d_Mod_record_43 rfl (Nat.le_refl _) (Nat.le_refl _) ⟨rfl, rfl, rfl, _, rfl, by simp [up_rd], by first | exact MN_70 hm | exact hm | exact hm3⟩
  · refine j_iload_n h d_Mod_record_9 rfl ?_
    refine j_if_lt (tgt := 35) h d_Mod_record_10 (by decide) (fun c3 => ?_) (fun c3 => ?_)
    · refine j_iconst (v := 0) h d_Mod_record_35 (by decide) ?_
      refine j_callV h (c_Mod_isRight _ _ _ _ _ _ _ _ ms _ (by first | exact Or.inl rfl | exact Or.inr rfl)) d_Mod_record_36 ml_Mod_202 mv_Mod_isRight (by assumption) ⟨rfl, rfl⟩ rfl rfl (Nat.le_of_ble_eq_true rfl) (hR_of hX (by decide) (by decide)) (hf_of hX (by decide) (by decide)) ?_
      rintro _ _ _ _ ⟨rfl, rfl, rfl, rfl⟩
      refine j_if_ne (tgt := 44) h d_Mod_record_39 (by decide) (fun c4 => absurd c4 (by decide)) (fun c4 => ?_)
      refine j_iconst (v := 0) h d_Mod_record_42 (by decide) ?_
      exact j_iret hX d_Mod_record_43 rfl (Nat.le_refl _) (Nat.le_refl _) ⟨rfl, rfl, rfl, _, rfl, by simp [up_rd], by first | exact MN_70 hm | exact hm | exact hm3⟩
    · refine j_iload_n h d_Mod_record_13 rfl ?_
      refine j_aload_n h d_Mod_record_14 rfl ?_
      refine j_get2e (v := nI n) h d_Mod_record_15 fl_Mod_98 rfl (by assumption) (by first | exact h42 | simpa [up_rd] using h42) ?_
      refine j_ic_ge (tgt := 35) h d_Mod_record_18 (by decide) (fun c5 => ?_) (fun c5 => ?_)
      · refine j_iconst (v := 0) h d_Mod_record_35 (by decide) ?_
        refine j_callV h (c_Mod_isRight _ _ _ _ _ _ _ _ ms _ (by first | exact Or.inl rfl | exact Or.inr rfl)) d_Mod_record_36 ml_Mod_202 mv_Mod_isRight (by assumption) ⟨rfl, rfl⟩ rfl rfl (Nat.le_of_ble_eq_true rfl) (hR_of hX (by decide) (by decide)) (hf_of hX (by decide) (by decide)) ?_
        rintro _ _ _ _ ⟨rfl, rfl, rfl, rfl⟩
        refine j_if_ne (tgt := 44) h d_Mod_record_39 (by decide) (fun c6 => absurd c6 (by decide)) (fun c6 => ?_)
        refine j_iconst (v := 0) h d_Mod_record_42 (by decide) ?_
        exact j_iret hX d_Mod_record_43 rfl (Nat.le_refl _) (Nat.le_refl _) ⟨rfl, rfl, rfl, _, rfl, by simp [up_rd], by first | exact MN_70 hm | exact hm | exact hm3⟩
      · refine j_iload_n h d_Mod_record_21 rfl ?_
        refine j_if_lt (tgt := 35) h d_Mod_record_22 (by decide) (fun c7 => ?_) (fun c7 => ?_)
        · refine j_iconst (v := 0) h d_Mod_record_35 (by decide) ?_
          refine j_callV h (c_Mod_isRight _ _ _ _ _ _ _ _ ms _ (by first | exact Or.inl rfl | exact Or.inr rfl)) d_Mod_record_36 ml_Mod_202 mv_Mod_isRight (by assumption) ⟨rfl, rfl⟩ rfl rfl (Nat.le_of_ble_eq_true rfl) (hR_of hX (by decide) (by decide)) (hf_of hX (by decide) (by decide)) ?_
          rintro _ _ _ _ ⟨rfl, rfl, rfl, rfl⟩
          refine j_if_ne (tgt := 44) h d_Mod_record_39 (by decide) (fun c8 => absurd c8 (by decide)) (fun c8 => ?_)
          refine j_iconst (v := 0) h d_Mod_record_42 (by decide) ?_
          exact j_iret hX d_Mod_record_43 rfl (Nat.le_refl _) (Nat.le_refl _) ⟨rfl, rfl, rfl, _, rfl, by simp [up_rd], by first | exact MN_70 hm | exact hm | exact hm3⟩
        · refine j_iload_n h d_Mod_record_25 rfl ?_
          refine j_bipush (v := 9) h d_Mod_record_26 (by decide) ?_
          refine j_ic_gt (tgt := 35) h d_Mod_record_28 (by decide) (fun c9 => ?_) (fun c9 => ?_)
          · refine j_iconst (v := 0) h d_Mod_record_35 (by decide) ?_
            refine j_callV h (c_Mod_isRight _ _ _ _ _ _ _ _ ms _ (by first | exact Or.inl rfl | exact Or.inr rfl)) d_Mod_record_36 ml_Mod_202 mv_Mod_isRight (by assumption) ⟨rfl, rfl⟩ rfl rfl (Nat.le_of_ble_eq_true rfl) (hR_of hX (by decide) (by decide)) (hf_of hX (by decide) (by decide)) ?_
            rintro _ _ _ _ ⟨rfl, rfl, rfl, rfl⟩
            refine j_if_ne (tgt := 44) h d_Mod_record_39 (by decide) (fun c10 => absurd c10 (by decide)) (fun c10 => ?_)
            refine j_iconst (v := 0) h d_Mod_record_42 (by decide) ?_
            exact j_iret hX d_Mod_record_43 rfl (Nat.le_refl _) (Nat.le_refl _) ⟨rfl, rfl, rfl, _, rfl, by simp [up_rd], by first | exact MN_70 hm | exact hm | exact hm3⟩
          · refine j_iconst (v := 1) h d_Mod_record_31 (by decide) ?_
            refine j_goto (tgt := 36) h d_Mod_record_32 (by decide) ?_
            exfalso
            clear hX h hl
            first | (simp_all [wn, b01_0, b01_1]; done) | grind [wn, b01_0, b01_1]
set_option maxRecDepth 100000 in
set_option maxHeartbeats 4000000 in
theorem c_Mod_record_ok (l : Launch) (K : Kx) (V : Vx) (A B C D : MI) (P : MP) (ms : MSt K V P) (N : List Msg) (hm : MN D N) (n : Nat) (ld sk : Int32) (hf : MF C n ld sk) (s : Nat) (hs : s < 2) (a : Nat) (ha : a < n) (w : Nat) (hw : w < 10) : Ct l K md_Mod_record (1, 21) 0 0 [.ref (K.ad 6 0), .int (nI s), .int (nI a), .int (nI w)] V (bk4 A B C D) P (MRp V A B P (some (.int (rtell C (32 * s + a) w))) C 0 N) := by
  refine ct_of [(0, .ref (K.ad 6 0)), (1, .int (nI s)), (2, .int (nI a)), (3, .int (nI w))] (by decide) (Nat.le_of_ble_eq_true rfl) (ca_r (ca_i (ca_i (ca_i ca_n)))) rfl ?_
  intro X hl hX
  have h : OkX X b_Mod_record R_Mod K := hX.1
  have hN : X.nL = 5 := hX.2.1
  have hmv := ms.1
  obtain ⟨hn32, h42, h43, h44⟩ := hf
  have h01 := srv01 hs
  have a0 := nI_n0 (k := a) (by omega)
  have hag := nI_ge ha (by omega)
  match w, hw with
  | 0, _ =>
    refine j_aload_n h d_Mod_record_0 rfl ?_
    refine j_aload_n h d_Mod_record_1 rfl ?_
    refine j_iload_n h d_Mod_record_2 rfl ?_
    refine j_callV h (c_Mod_isServer _ _ _ _ _ _ _ _ ms _) d_Mod_record_3 ml_Mod_206 mv_Mod_isServer (by assumption) ⟨rfl, rfl⟩ rfl rfl (Nat.le_of_ble_eq_true rfl) (hR_of hX (by decide) (by decide)) (hf_of hX (by decide) (by decide)) ?_
    rintro _ _ _ _ ⟨rfl, rfl, rfl, rfl⟩
    refine j_if_eq (tgt := 35) h d_Mod_record_6 (by decide) (fun c1 => ?_) (fun c1 => ?_)
    · refine j_iconst (v := 0) h d_Mod_record_35 (by decide) ?_
      exfalso
      clear hX h hl
      first | (simp_all [wn, b01_0, b01_1]; done) | grind [wn, b01_0, b01_1]
    · refine j_iload_n h d_Mod_record_9 rfl ?_
      refine j_if_lt (tgt := 35) h d_Mod_record_10 (by decide) (fun c2 => ?_) (fun c2 => ?_)
      · refine j_iconst (v := 0) h d_Mod_record_35 (by decide) ?_
        exfalso
        clear hX h hl
        first | (simp_all [wn, b01_0, b01_1]; done) | grind [wn, b01_0, b01_1]
      · refine j_iload_n h d_Mod_record_13 rfl ?_
        refine j_aload_n h d_Mod_record_14 rfl ?_
        refine j_get2e (v := nI n) h d_Mod_record_15 fl_Mod_98 rfl (by assumption) (by first | exact h42 | simpa [up_rd] using h42) ?_
        refine j_ic_ge (tgt := 35) h d_Mod_record_18 (by decide) (fun c3 => ?_) (fun c3 => ?_)
        · refine j_iconst (v := 0) h d_Mod_record_35 (by decide) ?_
          exfalso
          clear hX h hl
          first | (simp_all [wn, b01_0, b01_1]; done) | grind [wn, b01_0, b01_1]
        · refine j_iload_n h d_Mod_record_21 rfl ?_
          refine j_if_lt (tgt := 35) h d_Mod_record_22 (by decide) (fun c4 => absurd c4 (by decide)) (fun c4 => ?_)
          refine j_iload_n h d_Mod_record_25 rfl ?_
          refine j_bipush (v := 9) h d_Mod_record_26 (by decide) ?_
          refine j_ic_gt (tgt := 35) h d_Mod_record_28 (by decide) (fun c5 => absurd c5 (by decide)) (fun c5 => ?_)
          refine j_iconst (v := 1) h d_Mod_record_31 (by decide) ?_
          refine j_goto (tgt := 36) h d_Mod_record_32 (by decide) ?_
          refine j_callV h (c_Mod_isRight _ _ _ _ _ _ _ _ ms _ (by first | exact Or.inl rfl | exact Or.inr rfl)) d_Mod_record_36 ml_Mod_202 mv_Mod_isRight (by assumption) ⟨rfl, rfl⟩ rfl rfl (Nat.le_of_ble_eq_true rfl) (hR_of hX (by decide) (by decide)) (hf_of hX (by decide) (by decide)) ?_
          rintro _ _ _ _ ⟨rfl, rfl, rfl, rfl⟩
          refine j_if_ne (tgt := 44) h d_Mod_record_39 (by decide) (fun c6 => ?_) (fun c6 => absurd c6 (by decide))
          refine j_bipush (v := 32) h d_Mod_record_44 (by decide) ?_
          refine j_iload_n h d_Mod_record_46 rfl ?_
          refine j_imul h d_Mod_record_47 ?_
          refine j_iload_n h d_Mod_record_48 rfl ?_
          refine j_ix32 (s := s) (a := a) h d_Mod_record_49 ?_
          refine j_istore h d_Mod_record_50 (Nat.lt_of_lt_of_eq (m := 5) (by decide) hN.symm) ?_
          refine j_iload_n h d_Mod_record_52 rfl ?_
          refine j_tabIn (off := 51) (tgt := 104) h d_Mod_record_53 (by decide +kernel) (by decide +kernel) (by decide +kernel) (by decide) ?_
          refine j_aload_n h d_Mod_record_104 rfl ?_
          refine j_getR h d_Mod_record_105 fl_Mod_34 rfl (by assumption) (mP ms (a := 18) (by decide)) ?_
          refine j_iload h d_Mod_record_108 rfl ?_
          refine m_iald2 (a := 18) (L := 64) (j := (32 * s + a)) h ms d_Mod_record_110 (by decide) rfl (by decide) rfl rfl (by omega) ?_
          exact j_iret hX d_Mod_record_111 rfl (Nat.le_refl _) (Nat.le_refl _) ⟨rfl, by clear hX h hl; first | rfl | (simp_all [rtell]; done) | grind [rtell], rfl, _, rfl, by simp [up_rd], by first | exact MN_70 hm | exact hm | exact hm3⟩
  | 1, _ =>
    refine j_aload_n h d_Mod_record_0 rfl ?_
    refine j_aload_n h d_Mod_record_1 rfl ?_
    refine j_iload_n h d_Mod_record_2 rfl ?_
    refine j_callV h (c_Mod_isServer _ _ _ _ _ _ _ _ ms _) d_Mod_record_3 ml_Mod_206 mv_Mod_isServer (by assumption) ⟨rfl, rfl⟩ rfl rfl (Nat.le_of_ble_eq_true rfl) (hR_of hX (by decide) (by decide)) (hf_of hX (by decide) (by decide)) ?_
    rintro _ _ _ _ ⟨rfl, rfl, rfl, rfl⟩
    refine j_if_eq (tgt := 35) h d_Mod_record_6 (by decide) (fun c1 => ?_) (fun c1 => ?_)
    · refine j_iconst (v := 0) h d_Mod_record_35 (by decide) ?_
      exfalso
      clear hX h hl
      first | (simp_all [wn, b01_0, b01_1]; done) | grind [wn, b01_0, b01_1]
    · refine j_iload_n h d_Mod_record_9 rfl ?_
      refine j_if_lt (tgt := 35) h d_Mod_record_10 (by decide) (fun c2 => ?_) (fun c2 => ?_)
      · refine j_iconst (v := 0) h d_Mod_record_35 (by decide) ?_
        exfalso
        clear hX h hl
        first | (simp_all [wn, b01_0, b01_1]; done) | grind [wn, b01_0, b01_1]
      · refine j_iload_n h d_Mod_record_13 rfl ?_
        refine j_aload_n h d_Mod_record_14 rfl ?_
        refine j_get2e (v := nI n) h d_Mod_record_15 fl_Mod_98 rfl (by assumption) (by first | exact h42 | simpa [up_rd] using h42) ?_
        refine j_ic_ge (tgt := 35) h d_Mod_record_18 (by decide) (fun c3 => ?_) (fun c3 => ?_)
        · refine j_iconst (v := 0) h d_Mod_record_35 (by decide) ?_
          exfalso
          clear hX h hl
          first | (simp_all [wn, b01_0, b01_1]; done) | grind [wn, b01_0, b01_1]
        · refine j_iload_n h d_Mod_record_21 rfl ?_
          refine j_if_lt (tgt := 35) h d_Mod_record_22 (by decide) (fun c4 => absurd c4 (by decide)) (fun c4 => ?_)
          refine j_iload_n h d_Mod_record_25 rfl ?_
          refine j_bipush (v := 9) h d_Mod_record_26 (by decide) ?_
          refine j_ic_gt (tgt := 35) h d_Mod_record_28 (by decide) (fun c5 => absurd c5 (by decide)) (fun c5 => ?_)
          refine j_iconst (v := 1) h d_Mod_record_31 (by decide) ?_
          refine j_goto (tgt := 36) h d_Mod_record_32 (by decide) ?_
          refine j_callV h (c_Mod_isRight _ _ _ _ _ _ _ _ ms _ (by first | exact Or.inl rfl | exact Or.inr rfl)) d_Mod_record_36 ml_Mod_202 mv_Mod_isRight (by assumption) ⟨rfl, rfl⟩ rfl rfl (Nat.le_of_ble_eq_true rfl) (hR_of hX (by decide) (by decide)) (hf_of hX (by decide) (by decide)) ?_
          rintro _ _ _ _ ⟨rfl, rfl, rfl, rfl⟩
          refine j_if_ne (tgt := 44) h d_Mod_record_39 (by decide) (fun c6 => ?_) (fun c6 => absurd c6 (by decide))
          refine j_bipush (v := 32) h d_Mod_record_44 (by decide) ?_
          refine j_iload_n h d_Mod_record_46 rfl ?_
          refine j_imul h d_Mod_record_47 ?_
          refine j_iload_n h d_Mod_record_48 rfl ?_
          refine j_ix32 (s := s) (a := a) h d_Mod_record_49 ?_
          refine j_istore h d_Mod_record_50 (Nat.lt_of_lt_of_eq (m := 5) (by decide) hN.symm) ?_
          refine j_iload_n h d_Mod_record_52 rfl ?_
          refine j_tabIn (off := 59) (tgt := 112) h d_Mod_record_53 (by decide +kernel) (by decide +kernel) (by decide +kernel) (by decide) ?_
          refine j_aload_n h d_Mod_record_112 rfl ?_
          refine j_getR h d_Mod_record_113 fl_Mod_37 rfl (by assumption) (mP ms (a := 19) (by decide)) ?_
          refine j_iload h d_Mod_record_116 rfl ?_
          refine m_iald2 (a := 19) (L := 64) (j := (32 * s + a)) h ms d_Mod_record_118 (by decide) rfl (by decide) rfl rfl (by omega) ?_
          exact j_iret hX d_Mod_record_119 rfl (Nat.le_refl _) (Nat.le_refl _) ⟨rfl, by clear hX h hl; first | rfl | (simp_all [rtell]; done) | grind [rtell], rfl, _, rfl, by simp [up_rd], by first | exact MN_70 hm | exact hm | exact hm3⟩
  | 2, _ =>
    refine j_aload_n h d_Mod_record_0 rfl ?_
    refine j_aload_n h d_Mod_record_1 rfl ?_
    refine j_iload_n h d_Mod_record_2 rfl ?_
    refine j_callV h (c_Mod_isServer _ _ _ _ _ _ _ _ ms _) d_Mod_record_3 ml_Mod_206 mv_Mod_isServer (by assumption) ⟨rfl, rfl⟩ rfl rfl (Nat.le_of_ble_eq_true rfl) (hR_of hX (by decide) (by decide)) (hf_of hX (by decide) (by decide)) ?_
    rintro _ _ _ _ ⟨rfl, rfl, rfl, rfl⟩
    refine j_if_eq (tgt := 35) h d_Mod_record_6 (by decide) (fun c1 => ?_) (fun c1 => ?_)
    · refine j_iconst (v := 0) h d_Mod_record_35 (by decide) ?_
      exfalso
      clear hX h hl
      first | (simp_all [wn, b01_0, b01_1]; done) | grind [wn, b01_0, b01_1]
    · refine j_iload_n h d_Mod_record_9 rfl ?_
      refine j_if_lt (tgt := 35) h d_Mod_record_10 (by decide) (fun c2 => ?_) (fun c2 => ?_)
      · refine j_iconst (v := 0) h d_Mod_record_35 (by decide) ?_
        exfalso
        clear hX h hl
        first | (simp_all [wn, b01_0, b01_1]; done) | grind [wn, b01_0, b01_1]
      · refine j_iload_n h d_Mod_record_13 rfl ?_
        refine j_aload_n h d_Mod_record_14 rfl ?_
        refine j_get2e (v := nI n) h d_Mod_record_15 fl_Mod_98 rfl (by assumption) (by first | exact h42 | simpa [up_rd] using h42) ?_
        refine j_ic_ge (tgt := 35) h d_Mod_record_18 (by decide) (fun c3 => ?_) (fun c3 => ?_)
        · refine j_iconst (v := 0) h d_Mod_record_35 (by decide) ?_
          exfalso
          clear hX h hl
          first | (simp_all [wn, b01_0, b01_1]; done) | grind [wn, b01_0, b01_1]
        · refine j_iload_n h d_Mod_record_21 rfl ?_
          refine j_if_lt (tgt := 35) h d_Mod_record_22 (by decide) (fun c4 => absurd c4 (by decide)) (fun c4 => ?_)
          refine j_iload_n h d_Mod_record_25 rfl ?_
          refine j_bipush (v := 9) h d_Mod_record_26 (by decide) ?_
          refine j_ic_gt (tgt := 35) h d_Mod_record_28 (by decide) (fun c5 => absurd c5 (by decide)) (fun c5 => ?_)
          refine j_iconst (v := 1) h d_Mod_record_31 (by decide) ?_
          refine j_goto (tgt := 36) h d_Mod_record_32 (by decide) ?_
          refine j_callV h (c_Mod_isRight _ _ _ _ _ _ _ _ ms _ (by first | exact Or.inl rfl | exact Or.inr rfl)) d_Mod_record_36 ml_Mod_202 mv_Mod_isRight (by assumption) ⟨rfl, rfl⟩ rfl rfl (Nat.le_of_ble_eq_true rfl) (hR_of hX (by decide) (by decide)) (hf_of hX (by decide) (by decide)) ?_
          rintro _ _ _ _ ⟨rfl, rfl, rfl, rfl⟩
          refine j_if_ne (tgt := 44) h d_Mod_record_39 (by decide) (fun c6 => ?_) (fun c6 => absurd c6 (by decide))
          refine j_bipush (v := 32) h d_Mod_record_44 (by decide) ?_
          refine j_iload_n h d_Mod_record_46 rfl ?_
          refine j_imul h d_Mod_record_47 ?_
          refine j_iload_n h d_Mod_record_48 rfl ?_
          refine j_ix32 (s := s) (a := a) h d_Mod_record_49 ?_
          refine j_istore h d_Mod_record_50 (Nat.lt_of_lt_of_eq (m := 5) (by decide) hN.symm) ?_
          refine j_iload_n h d_Mod_record_52 rfl ?_
          refine j_tabIn (off := 67) (tgt := 120) h d_Mod_record_53 (by decide +kernel) (by decide +kernel) (by decide +kernel) (by decide) ?_
          refine j_aload_n h d_Mod_record_120 rfl ?_
          refine j_getR h d_Mod_record_121 fl_Mod_40 rfl (by assumption) (mP ms (a := 20) (by decide)) ?_
          refine j_iload h d_Mod_record_124 rfl ?_
          refine m_iald2 (a := 20) (L := 64) (j := (32 * s + a)) h ms d_Mod_record_126 (by decide) rfl (by decide) rfl rfl (by omega) ?_
          exact j_iret hX d_Mod_record_127 rfl (Nat.le_refl _) (Nat.le_refl _) ⟨rfl, by clear hX h hl; first | rfl | (simp_all [rtell]; done) | grind [rtell], rfl, _, rfl, by simp [up_rd], by first | exact MN_70 hm | exact hm | exact hm3⟩
  | 3, _ =>
    refine j_aload_n h d_Mod_record_0 rfl ?_
    refine j_aload_n h d_Mod_record_1 rfl ?_
    refine j_iload_n h d_Mod_record_2 rfl ?_
    refine j_callV h (c_Mod_isServer _ _ _ _ _ _ _ _ ms _) d_Mod_record_3 ml_Mod_206 mv_Mod_isServer (by assumption) ⟨rfl, rfl⟩ rfl rfl (Nat.le_of_ble_eq_true rfl) (hR_of hX (by decide) (by decide)) (hf_of hX (by decide) (by decide)) ?_
    rintro _ _ _ _ ⟨rfl, rfl, rfl, rfl⟩
    refine j_if_eq (tgt := 35) h d_Mod_record_6 (by decide) (fun c1 => ?_) (fun c1 => ?_)
    · refine j_iconst (v := 0) h d_Mod_record_35 (by decide) ?_
      exfalso
      clear hX h hl
      first | (simp_all [wn, b01_0, b01_1]; done) | grind [wn, b01_0, b01_1]
    · refine j_iload_n h d_Mod_record_9 rfl ?_
      refine j_if_lt (tgt := 35) h d_Mod_record_10 (by decide) (fun c2 => ?_) (fun c2 => ?_)
      · refine j_iconst (v := 0) h d_Mod_record_35 (by decide) ?_
        exfalso
        clear hX h hl
        first | (simp_all [wn, b01_0, b01_1]; done) | grind [wn, b01_0, b01_1]
      · refine j_iload_n h d_Mod_record_13 rfl ?_
        refine j_aload_n h d_Mod_record_14 rfl ?_
        refine j_get2e (v := nI n) h d_Mod_record_15 fl_Mod_98 rfl (by assumption) (by first | exact h42 | simpa [up_rd] using h42) ?_
        refine j_ic_ge (tgt := 35) h d_Mod_record_18 (by decide) (fun c3 => ?_) (fun c3 => ?_)
        · refine j_iconst (v := 0) h d_Mod_record_35 (by decide) ?_
          exfalso
          clear hX h hl
          first | (simp_all [wn, b01_0, b01_1]; done) | grind [wn, b01_0, b01_1]
        · refine j_iload_n h d_Mod_record_21 rfl ?_
          refine j_if_lt (tgt := 35) h d_Mod_record_22 (by decide) (fun c4 => absurd c4 (by decide)) (fun c4 => ?_)
          refine j_iload_n h d_Mod_record_25 rfl ?_
          refine j_bipush (v := 9) h d_Mod_record_26 (by decide) ?_
          refine j_ic_gt (tgt := 35) h d_Mod_record_28 (by decide) (fun c5 => absurd c5 (by decide)) (fun c5 => ?_)
          refine j_iconst (v := 1) h d_Mod_record_31 (by decide) ?_
          refine j_goto (tgt := 36) h d_Mod_record_32 (by decide) ?_
          refine j_callV h (c_Mod_isRight _ _ _ _ _ _ _ _ ms _ (by first | exact Or.inl rfl | exact Or.inr rfl)) d_Mod_record_36 ml_Mod_202 mv_Mod_isRight (by assumption) ⟨rfl, rfl⟩ rfl rfl (Nat.le_of_ble_eq_true rfl) (hR_of hX (by decide) (by decide)) (hf_of hX (by decide) (by decide)) ?_
          rintro _ _ _ _ ⟨rfl, rfl, rfl, rfl⟩
          refine j_if_ne (tgt := 44) h d_Mod_record_39 (by decide) (fun c6 => ?_) (fun c6 => absurd c6 (by decide))
          refine j_bipush (v := 32) h d_Mod_record_44 (by decide) ?_
          refine j_iload_n h d_Mod_record_46 rfl ?_
          refine j_imul h d_Mod_record_47 ?_
          refine j_iload_n h d_Mod_record_48 rfl ?_
          refine j_ix32 (s := s) (a := a) h d_Mod_record_49 ?_
          refine j_istore h d_Mod_record_50 (Nat.lt_of_lt_of_eq (m := 5) (by decide) hN.symm) ?_
          refine j_iload_n h d_Mod_record_52 rfl ?_
          refine j_tabIn (off := 75) (tgt := 128) h d_Mod_record_53 (by decide +kernel) (by decide +kernel) (by decide +kernel) (by decide) ?_
          refine j_aload_n h d_Mod_record_128 rfl ?_
          refine j_getR h d_Mod_record_129 fl_Mod_43 rfl (by assumption) (mP ms (a := 21) (by decide)) ?_
          refine j_iload h d_Mod_record_132 rfl ?_
          refine m_iald2 (a := 21) (L := 64) (j := (32 * s + a)) h ms d_Mod_record_134 (by decide) rfl (by decide) rfl rfl (by omega) ?_
          exact j_iret hX d_Mod_record_135 rfl (Nat.le_refl _) (Nat.le_refl _) ⟨rfl, by clear hX h hl; first | rfl | (simp_all [rtell]; done) | grind [rtell], rfl, _, rfl, by simp [up_rd], by first | exact MN_70 hm | exact hm | exact hm3⟩
  | 4, _ =>
    refine j_aload_n h d_Mod_record_0 rfl ?_
    refine j_aload_n h d_Mod_record_1 rfl ?_
    refine j_iload_n h d_Mod_record_2 rfl ?_
    refine j_callV h (c_Mod_isServer _ _ _ _ _ _ _ _ ms _) d_Mod_record_3 ml_Mod_206 mv_Mod_isServer (by assumption) ⟨rfl, rfl⟩ rfl rfl (Nat.le_of_ble_eq_true rfl) (hR_of hX (by decide) (by decide)) (hf_of hX (by decide) (by decide)) ?_
    rintro _ _ _ _ ⟨rfl, rfl, rfl, rfl⟩
    refine j_if_eq (tgt := 35) h d_Mod_record_6 (by decide) (fun c1 => ?_) (fun c1 => ?_)
    · refine j_iconst (v := 0) h d_Mod_record_35 (by decide) ?_
      exfalso
      clear hX h hl
      first | (simp_all [wn, b01_0, b01_1]; done) | grind [wn, b01_0, b01_1]
    · refine j_iload_n h d_Mod_record_9 rfl ?_
      refine j_if_lt (tgt := 35) h d_Mod_record_10 (by decide) (fun c2 => ?_) (fun c2 => ?_)
      · refine j_iconst (v := 0) h d_Mod_record_35 (by decide) ?_
        exfalso
        clear hX h hl
        first | (simp_all [wn, b01_0, b01_1]; done) | grind [wn, b01_0, b01_1]
      · refine j_iload_n h d_Mod_record_13 rfl ?_
        refine j_aload_n h d_Mod_record_14 rfl ?_
        refine j_get2e (v := nI n) h d_Mod_record_15 fl_Mod_98 rfl (by assumption) (by first | exact h42 | simpa [up_rd] using h42) ?_
        refine j_ic_ge (tgt := 35) h d_Mod_record_18 (by decide) (fun c3 => ?_) (fun c3 => ?_)
        · refine j_iconst (v := 0) h d_Mod_record_35 (by decide) ?_
          exfalso
          clear hX h hl
          first | (simp_all [wn, b01_0, b01_1]; done) | grind [wn, b01_0, b01_1]
        · refine j_iload_n h d_Mod_record_21 rfl ?_
          refine j_if_lt (tgt := 35) h d_Mod_record_22 (by decide) (fun c4 => absurd c4 (by decide)) (fun c4 => ?_)
          refine j_iload_n h d_Mod_record_25 rfl ?_
          refine j_bipush (v := 9) h d_Mod_record_26 (by decide) ?_
          refine j_ic_gt (tgt := 35) h d_Mod_record_28 (by decide) (fun c5 => absurd c5 (by decide)) (fun c5 => ?_)
          refine j_iconst (v := 1) h d_Mod_record_31 (by decide) ?_
          refine j_goto (tgt := 36) h d_Mod_record_32 (by decide) ?_
          refine j_callV h (c_Mod_isRight _ _ _ _ _ _ _ _ ms _ (by first | exact Or.inl rfl | exact Or.inr rfl)) d_Mod_record_36 ml_Mod_202 mv_Mod_isRight (by assumption) ⟨rfl, rfl⟩ rfl rfl (Nat.le_of_ble_eq_true rfl) (hR_of hX (by decide) (by decide)) (hf_of hX (by decide) (by decide)) ?_
          rintro _ _ _ _ ⟨rfl, rfl, rfl, rfl⟩
          refine j_if_ne (tgt := 44) h d_Mod_record_39 (by decide) (fun c6 => ?_) (fun c6 => absurd c6 (by decide))
          refine j_bipush (v := 32) h d_Mod_record_44 (by decide) ?_
          refine j_iload_n h d_Mod_record_46 rfl ?_
          refine j_imul h d_Mod_record_47 ?_
          refine j_iload_n h d_Mod_record_48 rfl ?_
          refine j_ix32 (s := s) (a := a) h d_Mod_record_49 ?_
          refine j_istore h d_Mod_record_50 (Nat.lt_of_lt_of_eq (m := 5) (by decide) hN.symm) ?_
          refine j_iload_n h d_Mod_record_52 rfl ?_
          refine j_tabIn (off := 83) (tgt := 136) h d_Mod_record_53 (by decide +kernel) (by decide +kernel) (by decide +kernel) (by decide) ?_
          refine j_aload_n h d_Mod_record_136 rfl ?_
          refine j_getR h d_Mod_record_137 fl_Mod_50 rfl (by assumption) (mP ms (a := 23) (by decide)) ?_
          refine j_iload h d_Mod_record_140 rfl ?_
          refine m_iald2 (a := 23) (L := 64) (j := (32 * s + a)) h ms d_Mod_record_142 (by decide) rfl (by decide) rfl rfl (by omega) ?_
          exact j_iret hX d_Mod_record_143 rfl (Nat.le_refl _) (Nat.le_refl _) ⟨rfl, by clear hX h hl; first | rfl | (simp_all [rtell]; done) | grind [rtell], rfl, _, rfl, by simp [up_rd], by first | exact MN_70 hm | exact hm | exact hm3⟩
  | 5, _ =>
    refine j_aload_n h d_Mod_record_0 rfl ?_
    refine j_aload_n h d_Mod_record_1 rfl ?_
    refine j_iload_n h d_Mod_record_2 rfl ?_
    refine j_callV h (c_Mod_isServer _ _ _ _ _ _ _ _ ms _) d_Mod_record_3 ml_Mod_206 mv_Mod_isServer (by assumption) ⟨rfl, rfl⟩ rfl rfl (Nat.le_of_ble_eq_true rfl) (hR_of hX (by decide) (by decide)) (hf_of hX (by decide) (by decide)) ?_
    rintro _ _ _ _ ⟨rfl, rfl, rfl, rfl⟩
    refine j_if_eq (tgt := 35) h d_Mod_record_6 (by decide) (fun c1 => ?_) (fun c1 => ?_)
    · refine j_iconst (v := 0) h d_Mod_record_35 (by decide) ?_
      exfalso
      clear hX h hl
      first | (simp_all [wn, b01_0, b01_1]; done) | grind [wn, b01_0, b01_1]
    · refine j_iload_n h d_Mod_record_9 rfl ?_
      refine j_if_lt (tgt := 35) h d_Mod_record_10 (by decide) (fun c2 => ?_) (fun c2 => ?_)
      · refine j_iconst (v := 0) h d_Mod_record_35 (by decide) ?_
        exfalso
        clear hX h hl
        first | (simp_all [wn, b01_0, b01_1]; done) | grind [wn, b01_0, b01_1]
      · refine j_iload_n h d_Mod_record_13 rfl ?_
        refine j_aload_n h d_Mod_record_14 rfl ?_
        refine j_get2e (v := nI n) h d_Mod_record_15 fl_Mod_98 rfl (by assumption) (by first | exact h42 | simpa [up_rd] using h42) ?_
        refine j_ic_ge (tgt := 35) h d_Mod_record_18 (by decide) (fun c3 => ?_) (fun c3 => ?_)
        · refine j_iconst (v := 0) h d_Mod_record_35 (by decide) ?_
          exfalso
          clear hX h hl
          first | (simp_all [wn, b01_0, b01_1]; done) | grind [wn, b01_0, b01_1]
        · refine j_iload_n h d_Mod_record_21 rfl ?_
          refine j_if_lt (tgt := 35) h d_Mod_record_22 (by decide) (fun c4 => absurd c4 (by decide)) (fun c4 => ?_)
          refine j_iload_n h d_Mod_record_25 rfl ?_
          refine j_bipush (v := 9) h d_Mod_record_26 (by decide) ?_
          refine j_ic_gt (tgt := 35) h d_Mod_record_28 (by decide) (fun c5 => absurd c5 (by decide)) (fun c5 => ?_)
          refine j_iconst (v := 1) h d_Mod_record_31 (by decide) ?_
          refine j_goto (tgt := 36) h d_Mod_record_32 (by decide) ?_
          refine j_callV h (c_Mod_isRight _ _ _ _ _ _ _ _ ms _ (by first | exact Or.inl rfl | exact Or.inr rfl)) d_Mod_record_36 ml_Mod_202 mv_Mod_isRight (by assumption) ⟨rfl, rfl⟩ rfl rfl (Nat.le_of_ble_eq_true rfl) (hR_of hX (by decide) (by decide)) (hf_of hX (by decide) (by decide)) ?_
          rintro _ _ _ _ ⟨rfl, rfl, rfl, rfl⟩
          refine j_if_ne (tgt := 44) h d_Mod_record_39 (by decide) (fun c6 => ?_) (fun c6 => absurd c6 (by decide))
          refine j_bipush (v := 32) h d_Mod_record_44 (by decide) ?_
          refine j_iload_n h d_Mod_record_46 rfl ?_
          refine j_imul h d_Mod_record_47 ?_
          refine j_iload_n h d_Mod_record_48 rfl ?_
          refine j_ix32 (s := s) (a := a) h d_Mod_record_49 ?_
          refine j_istore h d_Mod_record_50 (Nat.lt_of_lt_of_eq (m := 5) (by decide) hN.symm) ?_
          refine j_iload_n h d_Mod_record_52 rfl ?_
          refine j_tabIn (off := 91) (tgt := 144) h d_Mod_record_53 (by decide +kernel) (by decide +kernel) (by decide +kernel) (by decide) ?_
          refine j_aload_n h d_Mod_record_144 rfl ?_
          refine j_getR h d_Mod_record_145 fl_Mod_59 rfl (by assumption) (mP ms (a := 26) (by decide)) ?_
          refine j_iload h d_Mod_record_148 rfl ?_
          refine m_iald2 (a := 26) (L := 64) (j := (32 * s + a)) h ms d_Mod_record_150 (by decide) rfl (by decide) rfl rfl (by omega) ?_
          exact j_iret hX d_Mod_record_151 rfl (Nat.le_refl _) (Nat.le_refl _) ⟨rfl, by clear hX h hl; first | rfl | (simp_all [rtell]; done) | grind [rtell], rfl, _, rfl, by simp [up_rd], by first | exact MN_70 hm | exact hm | exact hm3⟩
  | 6, _ =>
    refine j_aload_n h d_Mod_record_0 rfl ?_
    refine j_aload_n h d_Mod_record_1 rfl ?_
    refine j_iload_n h d_Mod_record_2 rfl ?_
    refine j_callV h (c_Mod_isServer _ _ _ _ _ _ _ _ ms _) d_Mod_record_3 ml_Mod_206 mv_Mod_isServer (by assumption) ⟨rfl, rfl⟩ rfl rfl (Nat.le_of_ble_eq_true rfl) (hR_of hX (by decide) (by decide)) (hf_of hX (by decide) (by decide)) ?_
    rintro _ _ _ _ ⟨rfl, rfl, rfl, rfl⟩
    refine j_if_eq (tgt := 35) h d_Mod_record_6 (by decide) (fun c1 => ?_) (fun c1 => ?_)
    · refine j_iconst (v := 0) h d_Mod_record_35 (by decide) ?_
      exfalso
      clear hX h hl
      first | (simp_all [wn, b01_0, b01_1]; done) | grind [wn, b01_0, b01_1]
    · refine j_iload_n h d_Mod_record_9 rfl ?_
      refine j_if_lt (tgt := 35) h d_Mod_record_10 (by decide) (fun c2 => ?_) (fun c2 => ?_)
      · refine j_iconst (v := 0) h d_Mod_record_35 (by decide) ?_
        exfalso
        clear hX h hl
        first | (simp_all [wn, b01_0, b01_1]; done) | grind [wn, b01_0, b01_1]
      · refine j_iload_n h d_Mod_record_13 rfl ?_
        refine j_aload_n h d_Mod_record_14 rfl ?_
        refine j_get2e (v := nI n) h d_Mod_record_15 fl_Mod_98 rfl (by assumption) (by first | exact h42 | simpa [up_rd] using h42) ?_
        refine j_ic_ge (tgt := 35) h d_Mod_record_18 (by decide) (fun c3 => ?_) (fun c3 => ?_)
        · refine j_iconst (v := 0) h d_Mod_record_35 (by decide) ?_
          exfalso
          clear hX h hl
          first | (simp_all [wn, b01_0, b01_1]; done) | grind [wn, b01_0, b01_1]
        · refine j_iload_n h d_Mod_record_21 rfl ?_
          refine j_if_lt (tgt := 35) h d_Mod_record_22 (by decide) (fun c4 => absurd c4 (by decide)) (fun c4 => ?_)
          refine j_iload_n h d_Mod_record_25 rfl ?_
          refine j_bipush (v := 9) h d_Mod_record_26 (by decide) ?_
          refine j_ic_gt (tgt := 35) h d_Mod_record_28 (by decide) (fun c5 => absurd c5 (by decide)) (fun c5 => ?_)
          refine j_iconst (v := 1) h d_Mod_record_31 (by decide) ?_
          refine j_goto (tgt := 36) h d_Mod_record_32 (by decide) ?_
          refine j_callV h (c_Mod_isRight _ _ _ _ _ _ _ _ ms _ (by first | exact Or.inl rfl | exact Or.inr rfl)) d_Mod_record_36 ml_Mod_202 mv_Mod_isRight (by assumption) ⟨rfl, rfl⟩ rfl rfl (Nat.le_of_ble_eq_true rfl) (hR_of hX (by decide) (by decide)) (hf_of hX (by decide) (by decide)) ?_
          rintro _ _ _ _ ⟨rfl, rfl, rfl, rfl⟩
          refine j_if_ne (tgt := 44) h d_Mod_record_39 (by decide) (fun c6 => ?_) (fun c6 => absurd c6 (by decide))
          refine j_bipush (v := 32) h d_Mod_record_44 (by decide) ?_
          refine j_iload_n h d_Mod_record_46 rfl ?_
          refine j_imul h d_Mod_record_47 ?_
          refine j_iload_n h d_Mod_record_48 rfl ?_
          refine j_ix32 (s := s) (a := a) h d_Mod_record_49 ?_
          refine j_istore h d_Mod_record_50 (Nat.lt_of_lt_of_eq (m := 5) (by decide) hN.symm) ?_
          refine j_iload_n h d_Mod_record_52 rfl ?_
          refine j_tabIn (off := 99) (tgt := 152) h d_Mod_record_53 (by decide +kernel) (by decide +kernel) (by decide +kernel) (by decide) ?_
          refine j_aload_n h d_Mod_record_152 rfl ?_
          refine j_getR h d_Mod_record_153 fl_Mod_62 rfl (by assumption) (mP ms (a := 27) (by decide)) ?_
          refine j_iload h d_Mod_record_156 rfl ?_
          refine m_iald2 (a := 27) (L := 64) (j := (32 * s + a)) h ms d_Mod_record_158 (by decide) rfl (by decide) rfl rfl (by omega) ?_
          exact j_iret hX d_Mod_record_159 rfl (Nat.le_refl _) (Nat.le_refl _) ⟨rfl, by clear hX h hl; first | rfl | (simp_all [rtell]; done) | grind [rtell], rfl, _, rfl, by simp [up_rd], by first | exact MN_70 hm | exact hm | exact hm3⟩
  | 7, _ =>
    refine j_aload_n h d_Mod_record_0 rfl ?_
    refine j_aload_n h d_Mod_record_1 rfl ?_
    refine j_iload_n h d_Mod_record_2 rfl ?_
    refine j_callV h (c_Mod_isServer _ _ _ _ _ _ _ _ ms _) d_Mod_record_3 ml_Mod_206 mv_Mod_isServer (by assumption) ⟨rfl, rfl⟩ rfl rfl (Nat.le_of_ble_eq_true rfl) (hR_of hX (by decide) (by decide)) (hf_of hX (by decide) (by decide)) ?_
    rintro _ _ _ _ ⟨rfl, rfl, rfl, rfl⟩
    refine j_if_eq (tgt := 35) h d_Mod_record_6 (by decide) (fun c1 => ?_) (fun c1 => ?_)
    · refine j_iconst (v := 0) h d_Mod_record_35 (by decide) ?_
      exfalso
      clear hX h hl
      first | (simp_all [wn, b01_0, b01_1]; done) | grind [wn, b01_0, b01_1]
    · refine j_iload_n h d_Mod_record_9 rfl ?_
      refine j_if_lt (tgt := 35) h d_Mod_record_10 (by decide) (fun c2 => ?_) (fun c2 => ?_)
      · refine j_iconst (v := 0) h d_Mod_record_35 (by decide) ?_
        exfalso
        clear hX h hl
        first | (simp_all [wn, b01_0, b01_1]; done) | grind [wn, b01_0, b01_1]
      · refine j_iload_n h d_Mod_record_13 rfl ?_
        refine j_aload_n h d_Mod_record_14 rfl ?_
        refine j_get2e (v := nI n) h d_Mod_record_15 fl_Mod_98 rfl (by assumption) (by first | exact h42 | simpa [up_rd] using h42) ?_
        refine j_ic_ge (tgt := 35) h d_Mod_record_18 (by decide) (fun c3 => ?_) (fun c3 => ?_)
        · refine j_iconst (v := 0) h d_Mod_record_35 (by decide) ?_
          exfalso
          clear hX h hl
          first | (simp_all [wn, b01_0, b01_1]; done) | grind [wn, b01_0, b01_1]
        · refine j_iload_n h d_Mod_record_21 rfl ?_
          refine j_if_lt (tgt := 35) h d_Mod_record_22 (by decide) (fun c4 => absurd c4 (by decide)) (fun c4 => ?_)
          refine j_iload_n h d_Mod_record_25 rfl ?_
          refine j_bipush (v := 9) h d_Mod_record_26 (by decide) ?_
          refine j_ic_gt (tgt := 35) h d_Mod_record_28 (by decide) (fun c5 => absurd c5 (by decide)) (fun c5 => ?_)
          refine j_iconst (v := 1) h d_Mod_record_31 (by decide) ?_
          refine j_goto (tgt := 36) h d_Mod_record_32 (by decide) ?_
          refine j_callV h (c_Mod_isRight _ _ _ _ _ _ _ _ ms _ (by first | exact Or.inl rfl | exact Or.inr rfl)) d_Mod_record_36 ml_Mod_202 mv_Mod_isRight (by assumption) ⟨rfl, rfl⟩ rfl rfl (Nat.le_of_ble_eq_true rfl) (hR_of hX (by decide) (by decide)) (hf_of hX (by decide) (by decide)) ?_
          rintro _ _ _ _ ⟨rfl, rfl, rfl, rfl⟩
          refine j_if_ne (tgt := 44) h d_Mod_record_39 (by decide) (fun c6 => ?_) (fun c6 => absurd c6 (by decide))
          refine j_bipush (v := 32) h d_Mod_record_44 (by decide) ?_
          refine j_iload_n h d_Mod_record_46 rfl ?_
          refine j_imul h d_Mod_record_47 ?_
          refine j_iload_n h d_Mod_record_48 rfl ?_
          refine j_ix32 (s := s) (a := a) h d_Mod_record_49 ?_
          refine j_istore h d_Mod_record_50 (Nat.lt_of_lt_of_eq (m := 5) (by decide) hN.symm) ?_
          refine j_iload_n h d_Mod_record_52 rfl ?_
          refine j_tabIn (off := 107) (tgt := 160) h d_Mod_record_53 (by decide +kernel) (by decide +kernel) (by decide +kernel) (by decide) ?_
          refine j_aload_n h d_Mod_record_160 rfl ?_
          refine j_getR h d_Mod_record_161 fl_Mod_65 rfl (by assumption) (mP ms (a := 28) (by decide)) ?_
          refine j_iload h d_Mod_record_164 rfl ?_
          refine m_iald2 (a := 28) (L := 64) (j := (32 * s + a)) h ms d_Mod_record_166 (by decide) rfl (by decide) rfl rfl (by omega) ?_
          exact j_iret hX d_Mod_record_167 rfl (Nat.le_refl _) (Nat.le_refl _) ⟨rfl, by clear hX h hl; first | rfl | (simp_all [rtell]; done) | grind [rtell], rfl, _, rfl, by simp [up_rd], by first | exact MN_70 hm | exact hm | exact hm3⟩
  | 8, _ =>
    refine j_aload_n h d_Mod_record_0 rfl ?_
    refine j_aload_n h d_Mod_record_1 rfl ?_
    refine j_iload_n h d_Mod_record_2 rfl ?_
    refine j_callV h (c_Mod_isServer _ _ _ _ _ _ _ _ ms _) d_Mod_record_3 ml_Mod_206 mv_Mod_isServer (by assumption) ⟨rfl, rfl⟩ rfl rfl (Nat.le_of_ble_eq_true rfl) (hR_of hX (by decide) (by decide)) (hf_of hX (by decide) (by decide)) ?_
    rintro _ _ _ _ ⟨rfl, rfl, rfl, rfl⟩
    refine j_if_eq (tgt := 35) h d_Mod_record_6 (by decide) (fun c1 => ?_) (fun c1 => ?_)
    · refine j_iconst (v := 0) h d_Mod_record_35 (by decide) ?_
      exfalso
      clear hX h hl
      first | (simp_all [wn, b01_0, b01_1]; done) | grind [wn, b01_0, b01_1]
    · refine j_iload_n h d_Mod_record_9 rfl ?_
      refine j_if_lt (tgt := 35) h d_Mod_record_10 (by decide) (fun c2 => ?_) (fun c2 => ?_)
      · refine j_iconst (v := 0) h d_Mod_record_35 (by decide) ?_
        exfalso
        clear hX h hl
        first | (simp_all [wn, b01_0, b01_1]; done) | grind [wn, b01_0, b01_1]
      · refine j_iload_n h d_Mod_record_13 rfl ?_
        refine j_aload_n h d_Mod_record_14 rfl ?_
        refine j_get2e (v := nI n) h d_Mod_record_15 fl_Mod_98 rfl (by assumption) (by first | exact h42 | simpa [up_rd] using h42) ?_
        refine j_ic_ge (tgt := 35) h d_Mod_record_18 (by decide) (fun c3 => ?_) (fun c3 => ?_)
        · refine j_iconst (v := 0) h d_Mod_record_35 (by decide) ?_
          exfalso
          clear hX h hl
          first | (simp_all [wn, b01_0, b01_1]; done) | grind [wn, b01_0, b01_1]
        · refine j_iload_n h d_Mod_record_21 rfl ?_
          refine j_if_lt (tgt := 35) h d_Mod_record_22 (by decide) (fun c4 => absurd c4 (by decide)) (fun c4 => ?_)
          refine j_iload_n h d_Mod_record_25 rfl ?_
          refine j_bipush (v := 9) h d_Mod_record_26 (by decide) ?_
          refine j_ic_gt (tgt := 35) h d_Mod_record_28 (by decide) (fun c5 => absurd c5 (by decide)) (fun c5 => ?_)
          refine j_iconst (v := 1) h d_Mod_record_31 (by decide) ?_
          refine j_goto (tgt := 36) h d_Mod_record_32 (by decide) ?_
          refine j_callV h (c_Mod_isRight _ _ _ _ _ _ _ _ ms _ (by first | exact Or.inl rfl | exact Or.inr rfl)) d_Mod_record_36 ml_Mod_202 mv_Mod_isRight (by assumption) ⟨rfl, rfl⟩ rfl rfl (Nat.le_of_ble_eq_true rfl) (hR_of hX (by decide) (by decide)) (hf_of hX (by decide) (by decide)) ?_
          rintro _ _ _ _ ⟨rfl, rfl, rfl, rfl⟩
          refine j_if_ne (tgt := 44) h d_Mod_record_39 (by decide) (fun c6 => ?_) (fun c6 => absurd c6 (by decide))
          refine j_bipush (v := 32) h d_Mod_record_44 (by decide) ?_
          refine j_iload_n h d_Mod_record_46 rfl ?_
          refine j_imul h d_Mod_record_47 ?_
          refine j_iload_n h d_Mod_record_48 rfl ?_
          refine j_ix32 (s := s) (a := a) h d_Mod_record_49 ?_
          refine j_istore h d_Mod_record_50 (Nat.lt_of_lt_of_eq (m := 5) (by decide) hN.symm) ?_
          refine j_iload_n h d_Mod_record_52 rfl ?_
          refine j_tabIn (off := 115) (tgt := 168) h d_Mod_record_53 (by decide +kernel) (by decide +kernel) (by decide +kernel) (by decide) ?_
          refine j_aload_n h d_Mod_record_168 rfl ?_
          refine j_getR h d_Mod_record_169 fl_Mod_53 rfl (by assumption) (mP ms (a := 24) (by decide)) ?_
          refine j_iload h d_Mod_record_172 rfl ?_
          refine m_iald2 (a := 24) (L := 64) (j := (32 * s + a)) h ms d_Mod_record_174 (by decide) rfl (by decide) rfl rfl (by omega) ?_
          exact j_iret hX d_Mod_record_175 rfl (Nat.le_refl _) (Nat.le_refl _) ⟨rfl, by clear hX h hl; first | rfl | (simp_all [rtell]; done) | grind [rtell], rfl, _, rfl, by simp [up_rd], by first | exact MN_70 hm | exact hm | exact hm3⟩
  | 9, _ =>
    refine j_aload_n h d_Mod_record_0 rfl ?_
    refine j_aload_n h d_Mod_record_1 rfl ?_
    refine j_iload_n h d_Mod_record_2 rfl ?_
    refine j_callV h (c_Mod_isServer _ _ _ _ _ _ _ _ ms _) d_Mod_record_3 ml_Mod_206 mv_Mod_isServer (by assumption) ⟨rfl, rfl⟩ rfl rfl (Nat.le_of_ble_eq_true rfl) (hR_of hX (by decide) (by decide)) (hf_of hX (by decide) (by decide)) ?_
    rintro _ _ _ _ ⟨rfl, rfl, rfl, rfl⟩
    refine j_if_eq (tgt := 35) h d_Mod_record_6 (by decide) (fun c1 => ?_) (fun c1 => ?_)
    · refine j_iconst (v := 0) h d_Mod_record_35 (by decide) ?_
      exfalso
      clear hX h hl
      first | (simp_all [wn, b01_0, b01_1]; done) | grind [wn, b01_0, b01_1]
    · refine j_iload_n h d_Mod_record_9 rfl ?_
      refine j_if_lt (tgt := 35) h d_Mod_record_10 (by decide) (fun c2 => ?_) (fun c2 => ?_)
      · refine j_iconst (v := 0) h d_Mod_record_35 (by decide) ?_
        exfalso
        clear hX h hl
        first | (simp_all [wn, b01_0, b01_1]; done) | grind [wn, b01_0, b01_1]
      · refine j_iload_n h d_Mod_record_13 rfl ?_
        refine j_aload_n h d_Mod_record_14 rfl ?_
        refine j_get2e (v := nI n) h d_Mod_record_15 fl_Mod_98 rfl (by assumption) (by first | exact h42 | simpa [up_rd] using h42) ?_
        refine j_ic_ge (tgt := 35) h d_Mod_record_18 (by decide) (fun c3 => ?_) (fun c3 => ?_)
        · refine j_iconst (v := 0) h d_Mod_record_35 (by decide) ?_
          exfalso
          clear hX h hl
          first | (simp_all [wn, b01_0, b01_1]; done) | grind [wn, b01_0, b01_1]
        · refine j_iload_n h d_Mod_record_21 rfl ?_
          refine j_if_lt (tgt := 35) h d_Mod_record_22 (by decide) (fun c4 => absurd c4 (by decide)) (fun c4 => ?_)
          refine j_iload_n h d_Mod_record_25 rfl ?_
          refine j_bipush (v := 9) h d_Mod_record_26 (by decide) ?_
          refine j_ic_gt (tgt := 35) h d_Mod_record_28 (by decide) (fun c5 => absurd c5 (by decide)) (fun c5 => ?_)
          refine j_iconst (v := 1) h d_Mod_record_31 (by decide) ?_
          refine j_goto (tgt := 36) h d_Mod_record_32 (by decide) ?_
          refine j_callV h (c_Mod_isRight _ _ _ _ _ _ _ _ ms _ (by first | exact Or.inl rfl | exact Or.inr rfl)) d_Mod_record_36 ml_Mod_202 mv_Mod_isRight (by assumption) ⟨rfl, rfl⟩ rfl rfl (Nat.le_of_ble_eq_true rfl) (hR_of hX (by decide) (by decide)) (hf_of hX (by decide) (by decide)) ?_
          rintro _ _ _ _ ⟨rfl, rfl, rfl, rfl⟩
          refine j_if_ne (tgt := 44) h d_Mod_record_39 (by decide) (fun c6 => ?_) (fun c6 => absurd c6 (by decide))
          refine j_bipush (v := 32) h d_Mod_record_44 (by decide) ?_
          refine j_iload_n h d_Mod_record_46 rfl ?_
          refine j_imul h d_Mod_record_47 ?_
          refine j_iload_n h d_Mod_record_48 rfl ?_
          refine j_ix32 (s := s) (a := a) h d_Mod_record_49 ?_
          refine j_istore h d_Mod_record_50 (Nat.lt_of_lt_of_eq (m := 5) (by decide) hN.symm) ?_
          refine j_iload_n h d_Mod_record_52 rfl ?_
          refine j_tabOut (tgt := 176) h d_Mod_record_53 (by decide +kernel) (by decide) ?_
          refine j_aload_n h d_Mod_record_176 rfl ?_
          refine j_getR h d_Mod_record_177 fl_Mod_56 rfl (by assumption) (mP ms (a := 25) (by decide)) ?_
          refine j_iload h d_Mod_record_180 rfl ?_
          refine m_zald2 (a := 25) (L := 64) (j := (32 * s + a)) h ms d_Mod_record_182 (by decide) rfl (by decide) rfl rfl (by omega) ?_
          refine j_if_eq (tgt := 190) h d_Mod_record_183 (by decide) (fun c7 => ?_) (fun c7 => ?_)
          · refine j_iconst (v := 0) h d_Mod_record_190 (by decide) ?_
            refine j_aload_n h d_Mod_record_191 rfl ?_
            refine j_getR h d_Mod_record_192 fl_Mod_46 rfl (by assumption) (mP ms (a := 22) (by decide)) ?_
            refine j_iload h d_Mod_record_195 rfl ?_
            refine m_zald2 (a := 22) (L := 64) (j := (32 * s + a)) h ms d_Mod_record_197 (by decide) rfl (by decide) rfl rfl (by omega) ?_
            refine j_if_eq (tgt := 205) h d_Mod_record_198 (by decide) (fun c8 => ?_) (fun c8 => ?_)
            · refine j_iconst (v := 0) h d_Mod_record_205 (by decide) ?_
              refine j_iadd h d_Mod_record_206 ?_
              refine j_aload_n h d_Mod_record_207 rfl ?_
              refine j_getR h d_Mod_record_208 fl_Mod_68 rfl (by assumption) (mP ms (a := 29) (by decide)) ?_
              refine j_iload h d_Mod_record_211 rfl ?_
              refine m_zald2 (a := 29) (L := 64) (j := (32 * s + a)) h ms d_Mod_record_213 (by decide) rfl (by decide) rfl rfl (by omega) ?_
              refine j_if_eq (tgt := 221) h d_Mod_record_214 (by decide) (fun c9 => ?_) (fun c9 => ?_)
              · refine j_iconst (v := 0) h d_Mod_record_221 (by decide) ?_
                refine j_iadd h d_Mod_record_222 ?_
                exact j_iret hX d_Mod_record_223 rfl (Nat.le_refl _) (Nat.le_refl _) ⟨rfl, by clear hX h hl; first | rfl | (simp_all [rtell]; done) | grind [rtell], rfl, _, rfl, by simp [up_rd], by first | exact MN_70 hm | exact hm | exact hm3⟩
              · refine j_iconst (v := 4) h d_Mod_record_217 (by decide) ?_
                refine j_goto (tgt := 222) h d_Mod_record_218 (by decide) ?_
                refine j_iadd h d_Mod_record_222 ?_
                exact j_iret hX d_Mod_record_223 rfl (Nat.le_refl _) (Nat.le_refl _) ⟨rfl, by clear hX h hl; first | rfl | (simp_all [rtell]; done) | grind [rtell], rfl, _, rfl, by simp [up_rd], by first | exact MN_70 hm | exact hm | exact hm3⟩
            · refine j_iconst (v := 2) h d_Mod_record_201 (by decide) ?_
              refine j_goto (tgt := 206) h d_Mod_record_202 (by decide) ?_
              refine j_iadd h d_Mod_record_206 ?_
              refine j_aload_n h d_Mod_record_207 rfl ?_
              refine j_getR h d_Mod_record_208 fl_Mod_68 rfl (by assumption) (mP ms (a := 29) (by decide)) ?_
              refine j_iload h d_Mod_record_211 rfl ?_
              refine m_zald2 (a := 29) (L := 64) (j := (32 * s + a)) h ms d_Mod_record_213 (by decide) rfl (by decide) rfl rfl (by omega) ?_
              refine j_if_eq (tgt := 221) h d_Mod_record_214 (by decide) (fun c10 => ?_) (fun c10 => ?_)
              · refine j_iconst (v := 0) h d_Mod_record_221 (by decide) ?_
                refine j_iadd h d_Mod_record_222 ?_
                exact j_iret hX d_Mod_record_223 rfl (Nat.le_refl _) (Nat.le_refl _) ⟨rfl, by clear hX h hl; first | rfl | (simp_all [rtell]; done) | grind [rtell], rfl, _, rfl, by simp [up_rd], by first | exact MN_70 hm | exact hm | exact hm3⟩
              · refine j_iconst (v := 4) h d_Mod_record_217 (by decide) ?_
                refine j_goto (tgt := 222) h d_Mod_record_218 (by decide) ?_
                refine j_iadd h d_Mod_record_222 ?_
                exact j_iret hX d_Mod_record_223 rfl (Nat.le_refl _) (Nat.le_refl _) ⟨rfl, by clear hX h hl; first | rfl | (simp_all [rtell]; done) | grind [rtell], rfl, _, rfl, by simp [up_rd], by first | exact MN_70 hm | exact hm | exact hm3⟩
          · refine j_iconst (v := 1) h d_Mod_record_186 (by decide) ?_
            refine j_goto (tgt := 191) h d_Mod_record_187 (by decide) ?_
            refine j_aload_n h d_Mod_record_191 rfl ?_
            refine j_getR h d_Mod_record_192 fl_Mod_46 rfl (by assumption) (mP ms (a := 22) (by decide)) ?_
            refine j_iload h d_Mod_record_195 rfl ?_
            refine m_zald2 (a := 22) (L := 64) (j := (32 * s + a)) h ms d_Mod_record_197 (by decide) rfl (by decide) rfl rfl (by omega) ?_
            refine j_if_eq (tgt := 205) h d_Mod_record_198 (by decide) (fun c11 => ?_) (fun c11 => ?_)
            · refine j_iconst (v := 0) h d_Mod_record_205 (by decide) ?_
              refine j_iadd h d_Mod_record_206 ?_
              refine j_aload_n h d_Mod_record_207 rfl ?_
              refine j_getR h d_Mod_record_208 fl_Mod_68 rfl (by assumption) (mP ms (a := 29) (by decide)) ?_
              refine j_iload h d_Mod_record_211 rfl ?_
              refine m_zald2 (a := 29) (L := 64) (j := (32 * s + a)) h ms d_Mod_record_213 (by decide) rfl (by decide) rfl rfl (by omega) ?_
              refine j_if_eq (tgt := 221) h d_Mod_record_214 (by decide) (fun c12 => ?_) (fun c12 => ?_)
              · refine j_iconst (v := 0) h d_Mod_record_221 (by decide) ?_
                refine j_iadd h d_Mod_record_222 ?_
                exact j_iret hX d_Mod_record_223 rfl (Nat.le_refl _) (Nat.le_refl _) ⟨rfl, by clear hX h hl; first | rfl | (simp_all [rtell]; done) | grind [rtell], rfl, _, rfl, by simp [up_rd], by first | exact MN_70 hm | exact hm | exact hm3⟩
              · refine j_iconst (v := 4) h d_Mod_record_217 (by decide) ?_
                refine j_goto (tgt := 222) h d_Mod_record_218 (by decide) ?_
                refine j_iadd h d_Mod_record_222 ?_
                exact j_iret hX d_Mod_record_223 rfl (Nat.le_refl _) (Nat.le_refl _) ⟨rfl, by clear hX h hl; first | rfl | (simp_all [rtell]; done) | grind [rtell], rfl, _, rfl, by simp [up_rd], by first | exact MN_70 hm | exact hm | exact hm3⟩
            · refine j_iconst (v := 2) h d_Mod_record_201 (by decide) ?_
              refine j_goto (tgt := 206) h d_Mod_record_202 (by decide) ?_
              refine j_iadd h d_Mod_record_206 ?_
              refine j_aload_n h d_Mod_record_207 rfl ?_
              refine j_getR h d_Mod_record_208 fl_Mod_68 rfl (by assumption) (mP ms (a := 29) (by decide)) ?_
              refine j_iload h d_Mod_record_211 rfl ?_
              refine m_zald2 (a := 29) (L := 64) (j := (32 * s + a)) h ms d_Mod_record_213 (by decide) rfl (by decide) rfl rfl (by omega) ?_
              refine j_if_eq (tgt := 221) h d_Mod_record_214 (by decide) (fun c13 => ?_) (fun c13 => ?_)
              · refine j_iconst (v := 0) h d_Mod_record_221 (by decide) ?_
                refine j_iadd h d_Mod_record_222 ?_
                exact j_iret hX d_Mod_record_223 rfl (Nat.le_refl _) (Nat.le_refl _) ⟨rfl, by clear hX h hl; first | rfl | (simp_all [rtell]; done) | grind [rtell], rfl, _, rfl, by simp [up_rd], by first | exact MN_70 hm | exact hm | exact hm3⟩
              · refine j_iconst (v := 4) h d_Mod_record_217 (by decide) ?_
                refine j_goto (tgt := 222) h d_Mod_record_218 (by decide) ?_
                refine j_iadd h d_Mod_record_222 ?_
                exact j_iret hX d_Mod_record_223 rfl (Nat.le_refl _) (Nat.le_refl _) ⟨rfl, by clear hX h hl; first | rfl | (simp_all [rtell]; done) | grind [rtell], rfl, _, rfl, by simp [up_rd], by first | exact MN_70 hm | exact hm | exact hm3⟩
  | k + 10, hk => exact absurd hk (by omega)
theorem d_Mod_start_0 : decode b_Mod_start 0 = .ok (.aload_n 0, 1) := by decide +kernel
theorem d_Mod_start_1 : decode b_Mod_start 1 = .ok (.aload_n 0, 1) := by decide +kernel
theorem d_Mod_start_2 : decode b_Mod_start 2 = .ok (.iload_n 1, 1) := by decide +kernel
theorem d_Mod_start_3 : decode b_Mod_start 3 = .ok (.invokevirtual 206, 3) := by decide +kernel
theorem d_Mod_start_6 : decode b_Mod_start 6 = .ok (.invokevirtual 202, 3) := by decide +kernel
theorem d_Mod_start_9 : decode b_Mod_start 9 = .ok (.ifCond .eq 12, 3) := by decide +kernel
theorem d_Mod_start_12 : decode b_Mod_start 12 = .ok (.aload_n 0, 1) := by decide +kernel
theorem d_Mod_start_13 : decode b_Mod_start 13 = .ok (.getfield 7, 3) := by decide +kernel
theorem d_Mod_start_16 : decode b_Mod_start 16 = .ok (.iload_n 1, 1) := by decide +kernel
theorem d_Mod_start_17 : decode b_Mod_start 17 = .ok (.iaload, 1) := by decide +kernel
theorem d_Mod_start_18 : decode b_Mod_start 18 = .ok (.ifCond .eq 5, 3) := by decide +kernel
theorem d_Mod_start_21 : decode b_Mod_start 21 = .ok (.iconst 0, 1) := by decide +kernel
theorem d_Mod_start_22 : decode b_Mod_start 22 = .ok (.ireturn, 1) := by decide +kernel
theorem d_Mod_start_23 : decode b_Mod_start 23 = .ok (.aload_n 0, 1) := by decide +kernel
theorem d_Mod_start_24 : decode b_Mod_start 24 = .ok (.getfield 28, 3) := by decide +kernel
theorem d_Mod_start_27 : decode b_Mod_start 27 = .ok (.iload_n 1, 1) := by decide +kernel
theorem d_Mod_start_28 : decode b_Mod_start 28 = .ok (.iconst 0, 1) := by decide +kernel
theorem d_Mod_start_29 : decode b_Mod_start 29 = .ok (.iastore, 1) := by decide +kernel
theorem d_Mod_start_30 : decode b_Mod_start 30 = .ok (.aload_n 0, 1) := by decide +kernel
theorem d_Mod_start_31 : decode b_Mod_start 31 = .ok (.getfield 16, 3) := by decide +kernel
theorem d_Mod_start_34 : decode b_Mod_start 34 = .ok (.iload_n 1, 1) := by decide +kernel
theorem d_Mod_start_35 : decode b_Mod_start 35 = .ok (.dup2, 1) := by decide +kernel
theorem d_Mod_start_36 : decode b_Mod_start 36 = .ok (.iaload, 1) := by decide +kernel
theorem d_Mod_start_37 : decode b_Mod_start 37 = .ok (.iconst 1, 1) := by decide +kernel
theorem d_Mod_start_38 : decode b_Mod_start 38 = .ok (.iadd, 1) := by decide +kernel
theorem d_Mod_start_39 : decode b_Mod_start 39 = .ok (.iastore, 1) := by decide +kernel
theorem d_Mod_start_40 : decode b_Mod_start 40 = .ok (.aload_n 0, 1) := by decide +kernel
theorem d_Mod_start_41 : decode b_Mod_start 41 = .ok (.getfield 7, 3) := by decide +kernel
theorem d_Mod_start_44 : decode b_Mod_start 44 = .ok (.iload_n 1, 1) := by decide +kernel
theorem d_Mod_start_45 : decode b_Mod_start 45 = .ok (.iconst 1, 1) := by decide +kernel
theorem d_Mod_start_46 : decode b_Mod_start 46 = .ok (.iastore, 1) := by decide +kernel
theorem d_Mod_start_47 : decode b_Mod_start 47 = .ok (.iconst 0, 1) := by decide +kernel
theorem d_Mod_start_48 : decode b_Mod_start 48 = .ok (.istore_n 2, 1) := by decide +kernel
theorem d_Mod_start_49 : decode b_Mod_start 49 = .ok (.iload_n 2, 1) := by decide +kernel
theorem d_Mod_start_50 : decode b_Mod_start 50 = .ok (.aload_n 0, 1) := by decide +kernel
theorem d_Mod_start_51 : decode b_Mod_start 51 = .ok (.getfield 98, 3) := by decide +kernel
theorem d_Mod_start_54 : decode b_Mod_start 54 = .ok (.if_icmp .ge 33, 3) := by decide +kernel
theorem d_Mod_start_57 : decode b_Mod_start 57 = .ok (.aload_n 0, 1) := by decide +kernel
theorem d_Mod_start_58 : decode b_Mod_start 58 = .ok (.getfield 71, 3) := by decide +kernel
theorem d_Mod_start_61 : decode b_Mod_start 61 = .ok (.bipush 32, 2) := by decide +kernel
theorem d_Mod_start_63 : decode b_Mod_start 63 = .ok (.iload_n 1, 1) := by decide +kernel
theorem d_Mod_start_64 : decode b_Mod_start 64 = .ok (.imul, 1) := by decide +kernel
theorem d_Mod_start_65 : decode b_Mod_start 65 = .ok (.iload_n 2, 1) := by decide +kernel
theorem d_Mod_start_66 : decode b_Mod_start 66 = .ok (.iadd, 1) := by decide +kernel
theorem d_Mod_start_67 : decode b_Mod_start 67 = .ok (.iconst 0, 1) := by decide +kernel
theorem d_Mod_start_68 : decode b_Mod_start 68 = .ok (.bastore, 1) := by decide +kernel
theorem d_Mod_start_69 : decode b_Mod_start 69 = .ok (.aload_n 0, 1) := by decide +kernel
theorem d_Mod_start_70 : decode b_Mod_start 70 = .ok (.getfield 68, 3) := by decide +kernel
theorem d_Mod_start_73 : decode b_Mod_start 73 = .ok (.bipush 32, 2) := by decide +kernel
theorem d_Mod_start_75 : decode b_Mod_start 75 = .ok (.iload_n 1, 1) := by decide +kernel
theorem d_Mod_start_76 : decode b_Mod_start 76 = .ok (.imul, 1) := by decide +kernel
theorem d_Mod_start_77 : decode b_Mod_start 77 = .ok (.iload_n 2, 1) := by decide +kernel
theorem d_Mod_start_78 : decode b_Mod_start 78 = .ok (.iadd, 1) := by decide +kernel
theorem d_Mod_start_79 : decode b_Mod_start 79 = .ok (.iconst 0, 1) := by decide +kernel
theorem d_Mod_start_80 : decode b_Mod_start 80 = .ok (.bastore, 1) := by decide +kernel
theorem d_Mod_start_81 : decode b_Mod_start 81 = .ok (.iinc 2 1, 3) := by decide +kernel
theorem d_Mod_start_84 : decode b_Mod_start 84 = .ok (.goto (-35), 3) := by decide +kernel
theorem d_Mod_start_87 : decode b_Mod_start 87 = .ok (.aload_n 0, 1) := by decide +kernel
theorem d_Mod_start_88 : decode b_Mod_start 88 = .ok (.iload_n 1, 1) := by decide +kernel
theorem d_Mod_start_89 : decode b_Mod_start 89 = .ok (.invokevirtual 147, 3) := by decide +kernel
theorem d_Mod_start_92 : decode b_Mod_start 92 = .ok (.ifCond .eq 8, 3) := by decide +kernel
theorem d_Mod_start_95 : decode b_Mod_start 95 = .ok (.aload_n 0, 1) := by decide +kernel
theorem d_Mod_start_96 : decode b_Mod_start 96 = .ok (.iload_n 1, 1) := by decide +kernel
theorem d_Mod_start_97 : decode b_Mod_start 97 = .ok (.invokevirtual 209, 3) := by decide +kernel
theorem d_Mod_start_100 : decode b_Mod_start 100 = .ok (.iconst 1, 1) := by decide +kernel
theorem d_Mod_start_101 : decode b_Mod_start 101 = .ok (.ireturn, 1) := by decide +kernel
set_option maxRecDepth 100000 in
set_option maxHeartbeats 4000000 in
theorem c_Mod_start_no (l : Launch) (K : Kx) (V : Vx) (A B C D : MI) (P : MP) (ms : MSt K V P) (N : List Msg) (hm : MN D N) (z : Int32) (hno : ¬ (z = 0 ∨ z = 1)) : Ct l K md_Mod_start (3, 64) 0 0 [.ref (K.ad 6 0), .int z] V (bk4 A B C D) P (MRp V A B P (some (.int 0)) C 1 N) := by
  refine ct_of [(0, .ref (K.ad 6 0)), (1, .int z)] (by decide) (Nat.le_of_ble_eq_true rfl) (ca_r (ca_i ca_n)) rfl ?_
  intro X hl hX
  have h : OkX X b_Mod_start R_Mod K := hX.1
  have hN : X.nL = 3 := hX.2.1
  have hmv := ms.1
  refine j_aload_n h d_Mod_start_0 rfl ?_
  refine j_aload_n h d_Mod_start_1 rfl ?_
  refine j_iload_n h d_Mod_start_2 rfl ?_
  refine j_callV h (c_Mod_isServer _ _ _ _ _ _ _ _ ms _) d_Mod_start_3 ml_Mod_206 mv_Mod_isServer (by assumption) ⟨rfl, rfl⟩ rfl rfl (Nat.le_of_ble_eq_true rfl) (hR_of hX (by decide) (by decide)) (hf_of hX (by decide) (by decide)) ?_
  rintro _ _ _ _ ⟨rfl, rfl, rfl, rfl⟩
  refine j_int (v' := 0) (by first | exact b01_f (by clear hX h hl; first | (simp_all [wn, b01_0, b01_1]; done) | grind [wn, b01_0, b01_1]) | (clear hX h hl; first | (simp_all [wn, b01_0, b01_1]; done) | grind [wn, b01_0, b01_1])) ?_
  refine j_callV h (c_Mod_isRight _ _ _ _ _ _ _ _ ms _ (by first | exact Or.inl rfl | exact Or.inr rfl)) d_Mod_start_6 ml_Mod_202 mv_Mod_isRight (by assumption) ⟨rfl, rfl⟩ rfl rfl (Nat.le_of_ble_eq_true rfl) (hR_of hX (by decide) (by decide)) (hf_of hX (by decide) (by decide)) ?_
  rintro _ _ _ _ ⟨rfl, rfl, rfl, rfl⟩
  refine j_if_eq (tgt := 21) h d_Mod_start_9 (by decide) (fun c1 => ?_) (fun c1 => absurd c1 (by decide))
  refine j_iconst (v := 0) h d_Mod_start_21 (by decide) ?_
  exact j_zret hX d_Mod_start_22 rfl (by first | exact Or.inl rfl | exact Or.inr rfl | exact b01_z _ | assumption) (Nat.le_refl _) (Nat.le_refl _) ⟨rfl, rfl, rfl, _, rfl, by simp [up_rd], by first | exact MN_70 hm | exact hm | exact hm3⟩
theorem d_Mod_ask_0 : decode b_Mod_ask 0 = .ok (.iload_n 1, 1) := by decide +kernel
theorem d_Mod_ask_1 : decode b_Mod_ask 1 = .ok (.ifCond .lt 57, 3) := by decide +kernel
theorem d_Mod_ask_4 : decode b_Mod_ask 4 = .ok (.iload_n 1, 1) := by decide +kernel
theorem d_Mod_ask_5 : decode b_Mod_ask 5 = .ok (.bipush 16, 2) := by decide +kernel
theorem d_Mod_ask_7 : decode b_Mod_ask 7 = .ok (.if_icmp .ge 51, 3) := by decide +kernel
theorem d_Mod_ask_10 : decode b_Mod_ask 10 = .ok (.iload_n 2, 1) := by decide +kernel
theorem d_Mod_ask_11 : decode b_Mod_ask 11 = .ok (.ifCond .lt 47, 3) := by decide +kernel
theorem d_Mod_ask_14 : decode b_Mod_ask 14 = .ok (.iload_n 2, 1) := by decide +kernel
theorem d_Mod_ask_15 : decode b_Mod_ask 15 = .ok (.iconst 2, 1) := by decide +kernel
theorem d_Mod_ask_16 : decode b_Mod_ask 16 = .ok (.if_icmp .gt 42, 3) := by decide +kernel
theorem d_Mod_ask_19 : decode b_Mod_ask 19 = .ok (.aload_n 0, 1) := by decide +kernel
theorem d_Mod_ask_20 : decode b_Mod_ask 20 = .ok (.iload_n 3, 1) := by decide +kernel
theorem d_Mod_ask_21 : decode b_Mod_ask 21 = .ok (.invokevirtual 206, 3) := by decide +kernel
theorem d_Mod_ask_24 : decode b_Mod_ask 24 = .ok (.ifCond .eq 34, 3) := by decide +kernel
theorem d_Mod_ask_27 : decode b_Mod_ask 27 = .ok (.iload 4, 2) := by decide +kernel
theorem d_Mod_ask_29 : decode b_Mod_ask 29 = .ok (.ifCond .lt 29, 3) := by decide +kernel
theorem d_Mod_ask_32 : decode b_Mod_ask 32 = .ok (.iload 4, 2) := by decide +kernel
theorem d_Mod_ask_34 : decode b_Mod_ask 34 = .ok (.aload_n 0, 1) := by decide +kernel
theorem d_Mod_ask_35 : decode b_Mod_ask 35 = .ok (.getfield 98, 3) := by decide +kernel
theorem d_Mod_ask_38 : decode b_Mod_ask 38 = .ok (.if_icmp .ge 20, 3) := by decide +kernel
theorem d_Mod_ask_41 : decode b_Mod_ask 41 = .ok (.iload 5, 2) := by decide +kernel
theorem d_Mod_ask_43 : decode b_Mod_ask 43 = .ok (.iconst 1, 1) := by decide +kernel
theorem d_Mod_ask_44 : decode b_Mod_ask 44 = .ok (.if_icmp .lt 14, 3) := by decide +kernel
theorem d_Mod_ask_47 : decode b_Mod_ask 47 = .ok (.iload 5, 2) := by decide +kernel
theorem d_Mod_ask_49 : decode b_Mod_ask 49 = .ok (.ldc 200, 2) := by decide +kernel
theorem d_Mod_ask_51 : decode b_Mod_ask 51 = .ok (.if_icmp .gt 7, 3) := by decide +kernel
theorem d_Mod_ask_54 : decode b_Mod_ask 54 = .ok (.iconst 1, 1) := by decide +kernel
theorem d_Mod_ask_55 : decode b_Mod_ask 55 = .ok (.goto 4, 3) := by decide +kernel
theorem d_Mod_ask_58 : decode b_Mod_ask 58 = .ok (.iconst 0, 1) := by decide +kernel
theorem d_Mod_ask_59 : decode b_Mod_ask 59 = .ok (.istore 6, 2) := by decide +kernel
theorem d_Mod_ask_61 : decode b_Mod_ask 61 = .ok (.aload_n 0, 1) := by decide +kernel
theorem d_Mod_ask_62 : decode b_Mod_ask 62 = .ok (.iload 6, 2) := by decide +kernel
theorem d_Mod_ask_64 : decode b_Mod_ask 64 = .ok (.invokevirtual 202, 3) := by decide +kernel
theorem d_Mod_ask_67 : decode b_Mod_ask 67 = .ok (.ifCond .ne 5, 3) := by decide +kernel
theorem d_Mod_ask_70 : decode b_Mod_ask 70 = .ok (.iconst 0, 1) := by decide +kernel
theorem d_Mod_ask_71 : decode b_Mod_ask 71 = .ok (.ireturn, 1) := by decide +kernel
theorem d_Mod_ask_72 : decode b_Mod_ask 72 = .ok (.aload_n 0, 1) := by decide +kernel
theorem d_Mod_ask_73 : decode b_Mod_ask 73 = .ok (.getfield 80, 3) := by decide +kernel
theorem d_Mod_ask_76 : decode b_Mod_ask 76 = .ok (.iload_n 1, 1) := by decide +kernel
theorem d_Mod_ask_77 : decode b_Mod_ask 77 = .ok (.dup2, 1) := by decide +kernel
theorem d_Mod_ask_78 : decode b_Mod_ask 78 = .ok (.iaload, 1) := by decide +kernel
theorem d_Mod_ask_79 : decode b_Mod_ask 79 = .ok (.iconst 1, 1) := by decide +kernel
theorem d_Mod_ask_80 : decode b_Mod_ask 80 = .ok (.iadd, 1) := by decide +kernel
theorem d_Mod_ask_81 : decode b_Mod_ask 81 = .ok (.iastore, 1) := by decide +kernel
theorem d_Mod_ask_82 : decode b_Mod_ask 82 = .ok (.aload_n 0, 1) := by decide +kernel
theorem d_Mod_ask_83 : decode b_Mod_ask 83 = .ok (.getfield 83, 3) := by decide +kernel
theorem d_Mod_ask_86 : decode b_Mod_ask 86 = .ok (.iload_n 1, 1) := by decide +kernel
theorem d_Mod_ask_87 : decode b_Mod_ask 87 = .ok (.iload_n 2, 1) := by decide +kernel
theorem d_Mod_ask_88 : decode b_Mod_ask 88 = .ok (.iastore, 1) := by decide +kernel
theorem d_Mod_ask_89 : decode b_Mod_ask 89 = .ok (.iload_n 2, 1) := by decide +kernel
theorem d_Mod_ask_90 : decode b_Mod_ask 90 = .ok (.iconst 2, 1) := by decide +kernel
theorem d_Mod_ask_91 : decode b_Mod_ask 91 = .ok (.if_icmp .ne 17, 3) := by decide +kernel
theorem d_Mod_ask_94 : decode b_Mod_ask 94 = .ok (.aload_n 0, 1) := by decide +kernel
theorem d_Mod_ask_95 : decode b_Mod_ask 95 = .ok (.getfield 74, 3) := by decide +kernel
theorem d_Mod_ask_98 : decode b_Mod_ask 98 = .ok (.iload_n 1, 1) := by decide +kernel
theorem d_Mod_ask_99 : decode b_Mod_ask 99 = .ok (.iconst (-1), 1) := by decide +kernel
theorem d_Mod_ask_100 : decode b_Mod_ask 100 = .ok (.iastore, 1) := by decide +kernel
theorem d_Mod_ask_101 : decode b_Mod_ask 101 = .ok (.aload_n 0, 1) := by decide +kernel
theorem d_Mod_ask_102 : decode b_Mod_ask 102 = .ok (.getfield 77, 3) := by decide +kernel
theorem d_Mod_ask_105 : decode b_Mod_ask 105 = .ok (.iload_n 1, 1) := by decide +kernel
theorem d_Mod_ask_106 : decode b_Mod_ask 106 = .ok (.iconst 0, 1) := by decide +kernel
theorem d_Mod_ask_107 : decode b_Mod_ask 107 = .ok (.iastore, 1) := by decide +kernel
theorem d_Mod_ask_108 : decode b_Mod_ask 108 = .ok (.aload_n 0, 1) := by decide +kernel
theorem d_Mod_ask_109 : decode b_Mod_ask 109 = .ok (.iconst 0, 1) := by decide +kernel
theorem d_Mod_ask_110 : decode b_Mod_ask 110 = .ok (.iload_n 3, 1) := by decide +kernel
theorem d_Mod_ask_111 : decode b_Mod_ask 111 = .ok (.iload_n 1, 1) := by decide +kernel
theorem d_Mod_ask_112 : decode b_Mod_ask 112 = .ok (.iload_n 2, 1) := by decide +kernel
theorem d_Mod_ask_113 : decode b_Mod_ask 113 = .ok (.iload_n 2, 1) := by decide +kernel
theorem d_Mod_ask_114 : decode b_Mod_ask 114 = .ok (.ifCond .ne 7, 3) := by decide +kernel
theorem d_Mod_ask_117 : decode b_Mod_ask 117 = .ok (.iconst (-1), 1) := by decide +kernel
theorem d_Mod_ask_118 : decode b_Mod_ask 118 = .ok (.goto 5, 3) := by decide +kernel
theorem d_Mod_ask_121 : decode b_Mod_ask 121 = .ok (.iload 4, 2) := by decide +kernel
theorem d_Mod_ask_123 : decode b_Mod_ask 123 = .ok (.aload_n 0, 1) := by decide +kernel
theorem d_Mod_ask_124 : decode b_Mod_ask 124 = .ok (.getfield 80, 3) := by decide +kernel
theorem d_Mod_ask_127 : decode b_Mod_ask 127 = .ok (.iload_n 1, 1) := by decide +kernel
theorem d_Mod_ask_128 : decode b_Mod_ask 128 = .ok (.iaload, 1) := by decide +kernel
theorem d_Mod_ask_129 : decode b_Mod_ask 129 = .ok (.iload_n 2, 1) := by decide +kernel
theorem d_Mod_ask_130 : decode b_Mod_ask 130 = .ok (.iconst 2, 1) := by decide +kernel
theorem d_Mod_ask_131 : decode b_Mod_ask 131 = .ok (.if_icmp .ne 7, 3) := by decide +kernel
theorem d_Mod_ask_134 : decode b_Mod_ask 134 = .ok (.iconst 0, 1) := by decide +kernel
theorem d_Mod_ask_135 : decode b_Mod_ask 135 = .ok (.goto 5, 3) := by decide +kernel
theorem d_Mod_ask_138 : decode b_Mod_ask 138 = .ok (.iload 5, 2) := by decide +kernel
theorem d_Mod_ask_140 : decode b_Mod_ask 140 = .ok (.invokevirtual 121, 3) := by decide +kernel
theorem d_Mod_ask_143 : decode b_Mod_ask 143 = .ok (.aload_n 0, 1) := by decide +kernel
theorem d_Mod_ask_144 : decode b_Mod_ask 144 = .ok (.invokevirtual 125, 3) := by decide +kernel
theorem d_Mod_ask_147 : decode b_Mod_ask 147 = .ok (.aload_n 0, 1) := by decide +kernel
theorem d_Mod_ask_148 : decode b_Mod_ask 148 = .ok (.getfield 80, 3) := by decide +kernel
theorem d_Mod_ask_151 : decode b_Mod_ask 151 = .ok (.iload_n 1, 1) := by decide +kernel
theorem d_Mod_ask_152 : decode b_Mod_ask 152 = .ok (.iaload, 1) := by decide +kernel
theorem d_Mod_ask_153 : decode b_Mod_ask 153 = .ok (.ireturn, 1) := by decide +kernel
set_option maxRecDepth 100000 in
set_option maxHeartbeats 4000000 in
theorem c_Mod_ask_no (l : Launch) (K : Kx) (V : Vx) (A B C D : MI) (P : MP) (ms : MSt K V P) (N : List Msg) (hm : MN D N) (n : Nat) (ld sk : Int32) (hf : MF C n ld sk) (z0 z1 z2 z3 z4 : Int32) (hno : ¬ ((¬ z0 < 0 ∧ ¬ 16 ≤ z0) ∧ wn z1 0 2 ∧ (z2 = 0 ∨ z2 = 1) ∧ (¬ z3 < 0 ∧ ¬ nI n ≤ z3) ∧ wn z4 1 100000)) : Ct l K md_Mod_ask (2, 41) 0 0 [.ref (K.ad 6 0), .int z0, .int z1, .int z2, .int z3, .int z4] V (bk4 A B C D) P (MRp V A B P (some (.int 0)) C 1 N) := by
  refine ct_of [(0, .ref (K.ad 6 0)), (1, .int z0), (2, .int z1), (3, .int z2), (4, .int z3), (5, .int z4)] (by decide) (Nat.le_of_ble_eq_true rfl) (ca_r (ca_i (ca_i (ca_i (ca_i (ca_i ca_n)))))) rfl ?_
  intro X hl hX
  have h : OkX X b_Mod_ask R_Mod K := hX.1
  have hN : X.nL = 7 := hX.2.1
  have hmv := ms.1
  obtain ⟨hn32, h42, h43, h44⟩ := hf
  refine j_iload_n h d_Mod_ask_0 rfl ?_
  refine j_if_lt (tgt := 58) h d_Mod_ask_1 (by decide) (fun c1 => ?_) (fun c1 => ?_)
  · refine j_iconst (v := 0) h d_Mod_ask_58 (by decide) ?_
    refine j_istore h d_Mod_ask_59 (Nat.lt_of_lt_of_eq (m := 7) (by decide) hN.symm) ?_
    refine j_aload_n h d_Mod_ask_61 rfl ?_
    refine j_iload h d_Mod_ask_62 rfl ?_
    refine j_callV h (c_Mod_isRight _ _ _ _ _ _ _ _ ms _ (by first | exact Or.inl rfl | exact Or.inr rfl)) d_Mod_ask_64 ml_Mod_202 mv_Mod_isRight (by assumption) ⟨rfl, rfl⟩ rfl rfl (Nat.le_of_ble_eq_true rfl) (hR_of hX (by decide) (by decide)) (hf_of hX (by decide) (by decide)) ?_
    rintro _ _ _ _ ⟨rfl, rfl, rfl, rfl⟩
    refine j_if_ne (tgt := 72) h d_Mod_ask_67 (by decide) (fun c2 => absurd c2 (by decide)) (fun c2 => ?_)
    refine j_iconst (v := 0) h d_Mod_ask_70 (by decide) ?_
    exact j_iret hX d_Mod_ask_71 rfl (Nat.le_refl _) (Nat.le_refl _) ⟨rfl, rfl, rfl, _, rfl, by simp [up_rd], by first | exact MN_70 hm | exact hm | exact hm3⟩
  · refine j_iload_n h d_Mod_ask_4 rfl ?_
    refine j_bipush (v := 16) h d_Mod_ask_5 (by decide) ?_
    refine j_ic_ge (tgt := 58) h d_Mod_ask_7 (by decide) (fun c3 => ?_) (fun c3 => ?_)
    · refine j_iconst (v := 0) h d_Mod_ask_58 (by decide) ?_
      refine j_istore h d_Mod_ask_59 (Nat.lt_of_lt_of_eq (m := 7) (by decide) hN.symm) ?_
      refine j_aload_n h d_Mod_ask_61 rfl ?_
      refine j_iload h d_Mod_ask_62 rfl ?_
      refine j_callV h (c_Mod_isRight _ _ _ _ _ _ _ _ ms _ (by first | exact Or.inl rfl | exact Or.inr rfl)) d_Mod_ask_64 ml_Mod_202 mv_Mod_isRight (by assumption) ⟨rfl, rfl⟩ rfl rfl (Nat.le_of_ble_eq_true rfl) (hR_of hX (by decide) (by decide)) (hf_of hX (by decide) (by decide)) ?_
      rintro _ _ _ _ ⟨rfl, rfl, rfl, rfl⟩
      refine j_if_ne (tgt := 72) h d_Mod_ask_67 (by decide) (fun c4 => absurd c4 (by decide)) (fun c4 => ?_)
      refine j_iconst (v := 0) h d_Mod_ask_70 (by decide) ?_
      exact j_iret hX d_Mod_ask_71 rfl (Nat.le_refl _) (Nat.le_refl _) ⟨rfl, rfl, rfl, _, rfl, by simp [up_rd], by first | exact MN_70 hm | exact hm | exact hm3⟩
    · refine j_iload_n h d_Mod_ask_10 rfl ?_
      refine j_if_lt (tgt := 58) h d_Mod_ask_11 (by decide) (fun c5 => ?_) (fun c5 => ?_)
      · refine j_iconst (v := 0) h d_Mod_ask_58 (by decide) ?_
        refine j_istore h d_Mod_ask_59 (Nat.lt_of_lt_of_eq (m := 7) (by decide) hN.symm) ?_
        refine j_aload_n h d_Mod_ask_61 rfl ?_
        refine j_iload h d_Mod_ask_62 rfl ?_
        refine j_callV h (c_Mod_isRight _ _ _ _ _ _ _ _ ms _ (by first | exact Or.inl rfl | exact Or.inr rfl)) d_Mod_ask_64 ml_Mod_202 mv_Mod_isRight (by assumption) ⟨rfl, rfl⟩ rfl rfl (Nat.le_of_ble_eq_true rfl) (hR_of hX (by decide) (by decide)) (hf_of hX (by decide) (by decide)) ?_
        rintro _ _ _ _ ⟨rfl, rfl, rfl, rfl⟩
        refine j_if_ne (tgt := 72) h d_Mod_ask_67 (by decide) (fun c6 => absurd c6 (by decide)) (fun c6 => ?_)
        refine j_iconst (v := 0) h d_Mod_ask_70 (by decide) ?_
        exact j_iret hX d_Mod_ask_71 rfl (Nat.le_refl _) (Nat.le_refl _) ⟨rfl, rfl, rfl, _, rfl, by simp [up_rd], by first | exact MN_70 hm | exact hm | exact hm3⟩
      · refine j_iload_n h d_Mod_ask_14 rfl ?_
        refine j_iconst (v := 2) h d_Mod_ask_15 (by decide) ?_
        refine j_ic_gt (tgt := 58) h d_Mod_ask_16 (by decide) (fun c7 => ?_) (fun c7 => ?_)
        · refine j_iconst (v := 0) h d_Mod_ask_58 (by decide) ?_
          refine j_istore h d_Mod_ask_59 (Nat.lt_of_lt_of_eq (m := 7) (by decide) hN.symm) ?_
          refine j_aload_n h d_Mod_ask_61 rfl ?_
          refine j_iload h d_Mod_ask_62 rfl ?_
          refine j_callV h (c_Mod_isRight _ _ _ _ _ _ _ _ ms _ (by first | exact Or.inl rfl | exact Or.inr rfl)) d_Mod_ask_64 ml_Mod_202 mv_Mod_isRight (by assumption) ⟨rfl, rfl⟩ rfl rfl (Nat.le_of_ble_eq_true rfl) (hR_of hX (by decide) (by decide)) (hf_of hX (by decide) (by decide)) ?_
          rintro _ _ _ _ ⟨rfl, rfl, rfl, rfl⟩
          refine j_if_ne (tgt := 72) h d_Mod_ask_67 (by decide) (fun c8 => absurd c8 (by decide)) (fun c8 => ?_)
          refine j_iconst (v := 0) h d_Mod_ask_70 (by decide) ?_
          exact j_iret hX d_Mod_ask_71 rfl (Nat.le_refl _) (Nat.le_refl _) ⟨rfl, rfl, rfl, _, rfl, by simp [up_rd], by first | exact MN_70 hm | exact hm | exact hm3⟩
        · refine j_aload_n h d_Mod_ask_19 rfl ?_
          refine j_iload_n h d_Mod_ask_20 rfl ?_
          refine j_callV h (c_Mod_isServer _ _ _ _ _ _ _ _ ms _) d_Mod_ask_21 ml_Mod_206 mv_Mod_isServer (by assumption) ⟨rfl, rfl⟩ rfl rfl (Nat.le_of_ble_eq_true rfl) (hR_of hX (by decide) (by decide)) (hf_of hX (by decide) (by decide)) ?_
          rintro _ _ _ _ ⟨rfl, rfl, rfl, rfl⟩
          refine j_if_eq (tgt := 58) h d_Mod_ask_24 (by decide) (fun c9 => ?_) (fun c9 => ?_)
          · refine j_iconst (v := 0) h d_Mod_ask_58 (by decide) ?_
            refine j_istore h d_Mod_ask_59 (Nat.lt_of_lt_of_eq (m := 7) (by decide) hN.symm) ?_
            refine j_aload_n h d_Mod_ask_61 rfl ?_
            refine j_iload h d_Mod_ask_62 rfl ?_
            refine j_callV h (c_Mod_isRight _ _ _ _ _ _ _ _ ms _ (by first | exact Or.inl rfl | exact Or.inr rfl)) d_Mod_ask_64 ml_Mod_202 mv_Mod_isRight (by assumption) ⟨rfl, rfl⟩ rfl rfl (Nat.le_of_ble_eq_true rfl) (hR_of hX (by decide) (by decide)) (hf_of hX (by decide) (by decide)) ?_
            rintro _ _ _ _ ⟨rfl, rfl, rfl, rfl⟩
            refine j_if_ne (tgt := 72) h d_Mod_ask_67 (by decide) (fun c10 => absurd c10 (by decide)) (fun c10 => ?_)
            refine j_iconst (v := 0) h d_Mod_ask_70 (by decide) ?_
            exact j_iret hX d_Mod_ask_71 rfl (Nat.le_refl _) (Nat.le_refl _) ⟨rfl, rfl, rfl, _, rfl, by simp [up_rd], by first | exact MN_70 hm | exact hm | exact hm3⟩
          · refine j_iload h d_Mod_ask_27 rfl ?_
            refine j_if_lt (tgt := 58) h d_Mod_ask_29 (by decide) (fun c11 => ?_) (fun c11 => ?_)
            · refine j_iconst (v := 0) h d_Mod_ask_58 (by decide) ?_
              refine j_istore h d_Mod_ask_59 (Nat.lt_of_lt_of_eq (m := 7) (by decide) hN.symm) ?_
              refine j_aload_n h d_Mod_ask_61 rfl ?_
              refine j_iload h d_Mod_ask_62 rfl ?_
              refine j_callV h (c_Mod_isRight _ _ _ _ _ _ _ _ ms _ (by first | exact Or.inl rfl | exact Or.inr rfl)) d_Mod_ask_64 ml_Mod_202 mv_Mod_isRight (by assumption) ⟨rfl, rfl⟩ rfl rfl (Nat.le_of_ble_eq_true rfl) (hR_of hX (by decide) (by decide)) (hf_of hX (by decide) (by decide)) ?_
              rintro _ _ _ _ ⟨rfl, rfl, rfl, rfl⟩
              refine j_if_ne (tgt := 72) h d_Mod_ask_67 (by decide) (fun c12 => absurd c12 (by decide)) (fun c12 => ?_)
              refine j_iconst (v := 0) h d_Mod_ask_70 (by decide) ?_
              exact j_iret hX d_Mod_ask_71 rfl (Nat.le_refl _) (Nat.le_refl _) ⟨rfl, rfl, rfl, _, rfl, by simp [up_rd], by first | exact MN_70 hm | exact hm | exact hm3⟩
            · refine j_iload h d_Mod_ask_32 rfl ?_
              refine j_aload_n h d_Mod_ask_34 rfl ?_
              refine j_get2e (v := nI n) h d_Mod_ask_35 fl_Mod_98 rfl (by assumption) (by first | exact h42 | simpa [up_rd] using h42) ?_
              refine j_ic_ge (tgt := 58) h d_Mod_ask_38 (by decide) (fun c13 => ?_) (fun c13 => ?_)
              · refine j_iconst (v := 0) h d_Mod_ask_58 (by decide) ?_
                refine j_istore h d_Mod_ask_59 (Nat.lt_of_lt_of_eq (m := 7) (by decide) hN.symm) ?_
                refine j_aload_n h d_Mod_ask_61 rfl ?_
                refine j_iload h d_Mod_ask_62 rfl ?_
                refine j_callV h (c_Mod_isRight _ _ _ _ _ _ _ _ ms _ (by first | exact Or.inl rfl | exact Or.inr rfl)) d_Mod_ask_64 ml_Mod_202 mv_Mod_isRight (by assumption) ⟨rfl, rfl⟩ rfl rfl (Nat.le_of_ble_eq_true rfl) (hR_of hX (by decide) (by decide)) (hf_of hX (by decide) (by decide)) ?_
                rintro _ _ _ _ ⟨rfl, rfl, rfl, rfl⟩
                refine j_if_ne (tgt := 72) h d_Mod_ask_67 (by decide) (fun c14 => absurd c14 (by decide)) (fun c14 => ?_)
                refine j_iconst (v := 0) h d_Mod_ask_70 (by decide) ?_
                exact j_iret hX d_Mod_ask_71 rfl (Nat.le_refl _) (Nat.le_refl _) ⟨rfl, rfl, rfl, _, rfl, by simp [up_rd], by first | exact MN_70 hm | exact hm | exact hm3⟩
              · refine j_iload h d_Mod_ask_41 rfl ?_
                refine j_iconst (v := 1) h d_Mod_ask_43 (by decide) ?_
                refine j_ic_lt (tgt := 58) h d_Mod_ask_44 (by decide) (fun c15 => ?_) (fun c15 => ?_)
                · refine j_iconst (v := 0) h d_Mod_ask_58 (by decide) ?_
                  refine j_istore h d_Mod_ask_59 (Nat.lt_of_lt_of_eq (m := 7) (by decide) hN.symm) ?_
                  refine j_aload_n h d_Mod_ask_61 rfl ?_
                  refine j_iload h d_Mod_ask_62 rfl ?_
                  refine j_callV h (c_Mod_isRight _ _ _ _ _ _ _ _ ms _ (by first | exact Or.inl rfl | exact Or.inr rfl)) d_Mod_ask_64 ml_Mod_202 mv_Mod_isRight (by assumption) ⟨rfl, rfl⟩ rfl rfl (Nat.le_of_ble_eq_true rfl) (hR_of hX (by decide) (by decide)) (hf_of hX (by decide) (by decide)) ?_
                  rintro _ _ _ _ ⟨rfl, rfl, rfl, rfl⟩
                  refine j_if_ne (tgt := 72) h d_Mod_ask_67 (by decide) (fun c16 => absurd c16 (by decide)) (fun c16 => ?_)
                  refine j_iconst (v := 0) h d_Mod_ask_70 (by decide) ?_
                  exact j_iret hX d_Mod_ask_71 rfl (Nat.le_refl _) (Nat.le_refl _) ⟨rfl, rfl, rfl, _, rfl, by simp [up_rd], by first | exact MN_70 hm | exact hm | exact hm3⟩
                · refine j_iload h d_Mod_ask_47 rfl ?_
                  refine j_ldc h d_Mod_ask_49 wc_Mod_200 ?_
                  refine j_ic_gt (tgt := 58) h d_Mod_ask_51 (by decide) (fun c17 => ?_) (fun c17 => ?_)
                  · refine j_iconst (v := 0) h d_Mod_ask_58 (by decide) ?_
                    refine j_istore h d_Mod_ask_59 (Nat.lt_of_lt_of_eq (m := 7) (by decide) hN.symm) ?_
                    refine j_aload_n h d_Mod_ask_61 rfl ?_
                    refine j_iload h d_Mod_ask_62 rfl ?_
                    refine j_callV h (c_Mod_isRight _ _ _ _ _ _ _ _ ms _ (by first | exact Or.inl rfl | exact Or.inr rfl)) d_Mod_ask_64 ml_Mod_202 mv_Mod_isRight (by assumption) ⟨rfl, rfl⟩ rfl rfl (Nat.le_of_ble_eq_true rfl) (hR_of hX (by decide) (by decide)) (hf_of hX (by decide) (by decide)) ?_
                    rintro _ _ _ _ ⟨rfl, rfl, rfl, rfl⟩
                    refine j_if_ne (tgt := 72) h d_Mod_ask_67 (by decide) (fun c18 => absurd c18 (by decide)) (fun c18 => ?_)
                    refine j_iconst (v := 0) h d_Mod_ask_70 (by decide) ?_
                    exact j_iret hX d_Mod_ask_71 rfl (Nat.le_refl _) (Nat.le_refl _) ⟨rfl, rfl, rfl, _, rfl, by simp [up_rd], by first | exact MN_70 hm | exact hm | exact hm3⟩
                  · refine j_iconst (v := 1) h d_Mod_ask_54 (by decide) ?_
                    refine j_goto (tgt := 59) h d_Mod_ask_55 (by decide) ?_
                    refine j_istore h d_Mod_ask_59 (Nat.lt_of_lt_of_eq (m := 7) (by decide) hN.symm) ?_
                    refine j_aload_n h d_Mod_ask_61 rfl ?_
                    refine j_iload h d_Mod_ask_62 rfl ?_
                    exfalso
                    clear hX h hl
                    first | (simp_all [wn, b01_0, b01_1]; done) | grind [wn, b01_0, b01_1]
theorem d_Mod_send_0 : decode b_Mod_send 0 = .ok (.aload_n 0, 1) := by decide +kernel
theorem d_Mod_send_1 : decode b_Mod_send 1 = .ok (.aload_n 0, 1) := by decide +kernel
theorem d_Mod_send_2 : decode b_Mod_send 2 = .ok (.iload_n 1, 1) := by decide +kernel
theorem d_Mod_send_3 : decode b_Mod_send 3 = .ok (.invokevirtual 206, 3) := by decide +kernel
theorem d_Mod_send_6 : decode b_Mod_send 6 = .ok (.invokevirtual 202, 3) := by decide +kernel
theorem d_Mod_send_9 : decode b_Mod_send 9 = .ok (.ifCond .ne 5, 3) := by decide +kernel
theorem d_Mod_send_12 : decode b_Mod_send 12 = .ok (.iconst 0, 1) := by decide +kernel
theorem d_Mod_send_13 : decode b_Mod_send 13 = .ok (.ireturn, 1) := by decide +kernel
theorem d_Mod_send_14 : decode b_Mod_send 14 = .ok (.aload_n 0, 1) := by decide +kernel
theorem d_Mod_send_15 : decode b_Mod_send 15 = .ok (.getfield 7, 3) := by decide +kernel
theorem d_Mod_send_18 : decode b_Mod_send 18 = .ok (.iload_n 1, 1) := by decide +kernel
theorem d_Mod_send_19 : decode b_Mod_send 19 = .ok (.iaload, 1) := by decide +kernel
theorem d_Mod_send_20 : decode b_Mod_send 20 = .ok (.ifCond .ne 5, 3) := by decide +kernel
theorem d_Mod_send_23 : decode b_Mod_send 23 = .ok (.iconst (-1), 1) := by decide +kernel
theorem d_Mod_send_24 : decode b_Mod_send 24 = .ok (.ireturn, 1) := by decide +kernel
theorem d_Mod_send_25 : decode b_Mod_send 25 = .ok (.iconst 0, 1) := by decide +kernel
theorem d_Mod_send_26 : decode b_Mod_send 26 = .ok (.istore_n 2, 1) := by decide +kernel
theorem d_Mod_send_27 : decode b_Mod_send 27 = .ok (.aload_n 0, 1) := by decide +kernel
theorem d_Mod_send_28 : decode b_Mod_send 28 = .ok (.getfield 7, 3) := by decide +kernel
theorem d_Mod_send_31 : decode b_Mod_send 31 = .ok (.iload_n 1, 1) := by decide +kernel
theorem d_Mod_send_32 : decode b_Mod_send 32 = .ok (.iaload, 1) := by decide +kernel
theorem d_Mod_send_33 : decode b_Mod_send 33 = .ok (.iconst 1, 1) := by decide +kernel
theorem d_Mod_send_34 : decode b_Mod_send 34 = .ok (.if_icmp .ne 11, 3) := by decide +kernel
theorem d_Mod_send_37 : decode b_Mod_send 37 = .ok (.aload_n 0, 1) := by decide +kernel
theorem d_Mod_send_38 : decode b_Mod_send 38 = .ok (.iload_n 1, 1) := by decide +kernel
theorem d_Mod_send_39 : decode b_Mod_send 39 = .ok (.invokevirtual 209, 3) := by decide +kernel
theorem d_Mod_send_42 : decode b_Mod_send 42 = .ok (.iinc 2 1, 3) := by decide +kernel
theorem d_Mod_send_45 : decode b_Mod_send 45 = .ok (.iconst 0, 1) := by decide +kernel
theorem d_Mod_send_46 : decode b_Mod_send 46 = .ok (.istore_n 3, 1) := by decide +kernel
theorem d_Mod_send_47 : decode b_Mod_send 47 = .ok (.iload_n 3, 1) := by decide +kernel
theorem d_Mod_send_48 : decode b_Mod_send 48 = .ok (.aload_n 0, 1) := by decide +kernel
theorem d_Mod_send_49 : decode b_Mod_send 49 = .ok (.getfield 98, 3) := by decide +kernel
theorem d_Mod_send_52 : decode b_Mod_send 52 = .ok (.if_icmp .ge 32, 3) := by decide +kernel
theorem d_Mod_send_55 : decode b_Mod_send 55 = .ok (.aload_n 0, 1) := by decide +kernel
theorem d_Mod_send_56 : decode b_Mod_send 56 = .ok (.getfield 56, 3) := by decide +kernel
theorem d_Mod_send_59 : decode b_Mod_send 59 = .ok (.bipush 32, 2) := by decide +kernel
theorem d_Mod_send_61 : decode b_Mod_send 61 = .ok (.iload_n 1, 1) := by decide +kernel
theorem d_Mod_send_62 : decode b_Mod_send 62 = .ok (.imul, 1) := by decide +kernel
theorem d_Mod_send_63 : decode b_Mod_send 63 = .ok (.iload_n 3, 1) := by decide +kernel
theorem d_Mod_send_64 : decode b_Mod_send 64 = .ok (.iadd, 1) := by decide +kernel
theorem d_Mod_send_65 : decode b_Mod_send 65 = .ok (.baload, 1) := by decide +kernel
theorem d_Mod_send_66 : decode b_Mod_send 66 = .ok (.ifCond .eq 12, 3) := by decide +kernel
theorem d_Mod_send_69 : decode b_Mod_send 69 = .ok (.aload_n 0, 1) := by decide +kernel
theorem d_Mod_send_70 : decode b_Mod_send 70 = .ok (.iload_n 1, 1) := by decide +kernel
theorem d_Mod_send_71 : decode b_Mod_send 71 = .ok (.iload_n 3, 1) := by decide +kernel
theorem d_Mod_send_72 : decode b_Mod_send 72 = .ok (.invokevirtual 154, 3) := by decide +kernel
theorem d_Mod_send_75 : decode b_Mod_send 75 = .ok (.iinc 2 1, 3) := by decide +kernel
theorem d_Mod_send_78 : decode b_Mod_send 78 = .ok (.iinc 3 1, 3) := by decide +kernel
theorem d_Mod_send_81 : decode b_Mod_send 81 = .ok (.goto (-34), 3) := by decide +kernel
theorem d_Mod_send_84 : decode b_Mod_send 84 = .ok (.iload_n 2, 1) := by decide +kernel
theorem d_Mod_send_85 : decode b_Mod_send 85 = .ok (.ireturn, 1) := by decide +kernel
set_option maxRecDepth 100000 in
set_option maxHeartbeats 4000000 in
theorem c_Mod_send_no (l : Launch) (K : Kx) (V : Vx) (A B C D : MI) (P : MP) (ms : MSt K V P) (N : List Msg) (hm : MN D N) (z : Int32) (hno : ¬ (z = 0 ∨ z = 1)) : Ct l K md_Mod_send (3, 64) 0 0 [.ref (K.ad 6 0), .int z] V (bk4 A B C D) P (MRp V A B P (some (.int 0)) C 1 N) := by
  refine ct_of [(0, .ref (K.ad 6 0)), (1, .int z)] (by decide) (Nat.le_of_ble_eq_true rfl) (ca_r (ca_i ca_n)) rfl ?_
  intro X hl hX
  have h : OkX X b_Mod_send R_Mod K := hX.1
  have hN : X.nL = 4 := hX.2.1
  have hmv := ms.1
  refine j_aload_n h d_Mod_send_0 rfl ?_
  refine j_aload_n h d_Mod_send_1 rfl ?_
  refine j_iload_n h d_Mod_send_2 rfl ?_
  refine j_callV h (c_Mod_isServer _ _ _ _ _ _ _ _ ms _) d_Mod_send_3 ml_Mod_206 mv_Mod_isServer (by assumption) ⟨rfl, rfl⟩ rfl rfl (Nat.le_of_ble_eq_true rfl) (hR_of hX (by decide) (by decide)) (hf_of hX (by decide) (by decide)) ?_
  rintro _ _ _ _ ⟨rfl, rfl, rfl, rfl⟩
  refine j_int (v' := 0) (by first | exact b01_f (by clear hX h hl; first | (simp_all [wn, b01_0, b01_1]; done) | grind [wn, b01_0, b01_1]) | (clear hX h hl; first | (simp_all [wn, b01_0, b01_1]; done) | grind [wn, b01_0, b01_1])) ?_
  refine j_callV h (c_Mod_isRight _ _ _ _ _ _ _ _ ms _ (by first | exact Or.inl rfl | exact Or.inr rfl)) d_Mod_send_6 ml_Mod_202 mv_Mod_isRight (by assumption) ⟨rfl, rfl⟩ rfl rfl (Nat.le_of_ble_eq_true rfl) (hR_of hX (by decide) (by decide)) (hf_of hX (by decide) (by decide)) ?_
  rintro _ _ _ _ ⟨rfl, rfl, rfl, rfl⟩
  refine j_if_ne (tgt := 14) h d_Mod_send_9 (by decide) (fun c1 => absurd c1 (by decide)) (fun c1 => ?_)
  refine j_iconst (v := 0) h d_Mod_send_12 (by decide) ?_
  exact j_iret hX d_Mod_send_13 rfl (Nat.le_refl _) (Nat.le_refl _) ⟨rfl, rfl, rfl, _, rfl, by simp [up_rd], by first | exact MN_70 hm | exact hm | exact hm3⟩
theorem d_Mod_tidy_0 : decode b_Mod_tidy 0 = .ok (.aload_n 0, 1) := by decide +kernel
theorem d_Mod_tidy_1 : decode b_Mod_tidy 1 = .ok (.aload_n 0, 1) := by decide +kernel
theorem d_Mod_tidy_2 : decode b_Mod_tidy 2 = .ok (.iload_n 1, 1) := by decide +kernel
theorem d_Mod_tidy_3 : decode b_Mod_tidy 3 = .ok (.invokevirtual 206, 3) := by decide +kernel
theorem d_Mod_tidy_6 : decode b_Mod_tidy 6 = .ok (.invokevirtual 202, 3) := by decide +kernel
theorem d_Mod_tidy_9 : decode b_Mod_tidy 9 = .ok (.ifCond .ne 5, 3) := by decide +kernel
theorem d_Mod_tidy_12 : decode b_Mod_tidy 12 = .ok (.iconst 0, 1) := by decide +kernel
theorem d_Mod_tidy_13 : decode b_Mod_tidy 13 = .ok (.ireturn, 1) := by decide +kernel
theorem d_Mod_tidy_14 : decode b_Mod_tidy 14 = .ok (.aload_n 0, 1) := by decide +kernel
theorem d_Mod_tidy_15 : decode b_Mod_tidy 15 = .ok (.getfield 7, 3) := by decide +kernel
theorem d_Mod_tidy_18 : decode b_Mod_tidy 18 = .ok (.iload_n 1, 1) := by decide +kernel
theorem d_Mod_tidy_19 : decode b_Mod_tidy 19 = .ok (.iaload, 1) := by decide +kernel
theorem d_Mod_tidy_20 : decode b_Mod_tidy 20 = .ok (.iconst 2, 1) := by decide +kernel
theorem d_Mod_tidy_21 : decode b_Mod_tidy 21 = .ok (.if_icmp .eq 15, 3) := by decide +kernel
theorem d_Mod_tidy_24 : decode b_Mod_tidy 24 = .ok (.aload_n 0, 1) := by decide +kernel
theorem d_Mod_tidy_25 : decode b_Mod_tidy 25 = .ok (.getfield 7, 3) := by decide +kernel
theorem d_Mod_tidy_28 : decode b_Mod_tidy 28 = .ok (.iload_n 1, 1) := by decide +kernel
theorem d_Mod_tidy_29 : decode b_Mod_tidy 29 = .ok (.iaload, 1) := by decide +kernel
theorem d_Mod_tidy_30 : decode b_Mod_tidy 30 = .ok (.iconst 3, 1) := by decide +kernel
theorem d_Mod_tidy_31 : decode b_Mod_tidy 31 = .ok (.if_icmp .eq 5, 3) := by decide +kernel
theorem d_Mod_tidy_34 : decode b_Mod_tidy 34 = .ok (.iconst (-1), 1) := by decide +kernel
theorem d_Mod_tidy_35 : decode b_Mod_tidy 35 = .ok (.ireturn, 1) := by decide +kernel
theorem d_Mod_tidy_36 : decode b_Mod_tidy 36 = .ok (.iconst 0, 1) := by decide +kernel
theorem d_Mod_tidy_37 : decode b_Mod_tidy 37 = .ok (.istore_n 2, 1) := by decide +kernel
theorem d_Mod_tidy_38 : decode b_Mod_tidy 38 = .ok (.iconst 0, 1) := by decide +kernel
theorem d_Mod_tidy_39 : decode b_Mod_tidy 39 = .ok (.istore_n 3, 1) := by decide +kernel
theorem d_Mod_tidy_40 : decode b_Mod_tidy 40 = .ok (.iload_n 3, 1) := by decide +kernel
theorem d_Mod_tidy_41 : decode b_Mod_tidy 41 = .ok (.aload_n 0, 1) := by decide +kernel
theorem d_Mod_tidy_42 : decode b_Mod_tidy 42 = .ok (.getfield 98, 3) := by decide +kernel
theorem d_Mod_tidy_45 : decode b_Mod_tidy 45 = .ok (.if_icmp .ge 36, 3) := by decide +kernel
theorem d_Mod_tidy_48 : decode b_Mod_tidy 48 = .ok (.aload_n 0, 1) := by decide +kernel
theorem d_Mod_tidy_49 : decode b_Mod_tidy 49 = .ok (.iload_n 1, 1) := by decide +kernel
theorem d_Mod_tidy_50 : decode b_Mod_tidy 50 = .ok (.bipush 32, 2) := by decide +kernel
theorem d_Mod_tidy_52 : decode b_Mod_tidy 52 = .ok (.iload_n 1, 1) := by decide +kernel
theorem d_Mod_tidy_53 : decode b_Mod_tidy 53 = .ok (.imul, 1) := by decide +kernel
theorem d_Mod_tidy_54 : decode b_Mod_tidy 54 = .ok (.iload_n 3, 1) := by decide +kernel
theorem d_Mod_tidy_55 : decode b_Mod_tidy 55 = .ok (.iadd, 1) := by decide +kernel
theorem d_Mod_tidy_56 : decode b_Mod_tidy 56 = .ok (.invokevirtual 212, 3) := by decide +kernel
theorem d_Mod_tidy_59 : decode b_Mod_tidy 59 = .ok (.ifCond .eq 16, 3) := by decide +kernel
theorem d_Mod_tidy_62 : decode b_Mod_tidy 62 = .ok (.aload_n 0, 1) := by decide +kernel
theorem d_Mod_tidy_63 : decode b_Mod_tidy 63 = .ok (.bipush 32, 2) := by decide +kernel
theorem d_Mod_tidy_65 : decode b_Mod_tidy 65 = .ok (.iload_n 1, 1) := by decide +kernel
theorem d_Mod_tidy_66 : decode b_Mod_tidy 66 = .ok (.imul, 1) := by decide +kernel
theorem d_Mod_tidy_67 : decode b_Mod_tidy 67 = .ok (.iload_n 3, 1) := by decide +kernel
theorem d_Mod_tidy_68 : decode b_Mod_tidy 68 = .ok (.iadd, 1) := by decide +kernel
theorem d_Mod_tidy_69 : decode b_Mod_tidy 69 = .ok (.invokevirtual 140, 3) := by decide +kernel
theorem d_Mod_tidy_72 : decode b_Mod_tidy 72 = .ok (.iinc 2 1, 3) := by decide +kernel
theorem d_Mod_tidy_75 : decode b_Mod_tidy 75 = .ok (.iinc 3 1, 3) := by decide +kernel
theorem d_Mod_tidy_78 : decode b_Mod_tidy 78 = .ok (.goto (-38), 3) := by decide +kernel
theorem d_Mod_tidy_81 : decode b_Mod_tidy 81 = .ok (.iload_n 2, 1) := by decide +kernel
theorem d_Mod_tidy_82 : decode b_Mod_tidy 82 = .ok (.ifCond .eq 11, 3) := by decide +kernel
theorem d_Mod_tidy_85 : decode b_Mod_tidy 85 = .ok (.aload_n 0, 1) := by decide +kernel
theorem d_Mod_tidy_86 : decode b_Mod_tidy 86 = .ok (.iload_n 1, 1) := by decide +kernel
theorem d_Mod_tidy_87 : decode b_Mod_tidy 87 = .ok (.invokevirtual 147, 3) := by decide +kernel
theorem d_Mod_tidy_90 : decode b_Mod_tidy 90 = .ok (.ifCond .eq 7, 3) := by decide +kernel
theorem d_Mod_tidy_93 : decode b_Mod_tidy 93 = .ok (.iconst 1, 1) := by decide +kernel
theorem d_Mod_tidy_94 : decode b_Mod_tidy 94 = .ok (.goto 4, 3) := by decide +kernel
theorem d_Mod_tidy_97 : decode b_Mod_tidy 97 = .ok (.iconst 0, 1) := by decide +kernel
theorem d_Mod_tidy_98 : decode b_Mod_tidy 98 = .ok (.istore_n 3, 1) := by decide +kernel
theorem d_Mod_tidy_99 : decode b_Mod_tidy 99 = .ok (.iload_n 2, 1) := by decide +kernel
theorem d_Mod_tidy_100 : decode b_Mod_tidy 100 = .ok (.ireturn, 1) := by decide +kernel
set_option maxRecDepth 100000 in
set_option maxHeartbeats 4000000 in
theorem c_Mod_tidy_no (l : Launch) (K : Kx) (V : Vx) (A B C D : MI) (P : MP) (ms : MSt K V P) (N : List Msg) (hm : MN D N) (z : Int32) (hno : ¬ (z = 0 ∨ z = 1)) : Ct l K md_Mod_tidy (2, 45) 0 0 [.ref (K.ad 6 0), .int z] V (bk4 A B C D) P (MRp V A B P (some (.int 0)) C 1 N) := by
  refine ct_of [(0, .ref (K.ad 6 0)), (1, .int z)] (by decide) (Nat.le_of_ble_eq_true rfl) (ca_r (ca_i ca_n)) rfl ?_
  intro X hl hX
  have h : OkX X b_Mod_tidy R_Mod K := hX.1
  have hN : X.nL = 4 := hX.2.1
  have hmv := ms.1
  refine j_aload_n h d_Mod_tidy_0 rfl ?_
  refine j_aload_n h d_Mod_tidy_1 rfl ?_
  refine j_iload_n h d_Mod_tidy_2 rfl ?_
  refine j_callV h (c_Mod_isServer _ _ _ _ _ _ _ _ ms _) d_Mod_tidy_3 ml_Mod_206 mv_Mod_isServer (by assumption) ⟨rfl, rfl⟩ rfl rfl (Nat.le_of_ble_eq_true rfl) (hR_of hX (by decide) (by decide)) (hf_of hX (by decide) (by decide)) ?_
  rintro _ _ _ _ ⟨rfl, rfl, rfl, rfl⟩
  refine j_int (v' := 0) (by first | exact b01_f (by clear hX h hl; first | (simp_all [wn, b01_0, b01_1]; done) | grind [wn, b01_0, b01_1]) | (clear hX h hl; first | (simp_all [wn, b01_0, b01_1]; done) | grind [wn, b01_0, b01_1])) ?_
  refine j_callV h (c_Mod_isRight _ _ _ _ _ _ _ _ ms _ (by first | exact Or.inl rfl | exact Or.inr rfl)) d_Mod_tidy_6 ml_Mod_202 mv_Mod_isRight (by assumption) ⟨rfl, rfl⟩ rfl rfl (Nat.le_of_ble_eq_true rfl) (hR_of hX (by decide) (by decide)) (hf_of hX (by decide) (by decide)) ?_
  rintro _ _ _ _ ⟨rfl, rfl, rfl, rfl⟩
  refine j_if_ne (tgt := 14) h d_Mod_tidy_9 (by decide) (fun c1 => absurd c1 (by decide)) (fun c1 => ?_)
  refine j_iconst (v := 0) h d_Mod_tidy_12 (by decide) ?_
  exact j_iret hX d_Mod_tidy_13 rfl (Nat.le_refl _) (Nat.le_refl _) ⟨rfl, rfl, rfl, _, rfl, by simp [up_rd], by first | exact MN_70 hm | exact hm | exact hm3⟩
theorem d_Mod_give_0 : decode b_Mod_give 0 = .ok (.aload_n 0, 1) := by decide +kernel
theorem d_Mod_give_1 : decode b_Mod_give 1 = .ok (.aload_n 0, 1) := by decide +kernel
theorem d_Mod_give_2 : decode b_Mod_give 2 = .ok (.iload_n 1, 1) := by decide +kernel
theorem d_Mod_give_3 : decode b_Mod_give 3 = .ok (.invokevirtual 206, 3) := by decide +kernel
theorem d_Mod_give_6 : decode b_Mod_give 6 = .ok (.ifCond .eq 18, 3) := by decide +kernel
theorem d_Mod_give_9 : decode b_Mod_give 9 = .ok (.iload_n 2, 1) := by decide +kernel
theorem d_Mod_give_10 : decode b_Mod_give 10 = .ok (.iconst 1, 1) := by decide +kernel
theorem d_Mod_give_11 : decode b_Mod_give 11 = .ok (.if_icmp .lt 13, 3) := by decide +kernel
theorem d_Mod_give_14 : decode b_Mod_give 14 = .ok (.iload_n 2, 1) := by decide +kernel
theorem d_Mod_give_15 : decode b_Mod_give 15 = .ok (.bipush 32, 2) := by decide +kernel
theorem d_Mod_give_17 : decode b_Mod_give 17 = .ok (.if_icmp .gt 7, 3) := by decide +kernel
theorem d_Mod_give_20 : decode b_Mod_give 20 = .ok (.iconst 1, 1) := by decide +kernel
theorem d_Mod_give_21 : decode b_Mod_give 21 = .ok (.goto 4, 3) := by decide +kernel
theorem d_Mod_give_24 : decode b_Mod_give 24 = .ok (.iconst 0, 1) := by decide +kernel
theorem d_Mod_give_25 : decode b_Mod_give 25 = .ok (.invokevirtual 202, 3) := by decide +kernel
theorem d_Mod_give_28 : decode b_Mod_give 28 = .ok (.ifCond .ne 5, 3) := by decide +kernel
theorem d_Mod_give_31 : decode b_Mod_give 31 = .ok (.iconst 0, 1) := by decide +kernel
theorem d_Mod_give_32 : decode b_Mod_give 32 = .ok (.ireturn, 1) := by decide +kernel
theorem d_Mod_give_33 : decode b_Mod_give 33 = .ok (.aload_n 0, 1) := by decide +kernel
theorem d_Mod_give_34 : decode b_Mod_give 34 = .ok (.getfield 7, 3) := by decide +kernel
theorem d_Mod_give_37 : decode b_Mod_give 37 = .ok (.iload_n 1, 1) := by decide +kernel
theorem d_Mod_give_38 : decode b_Mod_give 38 = .ok (.iaload, 1) := by decide +kernel
theorem d_Mod_give_39 : decode b_Mod_give 39 = .ok (.iconst 2, 1) := by decide +kernel
theorem d_Mod_give_40 : decode b_Mod_give 40 = .ok (.if_icmp .eq 5, 3) := by decide +kernel
theorem d_Mod_give_43 : decode b_Mod_give 43 = .ok (.iconst (-1), 1) := by decide +kernel
theorem d_Mod_give_44 : decode b_Mod_give 44 = .ok (.ireturn, 1) := by decide +kernel
theorem d_Mod_give_45 : decode b_Mod_give 45 = .ok (.iconst 0, 1) := by decide +kernel
theorem d_Mod_give_46 : decode b_Mod_give 46 = .ok (.istore_n 3, 1) := by decide +kernel
theorem d_Mod_give_47 : decode b_Mod_give 47 = .ok (.iconst 0, 1) := by decide +kernel
theorem d_Mod_give_48 : decode b_Mod_give 48 = .ok (.istore 4, 2) := by decide +kernel
theorem d_Mod_give_50 : decode b_Mod_give 50 = .ok (.iload 4, 2) := by decide +kernel
theorem d_Mod_give_52 : decode b_Mod_give 52 = .ok (.aload_n 0, 1) := by decide +kernel
theorem d_Mod_give_53 : decode b_Mod_give 53 = .ok (.getfield 98, 3) := by decide +kernel
theorem d_Mod_give_56 : decode b_Mod_give 56 = .ok (.if_icmp .ge 57, 3) := by decide +kernel
theorem d_Mod_give_59 : decode b_Mod_give 59 = .ok (.iload_n 3, 1) := by decide +kernel
theorem d_Mod_give_60 : decode b_Mod_give 60 = .ok (.iload_n 2, 1) := by decide +kernel
theorem d_Mod_give_61 : decode b_Mod_give 61 = .ok (.if_icmp .ge 52, 3) := by decide +kernel
theorem d_Mod_give_64 : decode b_Mod_give 64 = .ok (.aload_n 0, 1) := by decide +kernel
theorem d_Mod_give_65 : decode b_Mod_give 65 = .ok (.getfield 34, 3) := by decide +kernel
theorem d_Mod_give_68 : decode b_Mod_give 68 = .ok (.bipush 32, 2) := by decide +kernel
theorem d_Mod_give_70 : decode b_Mod_give 70 = .ok (.iload_n 1, 1) := by decide +kernel
theorem d_Mod_give_71 : decode b_Mod_give 71 = .ok (.imul, 1) := by decide +kernel
theorem d_Mod_give_72 : decode b_Mod_give 72 = .ok (.iload 4, 2) := by decide +kernel
theorem d_Mod_give_74 : decode b_Mod_give 74 = .ok (.iadd, 1) := by decide +kernel
theorem d_Mod_give_75 : decode b_Mod_give 75 = .ok (.iaload, 1) := by decide +kernel
theorem d_Mod_give_76 : decode b_Mod_give 76 = .ok (.iconst 1, 1) := by decide +kernel
theorem d_Mod_give_77 : decode b_Mod_give 77 = .ok (.if_icmp .ne 30, 3) := by decide +kernel
theorem d_Mod_give_80 : decode b_Mod_give 80 = .ok (.aload_n 0, 1) := by decide +kernel
theorem d_Mod_give_81 : decode b_Mod_give 81 = .ok (.getfield 34, 3) := by decide +kernel
theorem d_Mod_give_84 : decode b_Mod_give 84 = .ok (.bipush 32, 2) := by decide +kernel
theorem d_Mod_give_86 : decode b_Mod_give 86 = .ok (.iload_n 1, 1) := by decide +kernel
theorem d_Mod_give_87 : decode b_Mod_give 87 = .ok (.imul, 1) := by decide +kernel
theorem d_Mod_give_88 : decode b_Mod_give 88 = .ok (.iload 4, 2) := by decide +kernel
theorem d_Mod_give_90 : decode b_Mod_give 90 = .ok (.iadd, 1) := by decide +kernel
theorem d_Mod_give_91 : decode b_Mod_give 91 = .ok (.iconst 4, 1) := by decide +kernel
theorem d_Mod_give_92 : decode b_Mod_give 92 = .ok (.iastore, 1) := by decide +kernel
theorem d_Mod_give_93 : decode b_Mod_give 93 = .ok (.aload_n 0, 1) := by decide +kernel
theorem d_Mod_give_94 : decode b_Mod_give 94 = .ok (.bipush 32, 2) := by decide +kernel
theorem d_Mod_give_96 : decode b_Mod_give 96 = .ok (.iload_n 1, 1) := by decide +kernel
theorem d_Mod_give_97 : decode b_Mod_give 97 = .ok (.imul, 1) := by decide +kernel
theorem d_Mod_give_98 : decode b_Mod_give 98 = .ok (.iload 4, 2) := by decide +kernel
theorem d_Mod_give_100 : decode b_Mod_give 100 = .ok (.iadd, 1) := by decide +kernel
theorem d_Mod_give_101 : decode b_Mod_give 101 = .ok (.invokevirtual 140, 3) := by decide +kernel
theorem d_Mod_give_104 : decode b_Mod_give 104 = .ok (.iinc 3 1, 3) := by decide +kernel
theorem d_Mod_give_107 : decode b_Mod_give 107 = .ok (.iinc 4 1, 3) := by decide +kernel
theorem d_Mod_give_110 : decode b_Mod_give 110 = .ok (.goto (-60), 3) := by decide +kernel
theorem d_Mod_give_113 : decode b_Mod_give 113 = .ok (.iload_n 3, 1) := by decide +kernel
theorem d_Mod_give_114 : decode b_Mod_give 114 = .ok (.ifCond .eq 11, 3) := by decide +kernel
theorem d_Mod_give_117 : decode b_Mod_give 117 = .ok (.aload_n 0, 1) := by decide +kernel
theorem d_Mod_give_118 : decode b_Mod_give 118 = .ok (.iload_n 1, 1) := by decide +kernel
theorem d_Mod_give_119 : decode b_Mod_give 119 = .ok (.invokevirtual 147, 3) := by decide +kernel
theorem d_Mod_give_122 : decode b_Mod_give 122 = .ok (.ifCond .eq 7, 3) := by decide +kernel
theorem d_Mod_give_125 : decode b_Mod_give 125 = .ok (.iconst 1, 1) := by decide +kernel
theorem d_Mod_give_126 : decode b_Mod_give 126 = .ok (.goto 4, 3) := by decide +kernel
theorem d_Mod_give_129 : decode b_Mod_give 129 = .ok (.iconst 0, 1) := by decide +kernel
theorem d_Mod_give_130 : decode b_Mod_give 130 = .ok (.istore 4, 2) := by decide +kernel
theorem d_Mod_give_132 : decode b_Mod_give 132 = .ok (.iload_n 3, 1) := by decide +kernel
theorem d_Mod_give_133 : decode b_Mod_give 133 = .ok (.ireturn, 1) := by decide +kernel
set_option maxRecDepth 100000 in
set_option maxHeartbeats 4000000 in
theorem c_Mod_give_no (l : Launch) (K : Kx) (V : Vx) (A B C D : MI) (P : MP) (ms : MSt K V P) (N : List Msg) (hm : MN D N) (z w : Int32) (hno : ¬ ((z = 0 ∨ z = 1) ∧ wn w 1 32)) : Ct l K md_Mod_give (1, 21) 0 0 [.ref (K.ad 6 0), .int z, .int w] V (bk4 A B C D) P (MRp V A B P (some (.int 0)) C 1 N) := by
  refine ct_of [(0, .ref (K.ad 6 0)), (1, .int z), (2, .int w)] (by decide) (Nat.le_of_ble_eq_true rfl) (ca_r (ca_i (ca_i ca_n))) rfl ?_
  intro X hl hX
  have h : OkX X b_Mod_give R_Mod K := hX.1
  have hN : X.nL = 5 := hX.2.1
  have hmv := ms.1
  refine j_aload_n h d_Mod_give_0 rfl ?_
  refine j_aload_n h d_Mod_give_1 rfl ?_
  refine j_iload_n h d_Mod_give_2 rfl ?_
  refine j_callV h (c_Mod_isServer _ _ _ _ _ _ _ _ ms _) d_Mod_give_3 ml_Mod_206 mv_Mod_isServer (by assumption) ⟨rfl, rfl⟩ rfl rfl (Nat.le_of_ble_eq_true rfl) (hR_of hX (by decide) (by decide)) (hf_of hX (by decide) (by decide)) ?_
  rintro _ _ _ _ ⟨rfl, rfl, rfl, rfl⟩
  refine j_if_eq (tgt := 24) h d_Mod_give_6 (by decide) (fun c1 => ?_) (fun c1 => ?_)
  · refine j_iconst (v := 0) h d_Mod_give_24 (by decide) ?_
    refine j_callV h (c_Mod_isRight _ _ _ _ _ _ _ _ ms _ (by first | exact Or.inl rfl | exact Or.inr rfl)) d_Mod_give_25 ml_Mod_202 mv_Mod_isRight (by assumption) ⟨rfl, rfl⟩ rfl rfl (Nat.le_of_ble_eq_true rfl) (hR_of hX (by decide) (by decide)) (hf_of hX (by decide) (by decide)) ?_
    rintro _ _ _ _ ⟨rfl, rfl, rfl, rfl⟩
    refine j_if_ne (tgt := 33) h d_Mod_give_28 (by decide) (fun c2 => absurd c2 (by decide)) (fun c2 => ?_)
    refine j_iconst (v := 0) h d_Mod_give_31 (by decide) ?_
    exact j_iret hX d_Mod_give_32 rfl (Nat.le_refl _) (Nat.le_refl _) ⟨rfl, rfl, rfl, _, rfl, by simp [up_rd], by first | exact MN_70 hm | exact hm | exact hm3⟩
  · refine j_iload_n h d_Mod_give_9 rfl ?_
    refine j_iconst (v := 1) h d_Mod_give_10 (by decide) ?_
    refine j_ic_lt (tgt := 24) h d_Mod_give_11 (by decide) (fun c3 => ?_) (fun c3 => ?_)
    · refine j_iconst (v := 0) h d_Mod_give_24 (by decide) ?_
      refine j_callV h (c_Mod_isRight _ _ _ _ _ _ _ _ ms _ (by first | exact Or.inl rfl | exact Or.inr rfl)) d_Mod_give_25 ml_Mod_202 mv_Mod_isRight (by assumption) ⟨rfl, rfl⟩ rfl rfl (Nat.le_of_ble_eq_true rfl) (hR_of hX (by decide) (by decide)) (hf_of hX (by decide) (by decide)) ?_
      rintro _ _ _ _ ⟨rfl, rfl, rfl, rfl⟩
      refine j_if_ne (tgt := 33) h d_Mod_give_28 (by decide) (fun c4 => absurd c4 (by decide)) (fun c4 => ?_)
      refine j_iconst (v := 0) h d_Mod_give_31 (by decide) ?_
      exact j_iret hX d_Mod_give_32 rfl (Nat.le_refl _) (Nat.le_refl _) ⟨rfl, rfl, rfl, _, rfl, by simp [up_rd], by first | exact MN_70 hm | exact hm | exact hm3⟩
    · refine j_iload_n h d_Mod_give_14 rfl ?_
      refine j_bipush (v := 32) h d_Mod_give_15 (by decide) ?_
      refine j_ic_gt (tgt := 24) h d_Mod_give_17 (by decide) (fun c5 => ?_) (fun c5 => ?_)
      · refine j_iconst (v := 0) h d_Mod_give_24 (by decide) ?_
        refine j_callV h (c_Mod_isRight _ _ _ _ _ _ _ _ ms _ (by first | exact Or.inl rfl | exact Or.inr rfl)) d_Mod_give_25 ml_Mod_202 mv_Mod_isRight (by assumption) ⟨rfl, rfl⟩ rfl rfl (Nat.le_of_ble_eq_true rfl) (hR_of hX (by decide) (by decide)) (hf_of hX (by decide) (by decide)) ?_
        rintro _ _ _ _ ⟨rfl, rfl, rfl, rfl⟩
        refine j_if_ne (tgt := 33) h d_Mod_give_28 (by decide) (fun c6 => absurd c6 (by decide)) (fun c6 => ?_)
        refine j_iconst (v := 0) h d_Mod_give_31 (by decide) ?_
        exact j_iret hX d_Mod_give_32 rfl (Nat.le_refl _) (Nat.le_refl _) ⟨rfl, rfl, rfl, _, rfl, by simp [up_rd], by first | exact MN_70 hm | exact hm | exact hm3⟩
      · refine j_iconst (v := 1) h d_Mod_give_20 (by decide) ?_
        refine j_goto (tgt := 25) h d_Mod_give_21 (by decide) ?_
        exfalso
        clear hX h hl
        first | (simp_all [wn, b01_0, b01_1]; done) | grind [wn, b01_0, b01_1]
theorem d_Mod_partnerDown_0 : decode b_Mod_partnerDown 0 = .ok (.aload_n 0, 1) := by decide +kernel
theorem d_Mod_partnerDown_1 : decode b_Mod_partnerDown 1 = .ok (.aload_n 0, 1) := by decide +kernel
theorem d_Mod_partnerDown_2 : decode b_Mod_partnerDown 2 = .ok (.iload_n 1, 1) := by decide +kernel
theorem d_Mod_partnerDown_3 : decode b_Mod_partnerDown 3 = .ok (.invokevirtual 206, 3) := by decide +kernel
theorem d_Mod_partnerDown_6 : decode b_Mod_partnerDown 6 = .ok (.invokevirtual 202, 3) := by decide +kernel
theorem d_Mod_partnerDown_9 : decode b_Mod_partnerDown 9 = .ok (.ifCond .eq 24, 3) := by decide +kernel
theorem d_Mod_partnerDown_12 : decode b_Mod_partnerDown 12 = .ok (.aload_n 0, 1) := by decide +kernel
theorem d_Mod_partnerDown_13 : decode b_Mod_partnerDown 13 = .ok (.getfield 7, 3) := by decide +kernel
theorem d_Mod_partnerDown_16 : decode b_Mod_partnerDown 16 = .ok (.iload_n 1, 1) := by decide +kernel
theorem d_Mod_partnerDown_17 : decode b_Mod_partnerDown 17 = .ok (.iaload, 1) := by decide +kernel
theorem d_Mod_partnerDown_18 : decode b_Mod_partnerDown 18 = .ok (.iconst 2, 1) := by decide +kernel
theorem d_Mod_partnerDown_19 : decode b_Mod_partnerDown 19 = .ok (.if_icmp .ne 14, 3) := by decide +kernel
theorem d_Mod_partnerDown_22 : decode b_Mod_partnerDown 22 = .ok (.aload_n 0, 1) := by decide +kernel
theorem d_Mod_partnerDown_23 : decode b_Mod_partnerDown 23 = .ok (.getfield 7, 3) := by decide +kernel
theorem d_Mod_partnerDown_26 : decode b_Mod_partnerDown 26 = .ok (.iconst 1, 1) := by decide +kernel
theorem d_Mod_partnerDown_27 : decode b_Mod_partnerDown 27 = .ok (.iload_n 1, 1) := by decide +kernel
theorem d_Mod_partnerDown_28 : decode b_Mod_partnerDown 28 = .ok (.isub, 1) := by decide +kernel
theorem d_Mod_partnerDown_29 : decode b_Mod_partnerDown 29 = .ok (.iaload, 1) := by decide +kernel
theorem d_Mod_partnerDown_30 : decode b_Mod_partnerDown 30 = .ok (.ifCond .eq 5, 3) := by decide +kernel
theorem d_Mod_partnerDown_33 : decode b_Mod_partnerDown 33 = .ok (.iconst 0, 1) := by decide +kernel
theorem d_Mod_partnerDown_34 : decode b_Mod_partnerDown 34 = .ok (.ireturn, 1) := by decide +kernel
theorem d_Mod_partnerDown_35 : decode b_Mod_partnerDown 35 = .ok (.aload_n 0, 1) := by decide +kernel
theorem d_Mod_partnerDown_36 : decode b_Mod_partnerDown 36 = .ok (.getfield 7, 3) := by decide +kernel
theorem d_Mod_partnerDown_39 : decode b_Mod_partnerDown 39 = .ok (.iload_n 1, 1) := by decide +kernel
theorem d_Mod_partnerDown_40 : decode b_Mod_partnerDown 40 = .ok (.iconst 3, 1) := by decide +kernel
theorem d_Mod_partnerDown_41 : decode b_Mod_partnerDown 41 = .ok (.iastore, 1) := by decide +kernel
theorem d_Mod_partnerDown_42 : decode b_Mod_partnerDown 42 = .ok (.aload_n 0, 1) := by decide +kernel
theorem d_Mod_partnerDown_43 : decode b_Mod_partnerDown 43 = .ok (.getfield 25, 3) := by decide +kernel
theorem d_Mod_partnerDown_46 : decode b_Mod_partnerDown 46 = .ok (.iload_n 1, 1) := by decide +kernel
theorem d_Mod_partnerDown_47 : decode b_Mod_partnerDown 47 = .ok (.aload_n 0, 1) := by decide +kernel
theorem d_Mod_partnerDown_48 : decode b_Mod_partnerDown 48 = .ok (.iload_n 1, 1) := by decide +kernel
theorem d_Mod_partnerDown_49 : decode b_Mod_partnerDown 49 = .ok (.invokevirtual 128, 3) := by decide +kernel
theorem d_Mod_partnerDown_52 : decode b_Mod_partnerDown 52 = .ok (.iastore, 1) := by decide +kernel
theorem d_Mod_partnerDown_53 : decode b_Mod_partnerDown 53 = .ok (.iconst 0, 1) := by decide +kernel
theorem d_Mod_partnerDown_54 : decode b_Mod_partnerDown 54 = .ok (.istore_n 2, 1) := by decide +kernel
theorem d_Mod_partnerDown_55 : decode b_Mod_partnerDown 55 = .ok (.iload_n 2, 1) := by decide +kernel
theorem d_Mod_partnerDown_56 : decode b_Mod_partnerDown 56 = .ok (.aload_n 0, 1) := by decide +kernel
theorem d_Mod_partnerDown_57 : decode b_Mod_partnerDown 57 = .ok (.getfield 98, 3) := by decide +kernel
theorem d_Mod_partnerDown_60 : decode b_Mod_partnerDown 60 = .ok (.if_icmp .ge 40, 3) := by decide +kernel
theorem d_Mod_partnerDown_63 : decode b_Mod_partnerDown 63 = .ok (.aload_n 0, 1) := by decide +kernel
theorem d_Mod_partnerDown_64 : decode b_Mod_partnerDown 64 = .ok (.getfield 68, 3) := by decide +kernel
theorem d_Mod_partnerDown_67 : decode b_Mod_partnerDown 67 = .ok (.bipush 32, 2) := by decide +kernel
theorem d_Mod_partnerDown_69 : decode b_Mod_partnerDown 69 = .ok (.iload_n 1, 1) := by decide +kernel
theorem d_Mod_partnerDown_70 : decode b_Mod_partnerDown 70 = .ok (.imul, 1) := by decide +kernel
theorem d_Mod_partnerDown_71 : decode b_Mod_partnerDown 71 = .ok (.iload_n 2, 1) := by decide +kernel
theorem d_Mod_partnerDown_72 : decode b_Mod_partnerDown 72 = .ok (.iadd, 1) := by decide +kernel
theorem d_Mod_partnerDown_73 : decode b_Mod_partnerDown 73 = .ok (.aload_n 0, 1) := by decide +kernel
theorem d_Mod_partnerDown_74 : decode b_Mod_partnerDown 74 = .ok (.getfield 34, 3) := by decide +kernel
theorem d_Mod_partnerDown_77 : decode b_Mod_partnerDown 77 = .ok (.bipush 32, 2) := by decide +kernel
theorem d_Mod_partnerDown_79 : decode b_Mod_partnerDown 79 = .ok (.iload_n 1, 1) := by decide +kernel
theorem d_Mod_partnerDown_80 : decode b_Mod_partnerDown 80 = .ok (.imul, 1) := by decide +kernel
theorem d_Mod_partnerDown_81 : decode b_Mod_partnerDown 81 = .ok (.iload_n 2, 1) := by decide +kernel
theorem d_Mod_partnerDown_82 : decode b_Mod_partnerDown 82 = .ok (.iadd, 1) := by decide +kernel
theorem d_Mod_partnerDown_83 : decode b_Mod_partnerDown 83 = .ok (.iaload, 1) := by decide +kernel
theorem d_Mod_partnerDown_84 : decode b_Mod_partnerDown 84 = .ok (.iconst 1, 1) := by decide +kernel
theorem d_Mod_partnerDown_85 : decode b_Mod_partnerDown 85 = .ok (.if_icmp .ne 7, 3) := by decide +kernel
theorem d_Mod_partnerDown_88 : decode b_Mod_partnerDown 88 = .ok (.iconst 1, 1) := by decide +kernel
theorem d_Mod_partnerDown_89 : decode b_Mod_partnerDown 89 = .ok (.goto 4, 3) := by decide +kernel
theorem d_Mod_partnerDown_92 : decode b_Mod_partnerDown 92 = .ok (.iconst 0, 1) := by decide +kernel
theorem d_Mod_partnerDown_93 : decode b_Mod_partnerDown 93 = .ok (.bastore, 1) := by decide +kernel
theorem d_Mod_partnerDown_94 : decode b_Mod_partnerDown 94 = .ok (.iinc 2 1, 3) := by decide +kernel
theorem d_Mod_partnerDown_97 : decode b_Mod_partnerDown 97 = .ok (.goto (-42), 3) := by decide +kernel
theorem d_Mod_partnerDown_100 : decode b_Mod_partnerDown 100 = .ok (.aload_n 0, 1) := by decide +kernel
theorem d_Mod_partnerDown_101 : decode b_Mod_partnerDown 101 = .ok (.iload_n 1, 1) := by decide +kernel
theorem d_Mod_partnerDown_102 : decode b_Mod_partnerDown 102 = .ok (.invokevirtual 147, 3) := by decide +kernel
theorem d_Mod_partnerDown_105 : decode b_Mod_partnerDown 105 = .ok (.istore_n 2, 1) := by decide +kernel
theorem d_Mod_partnerDown_106 : decode b_Mod_partnerDown 106 = .ok (.iconst 1, 1) := by decide +kernel
theorem d_Mod_partnerDown_107 : decode b_Mod_partnerDown 107 = .ok (.ireturn, 1) := by decide +kernel
set_option maxRecDepth 100000 in
set_option maxHeartbeats 4000000 in
theorem c_Mod_partnerDown_no (l : Launch) (K : Kx) (V : Vx) (A B C D : MI) (P : MP) (ms : MSt K V P) (N : List Msg) (hm : MN D N) (z : Int32) (hno : ¬ (z = 0 ∨ z = 1)) : Ct l K md_Mod_partnerDown (1, 21) 0 0 [.ref (K.ad 6 0), .int z] V (bk4 A B C D) P (MRp V A B P (some (.int 0)) C 1 N) := by
  refine ct_of [(0, .ref (K.ad 6 0)), (1, .int z)] (by decide) (Nat.le_of_ble_eq_true rfl) (ca_r (ca_i ca_n)) rfl ?_
  intro X hl hX
  have h : OkX X b_Mod_partnerDown R_Mod K := hX.1
  have hN : X.nL = 3 := hX.2.1
  have hmv := ms.1
  refine j_aload_n h d_Mod_partnerDown_0 rfl ?_
  refine j_aload_n h d_Mod_partnerDown_1 rfl ?_
  refine j_iload_n h d_Mod_partnerDown_2 rfl ?_
  refine j_callV h (c_Mod_isServer _ _ _ _ _ _ _ _ ms _) d_Mod_partnerDown_3 ml_Mod_206 mv_Mod_isServer (by assumption) ⟨rfl, rfl⟩ rfl rfl (Nat.le_of_ble_eq_true rfl) (hR_of hX (by decide) (by decide)) (hf_of hX (by decide) (by decide)) ?_
  rintro _ _ _ _ ⟨rfl, rfl, rfl, rfl⟩
  refine j_int (v' := 0) (by first | exact b01_f (by clear hX h hl; first | (simp_all [wn, b01_0, b01_1]; done) | grind [wn, b01_0, b01_1]) | (clear hX h hl; first | (simp_all [wn, b01_0, b01_1]; done) | grind [wn, b01_0, b01_1])) ?_
  refine j_callV h (c_Mod_isRight _ _ _ _ _ _ _ _ ms _ (by first | exact Or.inl rfl | exact Or.inr rfl)) d_Mod_partnerDown_6 ml_Mod_202 mv_Mod_isRight (by assumption) ⟨rfl, rfl⟩ rfl rfl (Nat.le_of_ble_eq_true rfl) (hR_of hX (by decide) (by decide)) (hf_of hX (by decide) (by decide)) ?_
  rintro _ _ _ _ ⟨rfl, rfl, rfl, rfl⟩
  refine j_if_eq (tgt := 33) h d_Mod_partnerDown_9 (by decide) (fun c1 => ?_) (fun c1 => absurd c1 (by decide))
  refine j_iconst (v := 0) h d_Mod_partnerDown_33 (by decide) ?_
  exact j_zret hX d_Mod_partnerDown_34 rfl (by first | exact Or.inl rfl | exact Or.inr rfl | exact b01_z _ | assumption) (Nat.le_refl _) (Nat.le_refl _) ⟨rfl, rfl, rfl, _, rfl, by simp [up_rd], by first | exact MN_70 hm | exact hm | exact hm3⟩
theorem d_Mod_server_0 : decode b_Mod_server 0 = .ok (.aload_n 0, 1) := by decide +kernel
theorem d_Mod_server_1 : decode b_Mod_server 1 = .ok (.aload_n 0, 1) := by decide +kernel
theorem d_Mod_server_2 : decode b_Mod_server 2 = .ok (.iload_n 1, 1) := by decide +kernel
theorem d_Mod_server_3 : decode b_Mod_server 3 = .ok (.invokevirtual 206, 3) := by decide +kernel
theorem d_Mod_server_6 : decode b_Mod_server 6 = .ok (.ifCond .eq 17, 3) := by decide +kernel
theorem d_Mod_server_9 : decode b_Mod_server 9 = .ok (.iload_n 2, 1) := by decide +kernel
theorem d_Mod_server_10 : decode b_Mod_server 10 = .ok (.ifCond .lt 13, 3) := by decide +kernel
theorem d_Mod_server_13 : decode b_Mod_server 13 = .ok (.iload_n 2, 1) := by decide +kernel
theorem d_Mod_server_14 : decode b_Mod_server 14 = .ok (.bipush 8, 2) := by decide +kernel
theorem d_Mod_server_16 : decode b_Mod_server 16 = .ok (.if_icmp .gt 7, 3) := by decide +kernel
theorem d_Mod_server_19 : decode b_Mod_server 19 = .ok (.iconst 1, 1) := by decide +kernel
theorem d_Mod_server_20 : decode b_Mod_server 20 = .ok (.goto 4, 3) := by decide +kernel
theorem d_Mod_server_23 : decode b_Mod_server 23 = .ok (.iconst 0, 1) := by decide +kernel
theorem d_Mod_server_24 : decode b_Mod_server 24 = .ok (.invokevirtual 202, 3) := by decide +kernel
theorem d_Mod_server_27 : decode b_Mod_server 27 = .ok (.ifCond .ne 5, 3) := by decide +kernel
theorem d_Mod_server_30 : decode b_Mod_server 30 = .ok (.iconst 0, 1) := by decide +kernel
theorem d_Mod_server_31 : decode b_Mod_server 31 = .ok (.ireturn, 1) := by decide +kernel
theorem d_Mod_server_32 : decode b_Mod_server 32 = .ok (.iconst 0, 1) := by decide +kernel
theorem d_Mod_server_33 : decode b_Mod_server 33 = .ok (.istore_n 3, 1) := by decide +kernel
theorem d_Mod_server_34 : decode b_Mod_server 34 = .ok (.iconst 0, 1) := by decide +kernel
theorem d_Mod_server_35 : decode b_Mod_server 35 = .ok (.istore 4, 2) := by decide +kernel
theorem d_Mod_server_37 : decode b_Mod_server 37 = .ok (.iconst 0, 1) := by decide +kernel
theorem d_Mod_server_38 : decode b_Mod_server 38 = .ok (.istore 5, 2) := by decide +kernel
theorem d_Mod_server_40 : decode b_Mod_server 40 = .ok (.iload 5, 2) := by decide +kernel
theorem d_Mod_server_42 : decode b_Mod_server 42 = .ok (.aload_n 0, 1) := by decide +kernel
theorem d_Mod_server_43 : decode b_Mod_server 43 = .ok (.getfield 98, 3) := by decide +kernel
theorem d_Mod_server_46 : decode b_Mod_server 46 = .ok (.if_icmp .ge 58, 3) := by decide +kernel
theorem d_Mod_server_49 : decode b_Mod_server 49 = .ok (.iload_n 3, 1) := by decide +kernel
theorem d_Mod_server_50 : decode b_Mod_server 50 = .ok (.aload_n 0, 1) := by decide +kernel
theorem d_Mod_server_51 : decode b_Mod_server 51 = .ok (.getfield 34, 3) := by decide +kernel
theorem d_Mod_server_54 : decode b_Mod_server 54 = .ok (.bipush 32, 2) := by decide +kernel
theorem d_Mod_server_56 : decode b_Mod_server 56 = .ok (.iload_n 1, 1) := by decide +kernel
theorem d_Mod_server_57 : decode b_Mod_server 57 = .ok (.imul, 1) := by decide +kernel
theorem d_Mod_server_58 : decode b_Mod_server 58 = .ok (.iload 5, 2) := by decide +kernel
theorem d_Mod_server_60 : decode b_Mod_server 60 = .ok (.iadd, 1) := by decide +kernel
theorem d_Mod_server_61 : decode b_Mod_server 61 = .ok (.iaload, 1) := by decide +kernel
theorem d_Mod_server_62 : decode b_Mod_server 62 = .ok (.iconst 1, 1) := by decide +kernel
theorem d_Mod_server_63 : decode b_Mod_server 63 = .ok (.if_icmp .ne 7, 3) := by decide +kernel
theorem d_Mod_server_66 : decode b_Mod_server 66 = .ok (.iconst 1, 1) := by decide +kernel
theorem d_Mod_server_67 : decode b_Mod_server 67 = .ok (.goto 4, 3) := by decide +kernel
theorem d_Mod_server_70 : decode b_Mod_server 70 = .ok (.iconst 0, 1) := by decide +kernel
theorem d_Mod_server_71 : decode b_Mod_server 71 = .ok (.iadd, 1) := by decide +kernel
theorem d_Mod_server_72 : decode b_Mod_server 72 = .ok (.istore_n 3, 1) := by decide +kernel
theorem d_Mod_server_73 : decode b_Mod_server 73 = .ok (.iload 4, 2) := by decide +kernel
theorem d_Mod_server_75 : decode b_Mod_server 75 = .ok (.aload_n 0, 1) := by decide +kernel
theorem d_Mod_server_76 : decode b_Mod_server 76 = .ok (.getfield 56, 3) := by decide +kernel
theorem d_Mod_server_79 : decode b_Mod_server 79 = .ok (.bipush 32, 2) := by decide +kernel
theorem d_Mod_server_81 : decode b_Mod_server 81 = .ok (.iload_n 1, 1) := by decide +kernel
theorem d_Mod_server_82 : decode b_Mod_server 82 = .ok (.imul, 1) := by decide +kernel
theorem d_Mod_server_83 : decode b_Mod_server 83 = .ok (.iload 5, 2) := by decide +kernel
theorem d_Mod_server_85 : decode b_Mod_server 85 = .ok (.iadd, 1) := by decide +kernel
theorem d_Mod_server_86 : decode b_Mod_server 86 = .ok (.baload, 1) := by decide +kernel
theorem d_Mod_server_87 : decode b_Mod_server 87 = .ok (.ifCond .eq 7, 3) := by decide +kernel
theorem d_Mod_server_90 : decode b_Mod_server 90 = .ok (.iconst 1, 1) := by decide +kernel
theorem d_Mod_server_91 : decode b_Mod_server 91 = .ok (.goto 4, 3) := by decide +kernel
theorem d_Mod_server_94 : decode b_Mod_server 94 = .ok (.iconst 0, 1) := by decide +kernel
theorem d_Mod_server_95 : decode b_Mod_server 95 = .ok (.iadd, 1) := by decide +kernel
theorem d_Mod_server_96 : decode b_Mod_server 96 = .ok (.istore 4, 2) := by decide +kernel
theorem d_Mod_server_98 : decode b_Mod_server 98 = .ok (.iinc 5 1, 3) := by decide +kernel
theorem d_Mod_server_101 : decode b_Mod_server 101 = .ok (.goto (-61), 3) := by decide +kernel
theorem d_Mod_server_104 : decode b_Mod_server 104 = .ok (.iload_n 2, 1) := by decide +kernel
theorem d_Mod_server_105 : decode b_Mod_server 105 = .ok (.tableswitch 93 0 7 #[47, 54, 60, 67, 74, 81, 88, 90], 47) := by decide +kernel
theorem d_Mod_server_152 : decode b_Mod_server 152 = .ok (.aload_n 0, 1) := by decide +kernel
theorem d_Mod_server_153 : decode b_Mod_server 153 = .ok (.getfield 7, 3) := by decide +kernel
theorem d_Mod_server_156 : decode b_Mod_server 156 = .ok (.iload_n 1, 1) := by decide +kernel
theorem d_Mod_server_157 : decode b_Mod_server 157 = .ok (.iaload, 1) := by decide +kernel
theorem d_Mod_server_158 : decode b_Mod_server 158 = .ok (.ireturn, 1) := by decide +kernel
theorem d_Mod_server_159 : decode b_Mod_server 159 = .ok (.aload_n 0, 1) := by decide +kernel
theorem d_Mod_server_160 : decode b_Mod_server 160 = .ok (.iload_n 1, 1) := by decide +kernel
theorem d_Mod_server_161 : decode b_Mod_server 161 = .ok (.invokevirtual 128, 3) := by decide +kernel
theorem d_Mod_server_164 : decode b_Mod_server 164 = .ok (.ireturn, 1) := by decide +kernel
theorem d_Mod_server_165 : decode b_Mod_server 165 = .ok (.aload_n 0, 1) := by decide +kernel
theorem d_Mod_server_166 : decode b_Mod_server 166 = .ok (.getfield 16, 3) := by decide +kernel
theorem d_Mod_server_169 : decode b_Mod_server 169 = .ok (.iload_n 1, 1) := by decide +kernel
theorem d_Mod_server_170 : decode b_Mod_server 170 = .ok (.iaload, 1) := by decide +kernel
theorem d_Mod_server_171 : decode b_Mod_server 171 = .ok (.ireturn, 1) := by decide +kernel
theorem d_Mod_server_172 : decode b_Mod_server 172 = .ok (.aload_n 0, 1) := by decide +kernel
theorem d_Mod_server_173 : decode b_Mod_server 173 = .ok (.getfield 22, 3) := by decide +kernel
theorem d_Mod_server_176 : decode b_Mod_server 176 = .ok (.iload_n 1, 1) := by decide +kernel
theorem d_Mod_server_177 : decode b_Mod_server 177 = .ok (.iaload, 1) := by decide +kernel
theorem d_Mod_server_178 : decode b_Mod_server 178 = .ok (.ireturn, 1) := by decide +kernel
theorem d_Mod_server_179 : decode b_Mod_server 179 = .ok (.aload_n 0, 1) := by decide +kernel
theorem d_Mod_server_180 : decode b_Mod_server 180 = .ok (.getfield 19, 3) := by decide +kernel
theorem d_Mod_server_183 : decode b_Mod_server 183 = .ok (.iload_n 1, 1) := by decide +kernel
theorem d_Mod_server_184 : decode b_Mod_server 184 = .ok (.iaload, 1) := by decide +kernel
theorem d_Mod_server_185 : decode b_Mod_server 185 = .ok (.ireturn, 1) := by decide +kernel
theorem d_Mod_server_186 : decode b_Mod_server 186 = .ok (.aload_n 0, 1) := by decide +kernel
theorem d_Mod_server_187 : decode b_Mod_server 187 = .ok (.getfield 25, 3) := by decide +kernel
theorem d_Mod_server_190 : decode b_Mod_server 190 = .ok (.iload_n 1, 1) := by decide +kernel
theorem d_Mod_server_191 : decode b_Mod_server 191 = .ok (.iaload, 1) := by decide +kernel
theorem d_Mod_server_192 : decode b_Mod_server 192 = .ok (.ireturn, 1) := by decide +kernel
theorem d_Mod_server_193 : decode b_Mod_server 193 = .ok (.iload_n 3, 1) := by decide +kernel
theorem d_Mod_server_194 : decode b_Mod_server 194 = .ok (.ireturn, 1) := by decide +kernel
theorem d_Mod_server_195 : decode b_Mod_server 195 = .ok (.iload 4, 2) := by decide +kernel
theorem d_Mod_server_197 : decode b_Mod_server 197 = .ok (.ireturn, 1) := by decide +kernel
theorem d_Mod_server_198 : decode b_Mod_server 198 = .ok (.aload_n 0, 1) := by decide +kernel
theorem d_Mod_server_199 : decode b_Mod_server 199 = .ok (.getfield 31, 3) := by decide +kernel
theorem d_Mod_server_202 : decode b_Mod_server 202 = .ok (.iload_n 1, 1) := by decide +kernel
theorem d_Mod_server_203 : decode b_Mod_server 203 = .ok (.iaload, 1) := by decide +kernel
theorem d_Mod_server_204 : decode b_Mod_server 204 = .ok (.ireturn, 1) := by decide +kernel
set_option maxRecDepth 100000 in
set_option maxHeartbeats 4000000 in
theorem c_Mod_server_no (l : Launch) (K : Kx) (V : Vx) (A B C D : MI) (P : MP) (ms : MSt K V P) (N : List Msg) (hm : MN D N) (z w : Int32) (hno : ¬ ((z = 0 ∨ z = 1) ∧ wn w 0 8)) : Ct l K md_Mod_server (1, 21) 0 0 [.ref (K.ad 6 0), .int z, .int w] V (bk4 A B C D) P (MRp V A B P (some (.int 0)) C 1 N) := by
  refine ct_of [(0, .ref (K.ad 6 0)), (1, .int z), (2, .int w)] (by decide) (Nat.le_of_ble_eq_true rfl) (ca_r (ca_i (ca_i ca_n))) rfl ?_
  intro X hl hX
  have h : OkX X b_Mod_server R_Mod K := hX.1
  have hN : X.nL = 6 := hX.2.1
  have hmv := ms.1
  refine j_aload_n h d_Mod_server_0 rfl ?_
  refine j_aload_n h d_Mod_server_1 rfl ?_
  refine j_iload_n h d_Mod_server_2 rfl ?_
  refine j_callV h (c_Mod_isServer _ _ _ _ _ _ _ _ ms _) d_Mod_server_3 ml_Mod_206 mv_Mod_isServer (by assumption) ⟨rfl, rfl⟩ rfl rfl (Nat.le_of_ble_eq_true rfl) (hR_of hX (by decide) (by decide)) (hf_of hX (by decide) (by decide)) ?_
  rintro _ _ _ _ ⟨rfl, rfl, rfl, rfl⟩
  refine j_if_eq (tgt := 23) h d_Mod_server_6 (by decide) (fun c1 => ?_) (fun c1 => ?_)
  · refine j_iconst (v := 0) h d_Mod_server_23 (by decide) ?_
    refine j_callV h (c_Mod_isRight _ _ _ _ _ _ _ _ ms _ (by first | exact Or.inl rfl | exact Or.inr rfl)) d_Mod_server_24 ml_Mod_202 mv_Mod_isRight (by assumption) ⟨rfl, rfl⟩ rfl rfl (Nat.le_of_ble_eq_true rfl) (hR_of hX (by decide) (by decide)) (hf_of hX (by decide) (by decide)) ?_
    rintro _ _ _ _ ⟨rfl, rfl, rfl, rfl⟩
    refine j_if_ne (tgt := 32) h d_Mod_server_27 (by decide) (fun c2 => absurd c2 (by decide)) (fun c2 => ?_)
    refine j_iconst (v := 0) h d_Mod_server_30 (by decide) ?_
    exact j_iret hX d_Mod_server_31 rfl (Nat.le_refl _) (Nat.le_refl _) ⟨rfl, rfl, rfl, _, rfl, by simp [up_rd], by first | exact MN_70 hm | exact hm | exact hm3⟩
  · refine j_iload_n h d_Mod_server_9 rfl ?_
    refine j_if_lt (tgt := 23) h d_Mod_server_10 (by decide) (fun c3 => ?_) (fun c3 => ?_)
    · refine j_iconst (v := 0) h d_Mod_server_23 (by decide) ?_
      refine j_callV h (c_Mod_isRight _ _ _ _ _ _ _ _ ms _ (by first | exact Or.inl rfl | exact Or.inr rfl)) d_Mod_server_24 ml_Mod_202 mv_Mod_isRight (by assumption) ⟨rfl, rfl⟩ rfl rfl (Nat.le_of_ble_eq_true rfl) (hR_of hX (by decide) (by decide)) (hf_of hX (by decide) (by decide)) ?_
      rintro _ _ _ _ ⟨rfl, rfl, rfl, rfl⟩
      refine j_if_ne (tgt := 32) h d_Mod_server_27 (by decide) (fun c4 => absurd c4 (by decide)) (fun c4 => ?_)
      refine j_iconst (v := 0) h d_Mod_server_30 (by decide) ?_
      exact j_iret hX d_Mod_server_31 rfl (Nat.le_refl _) (Nat.le_refl _) ⟨rfl, rfl, rfl, _, rfl, by simp [up_rd], by first | exact MN_70 hm | exact hm | exact hm3⟩
    · refine j_iload_n h d_Mod_server_13 rfl ?_
      refine j_bipush (v := 8) h d_Mod_server_14 (by decide) ?_
      refine j_ic_gt (tgt := 23) h d_Mod_server_16 (by decide) (fun c5 => ?_) (fun c5 => ?_)
      · refine j_iconst (v := 0) h d_Mod_server_23 (by decide) ?_
        refine j_callV h (c_Mod_isRight _ _ _ _ _ _ _ _ ms _ (by first | exact Or.inl rfl | exact Or.inr rfl)) d_Mod_server_24 ml_Mod_202 mv_Mod_isRight (by assumption) ⟨rfl, rfl⟩ rfl rfl (Nat.le_of_ble_eq_true rfl) (hR_of hX (by decide) (by decide)) (hf_of hX (by decide) (by decide)) ?_
        rintro _ _ _ _ ⟨rfl, rfl, rfl, rfl⟩
        refine j_if_ne (tgt := 32) h d_Mod_server_27 (by decide) (fun c6 => absurd c6 (by decide)) (fun c6 => ?_)
        refine j_iconst (v := 0) h d_Mod_server_30 (by decide) ?_
        exact j_iret hX d_Mod_server_31 rfl (Nat.le_refl _) (Nat.le_refl _) ⟨rfl, rfl, rfl, _, rfl, by simp [up_rd], by first | exact MN_70 hm | exact hm | exact hm3⟩
      · refine j_iconst (v := 1) h d_Mod_server_19 (by decide) ?_
        refine j_goto (tgt := 24) h d_Mod_server_20 (by decide) ?_
        exfalso
        clear hX h hl
        first | (simp_all [wn, b01_0, b01_1]; done) | grind [wn, b01_0, b01_1]
theorem d_Mod_carry_0 : decode b_Mod_carry 0 = .ok (.aload_n 0, 1) := by decide +kernel
theorem d_Mod_carry_1 : decode b_Mod_carry 1 = .ok (.aload_n 0, 1) := by decide +kernel
theorem d_Mod_carry_2 : decode b_Mod_carry 2 = .ok (.iload_n 1, 1) := by decide +kernel
theorem d_Mod_carry_3 : decode b_Mod_carry 3 = .ok (.invokevirtual 216, 3) := by decide +kernel
theorem d_Mod_carry_6 : decode b_Mod_carry 6 = .ok (.invokevirtual 202, 3) := by decide +kernel
theorem d_Mod_carry_9 : decode b_Mod_carry 9 = .ok (.ifCond .ne 5, 3) := by decide +kernel
theorem d_Mod_carry_12 : decode b_Mod_carry 12 = .ok (.iconst 0, 1) := by decide +kernel
theorem d_Mod_carry_13 : decode b_Mod_carry 13 = .ok (.ireturn, 1) := by decide +kernel
theorem d_Mod_carry_14 : decode b_Mod_carry 14 = .ok (.iconst 0, 1) := by decide +kernel
theorem d_Mod_carry_15 : decode b_Mod_carry 15 = .ok (.istore_n 2, 1) := by decide +kernel
theorem d_Mod_carry_16 : decode b_Mod_carry 16 = .ok (.iload_n 2, 1) := by decide +kernel
theorem d_Mod_carry_17 : decode b_Mod_carry 17 = .ok (.bipush 14, 2) := by decide +kernel
theorem d_Mod_carry_19 : decode b_Mod_carry 19 = .ok (.if_icmp .ge 26, 3) := by decide +kernel
theorem d_Mod_carry_22 : decode b_Mod_carry 22 = .ok (.aload_n 0, 1) := by decide +kernel
theorem d_Mod_carry_23 : decode b_Mod_carry 23 = .ok (.getfield 95, 3) := by decide +kernel
theorem d_Mod_carry_26 : decode b_Mod_carry 26 = .ok (.iload_n 2, 1) := by decide +kernel
theorem d_Mod_carry_27 : decode b_Mod_carry 27 = .ok (.aload_n 0, 1) := by decide +kernel
theorem d_Mod_carry_28 : decode b_Mod_carry 28 = .ok (.getfield 86, 3) := by decide +kernel
theorem d_Mod_carry_31 : decode b_Mod_carry 31 = .ok (.bipush 14, 2) := by decide +kernel
theorem d_Mod_carry_33 : decode b_Mod_carry 33 = .ok (.iload_n 1, 1) := by decide +kernel
theorem d_Mod_carry_34 : decode b_Mod_carry 34 = .ok (.imul, 1) := by decide +kernel
theorem d_Mod_carry_35 : decode b_Mod_carry 35 = .ok (.iload_n 2, 1) := by decide +kernel
theorem d_Mod_carry_36 : decode b_Mod_carry 36 = .ok (.iadd, 1) := by decide +kernel
theorem d_Mod_carry_37 : decode b_Mod_carry 37 = .ok (.iaload, 1) := by decide +kernel
theorem d_Mod_carry_38 : decode b_Mod_carry 38 = .ok (.iastore, 1) := by decide +kernel
theorem d_Mod_carry_39 : decode b_Mod_carry 39 = .ok (.iinc 2 1, 3) := by decide +kernel
theorem d_Mod_carry_42 : decode b_Mod_carry 42 = .ok (.goto (-26), 3) := by decide +kernel
theorem d_Mod_carry_45 : decode b_Mod_carry 45 = .ok (.aload_n 0, 1) := by decide +kernel
theorem d_Mod_carry_46 : decode b_Mod_carry 46 = .ok (.aload_n 0, 1) := by decide +kernel
theorem d_Mod_carry_47 : decode b_Mod_carry 47 = .ok (.getfield 95, 3) := by decide +kernel
theorem d_Mod_carry_50 : decode b_Mod_carry 50 = .ok (.invokevirtual 219, 3) := by decide +kernel
theorem d_Mod_carry_53 : decode b_Mod_carry 53 = .ok (.ireturn, 1) := by decide +kernel
set_option maxRecDepth 100000 in
set_option maxHeartbeats 4000000 in
theorem c_Mod_carry_no (l : Launch) (K : Kx) (V : Vx) (A B C D : MI) (P : MP) (ms : MSt K V P) (N : List Msg) (hm : MN D N) (z : Int32) (hno : ¬ (¬ z < 0 ∧ ¬ nI N.length ≤ z)) : Ct l K md_Mod_carry (6, 150) 0 0 [.ref (K.ad 6 0), .int z] V (bk4 A B C D) P (MRp V A B P (some (.int 0)) C 1 N) := by
  refine ct_of [(0, .ref (K.ad 6 0)), (1, .int z)] (by decide) (Nat.le_of_ble_eq_true rfl) (ca_r (ca_i ca_n)) rfl ?_
  intro X hl hX
  have h : OkX X b_Mod_carry R_Mod K := hX.1
  have hN : X.nL = 3 := hX.2.1
  have hmv := ms.1
  refine j_aload_n h d_Mod_carry_0 rfl ?_
  refine j_aload_n h d_Mod_carry_1 rfl ?_
  refine j_iload_n h d_Mod_carry_2 rfl ?_
  refine j_callV h (c_Mod_isPlace _ _ _ _ _ _ _ _ ms _ hm _) d_Mod_carry_3 ml_Mod_216 mv_Mod_isPlace (by assumption) ⟨rfl, rfl⟩ rfl rfl (Nat.le_of_ble_eq_true rfl) (hR_of hX (by decide) (by decide)) (hf_of hX (by decide) (by decide)) ?_
  rintro _ _ _ _ ⟨rfl, rfl, rfl, rfl⟩
  refine j_int (v' := 0) (by first | exact b01_f (by clear hX h hl; first | (simp_all [wn, b01_0, b01_1]; done) | grind [wn, b01_0, b01_1]) | (clear hX h hl; first | (simp_all [wn, b01_0, b01_1]; done) | grind [wn, b01_0, b01_1])) ?_
  refine j_callV h (c_Mod_isRight _ _ _ _ _ _ _ _ ms _ (by first | exact Or.inl rfl | exact Or.inr rfl)) d_Mod_carry_6 ml_Mod_202 mv_Mod_isRight (by assumption) ⟨rfl, rfl⟩ rfl rfl (Nat.le_of_ble_eq_true rfl) (hR_of hX (by decide) (by decide)) (hf_of hX (by decide) (by decide)) ?_
  rintro _ _ _ _ ⟨rfl, rfl, rfl, rfl⟩
  refine j_if_ne (tgt := 14) h d_Mod_carry_9 (by decide) (fun c1 => absurd c1 (by decide)) (fun c1 => ?_)
  refine j_iconst (v := 0) h d_Mod_carry_12 (by decide) ?_
  exact j_zret hX d_Mod_carry_13 rfl (by first | exact Or.inl rfl | exact Or.inr rfl | exact b01_z _ | assumption) (Nat.le_refl _) (Nat.le_refl _) ⟨rfl, rfl, rfl, _, rfl, by simp [up_rd], by first | exact MN_70 hm | exact hm | exact hm3⟩
