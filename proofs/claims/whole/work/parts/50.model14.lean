/-! the model: start, ask, carry -/
theorem up_comm {f : MI} {c i c' i' : Nat} {v v' : Int32} (h : c ≠ c') : up (up f c i v) c' i' v' = up (up f c' i' v') c i v := by
  funext a b
  simp only [up_rd]
  grind
theorem clrR_6 (s q : Nat) (v : Int32) : ∀ (k i : Nat) (A : MI), clrR s k i (up A 6 q v) = up (clrR s k i A) 6 q v := by
  intro k
  induction k with
  | zero => intro i A; rfl
  | succ k ih =>
    intro i A
    rw [clrR, clrR, up_comm (c := 6) (c' := 22) (by decide), up_comm (c := 6) (c' := 21) (by decide), ih]
theorem clrR_o (s : Nat) : ∀ (k i : Nat) (A : MI) (col q : Nat), col < 10 → clrR s k i A col q = A col q := by
  intro k
  induction k with
  | zero => intro i A col q _; rfl
  | succ k ih =>
    intro i A col q h
    rw [clrR, ih _ _ _ _ h, up_c _ _ (by omega), up_c _ _ (by omega)]
theorem wr_6 {Y : MI} {s : Nat} (h : Y 0 s = 1) : ¬ wr (up Y 6 s 0) s 0 s = 0 := by
  unfold wr
  simp [up_rd, h]
set_option maxRecDepth 100000 in
set_option maxHeartbeats 4000000 in
theorem c_Mod_start_ok (l : Launch) (K : Kx) (V : Vx) (A B C D : MI) (P : MP) (ms : MSt K V P) (N : List Msg) (hm : MN D N) (n : Nat) (ld sk : Int32) (hf : MF C n ld sk) (s : Nat) (hs : s < 2) : Ct l K md_Mod_start (3, 64) 0 0 [.ref (K.ad 6 0), .int (nI s)] V (bk4 A B C D) P (MRp V A B P (some (.int (b01 (C 0 s = 0)))) (if C 0 s = 0 then (wr (up (clrR s n 0 (up (up C 2 s (C 2 s + 1)) 0 s 1)) 6 s 0) s) else C) 0 (if C 0 s = 0 then netput (m_hello (wr (up (clrR s n 0 (up (up C 2 s (C 2 s + 1)) 0 s 1)) 6 s 0) s) s) N else N)) := by
  refine ct_of [(0, .ref (K.ad 6 0)), (1, .int (nI s))] (by decide) (Nat.le_of_ble_eq_true rfl) (ca_r (ca_i ca_n)) rfl ?_
  intro X hl hX
  have h : OkX X b_Mod_start R_Mod K := hX.1
  have hN : X.nL = 3 := hX.2.1
  have hmv := ms.1
  obtain ⟨D0, hD0⟩ : ∃ D0, D0 = up D 70 0 (if (1 : Int32) = 0 then 1 else 0) := ⟨_, rfl⟩
  have hm0 : MN D0 N := by rw [hD0]; exact MN_70 hm
  have e70 : D0 70 0 = 0 := by rw [hD0]; simp [up_rd]
  have hmD := hm
  clear hm
  obtain ⟨hn32, h42, h43, h44⟩ := hf
  have h01 := srv01 hs
  have hS : C 0 s = 0 → J X K V (bk4 A B (up (up (up C 2 s (C 2 s + 1)) 0 s 1) 6 s 0) D0) P 0 0 47 [(0, .ref (K.ad 6 0)), (1, .int (nI s))] [] := by
    intro hp
    have hL : ∀ (k j : Nat) (C1 : MI), j + k = n → C1 42 0 = nI n ∧ clrR s n 0 (up (up (up C 2 s (C 2 s + 1)) 0 s 1) 6 s 0) = clrR s k j C1 → J X K V (bk4 A B C1 D0) P 0 0 49 [(0, .ref (K.ad 6 0)), (1, .int (nI s)), (2, .int (nI j))] [] := by
      intro k
      induction k with
      | zero =>
        intro j C1 hi hv
        have hi2 : n = j := by omega
        subst hi2
        have h42 := hv.1
        refine j_iload_n h d_Mod_start_49 rfl ?_
        refine j_aload_n h d_Mod_start_50 rfl ?_
        refine j_get2e (v := nI n) h d_Mod_start_51 fl_Mod_98 rfl (by assumption) (by first | exact h42 | simpa [up_rd] using h42) ?_
        refine j_ic_ge (tgt := 87) h d_Mod_start_54 (by decide) (fun _ => ?_) (fun c => absurd (nI_le (Nat.le_refl _) (by omega)) c)
        have e9 : C1 = up (clrR s n 0 (up (up C 2 s (C 2 s + 1)) 0 s 1)) 6 s 0 := by rw [← clrR_6]; exact hv.2.symm
        subst e9
        have hlv : ¬ wr (up (clrR s n 0 (up (up C 2 s (C 2 s + 1)) 0 s 1)) 6 s 0) s 0 s = 0 := wr_6 (by rw [clrR_o _ _ _ _ _ _ (by decide)]; simp [up_rd])
        refine j_aload_n h d_Mod_start_87 rfl ?_
        refine j_iload_n h d_Mod_start_88 rfl ?_
        refine j_callV h (c_Mod_writes _ _ _ _ _ _ _ _ ms _ hs) d_Mod_start_89 ml_Mod_147 mv_Mod_writes (by assumption) ⟨rfl, rfl⟩ rfl rfl (Nat.le_of_ble_eq_true rfl) (hR_of hX (by decide) (by decide)) (hf_of hX (by decide) (by decide)) ?_
        rintro _ _ _ _ ⟨rfl, rfl, rfl, rfl⟩
        refine j_if_eq (tgt := 100) h d_Mod_start_92 (by decide) (fun c => absurd c (by rw [b01_t hlv]; decide)) (fun _ => ?_)
        refine j_aload_n h d_Mod_start_95 rfl ?_
        refine j_iload_n h d_Mod_start_96 rfl ?_
        refine j_callV h (c_Mod_sendHello _ _ _ _ _ _ _ _ ms _ hm0 _ hs) d_Mod_start_97 ml_Mod_209 mv_Mod_sendHello (by assumption) ⟨rfl, rfl⟩ rfl rfl (Nat.le_of_ble_eq_true rfl) (hR_of hX (by decide) (by decide)) (hf_of hX (by decide) (by decide)) ?_
        rintro V3 _ _ P3 ⟨rfl, rfl, rfl, D3, rfl, hq3, hm3⟩
        refine j_iconst (v := 1) h d_Mod_start_100 (by decide) ?_
        exact j_zret hX d_Mod_start_101 rfl (Or.inr rfl) (Nat.le_refl _) (Nat.le_refl _) ⟨rfl, by rw [b01_t hp], rfl, D3, by rw [if_pos hp], (hq3 70 0 (by decide)).trans e70, by rw [if_pos hp]; exact hm3⟩
      | succ k ih =>
        intro j C1 hi hv
        have hi2 : j < n := by omega
        have h42 := hv.1
        refine j_iload_n h d_Mod_start_49 rfl ?_
        refine j_aload_n h d_Mod_start_50 rfl ?_
        refine j_get2e (v := nI n) h d_Mod_start_51 fl_Mod_98 rfl (by assumption) (by first | exact h42 | simpa [up_rd] using h42) ?_
        refine j_ic_ge (tgt := 87) h d_Mod_start_54 (by decide) (fun c => absurd c (nI_ge hi2 (by omega))) (fun _ => ?_)
        refine j_aload_n h d_Mod_start_57 rfl ?_
        refine j_getR h d_Mod_start_58 fl_Mod_71 rfl (by assumption) (mP ms (a := 30) (by decide)) ?_
        refine j_bipush (v := 32) h d_Mod_start_61 (by decide) ?_
        refine j_iload_n h d_Mod_start_63 rfl ?_
        refine j_imul h d_Mod_start_64 ?_
        refine j_iload_n h d_Mod_start_65 rfl ?_
        refine j_ix32 (s := s) (a := j) h d_Mod_start_66 ?_
        refine j_iconst (v := 0) h d_Mod_start_67 (by decide) ?_
        refine m_zast2 (a := 30) (L := 64) (j := (32 * s + j)) h ms d_Mod_start_68 (by decide) rfl (by decide) rfl rfl (by omega) (by first | exact Or.inl rfl | exact Or.inr rfl | exact b01_z _ | assumption) ?_
        refine j_aload_n h d_Mod_start_69 rfl ?_
        refine j_getR h d_Mod_start_70 fl_Mod_68 rfl (by assumption) (mP ms (a := 29) (by decide)) ?_
        refine j_bipush (v := 32) h d_Mod_start_73 (by decide) ?_
        refine j_iload_n h d_Mod_start_75 rfl ?_
        refine j_imul h d_Mod_start_76 ?_
        refine j_iload_n h d_Mod_start_77 rfl ?_
        refine j_ix32 (s := s) (a := j) h d_Mod_start_78 ?_
        refine j_iconst (v := 0) h d_Mod_start_79 (by decide) ?_
        refine m_zast2 (a := 29) (L := 64) (j := (32 * s + j)) h ms d_Mod_start_80 (by decide) rfl (by decide) rfl rfl (by omega) (by first | exact Or.inl rfl | exact Or.inr rfl | exact b01_z _ | assumption) ?_
        refine j_iinc (v := nI (j + 1)) h d_Mod_start_81 rfl (nI_i j) (Nat.lt_of_lt_of_eq (m := 3) (by decide) hN.symm) ?_
        refine j_goto (tgt := 49) h d_Mod_start_84 (by decide) ?_
        refine j_lv (lv' := [(0, .ref (K.ad 6 0)), (1, .int (nI s)), (2, .int (nI (j + 1)))]) (lvs rfl (lvs rfl (lvs rfl lvs0))) ?_
        exact ih (j + 1) _ (by omega) ⟨by rw [up_c _ _ (by decide), up_c _ _ (by decide)]; exact hv.1, hv.2⟩
    refine j_iconst (v := 0) h d_Mod_start_47 (by decide) ?_
    refine j_istore_n h d_Mod_start_48 (Nat.lt_of_lt_of_eq (m := 3) (by decide) hN.symm) ?_
    refine j_lv (lv' := [(0, .ref (K.ad 6 0)), (1, .int (nI s)), (2, .int (nI 0))]) (lvs rfl (lvs rfl (lvs rfl lvs0))) ?_
    exact hL n 0 _ (by omega) ⟨h42, rfl⟩
  refine j_aload_n h d_Mod_start_0 rfl ?_
  refine j_aload_n h d_Mod_start_1 rfl ?_
  refine j_iload_n h d_Mod_start_2 rfl ?_
  refine j_callV h (c_Mod_isServer _ _ _ _ _ _ _ _ ms _) d_Mod_start_3 ml_Mod_206 mv_Mod_isServer (by assumption) ⟨rfl, rfl⟩ rfl rfl (Nat.le_of_ble_eq_true rfl) (hR_of hX (by decide) (by decide)) (hf_of hX (by decide) (by decide)) ?_
  rintro _ _ _ _ ⟨rfl, rfl, rfl, rfl⟩
  refine j_int (v' := 1) (by first | exact b01_t (by clear hX h hl; first | (simp_all [wn, b01_0, b01_1]; done) | grind [wn, b01_0, b01_1]) | (clear hX h hl; first | (simp_all [wn, b01_0, b01_1]; done) | grind [wn, b01_0, b01_1])) ?_
  refine j_callV h (c_Mod_isRight _ _ _ _ _ _ _ _ ms _ (by first | exact Or.inl rfl | exact Or.inr rfl)) d_Mod_start_6 ml_Mod_202 mv_Mod_isRight (by assumption) ⟨rfl, rfl⟩ rfl rfl (Nat.le_of_ble_eq_true rfl) (hR_of hX (by decide) (by decide)) (hf_of hX (by decide) (by decide)) ?_
  rintro _ _ _ _ ⟨rfl, rfl, rfl, rfl⟩
  rw [← hD0]
  refine j_if_eq (tgt := 21) h d_Mod_start_9 (by decide) (fun c1 => absurd c1 (by decide)) (fun c1 => ?_)
  refine j_aload_n h d_Mod_start_12 rfl ?_
  refine j_getR h d_Mod_start_13 fl_Mod_7 rfl (by assumption) (mP ms (a := 10) (by decide)) ?_
  refine j_iload_n h d_Mod_start_16 rfl ?_
  refine m_iald2 (a := 10) (L := 2) (j := s) h ms d_Mod_start_17 (by decide) rfl (by decide) rfl rfl (by omega) ?_
  refine j_if_eq (tgt := 23) h d_Mod_start_18 (by decide) (fun c2 => ?_) (fun c2 => ?_)
  · refine j_aload_n h d_Mod_start_23 rfl ?_
    refine j_getR h d_Mod_start_24 fl_Mod_28 rfl (by assumption) (mP ms (a := 16) (by decide)) ?_
    refine j_iload_n h d_Mod_start_27 rfl ?_
    refine j_iconst (v := 0) h d_Mod_start_28 (by decide) ?_
    refine m_iast2 (a := 16) (L := 2) (j := s) h ms d_Mod_start_29 (by decide) rfl (by decide) rfl rfl (by omega) ?_
    refine j_aload_n h d_Mod_start_30 rfl ?_
    refine j_getR h d_Mod_start_31 fl_Mod_16 rfl (by assumption) (mP ms (a := 12) (by decide)) ?_
    refine j_iload_n h d_Mod_start_34 rfl ?_
    refine j_dup2 h d_Mod_start_35 rfl rfl ?_
    refine m_iald2 (a := 12) (L := 2) (j := s) h ms d_Mod_start_36 (by decide) rfl (by decide) rfl rfl (by omega) ?_
    refine j_iconst (v := 1) h d_Mod_start_37 (by decide) ?_
    refine j_iadd h d_Mod_start_38 ?_
    refine m_iast2 (a := 12) (L := 2) (j := s) h ms d_Mod_start_39 (by decide) rfl (by decide) rfl rfl (by omega) ?_
    refine j_aload_n h d_Mod_start_40 rfl ?_
    refine j_getR h d_Mod_start_41 fl_Mod_7 rfl (by assumption) (mP ms (a := 10) (by decide)) ?_
    refine j_iload_n h d_Mod_start_44 rfl ?_
    refine j_iconst (v := 1) h d_Mod_start_45 (by decide) ?_
    refine m_iast2 (a := 10) (L := 2) (j := s) h ms d_Mod_start_46 (by decide) rfl (by decide) rfl rfl (by omega) ?_
    refine j_mem (C' := up (up (up C 2 s (C 2 s + 1)) 0 s 1) 6 s 0) (by funext cc ii; simp only [up_rd]; grind) ?_
    refine j_lv (lv' := [(0, .ref (K.ad 6 0)), (1, .int (nI s))]) (lvs rfl (lvs rfl lvs0)) ?_
    exact hS (by assumption)
  · refine j_iconst (v := 0) h d_Mod_start_21 (by decide) ?_
    exact j_zret hX d_Mod_start_22 rfl (by first | exact Or.inl rfl | exact Or.inr rfl | exact b01_z _ | assumption) (Nat.le_refl _) (Nat.le_refl _) ⟨rfl, by rw [b01_f (by assumption)], rfl, D0, by rw [if_neg (by assumption)], e70, by rw [if_neg (by assumption)]; exact hm0⟩
set_option maxRecDepth 100000 in
set_option maxHeartbeats 4000000 in
theorem c_Mod_ask_ok (l : Launch) (K : Kx) (V : Vx) (A B C D : MI) (P : MP) (ms : MSt K V P) (N : List Msg) (hm : MN D N) (n : Nat) (ld sk : Int32) (hf : MF C n ld sk) (c : Nat) (hc : c < 16) (k : Nat) (hk : k < 3) (s : Nat) (hs : s < 2) (a : Nat) (ha : a < n) (sec : Int32) (hsec : wn sec 1 100000) : Ct l K md_Mod_ask (2, 43) 0 0 [.ref (K.ad 6 0), .int (nI c), .int (nI k), .int (nI s), .int (nI a), .int sec] V (bk4 A B C D) P (MRp V A B P (some (.int (C 32 c + 1))) (clReq C c (nI k)) 0 (netput (m_req C c s a (nI k) sec) N)) := by
  refine ct_of [(0, .ref (K.ad 6 0)), (1, .int (nI c)), (2, .int (nI k)), (3, .int (nI s)), (4, .int (nI a)), (5, .int sec)] (by decide) (Nat.le_of_ble_eq_true rfl) (ca_r (ca_i (ca_i (ca_i (ca_i (ca_i ca_n)))))) rfl ?_
  intro X hl hX
  have h : OkX X b_Mod_ask R_Mod K := hX.1
  have hN : X.nL = 7 := hX.2.1
  have hmv := ms.1
  obtain ⟨D0, hD0⟩ : ∃ D0, D0 = up D 70 0 (if (1 : Int32) = 0 then 1 else 0) := ⟨_, rfl⟩
  have hm0 : MN D0 N := by rw [hD0]; exact MN_70 hm
  have e70 : D0 70 0 = 0 := by rw [hD0]; simp [up_rd]
  have hmD := hm
  clear hm
  obtain ⟨hn32, h42, h43, h44⟩ := hf
  have h01 := srv01 hs
  have c0 := nI_n0 (k := c) (by omega)
  have cg : ¬ (16 : Int32) ≤ nI c := fun q => absurd ((nI_leI (a := 16) (by decide) (by omega)).mp q) (by omega)
  have a0 := nI_n0 (k := a) (by omega)
  have hag := nI_ge ha (by omega)
  match k, hk with
  | 0, _ =>
    refine j_iload_n h d_Mod_ask_0 rfl ?_
    refine j_if_lt (tgt := 58) h d_Mod_ask_1 (by decide) (fun c1 => ?_) (fun c1 => ?_)
    · refine j_iconst (v := 0) h d_Mod_ask_58 (by decide) ?_
      refine j_istore h d_Mod_ask_59 (Nat.lt_of_lt_of_eq (m := 7) (by decide) hN.symm) ?_
      refine j_aload_n h d_Mod_ask_61 rfl ?_
      refine j_iload h d_Mod_ask_62 rfl ?_
      exfalso
      clear hX h hl
      first | (simp_all [wn, b01_0, b01_1]; done) | grind [wn, b01_0, b01_1]
    · refine j_iload_n h d_Mod_ask_4 rfl ?_
      refine j_bipush (v := 16) h d_Mod_ask_5 (by decide) ?_
      refine j_ic_ge (tgt := 58) h d_Mod_ask_7 (by decide) (fun c2 => ?_) (fun c2 => ?_)
      · refine j_iconst (v := 0) h d_Mod_ask_58 (by decide) ?_
        refine j_istore h d_Mod_ask_59 (Nat.lt_of_lt_of_eq (m := 7) (by decide) hN.symm) ?_
        refine j_aload_n h d_Mod_ask_61 rfl ?_
        refine j_iload h d_Mod_ask_62 rfl ?_
        exfalso
        clear hX h hl
        first | (simp_all [wn, b01_0, b01_1]; done) | grind [wn, b01_0, b01_1]
      · refine j_iload_n h d_Mod_ask_10 rfl ?_
        refine j_if_lt (tgt := 58) h d_Mod_ask_11 (by decide) (fun c3 => absurd c3 (by decide)) (fun c3 => ?_)
        refine j_iload_n h d_Mod_ask_14 rfl ?_
        refine j_iconst (v := 2) h d_Mod_ask_15 (by decide) ?_
        refine j_ic_gt (tgt := 58) h d_Mod_ask_16 (by decide) (fun c4 => absurd c4 (by decide)) (fun c4 => ?_)
        refine j_aload_n h d_Mod_ask_19 rfl ?_
        refine j_iload_n h d_Mod_ask_20 rfl ?_
        refine j_callV h (c_Mod_isServer _ _ _ _ _ _ _ _ ms _) d_Mod_ask_21 ml_Mod_206 mv_Mod_isServer (by assumption) ⟨rfl, rfl⟩ rfl rfl (Nat.le_of_ble_eq_true rfl) (hR_of hX (by decide) (by decide)) (hf_of hX (by decide) (by decide)) ?_
        rintro _ _ _ _ ⟨rfl, rfl, rfl, rfl⟩
        refine j_if_eq (tgt := 58) h d_Mod_ask_24 (by decide) (fun c5 => ?_) (fun c5 => ?_)
        · refine j_iconst (v := 0) h d_Mod_ask_58 (by decide) ?_
          refine j_istore h d_Mod_ask_59 (Nat.lt_of_lt_of_eq (m := 7) (by decide) hN.symm) ?_
          refine j_aload_n h d_Mod_ask_61 rfl ?_
          refine j_iload h d_Mod_ask_62 rfl ?_
          exfalso
          clear hX h hl
          first | (simp_all [wn, b01_0, b01_1]; done) | grind [wn, b01_0, b01_1]
        · refine j_iload h d_Mod_ask_27 rfl ?_
          refine j_if_lt (tgt := 58) h d_Mod_ask_29 (by decide) (fun c6 => ?_) (fun c6 => ?_)
          · refine j_iconst (v := 0) h d_Mod_ask_58 (by decide) ?_
            refine j_istore h d_Mod_ask_59 (Nat.lt_of_lt_of_eq (m := 7) (by decide) hN.symm) ?_
            refine j_aload_n h d_Mod_ask_61 rfl ?_
            refine j_iload h d_Mod_ask_62 rfl ?_
            exfalso
            clear hX h hl
            first | (simp_all [wn, b01_0, b01_1]; done) | grind [wn, b01_0, b01_1]
          · refine j_iload h d_Mod_ask_32 rfl ?_
            refine j_aload_n h d_Mod_ask_34 rfl ?_
            refine j_get2e (v := nI n) h d_Mod_ask_35 fl_Mod_98 rfl (by assumption) (by first | exact h42 | simpa [up_rd] using h42) ?_
            refine j_ic_ge (tgt := 58) h d_Mod_ask_38 (by decide) (fun c7 => ?_) (fun c7 => ?_)
            · refine j_iconst (v := 0) h d_Mod_ask_58 (by decide) ?_
              refine j_istore h d_Mod_ask_59 (Nat.lt_of_lt_of_eq (m := 7) (by decide) hN.symm) ?_
              refine j_aload_n h d_Mod_ask_61 rfl ?_
              refine j_iload h d_Mod_ask_62 rfl ?_
              exfalso
              clear hX h hl
              first | (simp_all [wn, b01_0, b01_1]; done) | grind [wn, b01_0, b01_1]
            · refine j_iload h d_Mod_ask_41 rfl ?_
              refine j_iconst (v := 1) h d_Mod_ask_43 (by decide) ?_
              refine j_ic_lt (tgt := 58) h d_Mod_ask_44 (by decide) (fun c8 => ?_) (fun c8 => ?_)
              · refine j_iconst (v := 0) h d_Mod_ask_58 (by decide) ?_
                refine j_istore h d_Mod_ask_59 (Nat.lt_of_lt_of_eq (m := 7) (by decide) hN.symm) ?_
                refine j_aload_n h d_Mod_ask_61 rfl ?_
                refine j_iload h d_Mod_ask_62 rfl ?_
                exfalso
                clear hX h hl
                first | (simp_all [wn, b01_0, b01_1]; done) | grind [wn, b01_0, b01_1]
              · refine j_iload h d_Mod_ask_47 rfl ?_
                refine j_ldc h d_Mod_ask_49 wc_Mod_200 ?_
                refine j_ic_gt (tgt := 58) h d_Mod_ask_51 (by decide) (fun c9 => ?_) (fun c9 => ?_)
                · refine j_iconst (v := 0) h d_Mod_ask_58 (by decide) ?_
                  refine j_istore h d_Mod_ask_59 (Nat.lt_of_lt_of_eq (m := 7) (by decide) hN.symm) ?_
                  refine j_aload_n h d_Mod_ask_61 rfl ?_
                  refine j_iload h d_Mod_ask_62 rfl ?_
                  exfalso
                  clear hX h hl
                  first | (simp_all [wn, b01_0, b01_1]; done) | grind [wn, b01_0, b01_1]
                · refine j_iconst (v := 1) h d_Mod_ask_54 (by decide) ?_
                  refine j_goto (tgt := 59) h d_Mod_ask_55 (by decide) ?_
                  refine j_istore h d_Mod_ask_59 (Nat.lt_of_lt_of_eq (m := 7) (by decide) hN.symm) ?_
                  refine j_aload_n h d_Mod_ask_61 rfl ?_
                  refine j_iload h d_Mod_ask_62 rfl ?_
                  refine j_callV h (c_Mod_isRight _ _ _ _ _ _ _ _ ms _ (by first | exact Or.inl rfl | exact Or.inr rfl)) d_Mod_ask_64 ml_Mod_202 mv_Mod_isRight (by assumption) ⟨rfl, rfl⟩ rfl rfl (Nat.le_of_ble_eq_true rfl) (hR_of hX (by decide) (by decide)) (hf_of hX (by decide) (by decide)) ?_
                  rintro _ _ _ _ ⟨rfl, rfl, rfl, rfl⟩
                  rw [← hD0]
                  refine j_if_ne (tgt := 72) h d_Mod_ask_67 (by decide) (fun c10 => ?_) (fun c10 => absurd c10 (by decide))
                  refine j_aload_n h d_Mod_ask_72 rfl ?_
                  refine j_getR h d_Mod_ask_73 fl_Mod_80 rfl (by assumption) (mP ms (a := 33) (by decide)) ?_
                  refine j_iload_n h d_Mod_ask_76 rfl ?_
                  refine j_dup2 h d_Mod_ask_77 rfl rfl ?_
                  refine m_iald2 (a := 33) (L := 16) (j := c) h ms d_Mod_ask_78 (by decide) rfl (by decide) rfl rfl (by omega) ?_
                  refine j_iconst (v := 1) h d_Mod_ask_79 (by decide) ?_
                  refine j_iadd h d_Mod_ask_80 ?_
                  refine m_iast2 (a := 33) (L := 16) (j := c) h ms d_Mod_ask_81 (by decide) rfl (by decide) rfl rfl (by omega) ?_
                  refine j_aload_n h d_Mod_ask_82 rfl ?_
                  refine j_getR h d_Mod_ask_83 fl_Mod_83 rfl (by assumption) (mP ms (a := 34) (by decide)) ?_
                  refine j_iload_n h d_Mod_ask_86 rfl ?_
                  refine j_iload_n h d_Mod_ask_87 rfl ?_
                  refine m_iast2 (a := 34) (L := 16) (j := c) h ms d_Mod_ask_88 (by decide) rfl (by decide) rfl rfl (by omega) ?_
                  refine j_iload_n h d_Mod_ask_89 rfl ?_
                  refine j_iconst (v := 2) h d_Mod_ask_90 (by decide) ?_
                  refine j_ic_ne (tgt := 108) h d_Mod_ask_91 (by decide) (fun c11 => ?_) (fun c11 => absurd c11 (by decide))
                  refine j_aload_n h d_Mod_ask_108 rfl ?_
                  refine j_iconst (v := 0) h d_Mod_ask_109 (by decide) ?_
                  refine j_iload_n h d_Mod_ask_110 rfl ?_
                  refine j_iload_n h d_Mod_ask_111 rfl ?_
                  refine j_iload_n h d_Mod_ask_112 rfl ?_
                  refine j_iload_n h d_Mod_ask_113 rfl ?_
                  refine j_if_ne (tgt := 121) h d_Mod_ask_114 (by decide) (fun c12 => absurd c12 (by decide)) (fun c12 => ?_)
                  refine j_iconst (v := -1) h d_Mod_ask_117 (by decide) ?_
                  refine j_goto (tgt := 123) h d_Mod_ask_118 (by decide) ?_
                  refine j_aload_n h d_Mod_ask_123 rfl ?_
                  refine j_getR h d_Mod_ask_124 fl_Mod_80 rfl (by assumption) (mP ms (a := 33) (by decide)) ?_
                  refine j_iload_n h d_Mod_ask_127 rfl ?_
                  refine m_iald2 (a := 33) (L := 16) (j := c) h ms d_Mod_ask_128 (by decide) rfl (by decide) rfl rfl (by omega) ?_
                  refine j_iload_n h d_Mod_ask_129 rfl ?_
                  refine j_iconst (v := 2) h d_Mod_ask_130 (by decide) ?_
                  refine j_ic_ne (tgt := 138) h d_Mod_ask_131 (by decide) (fun c13 => ?_) (fun c13 => absurd c13 (by decide))
                  refine j_iload h d_Mod_ask_138 rfl ?_
                  refine j_callV h (c_Mod_say _ _ _ _ _ _ _ _ ms _ _ _ _ _ _ _) d_Mod_ask_140 ml_Mod_121 mv_Mod_say (by assumption) ⟨rfl, rfl⟩ rfl rfl (Nat.le_of_ble_eq_true rfl) (hR_of hX (by decide) (by decide)) (hf_of hX (by decide) (by decide)) ?_
                  rintro V2 _ _ P2 ⟨rfl, rfl, rfl, D1, rfl, hk1, hx1⟩
                  have hm1 := MN_k hm0 hk1
                  refine j_aload_n h d_Mod_ask_143 rfl ?_
                  refine j_callV h (c_Mod_put _ _ _ _ _ _ _ _ ms _ hm1 (m_req C c s a (nI 0) sec) (by intro w hw; rw [hx1 w hw]; unfold m_req; simp [up_rd, nI])) d_Mod_ask_144 ml_Mod_125 mv_Mod_put (by assumption) ⟨rfl, rfl⟩ rfl rfl (Nat.le_of_ble_eq_true rfl) (hR_of hX (by decide) (by decide)) (hf_of hX (by decide) (by decide)) ?_
                  rintro V3 _ _ P3 ⟨rfl, rfl, rfl, D3, rfl, hq3, hm3⟩
                  refine j_aload_n h d_Mod_ask_147 rfl ?_
                  refine j_getR h d_Mod_ask_148 fl_Mod_80 rfl (by assumption) (mP ms (a := 33) (by decide)) ?_
                  refine j_iload_n h d_Mod_ask_151 rfl ?_
                  refine m_iald2 (a := 33) (L := 16) (j := c) h ms d_Mod_ask_152 (by decide) rfl (by decide) rfl rfl (by omega) ?_
                  exact j_iret hX d_Mod_ask_153 rfl (Nat.le_refl _) (Nat.le_refl _) ⟨rfl, by simp [up_rd], rfl, D3, bkC (by intro cc ii; simp only [clReq, up_rd]; first | rfl | (simp [nI]; done) | grind), (hq3 70 0 (by decide) (by decide)).trans ((hk1 70 0 (by decide)).trans e70), hm3⟩
  | 1, _ =>
    refine j_iload_n h d_Mod_ask_0 rfl ?_
    refine j_if_lt (tgt := 58) h d_Mod_ask_1 (by decide) (fun c1 => ?_) (fun c1 => ?_)
    · refine j_iconst (v := 0) h d_Mod_ask_58 (by decide) ?_
      refine j_istore h d_Mod_ask_59 (Nat.lt_of_lt_of_eq (m := 7) (by decide) hN.symm) ?_
      refine j_aload_n h d_Mod_ask_61 rfl ?_
      refine j_iload h d_Mod_ask_62 rfl ?_
      exfalso
      clear hX h hl
      first | (simp_all [wn, b01_0, b01_1]; done) | grind [wn, b01_0, b01_1]
    · refine j_iload_n h d_Mod_ask_4 rfl ?_
      refine j_bipush (v := 16) h d_Mod_ask_5 (by decide) ?_
      refine j_ic_ge (tgt := 58) h d_Mod_ask_7 (by decide) (fun c2 => ?_) (fun c2 => ?_)
      · refine j_iconst (v := 0) h d_Mod_ask_58 (by decide) ?_
        refine j_istore h d_Mod_ask_59 (Nat.lt_of_lt_of_eq (m := 7) (by decide) hN.symm) ?_
        refine j_aload_n h d_Mod_ask_61 rfl ?_
        refine j_iload h d_Mod_ask_62 rfl ?_
        exfalso
        clear hX h hl
        first | (simp_all [wn, b01_0, b01_1]; done) | grind [wn, b01_0, b01_1]
      · refine j_iload_n h d_Mod_ask_10 rfl ?_
        refine j_if_lt (tgt := 58) h d_Mod_ask_11 (by decide) (fun c3 => absurd c3 (by decide)) (fun c3 => ?_)
        refine j_iload_n h d_Mod_ask_14 rfl ?_
        refine j_iconst (v := 2) h d_Mod_ask_15 (by decide) ?_
        refine j_ic_gt (tgt := 58) h d_Mod_ask_16 (by decide) (fun c4 => absurd c4 (by decide)) (fun c4 => ?_)
        refine j_aload_n h d_Mod_ask_19 rfl ?_
        refine j_iload_n h d_Mod_ask_20 rfl ?_
        refine j_callV h (c_Mod_isServer _ _ _ _ _ _ _ _ ms _) d_Mod_ask_21 ml_Mod_206 mv_Mod_isServer (by assumption) ⟨rfl, rfl⟩ rfl rfl (Nat.le_of_ble_eq_true rfl) (hR_of hX (by decide) (by decide)) (hf_of hX (by decide) (by decide)) ?_
        rintro _ _ _ _ ⟨rfl, rfl, rfl, rfl⟩
        refine j_if_eq (tgt := 58) h d_Mod_ask_24 (by decide) (fun c5 => ?_) (fun c5 => ?_)
        · refine j_iconst (v := 0) h d_Mod_ask_58 (by decide) ?_
          refine j_istore h d_Mod_ask_59 (Nat.lt_of_lt_of_eq (m := 7) (by decide) hN.symm) ?_
          refine j_aload_n h d_Mod_ask_61 rfl ?_
          refine j_iload h d_Mod_ask_62 rfl ?_
          exfalso
          clear hX h hl
          first | (simp_all [wn, b01_0, b01_1]; done) | grind [wn, b01_0, b01_1]
        · refine j_iload h d_Mod_ask_27 rfl ?_
          refine j_if_lt (tgt := 58) h d_Mod_ask_29 (by decide) (fun c6 => ?_) (fun c6 => ?_)
          · refine j_iconst (v := 0) h d_Mod_ask_58 (by decide) ?_
            refine j_istore h d_Mod_ask_59 (Nat.lt_of_lt_of_eq (m := 7) (by decide) hN.symm) ?_
            refine j_aload_n h d_Mod_ask_61 rfl ?_
            refine j_iload h d_Mod_ask_62 rfl ?_
            exfalso
            clear hX h hl
            first | (simp_all [wn, b01_0, b01_1]; done) | grind [wn, b01_0, b01_1]
          · refine j_iload h d_Mod_ask_32 rfl ?_
            refine j_aload_n h d_Mod_ask_34 rfl ?_
            refine j_get2e (v := nI n) h d_Mod_ask_35 fl_Mod_98 rfl (by assumption) (by first | exact h42 | simpa [up_rd] using h42) ?_
            refine j_ic_ge (tgt := 58) h d_Mod_ask_38 (by decide) (fun c7 => ?_) (fun c7 => ?_)
            · refine j_iconst (v := 0) h d_Mod_ask_58 (by decide) ?_
              refine j_istore h d_Mod_ask_59 (Nat.lt_of_lt_of_eq (m := 7) (by decide) hN.symm) ?_
              refine j_aload_n h d_Mod_ask_61 rfl ?_
              refine j_iload h d_Mod_ask_62 rfl ?_
              exfalso
              clear hX h hl
              first | (simp_all [wn, b01_0, b01_1]; done) | grind [wn, b01_0, b01_1]
            · refine j_iload h d_Mod_ask_41 rfl ?_
              refine j_iconst (v := 1) h d_Mod_ask_43 (by decide) ?_
              refine j_ic_lt (tgt := 58) h d_Mod_ask_44 (by decide) (fun c8 => ?_) (fun c8 => ?_)
              · refine j_iconst (v := 0) h d_Mod_ask_58 (by decide) ?_
                refine j_istore h d_Mod_ask_59 (Nat.lt_of_lt_of_eq (m := 7) (by decide) hN.symm) ?_
                refine j_aload_n h d_Mod_ask_61 rfl ?_
                refine j_iload h d_Mod_ask_62 rfl ?_
                exfalso
                clear hX h hl
                first | (simp_all [wn, b01_0, b01_1]; done) | grind [wn, b01_0, b01_1]
              · refine j_iload h d_Mod_ask_47 rfl ?_
                refine j_ldc h d_Mod_ask_49 wc_Mod_200 ?_
                refine j_ic_gt (tgt := 58) h d_Mod_ask_51 (by decide) (fun c9 => ?_) (fun c9 => ?_)
                · refine j_iconst (v := 0) h d_Mod_ask_58 (by decide) ?_
                  refine j_istore h d_Mod_ask_59 (Nat.lt_of_lt_of_eq (m := 7) (by decide) hN.symm) ?_
                  refine j_aload_n h d_Mod_ask_61 rfl ?_
                  refine j_iload h d_Mod_ask_62 rfl ?_
                  exfalso
                  clear hX h hl
                  first | (simp_all [wn, b01_0, b01_1]; done) | grind [wn, b01_0, b01_1]
                · refine j_iconst (v := 1) h d_Mod_ask_54 (by decide) ?_
                  refine j_goto (tgt := 59) h d_Mod_ask_55 (by decide) ?_
                  refine j_istore h d_Mod_ask_59 (Nat.lt_of_lt_of_eq (m := 7) (by decide) hN.symm) ?_
                  refine j_aload_n h d_Mod_ask_61 rfl ?_
                  refine j_iload h d_Mod_ask_62 rfl ?_
                  refine j_callV h (c_Mod_isRight _ _ _ _ _ _ _ _ ms _ (by first | exact Or.inl rfl | exact Or.inr rfl)) d_Mod_ask_64 ml_Mod_202 mv_Mod_isRight (by assumption) ⟨rfl, rfl⟩ rfl rfl (Nat.le_of_ble_eq_true rfl) (hR_of hX (by decide) (by decide)) (hf_of hX (by decide) (by decide)) ?_
                  rintro _ _ _ _ ⟨rfl, rfl, rfl, rfl⟩
                  rw [← hD0]
                  refine j_if_ne (tgt := 72) h d_Mod_ask_67 (by decide) (fun c10 => ?_) (fun c10 => absurd c10 (by decide))
                  refine j_aload_n h d_Mod_ask_72 rfl ?_
                  refine j_getR h d_Mod_ask_73 fl_Mod_80 rfl (by assumption) (mP ms (a := 33) (by decide)) ?_
                  refine j_iload_n h d_Mod_ask_76 rfl ?_
                  refine j_dup2 h d_Mod_ask_77 rfl rfl ?_
                  refine m_iald2 (a := 33) (L := 16) (j := c) h ms d_Mod_ask_78 (by decide) rfl (by decide) rfl rfl (by omega) ?_
                  refine j_iconst (v := 1) h d_Mod_ask_79 (by decide) ?_
                  refine j_iadd h d_Mod_ask_80 ?_
                  refine m_iast2 (a := 33) (L := 16) (j := c) h ms d_Mod_ask_81 (by decide) rfl (by decide) rfl rfl (by omega) ?_
                  refine j_aload_n h d_Mod_ask_82 rfl ?_
                  refine j_getR h d_Mod_ask_83 fl_Mod_83 rfl (by assumption) (mP ms (a := 34) (by decide)) ?_
                  refine j_iload_n h d_Mod_ask_86 rfl ?_
                  refine j_iload_n h d_Mod_ask_87 rfl ?_
                  refine m_iast2 (a := 34) (L := 16) (j := c) h ms d_Mod_ask_88 (by decide) rfl (by decide) rfl rfl (by omega) ?_
                  refine j_iload_n h d_Mod_ask_89 rfl ?_
                  refine j_iconst (v := 2) h d_Mod_ask_90 (by decide) ?_
                  refine j_ic_ne (tgt := 108) h d_Mod_ask_91 (by decide) (fun c11 => ?_) (fun c11 => absurd c11 (by decide))
                  refine j_aload_n h d_Mod_ask_108 rfl ?_
                  refine j_iconst (v := 0) h d_Mod_ask_109 (by decide) ?_
                  refine j_iload_n h d_Mod_ask_110 rfl ?_
                  refine j_iload_n h d_Mod_ask_111 rfl ?_
                  refine j_iload_n h d_Mod_ask_112 rfl ?_
                  refine j_iload_n h d_Mod_ask_113 rfl ?_
                  refine j_if_ne (tgt := 121) h d_Mod_ask_114 (by decide) (fun c12 => ?_) (fun c12 => absurd c12 (by decide))
                  refine j_iload h d_Mod_ask_121 rfl ?_
                  refine j_aload_n h d_Mod_ask_123 rfl ?_
                  refine j_getR h d_Mod_ask_124 fl_Mod_80 rfl (by assumption) (mP ms (a := 33) (by decide)) ?_
                  refine j_iload_n h d_Mod_ask_127 rfl ?_
                  refine m_iald2 (a := 33) (L := 16) (j := c) h ms d_Mod_ask_128 (by decide) rfl (by decide) rfl rfl (by omega) ?_
                  refine j_iload_n h d_Mod_ask_129 rfl ?_
                  refine j_iconst (v := 2) h d_Mod_ask_130 (by decide) ?_
                  refine j_ic_ne (tgt := 138) h d_Mod_ask_131 (by decide) (fun c13 => ?_) (fun c13 => absurd c13 (by decide))
                  refine j_iload h d_Mod_ask_138 rfl ?_
                  refine j_callV h (c_Mod_say _ _ _ _ _ _ _ _ ms _ _ _ _ _ _ _) d_Mod_ask_140 ml_Mod_121 mv_Mod_say (by assumption) ⟨rfl, rfl⟩ rfl rfl (Nat.le_of_ble_eq_true rfl) (hR_of hX (by decide) (by decide)) (hf_of hX (by decide) (by decide)) ?_
                  rintro V2 _ _ P2 ⟨rfl, rfl, rfl, D1, rfl, hk1, hx1⟩
                  have hm1 := MN_k hm0 hk1
                  refine j_aload_n h d_Mod_ask_143 rfl ?_
                  refine j_callV h (c_Mod_put _ _ _ _ _ _ _ _ ms _ hm1 (m_req C c s a (nI 1) sec) (by intro w hw; rw [hx1 w hw]; unfold m_req; simp [up_rd, nI])) d_Mod_ask_144 ml_Mod_125 mv_Mod_put (by assumption) ⟨rfl, rfl⟩ rfl rfl (Nat.le_of_ble_eq_true rfl) (hR_of hX (by decide) (by decide)) (hf_of hX (by decide) (by decide)) ?_
                  rintro V3 _ _ P3 ⟨rfl, rfl, rfl, D3, rfl, hq3, hm3⟩
                  refine j_aload_n h d_Mod_ask_147 rfl ?_
                  refine j_getR h d_Mod_ask_148 fl_Mod_80 rfl (by assumption) (mP ms (a := 33) (by decide)) ?_
                  refine j_iload_n h d_Mod_ask_151 rfl ?_
                  refine m_iald2 (a := 33) (L := 16) (j := c) h ms d_Mod_ask_152 (by decide) rfl (by decide) rfl rfl (by omega) ?_
                  exact j_iret hX d_Mod_ask_153 rfl (Nat.le_refl _) (Nat.le_refl _) ⟨rfl, by simp [up_rd], rfl, D3, bkC (by intro cc ii; simp only [clReq, up_rd]; first | rfl | (simp [nI]; done) | grind), (hq3 70 0 (by decide) (by decide)).trans ((hk1 70 0 (by decide)).trans e70), hm3⟩
  | 2, _ =>
    refine j_iload_n h d_Mod_ask_0 rfl ?_
    refine j_if_lt (tgt := 58) h d_Mod_ask_1 (by decide) (fun c1 => ?_) (fun c1 => ?_)
    · refine j_iconst (v := 0) h d_Mod_ask_58 (by decide) ?_
      refine j_istore h d_Mod_ask_59 (Nat.lt_of_lt_of_eq (m := 7) (by decide) hN.symm) ?_
      refine j_aload_n h d_Mod_ask_61 rfl ?_
      refine j_iload h d_Mod_ask_62 rfl ?_
      exfalso
      clear hX h hl
      first | (simp_all [wn, b01_0, b01_1]; done) | grind [wn, b01_0, b01_1]
    · refine j_iload_n h d_Mod_ask_4 rfl ?_
      refine j_bipush (v := 16) h d_Mod_ask_5 (by decide) ?_
      refine j_ic_ge (tgt := 58) h d_Mod_ask_7 (by decide) (fun c2 => ?_) (fun c2 => ?_)
      · refine j_iconst (v := 0) h d_Mod_ask_58 (by decide) ?_
        refine j_istore h d_Mod_ask_59 (Nat.lt_of_lt_of_eq (m := 7) (by decide) hN.symm) ?_
        refine j_aload_n h d_Mod_ask_61 rfl ?_
        refine j_iload h d_Mod_ask_62 rfl ?_
        exfalso
        clear hX h hl
        first | (simp_all [wn, b01_0, b01_1]; done) | grind [wn, b01_0, b01_1]
      · refine j_iload_n h d_Mod_ask_10 rfl ?_
        refine j_if_lt (tgt := 58) h d_Mod_ask_11 (by decide) (fun c3 => absurd c3 (by decide)) (fun c3 => ?_)
        refine j_iload_n h d_Mod_ask_14 rfl ?_
        refine j_iconst (v := 2) h d_Mod_ask_15 (by decide) ?_
        refine j_ic_gt (tgt := 58) h d_Mod_ask_16 (by decide) (fun c4 => absurd c4 (by decide)) (fun c4 => ?_)
        refine j_aload_n h d_Mod_ask_19 rfl ?_
        refine j_iload_n h d_Mod_ask_20 rfl ?_
        refine j_callV h (c_Mod_isServer _ _ _ _ _ _ _ _ ms _) d_Mod_ask_21 ml_Mod_206 mv_Mod_isServer (by assumption) ⟨rfl, rfl⟩ rfl rfl (Nat.le_of_ble_eq_true rfl) (hR_of hX (by decide) (by decide)) (hf_of hX (by decide) (by decide)) ?_
        rintro _ _ _ _ ⟨rfl, rfl, rfl, rfl⟩
        refine j_if_eq (tgt := 58) h d_Mod_ask_24 (by decide) (fun c5 => ?_) (fun c5 => ?_)
        · refine j_iconst (v := 0) h d_Mod_ask_58 (by decide) ?_
          refine j_istore h d_Mod_ask_59 (Nat.lt_of_lt_of_eq (m := 7) (by decide) hN.symm) ?_
          refine j_aload_n h d_Mod_ask_61 rfl ?_
          refine j_iload h d_Mod_ask_62 rfl ?_
          exfalso
          clear hX h hl
          first | (simp_all [wn, b01_0, b01_1]; done) | grind [wn, b01_0, b01_1]
        · refine j_iload h d_Mod_ask_27 rfl ?_
          refine j_if_lt (tgt := 58) h d_Mod_ask_29 (by decide) (fun c6 => ?_) (fun c6 => ?_)
          · refine j_iconst (v := 0) h d_Mod_ask_58 (by decide) ?_
            refine j_istore h d_Mod_ask_59 (Nat.lt_of_lt_of_eq (m := 7) (by decide) hN.symm) ?_
            refine j_aload_n h d_Mod_ask_61 rfl ?_
            refine j_iload h d_Mod_ask_62 rfl ?_
            exfalso
            clear hX h hl
            first | (simp_all [wn, b01_0, b01_1]; done) | grind [wn, b01_0, b01_1]
          · refine j_iload h d_Mod_ask_32 rfl ?_
            refine j_aload_n h d_Mod_ask_34 rfl ?_
            refine j_get2e (v := nI n) h d_Mod_ask_35 fl_Mod_98 rfl (by assumption) (by first | exact h42 | simpa [up_rd] using h42) ?_
            refine j_ic_ge (tgt := 58) h d_Mod_ask_38 (by decide) (fun c7 => ?_) (fun c7 => ?_)
            · refine j_iconst (v := 0) h d_Mod_ask_58 (by decide) ?_
              refine j_istore h d_Mod_ask_59 (Nat.lt_of_lt_of_eq (m := 7) (by decide) hN.symm) ?_
              refine j_aload_n h d_Mod_ask_61 rfl ?_
              refine j_iload h d_Mod_ask_62 rfl ?_
              exfalso
              clear hX h hl
              first | (simp_all [wn, b01_0, b01_1]; done) | grind [wn, b01_0, b01_1]
            · refine j_iload h d_Mod_ask_41 rfl ?_
              refine j_iconst (v := 1) h d_Mod_ask_43 (by decide) ?_
              refine j_ic_lt (tgt := 58) h d_Mod_ask_44 (by decide) (fun c8 => ?_) (fun c8 => ?_)
              · refine j_iconst (v := 0) h d_Mod_ask_58 (by decide) ?_
                refine j_istore h d_Mod_ask_59 (Nat.lt_of_lt_of_eq (m := 7) (by decide) hN.symm) ?_
                refine j_aload_n h d_Mod_ask_61 rfl ?_
                refine j_iload h d_Mod_ask_62 rfl ?_
                exfalso
                clear hX h hl
                first | (simp_all [wn, b01_0, b01_1]; done) | grind [wn, b01_0, b01_1]
              · refine j_iload h d_Mod_ask_47 rfl ?_
                refine j_ldc h d_Mod_ask_49 wc_Mod_200 ?_
                refine j_ic_gt (tgt := 58) h d_Mod_ask_51 (by decide) (fun c9 => ?_) (fun c9 => ?_)
                · refine j_iconst (v := 0) h d_Mod_ask_58 (by decide) ?_
                  refine j_istore h d_Mod_ask_59 (Nat.lt_of_lt_of_eq (m := 7) (by decide) hN.symm) ?_
                  refine j_aload_n h d_Mod_ask_61 rfl ?_
                  refine j_iload h d_Mod_ask_62 rfl ?_
                  exfalso
                  clear hX h hl
                  first | (simp_all [wn, b01_0, b01_1]; done) | grind [wn, b01_0, b01_1]
                · refine j_iconst (v := 1) h d_Mod_ask_54 (by decide) ?_
                  refine j_goto (tgt := 59) h d_Mod_ask_55 (by decide) ?_
                  refine j_istore h d_Mod_ask_59 (Nat.lt_of_lt_of_eq (m := 7) (by decide) hN.symm) ?_
                  refine j_aload_n h d_Mod_ask_61 rfl ?_
                  refine j_iload h d_Mod_ask_62 rfl ?_
                  refine j_callV h (c_Mod_isRight _ _ _ _ _ _ _ _ ms _ (by first | exact Or.inl rfl | exact Or.inr rfl)) d_Mod_ask_64 ml_Mod_202 mv_Mod_isRight (by assumption) ⟨rfl, rfl⟩ rfl rfl (Nat.le_of_ble_eq_true rfl) (hR_of hX (by decide) (by decide)) (hf_of hX (by decide) (by decide)) ?_
                  rintro _ _ _ _ ⟨rfl, rfl, rfl, rfl⟩
                  rw [← hD0]
                  refine j_if_ne (tgt := 72) h d_Mod_ask_67 (by decide) (fun c10 => ?_) (fun c10 => absurd c10 (by decide))
                  refine j_aload_n h d_Mod_ask_72 rfl ?_
                  refine j_getR h d_Mod_ask_73 fl_Mod_80 rfl (by assumption) (mP ms (a := 33) (by decide)) ?_
                  refine j_iload_n h d_Mod_ask_76 rfl ?_
                  refine j_dup2 h d_Mod_ask_77 rfl rfl ?_
                  refine m_iald2 (a := 33) (L := 16) (j := c) h ms d_Mod_ask_78 (by decide) rfl (by decide) rfl rfl (by omega) ?_
                  refine j_iconst (v := 1) h d_Mod_ask_79 (by decide) ?_
                  refine j_iadd h d_Mod_ask_80 ?_
                  refine m_iast2 (a := 33) (L := 16) (j := c) h ms d_Mod_ask_81 (by decide) rfl (by decide) rfl rfl (by omega) ?_
                  refine j_aload_n h d_Mod_ask_82 rfl ?_
                  refine j_getR h d_Mod_ask_83 fl_Mod_83 rfl (by assumption) (mP ms (a := 34) (by decide)) ?_
                  refine j_iload_n h d_Mod_ask_86 rfl ?_
                  refine j_iload_n h d_Mod_ask_87 rfl ?_
                  refine m_iast2 (a := 34) (L := 16) (j := c) h ms d_Mod_ask_88 (by decide) rfl (by decide) rfl rfl (by omega) ?_
                  refine j_iload_n h d_Mod_ask_89 rfl ?_
                  refine j_iconst (v := 2) h d_Mod_ask_90 (by decide) ?_
                  refine j_ic_ne (tgt := 108) h d_Mod_ask_91 (by decide) (fun c11 => absurd c11 (by decide)) (fun c11 => ?_)
                  refine j_aload_n h d_Mod_ask_94 rfl ?_
                  refine j_getR h d_Mod_ask_95 fl_Mod_74 rfl (by assumption) (mP ms (a := 31) (by decide)) ?_
                  refine j_iload_n h d_Mod_ask_98 rfl ?_
                  refine j_iconst (v := -1) h d_Mod_ask_99 (by decide) ?_
                  refine m_iast2 (a := 31) (L := 16) (j := c) h ms d_Mod_ask_100 (by decide) rfl (by decide) rfl rfl (by omega) ?_
                  refine j_aload_n h d_Mod_ask_101 rfl ?_
                  refine j_getR h d_Mod_ask_102 fl_Mod_77 rfl (by assumption) (mP ms (a := 32) (by decide)) ?_
                  refine j_iload_n h d_Mod_ask_105 rfl ?_
                  refine j_iconst (v := 0) h d_Mod_ask_106 (by decide) ?_
                  refine m_iast2 (a := 32) (L := 16) (j := c) h ms d_Mod_ask_107 (by decide) rfl (by decide) rfl rfl (by omega) ?_
                  refine j_aload_n h d_Mod_ask_108 rfl ?_
                  refine j_iconst (v := 0) h d_Mod_ask_109 (by decide) ?_
                  refine j_iload_n h d_Mod_ask_110 rfl ?_
                  refine j_iload_n h d_Mod_ask_111 rfl ?_
                  refine j_iload_n h d_Mod_ask_112 rfl ?_
                  refine j_iload_n h d_Mod_ask_113 rfl ?_
                  refine j_if_ne (tgt := 121) h d_Mod_ask_114 (by decide) (fun c12 => ?_) (fun c12 => absurd c12 (by decide))
                  refine j_iload h d_Mod_ask_121 rfl ?_
                  refine j_aload_n h d_Mod_ask_123 rfl ?_
                  refine j_getR h d_Mod_ask_124 fl_Mod_80 rfl (by assumption) (mP ms (a := 33) (by decide)) ?_
                  refine j_iload_n h d_Mod_ask_127 rfl ?_
                  refine m_iald2 (a := 33) (L := 16) (j := c) h ms d_Mod_ask_128 (by decide) rfl (by decide) rfl rfl (by omega) ?_
                  refine j_iload_n h d_Mod_ask_129 rfl ?_
                  refine j_iconst (v := 2) h d_Mod_ask_130 (by decide) ?_
                  refine j_ic_ne (tgt := 138) h d_Mod_ask_131 (by decide) (fun c13 => absurd c13 (by decide)) (fun c13 => ?_)
                  refine j_iconst (v := 0) h d_Mod_ask_134 (by decide) ?_
                  refine j_goto (tgt := 140) h d_Mod_ask_135 (by decide) ?_
                  refine j_callV h (c_Mod_say _ _ _ _ _ _ _ _ ms _ _ _ _ _ _ _) d_Mod_ask_140 ml_Mod_121 mv_Mod_say (by assumption) ⟨rfl, rfl⟩ rfl rfl (Nat.le_of_ble_eq_true rfl) (hR_of hX (by decide) (by decide)) (hf_of hX (by decide) (by decide)) ?_
                  rintro V2 _ _ P2 ⟨rfl, rfl, rfl, D1, rfl, hk1, hx1⟩
                  have hm1 := MN_k hm0 hk1
                  refine j_aload_n h d_Mod_ask_143 rfl ?_
                  refine j_callV h (c_Mod_put _ _ _ _ _ _ _ _ ms _ hm1 (m_req C c s a (nI 2) sec) (by intro w hw; rw [hx1 w hw]; unfold m_req; simp [up_rd, nI])) d_Mod_ask_144 ml_Mod_125 mv_Mod_put (by assumption) ⟨rfl, rfl⟩ rfl rfl (Nat.le_of_ble_eq_true rfl) (hR_of hX (by decide) (by decide)) (hf_of hX (by decide) (by decide)) ?_
                  rintro V3 _ _ P3 ⟨rfl, rfl, rfl, D3, rfl, hq3, hm3⟩
                  refine j_aload_n h d_Mod_ask_147 rfl ?_
                  refine j_getR h d_Mod_ask_148 fl_Mod_80 rfl (by assumption) (mP ms (a := 33) (by decide)) ?_
                  refine j_iload_n h d_Mod_ask_151 rfl ?_
                  refine m_iald2 (a := 33) (L := 16) (j := c) h ms d_Mod_ask_152 (by decide) rfl (by decide) rfl rfl (by omega) ?_
                  exact j_iret hX d_Mod_ask_153 rfl (Nat.le_refl _) (Nat.le_refl _) ⟨rfl, by simp [up_rd], rfl, D3, bkC (by intro cc ii; simp only [clReq, up_rd]; first | rfl | (simp [nI]; done) | grind), (hq3 70 0 (by decide) (by decide)).trans ((hk1 70 0 (by decide)).trans e70), hm3⟩
  | k + 3, hq => exact absurd hq (by omega)
def rdg (D : MI) (x : Msg) (j : Nat) (D1 : MI) : Prop := (∀ w, w < j → D1 75 w = x w) ∧ ∀ col i, col ≠ 75 → D1 col i = D col i
theorem rdg_s {D D1 : MI} {x : Msg} {j : Nat} {v : Int32} (h : rdg D x j D1) (e : v = x j) : rdg D x (j + 1) (up D1 75 j v) := by
  refine ⟨fun w hw => ?_, fun col i hc => ?_⟩
  · rw [up_rd]
    split
    · rename_i q; rw [q.2]; exact e
    · exact h.1 w (by omega)
  · rw [up_c _ _ hc]
    exact h.2 col i hc
theorem MN_r {D D' : MI} {N : List Msg} (h : MN D N) (e : ∀ col i, col ≠ 75 → D' col i = D col i) : MN D' N := ⟨h.1, (e _ _ (by decide)).trans h.2.1, fun k x hk w hw => (e _ _ (by decide)).trans (h.2.2 k x hk w hw)⟩
set_option maxRecDepth 100000 in
set_option maxHeartbeats 4000000 in
theorem c_Mod_carry_ok (l : Launch) (K : Kx) (V : Vx) (A B C D : MI) (P : MP) (ms : MSt K V P) (N : List Msg) (hm : MN D N) (n : Nat) (ld sk : Int32) (hf : MF C n ld sk) (k : Nat) (x : Msg) (hx : N[k]? = some x) (hvm : NV n N) (hk3 : x 0 = 3 → x 3 = 0 ∨ x 3 = 1 ∨ x 3 = 2 ∨ x 3 = 3 ∨ x 3 = 4) (h30 : ∀ c, c < 16 → (C 30 c = -1 ↔ C 30 c < 0)) (z0 : Zc C) : Ct l K md_Mod_carry (6, 150) 0 0 [.ref (K.ad 6 0), .int (nI k)] V (bk4 A B C D) P (MRp V A B P (some (.int (dlR C x))) (dlA C n ld x) 0 (dlN C n ld x N)) := by
  refine ct_of [(0, .ref (K.ad 6 0)), (1, .int (nI k))] (by decide) (Nat.le_of_ble_eq_true rfl) (ca_r (ca_i ca_n)) rfl ?_
  intro X hl hX
  have h : OkX X b_Mod_carry R_Mod K := hX.1
  have hN : X.nL = 3 := hX.2.1
  have hmv := ms.1
  obtain ⟨D0, hD0⟩ : ∃ D0, D0 = up D 70 0 (if (1 : Int32) = 0 then 1 else 0) := ⟨_, rfl⟩
  have hm0 : MN D0 N := by rw [hD0]; exact MN_70 hm
  have e70 : D0 70 0 = 0 := by rw [hD0]; simp [up_rd]
  have hmD := hm
  clear hm
  have hk : k < N.length := (List.getElem?_eq_some_iff.mp hx).1
  have hm3 := hm0.1
  have hkk0 := nI_n0 (k := k) (by omega)
  have hkk1 := nI_ge hk (by omega)
  have hL : ∀ (kq j : Nat) (D1 : MI), j + kq = 14 → rdg D0 x j D1 → J X K V (bk4 A B C D1) P 0 0 16 [(0, .ref (K.ad 6 0)), (1, .int (nI k)), (2, .int (nI j))] [] := by
    intro kq
    induction kq with
    | zero =>
      intro j D1 hi hv
      have hi2 : 14 = j := by omega
      subst hi2
      refine j_iload_n h d_Mod_carry_16 rfl ?_
      refine j_bipush (v := 14) h d_Mod_carry_17 (by decide) ?_
      refine j_ic_ge (tgt := 45) h d_Mod_carry_19 (by decide) (fun _ => ?_) (fun c => absurd (nI_le (Nat.le_refl _) (by decide)) c)
      refine j_aload_n h d_Mod_carry_45 rfl ?_
      refine j_aload_n h d_Mod_carry_46 rfl ?_
      refine j_getR h d_Mod_carry_47 fl_Mod_95 rfl (by assumption) (mP ms (a := 38) (by decide)) ?_
      refine j_callV h (c_Mod_hears _ _ _ _ _ _ _ _ ms _ _ _ hf _ (MN_r hm0 hv.2) x hv.1 (hvm x (List.mem_of_getElem? hx)) hk3 h30 z0) d_Mod_carry_50 ml_Mod_219 mv_Mod_hears (by assumption) ⟨rfl, rfl⟩ rfl rfl (Nat.le_of_ble_eq_true rfl) (hR_of hX (by decide) (by decide)) (hf_of hX (by decide) (by decide)) ?_
      rintro V3 _ _ P3 ⟨rfl, rfl, rfl, D3, rfl, hq3, hm3⟩
      exact j_zret hX d_Mod_carry_53 rfl (by first | exact Or.inl rfl | exact Or.inr rfl | exact b01_z _ | assumption | exact dlR_z _ _) (Nat.le_refl _) (Nat.le_refl _) ⟨rfl, rfl, rfl, D3, rfl, (hq3 70 0 (by decide)).trans ((hv.2 70 0 (by decide)).trans e70), hm3⟩
    | succ kq ih =>
      intro j D1 hi hv
      have hi2 : j < 14 := by omega
      have hk3b := hk3
      refine j_iload_n h d_Mod_carry_16 rfl ?_
      refine j_bipush (v := 14) h d_Mod_carry_17 (by decide) ?_
      refine j_ic_ge (tgt := 45) h d_Mod_carry_19 (by decide) (fun c => absurd c (nI_ge hi2 (by decide))) (fun _ => ?_)
      refine j_aload_n h d_Mod_carry_22 rfl ?_
      refine j_getR h d_Mod_carry_23 fl_Mod_95 rfl (by assumption) (mP ms (a := 38) (by decide)) ?_
      refine j_iload_n h d_Mod_carry_26 rfl ?_
      refine j_aload_n h d_Mod_carry_27 rfl ?_
      refine j_getR h d_Mod_carry_28 fl_Mod_86 rfl (by assumption) (mP ms (a := 35) (by decide)) ?_
      refine j_bipush (v := 14) h d_Mod_carry_31 (by decide) ?_
      refine j_iload_n h d_Mod_carry_33 rfl ?_
      refine j_imul h d_Mod_carry_34 ?_
      refine j_iload_n h d_Mod_carry_35 rfl ?_
      refine j_ix14 (s := k) (a := j) h d_Mod_carry_36 ?_
      refine m_iald3 (a := 35) (L := 4200) (j := (14 * k + j)) h ms d_Mod_carry_37 (by decide) rfl (by decide) rfl rfl (by omega) ?_
      refine m_iast3 (a := 38) (L := 14) (j := j) h ms d_Mod_carry_38 (by decide) rfl (by decide) rfl rfl (by omega) ?_
      refine j_iinc (v := nI (j + 1)) h d_Mod_carry_39 rfl (nI_i j) (Nat.lt_of_lt_of_eq (m := 3) (by decide) hN.symm) ?_
      refine j_goto (tgt := 16) h d_Mod_carry_42 (by decide) ?_
      refine j_lv (lv' := [(0, .ref (K.ad 6 0)), (1, .int (nI k)), (2, .int (nI (j + 1)))]) (lvs rfl (lvs rfl (lvs rfl lvs0))) ?_
      exact ih (j + 1) _ (by omega) (rdg_s hv ((hv.2 72 _ (by decide)).trans (hm0.2.2 k x hx j (by omega))))
  refine j_aload_n h d_Mod_carry_0 rfl ?_
  refine j_aload_n h d_Mod_carry_1 rfl ?_
  refine j_iload_n h d_Mod_carry_2 rfl ?_
  refine j_callV h (c_Mod_isPlace _ _ _ _ _ _ _ _ ms _ hmD _) d_Mod_carry_3 ml_Mod_216 mv_Mod_isPlace (by assumption) ⟨rfl, rfl⟩ rfl rfl (Nat.le_of_ble_eq_true rfl) (hR_of hX (by decide) (by decide)) (hf_of hX (by decide) (by decide)) ?_
  rintro _ _ _ _ ⟨rfl, rfl, rfl, rfl⟩
  refine j_int (v' := 1) (by first | exact b01_t (by clear hX h hl; first | (simp_all [wn, b01_0, b01_1]; done) | grind [wn, b01_0, b01_1]) | (clear hX h hl; first | (simp_all [wn, b01_0, b01_1]; done) | grind [wn, b01_0, b01_1])) ?_
  refine j_callV h (c_Mod_isRight _ _ _ _ _ _ _ _ ms _ (by first | exact Or.inl rfl | exact Or.inr rfl)) d_Mod_carry_6 ml_Mod_202 mv_Mod_isRight (by assumption) ⟨rfl, rfl⟩ rfl rfl (Nat.le_of_ble_eq_true rfl) (hR_of hX (by decide) (by decide)) (hf_of hX (by decide) (by decide)) ?_
  rintro _ _ _ _ ⟨rfl, rfl, rfl, rfl⟩
  rw [← hD0]
  refine j_if_ne (tgt := 14) h d_Mod_carry_9 (by decide) (fun c1 => ?_) (fun c1 => absurd c1 (by decide))
  refine j_iconst (v := 0) h d_Mod_carry_14 (by decide) ?_
  refine j_istore_n h d_Mod_carry_15 (Nat.lt_of_lt_of_eq (m := 3) (by decide) hN.symm) ?_
  refine j_lv (lv' := [(0, .ref (K.ad 6 0)), (1, .int (nI k)), (2, .int (nI 0))]) (lvs rfl (lvs rfl (lvs rfl lvs0))) ?_
  exact hL 14 0 D0 (by omega) ⟨fun _ q => absurd q (by omega), fun _ _ _ => rfl⟩
