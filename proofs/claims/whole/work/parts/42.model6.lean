/-! the model: freshness, counting, hellos -/
theorem hhN_w {C C2 : MI} {s n : Nat} {z : Int32} {N : List Msg} (e1 : hhA C s n z = wr C2 s) : hhN C s n z N = if b01 (¬ wr C2 s 0 s = 0) = 0 then N else updR (wr C2 s) s n 0 N := by
  unfold hhN
  rw [e1]
  by_cases q : wr C2 s 0 s = 0
  · rw [if_pos q, if_pos (b01_f (fun e => e q))]
  · rw [if_neg q, if_neg (by rw [b01_t q]; decide)]
theorem d_Mod_areFresh_0 : decode b_Mod_areFresh 0 = .ok (.iconst 1, 1) := by decide +kernel
theorem d_Mod_areFresh_1 : decode b_Mod_areFresh 1 = .ok (.istore_n 2, 1) := by decide +kernel
theorem d_Mod_areFresh_2 : decode b_Mod_areFresh 2 = .ok (.iconst 0, 1) := by decide +kernel
theorem d_Mod_areFresh_3 : decode b_Mod_areFresh 3 = .ok (.istore_n 3, 1) := by decide +kernel
theorem d_Mod_areFresh_4 : decode b_Mod_areFresh 4 = .ok (.iload_n 3, 1) := by decide +kernel
theorem d_Mod_areFresh_5 : decode b_Mod_areFresh 5 = .ok (.aload_n 0, 1) := by decide +kernel
theorem d_Mod_areFresh_6 : decode b_Mod_areFresh 6 = .ok (.getfield 98, 3) := by decide +kernel
theorem d_Mod_areFresh_9 : decode b_Mod_areFresh 9 = .ok (.if_icmp .ge 33, 3) := by decide +kernel
theorem d_Mod_areFresh_12 : decode b_Mod_areFresh 12 = .ok (.iload_n 2, 1) := by decide +kernel
theorem d_Mod_areFresh_13 : decode b_Mod_areFresh 13 = .ok (.ifCond .eq 21, 3) := by decide +kernel
theorem d_Mod_areFresh_16 : decode b_Mod_areFresh 16 = .ok (.aload_n 0, 1) := by decide +kernel
theorem d_Mod_areFresh_17 : decode b_Mod_areFresh 17 = .ok (.getfield 71, 3) := by decide +kernel
theorem d_Mod_areFresh_20 : decode b_Mod_areFresh 20 = .ok (.bipush 32, 2) := by decide +kernel
theorem d_Mod_areFresh_22 : decode b_Mod_areFresh 22 = .ok (.iload_n 1, 1) := by decide +kernel
theorem d_Mod_areFresh_23 : decode b_Mod_areFresh 23 = .ok (.imul, 1) := by decide +kernel
theorem d_Mod_areFresh_24 : decode b_Mod_areFresh 24 = .ok (.iload_n 3, 1) := by decide +kernel
theorem d_Mod_areFresh_25 : decode b_Mod_areFresh 25 = .ok (.iadd, 1) := by decide +kernel
theorem d_Mod_areFresh_26 : decode b_Mod_areFresh 26 = .ok (.baload, 1) := by decide +kernel
theorem d_Mod_areFresh_27 : decode b_Mod_areFresh 27 = .ok (.ifCond .eq 7, 3) := by decide +kernel
theorem d_Mod_areFresh_30 : decode b_Mod_areFresh 30 = .ok (.iconst 1, 1) := by decide +kernel
theorem d_Mod_areFresh_31 : decode b_Mod_areFresh 31 = .ok (.goto 4, 3) := by decide +kernel
theorem d_Mod_areFresh_34 : decode b_Mod_areFresh 34 = .ok (.iconst 0, 1) := by decide +kernel
theorem d_Mod_areFresh_35 : decode b_Mod_areFresh 35 = .ok (.istore_n 2, 1) := by decide +kernel
theorem d_Mod_areFresh_36 : decode b_Mod_areFresh 36 = .ok (.iinc 3 1, 3) := by decide +kernel
theorem d_Mod_areFresh_39 : decode b_Mod_areFresh 39 = .ok (.goto (-35), 3) := by decide +kernel
theorem d_Mod_areFresh_42 : decode b_Mod_areFresh 42 = .ok (.iload_n 2, 1) := by decide +kernel
theorem d_Mod_areFresh_43 : decode b_Mod_areFresh 43 = .ok (.ireturn, 1) := by decide +kernel
set_option maxRecDepth 100000 in
set_option maxHeartbeats 4000000 in
theorem c_Mod_areFresh (l : Launch) (K : Kx) (V : Vx) (A B C D : MI) (P : MP) (ms : MSt K V P) (s : Nat) (hs : s < 2) (n : Nat) (ld sk : Int32) (hf : MF C n ld sk) : Ct l K md_Mod_areFresh (0, 0) 0 0 [.ref (K.ad 6 0), .int (nI s)] V (bk4 A B C D) P (EQ V (some (.int (allF C s n 0))) (bk4 A B C D) P) := by
  refine ct_of [(0, .ref (K.ad 6 0)), (1, .int (nI s))] (by decide) (Nat.le_of_ble_eq_true rfl) (ca_r (ca_i ca_n)) rfl ?_
  intro X hl hX
  have h : OkX X b_Mod_areFresh R_Mod K := hX.1
  have hN : X.nL = 4 := hX.2.1
  have hmv := ms.1
  obtain ⟨hn32, h42, h43, h44⟩ := hf
  have hL : ∀ (k j : Nat) (v : Int32), j + k = n → (v = 0 ∨ v = 1) ∧ allF C s n 0 = (if v = 0 then 0 else allF C s k j) → J X K V (bk4 A B C D) P 0 0 4 [(0, .ref (K.ad 6 0)), (1, .int (nI s)), (2, .int v), (3, .int (nI j))] [] := by
    intro k
    induction k with
    | zero =>
      intro j v hi hv
      have hi2 : n = j := by omega
      subst hi2
      refine j_iload_n h d_Mod_areFresh_4 rfl ?_
      refine j_aload_n h d_Mod_areFresh_5 rfl ?_
      refine j_get2e (v := nI n) h d_Mod_areFresh_6 fl_Mod_98 rfl (by assumption) (by first | exact h42 | simpa [up_rd] using h42) ?_
      refine j_ic_ge (tgt := 42) h d_Mod_areFresh_9 (by decide) (fun _ => ?_) (fun c => absurd (nI_le (Nat.le_refl _) (by omega)) c)
      obtain ⟨hv1, hv⟩ := hv
      refine j_iload_n h d_Mod_areFresh_42 rfl ?_
      exact j_zret hX d_Mod_areFresh_43 rfl (by first | exact Or.inl rfl | exact Or.inr rfl | exact b01_z _ | assumption) (Nat.le_refl _) (Nat.le_refl _) ⟨rfl, by rw [hv]; rcases hv1 with rfl | rfl <;> rfl, rfl, rfl⟩
    | succ k ih =>
      intro j v hi hv
      have hi2 : j < n := by omega
      refine j_iload_n h d_Mod_areFresh_4 rfl ?_
      refine j_aload_n h d_Mod_areFresh_5 rfl ?_
      refine j_get2e (v := nI n) h d_Mod_areFresh_6 fl_Mod_98 rfl (by assumption) (by first | exact h42 | simpa [up_rd] using h42) ?_
      refine j_ic_ge (tgt := 42) h d_Mod_areFresh_9 (by decide) (fun c => absurd c (nI_ge hi2 (by omega))) (fun _ => ?_)
      refine j_iload_n h d_Mod_areFresh_12 rfl ?_
      refine j_if_eq (tgt := 34) h d_Mod_areFresh_13 (by decide) (fun c1 => ?_) (fun c1 => ?_)
      · refine j_iconst (v := 0) h d_Mod_areFresh_34 (by decide) ?_
        refine j_istore_n h d_Mod_areFresh_35 (Nat.lt_of_lt_of_eq (m := 4) (by decide) hN.symm) ?_
        refine j_iinc (v := nI (j + 1)) h d_Mod_areFresh_36 rfl (nI_i j) (Nat.lt_of_lt_of_eq (m := 4) (by decide) hN.symm) ?_
        refine j_goto (tgt := 4) h d_Mod_areFresh_39 (by decide) ?_
        refine j_lv (lv' := [(0, .ref (K.ad 6 0)), (1, .int (nI s)), (2, .int _), (3, .int (nI (j + 1)))]) (lvs rfl (lvs rfl (lvs rfl (lvs rfl lvs0)))) ?_
        exact ih (j + 1) _ (by omega) ⟨by first | exact Or.inl rfl | exact Or.inr rfl, hv.2.trans (by rw [allF]; clear ih hX h hl; first | (simp_all; done) | grind)⟩
      · refine j_aload_n h d_Mod_areFresh_16 rfl ?_
        refine j_getR h d_Mod_areFresh_17 fl_Mod_71 rfl (by assumption) (mP ms (a := 30) (by decide)) ?_
        refine j_bipush (v := 32) h d_Mod_areFresh_20 (by decide) ?_
        refine j_iload_n h d_Mod_areFresh_22 rfl ?_
        refine j_imul h d_Mod_areFresh_23 ?_
        refine j_iload_n h d_Mod_areFresh_24 rfl ?_
        refine j_ix32 (s := s) (a := j) h d_Mod_areFresh_25 ?_
        refine m_zald2 (a := 30) (L := 64) (j := (32 * s + j)) h ms d_Mod_areFresh_26 (by decide) rfl (by decide) rfl rfl (by omega) ?_
        refine j_if_eq (tgt := 34) h d_Mod_areFresh_27 (by decide) (fun c2 => ?_) (fun c2 => ?_)
        · refine j_iconst (v := 0) h d_Mod_areFresh_34 (by decide) ?_
          refine j_istore_n h d_Mod_areFresh_35 (Nat.lt_of_lt_of_eq (m := 4) (by decide) hN.symm) ?_
          refine j_iinc (v := nI (j + 1)) h d_Mod_areFresh_36 rfl (nI_i j) (Nat.lt_of_lt_of_eq (m := 4) (by decide) hN.symm) ?_
          refine j_goto (tgt := 4) h d_Mod_areFresh_39 (by decide) ?_
          refine j_lv (lv' := [(0, .ref (K.ad 6 0)), (1, .int (nI s)), (2, .int _), (3, .int (nI (j + 1)))]) (lvs rfl (lvs rfl (lvs rfl (lvs rfl lvs0)))) ?_
          exact ih (j + 1) _ (by omega) ⟨by first | exact Or.inl rfl | exact Or.inr rfl, hv.2.trans (by rw [allF]; clear ih hX h hl; first | (simp_all; done) | grind)⟩
        · refine j_iconst (v := 1) h d_Mod_areFresh_30 (by decide) ?_
          refine j_goto (tgt := 35) h d_Mod_areFresh_31 (by decide) ?_
          refine j_istore_n h d_Mod_areFresh_35 (Nat.lt_of_lt_of_eq (m := 4) (by decide) hN.symm) ?_
          refine j_iinc (v := nI (j + 1)) h d_Mod_areFresh_36 rfl (nI_i j) (Nat.lt_of_lt_of_eq (m := 4) (by decide) hN.symm) ?_
          refine j_goto (tgt := 4) h d_Mod_areFresh_39 (by decide) ?_
          refine j_lv (lv' := [(0, .ref (K.ad 6 0)), (1, .int (nI s)), (2, .int _), (3, .int (nI (j + 1)))]) (lvs rfl (lvs rfl (lvs rfl (lvs rfl lvs0)))) ?_
          exact ih (j + 1) _ (by omega) ⟨by first | exact Or.inl rfl | exact Or.inr rfl, hv.2.trans (by rw [allF]; clear ih hX h hl; first | (simp_all; done) | grind)⟩
  refine j_iconst (v := 1) h d_Mod_areFresh_0 (by decide) ?_
  refine j_istore_n h d_Mod_areFresh_1 (Nat.lt_of_lt_of_eq (m := 4) (by decide) hN.symm) ?_
  refine j_iconst (v := 0) h d_Mod_areFresh_2 (by decide) ?_
  refine j_istore_n h d_Mod_areFresh_3 (Nat.lt_of_lt_of_eq (m := 4) (by decide) hN.symm) ?_
  refine j_lv (lv' := [(0, .ref (K.ad 6 0)), (1, .int (nI s)), (2, .int 1), (3, .int (nI 0))]) (lvs rfl (lvs rfl (lvs rfl (lvs rfl lvs0)))) ?_
  exact hL n 0 1 (by omega) ⟨Or.inr rfl, rfl⟩
theorem d_Mod_count_0 : decode b_Mod_count 0 = .ok (.iconst 0, 1) := by decide +kernel
theorem d_Mod_count_1 : decode b_Mod_count 1 = .ok (.istore_n 2, 1) := by decide +kernel
theorem d_Mod_count_2 : decode b_Mod_count 2 = .ok (.iconst 0, 1) := by decide +kernel
theorem d_Mod_count_3 : decode b_Mod_count 3 = .ok (.istore_n 3, 1) := by decide +kernel
theorem d_Mod_count_4 : decode b_Mod_count 4 = .ok (.iload_n 3, 1) := by decide +kernel
theorem d_Mod_count_5 : decode b_Mod_count 5 = .ok (.bipush 16, 2) := by decide +kernel
theorem d_Mod_count_7 : decode b_Mod_count 7 = .ok (.if_icmp .ge 35, 3) := by decide +kernel
theorem d_Mod_count_10 : decode b_Mod_count 10 = .ok (.iload_n 2, 1) := by decide +kernel
theorem d_Mod_count_11 : decode b_Mod_count 11 = .ok (.aload_n 0, 1) := by decide +kernel
theorem d_Mod_count_12 : decode b_Mod_count 12 = .ok (.iload_n 3, 1) := by decide +kernel
theorem d_Mod_count_13 : decode b_Mod_count 13 = .ok (.invokevirtual 194, 3) := by decide +kernel
theorem d_Mod_count_16 : decode b_Mod_count 16 = .ok (.ifCond .eq 17, 3) := by decide +kernel
theorem d_Mod_count_19 : decode b_Mod_count 19 = .ok (.aload_n 0, 1) := by decide +kernel
theorem d_Mod_count_20 : decode b_Mod_count 20 = .ok (.getfield 74, 3) := by decide +kernel
theorem d_Mod_count_23 : decode b_Mod_count 23 = .ok (.iload_n 3, 1) := by decide +kernel
theorem d_Mod_count_24 : decode b_Mod_count 24 = .ok (.iaload, 1) := by decide +kernel
theorem d_Mod_count_25 : decode b_Mod_count 25 = .ok (.iload_n 1, 1) := by decide +kernel
theorem d_Mod_count_26 : decode b_Mod_count 26 = .ok (.if_icmp .ne 7, 3) := by decide +kernel
theorem d_Mod_count_29 : decode b_Mod_count 29 = .ok (.iconst 1, 1) := by decide +kernel
theorem d_Mod_count_30 : decode b_Mod_count 30 = .ok (.goto 4, 3) := by decide +kernel
theorem d_Mod_count_33 : decode b_Mod_count 33 = .ok (.iconst 0, 1) := by decide +kernel
theorem d_Mod_count_34 : decode b_Mod_count 34 = .ok (.iadd, 1) := by decide +kernel
theorem d_Mod_count_35 : decode b_Mod_count 35 = .ok (.istore_n 2, 1) := by decide +kernel
theorem d_Mod_count_36 : decode b_Mod_count 36 = .ok (.iinc 3 1, 3) := by decide +kernel
theorem d_Mod_count_39 : decode b_Mod_count 39 = .ok (.goto (-35), 3) := by decide +kernel
theorem d_Mod_count_42 : decode b_Mod_count 42 = .ok (.aload_n 0, 1) := by decide +kernel
theorem d_Mod_count_43 : decode b_Mod_count 43 = .ok (.aload_n 0, 1) := by decide +kernel
theorem d_Mod_count_44 : decode b_Mod_count 44 = .ok (.getfield 197, 3) := by decide +kernel
theorem d_Mod_count_47 : decode b_Mod_count 47 = .ok (.iload_n 2, 1) := by decide +kernel
theorem d_Mod_count_48 : decode b_Mod_count 48 = .ok (.invokestatic 150, 3) := by decide +kernel
theorem d_Mod_count_51 : decode b_Mod_count 51 = .ok (.putfield 197, 3) := by decide +kernel
theorem d_Mod_count_54 : decode b_Mod_count 54 = .ok (.return_, 1) := by decide +kernel
set_option maxRecDepth 100000 in
set_option maxHeartbeats 4000000 in
theorem c_Mod_count (l : Launch) (K : Kx) (V : Vx) (A B C D : MI) (P : MP) (ms : MSt K V P) (h30 : ∀ c, c < 16 → (C 30 c = -1 ↔ C 30 c < 0)) (a : Int32) : Ct l K md_Mod_count (1, 21) 0 0 [.ref (K.ad 6 0), .int a] V (bk4 A B C D) P (EQ V (none) (bk4 A B (up C 41 0 (gr (C 41 0) (cntR C a 16 0 0))) D) P) := by
  refine ct_of [(0, .ref (K.ad 6 0)), (1, .int a)] (by decide) (Nat.le_of_ble_eq_true rfl) (ca_r (ca_i ca_n)) rfl ?_
  intro X hl hX
  have h : OkX X b_Mod_count R_Mod K := hX.1
  have hN : X.nL = 4 := hX.2.1
  have hmv := ms.1
  have hL : ∀ (k j : Nat) (g : Int32), j + k = 16 → cntR C a 16 0 0 = cntR C a k j g → J X K V (bk4 A B C D) P 0 0 4 [(0, .ref (K.ad 6 0)), (1, .int a), (2, .int g), (3, .int (nI j))] [] := by
    intro k
    induction k with
    | zero =>
      intro j g hi hv
      have hi2 : 16 = j := by omega
      subst hi2
      refine j_iload_n h d_Mod_count_4 rfl ?_
      refine j_bipush (v := 16) h d_Mod_count_5 (by decide) ?_
      refine j_ic_ge (tgt := 42) h d_Mod_count_7 (by decide) (fun _ => ?_) (fun c => absurd (nI_le (Nat.le_refl _) (by decide)) c)
      refine j_aload_n h d_Mod_count_42 rfl ?_
      refine j_aload_n h d_Mod_count_43 rfl ?_
      refine j_get2 h d_Mod_count_44 fl_Mod_197 rfl (by assumption) ?_
      refine j_iload_n h d_Mod_count_47 rfl ?_
      refine j_callS h (c_Mod_greater _ _ _ _ _ _ _ _ _ _) d_Mod_count_48 ml_Mod_150 ms_Mod_greater rfl rfl (Nat.le_of_ble_eq_true rfl) (hR_of hX (by decide) (by decide)) (hf_of hX (by decide) (by decide)) ?_
      rintro _ _ _ _ ⟨rfl, rfl, rfl, rfl⟩
      refine j_put2 h d_Mod_count_51 fw_Mod_197 rfl rfl (by assumption) ?_
      exact j_vret hX d_Mod_count_54 rfl (Nat.le_refl _) (Nat.le_refl _) ⟨rfl, rfl, by rw [hv]; rfl, rfl⟩
    | succ k ih =>
      intro j g hi hv
      have hi2 : j < 16 := by omega
      refine j_iload_n h d_Mod_count_4 rfl ?_
      refine j_bipush (v := 16) h d_Mod_count_5 (by decide) ?_
      refine j_ic_ge (tgt := 42) h d_Mod_count_7 (by decide) (fun c => absurd c (nI_ge hi2 (by decide))) (fun _ => ?_)
      refine j_iload_n h d_Mod_count_10 rfl ?_
      refine j_aload_n h d_Mod_count_11 rfl ?_
      refine j_iload_n h d_Mod_count_12 rfl ?_
      refine j_callV h (c_Mod_holds _ _ _ _ _ _ _ _ ms _ hi2) d_Mod_count_13 ml_Mod_194 mv_Mod_holds (by assumption) ⟨rfl, rfl⟩ rfl rfl (Nat.le_of_ble_eq_true rfl) (hR_of hX (by decide) (by decide)) (hf_of hX (by decide) (by decide)) ?_
      rintro _ _ _ _ ⟨rfl, rfl, rfl, rfl⟩
      refine j_if_eq (tgt := 33) h d_Mod_count_16 (by decide) (fun c1 => ?_) (fun c1 => ?_)
      · refine j_iconst (v := 0) h d_Mod_count_33 (by decide) ?_
        refine j_iadd h d_Mod_count_34 ?_
        refine j_istore_n h d_Mod_count_35 (Nat.lt_of_lt_of_eq (m := 4) (by decide) hN.symm) ?_
        refine j_iinc (v := nI (j + 1)) h d_Mod_count_36 rfl (nI_i j) (Nat.lt_of_lt_of_eq (m := 4) (by decide) hN.symm) ?_
        refine j_goto (tgt := 4) h d_Mod_count_39 (by decide) ?_
        refine j_lv (lv' := [(0, .ref (K.ad 6 0)), (1, .int a), (2, .int _), (3, .int (nI (j + 1)))]) (lvs rfl (lvs rfl (lvs rfl (lvs rfl lvs0)))) ?_
        exact ih (j + 1) _ (by omega) (hv.trans (by have e := h30 j hi2; simp only [cntR]; clear ih hX h hl; congr 1; first | (simp_all [b01_0]; done) | grind [b01_0]))
      · refine j_aload_n h d_Mod_count_19 rfl ?_
        refine j_getR h d_Mod_count_20 fl_Mod_74 rfl (by assumption) (mP ms (a := 31) (by decide)) ?_
        refine j_iload_n h d_Mod_count_23 rfl ?_
        refine m_iald2 (a := 31) (L := 16) (j := j) h ms d_Mod_count_24 (by decide) rfl (by decide) rfl rfl (by omega) ?_
        refine j_iload_n h d_Mod_count_25 rfl ?_
        refine j_ic_ne (tgt := 33) h d_Mod_count_26 (by decide) (fun c2 => ?_) (fun c2 => ?_)
        · refine j_iconst (v := 0) h d_Mod_count_33 (by decide) ?_
          refine j_iadd h d_Mod_count_34 ?_
          refine j_istore_n h d_Mod_count_35 (Nat.lt_of_lt_of_eq (m := 4) (by decide) hN.symm) ?_
          refine j_iinc (v := nI (j + 1)) h d_Mod_count_36 rfl (nI_i j) (Nat.lt_of_lt_of_eq (m := 4) (by decide) hN.symm) ?_
          refine j_goto (tgt := 4) h d_Mod_count_39 (by decide) ?_
          refine j_lv (lv' := [(0, .ref (K.ad 6 0)), (1, .int a), (2, .int _), (3, .int (nI (j + 1)))]) (lvs rfl (lvs rfl (lvs rfl (lvs rfl lvs0)))) ?_
          exact ih (j + 1) _ (by omega) (hv.trans (by have e := h30 j hi2; simp only [cntR]; clear ih hX h hl; congr 1; first | (simp_all [b01_0]; done) | grind [b01_0]))
        · refine j_iconst (v := 1) h d_Mod_count_29 (by decide) ?_
          refine j_goto (tgt := 34) h d_Mod_count_30 (by decide) ?_
          refine j_iadd h d_Mod_count_34 ?_
          refine j_istore_n h d_Mod_count_35 (Nat.lt_of_lt_of_eq (m := 4) (by decide) hN.symm) ?_
          refine j_iinc (v := nI (j + 1)) h d_Mod_count_36 rfl (nI_i j) (Nat.lt_of_lt_of_eq (m := 4) (by decide) hN.symm) ?_
          refine j_goto (tgt := 4) h d_Mod_count_39 (by decide) ?_
          refine j_lv (lv' := [(0, .ref (K.ad 6 0)), (1, .int a), (2, .int _), (3, .int (nI (j + 1)))]) (lvs rfl (lvs rfl (lvs rfl (lvs rfl lvs0)))) ?_
          exact ih (j + 1) _ (by omega) (hv.trans (by have e := h30 j hi2; simp only [cntR]; clear ih hX h hl; congr 1; first | (simp_all [b01_0]; done) | grind [b01_0]))
  refine j_iconst (v := 0) h d_Mod_count_0 (by decide) ?_
  refine j_istore_n h d_Mod_count_1 (Nat.lt_of_lt_of_eq (m := 4) (by decide) hN.symm) ?_
  refine j_iconst (v := 0) h d_Mod_count_2 (by decide) ?_
  refine j_istore_n h d_Mod_count_3 (Nat.lt_of_lt_of_eq (m := 4) (by decide) hN.symm) ?_
  refine j_lv (lv' := [(0, .ref (K.ad 6 0)), (1, .int a), (2, .int 0), (3, .int (nI 0))]) (lvs rfl (lvs rfl (lvs rfl (lvs rfl lvs0)))) ?_
  exact hL 16 0 0 (by omega) rfl
theorem d_Mod_hearHello_0 : decode b_Mod_hearHello 0 = .ok (.iconst 1, 1) := by decide +kernel
theorem d_Mod_hearHello_1 : decode b_Mod_hearHello 1 = .ok (.istore_n 3, 1) := by decide +kernel
theorem d_Mod_hearHello_2 : decode b_Mod_hearHello 2 = .ok (.iload_n 2, 1) := by decide +kernel
theorem d_Mod_hearHello_3 : decode b_Mod_hearHello 3 = .ok (.aload_n 0, 1) := by decide +kernel
theorem d_Mod_hearHello_4 : decode b_Mod_hearHello 4 = .ok (.getfield 22, 3) := by decide +kernel
theorem d_Mod_hearHello_7 : decode b_Mod_hearHello 7 = .ok (.iload_n 1, 1) := by decide +kernel
theorem d_Mod_hearHello_8 : decode b_Mod_hearHello 8 = .ok (.iaload, 1) := by decide +kernel
theorem d_Mod_hearHello_9 : decode b_Mod_hearHello 9 = .ok (.if_icmp .le 64, 3) := by decide +kernel
theorem d_Mod_hearHello_12 : decode b_Mod_hearHello 12 = .ok (.aload_n 0, 1) := by decide +kernel
theorem d_Mod_hearHello_13 : decode b_Mod_hearHello 13 = .ok (.getfield 22, 3) := by decide +kernel
theorem d_Mod_hearHello_16 : decode b_Mod_hearHello 16 = .ok (.iload_n 1, 1) := by decide +kernel
theorem d_Mod_hearHello_17 : decode b_Mod_hearHello 17 = .ok (.iload_n 2, 1) := by decide +kernel
theorem d_Mod_hearHello_18 : decode b_Mod_hearHello 18 = .ok (.iastore, 1) := by decide +kernel
theorem d_Mod_hearHello_19 : decode b_Mod_hearHello 19 = .ok (.aload_n 0, 1) := by decide +kernel
theorem d_Mod_hearHello_20 : decode b_Mod_hearHello 20 = .ok (.getfield 7, 3) := by decide +kernel
theorem d_Mod_hearHello_23 : decode b_Mod_hearHello 23 = .ok (.iload_n 1, 1) := by decide +kernel
theorem d_Mod_hearHello_24 : decode b_Mod_hearHello 24 = .ok (.iaload, 1) := by decide +kernel
theorem d_Mod_hearHello_25 : decode b_Mod_hearHello 25 = .ok (.iconst 3, 1) := by decide +kernel
theorem d_Mod_hearHello_26 : decode b_Mod_hearHello 26 = .ok (.if_icmp .ne 41, 3) := by decide +kernel
theorem d_Mod_hearHello_29 : decode b_Mod_hearHello 29 = .ok (.aload_n 0, 1) := by decide +kernel
theorem d_Mod_hearHello_30 : decode b_Mod_hearHello 30 = .ok (.getfield 7, 3) := by decide +kernel
theorem d_Mod_hearHello_33 : decode b_Mod_hearHello 33 = .ok (.iload_n 1, 1) := by decide +kernel
theorem d_Mod_hearHello_34 : decode b_Mod_hearHello 34 = .ok (.iconst 2, 1) := by decide +kernel
theorem d_Mod_hearHello_35 : decode b_Mod_hearHello 35 = .ok (.iastore, 1) := by decide +kernel
theorem d_Mod_hearHello_36 : decode b_Mod_hearHello 36 = .ok (.iconst 0, 1) := by decide +kernel
theorem d_Mod_hearHello_37 : decode b_Mod_hearHello 37 = .ok (.istore 4, 2) := by decide +kernel
theorem d_Mod_hearHello_39 : decode b_Mod_hearHello 39 = .ok (.iload 4, 2) := by decide +kernel
theorem d_Mod_hearHello_41 : decode b_Mod_hearHello 41 = .ok (.aload_n 0, 1) := by decide +kernel
theorem d_Mod_hearHello_42 : decode b_Mod_hearHello 42 = .ok (.getfield 98, 3) := by decide +kernel
theorem d_Mod_hearHello_45 : decode b_Mod_hearHello 45 = .ok (.if_icmp .ge 22, 3) := by decide +kernel
theorem d_Mod_hearHello_48 : decode b_Mod_hearHello 48 = .ok (.aload_n 0, 1) := by decide +kernel
theorem d_Mod_hearHello_49 : decode b_Mod_hearHello 49 = .ok (.getfield 68, 3) := by decide +kernel
theorem d_Mod_hearHello_52 : decode b_Mod_hearHello 52 = .ok (.bipush 32, 2) := by decide +kernel
theorem d_Mod_hearHello_54 : decode b_Mod_hearHello 54 = .ok (.iload_n 1, 1) := by decide +kernel
theorem d_Mod_hearHello_55 : decode b_Mod_hearHello 55 = .ok (.imul, 1) := by decide +kernel
theorem d_Mod_hearHello_56 : decode b_Mod_hearHello 56 = .ok (.iload 4, 2) := by decide +kernel
theorem d_Mod_hearHello_58 : decode b_Mod_hearHello 58 = .ok (.iadd, 1) := by decide +kernel
theorem d_Mod_hearHello_59 : decode b_Mod_hearHello 59 = .ok (.iconst 0, 1) := by decide +kernel
theorem d_Mod_hearHello_60 : decode b_Mod_hearHello 60 = .ok (.bastore, 1) := by decide +kernel
theorem d_Mod_hearHello_61 : decode b_Mod_hearHello 61 = .ok (.iinc 4 1, 3) := by decide +kernel
theorem d_Mod_hearHello_64 : decode b_Mod_hearHello 64 = .ok (.goto (-25), 3) := by decide +kernel
theorem d_Mod_hearHello_67 : decode b_Mod_hearHello 67 = .ok (.aload_n 0, 1) := by decide +kernel
theorem d_Mod_hearHello_68 : decode b_Mod_hearHello 68 = .ok (.iload_n 1, 1) := by decide +kernel
theorem d_Mod_hearHello_69 : decode b_Mod_hearHello 69 = .ok (.invokevirtual 147, 3) := by decide +kernel
theorem d_Mod_hearHello_72 : decode b_Mod_hearHello 72 = .ok (.istore_n 3, 1) := by decide +kernel
theorem d_Mod_hearHello_73 : decode b_Mod_hearHello 73 = .ok (.iconst 0, 1) := by decide +kernel
theorem d_Mod_hearHello_74 : decode b_Mod_hearHello 74 = .ok (.istore 4, 2) := by decide +kernel
theorem d_Mod_hearHello_76 : decode b_Mod_hearHello 76 = .ok (.iload 4, 2) := by decide +kernel
theorem d_Mod_hearHello_78 : decode b_Mod_hearHello 78 = .ok (.aload_n 0, 1) := by decide +kernel
theorem d_Mod_hearHello_79 : decode b_Mod_hearHello 79 = .ok (.getfield 98, 3) := by decide +kernel
theorem d_Mod_hearHello_82 : decode b_Mod_hearHello 82 = .ok (.if_icmp .ge 20, 3) := by decide +kernel
theorem d_Mod_hearHello_85 : decode b_Mod_hearHello 85 = .ok (.iload_n 3, 1) := by decide +kernel
theorem d_Mod_hearHello_86 : decode b_Mod_hearHello 86 = .ok (.ifCond .eq 16, 3) := by decide +kernel
theorem d_Mod_hearHello_89 : decode b_Mod_hearHello 89 = .ok (.aload_n 0, 1) := by decide +kernel
theorem d_Mod_hearHello_90 : decode b_Mod_hearHello 90 = .ok (.iload_n 1, 1) := by decide +kernel
theorem d_Mod_hearHello_91 : decode b_Mod_hearHello 91 = .ok (.iload 4, 2) := by decide +kernel
theorem d_Mod_hearHello_93 : decode b_Mod_hearHello 93 = .ok (.invokevirtual 154, 3) := by decide +kernel
theorem d_Mod_hearHello_96 : decode b_Mod_hearHello 96 = .ok (.iinc 4 1, 3) := by decide +kernel
theorem d_Mod_hearHello_99 : decode b_Mod_hearHello 99 = .ok (.goto (-23), 3) := by decide +kernel
theorem d_Mod_hearHello_102 : decode b_Mod_hearHello 102 = .ok (.return_, 1) := by decide +kernel
set_option maxRecDepth 100000 in
set_option maxHeartbeats 4000000 in
theorem c_Mod_hearHello (l : Launch) (K : Kx) (V : Vx) (A B C D : MI) (P : MP) (ms : MSt K V P) (s : Nat) (hs : s < 2) (n : Nat) (ld sk : Int32) (hf : MF C n ld sk) (N : List Msg) (hm : MN D N) (z : Int32) (h0 : ¬ C 0 s = 0) (z0 : Zc C) : Ct l K md_Mod_hearHello (3, 67) 0 0 [.ref (K.ad 6 0), .int (nI s), .int z] V (bk4 A B C D) P (MQ_ V A B P none (hhA C s n z) D (hhN C s n z N)) := by
  refine ct_of [(0, .ref (K.ad 6 0)), (1, .int (nI s)), (2, .int z)] (by decide) (Nat.le_of_ble_eq_true rfl) (ca_r (ca_i (ca_i ca_n))) rfl ?_
  intro X hl hX
  have h : OkX X b_Mod_hearHello R_Mod K := hX.1
  have hN : X.nL = 5 := hX.2.1
  have hmv := ms.1
  obtain ⟨hn32, h42, h43, h44⟩ := hf
  have hG : ∀ (C2 : MI) (v : Int32), hhA C s n z = C2 → hhN C s n z N = (if v = 0 then N else updR C2 s n 0 N) → C2 42 0 = nI n → Zc C2 → J X K V (bk4 A B C2 D) P 0 0 73 [(0, .ref (K.ad 6 0)), (1, .int (nI s)), (2, .int z), (3, .int v)] [] := by
    intro C2 v e1 e2 h42 z2
    by_cases hv0 : v = 0
    · subst hv0
      rw [if_pos rfl] at e2
      refine j_iconst (v := 0) h d_Mod_hearHello_73 (by decide) ?_
      refine j_istore h d_Mod_hearHello_74 (Nat.lt_of_lt_of_eq (m := 5) (by decide) hN.symm) ?_
      refine j_iload h d_Mod_hearHello_76 rfl ?_
      refine j_aload_n h d_Mod_hearHello_78 rfl ?_
      refine j_get2e (v := nI n) h d_Mod_hearHello_79 fl_Mod_98 rfl (by assumption) (by first | exact h42 | simpa [up_rd] using h42) ?_
      refine j_ic_ge (tgt := 102) h d_Mod_hearHello_82 (by decide) (fun c1 => ?_) (fun c1 => ?_)
      · exact j_vret hX d_Mod_hearHello_102 rfl (Nat.le_refl _) (Nat.le_refl _) ⟨rfl, rfl, rfl, _, by rw [e1], DK.refl _, by rw [e2]; exact hm⟩
      · refine j_iload_n h d_Mod_hearHello_85 rfl ?_
        refine j_if_eq (tgt := 102) h d_Mod_hearHello_86 (by decide) (fun c2 => ?_) (fun c2 => absurd c2 (by decide))
        exact j_vret hX d_Mod_hearHello_102 rfl (Nat.le_refl _) (Nat.le_refl _) ⟨rfl, rfl, rfl, _, by rw [e1], DK.refl _, by rw [e2]; exact hm⟩
    · rw [if_neg hv0] at e2
      have hL : ∀ (k j : Nat) (D1 : MI) (N1 : List Msg), j + k = n → DK D D1 ∧ MN D1 N1 ∧ updR C2 s n 0 N = updR C2 s k j N1 → J X K V (bk4 A B C2 D1) P 0 0 76 [(0, .ref (K.ad 6 0)), (1, .int (nI s)), (2, .int z), (3, .int v), (4, .int (nI j))] [] := by
        intro k
        induction k with
        | zero =>
          intro j D1 N1 hi hv
          have hi2 : n = j := by omega
          subst hi2
          refine j_iload h d_Mod_hearHello_76 rfl ?_
          refine j_aload_n h d_Mod_hearHello_78 rfl ?_
          refine j_get2e (v := nI n) h d_Mod_hearHello_79 fl_Mod_98 rfl (by assumption) (by first | exact h42 | simpa [up_rd] using h42) ?_
          refine j_ic_ge (tgt := 102) h d_Mod_hearHello_82 (by decide) (fun _ => ?_) (fun c => absurd (nI_le (Nat.le_refl _) (by omega)) c)
          exact j_vret hX d_Mod_hearHello_102 rfl (Nat.le_refl _) (Nat.le_refl _) ⟨rfl, rfl, rfl, _, by rw [e1], hv.1, by rw [e2, hv.2.2]; exact hv.2.1⟩
        | succ k ih =>
          intro j D1 N1 hi hv
          have hi2 : j < n := by omega
          refine j_iload h d_Mod_hearHello_76 rfl ?_
          refine j_aload_n h d_Mod_hearHello_78 rfl ?_
          refine j_get2e (v := nI n) h d_Mod_hearHello_79 fl_Mod_98 rfl (by assumption) (by first | exact h42 | simpa [up_rd] using h42) ?_
          refine j_ic_ge (tgt := 102) h d_Mod_hearHello_82 (by decide) (fun c => absurd c (nI_ge hi2 (by omega))) (fun _ => ?_)
          refine j_iload_n h d_Mod_hearHello_85 rfl ?_
          refine j_if_eq (tgt := 102) h d_Mod_hearHello_86 (by decide) (fun c => absurd c hv0) (fun _ => ?_)
          refine j_aload_n h d_Mod_hearHello_89 rfl ?_
          refine j_iload_n h d_Mod_hearHello_90 rfl ?_
          refine j_iload h d_Mod_hearHello_91 rfl ?_
          refine j_callV h (c_Mod_sendUpdate _ _ _ _ _ _ _ _ ms _ hv.2.1 _ hs _ _ hi2 hn32 (z2 _).1) d_Mod_hearHello_93 ml_Mod_154 mv_Mod_sendUpdate (by assumption) ⟨rfl, rfl⟩ rfl rfl (Nat.le_of_ble_eq_true rfl) (hR_of hX (by decide) (by decide)) (hf_of hX (by decide) (by decide)) ?_
          rintro V3 _ _ P3 ⟨rfl, rfl, rfl, D3, rfl, hk3, hm3⟩
          refine j_iinc (v := nI (j + 1)) h d_Mod_hearHello_96 rfl (nI_i j) (Nat.lt_of_lt_of_eq (m := 5) (by decide) hN.symm) ?_
          refine j_goto (tgt := 76) h d_Mod_hearHello_99 (by decide) ?_
          refine j_lv (lv' := [(0, .ref (K.ad 6 0)), (1, .int (nI s)), (2, .int z), (3, .int v), (4, .int (nI (j + 1)))]) (lvs rfl (lvs rfl (lvs rfl (lvs rfl (lvs rfl lvs0))))) ?_
          exact ih (j + 1) _ _ (by omega) ⟨hv.1.trans hk3, hm3, hv.2.2⟩
      refine j_iconst (v := 0) h d_Mod_hearHello_73 (by decide) ?_
      refine j_istore h d_Mod_hearHello_74 (Nat.lt_of_lt_of_eq (m := 5) (by decide) hN.symm) ?_
      refine j_lv (lv' := [(0, .ref (K.ad 6 0)), (1, .int (nI s)), (2, .int z), (3, .int v), (4, .int (nI 0))]) (lvs rfl (lvs rfl (lvs rfl (lvs rfl (lvs rfl lvs0))))) ?_
      exact hL n 0 D N (by omega) ⟨DK.refl _, hm, rfl⟩
  have hW : ∀ C2 : MI, C2 42 0 = nI n → Zc C2 → C 4 s < z → hhA C s n z = wr C2 s → J X K V (bk4 A B C2 D) P 0 0 67 [(0, .ref (K.ad 6 0)), (1, .int (nI s)), (2, .int z), (3, .int 1)] [] := by
    intro C2 h42 z2 hlt e1
    refine j_aload_n h d_Mod_hearHello_67 rfl ?_
    refine j_iload_n h d_Mod_hearHello_68 rfl ?_
    refine j_callV h (c_Mod_writes _ _ _ _ _ _ _ _ ms _ hs) d_Mod_hearHello_69 ml_Mod_147 mv_Mod_writes (by assumption) ⟨rfl, rfl⟩ rfl rfl (Nat.le_of_ble_eq_true rfl) (hR_of hX (by decide) (by decide)) (hf_of hX (by decide) (by decide)) ?_
    rintro _ _ _ _ ⟨rfl, rfl, rfl, rfl⟩
    refine j_istore_n h d_Mod_hearHello_72 (Nat.lt_of_lt_of_eq (m := 5) (by decide) hN.symm) ?_
    refine j_lv (lv' := [(0, .ref (K.ad 6 0)), (1, .int (nI s)), (2, .int z), (3, .int (b01 (¬ wr C2 s 0 s = 0)))]) (lvs rfl (lvs rfl (lvs rfl (lvs rfl lvs0)))) ?_
    exact hG _ _ e1 (hhN_w e1) (by rw [wr_c _ _ _ _ (by decide)]; exact h42) ((ZK_wr (ZK.refl C2)).1 z2)
  have hS : C 4 s < z → C 0 s = 3 → J X K V (bk4 A B (up (up C 4 s z) 0 s 2) D) P 0 0 36 [(0, .ref (K.ad 6 0)), (1, .int (nI s)), (2, .int z), (3, .int 1)] [] := by
    intro hlt h3
    have hL5 : ∀ (k j : Nat) (C2 : MI), j + k = n → C2 42 0 = nI n ∧ Zc C2 ∧ rejR s n 0 (up (up C 4 s z) 0 s 2) = rejR s k j C2 → J X K V (bk4 A B C2 D) P 0 0 39 [(0, .ref (K.ad 6 0)), (1, .int (nI s)), (2, .int z), (3, .int 1), (4, .int (nI j))] [] := by
      intro k
      induction k with
      | zero =>
        intro j C2 hi hv
        have hi2 : n = j := by omega
        subst hi2
        have h42 := hv.1
        refine j_iload h d_Mod_hearHello_39 rfl ?_
        refine j_aload_n h d_Mod_hearHello_41 rfl ?_
        refine j_get2e (v := nI n) h d_Mod_hearHello_42 fl_Mod_98 rfl (by assumption) (by first | exact h42 | simpa [up_rd] using h42) ?_
        refine j_ic_ge (tgt := 67) h d_Mod_hearHello_45 (by decide) (fun _ => ?_) (fun c => absurd (nI_le (Nat.le_refl _) (by omega)) c)
        refine j_lv (lv' := [(0, .ref (K.ad 6 0)), (1, .int (nI s)), (2, .int z), (3, .int 1)]) (lvs rfl (lvs rfl (lvs rfl (lvs rfl lvs0)))) ?_
        exact hW C2 hv.1 hv.2.1 hlt (by unfold hhA; rw [if_pos hlt, if_pos h3, hv.2.2]; rfl)
      | succ k ih =>
        intro j C2 hi hv
        have hi2 : j < n := by omega
        have h42 := hv.1
        refine j_iload h d_Mod_hearHello_39 rfl ?_
        refine j_aload_n h d_Mod_hearHello_41 rfl ?_
        refine j_get2e (v := nI n) h d_Mod_hearHello_42 fl_Mod_98 rfl (by assumption) (by first | exact h42 | simpa [up_rd] using h42) ?_
        refine j_ic_ge (tgt := 67) h d_Mod_hearHello_45 (by decide) (fun c => absurd c (nI_ge hi2 (by omega))) (fun _ => ?_)
        refine j_aload_n h d_Mod_hearHello_48 rfl ?_
        refine j_getR h d_Mod_hearHello_49 fl_Mod_68 rfl (by assumption) (mP ms (a := 29) (by decide)) ?_
        refine j_bipush (v := 32) h d_Mod_hearHello_52 (by decide) ?_
        refine j_iload_n h d_Mod_hearHello_54 rfl ?_
        refine j_imul h d_Mod_hearHello_55 ?_
        refine j_iload h d_Mod_hearHello_56 rfl ?_
        refine j_ix32 (s := s) (a := j) h d_Mod_hearHello_58 ?_
        refine j_iconst (v := 0) h d_Mod_hearHello_59 (by decide) ?_
        refine m_zast2 (a := 29) (L := 64) (j := (32 * s + j)) h ms d_Mod_hearHello_60 (by decide) rfl (by decide) rfl rfl (by omega) (by first | exact Or.inl rfl | exact Or.inr rfl | exact b01_z _ | assumption) ?_
        refine j_iinc (v := nI (j + 1)) h d_Mod_hearHello_61 rfl (nI_i j) (Nat.lt_of_lt_of_eq (m := 5) (by decide) hN.symm) ?_
        refine j_goto (tgt := 39) h d_Mod_hearHello_64 (by decide) ?_
        refine j_lv (lv' := [(0, .ref (K.ad 6 0)), (1, .int (nI s)), (2, .int z), (3, .int 1), (4, .int (nI (j + 1)))]) (lvs rfl (lvs rfl (lvs rfl (lvs rfl (lvs rfl lvs0))))) ?_
        exact ih (j + 1) _ (by omega) ⟨by rw [up_c _ _ (by decide)]; exact hv.1, (ZK_up (ZK.refl C2) (by decide) (Or.inr (Or.inl rfl))).1 hv.2.1, hv.2.2⟩
    refine j_iconst (v := 0) h d_Mod_hearHello_36 (by decide) ?_
    refine j_istore h d_Mod_hearHello_37 (Nat.lt_of_lt_of_eq (m := 5) (by decide) hN.symm) ?_
    refine j_lv (lv' := [(0, .ref (K.ad 6 0)), (1, .int (nI s)), (2, .int z), (3, .int 1), (4, .int (nI 0))]) (lvs rfl (lvs rfl (lvs rfl (lvs rfl (lvs rfl lvs0))))) ?_
    exact hL5 n 0 _ (by omega) ⟨h42, (ZK_up (ZK_up (ZK.refl C) (by decide) (Or.inl (by decide))) (by decide) (Or.inl (by decide))).1 z0, rfl⟩
  refine j_iconst (v := 1) h d_Mod_hearHello_0 (by decide) ?_
  refine j_istore_n h d_Mod_hearHello_1 (Nat.lt_of_lt_of_eq (m := 5) (by decide) hN.symm) ?_
  refine j_iload_n h d_Mod_hearHello_2 rfl ?_
  refine j_aload_n h d_Mod_hearHello_3 rfl ?_
  refine j_getR h d_Mod_hearHello_4 fl_Mod_22 rfl (by assumption) (mP ms (a := 14) (by decide)) ?_
  refine j_iload_n h d_Mod_hearHello_7 rfl ?_
  refine m_iald2 (a := 14) (L := 2) (j := s) h ms d_Mod_hearHello_8 (by decide) rfl (by decide) rfl rfl (by omega) ?_
  refine j_ic_le (tgt := 73) h d_Mod_hearHello_9 (by decide) (fun c => ?_) (fun c => ?_)
  · refine j_lv (lv' := [(0, .ref (K.ad 6 0)), (1, .int (nI s)), (2, .int z), (3, .int 1)]) (lvs rfl (lvs rfl (lvs rfl (lvs rfl lvs0)))) ?_
    exact hG C 1 (by unfold hhA; rw [if_neg (fun q => Int32.not_lt.mpr c q)]) (by unfold hhN; rw [show hhA C s n z = C by unfold hhA; rw [if_neg (fun q => Int32.not_lt.mpr c q)], if_neg h0, if_neg (by decide)]) h42 z0
  · have hlt : C 4 s < z := Int32.not_le.mp c
    refine j_aload_n h d_Mod_hearHello_12 rfl ?_
    refine j_getR h d_Mod_hearHello_13 fl_Mod_22 rfl (by assumption) (mP ms (a := 14) (by decide)) ?_
    refine j_iload_n h d_Mod_hearHello_16 rfl ?_
    refine j_iload_n h d_Mod_hearHello_17 rfl ?_
    refine m_iast2 (a := 14) (L := 2) (j := s) h ms d_Mod_hearHello_18 (by decide) rfl (by decide) rfl rfl (by omega) ?_
    refine j_aload_n h d_Mod_hearHello_19 rfl ?_
    refine j_getR h d_Mod_hearHello_20 fl_Mod_7 rfl (by assumption) (mP ms (a := 10) (by decide)) ?_
    refine j_iload_n h d_Mod_hearHello_23 rfl ?_
    refine m_iald2 (a := 10) (L := 2) (j := s) h ms d_Mod_hearHello_24 (by decide) rfl (by decide) rfl rfl (by omega) ?_
    refine j_iconst (v := 3) h d_Mod_hearHello_25 (by decide) ?_
    refine j_ic_ne (tgt := 67) h d_Mod_hearHello_26 (by decide) (fun c3 => ?_) (fun c3 => ?_)
    · refine j_lv (lv' := [(0, .ref (K.ad 6 0)), (1, .int (nI s)), (2, .int z), (3, .int 1)]) (lvs rfl (lvs rfl (lvs rfl (lvs rfl lvs0)))) ?_
      exact hW _ h42 ((ZK_up (ZK.refl C) (by decide) (Or.inl (by decide))).1 z0) hlt (by unfold hhA; rw [if_pos hlt, if_neg (show ¬ C 0 s = 3 from c3)])
    · skip
      refine j_aload_n h d_Mod_hearHello_29 rfl ?_
      refine j_getR h d_Mod_hearHello_30 fl_Mod_7 rfl (by assumption) (mP ms (a := 10) (by decide)) ?_
      refine j_iload_n h d_Mod_hearHello_33 rfl ?_
      refine j_iconst (v := 2) h d_Mod_hearHello_34 (by decide) ?_
      refine m_iast2 (a := 10) (L := 2) (j := s) h ms d_Mod_hearHello_35 (by decide) rfl (by decide) rfl rfl (by omega) ?_
      refine j_lv (lv' := [(0, .ref (K.ad 6 0)), (1, .int (nI s)), (2, .int z), (3, .int 1)]) (lvs rfl (lvs rfl (lvs rfl (lvs rfl lvs0)))) ?_
      exact hS hlt c3
