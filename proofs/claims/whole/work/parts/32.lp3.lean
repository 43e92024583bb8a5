/-! LeasePair: what a caller may ask, with the net -/
theorem d_LP_start_0 : decode b_LP_start 0 = .ok (.aload_n 0, 1) := by decide +kernel
theorem d_LP_start_1 : decode b_LP_start 1 = .ok (.iload_n 1, 1) := by decide +kernel
theorem d_LP_start_2 : decode b_LP_start 2 = .ok (.invokevirtual 63, 3) := by decide +kernel
theorem d_LP_start_5 : decode b_LP_start 5 = .ok (.astore_n 2, 1) := by decide +kernel
theorem d_LP_start_6 : decode b_LP_start 6 = .ok (.aload_n 2, 1) := by decide +kernel
theorem d_LP_start_7 : decode b_LP_start 7 = .ok (.getfield 70, 3) := by decide +kernel
theorem d_LP_start_10 : decode b_LP_start 10 = .ok (.ifCond .eq 5, 3) := by decide +kernel
theorem d_LP_start_13 : decode b_LP_start 13 = .ok (.iconst 0, 1) := by decide +kernel
theorem d_LP_start_14 : decode b_LP_start 14 = .ok (.ireturn, 1) := by decide +kernel
theorem d_LP_start_15 : decode b_LP_start 15 = .ok (.aload_n 2, 1) := by decide +kernel
theorem d_LP_start_16 : decode b_LP_start 16 = .ok (.invokevirtual 79, 3) := by decide +kernel
theorem d_LP_start_19 : decode b_LP_start 19 = .ok (.aload_n 2, 1) := by decide +kernel
theorem d_LP_start_20 : decode b_LP_start 20 = .ok (.aload_n 0, 1) := by decide +kernel
theorem d_LP_start_21 : decode b_LP_start 21 = .ok (.getfield 39, 3) := by decide +kernel
theorem d_LP_start_24 : decode b_LP_start 24 = .ok (.invokevirtual 82, 3) := by decide +kernel
theorem d_LP_start_27 : decode b_LP_start 27 = .ok (.iconst 1, 1) := by decide +kernel
theorem d_LP_start_28 : decode b_LP_start 28 = .ok (.ireturn, 1) := by decide +kernel
set_option maxRecDepth 100000 in
set_option maxHeartbeats 4000000 in
theorem c_LP_start (l : Launch) (hlt : l.stackTraces = false) (K : Kx) (V : Vx) (A B C D : MI) (P : MP) (hV : ∀ z, V.2.2 z) (n : Nat) (cs : CS K V P n) (ld sk : Int32) (N T : List Msg) (U : Msg) (hnc : NC K P B ld sk N T U) (z : Int32) : CtX l K md_LP_start (10, 141) 1 6 [.ref (K.ad 0 0), .int z] V (bk4 A B C D) P (fun V' r I' P' => ∃ s, s < 2 ∧ z = nI s ∧ NP K V C D P ld sk (some (.int (b01 (A 0 s = 0)))) (if A 0 s = 0 then (wr (up (clrR s n 0 (up (up A 2 s (A 2 s + 1)) 0 s 1)) 6 s 0) s) else A) (if A 0 s = 0 then netput (m_hello (wr (up (clrR s n 0 (up (up A 2 s (A 2 s + 1)) 0 s 1)) 6 s 0) s) s) N else N) T U V' r I' P') (¬ wn z 0 1) := by
  refine ctx_of [(0, .ref (K.ad 0 0)), (1, .int z)] (by decide) (Nat.le_of_ble_eq_true rfl) (ca_r (ca_i ca_n)) rfl ?_
  intro X hl hXX
  have hX := hXX.1
  have h : OkX X b_LP_start R_LP K := hX.1
  have hN : X.nL = 3 := hX.2.1
  have hlt9 : X.l.stackTraces = false := by rw [hl]; exact hlt
  have hlv := cs_lv cs
  refine j_aload_n h d_LP_start_0 rfl ?_
  refine j_iload_n h d_LP_start_1 rfl ?_
  refine jx_callV h (c_LP_serverOf _ hlt9 _ _ _ _ _ _ _ hV _ cs _) d_LP_start_2 ml_LP_63 mv_LP_serverOf (by assumption) ⟨rfl, rfl⟩ rfl rfl (Nat.le_of_ble_eq_true rfl) (hRx hXX (by decide) (by decide)) (hfx hXX (by decide) (by decide)) (fun hx => jx_out hXX (by first | exact absurd hx (by decide) | (clear hX hXX h hl; simp_all [b01_0, wn]; done) | (clear hX hXX h hl; grind [b01_0, wn])) (by decide) (by decide)) ?_
  rintro _ _ _ _ ⟨s, hs, rfl, rfl, rfl, rfl, rfl⟩
  have hsv := cs_sv cs hs
  refine j_astore_n h d_LP_start_5 (Nat.lt_of_lt_of_eq (m := 3) (by decide) hN.symm) ?_
  refine j_aload_n h d_LP_start_6 rfl ?_
  refine j_get0 h d_LP_start_7 fl_LP_70 rfl (by assumption) ?_
  refine j_if_eq (tgt := 15) h d_LP_start_10 (by decide) (fun c1 => ?_) (fun c1 => ?_)
  · refine j_aload_n h d_LP_start_15 rfl ?_
    refine j_callV h (c_Srv_comeUp _ _ _ _ _ _ _ _ _ cs _ hs) d_LP_start_16 ml_LP_79 mv_Srv_comeUp (by assumption) ⟨rfl, rfl⟩ rfl rfl (Nat.le_of_ble_eq_true rfl) (hRx hXX (by decide) (by decide)) (hfx hXX (by decide) (by decide)) ?_
    rintro _ _ _ _ ⟨rfl, rfl, rfl, rfl⟩
    refine j_aload_n h d_LP_start_19 rfl ?_
    refine j_aload_n h d_LP_start_20 rfl ?_
    refine j_getR h d_LP_start_21 fl_LP_39 rfl (by assumption) (cs_p2 cs) ?_
    refine j_callV h (c_Srv_sendHello _ _ _ _ _ _ _ _ _ cs _ hs _ _ _ _ _ hnc) d_LP_start_24 ml_LP_82 mv_Srv_sendHello (by assumption) ⟨rfl, rfl⟩ rfl rfl (Nat.le_of_ble_eq_true rfl) (hRx hXX (by decide) (by decide)) (hfx hXX (by decide) (by decide)) ?_
    rintro _ _ _ _ ⟨rfl, rfl, rfl, B2, rfl, hn2⟩
    refine j_iconst (v := 1) h d_LP_start_27 (by decide) ?_
    exact jx_ret hXX (j_zret hX d_LP_start_28 rfl (by first | exact Or.inl rfl | exact Or.inr rfl | exact b01_z _ | assumption) (by decide) (by decide) ⟨s, hs, rfl, rfl, by clear hX hXX h hl; simp_all [b01], rfl, _, by first | (rw [if_pos (by assumption)]; done) | (rw [if_neg (by assumption)]; done), by first | (rw [if_pos (by assumption)]; first | exact hn2 | exact hnc) | (rw [if_neg (by assumption)]; exact hnc)⟩)
  · refine j_iconst (v := 0) h d_LP_start_13 (by decide) ?_
    exact jx_ret hXX (j_zret hX d_LP_start_14 rfl (by first | exact Or.inl rfl | exact Or.inr rfl | exact b01_z _ | assumption) (by decide) (by decide) ⟨s, hs, rfl, rfl, by clear hX hXX h hl; simp_all [b01], rfl, _, by first | (rw [if_pos (by assumption)]; done) | (rw [if_neg (by assumption)]; done), by first | (rw [if_pos (by assumption)]; first | exact hn2 | exact hnc) | (rw [if_neg (by assumption)]; exact hnc)⟩)
theorem d_LP_send_0 : decode b_LP_send 0 = .ok (.aload_n 0, 1) := by decide +kernel
theorem d_LP_send_1 : decode b_LP_send 1 = .ok (.iload_n 1, 1) := by decide +kernel
theorem d_LP_send_2 : decode b_LP_send 2 = .ok (.invokevirtual 63, 3) := by decide +kernel
theorem d_LP_send_5 : decode b_LP_send 5 = .ok (.astore_n 2, 1) := by decide +kernel
theorem d_LP_send_6 : decode b_LP_send 6 = .ok (.aload_n 2, 1) := by decide +kernel
theorem d_LP_send_7 : decode b_LP_send 7 = .ok (.getfield 70, 3) := by decide +kernel
theorem d_LP_send_10 : decode b_LP_send 10 = .ok (.ifCond .ne 7, 3) := by decide +kernel
theorem d_LP_send_13 : decode b_LP_send 13 = .ok (.iconst (-1), 1) := by decide +kernel
theorem d_LP_send_14 : decode b_LP_send 14 = .ok (.goto 11, 3) := by decide +kernel
theorem d_LP_send_17 : decode b_LP_send 17 = .ok (.aload_n 2, 1) := by decide +kernel
theorem d_LP_send_18 : decode b_LP_send 18 = .ok (.aload_n 0, 1) := by decide +kernel
theorem d_LP_send_19 : decode b_LP_send 19 = .ok (.getfield 39, 3) := by decide +kernel
theorem d_LP_send_22 : decode b_LP_send 22 = .ok (.invokevirtual 123, 3) := by decide +kernel
theorem d_LP_send_25 : decode b_LP_send 25 = .ok (.ireturn, 1) := by decide +kernel
set_option maxRecDepth 100000 in
set_option maxHeartbeats 4000000 in
theorem c_LP_send (l : Launch) (hlt : l.stackTraces = false) (K : Kx) (V : Vx) (A B C D : MI) (P : MP) (hV : ∀ z, V.2.2 z) (n : Nat) (cs : CS K V P n) (ld sk : Int32) (N T : List Msg) (U : Msg) (hnc : NC K P B ld sk N T U) (hz : ∀ i, A 14 i = 0 ∨ A 14 i = 1) (z : Int32) : CtX l K md_LP_send (10, 141) 1 6 [.ref (K.ad 0 0), .int z] V (bk4 A B C D) P (fun V' r I' P' => ∃ s, s < 2 ∧ z = nI s ∧ NP K V C D P ld sk (some (.int (if A 0 s = 0 then -1 else (spf A s n N).1))) A (if A 0 s = 0 then N else (spf A s n N).2) T U V' r I' P') (¬ wn z 0 1) := by
  refine ctx_of [(0, .ref (K.ad 0 0)), (1, .int z)] (by decide) (Nat.le_of_ble_eq_true rfl) (ca_r (ca_i ca_n)) rfl ?_
  intro X hl hXX
  have hX := hXX.1
  have h : OkX X b_LP_send R_LP K := hX.1
  have hN : X.nL = 3 := hX.2.1
  have hlt9 : X.l.stackTraces = false := by rw [hl]; exact hlt
  have hlv := cs_lv cs
  refine j_aload_n h d_LP_send_0 rfl ?_
  refine j_iload_n h d_LP_send_1 rfl ?_
  refine jx_callV h (c_LP_serverOf _ hlt9 _ _ _ _ _ _ _ hV _ cs _) d_LP_send_2 ml_LP_63 mv_LP_serverOf (by assumption) ⟨rfl, rfl⟩ rfl rfl (Nat.le_of_ble_eq_true rfl) (hRx hXX (by decide) (by decide)) (hfx hXX (by decide) (by decide)) (fun hx => jx_out hXX (by first | exact absurd hx (by decide) | (clear hX hXX h hl; simp_all [b01_0, wn]; done) | (clear hX hXX h hl; grind [b01_0, wn])) (by decide) (by decide)) ?_
  rintro _ _ _ _ ⟨s, hs, rfl, rfl, rfl, rfl, rfl⟩
  have hsv := cs_sv cs hs
  refine j_astore_n h d_LP_send_5 (Nat.lt_of_lt_of_eq (m := 3) (by decide) hN.symm) ?_
  refine j_aload_n h d_LP_send_6 rfl ?_
  refine j_get0 h d_LP_send_7 fl_LP_70 rfl (by assumption) ?_
  refine j_if_ne (tgt := 17) h d_LP_send_10 (by decide) (fun c1 => ?_) (fun c1 => ?_)
  · refine j_aload_n h d_LP_send_17 rfl ?_
    refine j_aload_n h d_LP_send_18 rfl ?_
    refine j_getR h d_LP_send_19 fl_LP_39 rfl (by assumption) (cs_p2 cs) ?_
    refine j_callV h (c_Srv_sendPending _ _ _ _ _ _ _ _ _ cs _ hs _ _ _ _ _ hnc hz) d_LP_send_22 ml_LP_123 mv_Srv_sendPending (by assumption) ⟨rfl, rfl⟩ rfl rfl (Nat.le_of_ble_eq_true rfl) (hRx hXX (by decide) (by decide)) (hfx hXX (by decide) (by decide)) ?_
    rintro _ _ _ _ ⟨rfl, rfl, rfl, B2, rfl, hn2⟩
    exact jx_ret hXX (j_iret hX d_LP_send_25 rfl (by decide) (by decide) ⟨s, hs, rfl, rfl, by first | (rw [if_pos (by assumption)]; done) | (rw [if_neg (by assumption)]; done), rfl, _, rfl, by first | (rw [if_pos (by assumption)]; exact hnc) | (rw [if_neg (by assumption)]; exact hn2)⟩)
  · refine j_iconst (v := -1) h d_LP_send_13 (by decide) ?_
    refine j_goto (tgt := 25) h d_LP_send_14 (by decide) ?_
    exact jx_ret hXX (j_iret hX d_LP_send_25 rfl (by decide) (by decide) ⟨s, hs, rfl, rfl, by first | (rw [if_pos (by assumption)]; done) | (rw [if_neg (by assumption)]; done), rfl, _, rfl, by first | (rw [if_pos (by assumption)]; exact hnc) | (rw [if_neg (by assumption)]; exact hn2)⟩)
theorem d_LP_messages_0 : decode b_LP_messages 0 = .ok (.aload_n 0, 1) := by decide +kernel
theorem d_LP_messages_1 : decode b_LP_messages 1 = .ok (.getfield 39, 3) := by decide +kernel
theorem d_LP_messages_4 : decode b_LP_messages 4 = .ok (.getfield 164, 3) := by decide +kernel
theorem d_LP_messages_7 : decode b_LP_messages 7 = .ok (.ireturn, 1) := by decide +kernel
set_option maxRecDepth 100000 in
set_option maxHeartbeats 4000000 in
theorem c_LP_messages (l : Launch) (K : Kx) (V : Vx) (A B C D : MI) (P : MP) (n : Nat) (cs : CS K V P n) (ld sk : Int32) (N T : List Msg) (U : Msg) (hnc : NC K P B ld sk N T U) : Ct l K md_LP_messages (0, 0) 0 0 [.ref (K.ad 0 0)] V (bk4 A B C D) P (EQ V (some (.int (nI N.length))) (bk4 A B C D) P) := by
  refine ct_of [(0, .ref (K.ad 0 0))] (by decide) (Nat.le_of_ble_eq_true rfl) (ca_r ca_n) rfl ?_
  intro X hl hX
  have h : OkX X b_LP_messages R_LP K := hX.1
  have hN : X.nL = 1 := hX.2.1
  have hlv := cs_lv cs
  have hnv := cs_nv cs
  obtain ⟨kb, t, g, f, ft, nw⟩ := id hnc
  obtain ⟨ht, hf, hc, b70, b72, p5, p6, hg, hgi⟩ := id nw.1
  refine j_aload_n h d_LP_messages_0 rfl ?_
  refine j_getR h d_LP_messages_1 fl_LP_39 rfl (by assumption) (cs_p2 cs) ?_
  refine j_get1e h d_LP_messages_4 fl_LP_164 rfl (by assumption) b72 ?_
  exact j_iret hX d_LP_messages_7 rfl (Nat.le_refl _) (Nat.le_refl _) ⟨rfl, rfl, rfl, rfl⟩
theorem d_LP_most_0 : decode b_LP_most 0 = .ok (.aload_n 0, 1) := by decide +kernel
theorem d_LP_most_1 : decode b_LP_most 1 = .ok (.getfield 188, 3) := by decide +kernel
theorem d_LP_most_4 : decode b_LP_most 4 = .ok (.ireturn, 1) := by decide +kernel
set_option maxRecDepth 100000 in
set_option maxHeartbeats 4000000 in
theorem c_LP_most (l : Launch) (K : Kx) (V : Vx) (A B C D : MI) (P : MP) (n : Nat) (cs : CS K V P n) : Ct l K md_LP_most (0, 0) 0 0 [.ref (K.ad 0 0)] V (bk4 A B C D) P (EQ V (some (.int (A 41 0))) (bk4 A B C D) P) := by
  refine ct_of [(0, .ref (K.ad 0 0))] (by decide) (Nat.le_of_ble_eq_true rfl) (ca_r ca_n) rfl ?_
  intro X hl hX
  have h : OkX X b_LP_most R_LP K := hX.1
  have hN : X.nL = 1 := hX.2.1
  have hlv := cs_lv cs
  refine j_aload_n h d_LP_most_0 rfl ?_
  refine j_get0 h d_LP_most_1 fl_LP_188 rfl (by assumption) ?_
  exact j_iret hX d_LP_most_4 rfl (Nat.le_refl _) (Nat.le_refl _) ⟨rfl, rfl, rfl, rfl⟩
theorem has_nat {x : Int32} {c : Nat} (hc : c ≤ 300) : (¬ x < 0 ∧ ¬ nI c - 1 < x) ↔ ∃ k, k < c ∧ x = nI k := by
  constructor
  · intro h
    rcases Nat.eq_zero_or_pos c with h0 | h0
    · subst h0
      exfalso
      have h1 := h.1
      have h2 := h.2
      rw [show nI 0 - 1 = (-1 : Int32) from rfl] at h2
      rw [Int32.lt_iff_toInt_lt] at h1 h2
      rw [show (0 : Int32).toInt = 0 from rfl] at h1
      rw [show (-1 : Int32).toInt = -1 from rfl] at h2
      omega
    · rw [show nI c - 1 = nI (c - 1) by
        have e : nI c = nI (c - 1) + 1 := by
          have := nI_i (c - 1)
          rw [show c - 1 + 1 = c by omega] at this
          exact this.symm
        rw [e]
        exact Int32.add_sub_cancel _ _] at h
      obtain ⟨k, hk, e⟩ := wn_nat (by omega) h
      exact ⟨k, by omega, e⟩
  · rintro ⟨k, hk, rfl⟩
    have e : nI c - 1 = nI (c - 1) := by
      have := nI_i (c - 1)
      rw [show c - 1 + 1 = c by omega] at this
      rw [← this]
      exact Int32.add_sub_cancel _ _
    rw [e]
    refine ⟨fun z => ?_, fun z => ?_⟩
    · have := (nI_ltI (b := 0) (by omega) (by decide)).mp z
      omega
    · have := (nI_ltI (by omega) (by omega)).mp z
      omega
