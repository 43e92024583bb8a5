/-! LeasePair.deliver -/
theorem d_LP_deliverAnswer_0 : decode b_LP_deliverAnswer 0 = .ok (.aload_n 0, 1) := by decide +kernel
theorem d_LP_deliverAnswer_1 : decode b_LP_deliverAnswer 1 = .ok (.getfield 31, 3) := by decide +kernel
theorem d_LP_deliverAnswer_4 : decode b_LP_deliverAnswer 4 = .ok (.aload_n 1, 1) := by decide +kernel
theorem d_LP_deliverAnswer_5 : decode b_LP_deliverAnswer 5 = .ok (.getfield 208, 3) := by decide +kernel
theorem d_LP_deliverAnswer_8 : decode b_LP_deliverAnswer 8 = .ok (.aaload, 1) := by decide +kernel
theorem d_LP_deliverAnswer_9 : decode b_LP_deliverAnswer 9 = .ok (.astore_n 2, 1) := by decide +kernel
theorem d_LP_deliverAnswer_10 : decode b_LP_deliverAnswer 10 = .ok (.aload_n 2, 1) := by decide +kernel
theorem d_LP_deliverAnswer_11 : decode b_LP_deliverAnswer 11 = .ok (.aload_n 1, 1) := by decide +kernel
theorem d_LP_deliverAnswer_12 : decode b_LP_deliverAnswer 12 = .ok (.getfield 114, 3) := by decide +kernel
theorem d_LP_deliverAnswer_15 : decode b_LP_deliverAnswer 15 = .ok (.invokevirtual 228, 3) := by decide +kernel
theorem d_LP_deliverAnswer_18 : decode b_LP_deliverAnswer 18 = .ok (.ifCond .ne 5, 3) := by decide +kernel
theorem d_LP_deliverAnswer_21 : decode b_LP_deliverAnswer 21 = .ok (.iconst 0, 1) := by decide +kernel
theorem d_LP_deliverAnswer_22 : decode b_LP_deliverAnswer 22 = .ok (.ireturn, 1) := by decide +kernel
theorem d_LP_deliverAnswer_23 : decode b_LP_deliverAnswer 23 = .ok (.aload_n 1, 1) := by decide +kernel
theorem d_LP_deliverAnswer_24 : decode b_LP_deliverAnswer 24 = .ok (.getfield 108, 3) := by decide +kernel
theorem d_LP_deliverAnswer_27 : decode b_LP_deliverAnswer 27 = .ok (.iconst 1, 1) := by decide +kernel
theorem d_LP_deliverAnswer_28 : decode b_LP_deliverAnswer 28 = .ok (.if_icmp .ne 34, 3) := by decide +kernel
theorem d_LP_deliverAnswer_31 : decode b_LP_deliverAnswer 31 = .ok (.aload_n 2, 1) := by decide +kernel
theorem d_LP_deliverAnswer_32 : decode b_LP_deliverAnswer 32 = .ok (.aload_n 1, 1) := by decide +kernel
theorem d_LP_deliverAnswer_33 : decode b_LP_deliverAnswer 33 = .ok (.getfield 117, 3) := by decide +kernel
theorem d_LP_deliverAnswer_36 : decode b_LP_deliverAnswer 36 = .ok (.aload_n 1, 1) := by decide +kernel
theorem d_LP_deliverAnswer_37 : decode b_LP_deliverAnswer 37 = .ok (.getfield 120, 3) := by decide +kernel
theorem d_LP_deliverAnswer_40 : decode b_LP_deliverAnswer 40 = .ok (.invokevirtual 231, 3) := by decide +kernel
theorem d_LP_deliverAnswer_43 : decode b_LP_deliverAnswer 43 = .ok (.aload_n 0, 1) := by decide +kernel
theorem d_LP_deliverAnswer_44 : decode b_LP_deliverAnswer 44 = .ok (.aload_n 0, 1) := by decide +kernel
theorem d_LP_deliverAnswer_45 : decode b_LP_deliverAnswer 45 = .ok (.getfield 188, 3) := by decide +kernel
theorem d_LP_deliverAnswer_48 : decode b_LP_deliverAnswer 48 = .ok (.aload_n 0, 1) := by decide +kernel
theorem d_LP_deliverAnswer_49 : decode b_LP_deliverAnswer 49 = .ok (.aload_n 1, 1) := by decide +kernel
theorem d_LP_deliverAnswer_50 : decode b_LP_deliverAnswer 50 = .ok (.getfield 117, 3) := by decide +kernel
theorem d_LP_deliverAnswer_53 : decode b_LP_deliverAnswer 53 = .ok (.invokevirtual 235, 3) := by decide +kernel
theorem d_LP_deliverAnswer_56 : decode b_LP_deliverAnswer 56 = .ok (.invokestatic 191, 3) := by decide +kernel
theorem d_LP_deliverAnswer_59 : decode b_LP_deliverAnswer 59 = .ok (.putfield 188, 3) := by decide +kernel
theorem d_LP_deliverAnswer_62 : decode b_LP_deliverAnswer 62 = .ok (.iconst 1, 1) := by decide +kernel
theorem d_LP_deliverAnswer_63 : decode b_LP_deliverAnswer 63 = .ok (.ireturn, 1) := by decide +kernel
set_option maxRecDepth 100000 in
set_option maxHeartbeats 4000000 in
theorem c_LP_deliverAnswer (l : Launch) (K : Kx) (V : Vx) (A B C D : MI) (P : MP) (n : Nat) (cs : CS K V P n) (q : Nat) (hq : V.1 5 q) (x : Msg) (hcm : CM B q x) (c : Nat) (hc : c < 16) (hx1 : x 1 = nI c) : Ct l K md_LP_deliverAnswer (2, 45) 0 0 [.ref (K.ad 0 0), .ref (K.ad 5 q)] V (bk4 A B C D) P (EQ V (some (.int (b01 (x 5 = A 32 c ∧ ¬ A 33 c = 2)))) (bk4 (anA A c x) B C D) P) := by
  refine ct_of [(0, .ref (K.ad 0 0)), (1, .ref (K.ad 5 q))] (by decide) (Nat.le_of_ble_eq_true rfl) (ca_r (ca_r ca_n)) rfl ?_
  intro X hl hX
  have h : OkX X b_LP_deliverAnswer R_LP K := hX.1
  have hN : X.nL = 3 := hX.2.1
  have hlv := cs_lv cs
  have hcv := cs_cv cs hc
  refine j_aload_n h d_LP_deliverAnswer_0 rfl ?_
  refine j_getR h d_LP_deliverAnswer_1 fl_LP_31 rfl (by assumption) (cs_p1 cs) ?_
  refine j_aload_n h d_LP_deliverAnswer_4 rfl ?_
  refine j_get1e (v := nI c) h d_LP_deliverAnswer_5 fl_LP_208 rfl (by assumption) ((hcm.1 1 (by decide)).trans hx1) ?_
  refine j_clis h cs hc d_LP_deliverAnswer_8 ?_
  refine j_astore_n h d_LP_deliverAnswer_9 (Nat.lt_of_lt_of_eq (m := 3) (by decide) hN.symm) ?_
  refine j_aload_n h d_LP_deliverAnswer_10 rfl ?_
  refine j_aload_n h d_LP_deliverAnswer_11 rfl ?_
  refine j_get1e (v := x 5) h d_LP_deliverAnswer_12 fl_LP_114 rfl (by assumption) (hcm.1 5 (by decide)) ?_
  refine j_callV h (c_Cli_awaits _ _ _ _ _ _ _ _ _ hcv _) d_LP_deliverAnswer_15 ml_LP_228 mv_Cli_awaits (by assumption) ⟨rfl, rfl⟩ rfl rfl (Nat.le_of_ble_eq_true rfl) (hR_of hX (by decide) (by decide)) (hf_of hX (by decide) (by decide)) ?_
  rintro _ _ _ _ ⟨rfl, rfl, rfl, rfl⟩
  refine j_if_ne (tgt := 23) h d_LP_deliverAnswer_18 (by decide) (fun c1 => ?_) (fun c1 => ?_)
  · refine j_aload_n h d_LP_deliverAnswer_23 rfl ?_
    refine j_get1e (v := x 3) h d_LP_deliverAnswer_24 fl_LP_108 rfl (by assumption) (hcm.1 3 (by decide)) ?_
    refine j_iconst (v := 1) h d_LP_deliverAnswer_27 (by decide) ?_
    refine j_ic_ne (tgt := 62) h d_LP_deliverAnswer_28 (by decide) (fun c2 => ?_) (fun c2 => ?_)
    · refine j_iconst (v := 1) h d_LP_deliverAnswer_62 (by decide) ?_
      exact j_zret hX d_LP_deliverAnswer_63 rfl (by first | exact Or.inl rfl | exact Or.inr rfl | exact b01_z _ | assumption) (Nat.le_refl _) (Nat.le_refl _) ⟨rfl, by clear hX h hl; first | (simp_all [b01]; done) | grind [b01], by clear hX h hl; first | (simp_all [anA, b01_0, b01_1]; done) | grind [anA, b01_0, b01_1], rfl⟩
    · refine j_aload_n h d_LP_deliverAnswer_31 rfl ?_
      refine j_aload_n h d_LP_deliverAnswer_32 rfl ?_
      refine j_get1e (v := x 4) h d_LP_deliverAnswer_33 fl_LP_117 rfl (by assumption) (hcm.1 4 (by decide)) ?_
      refine j_aload_n h d_LP_deliverAnswer_36 rfl ?_
      refine j_get1e (v := x 6) h d_LP_deliverAnswer_37 fl_LP_120 rfl (by assumption) (hcm.1 6 (by decide)) ?_
      refine j_callV h (c_Cli_takeLease _ _ _ _ _ _ _ _ _ hcv _ _) d_LP_deliverAnswer_40 ml_LP_231 mv_Cli_takeLease (by assumption) ⟨rfl, rfl⟩ rfl rfl (Nat.le_of_ble_eq_true rfl) (hR_of hX (by decide) (by decide)) (hf_of hX (by decide) (by decide)) ?_
      rintro _ _ _ _ ⟨rfl, rfl, rfl, rfl⟩
      refine j_aload_n h d_LP_deliverAnswer_43 rfl ?_
      refine j_aload_n h d_LP_deliverAnswer_44 rfl ?_
      refine j_get0e (v := A 41 0) h d_LP_deliverAnswer_45 fl_LP_188 rfl (by assumption) (by simp [up_rd]) ?_
      refine j_aload_n h d_LP_deliverAnswer_48 rfl ?_
      refine j_aload_n h d_LP_deliverAnswer_49 rfl ?_
      refine j_get1e (v := x 4) h d_LP_deliverAnswer_50 fl_LP_117 rfl (by assumption) (hcm.1 4 (by decide)) ?_
      refine j_callV h (c_LP_countHolders _ _ _ _ _ _ _ _ _ cs _) d_LP_deliverAnswer_53 ml_LP_235 mv_LP_countHolders (by assumption) ⟨rfl, rfl⟩ rfl rfl (Nat.le_of_ble_eq_true rfl) (hR_of hX (by decide) (by decide)) (hf_of hX (by decide) (by decide)) ?_
      rintro _ _ _ _ ⟨rfl, rfl, rfl, rfl⟩
      refine j_mmax h d_LP_deliverAnswer_56 wm_LP_191 (hM_of hX (by decide) (Nat.le_of_ble_eq_true rfl)) (hf_of (mc' := 0) (ms' := 0) hX (by decide) (by decide)) ?_
      refine j_put0 h d_LP_deliverAnswer_59 fw_LP_188 rfl rfl (by assumption) ?_
      refine j_iconst (v := 1) h d_LP_deliverAnswer_62 (by decide) ?_
      exact j_zret hX d_LP_deliverAnswer_63 rfl (by first | exact Or.inl rfl | exact Or.inr rfl | exact b01_z _ | assumption) (Nat.le_refl _) (Nat.le_refl _) ⟨rfl, by clear hX h hl; first | (simp_all [b01]; done) | grind [b01], by clear hX h hl; first | (simp_all [anA, b01_0, b01_1]; done) | grind [anA, b01_0, b01_1], rfl⟩
  · refine j_iconst (v := 0) h d_LP_deliverAnswer_21 (by decide) ?_
    exact j_zret hX d_LP_deliverAnswer_22 rfl (by first | exact Or.inl rfl | exact Or.inr rfl | exact b01_z _ | assumption) (Nat.le_refl _) (Nat.le_refl _) ⟨rfl, by clear hX h hl; first | (simp_all [b01]; done) | grind [b01], by clear hX h hl; first | (simp_all [anA, b01_0, b01_1]; done) | grind [anA, b01_0, b01_1], rfl⟩
theorem c_Srv_hearAck_x (l : Launch) (K : Kx) (V : Vx) (A B C D : MI) (P : MP) (n : Nat) (cs : CS K V P n) (s : Nat) (hs : s < 2) (q : Nat) (hq : V.1 5 q) (a : Nat) (ha : a < n) (x : Msg) (hcm : CM B q x) (h4 : x 0 = 4) (hxa : x 4 = nI a) : Ct l K md_Srv_hearAck (2, 41) 0 0 [.ref (K.ad 1 s), .ref (K.ad 5 q)] V (bk4 A B C D) P (EQ V none (bk4 (hrAck A (32 * s + a) s (x 5) (x 6) (x 7) (x 8)) B C D) P) := by
  have e := c_Srv_hearAck l K V A B C D P n cs s hs q hq a ha ((hcm.1 4 (by decide)).trans hxa)
  rw [show B 85 q = x 5 from hcm.1 5 (by decide), show B 86 q = x 6 from hcm.1 6 (by decide), (hcm.2.2 h4).1, (hcm.2.2 h4).2] at e
  exact e
theorem d_LP_deliver_0 : decode b_LP_deliver 0 = .ok (.aload_n 1, 1) := by decide +kernel
theorem d_LP_deliver_1 : decode b_LP_deliver 1 = .ok (.getfield 202, 3) := by decide +kernel
theorem d_LP_deliver_4 : decode b_LP_deliver 4 = .ok (.iconst 1, 1) := by decide +kernel
theorem d_LP_deliver_5 : decode b_LP_deliver 5 = .ok (.if_icmp .ne 9, 3) := by decide +kernel
theorem d_LP_deliver_8 : decode b_LP_deliver 8 = .ok (.aload_n 0, 1) := by decide +kernel
theorem d_LP_deliver_9 : decode b_LP_deliver 9 = .ok (.aload_n 1, 1) := by decide +kernel
theorem d_LP_deliver_10 : decode b_LP_deliver 10 = .ok (.invokevirtual 205, 3) := by decide +kernel
theorem d_LP_deliver_13 : decode b_LP_deliver 13 = .ok (.ireturn, 1) := by decide +kernel
theorem d_LP_deliver_14 : decode b_LP_deliver 14 = .ok (.aload_n 0, 1) := by decide +kernel
theorem d_LP_deliver_15 : decode b_LP_deliver 15 = .ok (.getfield 22, 3) := by decide +kernel
theorem d_LP_deliver_18 : decode b_LP_deliver 18 = .ok (.aload_n 1, 1) := by decide +kernel
theorem d_LP_deliver_19 : decode b_LP_deliver 19 = .ok (.getfield 208, 3) := by decide +kernel
theorem d_LP_deliver_22 : decode b_LP_deliver 22 = .ok (.aaload, 1) := by decide +kernel
theorem d_LP_deliver_23 : decode b_LP_deliver 23 = .ok (.astore_n 2, 1) := by decide +kernel
theorem d_LP_deliver_24 : decode b_LP_deliver 24 = .ok (.aload_n 2, 1) := by decide +kernel
theorem d_LP_deliver_25 : decode b_LP_deliver 25 = .ok (.aload_n 1, 1) := by decide +kernel
theorem d_LP_deliver_26 : decode b_LP_deliver 26 = .ok (.getfield 202, 3) := by decide +kernel
theorem d_LP_deliver_29 : decode b_LP_deliver 29 = .ok (.invokevirtual 211, 3) := by decide +kernel
theorem d_LP_deliver_32 : decode b_LP_deliver 32 = .ok (.ifCond .ne 5, 3) := by decide +kernel
theorem d_LP_deliver_35 : decode b_LP_deliver 35 = .ok (.iconst 0, 1) := by decide +kernel
theorem d_LP_deliver_36 : decode b_LP_deliver 36 = .ok (.ireturn, 1) := by decide +kernel
theorem d_LP_deliver_37 : decode b_LP_deliver 37 = .ok (.aload_n 1, 1) := by decide +kernel
theorem d_LP_deliver_38 : decode b_LP_deliver 38 = .ok (.getfield 202, 3) := by decide +kernel
theorem d_LP_deliver_41 : decode b_LP_deliver 41 = .ok (.tableswitch 77 0 3 #[31, 77, 48, 60], 31) := by decide +kernel
theorem d_LP_deliver_72 : decode b_LP_deliver 72 = .ok (.aload_n 2, 1) := by decide +kernel
theorem d_LP_deliver_73 : decode b_LP_deliver 73 = .ok (.aload_n 1, 1) := by decide +kernel
theorem d_LP_deliver_74 : decode b_LP_deliver 74 = .ok (.aload_n 0, 1) := by decide +kernel
theorem d_LP_deliver_75 : decode b_LP_deliver 75 = .ok (.aload_n 2, 1) := by decide +kernel
theorem d_LP_deliver_76 : decode b_LP_deliver 76 = .ok (.invokevirtual 89, 3) := by decide +kernel
theorem d_LP_deliver_79 : decode b_LP_deliver 79 = .ok (.aload_n 0, 1) := by decide +kernel
theorem d_LP_deliver_80 : decode b_LP_deliver 80 = .ok (.getfield 39, 3) := by decide +kernel
theorem d_LP_deliver_83 : decode b_LP_deliver 83 = .ok (.invokevirtual 214, 3) := by decide +kernel
theorem d_LP_deliver_86 : decode b_LP_deliver 86 = .ok (.goto 37, 3) := by decide +kernel
theorem d_LP_deliver_89 : decode b_LP_deliver 89 = .ok (.aload_n 2, 1) := by decide +kernel
theorem d_LP_deliver_90 : decode b_LP_deliver 90 = .ok (.aload_n 1, 1) := by decide +kernel
theorem d_LP_deliver_91 : decode b_LP_deliver 91 = .ok (.aload_n 0, 1) := by decide +kernel
theorem d_LP_deliver_92 : decode b_LP_deliver 92 = .ok (.getfield 39, 3) := by decide +kernel
theorem d_LP_deliver_95 : decode b_LP_deliver 95 = .ok (.invokevirtual 218, 3) := by decide +kernel
theorem d_LP_deliver_98 : decode b_LP_deliver 98 = .ok (.goto 25, 3) := by decide +kernel
theorem d_LP_deliver_101 : decode b_LP_deliver 101 = .ok (.aload_n 2, 1) := by decide +kernel
theorem d_LP_deliver_102 : decode b_LP_deliver 102 = .ok (.aload_n 1, 1) := by decide +kernel
theorem d_LP_deliver_103 : decode b_LP_deliver 103 = .ok (.aload_n 0, 1) := by decide +kernel
theorem d_LP_deliver_104 : decode b_LP_deliver 104 = .ok (.aload_n 2, 1) := by decide +kernel
theorem d_LP_deliver_105 : decode b_LP_deliver 105 = .ok (.invokevirtual 89, 3) := by decide +kernel
theorem d_LP_deliver_108 : decode b_LP_deliver 108 = .ok (.aload_n 0, 1) := by decide +kernel
theorem d_LP_deliver_109 : decode b_LP_deliver 109 = .ok (.getfield 39, 3) := by decide +kernel
theorem d_LP_deliver_112 : decode b_LP_deliver 112 = .ok (.invokevirtual 222, 3) := by decide +kernel
theorem d_LP_deliver_115 : decode b_LP_deliver 115 = .ok (.goto 8, 3) := by decide +kernel
theorem d_LP_deliver_118 : decode b_LP_deliver 118 = .ok (.aload_n 2, 1) := by decide +kernel
theorem d_LP_deliver_119 : decode b_LP_deliver 119 = .ok (.aload_n 1, 1) := by decide +kernel
theorem d_LP_deliver_120 : decode b_LP_deliver 120 = .ok (.invokevirtual 225, 3) := by decide +kernel
theorem d_LP_deliver_123 : decode b_LP_deliver 123 = .ok (.iconst 1, 1) := by decide +kernel
theorem d_LP_deliver_124 : decode b_LP_deliver 124 = .ok (.ireturn, 1) := by decide +kernel
set_option maxRecDepth 100000 in
set_option maxHeartbeats 4000000 in
theorem c_LP_deliver (l : Launch) (K : Kx) (V : Vx) (A B C D : MI) (P : MP) (n : Nat) (cs : CS K V P n) (ld sk : Int32) (N T : List Msg) (U : Msg) (hnc : NC K P B ld sk N T U) (q : Nat) (hq : V.1 5 q) (x : Msg) (hcm : CM B q x) (hoff : offR K P q) (hvm : VMsg n x) (hz : ∀ i, A 14 i = 0 ∨ A 14 i = 1) : Ct l K md_LP_deliver (6, 115) 0 0 [.ref (K.ad 0 0), .ref (K.ad 5 q)] V (bk4 A B C D) P (NP K V C D P ld sk (some (.int (dlR A x))) (dlA A n ld x) (dlN A n ld x N) T U) := by
  refine ct_of [(0, .ref (K.ad 0 0)), (1, .ref (K.ad 5 q))] (by decide) (Nat.le_of_ble_eq_true rfl) (ca_r (ca_r ca_n)) rfl ?_
  intro X hl hX
  have h : OkX X b_LP_deliver R_LP K := hX.1
  have hN : X.nL = 3 := hX.2.1
  have hn31 := cs_n31 cs
  have hlv := cs_lv cs
  rcases hvm with ⟨h0, s, c, hs, hc, hx1, hx2, hk⟩ | ⟨h0, c, hc, hx1, hk⟩ | ⟨h0, s, hs, hx1⟩ | ⟨h0, s, a, hs, ha, hx1, hx4, hx11⟩
  · have hsv := cs_sv cs hs
    have hcl : (x 1).toNatClampNeg = s := by rw [hx1]; exact nI_clamp (by omega)
    have eR : dlR A x = hrs A s (x 0) := by unfold dlR; rw [if_neg (by rw [h0]; decide), hcl]
    refine j_aload_n h d_LP_deliver_0 rfl ?_
    refine j_get1e (v := x 0) h d_LP_deliver_1 fl_LP_202 rfl (by assumption) (hcm.1 0 (by decide)) ?_
    refine j_iconst (v := 1) h d_LP_deliver_4 (by decide) ?_
    refine j_ic_ne (tgt := 14) h d_LP_deliver_5 (by decide) (fun _ => ?_) (fun z => absurd (h0.symm.trans z) (by decide))
    refine j_aload_n h d_LP_deliver_14 rfl ?_
    refine j_getR h d_LP_deliver_15 fl_LP_22 rfl (by assumption) (cs_p0 cs) ?_
    refine j_aload_n h d_LP_deliver_18 rfl ?_
    refine j_get1e (v := nI s) h d_LP_deliver_19 fl_LP_208 rfl (by assumption) ((hcm.1 1 (by decide)).trans hx1) ?_
    refine j_srvs h cs hs d_LP_deliver_22 ?_
    refine j_astore_n h d_LP_deliver_23 (Nat.lt_of_lt_of_eq (m := 3) (by decide) hN.symm) ?_
    refine j_aload_n h d_LP_deliver_24 rfl ?_
    refine j_aload_n h d_LP_deliver_25 rfl ?_
    refine j_get1e (v := x 0) h d_LP_deliver_26 fl_LP_202 rfl (by assumption) (hcm.1 0 (by decide)) ?_
    refine j_callV h (c_Srv_hears _ _ _ _ _ _ _ _ _ hsv _) d_LP_deliver_29 ml_LP_211 mv_Srv_hears (by assumption) ⟨rfl, rfl⟩ rfl rfl (Nat.le_of_ble_eq_true rfl) (hR_of hX (by decide) (by decide)) (hf_of hX (by decide) (by decide)) ?_
    rintro _ _ _ _ ⟨rfl, rfl, rfl, rfl⟩
    refine j_if_ne (tgt := 37) h d_LP_deliver_32 (by decide) (fun c1 => ?_) (fun c1 => ?_)
    · rcases hk with hk | ⟨hk | hk, a, ha, hx4⟩
      · skip
        have hr1 : hrs A s (x 0) = 1 := (b01_z _).resolve_left c1
        rw [eR, hr1, show dlA A n ld x = hnwA A s n ld (clk A s) x by unfold dlA; rw [if_neg (by rw [h0]; decide), hcl, if_neg (by rw [hr1]; decide), if_pos h0, if_neg (by rw [hk]; decide), if_neg (by rw [hk]; decide)], show dlN A n ld x N = hnwN A s n ld (clk A s) x N by unfold dlN; rw [if_neg (by rw [h0]; decide), hcl, if_neg (by rw [hr1]; decide), if_pos h0, if_neg (by rw [hk]; decide), if_neg (by rw [hk]; decide)]] at hX
        refine j_aload_n h d_LP_deliver_37 rfl ?_
        refine j_get1e (v := x 0) h d_LP_deliver_38 fl_LP_202 rfl (by assumption) (hcm.1 0 (by decide)) ?_
        rw [show (Value.int (x 0)) = Value.int 0 by rw [h0]]
        refine j_tabIn (off := 31) (tgt := 72) h d_LP_deliver_41 (by decide +kernel) (by decide +kernel) (by decide +kernel) (by decide) ?_
        refine j_aload_n h d_LP_deliver_72 rfl ?_
        refine j_aload_n h d_LP_deliver_73 rfl ?_
        refine j_aload_n h d_LP_deliver_74 rfl ?_
        refine j_aload_n h d_LP_deliver_75 rfl ?_
        refine j_callV h (c_LP_clockOf _ _ _ _ _ _ _ _ hlv _ hsv) d_LP_deliver_76 ml_LP_89 mv_LP_clockOf (by assumption) ⟨rfl, rfl⟩ rfl rfl (Nat.le_of_ble_eq_true rfl) (hR_of hX (by decide) (by decide)) (hf_of hX (by decide) (by decide)) ?_
        rintro _ _ _ _ ⟨rfl, rfl, rfl, rfl⟩
        refine j_aload_n h d_LP_deliver_79 rfl ?_
        refine j_getR h d_LP_deliver_80 fl_LP_39 rfl (by assumption) (cs_p2 cs) ?_
        refine j_callV h (c_Srv_hearRequest_new _ _ _ _ _ _ _ _ _ cs _ hs _ _ _ _ _ hnc _ hq _ hcm hoff _ hk) d_LP_deliver_83 ml_LP_214 mv_Srv_hearRequest (by assumption) ⟨rfl, rfl⟩ rfl rfl (Nat.le_of_ble_eq_true rfl) (hR_of hX (by decide) (by decide)) (hf_of hX (by decide) (by decide)) ?_
        rintro _ _ _ _ ⟨rfl, rfl, rfl, B2, rfl, hn2⟩
        refine j_goto (tgt := 123) h d_LP_deliver_86 (by decide) ?_
        refine j_iconst (v := 1) h d_LP_deliver_123 (by decide) ?_
        exact j_zret hX d_LP_deliver_124 rfl (by first | exact Or.inl rfl | exact Or.inr rfl | exact b01_z _ | assumption) (Nat.le_refl _) (Nat.le_refl _) ⟨rfl, rfl, rfl, _, rfl, hn2⟩
      · have hca : (x 4).toNatClampNeg = a := by rw [hx4]; exact nI_clamp (by omega)
        have hr1 : hrs A s (x 0) = 1 := (b01_z _).resolve_left c1
        rw [eR, hr1, show dlA A n ld x = hrnA A s a ld (clk A s) x by unfold dlA; rw [if_neg (by rw [h0]; decide), hcl, if_neg (by rw [hr1]; decide), if_pos h0, if_neg (by rw [hk]; decide), if_pos hk, hca], show dlN A n ld x N = hrnN A s a ld (clk A s) x N by unfold dlN; rw [if_neg (by rw [h0]; decide), hcl, if_neg (by rw [hr1]; decide), if_pos h0, if_neg (by rw [hk]; decide), if_pos hk, hca]] at hX
        refine j_aload_n h d_LP_deliver_37 rfl ?_
        refine j_get1e (v := x 0) h d_LP_deliver_38 fl_LP_202 rfl (by assumption) (hcm.1 0 (by decide)) ?_
        rw [show (Value.int (x 0)) = Value.int 0 by rw [h0]]
        refine j_tabIn (off := 31) (tgt := 72) h d_LP_deliver_41 (by decide +kernel) (by decide +kernel) (by decide +kernel) (by decide) ?_
        refine j_aload_n h d_LP_deliver_72 rfl ?_
        refine j_aload_n h d_LP_deliver_73 rfl ?_
        refine j_aload_n h d_LP_deliver_74 rfl ?_
        refine j_aload_n h d_LP_deliver_75 rfl ?_
        refine j_callV h (c_LP_clockOf _ _ _ _ _ _ _ _ hlv _ hsv) d_LP_deliver_76 ml_LP_89 mv_LP_clockOf (by assumption) ⟨rfl, rfl⟩ rfl rfl (Nat.le_of_ble_eq_true rfl) (hR_of hX (by decide) (by decide)) (hf_of hX (by decide) (by decide)) ?_
        rintro _ _ _ _ ⟨rfl, rfl, rfl, rfl⟩
        refine j_aload_n h d_LP_deliver_79 rfl ?_
        refine j_getR h d_LP_deliver_80 fl_LP_39 rfl (by assumption) (cs_p2 cs) ?_
        refine j_callV h (c_Srv_hearRequest_renew _ _ _ _ _ _ _ _ _ cs _ hs _ _ _ _ _ hnc _ hq _ hcm hoff _ hk _ ha hx4) d_LP_deliver_83 ml_LP_214 mv_Srv_hearRequest (by assumption) ⟨rfl, rfl⟩ rfl rfl (Nat.le_of_ble_eq_true rfl) (hR_of hX (by decide) (by decide)) (hf_of hX (by decide) (by decide)) ?_
        rintro _ _ _ _ ⟨rfl, rfl, rfl, B2, rfl, hn2⟩
        refine j_goto (tgt := 123) h d_LP_deliver_86 (by decide) ?_
        refine j_iconst (v := 1) h d_LP_deliver_123 (by decide) ?_
        exact j_zret hX d_LP_deliver_124 rfl (by first | exact Or.inl rfl | exact Or.inr rfl | exact b01_z _ | assumption) (Nat.le_refl _) (Nat.le_refl _) ⟨rfl, rfl, rfl, _, rfl, hn2⟩
      · have hca : (x 4).toNatClampNeg = a := by rw [hx4]; exact nI_clamp (by omega)
        have hr1 : hrs A s (x 0) = 1 := (b01_z _).resolve_left c1
        rw [eR, hr1, show dlA A n ld x = hrRel A (32 * s + a) s (x 2) (x 5) by unfold dlA; rw [if_neg (by rw [h0]; decide), hcl, if_neg (by rw [hr1]; decide), if_pos h0, if_pos hk, hca], show dlN A n ld x N = N by unfold dlN; rw [if_neg (by rw [h0]; decide), hcl, if_neg (by rw [hr1]; decide), if_pos h0, if_pos hk]] at hX
        refine j_aload_n h d_LP_deliver_37 rfl ?_
        refine j_get1e (v := x 0) h d_LP_deliver_38 fl_LP_202 rfl (by assumption) (hcm.1 0 (by decide)) ?_
        rw [show (Value.int (x 0)) = Value.int 0 by rw [h0]]
        refine j_tabIn (off := 31) (tgt := 72) h d_LP_deliver_41 (by decide +kernel) (by decide +kernel) (by decide +kernel) (by decide) ?_
        refine j_aload_n h d_LP_deliver_72 rfl ?_
        refine j_aload_n h d_LP_deliver_73 rfl ?_
        refine j_aload_n h d_LP_deliver_74 rfl ?_
        refine j_aload_n h d_LP_deliver_75 rfl ?_
        refine j_callV h (c_LP_clockOf _ _ _ _ _ _ _ _ hlv _ hsv) d_LP_deliver_76 ml_LP_89 mv_LP_clockOf (by assumption) ⟨rfl, rfl⟩ rfl rfl (Nat.le_of_ble_eq_true rfl) (hR_of hX (by decide) (by decide)) (hf_of hX (by decide) (by decide)) ?_
        rintro _ _ _ _ ⟨rfl, rfl, rfl, rfl⟩
        refine j_aload_n h d_LP_deliver_79 rfl ?_
        refine j_getR h d_LP_deliver_80 fl_LP_39 rfl (by assumption) (cs_p2 cs) ?_
        refine j_callV h (c_Srv_hearRequest_rel _ _ _ _ _ _ _ _ _ cs _ hs _ _ _ _ _ hnc _ hq _ hcm hoff _ hk _ ha hx4) d_LP_deliver_83 ml_LP_214 mv_Srv_hearRequest (by assumption) ⟨rfl, rfl⟩ rfl rfl (Nat.le_of_ble_eq_true rfl) (hR_of hX (by decide) (by decide)) (hf_of hX (by decide) (by decide)) ?_
        rintro _ _ _ _ ⟨rfl, rfl, rfl, B2, rfl, hn2⟩
        refine j_goto (tgt := 123) h d_LP_deliver_86 (by decide) ?_
        refine j_iconst (v := 1) h d_LP_deliver_123 (by decide) ?_
        exact j_zret hX d_LP_deliver_124 rfl (by first | exact Or.inl rfl | exact Or.inr rfl | exact b01_z _ | assumption) (Nat.le_refl _) (Nat.le_refl _) ⟨rfl, rfl, rfl, _, rfl, hn2⟩
    · have c1 : hrs A s (x 0) = 0 := c1
      rw [eR, c1, show dlA A n ld x = A by unfold dlA; rw [if_neg (by rw [h0]; decide), hcl, if_pos c1], show dlN A n ld x N = N by unfold dlN; rw [if_neg (by rw [h0]; decide), hcl, if_pos c1]] at hX
      refine j_iconst (v := 0) h d_LP_deliver_35 (by decide) ?_
      exact j_zret hX d_LP_deliver_36 rfl (by first | exact Or.inl rfl | exact Or.inr rfl | exact b01_z _ | assumption) (Nat.le_refl _) (Nat.le_refl _) ⟨rfl, rfl, rfl, _, rfl, hnc⟩
  · have hcl : (x 1).toNatClampNeg = c := by rw [hx1]; exact nI_clamp (by omega)
    rw [show dlR A x = b01 (x 5 = A 32 c ∧ ¬ A 33 c = 2) by unfold dlR; rw [if_pos h0, hcl], show dlA A n ld x = anA A c x by unfold dlA; rw [if_pos h0, hcl], show dlN A n ld x N = N by unfold dlN; rw [if_pos h0]] at hX
    refine j_aload_n h d_LP_deliver_0 rfl ?_
    refine j_get1e (v := x 0) h d_LP_deliver_1 fl_LP_202 rfl (by assumption) (hcm.1 0 (by decide)) ?_
    refine j_iconst (v := 1) h d_LP_deliver_4 (by decide) ?_
    refine j_ic_ne (tgt := 14) h d_LP_deliver_5 (by decide) (fun z => absurd h0 z) (fun _ => ?_)
    refine j_aload_n h d_LP_deliver_8 rfl ?_
    refine j_aload_n h d_LP_deliver_9 rfl ?_
    refine j_callV h (c_LP_deliverAnswer _ _ _ _ _ _ _ _ _ cs _ hq _ hcm _ hc hx1) d_LP_deliver_10 ml_LP_205 mv_LP_deliverAnswer (by assumption) ⟨rfl, rfl⟩ rfl rfl (Nat.le_of_ble_eq_true rfl) (hR_of hX (by decide) (by decide)) (hf_of hX (by decide) (by decide)) ?_
    rintro _ _ _ _ ⟨rfl, rfl, rfl, rfl⟩
    exact j_zret hX d_LP_deliver_13 rfl (by first | exact Or.inl rfl | exact Or.inr rfl | exact b01_z _ | assumption) (Nat.le_refl _) (Nat.le_refl _) ⟨rfl, rfl, rfl, _, rfl, hnc⟩
  · have hsv := cs_sv cs hs
    have hcl : (x 1).toNatClampNeg = s := by rw [hx1]; exact nI_clamp (by omega)
    have eR : dlR A x = hrs A s (x 0) := by unfold dlR; rw [if_neg (by rw [h0]; decide), hcl]
    refine j_aload_n h d_LP_deliver_0 rfl ?_
    refine j_get1e (v := x 0) h d_LP_deliver_1 fl_LP_202 rfl (by assumption) (hcm.1 0 (by decide)) ?_
    refine j_iconst (v := 1) h d_LP_deliver_4 (by decide) ?_
    refine j_ic_ne (tgt := 14) h d_LP_deliver_5 (by decide) (fun _ => ?_) (fun z => absurd (h0.symm.trans z) (by decide))
    refine j_aload_n h d_LP_deliver_14 rfl ?_
    refine j_getR h d_LP_deliver_15 fl_LP_22 rfl (by assumption) (cs_p0 cs) ?_
    refine j_aload_n h d_LP_deliver_18 rfl ?_
    refine j_get1e (v := nI s) h d_LP_deliver_19 fl_LP_208 rfl (by assumption) ((hcm.1 1 (by decide)).trans hx1) ?_
    refine j_srvs h cs hs d_LP_deliver_22 ?_
    refine j_astore_n h d_LP_deliver_23 (Nat.lt_of_lt_of_eq (m := 3) (by decide) hN.symm) ?_
    refine j_aload_n h d_LP_deliver_24 rfl ?_
    refine j_aload_n h d_LP_deliver_25 rfl ?_
    refine j_get1e (v := x 0) h d_LP_deliver_26 fl_LP_202 rfl (by assumption) (hcm.1 0 (by decide)) ?_
    refine j_callV h (c_Srv_hears _ _ _ _ _ _ _ _ _ hsv _) d_LP_deliver_29 ml_LP_211 mv_Srv_hears (by assumption) ⟨rfl, rfl⟩ rfl rfl (Nat.le_of_ble_eq_true rfl) (hR_of hX (by decide) (by decide)) (hf_of hX (by decide) (by decide)) ?_
    rintro _ _ _ _ ⟨rfl, rfl, rfl, rfl⟩
    refine j_if_ne (tgt := 37) h d_LP_deliver_32 (by decide) (fun c1 => ?_) (fun c1 => ?_)
    · have hr1 : hrs A s (x 0) = 1 := (b01_z _).resolve_left c1
      rw [eR, hr1, show dlA A n ld x = hhA A s n (x 5) by unfold dlA; rw [if_neg (by rw [h0]; decide), hcl, if_neg (by rw [hr1]; decide), if_neg (by rw [h0]; decide), if_pos h0], show dlN A n ld x N = hhN A s n (x 5) N by unfold dlN; rw [if_neg (by rw [h0]; decide), hcl, if_neg (by rw [hr1]; decide), if_neg (by rw [h0]; decide), if_pos h0]] at hX
      refine j_aload_n h d_LP_deliver_37 rfl ?_
      refine j_get1e (v := x 0) h d_LP_deliver_38 fl_LP_202 rfl (by assumption) (hcm.1 0 (by decide)) ?_
      rw [show (Value.int (x 0)) = Value.int 2 by rw [h0]]
      refine j_tabIn (off := 48) (tgt := 89) h d_LP_deliver_41 (by decide +kernel) (by decide +kernel) (by decide +kernel) (by decide) ?_
      refine j_aload_n h d_LP_deliver_89 rfl ?_
      refine j_aload_n h d_LP_deliver_90 rfl ?_
      refine j_aload_n h d_LP_deliver_91 rfl ?_
      refine j_getR h d_LP_deliver_92 fl_LP_39 rfl (by assumption) (cs_p2 cs) ?_
      refine j_callV h (c_Srv_hearHello _ _ _ _ _ _ _ _ _ cs _ hs _ _ _ _ _ hnc _ hq _ hcm hz) d_LP_deliver_95 ml_LP_218 mv_Srv_hearHello (by assumption) ⟨rfl, rfl⟩ rfl rfl (Nat.le_of_ble_eq_true rfl) (hR_of hX (by decide) (by decide)) (hf_of hX (by decide) (by decide)) ?_
      rintro _ _ _ _ ⟨rfl, rfl, rfl, B2, rfl, hn2⟩
      refine j_goto (tgt := 123) h d_LP_deliver_98 (by decide) ?_
      refine j_iconst (v := 1) h d_LP_deliver_123 (by decide) ?_
      exact j_zret hX d_LP_deliver_124 rfl (by first | exact Or.inl rfl | exact Or.inr rfl | exact b01_z _ | assumption) (Nat.le_refl _) (Nat.le_refl _) ⟨rfl, rfl, rfl, _, rfl, hn2⟩
    · have c1 : hrs A s (x 0) = 0 := c1
      rw [eR, c1, show dlA A n ld x = A by unfold dlA; rw [if_neg (by rw [h0]; decide), hcl, if_pos c1], show dlN A n ld x N = N by unfold dlN; rw [if_neg (by rw [h0]; decide), hcl, if_pos c1]] at hX
      refine j_iconst (v := 0) h d_LP_deliver_35 (by decide) ?_
      exact j_zret hX d_LP_deliver_36 rfl (by first | exact Or.inl rfl | exact Or.inr rfl | exact b01_z _ | assumption) (Nat.le_refl _) (Nat.le_refl _) ⟨rfl, rfl, rfl, _, rfl, hnc⟩
  · have hca : (x 4).toNatClampNeg = a := by rw [hx4]; exact nI_clamp (by omega)
    rcases h0 with h0 | h0
    · have hsv := cs_sv cs hs
      have hcl : (x 1).toNatClampNeg = s := by rw [hx1]; exact nI_clamp (by omega)
      have eR : dlR A x = hrs A s (x 0) := by unfold dlR; rw [if_neg (by rw [h0]; decide), hcl]
      refine j_aload_n h d_LP_deliver_0 rfl ?_
      refine j_get1e (v := x 0) h d_LP_deliver_1 fl_LP_202 rfl (by assumption) (hcm.1 0 (by decide)) ?_
      refine j_iconst (v := 1) h d_LP_deliver_4 (by decide) ?_
      refine j_ic_ne (tgt := 14) h d_LP_deliver_5 (by decide) (fun _ => ?_) (fun z => absurd (h0.symm.trans z) (by decide))
      refine j_aload_n h d_LP_deliver_14 rfl ?_
      refine j_getR h d_LP_deliver_15 fl_LP_22 rfl (by assumption) (cs_p0 cs) ?_
      refine j_aload_n h d_LP_deliver_18 rfl ?_
      refine j_get1e (v := nI s) h d_LP_deliver_19 fl_LP_208 rfl (by assumption) ((hcm.1 1 (by decide)).trans hx1) ?_
      refine j_srvs h cs hs d_LP_deliver_22 ?_
      refine j_astore_n h d_LP_deliver_23 (Nat.lt_of_lt_of_eq (m := 3) (by decide) hN.symm) ?_
      refine j_aload_n h d_LP_deliver_24 rfl ?_
      refine j_aload_n h d_LP_deliver_25 rfl ?_
      refine j_get1e (v := x 0) h d_LP_deliver_26 fl_LP_202 rfl (by assumption) (hcm.1 0 (by decide)) ?_
      refine j_callV h (c_Srv_hears _ _ _ _ _ _ _ _ _ hsv _) d_LP_deliver_29 ml_LP_211 mv_Srv_hears (by assumption) ⟨rfl, rfl⟩ rfl rfl (Nat.le_of_ble_eq_true rfl) (hR_of hX (by decide) (by decide)) (hf_of hX (by decide) (by decide)) ?_
      rintro _ _ _ _ ⟨rfl, rfl, rfl, rfl⟩
      refine j_if_ne (tgt := 37) h d_LP_deliver_32 (by decide) (fun c1 => ?_) (fun c1 => ?_)
      · have hr1 : hrs A s (x 0) = 1 := (b01_z _).resolve_left c1
        rw [eR, hr1, show dlA A n ld x = hupA A (32 * s + a) s n (clk A s) x by unfold dlA; rw [if_neg (by rw [h0]; decide), hcl, if_neg (by rw [hr1]; decide), if_neg (by rw [h0]; decide), if_neg (by rw [h0]; decide), if_pos h0, hca], show dlN A n ld x N = hupN A s a n (clk A s) x N by unfold dlN; rw [if_neg (by rw [h0]; decide), hcl, if_neg (by rw [hr1]; decide), if_neg (by rw [h0]; decide), if_neg (by rw [h0]; decide), if_pos h0, hca]] at hX
        refine j_aload_n h d_LP_deliver_37 rfl ?_
        refine j_get1e (v := x 0) h d_LP_deliver_38 fl_LP_202 rfl (by assumption) (hcm.1 0 (by decide)) ?_
        rw [show (Value.int (x 0)) = Value.int 3 by rw [h0]]
        refine j_tabIn (off := 60) (tgt := 101) h d_LP_deliver_41 (by decide +kernel) (by decide +kernel) (by decide +kernel) (by decide) ?_
        refine j_aload_n h d_LP_deliver_101 rfl ?_
        refine j_aload_n h d_LP_deliver_102 rfl ?_
        refine j_aload_n h d_LP_deliver_103 rfl ?_
        refine j_aload_n h d_LP_deliver_104 rfl ?_
        refine j_callV h (c_LP_clockOf _ _ _ _ _ _ _ _ hlv _ hsv) d_LP_deliver_105 ml_LP_89 mv_LP_clockOf (by assumption) ⟨rfl, rfl⟩ rfl rfl (Nat.le_of_ble_eq_true rfl) (hR_of hX (by decide) (by decide)) (hf_of hX (by decide) (by decide)) ?_
        rintro _ _ _ _ ⟨rfl, rfl, rfl, rfl⟩
        refine j_aload_n h d_LP_deliver_108 rfl ?_
        refine j_getR h d_LP_deliver_109 fl_LP_39 rfl (by assumption) (cs_p2 cs) ?_
        refine j_callV h (c_Srv_hearUpdate _ _ _ _ _ _ _ _ _ cs _ hs _ _ _ _ _ hnc _ hq _ hcm h0 hoff _ ha hx4 _) d_LP_deliver_112 ml_LP_222 mv_Srv_hearUpdate (by assumption) ⟨rfl, rfl⟩ rfl rfl (Nat.le_of_ble_eq_true rfl) (hR_of hX (by decide) (by decide)) (hf_of hX (by decide) (by decide)) ?_
        rintro _ _ _ _ ⟨rfl, rfl, rfl, B2, rfl, hn2⟩
        refine j_goto (tgt := 123) h d_LP_deliver_115 (by decide) ?_
        refine j_iconst (v := 1) h d_LP_deliver_123 (by decide) ?_
        exact j_zret hX d_LP_deliver_124 rfl (by first | exact Or.inl rfl | exact Or.inr rfl | exact b01_z _ | assumption) (Nat.le_refl _) (Nat.le_refl _) ⟨rfl, rfl, rfl, _, rfl, hn2⟩
      · have c1 : hrs A s (x 0) = 0 := c1
        rw [eR, c1, show dlA A n ld x = A by unfold dlA; rw [if_neg (by rw [h0]; decide), hcl, if_pos c1], show dlN A n ld x N = N by unfold dlN; rw [if_neg (by rw [h0]; decide), hcl, if_pos c1]] at hX
        refine j_iconst (v := 0) h d_LP_deliver_35 (by decide) ?_
        exact j_zret hX d_LP_deliver_36 rfl (by first | exact Or.inl rfl | exact Or.inr rfl | exact b01_z _ | assumption) (Nat.le_refl _) (Nat.le_refl _) ⟨rfl, rfl, rfl, _, rfl, hnc⟩
    · have hsv := cs_sv cs hs
      have hcl : (x 1).toNatClampNeg = s := by rw [hx1]; exact nI_clamp (by omega)
      have eR : dlR A x = hrs A s (x 0) := by unfold dlR; rw [if_neg (by rw [h0]; decide), hcl]
      refine j_aload_n h d_LP_deliver_0 rfl ?_
      refine j_get1e (v := x 0) h d_LP_deliver_1 fl_LP_202 rfl (by assumption) (hcm.1 0 (by decide)) ?_
      refine j_iconst (v := 1) h d_LP_deliver_4 (by decide) ?_
      refine j_ic_ne (tgt := 14) h d_LP_deliver_5 (by decide) (fun _ => ?_) (fun z => absurd (h0.symm.trans z) (by decide))
      refine j_aload_n h d_LP_deliver_14 rfl ?_
      refine j_getR h d_LP_deliver_15 fl_LP_22 rfl (by assumption) (cs_p0 cs) ?_
      refine j_aload_n h d_LP_deliver_18 rfl ?_
      refine j_get1e (v := nI s) h d_LP_deliver_19 fl_LP_208 rfl (by assumption) ((hcm.1 1 (by decide)).trans hx1) ?_
      refine j_srvs h cs hs d_LP_deliver_22 ?_
      refine j_astore_n h d_LP_deliver_23 (Nat.lt_of_lt_of_eq (m := 3) (by decide) hN.symm) ?_
      refine j_aload_n h d_LP_deliver_24 rfl ?_
      refine j_aload_n h d_LP_deliver_25 rfl ?_
      refine j_get1e (v := x 0) h d_LP_deliver_26 fl_LP_202 rfl (by assumption) (hcm.1 0 (by decide)) ?_
      refine j_callV h (c_Srv_hears _ _ _ _ _ _ _ _ _ hsv _) d_LP_deliver_29 ml_LP_211 mv_Srv_hears (by assumption) ⟨rfl, rfl⟩ rfl rfl (Nat.le_of_ble_eq_true rfl) (hR_of hX (by decide) (by decide)) (hf_of hX (by decide) (by decide)) ?_
      rintro _ _ _ _ ⟨rfl, rfl, rfl, rfl⟩
      refine j_if_ne (tgt := 37) h d_LP_deliver_32 (by decide) (fun c1 => ?_) (fun c1 => ?_)
      · have hr1 : hrs A s (x 0) = 1 := (b01_z _).resolve_left c1
        rw [eR, hr1, show dlA A n ld x = hrAck A (32 * s + a) s (x 5) (x 6) (x 7) (x 8) by unfold dlA; rw [if_neg (by rw [h0]; decide), hcl, if_neg (by rw [hr1]; decide), if_neg (by rw [h0]; decide), if_neg (by rw [h0]; decide), if_neg (by rw [h0]; decide), hca], show dlN A n ld x N = N by unfold dlN; rw [if_neg (by rw [h0]; decide), hcl, if_neg (by rw [hr1]; decide), if_neg (by rw [h0]; decide), if_neg (by rw [h0]; decide), if_neg (by rw [h0]; decide)]] at hX
        refine j_aload_n h d_LP_deliver_37 rfl ?_
        refine j_get1e (v := x 0) h d_LP_deliver_38 fl_LP_202 rfl (by assumption) (hcm.1 0 (by decide)) ?_
        rw [show (Value.int (x 0)) = Value.int 4 by rw [h0]]
        refine j_tabOut (tgt := 118) h d_LP_deliver_41 (by decide +kernel) (by decide) ?_
        refine j_aload_n h d_LP_deliver_118 rfl ?_
        refine j_aload_n h d_LP_deliver_119 rfl ?_
        refine j_callV h (c_Srv_hearAck_x _ _ _ _ _ _ _ _ _ cs _ hs _ hq _ ha _ hcm h0 hx4) d_LP_deliver_120 ml_LP_225 mv_Srv_hearAck (by assumption) ⟨rfl, rfl⟩ rfl rfl (Nat.le_of_ble_eq_true rfl) (hR_of hX (by decide) (by decide)) (hf_of hX (by decide) (by decide)) ?_
        rintro _ _ _ _ ⟨rfl, rfl, rfl, rfl⟩
        refine j_iconst (v := 1) h d_LP_deliver_123 (by decide) ?_
        exact j_zret hX d_LP_deliver_124 rfl (by first | exact Or.inl rfl | exact Or.inr rfl | exact b01_z _ | assumption) (Nat.le_refl _) (Nat.le_refl _) ⟨rfl, rfl, rfl, _, rfl, hnc⟩
      · have c1 : hrs A s (x 0) = 0 := c1
        rw [eR, c1, show dlA A n ld x = A by unfold dlA; rw [if_neg (by rw [h0]; decide), hcl, if_pos c1], show dlN A n ld x N = N by unfold dlN; rw [if_neg (by rw [h0]; decide), hcl, if_pos c1]] at hX
        refine j_iconst (v := 0) h d_LP_deliver_35 (by decide) ?_
        exact j_zret hX d_LP_deliver_36 rfl (by first | exact Or.inl rfl | exact Or.inr rfl | exact b01_z _ | assumption) (Nat.le_refl _) (Nat.le_refl _) ⟨rfl, rfl, rfl, _, rfl, hnc⟩
