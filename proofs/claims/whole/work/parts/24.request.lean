/-! hearing a request -/
def fA (A : MI) (s : Nat) (v : Int32) : MI := if v = -1 then A else wr A s
def fN (A : MI) (s : Nat) (v c num : Int32) (N : List Msg) : List Msg := if fA A s v 0 s = 0 then N else netput (if v = -1 then m_ans s c num 0 (-1) 0 else m_ans s c num 1 v (fA A s v 12 (32 * s + v.toNatClampNeg))) N
def hrnA (A : MI) (s a : Nat) (ld t : Int32) (x : Msg) : MI := if (rnw A (32 * s + a) s a ld t (x 2) (x 6) (x 5)).1 = -2 then A else fA (rnw A (32 * s + a) s a ld t (x 2) (x 6) (x 5)).2 s (rnw A (32 * s + a) s a ld t (x 2) (x 6) (x 5)).1
def hrnN (A : MI) (s a : Nat) (ld t : Int32) (x : Msg) (N : List Msg) : List Msg := if (rnw A (32 * s + a) s a ld t (x 2) (x 6) (x 5)).1 = -2 then N else fN (rnw A (32 * s + a) s a ld t (x 2) (x 6) (x 5)).2 s (rnw A (32 * s + a) s a ld t (x 2) (x 6) (x 5)).1 (x 2) (x 5) N
def hnwA (A : MI) (s n : Nat) (ld t : Int32) (x : Msg) : MI := if lsdTo A s (x 2) t n 0 = -1 then fA (lnwA A s n ld t (x 2) (x 6) (x 5)) s (lstOwn A s n 0) else hrnA A s (lsdTo A s (x 2) t n 0).toNatClampNeg ld t x
def hnwN (A : MI) (s n : Nat) (ld t : Int32) (x : Msg) (N : List Msg) : List Msg := if lsdTo A s (x 2) t n 0 = -1 then fN (lnwA A s n ld t (x 2) (x 6) (x 5)) s (lstOwn A s n 0) (x 2) (x 5) N else hrnN A s (lsdTo A s (x 2) t n 0).toNatClampNeg ld t x N
theorem rnw_c (A : MI) (r s a : Nat) (ld t c amt num : Int32) : rnw A r s a ld t c amt num = (-1, A) ∨ rnw A r s a ld t c amt num = (-2, A) ∨ (rnw A r s a ld t c amt num).1 = nI a := by
  unfold rnw
  split
  · exact Or.inl rfl
  · split
    · exact Or.inr (Or.inl rfl)
    · split
      · exact Or.inl rfl
      · exact Or.inr (Or.inr rfl)
theorem nI_m2 {a : Nat} (h : a < 2 ^ 31) : ¬ nI a = -2 := by
  intro q
  have := nI_toInt h
  rw [q] at this
  simp at this
theorem c_Srv_renew_x (l : Launch) (K : Kx) (V : Vx) (A B C D : MI) (P : MP) (n : Nat) (cs : CS K V P n) (s : Nat) (hs : s < 2) (q : Nat) (hq : V.1 5 q) (a : Nat) (ha : a < n) (t ld sk : Int32) (x : Msg) (hcm : CM B q x) (kb : KB B ld sk) : Ct l K md_Srv_renew (1, 21) 0 0 [.ref (K.ad 1 s), .ref (K.ad 5 q), .int (nI a), .int t] V (bk4 A B C D) P (EQ V (some (.int (rnw A (32 * s + a) s a ld t (x 2) (x 6) (x 5)).1)) (bk4 (rnw A (32 * s + a) s a ld t (x 2) (x 6) (x 5)).2 B C D) P) := by
  have e := c_Srv_renew l K V A B C D P n cs s hs q hq a ha t
  rw [(kb s hs).2.2.1, show B 82 q = x 2 from hcm.1 2 (by decide), show B 86 q = x 6 from hcm.1 6 (by decide), show B 85 q = x 5 from hcm.1 5 (by decide)] at e
  exact e
theorem c_Srv_release_x (l : Launch) (K : Kx) (V : Vx) (A B C D : MI) (P : MP) (n : Nat) (cs : CS K V P n) (s : Nat) (hs : s < 2) (q : Nat) (hq : V.1 5 q) (a : Nat) (ha : a < n) (x : Msg) (hcm : CM B q x) (hxa : x 4 = nI a) : Ct l K md_Srv_release (2, 41) 0 0 [.ref (K.ad 1 s), .ref (K.ad 5 q)] V (bk4 A B C D) P (EQ V none (bk4 (hrRel A (32 * s + a) s (x 2) (x 5)) B C D) P) := by
  have e := c_Srv_release l K V A B C D P n cs s hs q hq a ha ((hcm.1 4 (by decide)).trans hxa)
  rw [show B 82 q = x 2 from hcm.1 2 (by decide), show B 85 q = x 5 from hcm.1 5 (by decide)] at e
  exact e
theorem d_Srv_hearRequest_0 : decode b_Srv_hearRequest 0 = .ok (.aload_n 1, 1) := by decide +kernel
theorem d_Srv_hearRequest_1 : decode b_Srv_hearRequest 1 = .ok (.getfield 74, 3) := by decide +kernel
theorem d_Srv_hearRequest_4 : decode b_Srv_hearRequest 4 = .ok (.iconst 2, 1) := by decide +kernel
theorem d_Srv_hearRequest_5 : decode b_Srv_hearRequest 5 = .ok (.if_icmp .ne 9, 3) := by decide +kernel
theorem d_Srv_hearRequest_8 : decode b_Srv_hearRequest 8 = .ok (.aload_n 0, 1) := by decide +kernel
theorem d_Srv_hearRequest_9 : decode b_Srv_hearRequest 9 = .ok (.aload_n 1, 1) := by decide +kernel
theorem d_Srv_hearRequest_10 : decode b_Srv_hearRequest 10 = .ok (.invokevirtual 77, 3) := by decide +kernel
theorem d_Srv_hearRequest_13 : decode b_Srv_hearRequest 13 = .ok (.return_, 1) := by decide +kernel
theorem d_Srv_hearRequest_14 : decode b_Srv_hearRequest 14 = .ok (.aload_n 1, 1) := by decide +kernel
theorem d_Srv_hearRequest_15 : decode b_Srv_hearRequest 15 = .ok (.getfield 74, 3) := by decide +kernel
theorem d_Srv_hearRequest_18 : decode b_Srv_hearRequest 18 = .ok (.iconst 1, 1) := by decide +kernel
theorem d_Srv_hearRequest_19 : decode b_Srv_hearRequest 19 = .ok (.if_icmp .ne 10, 3) := by decide +kernel
theorem d_Srv_hearRequest_22 : decode b_Srv_hearRequest 22 = .ok (.aload_n 1, 1) := by decide +kernel
theorem d_Srv_hearRequest_23 : decode b_Srv_hearRequest 23 = .ok (.getfield 81, 3) := by decide +kernel
theorem d_Srv_hearRequest_26 : decode b_Srv_hearRequest 26 = .ok (.goto 12, 3) := by decide +kernel
theorem d_Srv_hearRequest_29 : decode b_Srv_hearRequest 29 = .ok (.aload_n 0, 1) := by decide +kernel
theorem d_Srv_hearRequest_30 : decode b_Srv_hearRequest 30 = .ok (.aload_n 1, 1) := by decide +kernel
theorem d_Srv_hearRequest_31 : decode b_Srv_hearRequest 31 = .ok (.getfield 84, 3) := by decide +kernel
theorem d_Srv_hearRequest_34 : decode b_Srv_hearRequest 34 = .ok (.iload_n 2, 1) := by decide +kernel
theorem d_Srv_hearRequest_35 : decode b_Srv_hearRequest 35 = .ok (.invokevirtual 87, 3) := by decide +kernel
theorem d_Srv_hearRequest_38 : decode b_Srv_hearRequest 38 = .ok (.istore 4, 2) := by decide +kernel
theorem d_Srv_hearRequest_40 : decode b_Srv_hearRequest 40 = .ok (.iload 4, 2) := by decide +kernel
theorem d_Srv_hearRequest_42 : decode b_Srv_hearRequest 42 = .ok (.iconst (-1), 1) := by decide +kernel
theorem d_Srv_hearRequest_43 : decode b_Srv_hearRequest 43 = .ok (.if_icmp .ne 12, 3) := by decide +kernel
theorem d_Srv_hearRequest_46 : decode b_Srv_hearRequest 46 = .ok (.aload_n 0, 1) := by decide +kernel
theorem d_Srv_hearRequest_47 : decode b_Srv_hearRequest 47 = .ok (.aload_n 1, 1) := by decide +kernel
theorem d_Srv_hearRequest_48 : decode b_Srv_hearRequest 48 = .ok (.iload_n 2, 1) := by decide +kernel
theorem d_Srv_hearRequest_49 : decode b_Srv_hearRequest 49 = .ok (.invokevirtual 91, 3) := by decide +kernel
theorem d_Srv_hearRequest_52 : decode b_Srv_hearRequest 52 = .ok (.goto 11, 3) := by decide +kernel
theorem d_Srv_hearRequest_55 : decode b_Srv_hearRequest 55 = .ok (.aload_n 0, 1) := by decide +kernel
theorem d_Srv_hearRequest_56 : decode b_Srv_hearRequest 56 = .ok (.aload_n 1, 1) := by decide +kernel
theorem d_Srv_hearRequest_57 : decode b_Srv_hearRequest 57 = .ok (.iload 4, 2) := by decide +kernel
theorem d_Srv_hearRequest_59 : decode b_Srv_hearRequest 59 = .ok (.iload_n 2, 1) := by decide +kernel
theorem d_Srv_hearRequest_60 : decode b_Srv_hearRequest 60 = .ok (.invokevirtual 95, 3) := by decide +kernel
theorem d_Srv_hearRequest_63 : decode b_Srv_hearRequest 63 = .ok (.istore 5, 2) := by decide +kernel
theorem d_Srv_hearRequest_65 : decode b_Srv_hearRequest 65 = .ok (.iload 5, 2) := by decide +kernel
theorem d_Srv_hearRequest_67 : decode b_Srv_hearRequest 67 = .ok (.bipush (-2), 2) := by decide +kernel
theorem d_Srv_hearRequest_69 : decode b_Srv_hearRequest 69 = .ok (.if_icmp .ne 4, 3) := by decide +kernel
theorem d_Srv_hearRequest_72 : decode b_Srv_hearRequest 72 = .ok (.return_, 1) := by decide +kernel
theorem d_Srv_hearRequest_73 : decode b_Srv_hearRequest 73 = .ok (.iload 5, 2) := by decide +kernel
theorem d_Srv_hearRequest_75 : decode b_Srv_hearRequest 75 = .ok (.iconst (-1), 1) := by decide +kernel
theorem d_Srv_hearRequest_76 : decode b_Srv_hearRequest 76 = .ok (.if_icmp .eq 7, 3) := by decide +kernel
theorem d_Srv_hearRequest_79 : decode b_Srv_hearRequest 79 = .ok (.aload_n 0, 1) := by decide +kernel
theorem d_Srv_hearRequest_80 : decode b_Srv_hearRequest 80 = .ok (.invokevirtual 65, 3) := by decide +kernel
theorem d_Srv_hearRequest_83 : decode b_Srv_hearRequest 83 = .ok (.aload_n 0, 1) := by decide +kernel
theorem d_Srv_hearRequest_84 : decode b_Srv_hearRequest 84 = .ok (.getfield 33, 3) := by decide +kernel
theorem d_Srv_hearRequest_87 : decode b_Srv_hearRequest 87 = .ok (.ifCond .eq 11, 3) := by decide +kernel
theorem d_Srv_hearRequest_90 : decode b_Srv_hearRequest 90 = .ok (.aload_n 0, 1) := by decide +kernel
theorem d_Srv_hearRequest_91 : decode b_Srv_hearRequest 91 = .ok (.aload_n 1, 1) := by decide +kernel
theorem d_Srv_hearRequest_92 : decode b_Srv_hearRequest 92 = .ok (.iload 5, 2) := by decide +kernel
theorem d_Srv_hearRequest_94 : decode b_Srv_hearRequest 94 = .ok (.aload_n 3, 1) := by decide +kernel
theorem d_Srv_hearRequest_95 : decode b_Srv_hearRequest 95 = .ok (.invokevirtual 99, 3) := by decide +kernel
theorem d_Srv_hearRequest_98 : decode b_Srv_hearRequest 98 = .ok (.return_, 1) := by decide +kernel
set_option maxRecDepth 100000 in
set_option maxHeartbeats 4000000 in
theorem c_Srv_hearRequest_rel (l : Launch) (K : Kx) (V : Vx) (A B C D : MI) (P : MP) (n : Nat) (cs : CS K V P n) (s : Nat) (hs : s < 2) (ld sk : Int32) (N T : List Msg) (U : Msg) (hnc : NC K P B ld sk N T U) (q : Nat) (hq : V.1 5 q) (x : Msg) (hcm : CM B q x) (hoff : offR K P q) (t : Int32) (hk : x 3 = 2) (a : Nat) (ha : a < n) (hxa : x 4 = nI a) : Ct l K md_Srv_hearRequest (5, 68) 0 0 [.ref (K.ad 1 s), .ref (K.ad 5 q), .int t, .ref (K.ad 4 0)] V (bk4 A B C D) P (NP K V C D P ld sk none (hrRel A (32 * s + a) s (x 2) (x 5)) N T U) := by
  refine ct_of [(0, .ref (K.ad 1 s)), (1, .ref (K.ad 5 q)), (2, .int t), (3, .ref (K.ad 4 0))] (by decide) (Nat.le_of_ble_eq_true rfl) (ca_r (ca_r (ca_i (ca_r ca_n)))) rfl ?_
  intro X hl hX
  have h : OkX X b_Srv_hearRequest R_Srv K := hX.1
  have hN : X.nL = 6 := hX.2.1
  have hsv := cs_sv cs hs
  have kb := hnc.1
  have hn31 := cs_n31 cs
  refine j_aload_n h d_Srv_hearRequest_0 rfl ?_
  refine j_get1e (v := x 3) h d_Srv_hearRequest_1 fl_Srv_74 rfl (by assumption) (hcm.1 3 (by decide)) ?_
  refine j_iconst (v := 2) h d_Srv_hearRequest_4 (by decide) ?_
  refine j_ic_ne (tgt := 14) h d_Srv_hearRequest_5 (by decide) (fun z => absurd hk z) (fun _ => ?_)
  refine j_aload_n h d_Srv_hearRequest_8 rfl ?_
  refine j_aload_n h d_Srv_hearRequest_9 rfl ?_
  refine j_callV h (c_Srv_release_x _ _ _ _ _ _ _ _ _ cs _ hs _ hq _ ha _ hcm hxa) d_Srv_hearRequest_10 ml_Srv_77 mv_Srv_release (by assumption) ⟨rfl, rfl⟩ rfl rfl (Nat.le_of_ble_eq_true rfl) (hR_of hX (by decide) (by decide)) (hf_of hX (by decide) (by decide)) ?_
  rintro _ _ _ _ ⟨rfl, rfl, rfl, rfl⟩
  exact j_vret hX d_Srv_hearRequest_13 rfl (Nat.le_refl _) (Nat.le_refl _) ⟨rfl, rfl, rfl, _, rfl, hnc⟩
set_option maxRecDepth 100000 in
set_option maxHeartbeats 4000000 in
theorem c_Srv_hearRequest_renew (l : Launch) (K : Kx) (V : Vx) (A B C D : MI) (P : MP) (n : Nat) (cs : CS K V P n) (s : Nat) (hs : s < 2) (ld sk : Int32) (N T : List Msg) (U : Msg) (hnc : NC K P B ld sk N T U) (q : Nat) (hq : V.1 5 q) (x : Msg) (hcm : CM B q x) (hoff : offR K P q) (t : Int32) (hk : x 3 = 1) (a : Nat) (ha : a < n) (hxa : x 4 = nI a) : Ct l K md_Srv_hearRequest (5, 71) 0 0 [.ref (K.ad 1 s), .ref (K.ad 5 q), .int t, .ref (K.ad 4 0)] V (bk4 A B C D) P (NP K V C D P ld sk none (hrnA A s a ld t x) (hrnN A s a ld t x N) T U) := by
  refine ct_of [(0, .ref (K.ad 1 s)), (1, .ref (K.ad 5 q)), (2, .int t), (3, .ref (K.ad 4 0))] (by decide) (Nat.le_of_ble_eq_true rfl) (ca_r (ca_r (ca_i (ca_r ca_n)))) rfl ?_
  intro X hl hX
  have h : OkX X b_Srv_hearRequest R_Srv K := hX.1
  have hN : X.nL = 6 := hX.2.1
  have hsv := cs_sv cs hs
  have kb := hnc.1
  have hn31 := cs_n31 cs
  refine j_aload_n h d_Srv_hearRequest_0 rfl ?_
  refine j_get1e (v := x 3) h d_Srv_hearRequest_1 fl_Srv_74 rfl (by assumption) (hcm.1 3 (by decide)) ?_
  refine j_iconst (v := 2) h d_Srv_hearRequest_4 (by decide) ?_
  refine j_ic_ne (tgt := 14) h d_Srv_hearRequest_5 (by decide) (fun _ => ?_) (fun z => absurd (hk.symm.trans z) (by decide))
  refine j_aload_n h d_Srv_hearRequest_14 rfl ?_
  refine j_get1e (v := x 3) h d_Srv_hearRequest_15 fl_Srv_74 rfl (by assumption) (hcm.1 3 (by decide)) ?_
  refine j_iconst (v := 1) h d_Srv_hearRequest_18 (by decide) ?_
  refine j_ic_ne (tgt := 29) h d_Srv_hearRequest_19 (by decide) (fun z => absurd hk z) (fun _ => ?_)
  refine j_aload_n h d_Srv_hearRequest_22 rfl ?_
  refine j_get1e (v := nI a) h d_Srv_hearRequest_23 fl_Srv_81 rfl (by assumption) ((hcm.1 4 (by decide)).trans hxa) ?_
  refine j_goto (tgt := 38) h d_Srv_hearRequest_26 (by decide) ?_
  refine j_istore h d_Srv_hearRequest_38 (Nat.lt_of_lt_of_eq (m := 6) (by decide) hN.symm) ?_
  refine j_iload h d_Srv_hearRequest_40 rfl ?_
  refine j_iconst (v := -1) h d_Srv_hearRequest_42 (by decide) ?_
  refine j_ic_ne (tgt := 55) h d_Srv_hearRequest_43 (by decide) (fun _ => ?_) (fun z => absurd z (nI_m1 (by omega)))
  refine j_aload_n h d_Srv_hearRequest_55 rfl ?_
  refine j_aload_n h d_Srv_hearRequest_56 rfl ?_
  refine j_iload h d_Srv_hearRequest_57 rfl ?_
  refine j_iload_n h d_Srv_hearRequest_59 rfl ?_
  refine j_callV h (c_Srv_renew_x _ _ _ _ _ _ _ _ _ cs _ hs _ hq _ ha _ _ _ _ hcm kb) d_Srv_hearRequest_60 ml_Srv_95 mv_Srv_renew (by assumption) ⟨rfl, rfl⟩ rfl rfl (Nat.le_of_ble_eq_true rfl) (hR_of hX (by decide) (by decide)) (hf_of hX (by decide) (by decide)) ?_
  rintro _ _ _ _ ⟨rfl, rfl, rfl, rfl⟩
  rcases rnw_c A (32 * s + a) s a ld t (x 2) (x 6) (x 5) with e | e | e
  · have e1 : (rnw A (32 * s + a) s a ld t (x 2) (x 6) (x 5)).1 = -1 := by rw [e]
    have e2 : (rnw A (32 * s + a) s a ld t (x 2) (x 6) (x 5)).2 = A := by rw [e]
    rw [show hrnA A s a ld t x = fA A s (-1) by unfold hrnA; rw [e1, e2, if_neg (by decide)], show hrnN A s a ld t x N = fN A s (-1) (x 2) (x 5) N by unfold hrnN; rw [e1, e2, if_neg (by decide)]] at hX
    rw [e1, e2]
    refine j_istore h d_Srv_hearRequest_63 (Nat.lt_of_lt_of_eq (m := 6) (by decide) hN.symm) ?_
    refine j_iload h d_Srv_hearRequest_65 rfl ?_
    refine j_bipush (v := -2) h d_Srv_hearRequest_67 (by decide) ?_
    refine j_ic_ne (tgt := 73) h d_Srv_hearRequest_69 (by decide) (fun _ => ?_) (fun z => absurd z (by decide))
    refine j_iload h d_Srv_hearRequest_73 rfl ?_
    refine j_iconst (v := -1) h d_Srv_hearRequest_75 (by decide) ?_
    refine j_ic_eq (tgt := 83) h d_Srv_hearRequest_76 (by decide) (fun _ => ?_) (fun z => absurd rfl z)
    refine j_aload_n h d_Srv_hearRequest_83 rfl ?_
    refine j_get0 h d_Srv_hearRequest_84 fl_Srv_33 rfl (by assumption) ?_
    refine j_if_eq (tgt := 98) h d_Srv_hearRequest_87 (by decide) (fun c1 => ?_) (fun c1 => ?_)
    · exact j_vret hX d_Srv_hearRequest_98 rfl (Nat.le_refl _) (Nat.le_refl _) ⟨rfl, rfl, rfl, _, by rw [fA, if_pos rfl], by first | (rw [fN, fA, if_pos rfl, if_pos (by assumption)]; exact hnc) | (rw [fN, fA, if_pos rfl, if_neg (by assumption), if_pos rfl]; exact hn2)⟩
    · refine j_aload_n h d_Srv_hearRequest_90 rfl ?_
      refine j_aload_n h d_Srv_hearRequest_91 rfl ?_
      refine j_iload h d_Srv_hearRequest_92 rfl ?_
      refine j_aload_n h d_Srv_hearRequest_94 rfl ?_
      refine j_callV h (c_Srv_answer_no _ _ _ _ _ _ _ _ _ cs _ hs _ _ _ _ _ hnc _ hq _ hcm hoff) d_Srv_hearRequest_95 ml_Srv_99 mv_Srv_answer (by assumption) ⟨rfl, rfl⟩ rfl rfl (Nat.le_of_ble_eq_true rfl) (hR_of hX (by decide) (by decide)) (hf_of hX (by decide) (by decide)) ?_
      rintro _ _ _ _ ⟨rfl, rfl, rfl, B2, rfl, hn2⟩
      exact j_vret hX d_Srv_hearRequest_98 rfl (Nat.le_refl _) (Nat.le_refl _) ⟨rfl, rfl, rfl, _, by rw [fA, if_pos rfl], by first | (rw [fN, fA, if_pos rfl, if_pos (by assumption)]; exact hnc) | (rw [fN, fA, if_pos rfl, if_neg (by assumption), if_pos rfl]; exact hn2)⟩
  · have e1 : (rnw A (32 * s + a) s a ld t (x 2) (x 6) (x 5)).1 = -2 := by rw [e]
    have e2 : (rnw A (32 * s + a) s a ld t (x 2) (x 6) (x 5)).2 = A := by rw [e]
    rw [show hrnA A s a ld t x = A by unfold hrnA; rw [e1, if_pos rfl], show hrnN A s a ld t x N = N by unfold hrnN; rw [e1, if_pos rfl]] at hX
    rw [e1, e2]
    refine j_istore h d_Srv_hearRequest_63 (Nat.lt_of_lt_of_eq (m := 6) (by decide) hN.symm) ?_
    refine j_iload h d_Srv_hearRequest_65 rfl ?_
    refine j_bipush (v := -2) h d_Srv_hearRequest_67 (by decide) ?_
    refine j_ic_ne (tgt := 73) h d_Srv_hearRequest_69 (by decide) (fun z => absurd rfl z) (fun _ => ?_)
    exact j_vret hX d_Srv_hearRequest_72 rfl (Nat.le_refl _) (Nat.le_refl _) ⟨rfl, rfl, rfl, _, rfl, hnc⟩
  · rw [show hrnA A s a ld t x = fA (rnw A (32 * s + a) s a ld t (x 2) (x 6) (x 5)).2 s (nI a) by unfold hrnA; rw [e, if_neg (nI_m2 (by omega))], show hrnN A s a ld t x N = fN (rnw A (32 * s + a) s a ld t (x 2) (x 6) (x 5)).2 s (nI a) (x 2) (x 5) N by unfold hrnN; rw [e, if_neg (nI_m2 (by omega))]] at hX
    rw [e]
    refine j_istore h d_Srv_hearRequest_63 (Nat.lt_of_lt_of_eq (m := 6) (by decide) hN.symm) ?_
    refine j_iload h d_Srv_hearRequest_65 rfl ?_
    refine j_bipush (v := -2) h d_Srv_hearRequest_67 (by decide) ?_
    refine j_ic_ne (tgt := 73) h d_Srv_hearRequest_69 (by decide) (fun _ => ?_) (fun z => absurd z (nI_m2 (by omega)))
    refine j_iload h d_Srv_hearRequest_73 rfl ?_
    refine j_iconst (v := -1) h d_Srv_hearRequest_75 (by decide) ?_
    refine j_ic_eq (tgt := 83) h d_Srv_hearRequest_76 (by decide) (fun z => absurd z (nI_m1 (by omega))) (fun _ => ?_)
    refine j_aload_n h d_Srv_hearRequest_79 rfl ?_
    refine j_callV h (c_Srv_write _ _ _ _ _ _ _ _ _ hsv) d_Srv_hearRequest_80 ml_Srv_65 mv_Srv_write (by assumption) ⟨rfl, rfl⟩ rfl rfl (Nat.le_of_ble_eq_true rfl) (hR_of hX (by decide) (by decide)) (hf_of hX (by decide) (by decide)) ?_
    rintro _ _ _ _ ⟨rfl, rfl, rfl, rfl⟩
    refine j_aload_n h d_Srv_hearRequest_83 rfl ?_
    refine j_get0 h d_Srv_hearRequest_84 fl_Srv_33 rfl (by assumption) ?_
    refine j_if_eq (tgt := 98) h d_Srv_hearRequest_87 (by decide) (fun c1 => ?_) (fun c1 => ?_)
    · exact j_vret hX d_Srv_hearRequest_98 rfl (Nat.le_refl _) (Nat.le_refl _) ⟨rfl, rfl, rfl, _, by rw [fA, if_neg (nI_m1 (by omega))], by first | (rw [fN, fA, if_neg (nI_m1 (by omega)), if_pos (by assumption)]; exact hnc) | (rw [fN, fA, if_neg (nI_m1 (by omega)), if_neg (by assumption), if_neg (nI_m1 (by omega)), nI_clamp (by omega)]; exact hn2)⟩
    · refine j_aload_n h d_Srv_hearRequest_90 rfl ?_
      refine j_aload_n h d_Srv_hearRequest_91 rfl ?_
      refine j_iload h d_Srv_hearRequest_92 rfl ?_
      refine j_aload_n h d_Srv_hearRequest_94 rfl ?_
      refine j_callV h (c_Srv_answer_yes _ _ _ _ _ _ _ _ _ cs _ hs _ _ _ _ _ hnc _ hq _ hcm hoff _ ha) d_Srv_hearRequest_95 ml_Srv_99 mv_Srv_answer (by assumption) ⟨rfl, rfl⟩ rfl rfl (Nat.le_of_ble_eq_true rfl) (hR_of hX (by decide) (by decide)) (hf_of hX (by decide) (by decide)) ?_
      rintro _ _ _ _ ⟨rfl, rfl, rfl, B2, rfl, hn2⟩
      exact j_vret hX d_Srv_hearRequest_98 rfl (Nat.le_refl _) (Nat.le_refl _) ⟨rfl, rfl, rfl, _, by rw [fA, if_neg (nI_m1 (by omega))], by first | (rw [fN, fA, if_neg (nI_m1 (by omega)), if_pos (by assumption)]; exact hnc) | (rw [fN, fA, if_neg (nI_m1 (by omega)), if_neg (by assumption), if_neg (nI_m1 (by omega)), nI_clamp (by omega)]; exact hn2)⟩
set_option maxRecDepth 100000 in
set_option maxHeartbeats 4000000 in
theorem c_Srv_hearRequest_new (l : Launch) (K : Kx) (V : Vx) (A B C D : MI) (P : MP) (n : Nat) (cs : CS K V P n) (s : Nat) (hs : s < 2) (ld sk : Int32) (N T : List Msg) (U : Msg) (hnc : NC K P B ld sk N T U) (q : Nat) (hq : V.1 5 q) (x : Msg) (hcm : CM B q x) (hoff : offR K P q) (t : Int32) (hk : x 3 = 0) : Ct l K md_Srv_hearRequest (5, 71) 0 0 [.ref (K.ad 1 s), .ref (K.ad 5 q), .int t, .ref (K.ad 4 0)] V (bk4 A B C D) P (NP K V C D P ld sk none (hnwA A s n ld t x) (hnwN A s n ld t x N) T U) := by
  refine ct_of [(0, .ref (K.ad 1 s)), (1, .ref (K.ad 5 q)), (2, .int t), (3, .ref (K.ad 4 0))] (by decide) (Nat.le_of_ble_eq_true rfl) (ca_r (ca_r (ca_i (ca_r ca_n)))) rfl ?_
  intro X hl hX
  have h : OkX X b_Srv_hearRequest R_Srv K := hX.1
  have hN : X.nL = 6 := hX.2.1
  have hsv := cs_sv cs hs
  have kb := hnc.1
  have hn31 := cs_n31 cs
  refine j_aload_n h d_Srv_hearRequest_0 rfl ?_
  refine j_get1e (v := x 3) h d_Srv_hearRequest_1 fl_Srv_74 rfl (by assumption) (hcm.1 3 (by decide)) ?_
  refine j_iconst (v := 2) h d_Srv_hearRequest_4 (by decide) ?_
  refine j_ic_ne (tgt := 14) h d_Srv_hearRequest_5 (by decide) (fun _ => ?_) (fun z => absurd (hk.symm.trans z) (by decide))
  refine j_aload_n h d_Srv_hearRequest_14 rfl ?_
  refine j_get1e (v := x 3) h d_Srv_hearRequest_15 fl_Srv_74 rfl (by assumption) (hcm.1 3 (by decide)) ?_
  refine j_iconst (v := 1) h d_Srv_hearRequest_18 (by decide) ?_
  refine j_ic_ne (tgt := 29) h d_Srv_hearRequest_19 (by decide) (fun _ => ?_) (fun z => absurd (hk.symm.trans z) (by decide))
  refine j_aload_n h d_Srv_hearRequest_29 rfl ?_
  refine j_aload_n h d_Srv_hearRequest_30 rfl ?_
  refine j_get1e (v := x 2) h d_Srv_hearRequest_31 fl_Srv_84 rfl (by assumption) (hcm.1 2 (by decide)) ?_
  refine j_iload_n h d_Srv_hearRequest_34 rfl ?_
  refine j_callV h (c_Srv_leasedTo _ _ _ _ _ _ _ _ _ cs _ hs _ _) d_Srv_hearRequest_35 ml_Srv_87 mv_Srv_leasedTo (by assumption) ⟨rfl, rfl⟩ rfl rfl (Nat.le_of_ble_eq_true rfl) (hR_of hX (by decide) (by decide)) (hf_of hX (by decide) (by decide)) ?_
  rintro _ _ _ _ ⟨rfl, rfl, rfl, rfl⟩
  rcases lsdTo_c A s (x 2) t n 0 with e | ⟨a, ha, e⟩
  · rw [show hnwA A s n ld t x = fA (lnwA A s n ld t (x 2) (x 6) (x 5)) s (lstOwn A s n 0) by unfold hnwA; rw [if_pos e], show hnwN A s n ld t x N = fN (lnwA A s n ld t (x 2) (x 6) (x 5)) s (lstOwn A s n 0) (x 2) (x 5) N by unfold hnwN; rw [if_pos e]] at hX
    rw [e]
    refine j_istore h d_Srv_hearRequest_38 (Nat.lt_of_lt_of_eq (m := 6) (by decide) hN.symm) ?_
    refine j_iload h d_Srv_hearRequest_40 rfl ?_
    refine j_iconst (v := -1) h d_Srv_hearRequest_42 (by decide) ?_
    refine j_ic_ne (tgt := 55) h d_Srv_hearRequest_43 (by decide) (fun z => absurd rfl z) (fun _ => ?_)
    refine j_aload_n h d_Srv_hearRequest_46 rfl ?_
    refine j_aload_n h d_Srv_hearRequest_47 rfl ?_
    refine j_iload_n h d_Srv_hearRequest_48 rfl ?_
    refine j_callV h (c_Srv_leaseNew _ _ _ _ _ _ _ _ _ cs _ hs _ _ kb _ hq _ hcm _) d_Srv_hearRequest_49 ml_Srv_91 mv_Srv_leaseNew (by assumption) ⟨rfl, rfl⟩ rfl rfl (Nat.le_of_ble_eq_true rfl) (hR_of hX (by decide) (by decide)) (hf_of hX (by decide) (by decide)) ?_
    rintro _ _ _ _ ⟨rfl, rfl, rfl, rfl⟩
    refine j_goto (tgt := 63) h d_Srv_hearRequest_52 (by decide) ?_
    rcases lstOwn_c A s n 0 with e1 | ⟨a, ha, e1, -⟩
    · rw [e1] at hX ⊢
      refine j_istore h d_Srv_hearRequest_63 (Nat.lt_of_lt_of_eq (m := 6) (by decide) hN.symm) ?_
      refine j_iload h d_Srv_hearRequest_65 rfl ?_
      refine j_bipush (v := -2) h d_Srv_hearRequest_67 (by decide) ?_
      refine j_ic_ne (tgt := 73) h d_Srv_hearRequest_69 (by decide) (fun _ => ?_) (fun z => absurd z (by decide))
      refine j_iload h d_Srv_hearRequest_73 rfl ?_
      refine j_iconst (v := -1) h d_Srv_hearRequest_75 (by decide) ?_
      refine j_ic_eq (tgt := 83) h d_Srv_hearRequest_76 (by decide) (fun _ => ?_) (fun z => absurd rfl z)
      refine j_aload_n h d_Srv_hearRequest_83 rfl ?_
      refine j_get0 h d_Srv_hearRequest_84 fl_Srv_33 rfl (by assumption) ?_
      refine j_if_eq (tgt := 98) h d_Srv_hearRequest_87 (by decide) (fun c1 => ?_) (fun c1 => ?_)
      · exact j_vret hX d_Srv_hearRequest_98 rfl (Nat.le_refl _) (Nat.le_refl _) ⟨rfl, rfl, rfl, _, by rw [fA, if_pos rfl], by first | (rw [fN, fA, if_pos rfl, if_pos (by assumption)]; exact hnc) | (rw [fN, fA, if_pos rfl, if_neg (by assumption), if_pos rfl]; exact hn2)⟩
      · refine j_aload_n h d_Srv_hearRequest_90 rfl ?_
        refine j_aload_n h d_Srv_hearRequest_91 rfl ?_
        refine j_iload h d_Srv_hearRequest_92 rfl ?_
        refine j_aload_n h d_Srv_hearRequest_94 rfl ?_
        refine j_callV h (c_Srv_answer_no _ _ _ _ _ _ _ _ _ cs _ hs _ _ _ _ _ hnc _ hq _ hcm hoff) d_Srv_hearRequest_95 ml_Srv_99 mv_Srv_answer (by assumption) ⟨rfl, rfl⟩ rfl rfl (Nat.le_of_ble_eq_true rfl) (hR_of hX (by decide) (by decide)) (hf_of hX (by decide) (by decide)) ?_
        rintro _ _ _ _ ⟨rfl, rfl, rfl, B2, rfl, hn2⟩
        exact j_vret hX d_Srv_hearRequest_98 rfl (Nat.le_refl _) (Nat.le_refl _) ⟨rfl, rfl, rfl, _, by rw [fA, if_pos rfl], by first | (rw [fN, fA, if_pos rfl, if_pos (by assumption)]; exact hnc) | (rw [fN, fA, if_pos rfl, if_neg (by assumption), if_pos rfl]; exact hn2)⟩
    · have ha : a < n := by omega
      rw [e1] at hX ⊢
      refine j_istore h d_Srv_hearRequest_63 (Nat.lt_of_lt_of_eq (m := 6) (by decide) hN.symm) ?_
      refine j_iload h d_Srv_hearRequest_65 rfl ?_
      refine j_bipush (v := -2) h d_Srv_hearRequest_67 (by decide) ?_
      refine j_ic_ne (tgt := 73) h d_Srv_hearRequest_69 (by decide) (fun _ => ?_) (fun z => absurd z (nI_m2 (by omega)))
      refine j_iload h d_Srv_hearRequest_73 rfl ?_
      refine j_iconst (v := -1) h d_Srv_hearRequest_75 (by decide) ?_
      refine j_ic_eq (tgt := 83) h d_Srv_hearRequest_76 (by decide) (fun z => absurd z (nI_m1 (by omega))) (fun _ => ?_)
      refine j_aload_n h d_Srv_hearRequest_79 rfl ?_
      refine j_callV h (c_Srv_write _ _ _ _ _ _ _ _ _ hsv) d_Srv_hearRequest_80 ml_Srv_65 mv_Srv_write (by assumption) ⟨rfl, rfl⟩ rfl rfl (Nat.le_of_ble_eq_true rfl) (hR_of hX (by decide) (by decide)) (hf_of hX (by decide) (by decide)) ?_
      rintro _ _ _ _ ⟨rfl, rfl, rfl, rfl⟩
      refine j_aload_n h d_Srv_hearRequest_83 rfl ?_
      refine j_get0 h d_Srv_hearRequest_84 fl_Srv_33 rfl (by assumption) ?_
      refine j_if_eq (tgt := 98) h d_Srv_hearRequest_87 (by decide) (fun c1 => ?_) (fun c1 => ?_)
      · exact j_vret hX d_Srv_hearRequest_98 rfl (Nat.le_refl _) (Nat.le_refl _) ⟨rfl, rfl, rfl, _, by rw [fA, if_neg (nI_m1 (by omega))], by first | (rw [fN, fA, if_neg (nI_m1 (by omega)), if_pos (by assumption)]; exact hnc) | (rw [fN, fA, if_neg (nI_m1 (by omega)), if_neg (by assumption), if_neg (nI_m1 (by omega)), nI_clamp (by omega)]; exact hn2)⟩
      · refine j_aload_n h d_Srv_hearRequest_90 rfl ?_
        refine j_aload_n h d_Srv_hearRequest_91 rfl ?_
        refine j_iload h d_Srv_hearRequest_92 rfl ?_
        refine j_aload_n h d_Srv_hearRequest_94 rfl ?_
        refine j_callV h (c_Srv_answer_yes _ _ _ _ _ _ _ _ _ cs _ hs _ _ _ _ _ hnc _ hq _ hcm hoff _ ha) d_Srv_hearRequest_95 ml_Srv_99 mv_Srv_answer (by assumption) ⟨rfl, rfl⟩ rfl rfl (Nat.le_of_ble_eq_true rfl) (hR_of hX (by decide) (by decide)) (hf_of hX (by decide) (by decide)) ?_
        rintro _ _ _ _ ⟨rfl, rfl, rfl, B2, rfl, hn2⟩
        exact j_vret hX d_Srv_hearRequest_98 rfl (Nat.le_refl _) (Nat.le_refl _) ⟨rfl, rfl, rfl, _, by rw [fA, if_neg (nI_m1 (by omega))], by first | (rw [fN, fA, if_neg (nI_m1 (by omega)), if_pos (by assumption)]; exact hnc) | (rw [fN, fA, if_neg (nI_m1 (by omega)), if_neg (by assumption), if_neg (nI_m1 (by omega)), nI_clamp (by omega)]; exact hn2)⟩
  · have ha : a < n := by omega
    rw [show hnwA A s n ld t x = hrnA A s a ld t x by unfold hnwA; rw [e, if_neg (nI_m1 (by omega)), nI_clamp (by omega)], show hnwN A s n ld t x N = hrnN A s a ld t x N by unfold hnwN; rw [e, if_neg (nI_m1 (by omega)), nI_clamp (by omega)]] at hX
    rw [e]
    refine j_istore h d_Srv_hearRequest_38 (Nat.lt_of_lt_of_eq (m := 6) (by decide) hN.symm) ?_
    refine j_iload h d_Srv_hearRequest_40 rfl ?_
    refine j_iconst (v := -1) h d_Srv_hearRequest_42 (by decide) ?_
    refine j_ic_ne (tgt := 55) h d_Srv_hearRequest_43 (by decide) (fun _ => ?_) (fun z => absurd z (nI_m1 (by omega)))
    refine j_aload_n h d_Srv_hearRequest_55 rfl ?_
    refine j_aload_n h d_Srv_hearRequest_56 rfl ?_
    refine j_iload h d_Srv_hearRequest_57 rfl ?_
    refine j_iload_n h d_Srv_hearRequest_59 rfl ?_
    refine j_callV h (c_Srv_renew_x _ _ _ _ _ _ _ _ _ cs _ hs _ hq _ ha _ _ _ _ hcm kb) d_Srv_hearRequest_60 ml_Srv_95 mv_Srv_renew (by assumption) ⟨rfl, rfl⟩ rfl rfl (Nat.le_of_ble_eq_true rfl) (hR_of hX (by decide) (by decide)) (hf_of hX (by decide) (by decide)) ?_
    rintro _ _ _ _ ⟨rfl, rfl, rfl, rfl⟩
    rcases rnw_c A (32 * s + a) s a ld t (x 2) (x 6) (x 5) with e | e | e
    · have e1 : (rnw A (32 * s + a) s a ld t (x 2) (x 6) (x 5)).1 = -1 := by rw [e]
      have e2 : (rnw A (32 * s + a) s a ld t (x 2) (x 6) (x 5)).2 = A := by rw [e]
      rw [show hrnA A s a ld t x = fA A s (-1) by unfold hrnA; rw [e1, e2, if_neg (by decide)], show hrnN A s a ld t x N = fN A s (-1) (x 2) (x 5) N by unfold hrnN; rw [e1, e2, if_neg (by decide)]] at hX
      rw [e1, e2]
      refine j_istore h d_Srv_hearRequest_63 (Nat.lt_of_lt_of_eq (m := 6) (by decide) hN.symm) ?_
      refine j_iload h d_Srv_hearRequest_65 rfl ?_
      refine j_bipush (v := -2) h d_Srv_hearRequest_67 (by decide) ?_
      refine j_ic_ne (tgt := 73) h d_Srv_hearRequest_69 (by decide) (fun _ => ?_) (fun z => absurd z (by decide))
      refine j_iload h d_Srv_hearRequest_73 rfl ?_
      refine j_iconst (v := -1) h d_Srv_hearRequest_75 (by decide) ?_
      refine j_ic_eq (tgt := 83) h d_Srv_hearRequest_76 (by decide) (fun _ => ?_) (fun z => absurd rfl z)
      refine j_aload_n h d_Srv_hearRequest_83 rfl ?_
      refine j_get0 h d_Srv_hearRequest_84 fl_Srv_33 rfl (by assumption) ?_
      refine j_if_eq (tgt := 98) h d_Srv_hearRequest_87 (by decide) (fun c1 => ?_) (fun c1 => ?_)
      · exact j_vret hX d_Srv_hearRequest_98 rfl (Nat.le_refl _) (Nat.le_refl _) ⟨rfl, rfl, rfl, _, by rw [fA, if_pos rfl], by first | (rw [fN, fA, if_pos rfl, if_pos (by assumption)]; exact hnc) | (rw [fN, fA, if_pos rfl, if_neg (by assumption), if_pos rfl]; exact hn2)⟩
      · refine j_aload_n h d_Srv_hearRequest_90 rfl ?_
        refine j_aload_n h d_Srv_hearRequest_91 rfl ?_
        refine j_iload h d_Srv_hearRequest_92 rfl ?_
        refine j_aload_n h d_Srv_hearRequest_94 rfl ?_
        refine j_callV h (c_Srv_answer_no _ _ _ _ _ _ _ _ _ cs _ hs _ _ _ _ _ hnc _ hq _ hcm hoff) d_Srv_hearRequest_95 ml_Srv_99 mv_Srv_answer (by assumption) ⟨rfl, rfl⟩ rfl rfl (Nat.le_of_ble_eq_true rfl) (hR_of hX (by decide) (by decide)) (hf_of hX (by decide) (by decide)) ?_
        rintro _ _ _ _ ⟨rfl, rfl, rfl, B2, rfl, hn2⟩
        exact j_vret hX d_Srv_hearRequest_98 rfl (Nat.le_refl _) (Nat.le_refl _) ⟨rfl, rfl, rfl, _, by rw [fA, if_pos rfl], by first | (rw [fN, fA, if_pos rfl, if_pos (by assumption)]; exact hnc) | (rw [fN, fA, if_pos rfl, if_neg (by assumption), if_pos rfl]; exact hn2)⟩
    · have e1 : (rnw A (32 * s + a) s a ld t (x 2) (x 6) (x 5)).1 = -2 := by rw [e]
      have e2 : (rnw A (32 * s + a) s a ld t (x 2) (x 6) (x 5)).2 = A := by rw [e]
      rw [show hrnA A s a ld t x = A by unfold hrnA; rw [e1, if_pos rfl], show hrnN A s a ld t x N = N by unfold hrnN; rw [e1, if_pos rfl]] at hX
      rw [e1, e2]
      refine j_istore h d_Srv_hearRequest_63 (Nat.lt_of_lt_of_eq (m := 6) (by decide) hN.symm) ?_
      refine j_iload h d_Srv_hearRequest_65 rfl ?_
      refine j_bipush (v := -2) h d_Srv_hearRequest_67 (by decide) ?_
      refine j_ic_ne (tgt := 73) h d_Srv_hearRequest_69 (by decide) (fun z => absurd rfl z) (fun _ => ?_)
      exact j_vret hX d_Srv_hearRequest_72 rfl (Nat.le_refl _) (Nat.le_refl _) ⟨rfl, rfl, rfl, _, rfl, hnc⟩
    · rw [show hrnA A s a ld t x = fA (rnw A (32 * s + a) s a ld t (x 2) (x 6) (x 5)).2 s (nI a) by unfold hrnA; rw [e, if_neg (nI_m2 (by omega))], show hrnN A s a ld t x N = fN (rnw A (32 * s + a) s a ld t (x 2) (x 6) (x 5)).2 s (nI a) (x 2) (x 5) N by unfold hrnN; rw [e, if_neg (nI_m2 (by omega))]] at hX
      rw [e]
      refine j_istore h d_Srv_hearRequest_63 (Nat.lt_of_lt_of_eq (m := 6) (by decide) hN.symm) ?_
      refine j_iload h d_Srv_hearRequest_65 rfl ?_
      refine j_bipush (v := -2) h d_Srv_hearRequest_67 (by decide) ?_
      refine j_ic_ne (tgt := 73) h d_Srv_hearRequest_69 (by decide) (fun _ => ?_) (fun z => absurd z (nI_m2 (by omega)))
      refine j_iload h d_Srv_hearRequest_73 rfl ?_
      refine j_iconst (v := -1) h d_Srv_hearRequest_75 (by decide) ?_
      refine j_ic_eq (tgt := 83) h d_Srv_hearRequest_76 (by decide) (fun z => absurd z (nI_m1 (by omega))) (fun _ => ?_)
      refine j_aload_n h d_Srv_hearRequest_79 rfl ?_
      refine j_callV h (c_Srv_write _ _ _ _ _ _ _ _ _ hsv) d_Srv_hearRequest_80 ml_Srv_65 mv_Srv_write (by assumption) ⟨rfl, rfl⟩ rfl rfl (Nat.le_of_ble_eq_true rfl) (hR_of hX (by decide) (by decide)) (hf_of hX (by decide) (by decide)) ?_
      rintro _ _ _ _ ⟨rfl, rfl, rfl, rfl⟩
      refine j_aload_n h d_Srv_hearRequest_83 rfl ?_
      refine j_get0 h d_Srv_hearRequest_84 fl_Srv_33 rfl (by assumption) ?_
      refine j_if_eq (tgt := 98) h d_Srv_hearRequest_87 (by decide) (fun c1 => ?_) (fun c1 => ?_)
      · exact j_vret hX d_Srv_hearRequest_98 rfl (Nat.le_refl _) (Nat.le_refl _) ⟨rfl, rfl, rfl, _, by rw [fA, if_neg (nI_m1 (by omega))], by first | (rw [fN, fA, if_neg (nI_m1 (by omega)), if_pos (by assumption)]; exact hnc) | (rw [fN, fA, if_neg (nI_m1 (by omega)), if_neg (by assumption), if_neg (nI_m1 (by omega)), nI_clamp (by omega)]; exact hn2)⟩
      · refine j_aload_n h d_Srv_hearRequest_90 rfl ?_
        refine j_aload_n h d_Srv_hearRequest_91 rfl ?_
        refine j_iload h d_Srv_hearRequest_92 rfl ?_
        refine j_aload_n h d_Srv_hearRequest_94 rfl ?_
        refine j_callV h (c_Srv_answer_yes _ _ _ _ _ _ _ _ _ cs _ hs _ _ _ _ _ hnc _ hq _ hcm hoff _ ha) d_Srv_hearRequest_95 ml_Srv_99 mv_Srv_answer (by assumption) ⟨rfl, rfl⟩ rfl rfl (Nat.le_of_ble_eq_true rfl) (hR_of hX (by decide) (by decide)) (hf_of hX (by decide) (by decide)) ?_
        rintro _ _ _ _ ⟨rfl, rfl, rfl, B2, rfl, hn2⟩
        exact j_vret hX d_Srv_hearRequest_98 rfl (Nat.le_refl _) (Nat.le_refl _) ⟨rfl, rfl, rfl, _, by rw [fA, if_neg (nI_m1 (by omega))], by first | (rw [fN, fA, if_neg (nI_m1 (by omega)), if_pos (by assumption)]; exact hnc) | (rw [fN, fA, if_neg (nI_m1 (by omega)), if_neg (by assumption), if_neg (nI_m1 (by omega)), nI_clamp (by omega)]; exact hn2)⟩
