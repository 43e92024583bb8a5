/-! sending what waits; hearing a HELLO; a new lease; what a server tells -/
def spf (A : MI) (s n : Nat) (N : List Msg) : Int32 × List Msg := if A 0 s = 1 then penR A s n 0 1 (netput (m_hello A s) N) else penR A s n 0 0 N
theorem wr_rd (A : MI) (s : Nat) {c : Nat} (i : Nat) (h0 : c ≠ 0) (h6 : c ≠ 6) (h7 : c ≠ 7) : wr A s c i = A c i := by
  unfold wr
  split
  · rw [up_c _ _ h6, up_c _ _ h0, up_c _ _ h7]
  · split
    · rw [up_c _ _ h6, up_c _ _ h7]
    · rw [up_c _ _ h7]
theorem rejR_rd (s : Nat) {c : Nat} (i : Nat) (h : c ≠ 21) : ∀ (k j : Nat) (A : MI), rejR s k j A c i = A c i
  | 0, _, _ => rfl
  | k + 1, j, A => by
    unfold rejR
    rw [rejR_rd s i h k (j + 1), up_c _ _ h]
def hhA (A : MI) (s n : Nat) (num : Int32) : MI := if A 4 s < num then wr (if A 0 s = 3 then rejR s n 0 (up (up A 4 s num) 0 s 2) else up A 4 s num) s else A
def hhN (A : MI) (s n : Nat) (num : Int32) (N : List Msg) : List Msg := if hhA A s n num 0 s = 0 then N else updR (hhA A s n num) s n 0 N
theorem hhA_14 (A : MI) (s n : Nat) (num : Int32) (i : Nat) : hhA A s n num 14 i = A 14 i := by
  unfold hhA
  split
  · rw [wr_rd _ _ _ (by decide) (by decide) (by decide)]
    split
    · rw [rejR_rd _ _ (by decide), up_c _ _ (by decide), up_c _ _ (by decide)]
    · rw [up_c _ _ (by decide)]
  · rfl
def lnwA (A : MI) (s n : Nat) (ld t c amt num : Int32) : MI := if lstOwn A s n 0 = -1 then A else lsNew A (32 * s + (lstOwn A s n 0).toNatClampNeg) s ld t c amt num
def stell (A : MI) (s n : Nat) (t : Int32) (w : Nat) : Int32 := match w with
  | 0 => A 0 s
  | 1 => t
  | 2 => A 2 s
  | 3 => A 4 s
  | 4 => A 3 s
  | 5 => A 5 s
  | 6 => cOwn A s n 0 0
  | 7 => cPen A s n 0 0
  | _ => A 7 s
theorem d_Srv_sendPending_0 : decode b_Srv_sendPending 0 = .ok (.iconst 0, 1) := by decide +kernel
theorem d_Srv_sendPending_1 : decode b_Srv_sendPending 1 = .ok (.istore_n 2, 1) := by decide +kernel
theorem d_Srv_sendPending_2 : decode b_Srv_sendPending 2 = .ok (.aload_n 0, 1) := by decide +kernel
theorem d_Srv_sendPending_3 : decode b_Srv_sendPending 3 = .ok (.getfield 33, 3) := by decide +kernel
theorem d_Srv_sendPending_6 : decode b_Srv_sendPending 6 = .ok (.iconst 1, 1) := by decide +kernel
theorem d_Srv_sendPending_7 : decode b_Srv_sendPending 7 = .ok (.if_icmp .ne 11, 3) := by decide +kernel
theorem d_Srv_sendPending_10 : decode b_Srv_sendPending 10 = .ok (.aload_n 0, 1) := by decide +kernel
theorem d_Srv_sendPending_11 : decode b_Srv_sendPending 11 = .ok (.aload_n 1, 1) := by decide +kernel
theorem d_Srv_sendPending_12 : decode b_Srv_sendPending 12 = .ok (.invokevirtual 222, 3) := by decide +kernel
theorem d_Srv_sendPending_15 : decode b_Srv_sendPending 15 = .ok (.iinc 2 1, 3) := by decide +kernel
theorem d_Srv_sendPending_18 : decode b_Srv_sendPending 18 = .ok (.iconst 0, 1) := by decide +kernel
theorem d_Srv_sendPending_19 : decode b_Srv_sendPending 19 = .ok (.istore_n 3, 1) := by decide +kernel
theorem d_Srv_sendPending_20 : decode b_Srv_sendPending 20 = .ok (.iload_n 3, 1) := by decide +kernel
theorem d_Srv_sendPending_21 : decode b_Srv_sendPending 21 = .ok (.aload_n 0, 1) := by decide +kernel
theorem d_Srv_sendPending_22 : decode b_Srv_sendPending 22 = .ok (.getfield 26, 3) := by decide +kernel
theorem d_Srv_sendPending_25 : decode b_Srv_sendPending 25 = .ok (.arraylength, 1) := by decide +kernel
theorem d_Srv_sendPending_26 : decode b_Srv_sendPending 26 = .ok (.if_icmp .ge 30, 3) := by decide +kernel
theorem d_Srv_sendPending_29 : decode b_Srv_sendPending 29 = .ok (.aload_n 0, 1) := by decide +kernel
theorem d_Srv_sendPending_30 : decode b_Srv_sendPending 30 = .ok (.getfield 26, 3) := by decide +kernel
theorem d_Srv_sendPending_33 : decode b_Srv_sendPending 33 = .ok (.iload_n 3, 1) := by decide +kernel
theorem d_Srv_sendPending_34 : decode b_Srv_sendPending 34 = .ok (.aaload, 1) := by decide +kernel
theorem d_Srv_sendPending_35 : decode b_Srv_sendPending 35 = .ok (.getfield 225, 3) := by decide +kernel
theorem d_Srv_sendPending_38 : decode b_Srv_sendPending 38 = .ok (.ifCond .eq 12, 3) := by decide +kernel
theorem d_Srv_sendPending_41 : decode b_Srv_sendPending 41 = .ok (.aload_n 0, 1) := by decide +kernel
theorem d_Srv_sendPending_42 : decode b_Srv_sendPending 42 = .ok (.iload_n 3, 1) := by decide +kernel
theorem d_Srv_sendPending_43 : decode b_Srv_sendPending 43 = .ok (.aload_n 1, 1) := by decide +kernel
theorem d_Srv_sendPending_44 : decode b_Srv_sendPending 44 = .ok (.invokevirtual 218, 3) := by decide +kernel
theorem d_Srv_sendPending_47 : decode b_Srv_sendPending 47 = .ok (.iinc 2 1, 3) := by decide +kernel
theorem d_Srv_sendPending_50 : decode b_Srv_sendPending 50 = .ok (.iinc 3 1, 3) := by decide +kernel
theorem d_Srv_sendPending_53 : decode b_Srv_sendPending 53 = .ok (.goto (-33), 3) := by decide +kernel
theorem d_Srv_sendPending_56 : decode b_Srv_sendPending 56 = .ok (.iload_n 2, 1) := by decide +kernel
theorem d_Srv_sendPending_57 : decode b_Srv_sendPending 57 = .ok (.ireturn, 1) := by decide +kernel
set_option maxRecDepth 100000 in
set_option maxHeartbeats 4000000 in
theorem c_Srv_sendPending (l : Launch) (K : Kx) (V : Vx) (A B C D : MI) (P : MP) (n : Nat) (cs : CS K V P n) (s : Nat) (hs : s < 2) (ld sk : Int32) (N T : List Msg) (U : Msg) (hnc : NC K P B ld sk N T U) (hz : ∀ i, A 14 i = 0 ∨ A 14 i = 1) : Ct l K md_Srv_sendPending (3, 71) 0 0 [.ref (K.ad 1 s), .ref (K.ad 4 0)] V (bk4 A B C D) P (NP K V C D P ld sk (some (.int (spf A s n N).1)) A (spf A s n N).2 T U) := by
  refine ct_of [(0, .ref (K.ad 1 s)), (1, .ref (K.ad 4 0))] (by decide) (Nat.le_of_ble_eq_true rfl) (ca_r (ca_r ca_n)) rfl ?_
  intro X hl hX
  have h : OkX X b_Srv_sendPending R_Srv K := hX.1
  have hN : X.nL = 4 := hX.2.1
  have hsv := cs_sv cs hs
  have hL : ∀ (k i : Nat) (g : Int32) (B1 : MI) (N1 : List Msg), i + k = n → NC K P B1 ld sk N1 T U ∧ spf A s n N = penR A s k i g N1 → J X K V (bk4 A B1 C D) P 0 0 20 [(0, .ref (K.ad 1 s)), (1, .ref (K.ad 4 0)), (2, .int g), (3, .int (nI i))] [] := by
    intro k
    induction k with
    | zero =>
      intro i g B1 N1 hi hv
      have hi2 : i = n := by omega
      subst hi2
      refine j_iload_n h d_Srv_sendPending_20 rfl ?_
      refine j_aload_n h d_Srv_sendPending_21 rfl ?_
      refine j_getR h d_Srv_sendPending_22 fl_Srv_26 rfl (by assumption) (cs_rp cs hs) ?_
      refine j_recl h cs hs d_Srv_sendPending_25 ?_
      refine j_ic_ge (tgt := 56) h d_Srv_sendPending_26 (by decide) (fun _ => ?_) (fun c => absurd (nI_le (Nat.le_refl _) (cs_n31 cs)) c)
      have hn1 := hv.1
      refine j_iload_n h d_Srv_sendPending_56 rfl ?_
      exact j_iret hX d_Srv_sendPending_57 rfl (Nat.le_refl _) (Nat.le_refl _) ⟨rfl, by rw [hv.2]; rfl, rfl, _, rfl, by rw [hv.2]; exact hn1⟩
    | succ k ih =>
      intro i g B1 N1 hi hv
      have hi2 : i < n := by omega
      have hn1 := hv.1
      have hr := cs_rv cs hs hi2
      refine j_iload_n h d_Srv_sendPending_20 rfl ?_
      refine j_aload_n h d_Srv_sendPending_21 rfl ?_
      refine j_getR h d_Srv_sendPending_22 fl_Srv_26 rfl (by assumption) (cs_rp cs hs) ?_
      refine j_recl h cs hs d_Srv_sendPending_25 ?_
      refine j_ic_ge (tgt := 56) h d_Srv_sendPending_26 (by decide) (fun c => absurd c (nI_ge hi2 (cs_n31 cs))) (fun _ => ?_)
      refine j_aload_n h d_Srv_sendPending_29 rfl ?_
      refine j_getR h d_Srv_sendPending_30 fl_Srv_26 rfl (by assumption) (cs_rp cs hs) ?_
      refine j_iload_n h d_Srv_sendPending_33 rfl ?_
      refine j_recs h cs hs hi2 d_Srv_sendPending_34 ?_
      refine j_get0 h d_Srv_sendPending_35 fl_Srv_225 rfl (by assumption) ?_
      refine j_if_eq (tgt := 50) h d_Srv_sendPending_38 (by decide) (fun c1 => ?_) (fun c1 => ?_)
      · refine j_iinc (v := nI (i + 1)) h d_Srv_sendPending_50 rfl (nI_i i) (Nat.lt_of_lt_of_eq (m := 4) (by decide) hN.symm) ?_
        refine j_goto (tgt := 20) h d_Srv_sendPending_53 (by decide) ?_
        refine j_lv (lv' := [(0, .ref (K.ad 1 s)), (1, .ref (K.ad 4 0)), (2, .int _), (3, .int (nI (i + 1)))]) (lvs rfl (lvs rfl (lvs rfl (lvs rfl lvs0)))) ?_
        exact ih (i + 1) _ _ _ (by omega) ⟨by assumption, hv.2.trans (by simp_all [penR])⟩
      · refine j_aload_n h d_Srv_sendPending_41 rfl ?_
        refine j_iload_n h d_Srv_sendPending_42 rfl ?_
        refine j_aload_n h d_Srv_sendPending_43 rfl ?_
        refine j_callV h (c_Srv_sendUpdate _ _ _ _ _ _ _ _ _ cs _ hs _ _ _ _ _ hn1 _ hi2 (hz _)) d_Srv_sendPending_44 ml_Srv_218 mv_Srv_sendUpdate (by assumption) ⟨rfl, rfl⟩ rfl rfl (Nat.le_of_ble_eq_true rfl) (hR_of hX (by decide) (by decide)) (hf_of hX (by decide) (by decide)) ?_
        rintro _ _ _ _ ⟨rfl, rfl, rfl, B2, rfl, hn2⟩
        refine j_iinc (v := g + 1) h d_Srv_sendPending_47 rfl rfl (Nat.lt_of_lt_of_eq (m := 4) (by decide) hN.symm) ?_
        refine j_iinc (v := nI (i + 1)) h d_Srv_sendPending_50 rfl (nI_i i) (Nat.lt_of_lt_of_eq (m := 4) (by decide) hN.symm) ?_
        refine j_goto (tgt := 20) h d_Srv_sendPending_53 (by decide) ?_
        refine j_lv (lv' := [(0, .ref (K.ad 1 s)), (1, .ref (K.ad 4 0)), (2, .int _), (3, .int (nI (i + 1)))]) (lvs rfl (lvs rfl (lvs rfl (lvs rfl lvs0)))) ?_
        exact ih (i + 1) _ _ _ (by omega) ⟨by assumption, hv.2.trans (by simp_all [penR])⟩
  refine j_iconst (v := 0) h d_Srv_sendPending_0 (by decide) ?_
  refine j_istore_n h d_Srv_sendPending_1 (Nat.lt_of_lt_of_eq (m := 4) (by decide) hN.symm) ?_
  refine j_aload_n h d_Srv_sendPending_2 rfl ?_
  refine j_get0 h d_Srv_sendPending_3 fl_Srv_33 rfl (by assumption) ?_
  refine j_iconst (v := 1) h d_Srv_sendPending_6 (by decide) ?_
  refine j_ic_ne (tgt := 18) h d_Srv_sendPending_7 (by decide) (fun c1 => ?_) (fun c1 => ?_)
  · refine j_iconst (v := 0) h d_Srv_sendPending_18 (by decide) ?_
    refine j_istore_n h d_Srv_sendPending_19 (Nat.lt_of_lt_of_eq (m := 4) (by decide) hN.symm) ?_
    refine j_lv (lv' := [(0, .ref (K.ad 1 s)), (1, .ref (K.ad 4 0)), (2, .int _), (3, .int (nI 0))]) (lvs rfl (lvs rfl (lvs rfl (lvs rfl lvs0)))) ?_
    exact hL n 0 _ _ _ (by omega) ⟨by assumption, by simp_all [spf]⟩
  · refine j_aload_n h d_Srv_sendPending_10 rfl ?_
    refine j_aload_n h d_Srv_sendPending_11 rfl ?_
    refine j_callV h (c_Srv_sendHello _ _ _ _ _ _ _ _ _ cs _ hs _ _ _ _ _ hnc) d_Srv_sendPending_12 ml_Srv_222 mv_Srv_sendHello (by assumption) ⟨rfl, rfl⟩ rfl rfl (Nat.le_of_ble_eq_true rfl) (hR_of hX (by decide) (by decide)) (hf_of hX (by decide) (by decide)) ?_
    rintro _ _ _ _ ⟨rfl, rfl, rfl, B2, rfl, hn2⟩
    refine j_iinc (v := 1) h d_Srv_sendPending_15 rfl (by decide) (Nat.lt_of_lt_of_eq (m := 4) (by decide) hN.symm) ?_
    refine j_iconst (v := 0) h d_Srv_sendPending_18 (by decide) ?_
    refine j_istore_n h d_Srv_sendPending_19 (Nat.lt_of_lt_of_eq (m := 4) (by decide) hN.symm) ?_
    refine j_lv (lv' := [(0, .ref (K.ad 1 s)), (1, .ref (K.ad 4 0)), (2, .int _), (3, .int (nI 0))]) (lvs rfl (lvs rfl (lvs rfl (lvs rfl lvs0)))) ?_
    exact hL n 0 _ _ _ (by omega) ⟨by assumption, by simp_all [spf]⟩
theorem d_Srv_hearHello_0 : decode b_Srv_hearHello 0 = .ok (.aload_n 1, 1) := by decide +kernel
theorem d_Srv_hearHello_1 : decode b_Srv_hearHello 1 = .ok (.getfield 125, 3) := by decide +kernel
theorem d_Srv_hearHello_4 : decode b_Srv_hearHello 4 = .ok (.aload_n 0, 1) := by decide +kernel
theorem d_Srv_hearHello_5 : decode b_Srv_hearHello 5 = .ok (.getfield 42, 3) := by decide +kernel
theorem d_Srv_hearHello_8 : decode b_Srv_hearHello 8 = .ok (.if_icmp .le 27, 3) := by decide +kernel
theorem d_Srv_hearHello_11 : decode b_Srv_hearHello 11 = .ok (.aload_n 0, 1) := by decide +kernel
theorem d_Srv_hearHello_12 : decode b_Srv_hearHello 12 = .ok (.aload_n 1, 1) := by decide +kernel
theorem d_Srv_hearHello_13 : decode b_Srv_hearHello 13 = .ok (.getfield 125, 3) := by decide +kernel
theorem d_Srv_hearHello_16 : decode b_Srv_hearHello 16 = .ok (.putfield 42, 3) := by decide +kernel
theorem d_Srv_hearHello_19 : decode b_Srv_hearHello 19 = .ok (.aload_n 0, 1) := by decide +kernel
theorem d_Srv_hearHello_20 : decode b_Srv_hearHello 20 = .ok (.getfield 33, 3) := by decide +kernel
theorem d_Srv_hearHello_23 : decode b_Srv_hearHello 23 = .ok (.iconst 3, 1) := by decide +kernel
theorem d_Srv_hearHello_24 : decode b_Srv_hearHello 24 = .ok (.if_icmp .ne 7, 3) := by decide +kernel
theorem d_Srv_hearHello_27 : decode b_Srv_hearHello 27 = .ok (.aload_n 0, 1) := by decide +kernel
theorem d_Srv_hearHello_28 : decode b_Srv_hearHello 28 = .ok (.invokevirtual 154, 3) := by decide +kernel
theorem d_Srv_hearHello_31 : decode b_Srv_hearHello 31 = .ok (.aload_n 0, 1) := by decide +kernel
theorem d_Srv_hearHello_32 : decode b_Srv_hearHello 32 = .ok (.invokevirtual 65, 3) := by decide +kernel
theorem d_Srv_hearHello_35 : decode b_Srv_hearHello 35 = .ok (.aload_n 0, 1) := by decide +kernel
theorem d_Srv_hearHello_36 : decode b_Srv_hearHello 36 = .ok (.getfield 33, 3) := by decide +kernel
theorem d_Srv_hearHello_39 : decode b_Srv_hearHello 39 = .ok (.ifCond .eq 8, 3) := by decide +kernel
theorem d_Srv_hearHello_42 : decode b_Srv_hearHello 42 = .ok (.aload_n 0, 1) := by decide +kernel
theorem d_Srv_hearHello_43 : decode b_Srv_hearHello 43 = .ok (.aload_n 2, 1) := by decide +kernel
theorem d_Srv_hearHello_44 : decode b_Srv_hearHello 44 = .ok (.invokevirtual 157, 3) := by decide +kernel
theorem d_Srv_hearHello_47 : decode b_Srv_hearHello 47 = .ok (.return_, 1) := by decide +kernel
set_option maxRecDepth 100000 in
set_option maxHeartbeats 4000000 in
theorem c_Srv_hearHello (l : Launch) (K : Kx) (V : Vx) (A B C D : MI) (P : MP) (n : Nat) (cs : CS K V P n) (s : Nat) (hs : s < 2) (ld sk : Int32) (N T : List Msg) (U : Msg) (hnc : NC K P B ld sk N T U) (q : Nat) (hq : V.1 5 q) (x : Msg) (hcm : CM B q x) (hz : ∀ i, A 14 i = 0 ∨ A 14 i = 1) : Ct l K md_Srv_hearHello (4, 93) 0 0 [.ref (K.ad 1 s), .ref (K.ad 5 q), .ref (K.ad 4 0)] V (bk4 A B C D) P (NP K V C D P ld sk none (hhA A s n (x 5)) (hhN A s n (x 5) N) T U) := by
  refine ct_of [(0, .ref (K.ad 1 s)), (1, .ref (K.ad 5 q)), (2, .ref (K.ad 4 0))] (by decide) (Nat.le_of_ble_eq_true rfl) (ca_r (ca_r (ca_r ca_n))) rfl ?_
  intro X hl hX
  have h : OkX X b_Srv_hearHello R_Srv K := hX.1
  have hN : X.nL = 3 := hX.2.1
  have hsv := cs_sv cs hs
  refine j_aload_n h d_Srv_hearHello_0 rfl ?_
  refine j_get1e (v := x 5) h d_Srv_hearHello_1 fl_Srv_125 rfl (by assumption) (by first | exact hcm.1 5 (by decide) | (simp [up_rd, mB_rd, hne, adB_k]; exact hcm.1 5 (by decide))) ?_
  refine j_aload_n h d_Srv_hearHello_4 rfl ?_
  refine j_get0 h d_Srv_hearHello_5 fl_Srv_42 rfl (by assumption) ?_
  refine j_ic_le (tgt := 35) h d_Srv_hearHello_8 (by decide) (fun c1 => ?_) (fun c1 => ?_)
  · obtain ⟨Y, hA⟩ : ∃ Y, Y = hhA A s n (x 5) := ⟨_, rfl⟩
    refine j_eq (I' := bk4 Y B C D) (by rw [hA]; clear hX h hl; first | (simp_all [hhA, up_rd]; done) | grind [hhA, up_rd]) rfl rfl rfl ?_
    refine j_aload_n h d_Srv_hearHello_35 rfl ?_
    refine j_get0 h d_Srv_hearHello_36 fl_Srv_33 rfl (by assumption) ?_
    refine j_if_eq (tgt := 47) h d_Srv_hearHello_39 (by decide) (fun c2 => ?_) (fun c2 => ?_)
    · exact j_vret hX d_Srv_hearHello_47 rfl (Nat.le_refl _) (Nat.le_refl _) ⟨rfl, rfl, rfl, _, by first | rfl | (rw [hA]), by first | (rw [hhN, if_pos (by rw [← hA]; assumption)]; exact hnc) | (rw [hhN, if_neg (by rw [← hA]; assumption), ← hA]; exact hn2)⟩
    · refine j_aload_n h d_Srv_hearHello_42 rfl ?_
      refine j_aload_n h d_Srv_hearHello_43 rfl ?_
      refine j_callV h (c_Srv_sendAll _ _ _ _ _ _ _ _ _ cs _ hs _ _ _ _ _ hnc (fun i => by first | exact hz i | (rw [hA, hhA_14]; exact hz i))) d_Srv_hearHello_44 ml_Srv_157 mv_Srv_sendAll (by assumption) ⟨rfl, rfl⟩ rfl rfl (Nat.le_of_ble_eq_true rfl) (hR_of hX (by decide) (by decide)) (hf_of hX (by decide) (by decide)) ?_
      rintro _ _ _ _ ⟨rfl, rfl, rfl, B2, rfl, hn2⟩
      exact j_vret hX d_Srv_hearHello_47 rfl (Nat.le_refl _) (Nat.le_refl _) ⟨rfl, rfl, rfl, _, by first | rfl | (rw [hA]), by first | (rw [hhN, if_pos (by rw [← hA]; assumption)]; exact hnc) | (rw [hhN, if_neg (by rw [← hA]; assumption), ← hA]; exact hn2)⟩
  · refine j_aload_n h d_Srv_hearHello_11 rfl ?_
    refine j_aload_n h d_Srv_hearHello_12 rfl ?_
    refine j_get1e (v := x 5) h d_Srv_hearHello_13 fl_Srv_125 rfl (by assumption) (by first | exact hcm.1 5 (by decide) | (simp [up_rd, mB_rd, hne, adB_k]; exact hcm.1 5 (by decide))) ?_
    refine j_put0 h d_Srv_hearHello_16 fw_Srv_42 rfl rfl (by assumption) ?_
    refine j_aload_n h d_Srv_hearHello_19 rfl ?_
    refine j_get0 h d_Srv_hearHello_20 fl_Srv_33 rfl (by assumption) ?_
    refine j_iconst (v := 3) h d_Srv_hearHello_23 (by decide) ?_
    refine j_ic_ne (tgt := 31) h d_Srv_hearHello_24 (by decide) (fun c3 => ?_) (fun c3 => ?_)
    · refine j_aload_n h d_Srv_hearHello_31 rfl ?_
      refine j_callV h (c_Srv_write _ _ _ _ _ _ _ _ _ hsv) d_Srv_hearHello_32 ml_Srv_65 mv_Srv_write (by assumption) ⟨rfl, rfl⟩ rfl rfl (Nat.le_of_ble_eq_true rfl) (hR_of hX (by decide) (by decide)) (hf_of hX (by decide) (by decide)) ?_
      rintro _ _ _ _ ⟨rfl, rfl, rfl, rfl⟩
      obtain ⟨Y, hA⟩ : ∃ Y, Y = hhA A s n (x 5) := ⟨_, rfl⟩
      refine j_eq (I' := bk4 Y B C D) (by rw [hA]; clear hX h hl; first | (simp_all [hhA, up_rd]; done) | grind [hhA, up_rd]) rfl rfl rfl ?_
      refine j_aload_n h d_Srv_hearHello_35 rfl ?_
      refine j_get0 h d_Srv_hearHello_36 fl_Srv_33 rfl (by assumption) ?_
      refine j_if_eq (tgt := 47) h d_Srv_hearHello_39 (by decide) (fun c4 => ?_) (fun c4 => ?_)
      · exact j_vret hX d_Srv_hearHello_47 rfl (Nat.le_refl _) (Nat.le_refl _) ⟨rfl, rfl, rfl, _, by first | rfl | (rw [hA]), by first | (rw [hhN, if_pos (by rw [← hA]; assumption)]; exact hnc) | (rw [hhN, if_neg (by rw [← hA]; assumption), ← hA]; exact hn2)⟩
      · refine j_aload_n h d_Srv_hearHello_42 rfl ?_
        refine j_aload_n h d_Srv_hearHello_43 rfl ?_
        refine j_callV h (c_Srv_sendAll _ _ _ _ _ _ _ _ _ cs _ hs _ _ _ _ _ hnc (fun i => by first | exact hz i | (rw [hA, hhA_14]; exact hz i))) d_Srv_hearHello_44 ml_Srv_157 mv_Srv_sendAll (by assumption) ⟨rfl, rfl⟩ rfl rfl (Nat.le_of_ble_eq_true rfl) (hR_of hX (by decide) (by decide)) (hf_of hX (by decide) (by decide)) ?_
        rintro _ _ _ _ ⟨rfl, rfl, rfl, B2, rfl, hn2⟩
        exact j_vret hX d_Srv_hearHello_47 rfl (Nat.le_refl _) (Nat.le_refl _) ⟨rfl, rfl, rfl, _, by first | rfl | (rw [hA]), by first | (rw [hhN, if_pos (by rw [← hA]; assumption)]; exact hnc) | (rw [hhN, if_neg (by rw [← hA]; assumption), ← hA]; exact hn2)⟩
    · refine j_aload_n h d_Srv_hearHello_27 rfl ?_
      refine j_callV h (c_Srv_rejoin _ _ _ _ _ _ _ _ _ cs _ hs) d_Srv_hearHello_28 ml_Srv_154 mv_Srv_rejoin (by assumption) ⟨rfl, rfl⟩ rfl rfl (Nat.le_of_ble_eq_true rfl) (hR_of hX (by decide) (by decide)) (hf_of hX (by decide) (by decide)) ?_
      rintro _ _ _ _ ⟨rfl, rfl, rfl, rfl⟩
      refine j_aload_n h d_Srv_hearHello_31 rfl ?_
      refine j_callV h (c_Srv_write _ _ _ _ _ _ _ _ _ hsv) d_Srv_hearHello_32 ml_Srv_65 mv_Srv_write (by assumption) ⟨rfl, rfl⟩ rfl rfl (Nat.le_of_ble_eq_true rfl) (hR_of hX (by decide) (by decide)) (hf_of hX (by decide) (by decide)) ?_
      rintro _ _ _ _ ⟨rfl, rfl, rfl, rfl⟩
      obtain ⟨Y, hA⟩ : ∃ Y, Y = hhA A s n (x 5) := ⟨_, rfl⟩
      refine j_eq (I' := bk4 Y B C D) (by rw [hA]; clear hX h hl; first | (simp_all [hhA, up_rd]; done) | grind [hhA, up_rd]) rfl rfl rfl ?_
      refine j_aload_n h d_Srv_hearHello_35 rfl ?_
      refine j_get0 h d_Srv_hearHello_36 fl_Srv_33 rfl (by assumption) ?_
      refine j_if_eq (tgt := 47) h d_Srv_hearHello_39 (by decide) (fun c5 => ?_) (fun c5 => ?_)
      · exact j_vret hX d_Srv_hearHello_47 rfl (Nat.le_refl _) (Nat.le_refl _) ⟨rfl, rfl, rfl, _, by first | rfl | (rw [hA]), by first | (rw [hhN, if_pos (by rw [← hA]; assumption)]; exact hnc) | (rw [hhN, if_neg (by rw [← hA]; assumption), ← hA]; exact hn2)⟩
      · refine j_aload_n h d_Srv_hearHello_42 rfl ?_
        refine j_aload_n h d_Srv_hearHello_43 rfl ?_
        refine j_callV h (c_Srv_sendAll _ _ _ _ _ _ _ _ _ cs _ hs _ _ _ _ _ hnc (fun i => by first | exact hz i | (rw [hA, hhA_14]; exact hz i))) d_Srv_hearHello_44 ml_Srv_157 mv_Srv_sendAll (by assumption) ⟨rfl, rfl⟩ rfl rfl (Nat.le_of_ble_eq_true rfl) (hR_of hX (by decide) (by decide)) (hf_of hX (by decide) (by decide)) ?_
        rintro _ _ _ _ ⟨rfl, rfl, rfl, B2, rfl, hn2⟩
        exact j_vret hX d_Srv_hearHello_47 rfl (Nat.le_refl _) (Nat.le_refl _) ⟨rfl, rfl, rfl, _, by first | rfl | (rw [hA]), by first | (rw [hhN, if_pos (by rw [← hA]; assumption)]; exact hnc) | (rw [hhN, if_neg (by rw [← hA]; assumption), ← hA]; exact hn2)⟩
theorem d_Srv_leaseNew_0 : decode b_Srv_leaseNew 0 = .ok (.aload_n 0, 1) := by decide +kernel
theorem d_Srv_leaseNew_1 : decode b_Srv_leaseNew 1 = .ok (.invokevirtual 110, 3) := by decide +kernel
theorem d_Srv_leaseNew_4 : decode b_Srv_leaseNew 4 = .ok (.istore_n 3, 1) := by decide +kernel
theorem d_Srv_leaseNew_5 : decode b_Srv_leaseNew 5 = .ok (.iload_n 3, 1) := by decide +kernel
theorem d_Srv_leaseNew_6 : decode b_Srv_leaseNew 6 = .ok (.iconst (-1), 1) := by decide +kernel
theorem d_Srv_leaseNew_7 : decode b_Srv_leaseNew 7 = .ok (.if_icmp .ne 5, 3) := by decide +kernel
theorem d_Srv_leaseNew_10 : decode b_Srv_leaseNew 10 = .ok (.iconst (-1), 1) := by decide +kernel
theorem d_Srv_leaseNew_11 : decode b_Srv_leaseNew 11 = .ok (.ireturn, 1) := by decide +kernel
theorem d_Srv_leaseNew_12 : decode b_Srv_leaseNew 12 = .ok (.aload_n 0, 1) := by decide +kernel
theorem d_Srv_leaseNew_13 : decode b_Srv_leaseNew 13 = .ok (.getfield 26, 3) := by decide +kernel
theorem d_Srv_leaseNew_16 : decode b_Srv_leaseNew 16 = .ok (.iload_n 3, 1) := by decide +kernel
theorem d_Srv_leaseNew_17 : decode b_Srv_leaseNew 17 = .ok (.aaload, 1) := by decide +kernel
theorem d_Srv_leaseNew_18 : decode b_Srv_leaseNew 18 = .ok (.astore 4, 2) := by decide +kernel
theorem d_Srv_leaseNew_20 : decode b_Srv_leaseNew 20 = .ok (.iload_n 2, 1) := by decide +kernel
theorem d_Srv_leaseNew_21 : decode b_Srv_leaseNew 21 = .ok (.aload_n 1, 1) := by decide +kernel
theorem d_Srv_leaseNew_22 : decode b_Srv_leaseNew 22 = .ok (.getfield 114, 3) := by decide +kernel
theorem d_Srv_leaseNew_25 : decode b_Srv_leaseNew 25 = .ok (.iadd, 1) := by decide +kernel
theorem d_Srv_leaseNew_26 : decode b_Srv_leaseNew 26 = .ok (.istore 5, 2) := by decide +kernel
theorem d_Srv_leaseNew_28 : decode b_Srv_leaseNew 28 = .ok (.aload_n 0, 1) := by decide +kernel
theorem d_Srv_leaseNew_29 : decode b_Srv_leaseNew 29 = .ok (.getfield 33, 3) := by decide +kernel
theorem d_Srv_leaseNew_32 : decode b_Srv_leaseNew 32 = .ok (.iconst 2, 1) := by decide +kernel
theorem d_Srv_leaseNew_33 : decode b_Srv_leaseNew 33 = .ok (.if_icmp .ne 19, 3) := by decide +kernel
theorem d_Srv_leaseNew_36 : decode b_Srv_leaseNew 36 = .ok (.iload 5, 2) := by decide +kernel
theorem d_Srv_leaseNew_38 : decode b_Srv_leaseNew 38 = .ok (.iload_n 2, 1) := by decide +kernel
theorem d_Srv_leaseNew_39 : decode b_Srv_leaseNew 39 = .ok (.aload_n 0, 1) := by decide +kernel
theorem d_Srv_leaseNew_40 : decode b_Srv_leaseNew 40 = .ok (.getfield 18, 3) := by decide +kernel
theorem d_Srv_leaseNew_43 : decode b_Srv_leaseNew 43 = .ok (.iadd, 1) := by decide +kernel
theorem d_Srv_leaseNew_44 : decode b_Srv_leaseNew 44 = .ok (.invokestatic 117, 3) := by decide +kernel
theorem d_Srv_leaseNew_47 : decode b_Srv_leaseNew 47 = .ok (.istore 5, 2) := by decide +kernel
theorem d_Srv_leaseNew_49 : decode b_Srv_leaseNew 49 = .ok (.goto 9, 3) := by decide +kernel
theorem d_Srv_leaseNew_52 : decode b_Srv_leaseNew 52 = .ok (.aload 4, 2) := by decide +kernel
theorem d_Srv_leaseNew_54 : decode b_Srv_leaseNew 54 = .ok (.iconst 1, 1) := by decide +kernel
theorem d_Srv_leaseNew_55 : decode b_Srv_leaseNew 55 = .ok (.putfield 62, 3) := by decide +kernel
theorem d_Srv_leaseNew_58 : decode b_Srv_leaseNew 58 = .ok (.aload 4, 2) := by decide +kernel
theorem d_Srv_leaseNew_60 : decode b_Srv_leaseNew 60 = .ok (.invokevirtual 122, 3) := by decide +kernel
theorem d_Srv_leaseNew_63 : decode b_Srv_leaseNew 63 = .ok (.aload 4, 2) := by decide +kernel
theorem d_Srv_leaseNew_65 : decode b_Srv_leaseNew 65 = .ok (.aload_n 1, 1) := by decide +kernel
theorem d_Srv_leaseNew_66 : decode b_Srv_leaseNew 66 = .ok (.getfield 84, 3) := by decide +kernel
theorem d_Srv_leaseNew_69 : decode b_Srv_leaseNew 69 = .ok (.iload 5, 2) := by decide +kernel
theorem d_Srv_leaseNew_71 : decode b_Srv_leaseNew 71 = .ok (.aload_n 1, 1) := by decide +kernel
theorem d_Srv_leaseNew_72 : decode b_Srv_leaseNew 72 = .ok (.getfield 125, 3) := by decide +kernel
theorem d_Srv_leaseNew_75 : decode b_Srv_leaseNew 75 = .ok (.aload 4, 2) := by decide +kernel
theorem d_Srv_leaseNew_77 : decode b_Srv_leaseNew 77 = .ok (.getfield 126, 3) := by decide +kernel
theorem d_Srv_leaseNew_80 : decode b_Srv_leaseNew 80 = .ok (.invokevirtual 129, 3) := by decide +kernel
theorem d_Srv_leaseNew_83 : decode b_Srv_leaseNew 83 = .ok (.iload_n 3, 1) := by decide +kernel
theorem d_Srv_leaseNew_84 : decode b_Srv_leaseNew 84 = .ok (.ireturn, 1) := by decide +kernel
set_option maxRecDepth 100000 in
set_option maxHeartbeats 4000000 in
theorem c_Srv_leaseNew (l : Launch) (K : Kx) (V : Vx) (A B C D : MI) (P : MP) (n : Nat) (cs : CS K V P n) (s : Nat) (hs : s < 2) (ld sk : Int32) (kb : KB B ld sk) (q : Nat) (hq : V.1 5 q) (x : Msg) (hcm : CM B q x) (t : Int32) : Ct l K md_Srv_leaseNew (1, 24) 0 0 [.ref (K.ad 1 s), .ref (K.ad 5 q), .int t] V (bk4 A B C D) P (EQ V (some (.int (lstOwn A s n 0))) (bk4 (lnwA A s n ld t (x 2) (x 6) (x 5)) B C D) P) := by
  refine ct_of [(0, .ref (K.ad 1 s)), (1, .ref (K.ad 5 q)), (2, .int t)] (by decide) (Nat.le_of_ble_eq_true rfl) (ca_r (ca_r (ca_i ca_n))) rfl ?_
  intro X hl hX
  have h : OkX X b_Srv_leaseNew R_Srv K := hX.1
  have hN : X.nL = 6 := hX.2.1
  have hsv := cs_sv cs hs
  refine j_aload_n h d_Srv_leaseNew_0 rfl ?_
  refine j_callV h (c_Srv_leastOwn _ _ _ _ _ _ _ _ _ cs _ hs) d_Srv_leaseNew_1 ml_Srv_110 mv_Srv_leastOwn (by assumption) ⟨rfl, rfl⟩ rfl rfl (Nat.le_of_ble_eq_true rfl) (hR_of hX (by decide) (by decide)) (hf_of hX (by decide) (by decide)) ?_
  rintro _ _ _ _ ⟨rfl, rfl, rfl, rfl⟩
  rcases lstOwn_c A s n 0 with e | ⟨a, ha, e, hk⟩
  · rw [show lnwA A s n ld t (x 2) (x 6) (x 5) = A by unfold lnwA; rw [if_pos e]] at hX
    rw [e] at hX ⊢
    refine j_istore_n h d_Srv_leaseNew_4 (Nat.lt_of_lt_of_eq (m := 6) (by decide) hN.symm) ?_
    refine j_iload_n h d_Srv_leaseNew_5 rfl ?_
    refine j_iconst (v := -1) h d_Srv_leaseNew_6 (by decide) ?_
    refine j_ic_ne (tgt := 12) h d_Srv_leaseNew_7 (by decide) (fun z => absurd rfl z) (fun _ => ?_)
    refine j_iconst (v := -1) h d_Srv_leaseNew_10 (by decide) ?_
    exact j_iret hX d_Srv_leaseNew_11 rfl (Nat.le_refl _) (Nat.le_refl _) ⟨rfl, rfl, rfl, rfl⟩
  · have ha : a < n := by omega
    have hr := cs_rv cs hs ha
    have hn31 := cs_n31 cs
    rw [show lnwA A s n ld t (x 2) (x 6) (x 5) = lsNew A (32 * s + a) s ld t (x 2) (x 6) (x 5) by unfold lnwA; rw [e, if_neg (nI_m1 (by omega)), nI_clamp (by omega)]] at hX
    rw [e] at hX ⊢
    refine j_istore_n h d_Srv_leaseNew_4 (Nat.lt_of_lt_of_eq (m := 6) (by decide) hN.symm) ?_
    refine j_iload_n h d_Srv_leaseNew_5 rfl ?_
    refine j_iconst (v := -1) h d_Srv_leaseNew_6 (by decide) ?_
    refine j_ic_ne (tgt := 12) h d_Srv_leaseNew_7 (by decide) (fun _ => ?_) (fun z => absurd z (nI_m1 (by omega)))
    refine j_aload_n h d_Srv_leaseNew_12 rfl ?_
    refine j_getR h d_Srv_leaseNew_13 fl_Srv_26 rfl (by assumption) (cs_rp cs hs) ?_
    refine j_iload_n h d_Srv_leaseNew_16 rfl ?_
    refine j_recs h cs hs ha d_Srv_leaseNew_17 ?_
    refine j_astore h d_Srv_leaseNew_18 (Nat.lt_of_lt_of_eq (m := 6) (by decide) hN.symm) ?_
    refine j_iload_n h d_Srv_leaseNew_20 rfl ?_
    refine j_aload_n h d_Srv_leaseNew_21 rfl ?_
    refine j_get1e (v := x 6) h d_Srv_leaseNew_22 fl_Srv_114 rfl (by assumption) (by first | exact hcm.1 6 (by decide) | (simp [up_rd, mB_rd, hne, adB_k]; exact hcm.1 6 (by decide))) ?_
    refine j_iadd h d_Srv_leaseNew_25 ?_
    refine j_istore h d_Srv_leaseNew_26 (Nat.lt_of_lt_of_eq (m := 6) (by decide) hN.symm) ?_
    refine j_aload_n h d_Srv_leaseNew_28 rfl ?_
    refine j_get0 h d_Srv_leaseNew_29 fl_Srv_33 rfl (by assumption) ?_
    refine j_iconst (v := 2) h d_Srv_leaseNew_32 (by decide) ?_
    refine j_ic_ne (tgt := 52) h d_Srv_leaseNew_33 (by decide) (fun c1 => ?_) (fun c1 => ?_)
    · refine j_aload h d_Srv_leaseNew_52 rfl ?_
      refine j_iconst (v := 1) h d_Srv_leaseNew_54 (by decide) ?_
      refine j_putZ0 h d_Srv_leaseNew_55 fw_Srv_62 rfl rfl (by assumption) (by first | exact Or.inl rfl | exact Or.inr rfl | assumption) ?_
      refine j_aload h d_Srv_leaseNew_58 rfl ?_
      refine j_callV h (c_Rec_change _ _ _ _ _ _ _ _ _ hr) d_Srv_leaseNew_60 ml_Srv_122 mv_Rec_change (by assumption) ⟨rfl, rfl⟩ rfl rfl (Nat.le_of_ble_eq_true rfl) (hR_of hX (by decide) (by decide)) (hf_of hX (by decide) (by decide)) ?_
      rintro _ _ _ _ ⟨rfl, rfl, rfl, rfl⟩
      refine j_aload h d_Srv_leaseNew_63 rfl ?_
      refine j_aload_n h d_Srv_leaseNew_65 rfl ?_
      refine j_get1e (v := x 2) h d_Srv_leaseNew_66 fl_Srv_84 rfl (by assumption) (by first | exact hcm.1 2 (by decide) | (simp [up_rd, mB_rd, hne, adB_k]; exact hcm.1 2 (by decide))) ?_
      refine j_iload h d_Srv_leaseNew_69 rfl ?_
      refine j_aload_n h d_Srv_leaseNew_71 rfl ?_
      refine j_get1e (v := x 5) h d_Srv_leaseNew_72 fl_Srv_125 rfl (by assumption) (by first | exact hcm.1 5 (by decide) | (simp [up_rd, mB_rd, hne, adB_k]; exact hcm.1 5 (by decide))) ?_
      refine j_aload h d_Srv_leaseNew_75 rfl ?_
      refine j_get0 h d_Srv_leaseNew_77 fl_Srv_126 rfl (by assumption) ?_
      refine j_callV h (c_Rec_bind _ _ _ _ _ _ _ _ _ hr _ _ _ _) d_Srv_leaseNew_80 ml_Srv_129 mv_Rec_bind (by assumption) ⟨rfl, rfl⟩ rfl rfl (Nat.le_of_ble_eq_true rfl) (hR_of hX (by decide) (by decide)) (hf_of hX (by decide) (by decide)) ?_
      rintro _ _ _ _ ⟨rfl, rfl, rfl, rfl⟩
      refine j_iload_n h d_Srv_leaseNew_83 rfl ?_
      exact j_iret hX d_Srv_leaseNew_84 rfl (Nat.le_refl _) (Nat.le_refl _) ⟨rfl, rfl, by clear hX h hl; first | rfl | (simp_all [lsNew, up_rd, chg_rd]; done) | grind [lsNew, up_rd, chg_rd, bnd_rd], rfl⟩
    · refine j_iload h d_Srv_leaseNew_36 rfl ?_
      refine j_iload_n h d_Srv_leaseNew_38 rfl ?_
      refine j_aload_n h d_Srv_leaseNew_39 rfl ?_
      refine j_get1e h d_Srv_leaseNew_40 fl_Srv_18 rfl (by assumption) (kb s hs).2.2.1 ?_
      refine j_iadd h d_Srv_leaseNew_43 ?_
      refine j_mmin h d_Srv_leaseNew_44 wm_Srv_117 (hM_of hX (by decide) (Nat.le_of_ble_eq_true rfl)) (hf_of (mc' := 0) (ms' := 0) hX (by decide) (by decide)) ?_
      refine j_istore h d_Srv_leaseNew_47 (Nat.lt_of_lt_of_eq (m := 6) (by decide) hN.symm) ?_
      refine j_goto (tgt := 58) h d_Srv_leaseNew_49 (by decide) ?_
      refine j_aload h d_Srv_leaseNew_58 rfl ?_
      refine j_callV h (c_Rec_change _ _ _ _ _ _ _ _ _ hr) d_Srv_leaseNew_60 ml_Srv_122 mv_Rec_change (by assumption) ⟨rfl, rfl⟩ rfl rfl (Nat.le_of_ble_eq_true rfl) (hR_of hX (by decide) (by decide)) (hf_of hX (by decide) (by decide)) ?_
      rintro _ _ _ _ ⟨rfl, rfl, rfl, rfl⟩
      refine j_aload h d_Srv_leaseNew_63 rfl ?_
      refine j_aload_n h d_Srv_leaseNew_65 rfl ?_
      refine j_get1e (v := x 2) h d_Srv_leaseNew_66 fl_Srv_84 rfl (by assumption) (by first | exact hcm.1 2 (by decide) | (simp [up_rd, mB_rd, hne, adB_k]; exact hcm.1 2 (by decide))) ?_
      refine j_iload h d_Srv_leaseNew_69 rfl ?_
      refine j_aload_n h d_Srv_leaseNew_71 rfl ?_
      refine j_get1e (v := x 5) h d_Srv_leaseNew_72 fl_Srv_125 rfl (by assumption) (by first | exact hcm.1 5 (by decide) | (simp [up_rd, mB_rd, hne, adB_k]; exact hcm.1 5 (by decide))) ?_
      refine j_aload h d_Srv_leaseNew_75 rfl ?_
      refine j_get0 h d_Srv_leaseNew_77 fl_Srv_126 rfl (by assumption) ?_
      refine j_callV h (c_Rec_bind _ _ _ _ _ _ _ _ _ hr _ _ _ _) d_Srv_leaseNew_80 ml_Srv_129 mv_Rec_bind (by assumption) ⟨rfl, rfl⟩ rfl rfl (Nat.le_of_ble_eq_true rfl) (hR_of hX (by decide) (by decide)) (hf_of hX (by decide) (by decide)) ?_
      rintro _ _ _ _ ⟨rfl, rfl, rfl, rfl⟩
      refine j_iload_n h d_Srv_leaseNew_83 rfl ?_
      exact j_iret hX d_Srv_leaseNew_84 rfl (Nat.le_refl _) (Nat.le_refl _) ⟨rfl, rfl, by clear hX h hl; first | rfl | (simp_all [lsNew, up_rd, chg_rd]; done) | grind [lsNew, up_rd, chg_rd, bnd_rd], rfl⟩
theorem d_Srv_tell_0 : decode b_Srv_tell 0 = .ok (.iload_n 1, 1) := by decide +kernel
theorem d_Srv_tell_1 : decode b_Srv_tell 1 = .ok (.tableswitch 84 0 7 #[47, 52, 54, 59, 64, 69, 74, 79], 47) := by decide +kernel
theorem d_Srv_tell_48 : decode b_Srv_tell 48 = .ok (.aload_n 0, 1) := by decide +kernel
theorem d_Srv_tell_49 : decode b_Srv_tell 49 = .ok (.getfield 33, 3) := by decide +kernel
theorem d_Srv_tell_52 : decode b_Srv_tell 52 = .ok (.ireturn, 1) := by decide +kernel
theorem d_Srv_tell_53 : decode b_Srv_tell 53 = .ok (.iload_n 2, 1) := by decide +kernel
theorem d_Srv_tell_54 : decode b_Srv_tell 54 = .ok (.ireturn, 1) := by decide +kernel
theorem d_Srv_tell_55 : decode b_Srv_tell 55 = .ok (.aload_n 0, 1) := by decide +kernel
theorem d_Srv_tell_56 : decode b_Srv_tell 56 = .ok (.getfield 36, 3) := by decide +kernel
theorem d_Srv_tell_59 : decode b_Srv_tell 59 = .ok (.ireturn, 1) := by decide +kernel
theorem d_Srv_tell_60 : decode b_Srv_tell 60 = .ok (.aload_n 0, 1) := by decide +kernel
theorem d_Srv_tell_61 : decode b_Srv_tell 61 = .ok (.getfield 42, 3) := by decide +kernel
theorem d_Srv_tell_64 : decode b_Srv_tell 64 = .ok (.ireturn, 1) := by decide +kernel
theorem d_Srv_tell_65 : decode b_Srv_tell 65 = .ok (.aload_n 0, 1) := by decide +kernel
theorem d_Srv_tell_66 : decode b_Srv_tell 66 = .ok (.getfield 39, 3) := by decide +kernel
theorem d_Srv_tell_69 : decode b_Srv_tell 69 = .ok (.ireturn, 1) := by decide +kernel
theorem d_Srv_tell_70 : decode b_Srv_tell 70 = .ok (.aload_n 0, 1) := by decide +kernel
theorem d_Srv_tell_71 : decode b_Srv_tell 71 = .ok (.getfield 68, 3) := by decide +kernel
theorem d_Srv_tell_74 : decode b_Srv_tell 74 = .ok (.ireturn, 1) := by decide +kernel
theorem d_Srv_tell_75 : decode b_Srv_tell 75 = .ok (.aload_n 0, 1) := by decide +kernel
theorem d_Srv_tell_76 : decode b_Srv_tell 76 = .ok (.invokevirtual 241, 3) := by decide +kernel
theorem d_Srv_tell_79 : decode b_Srv_tell 79 = .ok (.ireturn, 1) := by decide +kernel
theorem d_Srv_tell_80 : decode b_Srv_tell 80 = .ok (.aload_n 0, 1) := by decide +kernel
theorem d_Srv_tell_81 : decode b_Srv_tell 81 = .ok (.invokevirtual 244, 3) := by decide +kernel
theorem d_Srv_tell_84 : decode b_Srv_tell 84 = .ok (.ireturn, 1) := by decide +kernel
theorem d_Srv_tell_85 : decode b_Srv_tell 85 = .ok (.aload_n 0, 1) := by decide +kernel
theorem d_Srv_tell_86 : decode b_Srv_tell 86 = .ok (.getfield 52, 3) := by decide +kernel
theorem d_Srv_tell_89 : decode b_Srv_tell 89 = .ok (.ireturn, 1) := by decide +kernel
set_option maxRecDepth 100000 in
set_option maxHeartbeats 4000000 in
theorem c_Srv_tell (l : Launch) (K : Kx) (V : Vx) (A B C D : MI) (P : MP) (n : Nat) (cs : CS K V P n) (s : Nat) (hs : s < 2) (t : Int32) (w : Nat) (hw : w < 9) : Ct l K md_Srv_tell (1, 22) 0 0 [.ref (K.ad 1 s), .int (nI w), .int t] V (bk4 A B C D) P (EQ V (some (.int (stell A s n t w))) (bk4 A B C D) P) := by
  refine ct_of [(0, .ref (K.ad 1 s)), (1, .int (nI w)), (2, .int t)] (by decide) (Nat.le_of_ble_eq_true rfl) (ca_r (ca_i (ca_i ca_n))) rfl ?_
  intro X hl hX
  have h : OkX X b_Srv_tell R_Srv K := hX.1
  have hN : X.nL = 3 := hX.2.1
  have hsv := cs_sv cs hs
  match w, hw with
  | 0, _ =>
    refine j_iload_n h d_Srv_tell_0 rfl ?_
    refine j_tabIn (off := 47) (tgt := 48) h d_Srv_tell_1 (by decide +kernel) (by decide +kernel) (by decide +kernel) (by decide) ?_
    refine j_aload_n h d_Srv_tell_48 rfl ?_
    refine j_get0 h d_Srv_tell_49 fl_Srv_33 rfl (by assumption) ?_
    exact j_iret hX d_Srv_tell_52 rfl (Nat.le_refl _) (Nat.le_refl _) ⟨rfl, rfl, rfl, rfl⟩
  | 1, _ =>
    refine j_iload_n h d_Srv_tell_0 rfl ?_
    refine j_tabIn (off := 52) (tgt := 53) h d_Srv_tell_1 (by decide +kernel) (by decide +kernel) (by decide +kernel) (by decide) ?_
    refine j_iload_n h d_Srv_tell_53 rfl ?_
    exact j_iret hX d_Srv_tell_54 rfl (Nat.le_refl _) (Nat.le_refl _) ⟨rfl, rfl, rfl, rfl⟩
  | 2, _ =>
    refine j_iload_n h d_Srv_tell_0 rfl ?_
    refine j_tabIn (off := 54) (tgt := 55) h d_Srv_tell_1 (by decide +kernel) (by decide +kernel) (by decide +kernel) (by decide) ?_
    refine j_aload_n h d_Srv_tell_55 rfl ?_
    refine j_get0 h d_Srv_tell_56 fl_Srv_36 rfl (by assumption) ?_
    exact j_iret hX d_Srv_tell_59 rfl (Nat.le_refl _) (Nat.le_refl _) ⟨rfl, rfl, rfl, rfl⟩
  | 3, _ =>
    refine j_iload_n h d_Srv_tell_0 rfl ?_
    refine j_tabIn (off := 59) (tgt := 60) h d_Srv_tell_1 (by decide +kernel) (by decide +kernel) (by decide +kernel) (by decide) ?_
    refine j_aload_n h d_Srv_tell_60 rfl ?_
    refine j_get0 h d_Srv_tell_61 fl_Srv_42 rfl (by assumption) ?_
    exact j_iret hX d_Srv_tell_64 rfl (Nat.le_refl _) (Nat.le_refl _) ⟨rfl, rfl, rfl, rfl⟩
  | 4, _ =>
    refine j_iload_n h d_Srv_tell_0 rfl ?_
    refine j_tabIn (off := 64) (tgt := 65) h d_Srv_tell_1 (by decide +kernel) (by decide +kernel) (by decide +kernel) (by decide) ?_
    refine j_aload_n h d_Srv_tell_65 rfl ?_
    refine j_get0 h d_Srv_tell_66 fl_Srv_39 rfl (by assumption) ?_
    exact j_iret hX d_Srv_tell_69 rfl (Nat.le_refl _) (Nat.le_refl _) ⟨rfl, rfl, rfl, rfl⟩
  | 5, _ =>
    refine j_iload_n h d_Srv_tell_0 rfl ?_
    refine j_tabIn (off := 69) (tgt := 70) h d_Srv_tell_1 (by decide +kernel) (by decide +kernel) (by decide +kernel) (by decide) ?_
    refine j_aload_n h d_Srv_tell_70 rfl ?_
    refine j_get0 h d_Srv_tell_71 fl_Srv_68 rfl (by assumption) ?_
    exact j_iret hX d_Srv_tell_74 rfl (Nat.le_refl _) (Nat.le_refl _) ⟨rfl, rfl, rfl, rfl⟩
  | 6, _ =>
    refine j_iload_n h d_Srv_tell_0 rfl ?_
    refine j_tabIn (off := 74) (tgt := 75) h d_Srv_tell_1 (by decide +kernel) (by decide +kernel) (by decide +kernel) (by decide) ?_
    refine j_aload_n h d_Srv_tell_75 rfl ?_
    refine j_callV h (c_Srv_countOwn _ _ _ _ _ _ _ _ _ cs _ hs) d_Srv_tell_76 ml_Srv_241 mv_Srv_countOwn (by assumption) ⟨rfl, rfl⟩ rfl rfl (Nat.le_of_ble_eq_true rfl) (hR_of hX (by decide) (by decide)) (hf_of hX (by decide) (by decide)) ?_
    rintro _ _ _ _ ⟨rfl, rfl, rfl, rfl⟩
    exact j_iret hX d_Srv_tell_79 rfl (Nat.le_refl _) (Nat.le_refl _) ⟨rfl, rfl, rfl, rfl⟩
  | 7, _ =>
    refine j_iload_n h d_Srv_tell_0 rfl ?_
    refine j_tabIn (off := 79) (tgt := 80) h d_Srv_tell_1 (by decide +kernel) (by decide +kernel) (by decide +kernel) (by decide) ?_
    refine j_aload_n h d_Srv_tell_80 rfl ?_
    refine j_callV h (c_Srv_countPending _ _ _ _ _ _ _ _ _ cs _ hs) d_Srv_tell_81 ml_Srv_244 mv_Srv_countPending (by assumption) ⟨rfl, rfl⟩ rfl rfl (Nat.le_of_ble_eq_true rfl) (hR_of hX (by decide) (by decide)) (hf_of hX (by decide) (by decide)) ?_
    rintro _ _ _ _ ⟨rfl, rfl, rfl, rfl⟩
    exact j_iret hX d_Srv_tell_84 rfl (Nat.le_refl _) (Nat.le_refl _) ⟨rfl, rfl, rfl, rfl⟩
  | 8, _ =>
    refine j_iload_n h d_Srv_tell_0 rfl ?_
    refine j_tabOut (tgt := 85) h d_Srv_tell_1 (by decide +kernel) (by decide) ?_
    refine j_aload_n h d_Srv_tell_85 rfl ?_
    refine j_get0 h d_Srv_tell_86 fl_Srv_52 rfl (by assumption) ?_
    exact j_iret hX d_Srv_tell_89 rfl (Nat.le_refl _) (Nat.le_refl _) ⟨rfl, rfl, rfl, rfl⟩
  | k + 9, hk => exact absurd hk (by omega)
