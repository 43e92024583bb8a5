/-! a server's methods that touch no message on the net -/
def solR (s : Nat) : Nat → Nat → MI → MI
  | 0, _, A => A
  | k + 1, i, A => solR s k (i + 1) (up A 21 (32 * s + i) (b01 (A 10 (32 * s + i) = 1)))
def rejR (s : Nat) : Nat → Nat → MI → MI
  | 0, _, A => A
  | k + 1, i, A => rejR s k (i + 1) (up A 21 (32 * s + i) 0)
def lsdTo (A : MI) (s : Nat) (c t : Int32) : Nat → Nat → Int32
  | 0, _ => -1
  | k + 1, i => if (A 10 (32 * s + i) = 2 ∧ A 11 (32 * s + i) = c) ∧ ¬ A 12 (32 * s + i) ≤ t then nI i else lsdTo A s c t k (i + 1)
def allF (A : MI) (s : Nat) : Nat → Nat → Int32
  | 0, _ => 1
  | k + 1, i => if A 22 (32 * s + i) = 0 then 0 else allF A s k (i + 1)
theorem allF_z (A : MI) (s : Nat) : ∀ k i, allF A s k i = 0 ∨ allF A s k i = 1
  | 0, _ => Or.inr rfl
  | k + 1, i => by
    unfold allF
    split
    · exact Or.inl rfl
    · exact allF_z A s k (i + 1)
def cOwn (A : MI) (s : Nat) : Nat → Nat → Int32 → Int32
  | 0, _, g => g
  | k + 1, i, g => cOwn A s k (i + 1) (if A 10 (32 * s + i) = 1 then g + 1 else g)
def cPen (A : MI) (s : Nat) : Nat → Nat → Int32 → Int32
  | 0, _, g => g
  | k + 1, i, g => cPen A s k (i + 1) (if A 17 (32 * s + i) = 0 then g else g + 1)
def endT (A : MI) (r : Nat) (t : Int32) : Int32 × MI := if A 10 r = 2 ∧ A 12 r ≤ t then (1, chgTo A r 3) else (0, A)
def enSole (A : MI) (r : Nat) (t : Int32) : Int32 × MI := if A 10 r = 3 ∨ (A 10 r = 2 ∧ ¬ t < A 12 r) then (1, chgTo A r 1) else (0, A)
def tkOver (A : MI) (r s : Nat) (ld sk t : Int32) : Int32 × MI := if A 10 r = 1 ∨ ¬ gr (A 12 r) (A 5 s + sk) + ld ≤ t then (0, A) else (1, chgTo (up (up (up A 21 r 1) 20 r (A 4 s)) 19 r (-1)) r 1)
theorem tkB_z (A : MI) (r : Nat) (c e q : Int32) : (tkBound A r c e q).1 = 0 ∨ (tkBound A r c e q).1 = 1 := by grind [tkBound]
theorem tkE_z (A : MI) (r : Nat) (c e k b q y : Int32) : (tkEnding A r c e k b q y).1 = 0 ∨ (tkEnding A r c e k b q y).1 = 1 := by grind [tkEnding]
theorem tkG_z (A : MI) (r : Nat) : (tkGiven A r).1 = 0 ∨ (tkGiven A r).1 = 1 := by unfold tkGiven; split <;> simp
theorem enS_z (A : MI) (r : Nat) (t : Int32) : (enSole A r t).1 = 0 ∨ (enSole A r t).1 = 1 := by unfold enSole; split <;> simp
theorem enO_z (A : MI) (r s : Nat) (ld sk t : Int32) : (tkOver A r s ld sk t).1 = 0 ∨ (tkOver A r s ld sk t).1 = 1 := by unfold tkOver; split <;> simp
def enAlone (A : MI) (r s : Nat) (ld sk t : Int32) : Int32 × MI := if A 21 r = 0 then tkOver A r s ld sk t else enSole A r t
def gvWay (A : MI) (r s : Nat) (k vd sn : Int32) : MI :=
  if A 0 s = 1 ∧ ¬ vd < A 3 s then settle A r (if k = 0 then 1 else 0)
  else if A 10 r = 4 ∧ sn = A 15 r ∧ ¬ k = 0 then settle A r 0 else A
theorem d_Srv_goAlone_0 : decode b_Srv_goAlone 0 = .ok (.aload_n 0, 1) := by decide +kernel
theorem d_Srv_goAlone_1 : decode b_Srv_goAlone 1 = .ok (.iconst 3, 1) := by decide +kernel
theorem d_Srv_goAlone_2 : decode b_Srv_goAlone 2 = .ok (.putfield 33, 3) := by decide +kernel
theorem d_Srv_goAlone_5 : decode b_Srv_goAlone 5 = .ok (.aload_n 0, 1) := by decide +kernel
theorem d_Srv_goAlone_6 : decode b_Srv_goAlone 6 = .ok (.iload_n 1, 1) := by decide +kernel
theorem d_Srv_goAlone_7 : decode b_Srv_goAlone 7 = .ok (.putfield 68, 3) := by decide +kernel
theorem d_Srv_goAlone_10 : decode b_Srv_goAlone 10 = .ok (.iconst 0, 1) := by decide +kernel
theorem d_Srv_goAlone_11 : decode b_Srv_goAlone 11 = .ok (.istore_n 2, 1) := by decide +kernel
theorem d_Srv_goAlone_12 : decode b_Srv_goAlone 12 = .ok (.iload_n 2, 1) := by decide +kernel
theorem d_Srv_goAlone_13 : decode b_Srv_goAlone 13 = .ok (.aload_n 0, 1) := by decide +kernel
theorem d_Srv_goAlone_14 : decode b_Srv_goAlone 14 = .ok (.getfield 26, 3) := by decide +kernel
theorem d_Srv_goAlone_17 : decode b_Srv_goAlone 17 = .ok (.arraylength, 1) := by decide +kernel
theorem d_Srv_goAlone_18 : decode b_Srv_goAlone 18 = .ok (.if_icmp .ge 36, 3) := by decide +kernel
theorem d_Srv_goAlone_21 : decode b_Srv_goAlone 21 = .ok (.aload_n 0, 1) := by decide +kernel
theorem d_Srv_goAlone_22 : decode b_Srv_goAlone 22 = .ok (.getfield 26, 3) := by decide +kernel
theorem d_Srv_goAlone_25 : decode b_Srv_goAlone 25 = .ok (.iload_n 2, 1) := by decide +kernel
theorem d_Srv_goAlone_26 : decode b_Srv_goAlone 26 = .ok (.aaload, 1) := by decide +kernel
theorem d_Srv_goAlone_27 : decode b_Srv_goAlone 27 = .ok (.aload_n 0, 1) := by decide +kernel
theorem d_Srv_goAlone_28 : decode b_Srv_goAlone 28 = .ok (.getfield 26, 3) := by decide +kernel
theorem d_Srv_goAlone_31 : decode b_Srv_goAlone 31 = .ok (.iload_n 2, 1) := by decide +kernel
theorem d_Srv_goAlone_32 : decode b_Srv_goAlone 32 = .ok (.aaload, 1) := by decide +kernel
theorem d_Srv_goAlone_33 : decode b_Srv_goAlone 33 = .ok (.getfield 71, 3) := by decide +kernel
theorem d_Srv_goAlone_36 : decode b_Srv_goAlone 36 = .ok (.iconst 1, 1) := by decide +kernel
theorem d_Srv_goAlone_37 : decode b_Srv_goAlone 37 = .ok (.if_icmp .ne 7, 3) := by decide +kernel
theorem d_Srv_goAlone_40 : decode b_Srv_goAlone 40 = .ok (.iconst 1, 1) := by decide +kernel
theorem d_Srv_goAlone_41 : decode b_Srv_goAlone 41 = .ok (.goto 4, 3) := by decide +kernel
theorem d_Srv_goAlone_44 : decode b_Srv_goAlone 44 = .ok (.iconst 0, 1) := by decide +kernel
theorem d_Srv_goAlone_45 : decode b_Srv_goAlone 45 = .ok (.putfield 62, 3) := by decide +kernel
theorem d_Srv_goAlone_48 : decode b_Srv_goAlone 48 = .ok (.iinc 2 1, 3) := by decide +kernel
theorem d_Srv_goAlone_51 : decode b_Srv_goAlone 51 = .ok (.goto (-39), 3) := by decide +kernel
theorem d_Srv_goAlone_54 : decode b_Srv_goAlone 54 = .ok (.aload_n 0, 1) := by decide +kernel
theorem d_Srv_goAlone_55 : decode b_Srv_goAlone 55 = .ok (.invokevirtual 65, 3) := by decide +kernel
theorem d_Srv_goAlone_58 : decode b_Srv_goAlone 58 = .ok (.return_, 1) := by decide +kernel
set_option maxRecDepth 100000 in
set_option maxHeartbeats 4000000 in
theorem c_Srv_goAlone (l : Launch) (K : Kx) (V : Vx) (A B C D : MI) (P : MP) (n : Nat) (cs : CS K V P n) (s : Nat) (hs : s < 2) (t : Int32) : Ct l K md_Srv_goAlone (2, 40) 0 0 [.ref (K.ad 1 s), .int t] V (bk4 A B C D) P (EQ V (none) (bk4 (wr (solR s n 0 (up (up A 0 s 3) 5 s t)) s) B C D) P) := by
  refine ct_of [(0, .ref (K.ad 1 s)), (1, .int t)] (by decide) (Nat.le_of_ble_eq_true rfl) (ca_r (ca_i ca_n)) rfl ?_
  intro X hl hX
  have h : OkX X b_Srv_goAlone R_Srv K := hX.1
  have hN : X.nL = 3 := hX.2.1
  have hsv := cs_sv cs hs
  have hL : ∀ (k i : Nat) (A1 : MI), i + k = n → solR s n 0 (up (up A 0 s 3) 5 s t) = solR s k i A1 → J X K V (bk4 A1 B C D) P 0 0 12 [(0, .ref (K.ad 1 s)), (1, .int t), (2, .int (nI i))] [] := by
    intro k
    induction k with
    | zero =>
      intro i A1 hi hv
      have hi2 : i = n := by omega
      subst hi2
      refine j_iload_n h d_Srv_goAlone_12 rfl ?_
      refine j_aload_n h d_Srv_goAlone_13 rfl ?_
      refine j_getR h d_Srv_goAlone_14 fl_Srv_26 rfl (by assumption) (cs_rp cs hs) ?_
      refine j_recl h cs hs d_Srv_goAlone_17 ?_
      refine j_ic_ge (tgt := 54) h d_Srv_goAlone_18 (by decide) (fun _ => ?_) (fun c => absurd (nI_le (Nat.le_refl _) (cs_n31 cs)) c)
      refine j_aload_n h d_Srv_goAlone_54 rfl ?_
      refine j_callV h (c_Srv_write _ _ _ _ _ _ _ _ _ hsv) d_Srv_goAlone_55 ml_Srv_65 mv_Srv_write (by assumption) ⟨rfl, rfl⟩ rfl rfl (Nat.le_of_ble_eq_true rfl) (hR_of hX (by decide) (by decide)) (hf_of hX (by decide) (by decide)) ?_
      rintro _ _ _ _ ⟨rfl, rfl, rfl, rfl⟩
      exact j_vret hX d_Srv_goAlone_58 rfl (Nat.le_refl _) (Nat.le_refl _) ⟨rfl, rfl, by rw [hv]; rfl, rfl⟩
    | succ k ih =>
      intro i A1 hi hv
      have hi2 : i < n := by omega
      have hr := cs_rv cs hs hi2
      refine j_iload_n h d_Srv_goAlone_12 rfl ?_
      refine j_aload_n h d_Srv_goAlone_13 rfl ?_
      refine j_getR h d_Srv_goAlone_14 fl_Srv_26 rfl (by assumption) (cs_rp cs hs) ?_
      refine j_recl h cs hs d_Srv_goAlone_17 ?_
      refine j_ic_ge (tgt := 54) h d_Srv_goAlone_18 (by decide) (fun c => absurd c (nI_ge hi2 (cs_n31 cs))) (fun _ => ?_)
      refine j_aload_n h d_Srv_goAlone_21 rfl ?_
      refine j_getR h d_Srv_goAlone_22 fl_Srv_26 rfl (by assumption) (cs_rp cs hs) ?_
      refine j_iload_n h d_Srv_goAlone_25 rfl ?_
      refine j_recs h cs hs hi2 d_Srv_goAlone_26 ?_
      refine j_aload_n h d_Srv_goAlone_27 rfl ?_
      refine j_getR h d_Srv_goAlone_28 fl_Srv_26 rfl (by assumption) (cs_rp cs hs) ?_
      refine j_iload_n h d_Srv_goAlone_31 rfl ?_
      refine j_recs h cs hs hi2 d_Srv_goAlone_32 ?_
      refine j_get0 h d_Srv_goAlone_33 fl_Srv_71 rfl (by assumption) ?_
      refine j_iconst (v := 1) h d_Srv_goAlone_36 (by decide) ?_
      refine j_ic_ne (tgt := 44) h d_Srv_goAlone_37 (by decide) (fun c1 => ?_) (fun c1 => ?_)
      · refine j_iconst (v := 0) h d_Srv_goAlone_44 (by decide) ?_
        refine j_putZ0 h d_Srv_goAlone_45 fw_Srv_62 rfl rfl (by assumption) (by first | exact Or.inl rfl | exact Or.inr rfl | assumption) ?_
        refine j_iinc (v := nI (i + 1)) h d_Srv_goAlone_48 rfl (nI_i i) (Nat.lt_of_lt_of_eq (m := 3) (by decide) hN.symm) ?_
        refine j_goto (tgt := 12) h d_Srv_goAlone_51 (by decide) ?_
        refine j_lv (lv' := [(0, .ref (K.ad 1 s)), (1, .int t), (2, .int (nI (i + 1)))]) (lvs rfl (lvs rfl (lvs rfl lvs0))) ?_
        exact ih (i + 1) _ (by omega) (hv.trans (by simp_all [solR, b01]))
      · refine j_iconst (v := 1) h d_Srv_goAlone_40 (by decide) ?_
        refine j_goto (tgt := 45) h d_Srv_goAlone_41 (by decide) ?_
        refine j_putZ0 h d_Srv_goAlone_45 fw_Srv_62 rfl rfl (by assumption) (by first | exact Or.inl rfl | exact Or.inr rfl | assumption) ?_
        refine j_iinc (v := nI (i + 1)) h d_Srv_goAlone_48 rfl (nI_i i) (Nat.lt_of_lt_of_eq (m := 3) (by decide) hN.symm) ?_
        refine j_goto (tgt := 12) h d_Srv_goAlone_51 (by decide) ?_
        refine j_lv (lv' := [(0, .ref (K.ad 1 s)), (1, .int t), (2, .int (nI (i + 1)))]) (lvs rfl (lvs rfl (lvs rfl lvs0))) ?_
        exact ih (i + 1) _ (by omega) (hv.trans (by simp_all [solR, b01]))
  refine j_aload_n h d_Srv_goAlone_0 rfl ?_
  refine j_iconst (v := 3) h d_Srv_goAlone_1 (by decide) ?_
  refine j_put0 h d_Srv_goAlone_2 fw_Srv_33 rfl rfl (by assumption) ?_
  refine j_aload_n h d_Srv_goAlone_5 rfl ?_
  refine j_iload_n h d_Srv_goAlone_6 rfl ?_
  refine j_put0 h d_Srv_goAlone_7 fw_Srv_68 rfl rfl (by assumption) ?_
  refine j_iconst (v := 0) h d_Srv_goAlone_10 (by decide) ?_
  refine j_istore_n h d_Srv_goAlone_11 (Nat.lt_of_lt_of_eq (m := 3) (by decide) hN.symm) ?_
  refine j_lv (lv' := [(0, .ref (K.ad 1 s)), (1, .int t), (2, .int (nI 0))]) (lvs rfl (lvs rfl (lvs rfl lvs0))) ?_
  exact hL n 0 _ (by omega) rfl
theorem d_Srv_rejoin_0 : decode b_Srv_rejoin 0 = .ok (.aload_n 0, 1) := by decide +kernel
theorem d_Srv_rejoin_1 : decode b_Srv_rejoin 1 = .ok (.iconst 2, 1) := by decide +kernel
theorem d_Srv_rejoin_2 : decode b_Srv_rejoin 2 = .ok (.putfield 33, 3) := by decide +kernel
theorem d_Srv_rejoin_5 : decode b_Srv_rejoin 5 = .ok (.iconst 0, 1) := by decide +kernel
theorem d_Srv_rejoin_6 : decode b_Srv_rejoin 6 = .ok (.istore_n 1, 1) := by decide +kernel
theorem d_Srv_rejoin_7 : decode b_Srv_rejoin 7 = .ok (.iload_n 1, 1) := by decide +kernel
theorem d_Srv_rejoin_8 : decode b_Srv_rejoin 8 = .ok (.aload_n 0, 1) := by decide +kernel
theorem d_Srv_rejoin_9 : decode b_Srv_rejoin 9 = .ok (.getfield 26, 3) := by decide +kernel
theorem d_Srv_rejoin_12 : decode b_Srv_rejoin 12 = .ok (.arraylength, 1) := by decide +kernel
theorem d_Srv_rejoin_13 : decode b_Srv_rejoin 13 = .ok (.if_icmp .ge 19, 3) := by decide +kernel
theorem d_Srv_rejoin_16 : decode b_Srv_rejoin 16 = .ok (.aload_n 0, 1) := by decide +kernel
theorem d_Srv_rejoin_17 : decode b_Srv_rejoin 17 = .ok (.getfield 26, 3) := by decide +kernel
theorem d_Srv_rejoin_20 : decode b_Srv_rejoin 20 = .ok (.iload_n 1, 1) := by decide +kernel
theorem d_Srv_rejoin_21 : decode b_Srv_rejoin 21 = .ok (.aaload, 1) := by decide +kernel
theorem d_Srv_rejoin_22 : decode b_Srv_rejoin 22 = .ok (.iconst 0, 1) := by decide +kernel
theorem d_Srv_rejoin_23 : decode b_Srv_rejoin 23 = .ok (.putfield 62, 3) := by decide +kernel
theorem d_Srv_rejoin_26 : decode b_Srv_rejoin 26 = .ok (.iinc 1 1, 3) := by decide +kernel
theorem d_Srv_rejoin_29 : decode b_Srv_rejoin 29 = .ok (.goto (-22), 3) := by decide +kernel
theorem d_Srv_rejoin_32 : decode b_Srv_rejoin 32 = .ok (.return_, 1) := by decide +kernel
set_option maxRecDepth 100000 in
set_option maxHeartbeats 4000000 in
theorem c_Srv_rejoin (l : Launch) (K : Kx) (V : Vx) (A B C D : MI) (P : MP) (n : Nat) (cs : CS K V P n) (s : Nat) (hs : s < 2) : Ct l K md_Srv_rejoin (0, 0) 0 0 [.ref (K.ad 1 s)] V (bk4 A B C D) P (EQ V (none) (bk4 (rejR s n 0 (up A 0 s 2)) B C D) P) := by
  refine ct_of [(0, .ref (K.ad 1 s))] (by decide) (Nat.le_of_ble_eq_true rfl) (ca_r ca_n) rfl ?_
  intro X hl hX
  have h : OkX X b_Srv_rejoin R_Srv K := hX.1
  have hN : X.nL = 2 := hX.2.1
  have hsv := cs_sv cs hs
  have hL : ∀ (k i : Nat) (A1 : MI), i + k = n → rejR s n 0 (up A 0 s 2) = rejR s k i A1 → J X K V (bk4 A1 B C D) P 0 0 7 [(0, .ref (K.ad 1 s)), (1, .int (nI i))] [] := by
    intro k
    induction k with
    | zero =>
      intro i A1 hi hv
      have hi2 : i = n := by omega
      subst hi2
      refine j_iload_n h d_Srv_rejoin_7 rfl ?_
      refine j_aload_n h d_Srv_rejoin_8 rfl ?_
      refine j_getR h d_Srv_rejoin_9 fl_Srv_26 rfl (by assumption) (cs_rp cs hs) ?_
      refine j_recl h cs hs d_Srv_rejoin_12 ?_
      refine j_ic_ge (tgt := 32) h d_Srv_rejoin_13 (by decide) (fun _ => ?_) (fun c => absurd (nI_le (Nat.le_refl _) (cs_n31 cs)) c)
      exact j_vret hX d_Srv_rejoin_32 rfl (Nat.le_refl _) (Nat.le_refl _) ⟨rfl, rfl, by rw [hv]; rfl, rfl⟩
    | succ k ih =>
      intro i A1 hi hv
      have hi2 : i < n := by omega
      have hr := cs_rv cs hs hi2
      refine j_iload_n h d_Srv_rejoin_7 rfl ?_
      refine j_aload_n h d_Srv_rejoin_8 rfl ?_
      refine j_getR h d_Srv_rejoin_9 fl_Srv_26 rfl (by assumption) (cs_rp cs hs) ?_
      refine j_recl h cs hs d_Srv_rejoin_12 ?_
      refine j_ic_ge (tgt := 32) h d_Srv_rejoin_13 (by decide) (fun c => absurd c (nI_ge hi2 (cs_n31 cs))) (fun _ => ?_)
      refine j_aload_n h d_Srv_rejoin_16 rfl ?_
      refine j_getR h d_Srv_rejoin_17 fl_Srv_26 rfl (by assumption) (cs_rp cs hs) ?_
      refine j_iload_n h d_Srv_rejoin_20 rfl ?_
      refine j_recs h cs hs hi2 d_Srv_rejoin_21 ?_
      refine j_iconst (v := 0) h d_Srv_rejoin_22 (by decide) ?_
      refine j_putZ0 h d_Srv_rejoin_23 fw_Srv_62 rfl rfl (by assumption) (by first | exact Or.inl rfl | exact Or.inr rfl | assumption) ?_
      refine j_iinc (v := nI (i + 1)) h d_Srv_rejoin_26 rfl (nI_i i) (Nat.lt_of_lt_of_eq (m := 2) (by decide) hN.symm) ?_
      refine j_goto (tgt := 7) h d_Srv_rejoin_29 (by decide) ?_
      refine j_lv (lv' := [(0, .ref (K.ad 1 s)), (1, .int (nI (i + 1)))]) (lvs rfl (lvs rfl lvs0)) ?_
      exact ih (i + 1) _ (by omega) hv
  refine j_aload_n h d_Srv_rejoin_0 rfl ?_
  refine j_iconst (v := 2) h d_Srv_rejoin_1 (by decide) ?_
  refine j_put0 h d_Srv_rejoin_2 fw_Srv_33 rfl rfl (by assumption) ?_
  refine j_iconst (v := 0) h d_Srv_rejoin_5 (by decide) ?_
  refine j_istore_n h d_Srv_rejoin_6 (Nat.lt_of_lt_of_eq (m := 2) (by decide) hN.symm) ?_
  refine j_lv (lv' := [(0, .ref (K.ad 1 s)), (1, .int (nI 0))]) (lvs rfl (lvs rfl lvs0)) ?_
  exact hL n 0 _ (by omega) rfl
theorem d_Srv_leasedTo_0 : decode b_Srv_leasedTo 0 = .ok (.iconst 0, 1) := by decide +kernel
theorem d_Srv_leasedTo_1 : decode b_Srv_leasedTo 1 = .ok (.istore_n 3, 1) := by decide +kernel
theorem d_Srv_leasedTo_2 : decode b_Srv_leasedTo 2 = .ok (.iload_n 3, 1) := by decide +kernel
theorem d_Srv_leasedTo_3 : decode b_Srv_leasedTo 3 = .ok (.aload_n 0, 1) := by decide +kernel
theorem d_Srv_leasedTo_4 : decode b_Srv_leasedTo 4 = .ok (.getfield 26, 3) := by decide +kernel
theorem d_Srv_leasedTo_7 : decode b_Srv_leasedTo 7 = .ok (.arraylength, 1) := by decide +kernel
theorem d_Srv_leasedTo_8 : decode b_Srv_leasedTo 8 = .ok (.if_icmp .ge 37, 3) := by decide +kernel
theorem d_Srv_leasedTo_11 : decode b_Srv_leasedTo 11 = .ok (.aload_n 0, 1) := by decide +kernel
theorem d_Srv_leasedTo_12 : decode b_Srv_leasedTo 12 = .ok (.getfield 26, 3) := by decide +kernel
theorem d_Srv_leasedTo_15 : decode b_Srv_leasedTo 15 = .ok (.iload_n 3, 1) := by decide +kernel
theorem d_Srv_leasedTo_16 : decode b_Srv_leasedTo 16 = .ok (.aaload, 1) := by decide +kernel
theorem d_Srv_leasedTo_17 : decode b_Srv_leasedTo 17 = .ok (.iload_n 1, 1) := by decide +kernel
theorem d_Srv_leasedTo_18 : decode b_Srv_leasedTo 18 = .ok (.invokevirtual 103, 3) := by decide +kernel
theorem d_Srv_leasedTo_21 : decode b_Srv_leasedTo 21 = .ok (.ifCond .eq 18, 3) := by decide +kernel
theorem d_Srv_leasedTo_24 : decode b_Srv_leasedTo 24 = .ok (.aload_n 0, 1) := by decide +kernel
theorem d_Srv_leasedTo_25 : decode b_Srv_leasedTo 25 = .ok (.getfield 26, 3) := by decide +kernel
theorem d_Srv_leasedTo_28 : decode b_Srv_leasedTo 28 = .ok (.iload_n 3, 1) := by decide +kernel
theorem d_Srv_leasedTo_29 : decode b_Srv_leasedTo 29 = .ok (.aaload, 1) := by decide +kernel
theorem d_Srv_leasedTo_30 : decode b_Srv_leasedTo 30 = .ok (.getfield 107, 3) := by decide +kernel
theorem d_Srv_leasedTo_33 : decode b_Srv_leasedTo 33 = .ok (.iload_n 2, 1) := by decide +kernel
theorem d_Srv_leasedTo_34 : decode b_Srv_leasedTo 34 = .ok (.if_icmp .le 5, 3) := by decide +kernel
theorem d_Srv_leasedTo_37 : decode b_Srv_leasedTo 37 = .ok (.iload_n 3, 1) := by decide +kernel
theorem d_Srv_leasedTo_38 : decode b_Srv_leasedTo 38 = .ok (.ireturn, 1) := by decide +kernel
theorem d_Srv_leasedTo_39 : decode b_Srv_leasedTo 39 = .ok (.iinc 3 1, 3) := by decide +kernel
theorem d_Srv_leasedTo_42 : decode b_Srv_leasedTo 42 = .ok (.goto (-40), 3) := by decide +kernel
theorem d_Srv_leasedTo_45 : decode b_Srv_leasedTo 45 = .ok (.iconst (-1), 1) := by decide +kernel
theorem d_Srv_leasedTo_46 : decode b_Srv_leasedTo 46 = .ok (.ireturn, 1) := by decide +kernel
set_option maxRecDepth 100000 in
set_option maxHeartbeats 4000000 in
theorem c_Srv_leasedTo (l : Launch) (K : Kx) (V : Vx) (A B C D : MI) (P : MP) (n : Nat) (cs : CS K V P n) (s : Nat) (hs : s < 2) (c t : Int32) : Ct l K md_Srv_leasedTo (1, 21) 0 0 [.ref (K.ad 1 s), .int c, .int t] V (bk4 A B C D) P (EQ V (some (.int (lsdTo A s c t n 0))) (bk4 A B C D) P) := by
  refine ct_of [(0, .ref (K.ad 1 s)), (1, .int c), (2, .int t)] (by decide) (Nat.le_of_ble_eq_true rfl) (ca_r (ca_i (ca_i ca_n))) rfl ?_
  intro X hl hX
  have h : OkX X b_Srv_leasedTo R_Srv K := hX.1
  have hN : X.nL = 4 := hX.2.1
  have hsv := cs_sv cs hs
  have hL : ∀ (k i : Nat) , i + k = n → lsdTo A s c t n 0 = lsdTo A s c t k i → J X K V (bk4 A B C D) P 0 0 2 [(0, .ref (K.ad 1 s)), (1, .int c), (2, .int t), (3, .int (nI i))] [] := by
    intro k
    induction k with
    | zero =>
      intro i  hi hv
      have hi2 : i = n := by omega
      subst hi2
      refine j_iload_n h d_Srv_leasedTo_2 rfl ?_
      refine j_aload_n h d_Srv_leasedTo_3 rfl ?_
      refine j_getR h d_Srv_leasedTo_4 fl_Srv_26 rfl (by assumption) (cs_rp cs hs) ?_
      refine j_recl h cs hs d_Srv_leasedTo_7 ?_
      refine j_ic_ge (tgt := 45) h d_Srv_leasedTo_8 (by decide) (fun _ => ?_) (fun c => absurd (nI_le (Nat.le_refl _) (cs_n31 cs)) c)
      refine j_iconst (v := -1) h d_Srv_leasedTo_45 (by decide) ?_
      exact j_iret hX d_Srv_leasedTo_46 rfl (Nat.le_refl _) (Nat.le_refl _) ⟨rfl, by rw [hv]; first | rfl | (simp only [lsdTo]; rw [if_pos (by simp only [b01_0] at *; grind)]), rfl, rfl⟩
    | succ k ih =>
      intro i  hi hv
      have hi2 : i < n := by omega
      have hr := cs_rv cs hs hi2
      refine j_iload_n h d_Srv_leasedTo_2 rfl ?_
      refine j_aload_n h d_Srv_leasedTo_3 rfl ?_
      refine j_getR h d_Srv_leasedTo_4 fl_Srv_26 rfl (by assumption) (cs_rp cs hs) ?_
      refine j_recl h cs hs d_Srv_leasedTo_7 ?_
      refine j_ic_ge (tgt := 45) h d_Srv_leasedTo_8 (by decide) (fun c => absurd c (nI_ge hi2 (cs_n31 cs))) (fun _ => ?_)
      refine j_aload_n h d_Srv_leasedTo_11 rfl ?_
      refine j_getR h d_Srv_leasedTo_12 fl_Srv_26 rfl (by assumption) (cs_rp cs hs) ?_
      refine j_iload_n h d_Srv_leasedTo_15 rfl ?_
      refine j_recs h cs hs hi2 d_Srv_leasedTo_16 ?_
      refine j_iload_n h d_Srv_leasedTo_17 rfl ?_
      refine j_callV h (c_Rec_isBoundTo _ _ _ _ _ _ _ _ _ hr _) d_Srv_leasedTo_18 ml_Srv_103 mv_Rec_isBoundTo (by assumption) ⟨rfl, rfl⟩ rfl rfl (Nat.le_of_ble_eq_true rfl) (hR_of hX (by decide) (by decide)) (hf_of hX (by decide) (by decide)) ?_
      rintro _ _ _ _ ⟨rfl, rfl, rfl, rfl⟩
      refine j_if_eq (tgt := 39) h d_Srv_leasedTo_21 (by decide) (fun c1 => ?_) (fun c1 => ?_)
      · refine j_iinc (v := nI (i + 1)) h d_Srv_leasedTo_39 rfl (nI_i i) (Nat.lt_of_lt_of_eq (m := 4) (by decide) hN.symm) ?_
        refine j_goto (tgt := 2) h d_Srv_leasedTo_42 (by decide) ?_
        refine j_lv (lv' := [(0, .ref (K.ad 1 s)), (1, .int c), (2, .int t), (3, .int (nI (i + 1)))]) (lvs rfl (lvs rfl (lvs rfl (lvs rfl lvs0)))) ?_
        exact ih (i + 1) (by omega) (hv.trans (by simp only [lsdTo]; rw [if_neg (by simp only [b01_0, b01_1] at *; grind)]))
      · refine j_aload_n h d_Srv_leasedTo_24 rfl ?_
        refine j_getR h d_Srv_leasedTo_25 fl_Srv_26 rfl (by assumption) (cs_rp cs hs) ?_
        refine j_iload_n h d_Srv_leasedTo_28 rfl ?_
        refine j_recs h cs hs hi2 d_Srv_leasedTo_29 ?_
        refine j_get0 h d_Srv_leasedTo_30 fl_Srv_107 rfl (by assumption) ?_
        refine j_iload_n h d_Srv_leasedTo_33 rfl ?_
        refine j_ic_le (tgt := 39) h d_Srv_leasedTo_34 (by decide) (fun c2 => ?_) (fun c2 => ?_)
        · refine j_iinc (v := nI (i + 1)) h d_Srv_leasedTo_39 rfl (nI_i i) (Nat.lt_of_lt_of_eq (m := 4) (by decide) hN.symm) ?_
          refine j_goto (tgt := 2) h d_Srv_leasedTo_42 (by decide) ?_
          refine j_lv (lv' := [(0, .ref (K.ad 1 s)), (1, .int c), (2, .int t), (3, .int (nI (i + 1)))]) (lvs rfl (lvs rfl (lvs rfl (lvs rfl lvs0)))) ?_
          exact ih (i + 1) (by omega) (hv.trans (by simp only [lsdTo]; rw [if_neg (by simp only [b01_0, b01_1] at *; grind)]))
        · refine j_iload_n h d_Srv_leasedTo_37 rfl ?_
          exact j_iret hX d_Srv_leasedTo_38 rfl (Nat.le_refl _) (Nat.le_refl _) ⟨rfl, by rw [hv]; first | rfl | (simp only [lsdTo]; rw [if_pos (by simp only [b01_0] at *; grind)]), rfl, rfl⟩
  refine j_iconst (v := 0) h d_Srv_leasedTo_0 (by decide) ?_
  refine j_istore_n h d_Srv_leasedTo_1 (Nat.lt_of_lt_of_eq (m := 4) (by decide) hN.symm) ?_
  refine j_lv (lv' := [(0, .ref (K.ad 1 s)), (1, .int c), (2, .int t), (3, .int (nI 0))]) (lvs rfl (lvs rfl (lvs rfl (lvs rfl lvs0)))) ?_
  exact hL n 0 (by omega) rfl
theorem d_Srv_allFresh_0 : decode b_Srv_allFresh 0 = .ok (.iconst 0, 1) := by decide +kernel
theorem d_Srv_allFresh_1 : decode b_Srv_allFresh 1 = .ok (.istore_n 1, 1) := by decide +kernel
theorem d_Srv_allFresh_2 : decode b_Srv_allFresh 2 = .ok (.iload_n 1, 1) := by decide +kernel
theorem d_Srv_allFresh_3 : decode b_Srv_allFresh 3 = .ok (.aload_n 0, 1) := by decide +kernel
theorem d_Srv_allFresh_4 : decode b_Srv_allFresh 4 = .ok (.getfield 26, 3) := by decide +kernel
theorem d_Srv_allFresh_7 : decode b_Srv_allFresh 7 = .ok (.arraylength, 1) := by decide +kernel
theorem d_Srv_allFresh_8 : decode b_Srv_allFresh 8 = .ok (.if_icmp .ge 23, 3) := by decide +kernel
theorem d_Srv_allFresh_11 : decode b_Srv_allFresh 11 = .ok (.aload_n 0, 1) := by decide +kernel
theorem d_Srv_allFresh_12 : decode b_Srv_allFresh 12 = .ok (.getfield 26, 3) := by decide +kernel
theorem d_Srv_allFresh_15 : decode b_Srv_allFresh 15 = .ok (.iload_n 1, 1) := by decide +kernel
theorem d_Srv_allFresh_16 : decode b_Srv_allFresh 16 = .ok (.aaload, 1) := by decide +kernel
theorem d_Srv_allFresh_17 : decode b_Srv_allFresh 17 = .ok (.getfield 58, 3) := by decide +kernel
theorem d_Srv_allFresh_20 : decode b_Srv_allFresh 20 = .ok (.ifCond .ne 5, 3) := by decide +kernel
theorem d_Srv_allFresh_23 : decode b_Srv_allFresh 23 = .ok (.iconst 0, 1) := by decide +kernel
theorem d_Srv_allFresh_24 : decode b_Srv_allFresh 24 = .ok (.ireturn, 1) := by decide +kernel
theorem d_Srv_allFresh_25 : decode b_Srv_allFresh 25 = .ok (.iinc 1 1, 3) := by decide +kernel
theorem d_Srv_allFresh_28 : decode b_Srv_allFresh 28 = .ok (.goto (-26), 3) := by decide +kernel
theorem d_Srv_allFresh_31 : decode b_Srv_allFresh 31 = .ok (.iconst 1, 1) := by decide +kernel
theorem d_Srv_allFresh_32 : decode b_Srv_allFresh 32 = .ok (.ireturn, 1) := by decide +kernel
set_option maxRecDepth 100000 in
set_option maxHeartbeats 4000000 in
theorem c_Srv_allFresh (l : Launch) (K : Kx) (V : Vx) (A B C D : MI) (P : MP) (n : Nat) (cs : CS K V P n) (s : Nat) (hs : s < 2) : Ct l K md_Srv_allFresh (0, 0) 0 0 [.ref (K.ad 1 s)] V (bk4 A B C D) P (EQ V (some (.int (allF A s n 0))) (bk4 A B C D) P) := by
  refine ct_of [(0, .ref (K.ad 1 s))] (by decide) (Nat.le_of_ble_eq_true rfl) (ca_r ca_n) rfl ?_
  intro X hl hX
  have h : OkX X b_Srv_allFresh R_Srv K := hX.1
  have hN : X.nL = 2 := hX.2.1
  have hsv := cs_sv cs hs
  have hL : ∀ (k i : Nat) , i + k = n → allF A s n 0 = allF A s k i → J X K V (bk4 A B C D) P 0 0 2 [(0, .ref (K.ad 1 s)), (1, .int (nI i))] [] := by
    intro k
    induction k with
    | zero =>
      intro i  hi hv
      have hi2 : i = n := by omega
      subst hi2
      refine j_iload_n h d_Srv_allFresh_2 rfl ?_
      refine j_aload_n h d_Srv_allFresh_3 rfl ?_
      refine j_getR h d_Srv_allFresh_4 fl_Srv_26 rfl (by assumption) (cs_rp cs hs) ?_
      refine j_recl h cs hs d_Srv_allFresh_7 ?_
      refine j_ic_ge (tgt := 31) h d_Srv_allFresh_8 (by decide) (fun _ => ?_) (fun c => absurd (nI_le (Nat.le_refl _) (cs_n31 cs)) c)
      refine j_iconst (v := 1) h d_Srv_allFresh_31 (by decide) ?_
      exact j_zret hX d_Srv_allFresh_32 rfl (by first | exact Or.inl rfl | exact Or.inr rfl | exact b01_z _ | assumption | exact tkB_z _ _ _ _ _ | exact tkE_z _ _ _ _ _ _ _ _ | exact tkG_z _ _ | exact enS_z _ _ _ | exact enO_z _ _ _ _ _ _) (Nat.le_refl _) (Nat.le_refl _) ⟨rfl, by rw [hv]; simp_all [allF], rfl, rfl⟩
    | succ k ih =>
      intro i  hi hv
      have hi2 : i < n := by omega
      have hr := cs_rv cs hs hi2
      refine j_iload_n h d_Srv_allFresh_2 rfl ?_
      refine j_aload_n h d_Srv_allFresh_3 rfl ?_
      refine j_getR h d_Srv_allFresh_4 fl_Srv_26 rfl (by assumption) (cs_rp cs hs) ?_
      refine j_recl h cs hs d_Srv_allFresh_7 ?_
      refine j_ic_ge (tgt := 31) h d_Srv_allFresh_8 (by decide) (fun c => absurd c (nI_ge hi2 (cs_n31 cs))) (fun _ => ?_)
      refine j_aload_n h d_Srv_allFresh_11 rfl ?_
      refine j_getR h d_Srv_allFresh_12 fl_Srv_26 rfl (by assumption) (cs_rp cs hs) ?_
      refine j_iload_n h d_Srv_allFresh_15 rfl ?_
      refine j_recs h cs hs hi2 d_Srv_allFresh_16 ?_
      refine j_get0 h d_Srv_allFresh_17 fl_Srv_58 rfl (by assumption) ?_
      refine j_if_ne (tgt := 25) h d_Srv_allFresh_20 (by decide) (fun c1 => ?_) (fun c1 => ?_)
      · refine j_iinc (v := nI (i + 1)) h d_Srv_allFresh_25 rfl (nI_i i) (Nat.lt_of_lt_of_eq (m := 2) (by decide) hN.symm) ?_
        refine j_goto (tgt := 2) h d_Srv_allFresh_28 (by decide) ?_
        refine j_lv (lv' := [(0, .ref (K.ad 1 s)), (1, .int (nI (i + 1)))]) (lvs rfl (lvs rfl lvs0)) ?_
        exact ih (i + 1) (by omega) (hv.trans (by simp only [allF]; rw [if_neg (by assumption)]))
      · refine j_iconst (v := 0) h d_Srv_allFresh_23 (by decide) ?_
        exact j_zret hX d_Srv_allFresh_24 rfl (by first | exact Or.inl rfl | exact Or.inr rfl | exact b01_z _ | assumption | exact tkB_z _ _ _ _ _ | exact tkE_z _ _ _ _ _ _ _ _ | exact tkG_z _ _ | exact enS_z _ _ _ | exact enO_z _ _ _ _ _ _) (Nat.le_refl _) (Nat.le_refl _) ⟨rfl, by rw [hv]; simp_all [allF], rfl, rfl⟩
  refine j_iconst (v := 0) h d_Srv_allFresh_0 (by decide) ?_
  refine j_istore_n h d_Srv_allFresh_1 (Nat.lt_of_lt_of_eq (m := 2) (by decide) hN.symm) ?_
  refine j_lv (lv' := [(0, .ref (K.ad 1 s)), (1, .int (nI 0))]) (lvs rfl (lvs rfl lvs0)) ?_
  exact hL n 0 (by omega) rfl
theorem d_Srv_countOwn_0 : decode b_Srv_countOwn 0 = .ok (.iconst 0, 1) := by decide +kernel
theorem d_Srv_countOwn_1 : decode b_Srv_countOwn 1 = .ok (.istore_n 1, 1) := by decide +kernel
theorem d_Srv_countOwn_2 : decode b_Srv_countOwn 2 = .ok (.iconst 0, 1) := by decide +kernel
theorem d_Srv_countOwn_3 : decode b_Srv_countOwn 3 = .ok (.istore_n 2, 1) := by decide +kernel
theorem d_Srv_countOwn_4 : decode b_Srv_countOwn 4 = .ok (.iload_n 2, 1) := by decide +kernel
theorem d_Srv_countOwn_5 : decode b_Srv_countOwn 5 = .ok (.aload_n 0, 1) := by decide +kernel
theorem d_Srv_countOwn_6 : decode b_Srv_countOwn 6 = .ok (.getfield 26, 3) := by decide +kernel
theorem d_Srv_countOwn_9 : decode b_Srv_countOwn 9 = .ok (.arraylength, 1) := by decide +kernel
theorem d_Srv_countOwn_10 : decode b_Srv_countOwn 10 = .ok (.if_icmp .ge 25, 3) := by decide +kernel
theorem d_Srv_countOwn_13 : decode b_Srv_countOwn 13 = .ok (.aload_n 0, 1) := by decide +kernel
theorem d_Srv_countOwn_14 : decode b_Srv_countOwn 14 = .ok (.getfield 26, 3) := by decide +kernel
theorem d_Srv_countOwn_17 : decode b_Srv_countOwn 17 = .ok (.iload_n 2, 1) := by decide +kernel
theorem d_Srv_countOwn_18 : decode b_Srv_countOwn 18 = .ok (.aaload, 1) := by decide +kernel
theorem d_Srv_countOwn_19 : decode b_Srv_countOwn 19 = .ok (.getfield 71, 3) := by decide +kernel
theorem d_Srv_countOwn_22 : decode b_Srv_countOwn 22 = .ok (.iconst 1, 1) := by decide +kernel
theorem d_Srv_countOwn_23 : decode b_Srv_countOwn 23 = .ok (.if_icmp .ne 6, 3) := by decide +kernel
theorem d_Srv_countOwn_26 : decode b_Srv_countOwn 26 = .ok (.iinc 1 1, 3) := by decide +kernel
theorem d_Srv_countOwn_29 : decode b_Srv_countOwn 29 = .ok (.iinc 2 1, 3) := by decide +kernel
theorem d_Srv_countOwn_32 : decode b_Srv_countOwn 32 = .ok (.goto (-28), 3) := by decide +kernel
theorem d_Srv_countOwn_35 : decode b_Srv_countOwn 35 = .ok (.iload_n 1, 1) := by decide +kernel
theorem d_Srv_countOwn_36 : decode b_Srv_countOwn 36 = .ok (.ireturn, 1) := by decide +kernel
set_option maxRecDepth 100000 in
set_option maxHeartbeats 4000000 in
theorem c_Srv_countOwn (l : Launch) (K : Kx) (V : Vx) (A B C D : MI) (P : MP) (n : Nat) (cs : CS K V P n) (s : Nat) (hs : s < 2) : Ct l K md_Srv_countOwn (0, 0) 0 0 [.ref (K.ad 1 s)] V (bk4 A B C D) P (EQ V (some (.int (cOwn A s n 0 0))) (bk4 A B C D) P) := by
  refine ct_of [(0, .ref (K.ad 1 s))] (by decide) (Nat.le_of_ble_eq_true rfl) (ca_r ca_n) rfl ?_
  intro X hl hX
  have h : OkX X b_Srv_countOwn R_Srv K := hX.1
  have hN : X.nL = 3 := hX.2.1
  have hsv := cs_sv cs hs
  have hL : ∀ (k i : Nat) (g : Int32), i + k = n → cOwn A s n 0 0 = cOwn A s k i g → J X K V (bk4 A B C D) P 0 0 4 [(0, .ref (K.ad 1 s)), (1, .int g), (2, .int (nI i))] [] := by
    intro k
    induction k with
    | zero =>
      intro i g hi hv
      have hi2 : i = n := by omega
      subst hi2
      refine j_iload_n h d_Srv_countOwn_4 rfl ?_
      refine j_aload_n h d_Srv_countOwn_5 rfl ?_
      refine j_getR h d_Srv_countOwn_6 fl_Srv_26 rfl (by assumption) (cs_rp cs hs) ?_
      refine j_recl h cs hs d_Srv_countOwn_9 ?_
      refine j_ic_ge (tgt := 35) h d_Srv_countOwn_10 (by decide) (fun _ => ?_) (fun c => absurd (nI_le (Nat.le_refl _) (cs_n31 cs)) c)
      refine j_iload_n h d_Srv_countOwn_35 rfl ?_
      exact j_iret hX d_Srv_countOwn_36 rfl (Nat.le_refl _) (Nat.le_refl _) ⟨rfl, by rw [hv]; rfl, rfl, rfl⟩
    | succ k ih =>
      intro i g hi hv
      have hi2 : i < n := by omega
      have hr := cs_rv cs hs hi2
      refine j_iload_n h d_Srv_countOwn_4 rfl ?_
      refine j_aload_n h d_Srv_countOwn_5 rfl ?_
      refine j_getR h d_Srv_countOwn_6 fl_Srv_26 rfl (by assumption) (cs_rp cs hs) ?_
      refine j_recl h cs hs d_Srv_countOwn_9 ?_
      refine j_ic_ge (tgt := 35) h d_Srv_countOwn_10 (by decide) (fun c => absurd c (nI_ge hi2 (cs_n31 cs))) (fun _ => ?_)
      refine j_aload_n h d_Srv_countOwn_13 rfl ?_
      refine j_getR h d_Srv_countOwn_14 fl_Srv_26 rfl (by assumption) (cs_rp cs hs) ?_
      refine j_iload_n h d_Srv_countOwn_17 rfl ?_
      refine j_recs h cs hs hi2 d_Srv_countOwn_18 ?_
      refine j_get0 h d_Srv_countOwn_19 fl_Srv_71 rfl (by assumption) ?_
      refine j_iconst (v := 1) h d_Srv_countOwn_22 (by decide) ?_
      refine j_ic_ne (tgt := 29) h d_Srv_countOwn_23 (by decide) (fun c1 => ?_) (fun c1 => ?_)
      · refine j_iinc (v := nI (i + 1)) h d_Srv_countOwn_29 rfl (nI_i i) (Nat.lt_of_lt_of_eq (m := 3) (by decide) hN.symm) ?_
        refine j_goto (tgt := 4) h d_Srv_countOwn_32 (by decide) ?_
        refine j_lv (lv' := [(0, .ref (K.ad 1 s)), (1, .int _), (2, .int (nI (i + 1)))]) (lvs rfl (lvs rfl (lvs rfl lvs0))) ?_
        exact ih (i + 1) _ (by omega) (hv.trans (by simp_all [cOwn]))
      · refine j_iinc (v := g + 1) h d_Srv_countOwn_26 rfl rfl (Nat.lt_of_lt_of_eq (m := 3) (by decide) hN.symm) ?_
        refine j_iinc (v := nI (i + 1)) h d_Srv_countOwn_29 rfl (nI_i i) (Nat.lt_of_lt_of_eq (m := 3) (by decide) hN.symm) ?_
        refine j_goto (tgt := 4) h d_Srv_countOwn_32 (by decide) ?_
        refine j_lv (lv' := [(0, .ref (K.ad 1 s)), (1, .int _), (2, .int (nI (i + 1)))]) (lvs rfl (lvs rfl (lvs rfl lvs0))) ?_
        exact ih (i + 1) _ (by omega) (hv.trans (by simp_all [cOwn]))
  refine j_iconst (v := 0) h d_Srv_countOwn_0 (by decide) ?_
  refine j_istore_n h d_Srv_countOwn_1 (Nat.lt_of_lt_of_eq (m := 3) (by decide) hN.symm) ?_
  refine j_iconst (v := 0) h d_Srv_countOwn_2 (by decide) ?_
  refine j_istore_n h d_Srv_countOwn_3 (Nat.lt_of_lt_of_eq (m := 3) (by decide) hN.symm) ?_
  refine j_lv (lv' := [(0, .ref (K.ad 1 s)), (1, .int 0), (2, .int (nI 0))]) (lvs rfl (lvs rfl (lvs rfl lvs0))) ?_
  exact hL n 0 0 (by omega) rfl
theorem d_Srv_countPending_0 : decode b_Srv_countPending 0 = .ok (.iconst 0, 1) := by decide +kernel
theorem d_Srv_countPending_1 : decode b_Srv_countPending 1 = .ok (.istore_n 1, 1) := by decide +kernel
theorem d_Srv_countPending_2 : decode b_Srv_countPending 2 = .ok (.iconst 0, 1) := by decide +kernel
theorem d_Srv_countPending_3 : decode b_Srv_countPending 3 = .ok (.istore_n 2, 1) := by decide +kernel
theorem d_Srv_countPending_4 : decode b_Srv_countPending 4 = .ok (.iload_n 2, 1) := by decide +kernel
theorem d_Srv_countPending_5 : decode b_Srv_countPending 5 = .ok (.aload_n 0, 1) := by decide +kernel
theorem d_Srv_countPending_6 : decode b_Srv_countPending 6 = .ok (.getfield 26, 3) := by decide +kernel
theorem d_Srv_countPending_9 : decode b_Srv_countPending 9 = .ok (.arraylength, 1) := by decide +kernel
theorem d_Srv_countPending_10 : decode b_Srv_countPending 10 = .ok (.if_icmp .ge 24, 3) := by decide +kernel
theorem d_Srv_countPending_13 : decode b_Srv_countPending 13 = .ok (.aload_n 0, 1) := by decide +kernel
theorem d_Srv_countPending_14 : decode b_Srv_countPending 14 = .ok (.getfield 26, 3) := by decide +kernel
theorem d_Srv_countPending_17 : decode b_Srv_countPending 17 = .ok (.iload_n 2, 1) := by decide +kernel
theorem d_Srv_countPending_18 : decode b_Srv_countPending 18 = .ok (.aaload, 1) := by decide +kernel
theorem d_Srv_countPending_19 : decode b_Srv_countPending 19 = .ok (.getfield 225, 3) := by decide +kernel
theorem d_Srv_countPending_22 : decode b_Srv_countPending 22 = .ok (.ifCond .eq 6, 3) := by decide +kernel
theorem d_Srv_countPending_25 : decode b_Srv_countPending 25 = .ok (.iinc 1 1, 3) := by decide +kernel
theorem d_Srv_countPending_28 : decode b_Srv_countPending 28 = .ok (.iinc 2 1, 3) := by decide +kernel
theorem d_Srv_countPending_31 : decode b_Srv_countPending 31 = .ok (.goto (-27), 3) := by decide +kernel
theorem d_Srv_countPending_34 : decode b_Srv_countPending 34 = .ok (.iload_n 1, 1) := by decide +kernel
theorem d_Srv_countPending_35 : decode b_Srv_countPending 35 = .ok (.ireturn, 1) := by decide +kernel
set_option maxRecDepth 100000 in
set_option maxHeartbeats 4000000 in
theorem c_Srv_countPending (l : Launch) (K : Kx) (V : Vx) (A B C D : MI) (P : MP) (n : Nat) (cs : CS K V P n) (s : Nat) (hs : s < 2) : Ct l K md_Srv_countPending (0, 0) 0 0 [.ref (K.ad 1 s)] V (bk4 A B C D) P (EQ V (some (.int (cPen A s n 0 0))) (bk4 A B C D) P) := by
  refine ct_of [(0, .ref (K.ad 1 s))] (by decide) (Nat.le_of_ble_eq_true rfl) (ca_r ca_n) rfl ?_
  intro X hl hX
  have h : OkX X b_Srv_countPending R_Srv K := hX.1
  have hN : X.nL = 3 := hX.2.1
  have hsv := cs_sv cs hs
  have hL : ∀ (k i : Nat) (g : Int32), i + k = n → cPen A s n 0 0 = cPen A s k i g → J X K V (bk4 A B C D) P 0 0 4 [(0, .ref (K.ad 1 s)), (1, .int g), (2, .int (nI i))] [] := by
    intro k
    induction k with
    | zero =>
      intro i g hi hv
      have hi2 : i = n := by omega
      subst hi2
      refine j_iload_n h d_Srv_countPending_4 rfl ?_
      refine j_aload_n h d_Srv_countPending_5 rfl ?_
      refine j_getR h d_Srv_countPending_6 fl_Srv_26 rfl (by assumption) (cs_rp cs hs) ?_
      refine j_recl h cs hs d_Srv_countPending_9 ?_
      refine j_ic_ge (tgt := 34) h d_Srv_countPending_10 (by decide) (fun _ => ?_) (fun c => absurd (nI_le (Nat.le_refl _) (cs_n31 cs)) c)
      refine j_iload_n h d_Srv_countPending_34 rfl ?_
      exact j_iret hX d_Srv_countPending_35 rfl (Nat.le_refl _) (Nat.le_refl _) ⟨rfl, by rw [hv]; rfl, rfl, rfl⟩
    | succ k ih =>
      intro i g hi hv
      have hi2 : i < n := by omega
      have hr := cs_rv cs hs hi2
      refine j_iload_n h d_Srv_countPending_4 rfl ?_
      refine j_aload_n h d_Srv_countPending_5 rfl ?_
      refine j_getR h d_Srv_countPending_6 fl_Srv_26 rfl (by assumption) (cs_rp cs hs) ?_
      refine j_recl h cs hs d_Srv_countPending_9 ?_
      refine j_ic_ge (tgt := 34) h d_Srv_countPending_10 (by decide) (fun c => absurd c (nI_ge hi2 (cs_n31 cs))) (fun _ => ?_)
      refine j_aload_n h d_Srv_countPending_13 rfl ?_
      refine j_getR h d_Srv_countPending_14 fl_Srv_26 rfl (by assumption) (cs_rp cs hs) ?_
      refine j_iload_n h d_Srv_countPending_17 rfl ?_
      refine j_recs h cs hs hi2 d_Srv_countPending_18 ?_
      refine j_get0 h d_Srv_countPending_19 fl_Srv_225 rfl (by assumption) ?_
      refine j_if_eq (tgt := 28) h d_Srv_countPending_22 (by decide) (fun c1 => ?_) (fun c1 => ?_)
      · refine j_iinc (v := nI (i + 1)) h d_Srv_countPending_28 rfl (nI_i i) (Nat.lt_of_lt_of_eq (m := 3) (by decide) hN.symm) ?_
        refine j_goto (tgt := 4) h d_Srv_countPending_31 (by decide) ?_
        refine j_lv (lv' := [(0, .ref (K.ad 1 s)), (1, .int _), (2, .int (nI (i + 1)))]) (lvs rfl (lvs rfl (lvs rfl lvs0))) ?_
        exact ih (i + 1) _ (by omega) (hv.trans (by simp_all [cPen]))
      · refine j_iinc (v := g + 1) h d_Srv_countPending_25 rfl rfl (Nat.lt_of_lt_of_eq (m := 3) (by decide) hN.symm) ?_
        refine j_iinc (v := nI (i + 1)) h d_Srv_countPending_28 rfl (nI_i i) (Nat.lt_of_lt_of_eq (m := 3) (by decide) hN.symm) ?_
        refine j_goto (tgt := 4) h d_Srv_countPending_31 (by decide) ?_
        refine j_lv (lv' := [(0, .ref (K.ad 1 s)), (1, .int _), (2, .int (nI (i + 1)))]) (lvs rfl (lvs rfl (lvs rfl lvs0))) ?_
        exact ih (i + 1) _ (by omega) (hv.trans (by simp_all [cPen]))
  refine j_iconst (v := 0) h d_Srv_countPending_0 (by decide) ?_
  refine j_istore_n h d_Srv_countPending_1 (Nat.lt_of_lt_of_eq (m := 3) (by decide) hN.symm) ?_
  refine j_iconst (v := 0) h d_Srv_countPending_2 (by decide) ?_
  refine j_istore_n h d_Srv_countPending_3 (Nat.lt_of_lt_of_eq (m := 3) (by decide) hN.symm) ?_
  refine j_lv (lv' := [(0, .ref (K.ad 1 s)), (1, .int 0), (2, .int (nI 0))]) (lvs rfl (lvs rfl (lvs rfl lvs0))) ?_
  exact hL n 0 0 (by omega) rfl
theorem d_Srv_endTogether_0 : decode b_Srv_endTogether 0 = .ok (.aload_n 1, 1) := by decide +kernel
theorem d_Srv_endTogether_1 : decode b_Srv_endTogether 1 = .ok (.getfield 71, 3) := by decide +kernel
theorem d_Srv_endTogether_4 : decode b_Srv_endTogether 4 = .ok (.iconst 2, 1) := by decide +kernel
theorem d_Srv_endTogether_5 : decode b_Srv_endTogether 5 = .ok (.if_icmp .ne 11, 3) := by decide +kernel
theorem d_Srv_endTogether_8 : decode b_Srv_endTogether 8 = .ok (.aload_n 1, 1) := by decide +kernel
theorem d_Srv_endTogether_9 : decode b_Srv_endTogether 9 = .ok (.getfield 107, 3) := by decide +kernel
theorem d_Srv_endTogether_12 : decode b_Srv_endTogether 12 = .ok (.iload_n 2, 1) := by decide +kernel
theorem d_Srv_endTogether_13 : decode b_Srv_endTogether 13 = .ok (.if_icmp .le 5, 3) := by decide +kernel
theorem d_Srv_endTogether_16 : decode b_Srv_endTogether 16 = .ok (.iconst 0, 1) := by decide +kernel
theorem d_Srv_endTogether_17 : decode b_Srv_endTogether 17 = .ok (.ireturn, 1) := by decide +kernel
theorem d_Srv_endTogether_18 : decode b_Srv_endTogether 18 = .ok (.aload_n 1, 1) := by decide +kernel
theorem d_Srv_endTogether_19 : decode b_Srv_endTogether 19 = .ok (.iconst 3, 1) := by decide +kernel
theorem d_Srv_endTogether_20 : decode b_Srv_endTogether 20 = .ok (.invokevirtual 151, 3) := by decide +kernel
theorem d_Srv_endTogether_23 : decode b_Srv_endTogether 23 = .ok (.iconst 1, 1) := by decide +kernel
theorem d_Srv_endTogether_24 : decode b_Srv_endTogether 24 = .ok (.ireturn, 1) := by decide +kernel
set_option maxRecDepth 100000 in
set_option maxHeartbeats 4000000 in
theorem c_Srv_endTogether (l : Launch) (K : Kx) (V : Vx) (A B C D : MI) (P : MP) (s : Nat) (hs : V.1 1 s) (r : Nat) (hr : V.1 2 r) (t : Int32) : Ct l K md_Srv_endTogether (2, 41) 0 0 [.ref (K.ad 1 s), .ref (K.ad 2 r), .int t] V (bk4 A B C D) P (EQ V (some (.int (endT A r t).1)) (bk4 (endT A r t).2 B C D) P) := by
  refine ct_of [(0, .ref (K.ad 1 s)), (1, .ref (K.ad 2 r)), (2, .int t)] (by decide) (Nat.le_of_ble_eq_true rfl) (ca_r (ca_r (ca_i ca_n))) rfl ?_
  intro X hl hX
  have h : OkX X b_Srv_endTogether R_Srv K := hX.1
  have hN : X.nL = 3 := hX.2.1
  refine j_aload_n h d_Srv_endTogether_0 rfl ?_
  refine j_get0 h d_Srv_endTogether_1 fl_Srv_71 rfl (by assumption) ?_
  refine j_iconst (v := 2) h d_Srv_endTogether_4 (by decide) ?_
  refine j_ic_ne (tgt := 16) h d_Srv_endTogether_5 (by decide) (fun c1 => ?_) (fun c1 => ?_)
  · refine j_iconst (v := 0) h d_Srv_endTogether_16 (by decide) ?_
    exact j_zret hX d_Srv_endTogether_17 rfl (by first | exact Or.inl rfl | exact Or.inr rfl | exact b01_z _ | assumption | exact tkB_z _ _ _ _ _ | exact tkE_z _ _ _ _ _ _ _ _ | exact tkG_z _ _ | exact enS_z _ _ _ | exact enO_z _ _ _ _ _ _) (Nat.le_refl _) (Nat.le_refl _) ⟨rfl, by clear hX h hl; first | rfl | (simp_all [endT]; done) | grind [endT], by clear hX h hl; first | rfl | (simp_all [endT, up_rd]; done) | grind [endT, up_rd, chgTo_rd, chg_rd, settle_rd, bnd_rd], rfl⟩
  · refine j_aload_n h d_Srv_endTogether_8 rfl ?_
    refine j_get0 h d_Srv_endTogether_9 fl_Srv_107 rfl (by assumption) ?_
    refine j_iload_n h d_Srv_endTogether_12 rfl ?_
    refine j_ic_le (tgt := 18) h d_Srv_endTogether_13 (by decide) (fun c2 => ?_) (fun c2 => ?_)
    · refine j_aload_n h d_Srv_endTogether_18 rfl ?_
      refine j_iconst (v := 3) h d_Srv_endTogether_19 (by decide) ?_
      refine j_callV h (c_Rec_changeTo _ _ _ _ _ _ _ _ _ hr _) d_Srv_endTogether_20 ml_Srv_151 mv_Rec_changeTo (by assumption) ⟨rfl, rfl⟩ rfl rfl (Nat.le_of_ble_eq_true rfl) (hR_of hX (by decide) (by decide)) (hf_of hX (by decide) (by decide)) ?_
      rintro _ _ _ _ ⟨rfl, rfl, rfl, rfl⟩
      refine j_iconst (v := 1) h d_Srv_endTogether_23 (by decide) ?_
      exact j_zret hX d_Srv_endTogether_24 rfl (by first | exact Or.inl rfl | exact Or.inr rfl | exact b01_z _ | assumption | exact tkB_z _ _ _ _ _ | exact tkE_z _ _ _ _ _ _ _ _ | exact tkG_z _ _ | exact enS_z _ _ _ | exact enO_z _ _ _ _ _ _) (Nat.le_refl _) (Nat.le_refl _) ⟨rfl, by clear hX h hl; first | rfl | (simp_all [endT]; done) | grind [endT], by clear hX h hl; first | rfl | (simp_all [endT, up_rd]; done) | grind [endT, up_rd, chgTo_rd, chg_rd, settle_rd, bnd_rd], rfl⟩
    · refine j_iconst (v := 0) h d_Srv_endTogether_16 (by decide) ?_
      exact j_zret hX d_Srv_endTogether_17 rfl (by first | exact Or.inl rfl | exact Or.inr rfl | exact b01_z _ | assumption | exact tkB_z _ _ _ _ _ | exact tkE_z _ _ _ _ _ _ _ _ | exact tkG_z _ _ | exact enS_z _ _ _ | exact enO_z _ _ _ _ _ _) (Nat.le_refl _) (Nat.le_refl _) ⟨rfl, by clear hX h hl; first | rfl | (simp_all [endT]; done) | grind [endT], by clear hX h hl; first | rfl | (simp_all [endT, up_rd]; done) | grind [endT, up_rd, chgTo_rd, chg_rd, settle_rd, bnd_rd], rfl⟩
theorem d_Srv_endSole_0 : decode b_Srv_endSole 0 = .ok (.aload_n 1, 1) := by decide +kernel
theorem d_Srv_endSole_1 : decode b_Srv_endSole 1 = .ok (.getfield 71, 3) := by decide +kernel
theorem d_Srv_endSole_4 : decode b_Srv_endSole 4 = .ok (.iconst 3, 1) := by decide +kernel
theorem d_Srv_endSole_5 : decode b_Srv_endSole 5 = .ok (.if_icmp .eq 19, 3) := by decide +kernel
theorem d_Srv_endSole_8 : decode b_Srv_endSole 8 = .ok (.aload_n 1, 1) := by decide +kernel
theorem d_Srv_endSole_9 : decode b_Srv_endSole 9 = .ok (.getfield 71, 3) := by decide +kernel
theorem d_Srv_endSole_12 : decode b_Srv_endSole 12 = .ok (.iconst 2, 1) := by decide +kernel
theorem d_Srv_endSole_13 : decode b_Srv_endSole 13 = .ok (.if_icmp .ne 15, 3) := by decide +kernel
theorem d_Srv_endSole_16 : decode b_Srv_endSole 16 = .ok (.aload_n 1, 1) := by decide +kernel
theorem d_Srv_endSole_17 : decode b_Srv_endSole 17 = .ok (.getfield 107, 3) := by decide +kernel
theorem d_Srv_endSole_20 : decode b_Srv_endSole 20 = .ok (.iload_n 2, 1) := by decide +kernel
theorem d_Srv_endSole_21 : decode b_Srv_endSole 21 = .ok (.if_icmp .gt 7, 3) := by decide +kernel
theorem d_Srv_endSole_24 : decode b_Srv_endSole 24 = .ok (.iconst 1, 1) := by decide +kernel
theorem d_Srv_endSole_25 : decode b_Srv_endSole 25 = .ok (.goto 4, 3) := by decide +kernel
theorem d_Srv_endSole_28 : decode b_Srv_endSole 28 = .ok (.iconst 0, 1) := by decide +kernel
theorem d_Srv_endSole_29 : decode b_Srv_endSole 29 = .ok (.istore_n 3, 1) := by decide +kernel
theorem d_Srv_endSole_30 : decode b_Srv_endSole 30 = .ok (.iload_n 3, 1) := by decide +kernel
theorem d_Srv_endSole_31 : decode b_Srv_endSole 31 = .ok (.ifCond .eq 8, 3) := by decide +kernel
theorem d_Srv_endSole_34 : decode b_Srv_endSole 34 = .ok (.aload_n 1, 1) := by decide +kernel
theorem d_Srv_endSole_35 : decode b_Srv_endSole 35 = .ok (.iconst 1, 1) := by decide +kernel
theorem d_Srv_endSole_36 : decode b_Srv_endSole 36 = .ok (.invokevirtual 151, 3) := by decide +kernel
theorem d_Srv_endSole_39 : decode b_Srv_endSole 39 = .ok (.iload_n 3, 1) := by decide +kernel
theorem d_Srv_endSole_40 : decode b_Srv_endSole 40 = .ok (.ireturn, 1) := by decide +kernel
set_option maxRecDepth 100000 in
set_option maxHeartbeats 4000000 in
theorem c_Srv_endSole (l : Launch) (K : Kx) (V : Vx) (A B C D : MI) (P : MP) (s : Nat) (hs : V.1 1 s) (r : Nat) (hr : V.1 2 r) (t : Int32) : Ct l K md_Srv_endSole (2, 41) 0 0 [.ref (K.ad 1 s), .ref (K.ad 2 r), .int t] V (bk4 A B C D) P (EQ V (some (.int (enSole A r t).1)) (bk4 (enSole A r t).2 B C D) P) := by
  refine ct_of [(0, .ref (K.ad 1 s)), (1, .ref (K.ad 2 r)), (2, .int t)] (by decide) (Nat.le_of_ble_eq_true rfl) (ca_r (ca_r (ca_i ca_n))) rfl ?_
  intro X hl hX
  have h : OkX X b_Srv_endSole R_Srv K := hX.1
  have hN : X.nL = 4 := hX.2.1
  refine j_aload_n h d_Srv_endSole_0 rfl ?_
  refine j_get0 h d_Srv_endSole_1 fl_Srv_71 rfl (by assumption) ?_
  refine j_iconst (v := 3) h d_Srv_endSole_4 (by decide) ?_
  refine j_ic_eq (tgt := 24) h d_Srv_endSole_5 (by decide) (fun c1 => ?_) (fun c1 => ?_)
  · refine j_iconst (v := 1) h d_Srv_endSole_24 (by decide) ?_
    refine j_goto (tgt := 29) h d_Srv_endSole_25 (by decide) ?_
    refine j_istore_n h d_Srv_endSole_29 (Nat.lt_of_lt_of_eq (m := 4) (by decide) hN.symm) ?_
    refine j_iload_n h d_Srv_endSole_30 rfl ?_
    refine j_if_eq (tgt := 39) h d_Srv_endSole_31 (by decide) (fun c2 => absurd c2 (by decide)) (fun c2 => ?_)
    refine j_aload_n h d_Srv_endSole_34 rfl ?_
    refine j_iconst (v := 1) h d_Srv_endSole_35 (by decide) ?_
    refine j_callV h (c_Rec_changeTo _ _ _ _ _ _ _ _ _ hr _) d_Srv_endSole_36 ml_Srv_151 mv_Rec_changeTo (by assumption) ⟨rfl, rfl⟩ rfl rfl (Nat.le_of_ble_eq_true rfl) (hR_of hX (by decide) (by decide)) (hf_of hX (by decide) (by decide)) ?_
    rintro _ _ _ _ ⟨rfl, rfl, rfl, rfl⟩
    refine j_iload_n h d_Srv_endSole_39 rfl ?_
    exact j_zret hX d_Srv_endSole_40 rfl (by first | exact Or.inl rfl | exact Or.inr rfl | exact b01_z _ | assumption | exact tkB_z _ _ _ _ _ | exact tkE_z _ _ _ _ _ _ _ _ | exact tkG_z _ _ | exact enS_z _ _ _ | exact enO_z _ _ _ _ _ _) (Nat.le_refl _) (Nat.le_refl _) ⟨rfl, by clear hX h hl; first | rfl | (simp_all [enSole]; done) | grind [enSole], by clear hX h hl; first | rfl | (simp_all [enSole, up_rd]; done) | grind [enSole, up_rd, chgTo_rd, chg_rd, settle_rd, bnd_rd], rfl⟩
  · refine j_aload_n h d_Srv_endSole_8 rfl ?_
    refine j_get0 h d_Srv_endSole_9 fl_Srv_71 rfl (by assumption) ?_
    refine j_iconst (v := 2) h d_Srv_endSole_12 (by decide) ?_
    refine j_ic_ne (tgt := 28) h d_Srv_endSole_13 (by decide) (fun c3 => ?_) (fun c3 => ?_)
    · refine j_iconst (v := 0) h d_Srv_endSole_28 (by decide) ?_
      refine j_istore_n h d_Srv_endSole_29 (Nat.lt_of_lt_of_eq (m := 4) (by decide) hN.symm) ?_
      refine j_iload_n h d_Srv_endSole_30 rfl ?_
      refine j_if_eq (tgt := 39) h d_Srv_endSole_31 (by decide) (fun c4 => ?_) (fun c4 => absurd c4 (by decide))
      refine j_iload_n h d_Srv_endSole_39 rfl ?_
      exact j_zret hX d_Srv_endSole_40 rfl (by first | exact Or.inl rfl | exact Or.inr rfl | exact b01_z _ | assumption | exact tkB_z _ _ _ _ _ | exact tkE_z _ _ _ _ _ _ _ _ | exact tkG_z _ _ | exact enS_z _ _ _ | exact enO_z _ _ _ _ _ _) (Nat.le_refl _) (Nat.le_refl _) ⟨rfl, by clear hX h hl; first | rfl | (simp_all [enSole]; done) | grind [enSole], by clear hX h hl; first | rfl | (simp_all [enSole, up_rd]; done) | grind [enSole, up_rd, chgTo_rd, chg_rd, settle_rd, bnd_rd], rfl⟩
    · refine j_aload_n h d_Srv_endSole_16 rfl ?_
      refine j_get0 h d_Srv_endSole_17 fl_Srv_107 rfl (by assumption) ?_
      refine j_iload_n h d_Srv_endSole_20 rfl ?_
      refine j_ic_gt (tgt := 28) h d_Srv_endSole_21 (by decide) (fun c5 => ?_) (fun c5 => ?_)
      · refine j_iconst (v := 0) h d_Srv_endSole_28 (by decide) ?_
        refine j_istore_n h d_Srv_endSole_29 (Nat.lt_of_lt_of_eq (m := 4) (by decide) hN.symm) ?_
        refine j_iload_n h d_Srv_endSole_30 rfl ?_
        refine j_if_eq (tgt := 39) h d_Srv_endSole_31 (by decide) (fun c6 => ?_) (fun c6 => absurd c6 (by decide))
        refine j_iload_n h d_Srv_endSole_39 rfl ?_
        exact j_zret hX d_Srv_endSole_40 rfl (by first | exact Or.inl rfl | exact Or.inr rfl | exact b01_z _ | assumption | exact tkB_z _ _ _ _ _ | exact tkE_z _ _ _ _ _ _ _ _ | exact tkG_z _ _ | exact enS_z _ _ _ | exact enO_z _ _ _ _ _ _) (Nat.le_refl _) (Nat.le_refl _) ⟨rfl, by clear hX h hl; first | rfl | (simp_all [enSole]; done) | grind [enSole], by clear hX h hl; first | rfl | (simp_all [enSole, up_rd]; done) | grind [enSole, up_rd, chgTo_rd, chg_rd, settle_rd, bnd_rd], rfl⟩
      · refine j_iconst (v := 1) h d_Srv_endSole_24 (by decide) ?_
        refine j_goto (tgt := 29) h d_Srv_endSole_25 (by decide) ?_
        refine j_istore_n h d_Srv_endSole_29 (Nat.lt_of_lt_of_eq (m := 4) (by decide) hN.symm) ?_
        refine j_iload_n h d_Srv_endSole_30 rfl ?_
        refine j_if_eq (tgt := 39) h d_Srv_endSole_31 (by decide) (fun c7 => absurd c7 (by decide)) (fun c7 => ?_)
        refine j_aload_n h d_Srv_endSole_34 rfl ?_
        refine j_iconst (v := 1) h d_Srv_endSole_35 (by decide) ?_
        refine j_callV h (c_Rec_changeTo _ _ _ _ _ _ _ _ _ hr _) d_Srv_endSole_36 ml_Srv_151 mv_Rec_changeTo (by assumption) ⟨rfl, rfl⟩ rfl rfl (Nat.le_of_ble_eq_true rfl) (hR_of hX (by decide) (by decide)) (hf_of hX (by decide) (by decide)) ?_
        rintro _ _ _ _ ⟨rfl, rfl, rfl, rfl⟩
        refine j_iload_n h d_Srv_endSole_39 rfl ?_
        exact j_zret hX d_Srv_endSole_40 rfl (by first | exact Or.inl rfl | exact Or.inr rfl | exact b01_z _ | assumption | exact tkB_z _ _ _ _ _ | exact tkE_z _ _ _ _ _ _ _ _ | exact tkG_z _ _ | exact enS_z _ _ _ | exact enO_z _ _ _ _ _ _) (Nat.le_refl _) (Nat.le_refl _) ⟨rfl, by clear hX h hl; first | rfl | (simp_all [enSole]; done) | grind [enSole], by clear hX h hl; first | rfl | (simp_all [enSole, up_rd]; done) | grind [enSole, up_rd, chgTo_rd, chg_rd, settle_rd, bnd_rd], rfl⟩
theorem d_Srv_takeOver_0 : decode b_Srv_takeOver 0 = .ok (.aload_n 1, 1) := by decide +kernel
theorem d_Srv_takeOver_1 : decode b_Srv_takeOver 1 = .ok (.getfield 107, 3) := by decide +kernel
theorem d_Srv_takeOver_4 : decode b_Srv_takeOver 4 = .ok (.aload_n 0, 1) := by decide +kernel
theorem d_Srv_takeOver_5 : decode b_Srv_takeOver 5 = .ok (.getfield 68, 3) := by decide +kernel
theorem d_Srv_takeOver_8 : decode b_Srv_takeOver 8 = .ok (.aload_n 0, 1) := by decide +kernel
theorem d_Srv_takeOver_9 : decode b_Srv_takeOver 9 = .ok (.getfield 21, 3) := by decide +kernel
theorem d_Srv_takeOver_12 : decode b_Srv_takeOver 12 = .ok (.iadd, 1) := by decide +kernel
theorem d_Srv_takeOver_13 : decode b_Srv_takeOver 13 = .ok (.invokestatic 139, 3) := by decide +kernel
theorem d_Srv_takeOver_16 : decode b_Srv_takeOver 16 = .ok (.aload_n 0, 1) := by decide +kernel
theorem d_Srv_takeOver_17 : decode b_Srv_takeOver 17 = .ok (.getfield 18, 3) := by decide +kernel
theorem d_Srv_takeOver_20 : decode b_Srv_takeOver 20 = .ok (.iadd, 1) := by decide +kernel
theorem d_Srv_takeOver_21 : decode b_Srv_takeOver 21 = .ok (.istore_n 3, 1) := by decide +kernel
theorem d_Srv_takeOver_22 : decode b_Srv_takeOver 22 = .ok (.aload_n 1, 1) := by decide +kernel
theorem d_Srv_takeOver_23 : decode b_Srv_takeOver 23 = .ok (.getfield 71, 3) := by decide +kernel
theorem d_Srv_takeOver_26 : decode b_Srv_takeOver 26 = .ok (.iconst 1, 1) := by decide +kernel
theorem d_Srv_takeOver_27 : decode b_Srv_takeOver 27 = .ok (.if_icmp .eq 8, 3) := by decide +kernel
theorem d_Srv_takeOver_30 : decode b_Srv_takeOver 30 = .ok (.iload_n 2, 1) := by decide +kernel
theorem d_Srv_takeOver_31 : decode b_Srv_takeOver 31 = .ok (.iload_n 3, 1) := by decide +kernel
theorem d_Srv_takeOver_32 : decode b_Srv_takeOver 32 = .ok (.if_icmp .ge 5, 3) := by decide +kernel
theorem d_Srv_takeOver_35 : decode b_Srv_takeOver 35 = .ok (.iconst 0, 1) := by decide +kernel
theorem d_Srv_takeOver_36 : decode b_Srv_takeOver 36 = .ok (.ireturn, 1) := by decide +kernel
theorem d_Srv_takeOver_37 : decode b_Srv_takeOver 37 = .ok (.aload_n 1, 1) := by decide +kernel
theorem d_Srv_takeOver_38 : decode b_Srv_takeOver 38 = .ok (.iconst 1, 1) := by decide +kernel
theorem d_Srv_takeOver_39 : decode b_Srv_takeOver 39 = .ok (.putfield 62, 3) := by decide +kernel
theorem d_Srv_takeOver_42 : decode b_Srv_takeOver 42 = .ok (.aload_n 1, 1) := by decide +kernel
theorem d_Srv_takeOver_43 : decode b_Srv_takeOver 43 = .ok (.aload_n 0, 1) := by decide +kernel
theorem d_Srv_takeOver_44 : decode b_Srv_takeOver 44 = .ok (.getfield 42, 3) := by decide +kernel
theorem d_Srv_takeOver_47 : decode b_Srv_takeOver 47 = .ok (.putfield 162, 3) := by decide +kernel
theorem d_Srv_takeOver_50 : decode b_Srv_takeOver 50 = .ok (.aload_n 1, 1) := by decide +kernel
theorem d_Srv_takeOver_51 : decode b_Srv_takeOver 51 = .ok (.iconst (-1), 1) := by decide +kernel
theorem d_Srv_takeOver_52 : decode b_Srv_takeOver 52 = .ok (.putfield 166, 3) := by decide +kernel
theorem d_Srv_takeOver_55 : decode b_Srv_takeOver 55 = .ok (.aload_n 1, 1) := by decide +kernel
theorem d_Srv_takeOver_56 : decode b_Srv_takeOver 56 = .ok (.iconst 1, 1) := by decide +kernel
theorem d_Srv_takeOver_57 : decode b_Srv_takeOver 57 = .ok (.invokevirtual 151, 3) := by decide +kernel
theorem d_Srv_takeOver_60 : decode b_Srv_takeOver 60 = .ok (.iconst 1, 1) := by decide +kernel
theorem d_Srv_takeOver_61 : decode b_Srv_takeOver 61 = .ok (.ireturn, 1) := by decide +kernel
set_option maxRecDepth 100000 in
set_option maxHeartbeats 4000000 in
theorem c_Srv_takeOver (l : Launch) (K : Kx) (V : Vx) (A B C D : MI) (P : MP) (s : Nat) (hs : V.1 1 s) (r : Nat) (hr : V.1 2 r) (t : Int32) : Ct l K md_Srv_takeOver (2, 41) 0 0 [.ref (K.ad 1 s), .ref (K.ad 2 r), .int t] V (bk4 A B C D) P (EQ V (some (.int (tkOver A r s (B 62 s) (B 63 s) t).1)) (bk4 (tkOver A r s (B 62 s) (B 63 s) t).2 B C D) P) := by
  refine ct_of [(0, .ref (K.ad 1 s)), (1, .ref (K.ad 2 r)), (2, .int t)] (by decide) (Nat.le_of_ble_eq_true rfl) (ca_r (ca_r (ca_i ca_n))) rfl ?_
  intro X hl hX
  have h : OkX X b_Srv_takeOver R_Srv K := hX.1
  have hN : X.nL = 4 := hX.2.1
  refine j_aload_n h d_Srv_takeOver_0 rfl ?_
  refine j_get0 h d_Srv_takeOver_1 fl_Srv_107 rfl (by assumption) ?_
  refine j_aload_n h d_Srv_takeOver_4 rfl ?_
  refine j_get0 h d_Srv_takeOver_5 fl_Srv_68 rfl (by assumption) ?_
  refine j_aload_n h d_Srv_takeOver_8 rfl ?_
  refine j_get1 h d_Srv_takeOver_9 fl_Srv_21 rfl (by assumption) ?_
  refine j_iadd h d_Srv_takeOver_12 ?_
  refine j_mmax h d_Srv_takeOver_13 wm_Srv_139 (hM_of hX (by decide) (Nat.le_of_ble_eq_true rfl)) (hf_of (mc' := 0) (ms' := 0) hX (by decide) (by decide)) ?_
  refine j_aload_n h d_Srv_takeOver_16 rfl ?_
  refine j_get1 h d_Srv_takeOver_17 fl_Srv_18 rfl (by assumption) ?_
  refine j_iadd h d_Srv_takeOver_20 ?_
  refine j_istore_n h d_Srv_takeOver_21 (Nat.lt_of_lt_of_eq (m := 4) (by decide) hN.symm) ?_
  refine j_aload_n h d_Srv_takeOver_22 rfl ?_
  refine j_get0 h d_Srv_takeOver_23 fl_Srv_71 rfl (by assumption) ?_
  refine j_iconst (v := 1) h d_Srv_takeOver_26 (by decide) ?_
  refine j_ic_eq (tgt := 35) h d_Srv_takeOver_27 (by decide) (fun c1 => ?_) (fun c1 => ?_)
  · refine j_iconst (v := 0) h d_Srv_takeOver_35 (by decide) ?_
    exact j_zret hX d_Srv_takeOver_36 rfl (by first | exact Or.inl rfl | exact Or.inr rfl | exact b01_z _ | assumption | exact tkB_z _ _ _ _ _ | exact tkE_z _ _ _ _ _ _ _ _ | exact tkG_z _ _ | exact enS_z _ _ _ | exact enO_z _ _ _ _ _ _) (Nat.le_refl _) (Nat.le_refl _) ⟨rfl, by clear hX h hl; first | rfl | (simp_all [tkOver]; done) | grind [tkOver], by clear hX h hl; first | rfl | (simp_all [tkOver, up_rd]; done) | grind [tkOver, up_rd, chgTo_rd, chg_rd, settle_rd, bnd_rd], rfl⟩
  · refine j_iload_n h d_Srv_takeOver_30 rfl ?_
    refine j_iload_n h d_Srv_takeOver_31 rfl ?_
    refine j_ic_ge (tgt := 37) h d_Srv_takeOver_32 (by decide) (fun c2 => ?_) (fun c2 => ?_)
    · refine j_aload_n h d_Srv_takeOver_37 rfl ?_
      refine j_iconst (v := 1) h d_Srv_takeOver_38 (by decide) ?_
      refine j_putZ0 h d_Srv_takeOver_39 fw_Srv_62 rfl rfl (by assumption) (by first | exact Or.inl rfl | exact Or.inr rfl | assumption) ?_
      refine j_aload_n h d_Srv_takeOver_42 rfl ?_
      refine j_aload_n h d_Srv_takeOver_43 rfl ?_
      refine j_get0 h d_Srv_takeOver_44 fl_Srv_42 rfl (by assumption) ?_
      refine j_put0 h d_Srv_takeOver_47 fw_Srv_162 rfl rfl (by assumption) ?_
      refine j_aload_n h d_Srv_takeOver_50 rfl ?_
      refine j_iconst (v := -1) h d_Srv_takeOver_51 (by decide) ?_
      refine j_put0 h d_Srv_takeOver_52 fw_Srv_166 rfl rfl (by assumption) ?_
      refine j_aload_n h d_Srv_takeOver_55 rfl ?_
      refine j_iconst (v := 1) h d_Srv_takeOver_56 (by decide) ?_
      refine j_callV h (c_Rec_changeTo _ _ _ _ _ _ _ _ _ hr _) d_Srv_takeOver_57 ml_Srv_151 mv_Rec_changeTo (by assumption) ⟨rfl, rfl⟩ rfl rfl (Nat.le_of_ble_eq_true rfl) (hR_of hX (by decide) (by decide)) (hf_of hX (by decide) (by decide)) ?_
      rintro _ _ _ _ ⟨rfl, rfl, rfl, rfl⟩
      refine j_iconst (v := 1) h d_Srv_takeOver_60 (by decide) ?_
      exact j_zret hX d_Srv_takeOver_61 rfl (by first | exact Or.inl rfl | exact Or.inr rfl | exact b01_z _ | assumption | exact tkB_z _ _ _ _ _ | exact tkE_z _ _ _ _ _ _ _ _ | exact tkG_z _ _ | exact enS_z _ _ _ | exact enO_z _ _ _ _ _ _) (Nat.le_refl _) (Nat.le_refl _) ⟨rfl, by clear hX h hl; first | rfl | (simp_all [tkOver]; done) | grind [tkOver], by clear hX h hl; first | rfl | (simp_all [tkOver, up_rd]; done) | grind [tkOver, up_rd, chgTo_rd, chg_rd, settle_rd, bnd_rd], rfl⟩
    · refine j_iconst (v := 0) h d_Srv_takeOver_35 (by decide) ?_
      exact j_zret hX d_Srv_takeOver_36 rfl (by first | exact Or.inl rfl | exact Or.inr rfl | exact b01_z _ | assumption | exact tkB_z _ _ _ _ _ | exact tkE_z _ _ _ _ _ _ _ _ | exact tkG_z _ _ | exact enS_z _ _ _ | exact enO_z _ _ _ _ _ _) (Nat.le_refl _) (Nat.le_refl _) ⟨rfl, by clear hX h hl; first | rfl | (simp_all [tkOver]; done) | grind [tkOver], by clear hX h hl; first | rfl | (simp_all [tkOver, up_rd]; done) | grind [tkOver, up_rd, chgTo_rd, chg_rd, settle_rd, bnd_rd], rfl⟩
theorem d_Srv_endAlone_0 : decode b_Srv_endAlone 0 = .ok (.aload_n 1, 1) := by decide +kernel
theorem d_Srv_endAlone_1 : decode b_Srv_endAlone 1 = .ok (.getfield 62, 3) := by decide +kernel
theorem d_Srv_endAlone_4 : decode b_Srv_endAlone 4 = .ok (.ifCond .eq 12, 3) := by decide +kernel
theorem d_Srv_endAlone_7 : decode b_Srv_endAlone 7 = .ok (.aload_n 0, 1) := by decide +kernel
theorem d_Srv_endAlone_8 : decode b_Srv_endAlone 8 = .ok (.aload_n 1, 1) := by decide +kernel
theorem d_Srv_endAlone_9 : decode b_Srv_endAlone 9 = .ok (.iload_n 2, 1) := by decide +kernel
theorem d_Srv_endAlone_10 : decode b_Srv_endAlone 10 = .ok (.invokevirtual 235, 3) := by decide +kernel
theorem d_Srv_endAlone_13 : decode b_Srv_endAlone 13 = .ok (.goto 9, 3) := by decide +kernel
theorem d_Srv_endAlone_16 : decode b_Srv_endAlone 16 = .ok (.aload_n 0, 1) := by decide +kernel
theorem d_Srv_endAlone_17 : decode b_Srv_endAlone 17 = .ok (.aload_n 1, 1) := by decide +kernel
theorem d_Srv_endAlone_18 : decode b_Srv_endAlone 18 = .ok (.iload_n 2, 1) := by decide +kernel
theorem d_Srv_endAlone_19 : decode b_Srv_endAlone 19 = .ok (.invokevirtual 238, 3) := by decide +kernel
theorem d_Srv_endAlone_22 : decode b_Srv_endAlone 22 = .ok (.ireturn, 1) := by decide +kernel
set_option maxRecDepth 100000 in
set_option maxHeartbeats 4000000 in
theorem c_Srv_endAlone (l : Launch) (K : Kx) (V : Vx) (A B C D : MI) (P : MP) (s : Nat) (hs : V.1 1 s) (r : Nat) (hr : V.1 2 r) (t : Int32) : Ct l K md_Srv_endAlone (3, 64) 0 0 [.ref (K.ad 1 s), .ref (K.ad 2 r), .int t] V (bk4 A B C D) P (EQ V (some (.int (enAlone A r s (B 62 s) (B 63 s) t).1)) (bk4 (enAlone A r s (B 62 s) (B 63 s) t).2 B C D) P) := by
  refine ct_of [(0, .ref (K.ad 1 s)), (1, .ref (K.ad 2 r)), (2, .int t)] (by decide) (Nat.le_of_ble_eq_true rfl) (ca_r (ca_r (ca_i ca_n))) rfl ?_
  intro X hl hX
  have h : OkX X b_Srv_endAlone R_Srv K := hX.1
  have hN : X.nL = 3 := hX.2.1
  refine j_aload_n h d_Srv_endAlone_0 rfl ?_
  refine j_get0 h d_Srv_endAlone_1 fl_Srv_62 rfl (by assumption) ?_
  refine j_if_eq (tgt := 16) h d_Srv_endAlone_4 (by decide) (fun c1 => ?_) (fun c1 => ?_)
  · refine j_aload_n h d_Srv_endAlone_16 rfl ?_
    refine j_aload_n h d_Srv_endAlone_17 rfl ?_
    refine j_iload_n h d_Srv_endAlone_18 rfl ?_
    refine j_callV h (c_Srv_takeOver _ _ _ _ _ _ _ _ _ hs _ hr _) d_Srv_endAlone_19 ml_Srv_238 mv_Srv_takeOver (by assumption) ⟨rfl, rfl⟩ rfl rfl (Nat.le_of_ble_eq_true rfl) (hR_of hX (by decide) (by decide)) (hf_of hX (by decide) (by decide)) ?_
    rintro _ _ _ _ ⟨rfl, rfl, rfl, rfl⟩
    exact j_zret hX d_Srv_endAlone_22 rfl (by first | exact Or.inl rfl | exact Or.inr rfl | exact b01_z _ | assumption | exact tkB_z _ _ _ _ _ | exact tkE_z _ _ _ _ _ _ _ _ | exact tkG_z _ _ | exact enS_z _ _ _ | exact enO_z _ _ _ _ _ _) (Nat.le_refl _) (Nat.le_refl _) ⟨rfl, by clear hX h hl; first | rfl | (simp_all [enAlone]; done) | grind [enAlone], by clear hX h hl; first | rfl | (simp_all [enAlone, up_rd]; done) | grind [enAlone, up_rd, chgTo_rd, chg_rd, settle_rd, bnd_rd], rfl⟩
  · refine j_aload_n h d_Srv_endAlone_7 rfl ?_
    refine j_aload_n h d_Srv_endAlone_8 rfl ?_
    refine j_iload_n h d_Srv_endAlone_9 rfl ?_
    refine j_callV h (c_Srv_endSole _ _ _ _ _ _ _ _ _ hs _ hr _) d_Srv_endAlone_10 ml_Srv_235 mv_Srv_endSole (by assumption) ⟨rfl, rfl⟩ rfl rfl (Nat.le_of_ble_eq_true rfl) (hR_of hX (by decide) (by decide)) (hf_of hX (by decide) (by decide)) ?_
    rintro _ _ _ _ ⟨rfl, rfl, rfl, rfl⟩
    refine j_goto (tgt := 22) h d_Srv_endAlone_13 (by decide) ?_
    exact j_zret hX d_Srv_endAlone_22 rfl (by first | exact Or.inl rfl | exact Or.inr rfl | exact b01_z _ | assumption | exact tkB_z _ _ _ _ _ | exact tkE_z _ _ _ _ _ _ _ _ | exact tkG_z _ _ | exact enS_z _ _ _ | exact enO_z _ _ _ _ _ _) (Nat.le_refl _) (Nat.le_refl _) ⟨rfl, by clear hX h hl; first | rfl | (simp_all [enAlone]; done) | grind [enAlone], by clear hX h hl; first | rfl | (simp_all [enAlone, up_rd]; done) | grind [enAlone, up_rd, chgTo_rd, chg_rd, settle_rd, bnd_rd], rfl⟩
theorem d_Srv_giveWay_0 : decode b_Srv_giveWay 0 = .ok (.aload_n 0, 1) := by decide +kernel
theorem d_Srv_giveWay_1 : decode b_Srv_giveWay 1 = .ok (.getfield 33, 3) := by decide +kernel
theorem d_Srv_giveWay_4 : decode b_Srv_giveWay 4 = .ok (.iconst 1, 1) := by decide +kernel
theorem d_Srv_giveWay_5 : decode b_Srv_giveWay 5 = .ok (.if_icmp .ne 18, 3) := by decide +kernel
theorem d_Srv_giveWay_8 : decode b_Srv_giveWay 8 = .ok (.aload_n 1, 1) := by decide +kernel
theorem d_Srv_giveWay_9 : decode b_Srv_giveWay 9 = .ok (.getfield 195, 3) := by decide +kernel
theorem d_Srv_giveWay_12 : decode b_Srv_giveWay 12 = .ok (.aload_n 0, 1) := by decide +kernel
theorem d_Srv_giveWay_13 : decode b_Srv_giveWay 13 = .ok (.getfield 39, 3) := by decide +kernel
theorem d_Srv_giveWay_16 : decode b_Srv_giveWay 16 = .ok (.if_icmp .lt 7, 3) := by decide +kernel
theorem d_Srv_giveWay_19 : decode b_Srv_giveWay 19 = .ok (.iconst 1, 1) := by decide +kernel
theorem d_Srv_giveWay_20 : decode b_Srv_giveWay 20 = .ok (.goto 4, 3) := by decide +kernel
theorem d_Srv_giveWay_23 : decode b_Srv_giveWay 23 = .ok (.iconst 0, 1) := by decide +kernel
theorem d_Srv_giveWay_24 : decode b_Srv_giveWay 24 = .ok (.istore_n 3, 1) := by decide +kernel
theorem d_Srv_giveWay_25 : decode b_Srv_giveWay 25 = .ok (.aload_n 2, 1) := by decide +kernel
theorem d_Srv_giveWay_26 : decode b_Srv_giveWay 26 = .ok (.getfield 71, 3) := by decide +kernel
theorem d_Srv_giveWay_29 : decode b_Srv_giveWay 29 = .ok (.iconst 4, 1) := by decide +kernel
theorem d_Srv_giveWay_30 : decode b_Srv_giveWay 30 = .ok (.if_icmp .ne 25, 3) := by decide +kernel
theorem d_Srv_giveWay_33 : decode b_Srv_giveWay 33 = .ok (.aload_n 1, 1) := by decide +kernel
theorem d_Srv_giveWay_34 : decode b_Srv_giveWay 34 = .ok (.getfield 196, 3) := by decide +kernel
theorem d_Srv_giveWay_37 : decode b_Srv_giveWay 37 = .ok (.aload_n 2, 1) := by decide +kernel
theorem d_Srv_giveWay_38 : decode b_Srv_giveWay 38 = .ok (.getfield 126, 3) := by decide +kernel
theorem d_Srv_giveWay_41 : decode b_Srv_giveWay 41 = .ok (.if_icmp .ne 14, 3) := by decide +kernel
theorem d_Srv_giveWay_44 : decode b_Srv_giveWay 44 = .ok (.aload_n 1, 1) := by decide +kernel
theorem d_Srv_giveWay_45 : decode b_Srv_giveWay 45 = .ok (.getfield 74, 3) := by decide +kernel
theorem d_Srv_giveWay_48 : decode b_Srv_giveWay 48 = .ok (.ifCond .eq 7, 3) := by decide +kernel
theorem d_Srv_giveWay_51 : decode b_Srv_giveWay 51 = .ok (.iconst 1, 1) := by decide +kernel
theorem d_Srv_giveWay_52 : decode b_Srv_giveWay 52 = .ok (.goto 4, 3) := by decide +kernel
theorem d_Srv_giveWay_55 : decode b_Srv_giveWay 55 = .ok (.iconst 0, 1) := by decide +kernel
theorem d_Srv_giveWay_56 : decode b_Srv_giveWay 56 = .ok (.istore 4, 2) := by decide +kernel
theorem d_Srv_giveWay_58 : decode b_Srv_giveWay 58 = .ok (.iload_n 3, 1) := by decide +kernel
theorem d_Srv_giveWay_59 : decode b_Srv_giveWay 59 = .ok (.ifCond .ne 8, 3) := by decide +kernel
theorem d_Srv_giveWay_62 : decode b_Srv_giveWay 62 = .ok (.iload 4, 2) := by decide +kernel
theorem d_Srv_giveWay_64 : decode b_Srv_giveWay 64 = .ok (.ifCond .eq 23, 3) := by decide +kernel
theorem d_Srv_giveWay_67 : decode b_Srv_giveWay 67 = .ok (.aload_n 2, 1) := by decide +kernel
theorem d_Srv_giveWay_68 : decode b_Srv_giveWay 68 = .ok (.iload_n 3, 1) := by decide +kernel
theorem d_Srv_giveWay_69 : decode b_Srv_giveWay 69 = .ok (.ifCond .eq 14, 3) := by decide +kernel
theorem d_Srv_giveWay_72 : decode b_Srv_giveWay 72 = .ok (.aload_n 1, 1) := by decide +kernel
theorem d_Srv_giveWay_73 : decode b_Srv_giveWay 73 = .ok (.getfield 74, 3) := by decide +kernel
theorem d_Srv_giveWay_76 : decode b_Srv_giveWay 76 = .ok (.ifCond .ne 7, 3) := by decide +kernel
theorem d_Srv_giveWay_79 : decode b_Srv_giveWay 79 = .ok (.iconst 1, 1) := by decide +kernel
theorem d_Srv_giveWay_80 : decode b_Srv_giveWay 80 = .ok (.goto 4, 3) := by decide +kernel
theorem d_Srv_giveWay_83 : decode b_Srv_giveWay 83 = .ok (.iconst 0, 1) := by decide +kernel
theorem d_Srv_giveWay_84 : decode b_Srv_giveWay 84 = .ok (.invokevirtual 197, 3) := by decide +kernel
theorem d_Srv_giveWay_87 : decode b_Srv_giveWay 87 = .ok (.return_, 1) := by decide +kernel
set_option maxRecDepth 100000 in
set_option maxHeartbeats 4000000 in
theorem c_Srv_giveWay (l : Launch) (K : Kx) (V : Vx) (A B C D : MI) (P : MP) (s : Nat) (hs : V.1 1 s) (q : Nat) (hq : V.1 5 q) (r : Nat) (hr : V.1 2 r) : Ct l K md_Srv_giveWay (1, 21) 0 0 [.ref (K.ad 1 s), .ref (K.ad 5 q), .ref (K.ad 2 r)] V (bk4 A B C D) P (EQ V (none) (bk4 (gvWay A r s (B 83 q) (B 93 q) (B 92 q)) B C D) P) := by
  refine ct_of [(0, .ref (K.ad 1 s)), (1, .ref (K.ad 5 q)), (2, .ref (K.ad 2 r))] (by decide) (Nat.le_of_ble_eq_true rfl) (ca_r (ca_r (ca_r ca_n))) rfl ?_
  intro X hl hX
  have h : OkX X b_Srv_giveWay R_Srv K := hX.1
  have hN : X.nL = 5 := hX.2.1
  refine j_aload_n h d_Srv_giveWay_0 rfl ?_
  refine j_get0 h d_Srv_giveWay_1 fl_Srv_33 rfl (by assumption) ?_
  refine j_iconst (v := 1) h d_Srv_giveWay_4 (by decide) ?_
  refine j_ic_ne (tgt := 23) h d_Srv_giveWay_5 (by decide) (fun c1 => ?_) (fun c1 => ?_)
  · refine j_iconst (v := 0) h d_Srv_giveWay_23 (by decide) ?_
    refine j_istore_n h d_Srv_giveWay_24 (Nat.lt_of_lt_of_eq (m := 5) (by decide) hN.symm) ?_
    refine j_aload_n h d_Srv_giveWay_25 rfl ?_
    refine j_get0 h d_Srv_giveWay_26 fl_Srv_71 rfl (by assumption) ?_
    refine j_iconst (v := 4) h d_Srv_giveWay_29 (by decide) ?_
    refine j_ic_ne (tgt := 55) h d_Srv_giveWay_30 (by decide) (fun c2 => ?_) (fun c2 => ?_)
    · refine j_iconst (v := 0) h d_Srv_giveWay_55 (by decide) ?_
      refine j_istore h d_Srv_giveWay_56 (Nat.lt_of_lt_of_eq (m := 5) (by decide) hN.symm) ?_
      refine j_iload_n h d_Srv_giveWay_58 rfl ?_
      refine j_if_ne (tgt := 67) h d_Srv_giveWay_59 (by decide) (fun c3 => absurd c3 (by decide)) (fun c3 => ?_)
      refine j_iload h d_Srv_giveWay_62 rfl ?_
      refine j_if_eq (tgt := 87) h d_Srv_giveWay_64 (by decide) (fun c4 => ?_) (fun c4 => absurd c4 (by decide))
      exact j_vret hX d_Srv_giveWay_87 rfl (Nat.le_refl _) (Nat.le_refl _) ⟨rfl, by clear hX h hl; first | rfl | (simp_all [gvWay]; done) | grind [gvWay], by clear hX h hl; first | rfl | (simp_all [gvWay, up_rd]; done) | grind [gvWay, up_rd, chgTo_rd, chg_rd, settle_rd, bnd_rd], rfl⟩
    · refine j_aload_n h d_Srv_giveWay_33 rfl ?_
      refine j_get1 h d_Srv_giveWay_34 fl_Srv_196 rfl (by assumption) ?_
      refine j_aload_n h d_Srv_giveWay_37 rfl ?_
      refine j_get0 h d_Srv_giveWay_38 fl_Srv_126 rfl (by assumption) ?_
      refine j_ic_ne (tgt := 55) h d_Srv_giveWay_41 (by decide) (fun c5 => ?_) (fun c5 => ?_)
      · refine j_iconst (v := 0) h d_Srv_giveWay_55 (by decide) ?_
        refine j_istore h d_Srv_giveWay_56 (Nat.lt_of_lt_of_eq (m := 5) (by decide) hN.symm) ?_
        refine j_iload_n h d_Srv_giveWay_58 rfl ?_
        refine j_if_ne (tgt := 67) h d_Srv_giveWay_59 (by decide) (fun c6 => absurd c6 (by decide)) (fun c6 => ?_)
        refine j_iload h d_Srv_giveWay_62 rfl ?_
        refine j_if_eq (tgt := 87) h d_Srv_giveWay_64 (by decide) (fun c7 => ?_) (fun c7 => absurd c7 (by decide))
        exact j_vret hX d_Srv_giveWay_87 rfl (Nat.le_refl _) (Nat.le_refl _) ⟨rfl, by clear hX h hl; first | rfl | (simp_all [gvWay]; done) | grind [gvWay], by clear hX h hl; first | rfl | (simp_all [gvWay, up_rd]; done) | grind [gvWay, up_rd, chgTo_rd, chg_rd, settle_rd, bnd_rd], rfl⟩
      · refine j_aload_n h d_Srv_giveWay_44 rfl ?_
        refine j_get1 h d_Srv_giveWay_45 fl_Srv_74 rfl (by assumption) ?_
        refine j_if_eq (tgt := 55) h d_Srv_giveWay_48 (by decide) (fun c8 => ?_) (fun c8 => ?_)
        · refine j_iconst (v := 0) h d_Srv_giveWay_55 (by decide) ?_
          refine j_istore h d_Srv_giveWay_56 (Nat.lt_of_lt_of_eq (m := 5) (by decide) hN.symm) ?_
          refine j_iload_n h d_Srv_giveWay_58 rfl ?_
          refine j_if_ne (tgt := 67) h d_Srv_giveWay_59 (by decide) (fun c9 => absurd c9 (by decide)) (fun c9 => ?_)
          refine j_iload h d_Srv_giveWay_62 rfl ?_
          refine j_if_eq (tgt := 87) h d_Srv_giveWay_64 (by decide) (fun c10 => ?_) (fun c10 => absurd c10 (by decide))
          exact j_vret hX d_Srv_giveWay_87 rfl (Nat.le_refl _) (Nat.le_refl _) ⟨rfl, by clear hX h hl; first | rfl | (simp_all [gvWay]; done) | grind [gvWay], by clear hX h hl; first | rfl | (simp_all [gvWay, up_rd]; done) | grind [gvWay, up_rd, chgTo_rd, chg_rd, settle_rd, bnd_rd], rfl⟩
        · refine j_iconst (v := 1) h d_Srv_giveWay_51 (by decide) ?_
          refine j_goto (tgt := 56) h d_Srv_giveWay_52 (by decide) ?_
          refine j_istore h d_Srv_giveWay_56 (Nat.lt_of_lt_of_eq (m := 5) (by decide) hN.symm) ?_
          refine j_iload_n h d_Srv_giveWay_58 rfl ?_
          refine j_if_ne (tgt := 67) h d_Srv_giveWay_59 (by decide) (fun c11 => absurd c11 (by decide)) (fun c11 => ?_)
          refine j_iload h d_Srv_giveWay_62 rfl ?_
          refine j_if_eq (tgt := 87) h d_Srv_giveWay_64 (by decide) (fun c12 => absurd c12 (by decide)) (fun c12 => ?_)
          refine j_aload_n h d_Srv_giveWay_67 rfl ?_
          refine j_iload_n h d_Srv_giveWay_68 rfl ?_
          refine j_if_eq (tgt := 83) h d_Srv_giveWay_69 (by decide) (fun c13 => ?_) (fun c13 => absurd c13 (by decide))
          refine j_iconst (v := 0) h d_Srv_giveWay_83 (by decide) ?_
          refine j_callV h (c_Rec_settle _ _ _ _ _ _ _ _ _ hr _) d_Srv_giveWay_84 ml_Srv_197 mv_Rec_settle (by assumption) ⟨rfl, rfl⟩ rfl rfl (Nat.le_of_ble_eq_true rfl) (hR_of hX (by decide) (by decide)) (hf_of hX (by decide) (by decide)) ?_
          rintro _ _ _ _ ⟨rfl, rfl, rfl, rfl⟩
          exact j_vret hX d_Srv_giveWay_87 rfl (Nat.le_refl _) (Nat.le_refl _) ⟨rfl, by clear hX h hl; first | rfl | (simp_all [gvWay]; done) | grind [gvWay], by clear hX h hl; first | rfl | (simp_all [gvWay, up_rd]; done) | grind [gvWay, up_rd, chgTo_rd, chg_rd, settle_rd, bnd_rd], rfl⟩
  · refine j_aload_n h d_Srv_giveWay_8 rfl ?_
    refine j_get1 h d_Srv_giveWay_9 fl_Srv_195 rfl (by assumption) ?_
    refine j_aload_n h d_Srv_giveWay_12 rfl ?_
    refine j_get0 h d_Srv_giveWay_13 fl_Srv_39 rfl (by assumption) ?_
    refine j_ic_lt (tgt := 23) h d_Srv_giveWay_16 (by decide) (fun c14 => ?_) (fun c14 => ?_)
    · refine j_iconst (v := 0) h d_Srv_giveWay_23 (by decide) ?_
      refine j_istore_n h d_Srv_giveWay_24 (Nat.lt_of_lt_of_eq (m := 5) (by decide) hN.symm) ?_
      refine j_aload_n h d_Srv_giveWay_25 rfl ?_
      refine j_get0 h d_Srv_giveWay_26 fl_Srv_71 rfl (by assumption) ?_
      refine j_iconst (v := 4) h d_Srv_giveWay_29 (by decide) ?_
      refine j_ic_ne (tgt := 55) h d_Srv_giveWay_30 (by decide) (fun c15 => ?_) (fun c15 => ?_)
      · refine j_iconst (v := 0) h d_Srv_giveWay_55 (by decide) ?_
        refine j_istore h d_Srv_giveWay_56 (Nat.lt_of_lt_of_eq (m := 5) (by decide) hN.symm) ?_
        refine j_iload_n h d_Srv_giveWay_58 rfl ?_
        refine j_if_ne (tgt := 67) h d_Srv_giveWay_59 (by decide) (fun c16 => absurd c16 (by decide)) (fun c16 => ?_)
        refine j_iload h d_Srv_giveWay_62 rfl ?_
        refine j_if_eq (tgt := 87) h d_Srv_giveWay_64 (by decide) (fun c17 => ?_) (fun c17 => absurd c17 (by decide))
        exact j_vret hX d_Srv_giveWay_87 rfl (Nat.le_refl _) (Nat.le_refl _) ⟨rfl, by clear hX h hl; first | rfl | (simp_all [gvWay]; done) | grind [gvWay], by clear hX h hl; first | rfl | (simp_all [gvWay, up_rd]; done) | grind [gvWay, up_rd, chgTo_rd, chg_rd, settle_rd, bnd_rd], rfl⟩
      · refine j_aload_n h d_Srv_giveWay_33 rfl ?_
        refine j_get1 h d_Srv_giveWay_34 fl_Srv_196 rfl (by assumption) ?_
        refine j_aload_n h d_Srv_giveWay_37 rfl ?_
        refine j_get0 h d_Srv_giveWay_38 fl_Srv_126 rfl (by assumption) ?_
        refine j_ic_ne (tgt := 55) h d_Srv_giveWay_41 (by decide) (fun c18 => ?_) (fun c18 => ?_)
        · refine j_iconst (v := 0) h d_Srv_giveWay_55 (by decide) ?_
          refine j_istore h d_Srv_giveWay_56 (Nat.lt_of_lt_of_eq (m := 5) (by decide) hN.symm) ?_
          refine j_iload_n h d_Srv_giveWay_58 rfl ?_
          refine j_if_ne (tgt := 67) h d_Srv_giveWay_59 (by decide) (fun c19 => absurd c19 (by decide)) (fun c19 => ?_)
          refine j_iload h d_Srv_giveWay_62 rfl ?_
          refine j_if_eq (tgt := 87) h d_Srv_giveWay_64 (by decide) (fun c20 => ?_) (fun c20 => absurd c20 (by decide))
          exact j_vret hX d_Srv_giveWay_87 rfl (Nat.le_refl _) (Nat.le_refl _) ⟨rfl, by clear hX h hl; first | rfl | (simp_all [gvWay]; done) | grind [gvWay], by clear hX h hl; first | rfl | (simp_all [gvWay, up_rd]; done) | grind [gvWay, up_rd, chgTo_rd, chg_rd, settle_rd, bnd_rd], rfl⟩
        · refine j_aload_n h d_Srv_giveWay_44 rfl ?_
          refine j_get1 h d_Srv_giveWay_45 fl_Srv_74 rfl (by assumption) ?_
          refine j_if_eq (tgt := 55) h d_Srv_giveWay_48 (by decide) (fun c21 => ?_) (fun c21 => ?_)
          · refine j_iconst (v := 0) h d_Srv_giveWay_55 (by decide) ?_
            refine j_istore h d_Srv_giveWay_56 (Nat.lt_of_lt_of_eq (m := 5) (by decide) hN.symm) ?_
            refine j_iload_n h d_Srv_giveWay_58 rfl ?_
            refine j_if_ne (tgt := 67) h d_Srv_giveWay_59 (by decide) (fun c22 => absurd c22 (by decide)) (fun c22 => ?_)
            refine j_iload h d_Srv_giveWay_62 rfl ?_
            refine j_if_eq (tgt := 87) h d_Srv_giveWay_64 (by decide) (fun c23 => ?_) (fun c23 => absurd c23 (by decide))
            exact j_vret hX d_Srv_giveWay_87 rfl (Nat.le_refl _) (Nat.le_refl _) ⟨rfl, by clear hX h hl; first | rfl | (simp_all [gvWay]; done) | grind [gvWay], by clear hX h hl; first | rfl | (simp_all [gvWay, up_rd]; done) | grind [gvWay, up_rd, chgTo_rd, chg_rd, settle_rd, bnd_rd], rfl⟩
          · refine j_iconst (v := 1) h d_Srv_giveWay_51 (by decide) ?_
            refine j_goto (tgt := 56) h d_Srv_giveWay_52 (by decide) ?_
            refine j_istore h d_Srv_giveWay_56 (Nat.lt_of_lt_of_eq (m := 5) (by decide) hN.symm) ?_
            refine j_iload_n h d_Srv_giveWay_58 rfl ?_
            refine j_if_ne (tgt := 67) h d_Srv_giveWay_59 (by decide) (fun c24 => absurd c24 (by decide)) (fun c24 => ?_)
            refine j_iload h d_Srv_giveWay_62 rfl ?_
            refine j_if_eq (tgt := 87) h d_Srv_giveWay_64 (by decide) (fun c25 => absurd c25 (by decide)) (fun c25 => ?_)
            refine j_aload_n h d_Srv_giveWay_67 rfl ?_
            refine j_iload_n h d_Srv_giveWay_68 rfl ?_
            refine j_if_eq (tgt := 83) h d_Srv_giveWay_69 (by decide) (fun c26 => ?_) (fun c26 => absurd c26 (by decide))
            refine j_iconst (v := 0) h d_Srv_giveWay_83 (by decide) ?_
            refine j_callV h (c_Rec_settle _ _ _ _ _ _ _ _ _ hr _) d_Srv_giveWay_84 ml_Srv_197 mv_Rec_settle (by assumption) ⟨rfl, rfl⟩ rfl rfl (Nat.le_of_ble_eq_true rfl) (hR_of hX (by decide) (by decide)) (hf_of hX (by decide) (by decide)) ?_
            rintro _ _ _ _ ⟨rfl, rfl, rfl, rfl⟩
            exact j_vret hX d_Srv_giveWay_87 rfl (Nat.le_refl _) (Nat.le_refl _) ⟨rfl, by clear hX h hl; first | rfl | (simp_all [gvWay]; done) | grind [gvWay], by clear hX h hl; first | rfl | (simp_all [gvWay, up_rd]; done) | grind [gvWay, up_rd, chgTo_rd, chg_rd, settle_rd, bnd_rd], rfl⟩
    · refine j_iconst (v := 1) h d_Srv_giveWay_19 (by decide) ?_
      refine j_goto (tgt := 24) h d_Srv_giveWay_20 (by decide) ?_
      refine j_istore_n h d_Srv_giveWay_24 (Nat.lt_of_lt_of_eq (m := 5) (by decide) hN.symm) ?_
      refine j_aload_n h d_Srv_giveWay_25 rfl ?_
      refine j_get0 h d_Srv_giveWay_26 fl_Srv_71 rfl (by assumption) ?_
      refine j_iconst (v := 4) h d_Srv_giveWay_29 (by decide) ?_
      refine j_ic_ne (tgt := 55) h d_Srv_giveWay_30 (by decide) (fun c27 => ?_) (fun c27 => ?_)
      · refine j_iconst (v := 0) h d_Srv_giveWay_55 (by decide) ?_
        refine j_istore h d_Srv_giveWay_56 (Nat.lt_of_lt_of_eq (m := 5) (by decide) hN.symm) ?_
        refine j_iload_n h d_Srv_giveWay_58 rfl ?_
        refine j_if_ne (tgt := 67) h d_Srv_giveWay_59 (by decide) (fun c28 => ?_) (fun c28 => absurd c28 (by decide))
        refine j_aload_n h d_Srv_giveWay_67 rfl ?_
        refine j_iload_n h d_Srv_giveWay_68 rfl ?_
        refine j_if_eq (tgt := 83) h d_Srv_giveWay_69 (by decide) (fun c29 => absurd c29 (by decide)) (fun c29 => ?_)
        refine j_aload_n h d_Srv_giveWay_72 rfl ?_
        refine j_get1 h d_Srv_giveWay_73 fl_Srv_74 rfl (by assumption) ?_
        refine j_if_ne (tgt := 83) h d_Srv_giveWay_76 (by decide) (fun c30 => ?_) (fun c30 => ?_)
        · refine j_iconst (v := 0) h d_Srv_giveWay_83 (by decide) ?_
          refine j_callV h (c_Rec_settle _ _ _ _ _ _ _ _ _ hr _) d_Srv_giveWay_84 ml_Srv_197 mv_Rec_settle (by assumption) ⟨rfl, rfl⟩ rfl rfl (Nat.le_of_ble_eq_true rfl) (hR_of hX (by decide) (by decide)) (hf_of hX (by decide) (by decide)) ?_
          rintro _ _ _ _ ⟨rfl, rfl, rfl, rfl⟩
          exact j_vret hX d_Srv_giveWay_87 rfl (Nat.le_refl _) (Nat.le_refl _) ⟨rfl, by clear hX h hl; first | rfl | (simp_all [gvWay]; done) | grind [gvWay], by clear hX h hl; first | rfl | (simp_all [gvWay, up_rd]; done) | grind [gvWay, up_rd, chgTo_rd, chg_rd, settle_rd, bnd_rd], rfl⟩
        · refine j_iconst (v := 1) h d_Srv_giveWay_79 (by decide) ?_
          refine j_goto (tgt := 84) h d_Srv_giveWay_80 (by decide) ?_
          refine j_callV h (c_Rec_settle _ _ _ _ _ _ _ _ _ hr _) d_Srv_giveWay_84 ml_Srv_197 mv_Rec_settle (by assumption) ⟨rfl, rfl⟩ rfl rfl (Nat.le_of_ble_eq_true rfl) (hR_of hX (by decide) (by decide)) (hf_of hX (by decide) (by decide)) ?_
          rintro _ _ _ _ ⟨rfl, rfl, rfl, rfl⟩
          exact j_vret hX d_Srv_giveWay_87 rfl (Nat.le_refl _) (Nat.le_refl _) ⟨rfl, by clear hX h hl; first | rfl | (simp_all [gvWay]; done) | grind [gvWay], by clear hX h hl; first | rfl | (simp_all [gvWay, up_rd]; done) | grind [gvWay, up_rd, chgTo_rd, chg_rd, settle_rd, bnd_rd], rfl⟩
      · refine j_aload_n h d_Srv_giveWay_33 rfl ?_
        refine j_get1 h d_Srv_giveWay_34 fl_Srv_196 rfl (by assumption) ?_
        refine j_aload_n h d_Srv_giveWay_37 rfl ?_
        refine j_get0 h d_Srv_giveWay_38 fl_Srv_126 rfl (by assumption) ?_
        refine j_ic_ne (tgt := 55) h d_Srv_giveWay_41 (by decide) (fun c31 => ?_) (fun c31 => ?_)
        · refine j_iconst (v := 0) h d_Srv_giveWay_55 (by decide) ?_
          refine j_istore h d_Srv_giveWay_56 (Nat.lt_of_lt_of_eq (m := 5) (by decide) hN.symm) ?_
          refine j_iload_n h d_Srv_giveWay_58 rfl ?_
          refine j_if_ne (tgt := 67) h d_Srv_giveWay_59 (by decide) (fun c32 => ?_) (fun c32 => absurd c32 (by decide))
          refine j_aload_n h d_Srv_giveWay_67 rfl ?_
          refine j_iload_n h d_Srv_giveWay_68 rfl ?_
          refine j_if_eq (tgt := 83) h d_Srv_giveWay_69 (by decide) (fun c33 => absurd c33 (by decide)) (fun c33 => ?_)
          refine j_aload_n h d_Srv_giveWay_72 rfl ?_
          refine j_get1 h d_Srv_giveWay_73 fl_Srv_74 rfl (by assumption) ?_
          refine j_if_ne (tgt := 83) h d_Srv_giveWay_76 (by decide) (fun c34 => ?_) (fun c34 => ?_)
          · refine j_iconst (v := 0) h d_Srv_giveWay_83 (by decide) ?_
            refine j_callV h (c_Rec_settle _ _ _ _ _ _ _ _ _ hr _) d_Srv_giveWay_84 ml_Srv_197 mv_Rec_settle (by assumption) ⟨rfl, rfl⟩ rfl rfl (Nat.le_of_ble_eq_true rfl) (hR_of hX (by decide) (by decide)) (hf_of hX (by decide) (by decide)) ?_
            rintro _ _ _ _ ⟨rfl, rfl, rfl, rfl⟩
            exact j_vret hX d_Srv_giveWay_87 rfl (Nat.le_refl _) (Nat.le_refl _) ⟨rfl, by clear hX h hl; first | rfl | (simp_all [gvWay]; done) | grind [gvWay], by clear hX h hl; first | rfl | (simp_all [gvWay, up_rd]; done) | grind [gvWay, up_rd, chgTo_rd, chg_rd, settle_rd, bnd_rd], rfl⟩
          · refine j_iconst (v := 1) h d_Srv_giveWay_79 (by decide) ?_
            refine j_goto (tgt := 84) h d_Srv_giveWay_80 (by decide) ?_
            refine j_callV h (c_Rec_settle _ _ _ _ _ _ _ _ _ hr _) d_Srv_giveWay_84 ml_Srv_197 mv_Rec_settle (by assumption) ⟨rfl, rfl⟩ rfl rfl (Nat.le_of_ble_eq_true rfl) (hR_of hX (by decide) (by decide)) (hf_of hX (by decide) (by decide)) ?_
            rintro _ _ _ _ ⟨rfl, rfl, rfl, rfl⟩
            exact j_vret hX d_Srv_giveWay_87 rfl (Nat.le_refl _) (Nat.le_refl _) ⟨rfl, by clear hX h hl; first | rfl | (simp_all [gvWay]; done) | grind [gvWay], by clear hX h hl; first | rfl | (simp_all [gvWay, up_rd]; done) | grind [gvWay, up_rd, chgTo_rd, chg_rd, settle_rd, bnd_rd], rfl⟩
        · refine j_aload_n h d_Srv_giveWay_44 rfl ?_
          refine j_get1 h d_Srv_giveWay_45 fl_Srv_74 rfl (by assumption) ?_
          refine j_if_eq (tgt := 55) h d_Srv_giveWay_48 (by decide) (fun c35 => ?_) (fun c35 => ?_)
          · refine j_iconst (v := 0) h d_Srv_giveWay_55 (by decide) ?_
            refine j_istore h d_Srv_giveWay_56 (Nat.lt_of_lt_of_eq (m := 5) (by decide) hN.symm) ?_
            refine j_iload_n h d_Srv_giveWay_58 rfl ?_
            refine j_if_ne (tgt := 67) h d_Srv_giveWay_59 (by decide) (fun c36 => ?_) (fun c36 => absurd c36 (by decide))
            refine j_aload_n h d_Srv_giveWay_67 rfl ?_
            refine j_iload_n h d_Srv_giveWay_68 rfl ?_
            refine j_if_eq (tgt := 83) h d_Srv_giveWay_69 (by decide) (fun c37 => absurd c37 (by decide)) (fun c37 => ?_)
            refine j_aload_n h d_Srv_giveWay_72 rfl ?_
            refine j_get1 h d_Srv_giveWay_73 fl_Srv_74 rfl (by assumption) ?_
            refine j_if_ne (tgt := 83) h d_Srv_giveWay_76 (by decide) (fun c38 => ?_) (fun c38 => ?_)
            · refine j_iconst (v := 0) h d_Srv_giveWay_83 (by decide) ?_
              refine j_callV h (c_Rec_settle _ _ _ _ _ _ _ _ _ hr _) d_Srv_giveWay_84 ml_Srv_197 mv_Rec_settle (by assumption) ⟨rfl, rfl⟩ rfl rfl (Nat.le_of_ble_eq_true rfl) (hR_of hX (by decide) (by decide)) (hf_of hX (by decide) (by decide)) ?_
              rintro _ _ _ _ ⟨rfl, rfl, rfl, rfl⟩
              exact j_vret hX d_Srv_giveWay_87 rfl (Nat.le_refl _) (Nat.le_refl _) ⟨rfl, by clear hX h hl; first | rfl | (simp_all [gvWay]; done) | grind [gvWay], by clear hX h hl; first | rfl | (simp_all [gvWay, up_rd]; done) | grind [gvWay, up_rd, chgTo_rd, chg_rd, settle_rd, bnd_rd], rfl⟩
            · refine j_iconst (v := 1) h d_Srv_giveWay_79 (by decide) ?_
              refine j_goto (tgt := 84) h d_Srv_giveWay_80 (by decide) ?_
              refine j_callV h (c_Rec_settle _ _ _ _ _ _ _ _ _ hr _) d_Srv_giveWay_84 ml_Srv_197 mv_Rec_settle (by assumption) ⟨rfl, rfl⟩ rfl rfl (Nat.le_of_ble_eq_true rfl) (hR_of hX (by decide) (by decide)) (hf_of hX (by decide) (by decide)) ?_
              rintro _ _ _ _ ⟨rfl, rfl, rfl, rfl⟩
              exact j_vret hX d_Srv_giveWay_87 rfl (Nat.le_refl _) (Nat.le_refl _) ⟨rfl, by clear hX h hl; first | rfl | (simp_all [gvWay]; done) | grind [gvWay], by clear hX h hl; first | rfl | (simp_all [gvWay, up_rd]; done) | grind [gvWay, up_rd, chgTo_rd, chg_rd, settle_rd, bnd_rd], rfl⟩
          · refine j_iconst (v := 1) h d_Srv_giveWay_51 (by decide) ?_
            refine j_goto (tgt := 56) h d_Srv_giveWay_52 (by decide) ?_
            refine j_istore h d_Srv_giveWay_56 (Nat.lt_of_lt_of_eq (m := 5) (by decide) hN.symm) ?_
            refine j_iload_n h d_Srv_giveWay_58 rfl ?_
            refine j_if_ne (tgt := 67) h d_Srv_giveWay_59 (by decide) (fun c39 => ?_) (fun c39 => absurd c39 (by decide))
            refine j_aload_n h d_Srv_giveWay_67 rfl ?_
            refine j_iload_n h d_Srv_giveWay_68 rfl ?_
            refine j_if_eq (tgt := 83) h d_Srv_giveWay_69 (by decide) (fun c40 => absurd c40 (by decide)) (fun c40 => ?_)
            refine j_aload_n h d_Srv_giveWay_72 rfl ?_
            refine j_get1 h d_Srv_giveWay_73 fl_Srv_74 rfl (by assumption) ?_
            refine j_if_ne (tgt := 83) h d_Srv_giveWay_76 (by decide) (fun c41 => ?_) (fun c41 => ?_)
            · refine j_iconst (v := 0) h d_Srv_giveWay_83 (by decide) ?_
              refine j_callV h (c_Rec_settle _ _ _ _ _ _ _ _ _ hr _) d_Srv_giveWay_84 ml_Srv_197 mv_Rec_settle (by assumption) ⟨rfl, rfl⟩ rfl rfl (Nat.le_of_ble_eq_true rfl) (hR_of hX (by decide) (by decide)) (hf_of hX (by decide) (by decide)) ?_
              rintro _ _ _ _ ⟨rfl, rfl, rfl, rfl⟩
              exact j_vret hX d_Srv_giveWay_87 rfl (Nat.le_refl _) (Nat.le_refl _) ⟨rfl, by clear hX h hl; first | rfl | (simp_all [gvWay]; done) | grind [gvWay], by clear hX h hl; first | rfl | (simp_all [gvWay, up_rd]; done) | grind [gvWay, up_rd, chgTo_rd, chg_rd, settle_rd, bnd_rd], rfl⟩
            · refine j_iconst (v := 1) h d_Srv_giveWay_79 (by decide) ?_
              refine j_goto (tgt := 84) h d_Srv_giveWay_80 (by decide) ?_
              refine j_callV h (c_Rec_settle _ _ _ _ _ _ _ _ _ hr _) d_Srv_giveWay_84 ml_Srv_197 mv_Rec_settle (by assumption) ⟨rfl, rfl⟩ rfl rfl (Nat.le_of_ble_eq_true rfl) (hR_of hX (by decide) (by decide)) (hf_of hX (by decide) (by decide)) ?_
              rintro _ _ _ _ ⟨rfl, rfl, rfl, rfl⟩
              exact j_vret hX d_Srv_giveWay_87 rfl (Nat.le_refl _) (Nat.le_refl _) ⟨rfl, by clear hX h hl; first | rfl | (simp_all [gvWay]; done) | grind [gvWay], by clear hX h hl; first | rfl | (simp_all [gvWay, up_rd]; done) | grind [gvWay, up_rd, chgTo_rd, chg_rd, settle_rd, bnd_rd], rfl⟩
theorem d_Srv_recover_0 : decode b_Srv_recover 0 = .ok (.aload_n 0, 1) := by decide +kernel
theorem d_Srv_recover_1 : decode b_Srv_recover 1 = .ok (.getfield 33, 3) := by decide +kernel
theorem d_Srv_recover_4 : decode b_Srv_recover 4 = .ok (.iconst 1, 1) := by decide +kernel
theorem d_Srv_recover_5 : decode b_Srv_recover 5 = .ok (.if_icmp .ne 10, 3) := by decide +kernel
theorem d_Srv_recover_8 : decode b_Srv_recover 8 = .ok (.aload_n 0, 1) := by decide +kernel
theorem d_Srv_recover_9 : decode b_Srv_recover 9 = .ok (.invokevirtual 200, 3) := by decide +kernel
theorem d_Srv_recover_12 : decode b_Srv_recover 12 = .ok (.ifCond .ne 5, 3) := by decide +kernel
theorem d_Srv_recover_15 : decode b_Srv_recover 15 = .ok (.iconst 0, 1) := by decide +kernel
theorem d_Srv_recover_16 : decode b_Srv_recover 16 = .ok (.ireturn, 1) := by decide +kernel
theorem d_Srv_recover_17 : decode b_Srv_recover 17 = .ok (.aload_n 0, 1) := by decide +kernel
theorem d_Srv_recover_18 : decode b_Srv_recover 18 = .ok (.iconst 2, 1) := by decide +kernel
theorem d_Srv_recover_19 : decode b_Srv_recover 19 = .ok (.putfield 33, 3) := by decide +kernel
theorem d_Srv_recover_22 : decode b_Srv_recover 22 = .ok (.aload_n 0, 1) := by decide +kernel
theorem d_Srv_recover_23 : decode b_Srv_recover 23 = .ok (.aload_n 0, 1) := by decide +kernel
theorem d_Srv_recover_24 : decode b_Srv_recover 24 = .ok (.getfield 36, 3) := by decide +kernel
theorem d_Srv_recover_27 : decode b_Srv_recover 27 = .ok (.putfield 39, 3) := by decide +kernel
theorem d_Srv_recover_30 : decode b_Srv_recover 30 = .ok (.iconst 1, 1) := by decide +kernel
theorem d_Srv_recover_31 : decode b_Srv_recover 31 = .ok (.ireturn, 1) := by decide +kernel
set_option maxRecDepth 100000 in
set_option maxHeartbeats 4000000 in
theorem c_Srv_recover (l : Launch) (K : Kx) (V : Vx) (A B C D : MI) (P : MP) (n : Nat) (cs : CS K V P n) (s : Nat) (hs : s < 2) : Ct l K md_Srv_recover (1, 21) 0 0 [.ref (K.ad 1 s)] V (bk4 A B C D) P (EQ V (some (.int (b01 (A 0 s = 1 ∧ ¬ allF A s n 0 = 0)))) (bk4 (if A 0 s = 1 ∧ ¬ allF A s n 0 = 0 then up (up A 0 s 2) 3 s (A 2 s) else A) B C D) P) := by
  refine ct_of [(0, .ref (K.ad 1 s))] (by decide) (Nat.le_of_ble_eq_true rfl) (ca_r ca_n) rfl ?_
  intro X hl hX
  have h : OkX X b_Srv_recover R_Srv K := hX.1
  have hN : X.nL = 1 := hX.2.1
  have hsv := cs_sv cs hs
  refine j_aload_n h d_Srv_recover_0 rfl ?_
  refine j_get0 h d_Srv_recover_1 fl_Srv_33 rfl (by assumption) ?_
  refine j_iconst (v := 1) h d_Srv_recover_4 (by decide) ?_
  refine j_ic_ne (tgt := 15) h d_Srv_recover_5 (by decide) (fun c1 => ?_) (fun c1 => ?_)
  · refine j_iconst (v := 0) h d_Srv_recover_15 (by decide) ?_
    exact j_zret hX d_Srv_recover_16 rfl (by first | exact Or.inl rfl | exact Or.inr rfl | exact b01_z _ | assumption | exact tkB_z _ _ _ _ _ | exact tkE_z _ _ _ _ _ _ _ _ | exact tkG_z _ _ | exact enS_z _ _ _ | exact enO_z _ _ _ _ _ _) (Nat.le_refl _) (Nat.le_refl _) ⟨rfl, by clear hX h hl; first | rfl | (simp_all [b01]; done) | grind [b01], by clear hX h hl; first | rfl | (simp_all [b01, up_rd]; done) | grind [b01, up_rd, chgTo_rd, chg_rd, settle_rd, bnd_rd], rfl⟩
  · refine j_aload_n h d_Srv_recover_8 rfl ?_
    refine j_callV h (c_Srv_allFresh _ _ _ _ _ _ _ _ _ cs _ hs) d_Srv_recover_9 ml_Srv_200 mv_Srv_allFresh (by assumption) ⟨rfl, rfl⟩ rfl rfl (Nat.le_of_ble_eq_true rfl) (hR_of hX (by decide) (by decide)) (hf_of hX (by decide) (by decide)) ?_
    rintro _ _ _ _ ⟨rfl, rfl, rfl, rfl⟩
    refine j_if_ne (tgt := 17) h d_Srv_recover_12 (by decide) (fun c2 => ?_) (fun c2 => ?_)
    · refine j_aload_n h d_Srv_recover_17 rfl ?_
      refine j_iconst (v := 2) h d_Srv_recover_18 (by decide) ?_
      refine j_put0 h d_Srv_recover_19 fw_Srv_33 rfl rfl (by assumption) ?_
      refine j_aload_n h d_Srv_recover_22 rfl ?_
      refine j_aload_n h d_Srv_recover_23 rfl ?_
      refine j_get0 h d_Srv_recover_24 fl_Srv_36 rfl (by assumption) ?_
      refine j_put0 h d_Srv_recover_27 fw_Srv_39 rfl rfl (by assumption) ?_
      refine j_iconst (v := 1) h d_Srv_recover_30 (by decide) ?_
      exact j_zret hX d_Srv_recover_31 rfl (by first | exact Or.inl rfl | exact Or.inr rfl | exact b01_z _ | assumption | exact tkB_z _ _ _ _ _ | exact tkE_z _ _ _ _ _ _ _ _ | exact tkG_z _ _ | exact enS_z _ _ _ | exact enO_z _ _ _ _ _ _) (Nat.le_refl _) (Nat.le_refl _) ⟨rfl, by clear hX h hl; first | rfl | (simp_all [b01]; done) | grind [b01], by clear hX h hl; first | rfl | (simp_all [b01, up_rd]; done) | grind [b01, up_rd, chgTo_rd, chg_rd, settle_rd, bnd_rd], rfl⟩
    · refine j_iconst (v := 0) h d_Srv_recover_15 (by decide) ?_
      exact j_zret hX d_Srv_recover_16 rfl (by first | exact Or.inl rfl | exact Or.inr rfl | exact b01_z _ | assumption | exact tkB_z _ _ _ _ _ | exact tkE_z _ _ _ _ _ _ _ _ | exact tkG_z _ _ | exact enS_z _ _ _ | exact enO_z _ _ _ _ _ _) (Nat.le_refl _) (Nat.le_refl _) ⟨rfl, by clear hX h hl; first | rfl | (simp_all [b01]; done) | grind [b01], by clear hX h hl; first | rfl | (simp_all [b01, up_rd]; done) | grind [b01, up_rd, chgTo_rd, chg_rd, settle_rd, bnd_rd], rfl⟩
