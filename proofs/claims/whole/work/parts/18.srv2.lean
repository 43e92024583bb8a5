/-! .. and those that hear -/
def hndR (s : Nat) (m : Int32) : Nat → Nat → Int32 → MI → Int32 × MI
  | 0, _, g, A => (g, A)
  | k + 1, i, g, A => if m ≤ g then (g, A) else if A 10 (32 * s + i) = 1 then hndR s m k (i + 1) (g + 1) (chgTo A (32 * s + i) 4) else hndR s m k (i + 1) g A
def wrIf (c : Int32) (A : MI) (s : Nat) : MI := if c ≤ 0 then A else wr A s
def enOne (A : MI) (r s : Nat) (ld sk t : Int32) : Int32 × MI := if A 0 s = 2 then endT A r t else enAlone A r s ld sk t
def endR (s : Nat) (ld sk t : Int32) : Nat → Nat → Int32 → MI → Int32 × MI
  | 0, _, g, A => (g, A)
  | k + 1, i, g, A => endR s ld sk t k (i + 1) (if (enOne A (32 * s + i) s ld sk t).1 = 0 then g else g + 1) (enOne A (32 * s + i) s ld sk t).2
noncomputable def tkIn (A : MI) (r s : Nat) (num t k c e rq rel vd sn : Int32) : Int32 × MI :=
  if k = 2 then tkBound (gvWay A r s k vd sn) r c e rq
  else if k = 3 then tkEnding (gvWay A r s k vd sn) r c e t rel rq (b01 (num = 1))
  else if k = 4 then tkGiven (gvWay A r s k vd sn) r
  else if k = 1 then (b01 (gvWay A r s k vd sn 10 r = 0), gvWay A r s k vd sn)
  else (1, gvWay A r s k vd sn)
def hrAck (A : MI) (r s : Nat) (num amt ep ov : Int32) : MI :=
  if ¬ A 20 r < ep then A
  else if ¬ (lnKnown A r num amt).1 = 0 ∨ ¬ (lnAck (lnKnown A r num amt).2 r num ov).1 = 0 then wr (lnAck (lnKnown A r num amt).2 r num ov).2 s
  else (lnAck (lnKnown A r num amt).2 r num ov).2
def hrRel (A : MI) (r s : Nat) (c num : Int32) : MI :=
  if (A 10 r = 2 ∧ A 11 r = c) ∧ A 13 r ≤ num then wr (chgTo (up (up A 13 r num) 14 r 1) r (if A 0 s = 3 ∧ ¬ A 21 r = 0 then 1 else 3)) s else A
def lsNew (A : MI) (r s : Nat) (ld t c amt num : Int32) : MI :=
  if A 0 s = 2 then bnd (chg A r) r c (ls_ (t + amt) (t + ld)) num (A 15 r + 1)
  else bnd (chg (up A 21 r 1) r) r c (t + amt) num (A 15 r + 1)
def rnw (A : MI) (r s a : Nat) (ld t c amt num : Int32) : Int32 × MI :=
  if ¬ (A 10 r = 2 ∧ A 11 r = c) then (-1, A)
  else if ¬ A 13 r ≤ num then (-2, A)
  else if ¬ t < A 12 r then (-1, A)
  else (nI a, chg (up (up A 13 r num) 12 r (gr (A 12 r) (if A 0 s = 2 then ls_ (t + amt) (gr (A 18 r) t + ld) else t + amt))) r)
theorem lstOwn_c (A : MI) (s : Nat) : ∀ k i, lstOwn A s k i = -1 ∨ ∃ a, a < i + k ∧ lstOwn A s k i = nI a ∧ A 10 (32 * s + a) = 1
  | 0, _ => Or.inl rfl
  | k + 1, i => by
    unfold lstOwn
    split
    · exact Or.inr ⟨i, by omega, rfl, by assumption⟩
    · rcases lstOwn_c A s k (i + 1) with h | ⟨a, h1, h2, h3⟩
      · exact Or.inl h
      · exact Or.inr ⟨a, by omega, h2, h3⟩
theorem lsdTo_c (A : MI) (s : Nat) (c t : Int32) : ∀ k i, lsdTo A s c t k i = -1 ∨ ∃ a, a < i + k ∧ lsdTo A s c t k i = nI a
  | 0, _ => Or.inl rfl
  | k + 1, i => by
    unfold lsdTo
    split
    · exact Or.inr ⟨i, by omega, rfl⟩
    · rcases lsdTo_c A s c t k (i + 1) with h | ⟨a, h1, h2⟩
      · exact Or.inl h
      · exact Or.inr ⟨a, by omega, h2⟩
theorem nI_m1 {a : Nat} (h : a < 2 ^ 31) : ¬ nI a = -1 := by
  intro q
  have := nI_toInt h
  rw [q] at this
  simp at this
theorem d_Srv_handOver_0 : decode b_Srv_handOver 0 = .ok (.iconst 0, 1) := by decide +kernel
theorem d_Srv_handOver_1 : decode b_Srv_handOver 1 = .ok (.istore_n 2, 1) := by decide +kernel
theorem d_Srv_handOver_2 : decode b_Srv_handOver 2 = .ok (.iconst 0, 1) := by decide +kernel
theorem d_Srv_handOver_3 : decode b_Srv_handOver 3 = .ok (.istore_n 3, 1) := by decide +kernel
theorem d_Srv_handOver_4 : decode b_Srv_handOver 4 = .ok (.iload_n 3, 1) := by decide +kernel
theorem d_Srv_handOver_5 : decode b_Srv_handOver 5 = .ok (.aload_n 0, 1) := by decide +kernel
theorem d_Srv_handOver_6 : decode b_Srv_handOver 6 = .ok (.getfield 26, 3) := by decide +kernel
theorem d_Srv_handOver_9 : decode b_Srv_handOver 9 = .ok (.arraylength, 1) := by decide +kernel
theorem d_Srv_handOver_10 : decode b_Srv_handOver 10 = .ok (.if_icmp .ge 40, 3) := by decide +kernel
theorem d_Srv_handOver_13 : decode b_Srv_handOver 13 = .ok (.iload_n 2, 1) := by decide +kernel
theorem d_Srv_handOver_14 : decode b_Srv_handOver 14 = .ok (.iload_n 1, 1) := by decide +kernel
theorem d_Srv_handOver_15 : decode b_Srv_handOver 15 = .ok (.if_icmp .ge 35, 3) := by decide +kernel
theorem d_Srv_handOver_18 : decode b_Srv_handOver 18 = .ok (.aload_n 0, 1) := by decide +kernel
theorem d_Srv_handOver_19 : decode b_Srv_handOver 19 = .ok (.getfield 26, 3) := by decide +kernel
theorem d_Srv_handOver_22 : decode b_Srv_handOver 22 = .ok (.iload_n 3, 1) := by decide +kernel
theorem d_Srv_handOver_23 : decode b_Srv_handOver 23 = .ok (.aaload, 1) := by decide +kernel
theorem d_Srv_handOver_24 : decode b_Srv_handOver 24 = .ok (.getfield 71, 3) := by decide +kernel
theorem d_Srv_handOver_27 : decode b_Srv_handOver 27 = .ok (.iconst 1, 1) := by decide +kernel
theorem d_Srv_handOver_28 : decode b_Srv_handOver 28 = .ok (.if_icmp .ne 16, 3) := by decide +kernel
theorem d_Srv_handOver_31 : decode b_Srv_handOver 31 = .ok (.aload_n 0, 1) := by decide +kernel
theorem d_Srv_handOver_32 : decode b_Srv_handOver 32 = .ok (.getfield 26, 3) := by decide +kernel
theorem d_Srv_handOver_35 : decode b_Srv_handOver 35 = .ok (.iload_n 3, 1) := by decide +kernel
theorem d_Srv_handOver_36 : decode b_Srv_handOver 36 = .ok (.aaload, 1) := by decide +kernel
theorem d_Srv_handOver_37 : decode b_Srv_handOver 37 = .ok (.iconst 4, 1) := by decide +kernel
theorem d_Srv_handOver_38 : decode b_Srv_handOver 38 = .ok (.invokevirtual 151, 3) := by decide +kernel
theorem d_Srv_handOver_41 : decode b_Srv_handOver 41 = .ok (.iinc 2 1, 3) := by decide +kernel
theorem d_Srv_handOver_44 : decode b_Srv_handOver 44 = .ok (.iinc 3 1, 3) := by decide +kernel
theorem d_Srv_handOver_47 : decode b_Srv_handOver 47 = .ok (.goto (-43), 3) := by decide +kernel
theorem d_Srv_handOver_50 : decode b_Srv_handOver 50 = .ok (.iload_n 2, 1) := by decide +kernel
theorem d_Srv_handOver_51 : decode b_Srv_handOver 51 = .ok (.ifCond .le 7, 3) := by decide +kernel
theorem d_Srv_handOver_54 : decode b_Srv_handOver 54 = .ok (.aload_n 0, 1) := by decide +kernel
theorem d_Srv_handOver_55 : decode b_Srv_handOver 55 = .ok (.invokevirtual 65, 3) := by decide +kernel
theorem d_Srv_handOver_58 : decode b_Srv_handOver 58 = .ok (.iload_n 2, 1) := by decide +kernel
theorem d_Srv_handOver_59 : decode b_Srv_handOver 59 = .ok (.ireturn, 1) := by decide +kernel
set_option maxRecDepth 100000 in
set_option maxHeartbeats 4000000 in
theorem c_Srv_handOver (l : Launch) (K : Kx) (V : Vx) (A B C D : MI) (P : MP) (n : Nat) (cs : CS K V P n) (s : Nat) (hs : s < 2) (m : Int32) : Ct l K md_Srv_handOver (2, 41) 0 0 [.ref (K.ad 1 s), .int m] V (bk4 A B C D) P (EQ V (some (.int (hndR s m n 0 0 A).1)) (bk4 (wrIf (hndR s m n 0 0 A).1 (hndR s m n 0 0 A).2 s) B C D) P) := by
  refine ct_of [(0, .ref (K.ad 1 s)), (1, .int m)] (by decide) (Nat.le_of_ble_eq_true rfl) (ca_r (ca_i ca_n)) rfl ?_
  intro X hl hX
  have h : OkX X b_Srv_handOver R_Srv K := hX.1
  have hN : X.nL = 4 := hX.2.1
  have hsv := cs_sv cs hs
  have hL : ∀ (k i : Nat) (g : Int32) (A1 : MI), i + k = n → hndR s m n 0 0 A = hndR s m k i g A1 → J X K V (bk4 A1 B C D) P 0 0 4 [(0, .ref (K.ad 1 s)), (1, .int m), (2, .int g), (3, .int (nI i))] [] := by
    intro k
    induction k with
    | zero =>
      intro i g A1 hi hv
      have hi2 : i = n := by omega
      subst hi2
      refine j_iload_n h d_Srv_handOver_4 rfl ?_
      refine j_aload_n h d_Srv_handOver_5 rfl ?_
      refine j_getR h d_Srv_handOver_6 fl_Srv_26 rfl (by assumption) (cs_rp cs hs) ?_
      refine j_recl h cs hs d_Srv_handOver_9 ?_
      refine j_ic_ge (tgt := 50) h d_Srv_handOver_10 (by decide) (fun _ => ?_) (fun c => absurd (nI_le (Nat.le_refl _) (cs_n31 cs)) c)
      refine j_iload_n h d_Srv_handOver_50 rfl ?_
      refine j_if_le (tgt := 58) h d_Srv_handOver_51 (by decide) (fun c1 => ?_) (fun c1 => ?_)
      · refine j_iload_n h d_Srv_handOver_58 rfl ?_
        exact j_iret hX d_Srv_handOver_59 rfl (Nat.le_refl _) (Nat.le_refl _) ⟨rfl, by rw [hv]; clear hX h hl; first | rfl | simp_all [hndR], by rw [hv]; clear hX h hl; first | (simp_all [hndR, wrIf]; done) | grind [hndR, wrIf], rfl⟩
      · refine j_aload_n h d_Srv_handOver_54 rfl ?_
        refine j_callV h (c_Srv_write _ _ _ _ _ _ _ _ _ hsv) d_Srv_handOver_55 ml_Srv_65 mv_Srv_write (by assumption) ⟨rfl, rfl⟩ rfl rfl (Nat.le_of_ble_eq_true rfl) (hR_of hX (by decide) (by decide)) (hf_of hX (by decide) (by decide)) ?_
        rintro _ _ _ _ ⟨rfl, rfl, rfl, rfl⟩
        refine j_iload_n h d_Srv_handOver_58 rfl ?_
        exact j_iret hX d_Srv_handOver_59 rfl (Nat.le_refl _) (Nat.le_refl _) ⟨rfl, by rw [hv]; clear hX h hl; first | rfl | simp_all [hndR], by rw [hv]; clear hX h hl; first | (simp_all [hndR, wrIf]; done) | grind [hndR, wrIf], rfl⟩
    | succ k ih =>
      intro i g A1 hi hv
      have hi2 : i < n := by omega
      have hr := cs_rv cs hs hi2
      refine j_iload_n h d_Srv_handOver_4 rfl ?_
      refine j_aload_n h d_Srv_handOver_5 rfl ?_
      refine j_getR h d_Srv_handOver_6 fl_Srv_26 rfl (by assumption) (cs_rp cs hs) ?_
      refine j_recl h cs hs d_Srv_handOver_9 ?_
      refine j_ic_ge (tgt := 50) h d_Srv_handOver_10 (by decide) (fun c => absurd c (nI_ge hi2 (cs_n31 cs))) (fun _ => ?_)
      refine j_iload_n h d_Srv_handOver_13 rfl ?_
      refine j_iload_n h d_Srv_handOver_14 rfl ?_
      refine j_ic_ge (tgt := 50) h d_Srv_handOver_15 (by decide) (fun c1 => ?_) (fun c1 => ?_)
      · refine j_iload_n h d_Srv_handOver_50 rfl ?_
        refine j_if_le (tgt := 58) h d_Srv_handOver_51 (by decide) (fun c2 => ?_) (fun c2 => ?_)
        · refine j_iload_n h d_Srv_handOver_58 rfl ?_
          exact j_iret hX d_Srv_handOver_59 rfl (Nat.le_refl _) (Nat.le_refl _) ⟨rfl, by rw [hv]; clear hX h hl; first | rfl | simp_all [hndR], by rw [hv]; clear hX h hl; first | (simp_all [hndR, wrIf]; done) | grind [hndR, wrIf], rfl⟩
        · refine j_aload_n h d_Srv_handOver_54 rfl ?_
          refine j_callV h (c_Srv_write _ _ _ _ _ _ _ _ _ hsv) d_Srv_handOver_55 ml_Srv_65 mv_Srv_write (by assumption) ⟨rfl, rfl⟩ rfl rfl (Nat.le_of_ble_eq_true rfl) (hR_of hX (by decide) (by decide)) (hf_of hX (by decide) (by decide)) ?_
          rintro _ _ _ _ ⟨rfl, rfl, rfl, rfl⟩
          refine j_iload_n h d_Srv_handOver_58 rfl ?_
          exact j_iret hX d_Srv_handOver_59 rfl (Nat.le_refl _) (Nat.le_refl _) ⟨rfl, by rw [hv]; clear hX h hl; first | rfl | simp_all [hndR], by rw [hv]; clear hX h hl; first | (simp_all [hndR, wrIf]; done) | grind [hndR, wrIf], rfl⟩
      · refine j_aload_n h d_Srv_handOver_18 rfl ?_
        refine j_getR h d_Srv_handOver_19 fl_Srv_26 rfl (by assumption) (cs_rp cs hs) ?_
        refine j_iload_n h d_Srv_handOver_22 rfl ?_
        refine j_recs h cs hs hi2 d_Srv_handOver_23 ?_
        refine j_get0 h d_Srv_handOver_24 fl_Srv_71 rfl (by assumption) ?_
        refine j_iconst (v := 1) h d_Srv_handOver_27 (by decide) ?_
        refine j_ic_ne (tgt := 44) h d_Srv_handOver_28 (by decide) (fun c3 => ?_) (fun c3 => ?_)
        · refine j_iinc (v := nI (i + 1)) h d_Srv_handOver_44 rfl (nI_i i) (Nat.lt_of_lt_of_eq (m := 4) (by decide) hN.symm) ?_
          refine j_goto (tgt := 4) h d_Srv_handOver_47 (by decide) ?_
          refine j_lv (lv' := [(0, .ref (K.ad 1 s)), (1, .int m), (2, .int _), (3, .int (nI (i + 1)))]) (lvs rfl (lvs rfl (lvs rfl (lvs rfl lvs0)))) ?_
          exact ih (i + 1) _ _ (by omega) (hv.trans (by clear ih hX h; grind [hndR]))
        · refine j_aload_n h d_Srv_handOver_31 rfl ?_
          refine j_getR h d_Srv_handOver_32 fl_Srv_26 rfl (by assumption) (cs_rp cs hs) ?_
          refine j_iload_n h d_Srv_handOver_35 rfl ?_
          refine j_recs h cs hs hi2 d_Srv_handOver_36 ?_
          refine j_iconst (v := 4) h d_Srv_handOver_37 (by decide) ?_
          refine j_callV h (c_Rec_changeTo _ _ _ _ _ _ _ _ _ hr _) d_Srv_handOver_38 ml_Srv_151 mv_Rec_changeTo (by assumption) ⟨rfl, rfl⟩ rfl rfl (Nat.le_of_ble_eq_true rfl) (hR_of hX (by decide) (by decide)) (hf_of hX (by decide) (by decide)) ?_
          rintro _ _ _ _ ⟨rfl, rfl, rfl, rfl⟩
          refine j_iinc (v := g + 1) h d_Srv_handOver_41 rfl rfl (Nat.lt_of_lt_of_eq (m := 4) (by decide) hN.symm) ?_
          refine j_iinc (v := nI (i + 1)) h d_Srv_handOver_44 rfl (nI_i i) (Nat.lt_of_lt_of_eq (m := 4) (by decide) hN.symm) ?_
          refine j_goto (tgt := 4) h d_Srv_handOver_47 (by decide) ?_
          refine j_lv (lv' := [(0, .ref (K.ad 1 s)), (1, .int m), (2, .int _), (3, .int (nI (i + 1)))]) (lvs rfl (lvs rfl (lvs rfl (lvs rfl lvs0)))) ?_
          exact ih (i + 1) _ _ (by omega) (hv.trans (by clear ih hX h; grind [hndR]))
  refine j_iconst (v := 0) h d_Srv_handOver_0 (by decide) ?_
  refine j_istore_n h d_Srv_handOver_1 (Nat.lt_of_lt_of_eq (m := 4) (by decide) hN.symm) ?_
  refine j_iconst (v := 0) h d_Srv_handOver_2 (by decide) ?_
  refine j_istore_n h d_Srv_handOver_3 (Nat.lt_of_lt_of_eq (m := 4) (by decide) hN.symm) ?_
  refine j_lv (lv' := [(0, .ref (K.ad 1 s)), (1, .int m), (2, .int 0), (3, .int (nI 0))]) (lvs rfl (lvs rfl (lvs rfl (lvs rfl lvs0)))) ?_
  exact hL n 0 0 _ (by omega) rfl
theorem d_Srv_endWhatIsOver_0 : decode b_Srv_endWhatIsOver 0 = .ok (.iconst 0, 1) := by decide +kernel
theorem d_Srv_endWhatIsOver_1 : decode b_Srv_endWhatIsOver 1 = .ok (.istore_n 2, 1) := by decide +kernel
theorem d_Srv_endWhatIsOver_2 : decode b_Srv_endWhatIsOver 2 = .ok (.iconst 0, 1) := by decide +kernel
theorem d_Srv_endWhatIsOver_3 : decode b_Srv_endWhatIsOver 3 = .ok (.istore_n 3, 1) := by decide +kernel
theorem d_Srv_endWhatIsOver_4 : decode b_Srv_endWhatIsOver 4 = .ok (.iload_n 3, 1) := by decide +kernel
theorem d_Srv_endWhatIsOver_5 : decode b_Srv_endWhatIsOver 5 = .ok (.aload_n 0, 1) := by decide +kernel
theorem d_Srv_endWhatIsOver_6 : decode b_Srv_endWhatIsOver 6 = .ok (.getfield 26, 3) := by decide +kernel
theorem d_Srv_endWhatIsOver_9 : decode b_Srv_endWhatIsOver 9 = .ok (.arraylength, 1) := by decide +kernel
theorem d_Srv_endWhatIsOver_10 : decode b_Srv_endWhatIsOver 10 = .ok (.if_icmp .ge 51, 3) := by decide +kernel
theorem d_Srv_endWhatIsOver_13 : decode b_Srv_endWhatIsOver 13 = .ok (.aload_n 0, 1) := by decide +kernel
theorem d_Srv_endWhatIsOver_14 : decode b_Srv_endWhatIsOver 14 = .ok (.getfield 26, 3) := by decide +kernel
theorem d_Srv_endWhatIsOver_17 : decode b_Srv_endWhatIsOver 17 = .ok (.iload_n 3, 1) := by decide +kernel
theorem d_Srv_endWhatIsOver_18 : decode b_Srv_endWhatIsOver 18 = .ok (.aaload, 1) := by decide +kernel
theorem d_Srv_endWhatIsOver_19 : decode b_Srv_endWhatIsOver 19 = .ok (.astore 4, 2) := by decide +kernel
theorem d_Srv_endWhatIsOver_21 : decode b_Srv_endWhatIsOver 21 = .ok (.aload_n 0, 1) := by decide +kernel
theorem d_Srv_endWhatIsOver_22 : decode b_Srv_endWhatIsOver 22 = .ok (.getfield 33, 3) := by decide +kernel
theorem d_Srv_endWhatIsOver_25 : decode b_Srv_endWhatIsOver 25 = .ok (.iconst 2, 1) := by decide +kernel
theorem d_Srv_endWhatIsOver_26 : decode b_Srv_endWhatIsOver 26 = .ok (.if_icmp .ne 16, 3) := by decide +kernel
theorem d_Srv_endWhatIsOver_29 : decode b_Srv_endWhatIsOver 29 = .ok (.aload_n 0, 1) := by decide +kernel
theorem d_Srv_endWhatIsOver_30 : decode b_Srv_endWhatIsOver 30 = .ok (.aload 4, 2) := by decide +kernel
theorem d_Srv_endWhatIsOver_32 : decode b_Srv_endWhatIsOver 32 = .ok (.iload_n 1, 1) := by decide +kernel
theorem d_Srv_endWhatIsOver_33 : decode b_Srv_endWhatIsOver 33 = .ok (.invokevirtual 228, 3) := by decide +kernel
theorem d_Srv_endWhatIsOver_36 : decode b_Srv_endWhatIsOver 36 = .ok (.ifCond .eq 19, 3) := by decide +kernel
theorem d_Srv_endWhatIsOver_39 : decode b_Srv_endWhatIsOver 39 = .ok (.goto 13, 3) := by decide +kernel
theorem d_Srv_endWhatIsOver_42 : decode b_Srv_endWhatIsOver 42 = .ok (.aload_n 0, 1) := by decide +kernel
theorem d_Srv_endWhatIsOver_43 : decode b_Srv_endWhatIsOver 43 = .ok (.aload 4, 2) := by decide +kernel
theorem d_Srv_endWhatIsOver_45 : decode b_Srv_endWhatIsOver 45 = .ok (.iload_n 1, 1) := by decide +kernel
theorem d_Srv_endWhatIsOver_46 : decode b_Srv_endWhatIsOver 46 = .ok (.invokevirtual 232, 3) := by decide +kernel
theorem d_Srv_endWhatIsOver_49 : decode b_Srv_endWhatIsOver 49 = .ok (.ifCond .eq 6, 3) := by decide +kernel
theorem d_Srv_endWhatIsOver_52 : decode b_Srv_endWhatIsOver 52 = .ok (.iinc 2 1, 3) := by decide +kernel
theorem d_Srv_endWhatIsOver_55 : decode b_Srv_endWhatIsOver 55 = .ok (.iinc 3 1, 3) := by decide +kernel
theorem d_Srv_endWhatIsOver_58 : decode b_Srv_endWhatIsOver 58 = .ok (.goto (-54), 3) := by decide +kernel
theorem d_Srv_endWhatIsOver_61 : decode b_Srv_endWhatIsOver 61 = .ok (.iload_n 2, 1) := by decide +kernel
theorem d_Srv_endWhatIsOver_62 : decode b_Srv_endWhatIsOver 62 = .ok (.ifCond .le 7, 3) := by decide +kernel
theorem d_Srv_endWhatIsOver_65 : decode b_Srv_endWhatIsOver 65 = .ok (.aload_n 0, 1) := by decide +kernel
theorem d_Srv_endWhatIsOver_66 : decode b_Srv_endWhatIsOver 66 = .ok (.invokevirtual 65, 3) := by decide +kernel
theorem d_Srv_endWhatIsOver_69 : decode b_Srv_endWhatIsOver 69 = .ok (.iload_n 2, 1) := by decide +kernel
theorem d_Srv_endWhatIsOver_70 : decode b_Srv_endWhatIsOver 70 = .ok (.ireturn, 1) := by decide +kernel
set_option maxRecDepth 100000 in
set_option maxHeartbeats 4000000 in
theorem c_Srv_endWhatIsOver (l : Launch) (K : Kx) (V : Vx) (A B C D : MI) (P : MP) (n : Nat) (cs : CS K V P n) (s : Nat) (hs : s < 2) (t : Int32) : Ct l K md_Srv_endWhatIsOver (4, 86) 0 0 [.ref (K.ad 1 s), .int t] V (bk4 A B C D) P (EQ V (some (.int (endR s (B 62 s) (B 63 s) t n 0 0 A).1)) (bk4 (wrIf (endR s (B 62 s) (B 63 s) t n 0 0 A).1 (endR s (B 62 s) (B 63 s) t n 0 0 A).2 s) B C D) P) := by
  refine ct_of [(0, .ref (K.ad 1 s)), (1, .int t)] (by decide) (Nat.le_of_ble_eq_true rfl) (ca_r (ca_i ca_n)) rfl ?_
  intro X hl hX
  have h : OkX X b_Srv_endWhatIsOver R_Srv K := hX.1
  have hN : X.nL = 5 := hX.2.1
  have hsv := cs_sv cs hs
  have hL : ∀ (k i : Nat) (g : Int32) (A1 : MI), i + k = n → endR s (B 62 s) (B 63 s) t n 0 0 A = endR s (B 62 s) (B 63 s) t k i g A1 → J X K V (bk4 A1 B C D) P 0 0 4 [(0, .ref (K.ad 1 s)), (1, .int t), (2, .int g), (3, .int (nI i))] [] := by
    intro k
    induction k with
    | zero =>
      intro i g A1 hi hv
      have hi2 : i = n := by omega
      subst hi2
      refine j_iload_n h d_Srv_endWhatIsOver_4 rfl ?_
      refine j_aload_n h d_Srv_endWhatIsOver_5 rfl ?_
      refine j_getR h d_Srv_endWhatIsOver_6 fl_Srv_26 rfl (by assumption) (cs_rp cs hs) ?_
      refine j_recl h cs hs d_Srv_endWhatIsOver_9 ?_
      refine j_ic_ge (tgt := 61) h d_Srv_endWhatIsOver_10 (by decide) (fun _ => ?_) (fun c => absurd (nI_le (Nat.le_refl _) (cs_n31 cs)) c)
      refine j_iload_n h d_Srv_endWhatIsOver_61 rfl ?_
      refine j_if_le (tgt := 69) h d_Srv_endWhatIsOver_62 (by decide) (fun c1 => ?_) (fun c1 => ?_)
      · refine j_iload_n h d_Srv_endWhatIsOver_69 rfl ?_
        exact j_iret hX d_Srv_endWhatIsOver_70 rfl (Nat.le_refl _) (Nat.le_refl _) ⟨rfl, by rw [hv]; clear hX h hl; first | rfl | simp_all [endR], by rw [hv]; clear hX h hl; first | (simp_all [endR, wrIf]; done) | grind [endR, wrIf], rfl⟩
      · refine j_aload_n h d_Srv_endWhatIsOver_65 rfl ?_
        refine j_callV h (c_Srv_write _ _ _ _ _ _ _ _ _ hsv) d_Srv_endWhatIsOver_66 ml_Srv_65 mv_Srv_write (by assumption) ⟨rfl, rfl⟩ rfl rfl (Nat.le_of_ble_eq_true rfl) (hR_of hX (by decide) (by decide)) (hf_of hX (by decide) (by decide)) ?_
        rintro _ _ _ _ ⟨rfl, rfl, rfl, rfl⟩
        refine j_iload_n h d_Srv_endWhatIsOver_69 rfl ?_
        exact j_iret hX d_Srv_endWhatIsOver_70 rfl (Nat.le_refl _) (Nat.le_refl _) ⟨rfl, by rw [hv]; clear hX h hl; first | rfl | simp_all [endR], by rw [hv]; clear hX h hl; first | (simp_all [endR, wrIf]; done) | grind [endR, wrIf], rfl⟩
    | succ k ih =>
      intro i g A1 hi hv
      have hi2 : i < n := by omega
      have hr := cs_rv cs hs hi2
      refine j_iload_n h d_Srv_endWhatIsOver_4 rfl ?_
      refine j_aload_n h d_Srv_endWhatIsOver_5 rfl ?_
      refine j_getR h d_Srv_endWhatIsOver_6 fl_Srv_26 rfl (by assumption) (cs_rp cs hs) ?_
      refine j_recl h cs hs d_Srv_endWhatIsOver_9 ?_
      refine j_ic_ge (tgt := 61) h d_Srv_endWhatIsOver_10 (by decide) (fun c => absurd c (nI_ge hi2 (cs_n31 cs))) (fun _ => ?_)
      refine j_aload_n h d_Srv_endWhatIsOver_13 rfl ?_
      refine j_getR h d_Srv_endWhatIsOver_14 fl_Srv_26 rfl (by assumption) (cs_rp cs hs) ?_
      refine j_iload_n h d_Srv_endWhatIsOver_17 rfl ?_
      refine j_recs h cs hs hi2 d_Srv_endWhatIsOver_18 ?_
      refine j_astore h d_Srv_endWhatIsOver_19 (Nat.lt_of_lt_of_eq (m := 5) (by decide) hN.symm) ?_
      refine j_aload_n h d_Srv_endWhatIsOver_21 rfl ?_
      refine j_get0 h d_Srv_endWhatIsOver_22 fl_Srv_33 rfl (by assumption) ?_
      refine j_iconst (v := 2) h d_Srv_endWhatIsOver_25 (by decide) ?_
      refine j_ic_ne (tgt := 42) h d_Srv_endWhatIsOver_26 (by decide) (fun c1 => ?_) (fun c1 => ?_)
      · refine j_aload_n h d_Srv_endWhatIsOver_42 rfl ?_
        refine j_aload h d_Srv_endWhatIsOver_43 rfl ?_
        refine j_iload_n h d_Srv_endWhatIsOver_45 rfl ?_
        refine j_callV h (c_Srv_endAlone _ _ _ _ _ _ _ _ _ hsv _ hr _) d_Srv_endWhatIsOver_46 ml_Srv_232 mv_Srv_endAlone (by assumption) ⟨rfl, rfl⟩ rfl rfl (Nat.le_of_ble_eq_true rfl) (hR_of hX (by decide) (by decide)) (hf_of hX (by decide) (by decide)) ?_
        rintro _ _ _ _ ⟨rfl, rfl, rfl, rfl⟩
        refine j_if_eq (tgt := 55) h d_Srv_endWhatIsOver_49 (by decide) (fun c2 => ?_) (fun c2 => ?_)
        · refine j_iinc (v := nI (i + 1)) h d_Srv_endWhatIsOver_55 rfl (nI_i i) (Nat.lt_of_lt_of_eq (m := 5) (by decide) hN.symm) ?_
          refine j_goto (tgt := 4) h d_Srv_endWhatIsOver_58 (by decide) ?_
          refine j_lv (lv' := [(0, .ref (K.ad 1 s)), (1, .int t), (2, .int _), (3, .int (nI (i + 1)))]) (lvs rfl (lvs rfl (lvs rfl (lvs rfl lvs0)))) ?_
          exact ih (i + 1) _ _ (by omega) (hv.trans (by simp only [endR, enOne]; simp_all))
        · refine j_iinc (v := g + 1) h d_Srv_endWhatIsOver_52 rfl rfl (Nat.lt_of_lt_of_eq (m := 5) (by decide) hN.symm) ?_
          refine j_iinc (v := nI (i + 1)) h d_Srv_endWhatIsOver_55 rfl (nI_i i) (Nat.lt_of_lt_of_eq (m := 5) (by decide) hN.symm) ?_
          refine j_goto (tgt := 4) h d_Srv_endWhatIsOver_58 (by decide) ?_
          refine j_lv (lv' := [(0, .ref (K.ad 1 s)), (1, .int t), (2, .int _), (3, .int (nI (i + 1)))]) (lvs rfl (lvs rfl (lvs rfl (lvs rfl lvs0)))) ?_
          exact ih (i + 1) _ _ (by omega) (hv.trans (by simp only [endR, enOne]; simp_all))
      · refine j_aload_n h d_Srv_endWhatIsOver_29 rfl ?_
        refine j_aload h d_Srv_endWhatIsOver_30 rfl ?_
        refine j_iload_n h d_Srv_endWhatIsOver_32 rfl ?_
        refine j_callV h (c_Srv_endTogether _ _ _ _ _ _ _ _ _ hsv _ hr _) d_Srv_endWhatIsOver_33 ml_Srv_228 mv_Srv_endTogether (by assumption) ⟨rfl, rfl⟩ rfl rfl (Nat.le_of_ble_eq_true rfl) (hR_of hX (by decide) (by decide)) (hf_of hX (by decide) (by decide)) ?_
        rintro _ _ _ _ ⟨rfl, rfl, rfl, rfl⟩
        refine j_if_eq (tgt := 55) h d_Srv_endWhatIsOver_36 (by decide) (fun c3 => ?_) (fun c3 => ?_)
        · refine j_iinc (v := nI (i + 1)) h d_Srv_endWhatIsOver_55 rfl (nI_i i) (Nat.lt_of_lt_of_eq (m := 5) (by decide) hN.symm) ?_
          refine j_goto (tgt := 4) h d_Srv_endWhatIsOver_58 (by decide) ?_
          refine j_lv (lv' := [(0, .ref (K.ad 1 s)), (1, .int t), (2, .int _), (3, .int (nI (i + 1)))]) (lvs rfl (lvs rfl (lvs rfl (lvs rfl lvs0)))) ?_
          exact ih (i + 1) _ _ (by omega) (hv.trans (by simp only [endR, enOne]; simp_all))
        · refine j_goto (tgt := 52) h d_Srv_endWhatIsOver_39 (by decide) ?_
          refine j_iinc (v := g + 1) h d_Srv_endWhatIsOver_52 rfl rfl (Nat.lt_of_lt_of_eq (m := 5) (by decide) hN.symm) ?_
          refine j_iinc (v := nI (i + 1)) h d_Srv_endWhatIsOver_55 rfl (nI_i i) (Nat.lt_of_lt_of_eq (m := 5) (by decide) hN.symm) ?_
          refine j_goto (tgt := 4) h d_Srv_endWhatIsOver_58 (by decide) ?_
          refine j_lv (lv' := [(0, .ref (K.ad 1 s)), (1, .int t), (2, .int _), (3, .int (nI (i + 1)))]) (lvs rfl (lvs rfl (lvs rfl (lvs rfl lvs0)))) ?_
          exact ih (i + 1) _ _ (by omega) (hv.trans (by simp only [endR, enOne]; simp_all))
  refine j_iconst (v := 0) h d_Srv_endWhatIsOver_0 (by decide) ?_
  refine j_istore_n h d_Srv_endWhatIsOver_1 (Nat.lt_of_lt_of_eq (m := 5) (by decide) hN.symm) ?_
  refine j_iconst (v := 0) h d_Srv_endWhatIsOver_2 (by decide) ?_
  refine j_istore_n h d_Srv_endWhatIsOver_3 (Nat.lt_of_lt_of_eq (m := 5) (by decide) hN.symm) ?_
  refine j_lv (lv' := [(0, .ref (K.ad 1 s)), (1, .int t), (2, .int 0), (3, .int (nI 0))]) (lvs rfl (lvs rfl (lvs rfl (lvs rfl lvs0)))) ?_
  exact hL n 0 0 _ (by omega) rfl
theorem d_Srv_takeIn_0 : decode b_Srv_takeIn 0 = .ok (.aload_n 0, 1) := by decide +kernel
theorem d_Srv_takeIn_1 : decode b_Srv_takeIn 1 = .ok (.aload_n 1, 1) := by decide +kernel
theorem d_Srv_takeIn_2 : decode b_Srv_takeIn 2 = .ok (.aload_n 2, 1) := by decide +kernel
theorem d_Srv_takeIn_3 : decode b_Srv_takeIn 3 = .ok (.invokevirtual 180, 3) := by decide +kernel
theorem d_Srv_takeIn_6 : decode b_Srv_takeIn 6 = .ok (.aload_n 1, 1) := by decide +kernel
theorem d_Srv_takeIn_7 : decode b_Srv_takeIn 7 = .ok (.getfield 74, 3) := by decide +kernel
theorem d_Srv_takeIn_10 : decode b_Srv_takeIn 10 = .ok (.tableswitch 74 1 4 #[61, 30, 36, 56], 30) := by decide +kernel
theorem d_Srv_takeIn_40 : decode b_Srv_takeIn 40 = .ok (.aload_n 2, 1) := by decide +kernel
theorem d_Srv_takeIn_41 : decode b_Srv_takeIn 41 = .ok (.aload_n 1, 1) := by decide +kernel
theorem d_Srv_takeIn_42 : decode b_Srv_takeIn 42 = .ok (.invokevirtual 184, 3) := by decide +kernel
theorem d_Srv_takeIn_45 : decode b_Srv_takeIn 45 = .ok (.ireturn, 1) := by decide +kernel
theorem d_Srv_takeIn_46 : decode b_Srv_takeIn 46 = .ok (.aload_n 2, 1) := by decide +kernel
theorem d_Srv_takeIn_47 : decode b_Srv_takeIn 47 = .ok (.aload_n 1, 1) := by decide +kernel
theorem d_Srv_takeIn_48 : decode b_Srv_takeIn 48 = .ok (.iload_n 3, 1) := by decide +kernel
theorem d_Srv_takeIn_49 : decode b_Srv_takeIn 49 = .ok (.aload_n 0, 1) := by decide +kernel
theorem d_Srv_takeIn_50 : decode b_Srv_takeIn 50 = .ok (.getfield 9, 3) := by decide +kernel
theorem d_Srv_takeIn_53 : decode b_Srv_takeIn 53 = .ok (.iconst 1, 1) := by decide +kernel
theorem d_Srv_takeIn_54 : decode b_Srv_takeIn 54 = .ok (.if_icmp .ne 7, 3) := by decide +kernel
theorem d_Srv_takeIn_57 : decode b_Srv_takeIn 57 = .ok (.iconst 1, 1) := by decide +kernel
theorem d_Srv_takeIn_58 : decode b_Srv_takeIn 58 = .ok (.goto 4, 3) := by decide +kernel
theorem d_Srv_takeIn_61 : decode b_Srv_takeIn 61 = .ok (.iconst 0, 1) := by decide +kernel
theorem d_Srv_takeIn_62 : decode b_Srv_takeIn 62 = .ok (.invokevirtual 188, 3) := by decide +kernel
theorem d_Srv_takeIn_65 : decode b_Srv_takeIn 65 = .ok (.ireturn, 1) := by decide +kernel
theorem d_Srv_takeIn_66 : decode b_Srv_takeIn 66 = .ok (.aload_n 2, 1) := by decide +kernel
theorem d_Srv_takeIn_67 : decode b_Srv_takeIn 67 = .ok (.invokevirtual 192, 3) := by decide +kernel
theorem d_Srv_takeIn_70 : decode b_Srv_takeIn 70 = .ok (.ireturn, 1) := by decide +kernel
theorem d_Srv_takeIn_71 : decode b_Srv_takeIn 71 = .ok (.aload_n 2, 1) := by decide +kernel
theorem d_Srv_takeIn_72 : decode b_Srv_takeIn 72 = .ok (.getfield 71, 3) := by decide +kernel
theorem d_Srv_takeIn_75 : decode b_Srv_takeIn 75 = .ok (.ifCond .ne 7, 3) := by decide +kernel
theorem d_Srv_takeIn_78 : decode b_Srv_takeIn 78 = .ok (.iconst 1, 1) := by decide +kernel
theorem d_Srv_takeIn_79 : decode b_Srv_takeIn 79 = .ok (.goto 4, 3) := by decide +kernel
theorem d_Srv_takeIn_82 : decode b_Srv_takeIn 82 = .ok (.iconst 0, 1) := by decide +kernel
theorem d_Srv_takeIn_83 : decode b_Srv_takeIn 83 = .ok (.ireturn, 1) := by decide +kernel
theorem d_Srv_takeIn_84 : decode b_Srv_takeIn 84 = .ok (.iconst 1, 1) := by decide +kernel
theorem d_Srv_takeIn_85 : decode b_Srv_takeIn 85 = .ok (.ireturn, 1) := by decide +kernel
set_option maxRecDepth 100000 in
set_option maxHeartbeats 4000000 in
theorem c_Srv_takeIn (l : Launch) (K : Kx) (V : Vx) (A B C D : MI) (P : MP) (s : Nat) (hs : V.1 1 s) (q : Nat) (hq : V.1 5 q) (r : Nat) (hr : V.1 2 r) (t : Int32) : Ct l K md_Srv_takeIn (3, 62) 0 0 [.ref (K.ad 1 s), .ref (K.ad 5 q), .ref (K.ad 2 r), .int t] V (bk4 A B C D) P (EQ V (some (.int (tkIn A r s (B 60 s) t (B 83 q) (B 89 q) (B 86 q) (B 90 q) (B 91 q) (B 93 q) (B 92 q)).1)) (bk4 (tkIn A r s (B 60 s) t (B 83 q) (B 89 q) (B 86 q) (B 90 q) (B 91 q) (B 93 q) (B 92 q)).2 B C D) P) := by
  refine ct_of [(0, .ref (K.ad 1 s)), (1, .ref (K.ad 5 q)), (2, .ref (K.ad 2 r)), (3, .int t)] (by decide) (Nat.le_of_ble_eq_true rfl) (ca_r (ca_r (ca_r (ca_i ca_n)))) rfl ?_
  intro X hl hX
  have h : OkX X b_Srv_takeIn R_Srv K := hX.1
  have hN : X.nL = 4 := hX.2.1
  refine j_aload_n h d_Srv_takeIn_0 rfl ?_
  refine j_aload_n h d_Srv_takeIn_1 rfl ?_
  refine j_aload_n h d_Srv_takeIn_2 rfl ?_
  refine j_callV h (c_Srv_giveWay _ _ _ _ _ _ _ _ _ hs _ hq _ hr) d_Srv_takeIn_3 ml_Srv_180 mv_Srv_giveWay (by assumption) ⟨rfl, rfl⟩ rfl rfl (Nat.le_of_ble_eq_true rfl) (hR_of hX (by decide) (by decide)) (hf_of hX (by decide) (by decide)) ?_
  rintro _ _ _ _ ⟨rfl, rfl, rfl, rfl⟩
  refine j_aload_n h d_Srv_takeIn_6 rfl ?_
  refine j_get1 h d_Srv_takeIn_7 fl_Srv_74 rfl (by assumption) ?_
  have hkk : ∀ x : Int32, x = B 83 q → x = 1 ∨ x = 2 ∨ x = 3 ∨ x = 4 ∨ (x.toInt < 1 ∨ 4 < x.toInt) := by
    intro x _
    by_cases h1 : x = 1; · exact Or.inl h1
    by_cases h2 : x = 2; · exact Or.inr (Or.inl h2)
    by_cases h3 : x = 3; · exact Or.inr (Or.inr (Or.inl h3))
    by_cases h4 : x = 4; · exact Or.inr (Or.inr (Or.inr (Or.inl h4)))
    have g1 := lv_neT (a := 1) h1 rfl
    have g2 := lv_neT (a := 2) h2 rfl
    have g3 := lv_neT (a := 3) h3 rfl
    have g4 := lv_neT (a := 4) h4 rfl
    exact Or.inr (Or.inr (Or.inr (Or.inr (by omega))))
  rcases hkk _ rfl with hk | hk | hk | hk | hk
  · rw [show (Value.int (B 83 q)) = Value.int 1 by rw [hk]]
    refine j_tabIn (off := 61) (tgt := 71) h d_Srv_takeIn_10 (by decide +kernel) (by decide +kernel) (by decide +kernel) (by decide) ?_
    refine j_aload_n h d_Srv_takeIn_71 rfl ?_
    refine j_get0 h d_Srv_takeIn_72 fl_Srv_71 rfl (by assumption) ?_
    refine j_if_ne (tgt := 82) h d_Srv_takeIn_75 (by decide) (fun c1 => ?_) (fun c1 => ?_)
    · refine j_iconst (v := 0) h d_Srv_takeIn_82 (by decide) ?_
      exact j_zret hX d_Srv_takeIn_83 rfl (by first | exact Or.inl rfl | exact Or.inr rfl | exact b01_z _ | assumption | exact tkB_z _ _ _ _ _ | exact tkE_z _ _ _ _ _ _ _ _ | exact tkG_z _ _ | exact enS_z _ _ _ | exact enO_z _ _ _ _ _ _) (Nat.le_refl _) (Nat.le_refl _) ⟨rfl, by clear hX h hl; first | rfl | (simp_all [tkIn, b01]; done) | grind [tkIn, b01], by clear hX h hl; first | rfl | (simp_all [tkIn, b01, up_rd]; done) | grind [tkIn, b01, up_rd, chgTo_rd, chg_rd, settle_rd, bnd_rd], rfl⟩
    · refine j_iconst (v := 1) h d_Srv_takeIn_78 (by decide) ?_
      refine j_goto (tgt := 83) h d_Srv_takeIn_79 (by decide) ?_
      exact j_zret hX d_Srv_takeIn_83 rfl (by first | exact Or.inl rfl | exact Or.inr rfl | exact b01_z _ | assumption | exact tkB_z _ _ _ _ _ | exact tkE_z _ _ _ _ _ _ _ _ | exact tkG_z _ _ | exact enS_z _ _ _ | exact enO_z _ _ _ _ _ _) (Nat.le_refl _) (Nat.le_refl _) ⟨rfl, by clear hX h hl; first | rfl | (simp_all [tkIn, b01]; done) | grind [tkIn, b01], by clear hX h hl; first | rfl | (simp_all [tkIn, b01, up_rd]; done) | grind [tkIn, b01, up_rd, chgTo_rd, chg_rd, settle_rd, bnd_rd], rfl⟩
  · rw [show (Value.int (B 83 q)) = Value.int 2 by rw [hk]]
    refine j_tabIn (off := 30) (tgt := 40) h d_Srv_takeIn_10 (by decide +kernel) (by decide +kernel) (by decide +kernel) (by decide) ?_
    refine j_aload_n h d_Srv_takeIn_40 rfl ?_
    refine j_aload_n h d_Srv_takeIn_41 rfl ?_
    refine j_callV h (c_Rec_takeBound _ _ _ _ _ _ _ _ _ hr _ hq) d_Srv_takeIn_42 ml_Srv_184 mv_Rec_takeBound (by assumption) ⟨rfl, rfl⟩ rfl rfl (Nat.le_of_ble_eq_true rfl) (hR_of hX (by decide) (by decide)) (hf_of hX (by decide) (by decide)) ?_
    rintro _ _ _ _ ⟨rfl, rfl, rfl, rfl⟩
    exact j_zret hX d_Srv_takeIn_45 rfl (by first | exact Or.inl rfl | exact Or.inr rfl | exact b01_z _ | assumption | exact tkB_z _ _ _ _ _ | exact tkE_z _ _ _ _ _ _ _ _ | exact tkG_z _ _ | exact enS_z _ _ _ | exact enO_z _ _ _ _ _ _) (Nat.le_refl _) (Nat.le_refl _) ⟨rfl, by clear hX h hl; first | rfl | (simp_all [tkIn, b01]; done) | grind [tkIn, b01], by clear hX h hl; first | rfl | (simp_all [tkIn, b01, up_rd]; done) | grind [tkIn, b01, up_rd, chgTo_rd, chg_rd, settle_rd, bnd_rd], rfl⟩
  · rw [show (Value.int (B 83 q)) = Value.int 3 by rw [hk]]
    refine j_tabIn (off := 36) (tgt := 46) h d_Srv_takeIn_10 (by decide +kernel) (by decide +kernel) (by decide +kernel) (by decide) ?_
    refine j_aload_n h d_Srv_takeIn_46 rfl ?_
    refine j_aload_n h d_Srv_takeIn_47 rfl ?_
    refine j_iload_n h d_Srv_takeIn_48 rfl ?_
    refine j_aload_n h d_Srv_takeIn_49 rfl ?_
    refine j_get1 h d_Srv_takeIn_50 fl_Srv_9 rfl (by assumption) ?_
    refine j_iconst (v := 1) h d_Srv_takeIn_53 (by decide) ?_
    refine j_ic_ne (tgt := 61) h d_Srv_takeIn_54 (by decide) (fun c1 => ?_) (fun c1 => ?_)
    · refine j_iconst (v := 0) h d_Srv_takeIn_61 (by decide) ?_
      refine j_callV h (c_Rec_takeEnding _ _ _ _ _ _ _ _ _ hr _ hq _ _) d_Srv_takeIn_62 ml_Srv_188 mv_Rec_takeEnding (by assumption) ⟨rfl, rfl⟩ rfl rfl (Nat.le_of_ble_eq_true rfl) (hR_of hX (by decide) (by decide)) (hf_of hX (by decide) (by decide)) ?_
      rintro _ _ _ _ ⟨rfl, rfl, rfl, rfl⟩
      exact j_zret hX d_Srv_takeIn_65 rfl (by first | exact Or.inl rfl | exact Or.inr rfl | exact b01_z _ | assumption | exact tkB_z _ _ _ _ _ | exact tkE_z _ _ _ _ _ _ _ _ | exact tkG_z _ _ | exact enS_z _ _ _ | exact enO_z _ _ _ _ _ _) (Nat.le_refl _) (Nat.le_refl _) ⟨rfl, by clear hX h hl; first | rfl | (simp_all [tkIn, b01]; done) | grind [tkIn, b01], by clear hX h hl; first | rfl | (simp_all [tkIn, b01, up_rd]; done) | grind [tkIn, b01, up_rd, chgTo_rd, chg_rd, settle_rd, bnd_rd], rfl⟩
    · refine j_iconst (v := 1) h d_Srv_takeIn_57 (by decide) ?_
      refine j_goto (tgt := 62) h d_Srv_takeIn_58 (by decide) ?_
      refine j_callV h (c_Rec_takeEnding _ _ _ _ _ _ _ _ _ hr _ hq _ _) d_Srv_takeIn_62 ml_Srv_188 mv_Rec_takeEnding (by assumption) ⟨rfl, rfl⟩ rfl rfl (Nat.le_of_ble_eq_true rfl) (hR_of hX (by decide) (by decide)) (hf_of hX (by decide) (by decide)) ?_
      rintro _ _ _ _ ⟨rfl, rfl, rfl, rfl⟩
      exact j_zret hX d_Srv_takeIn_65 rfl (by first | exact Or.inl rfl | exact Or.inr rfl | exact b01_z _ | assumption | exact tkB_z _ _ _ _ _ | exact tkE_z _ _ _ _ _ _ _ _ | exact tkG_z _ _ | exact enS_z _ _ _ | exact enO_z _ _ _ _ _ _) (Nat.le_refl _) (Nat.le_refl _) ⟨rfl, by clear hX h hl; first | rfl | (simp_all [tkIn, b01]; done) | grind [tkIn, b01], by clear hX h hl; first | rfl | (simp_all [tkIn, b01, up_rd]; done) | grind [tkIn, b01, up_rd, chgTo_rd, chg_rd, settle_rd, bnd_rd], rfl⟩
  · rw [show (Value.int (B 83 q)) = Value.int 4 by rw [hk]]
    refine j_tabIn (off := 56) (tgt := 66) h d_Srv_takeIn_10 (by decide +kernel) (by decide +kernel) (by decide +kernel) (by decide) ?_
    refine j_aload_n h d_Srv_takeIn_66 rfl ?_
    refine j_callV h (c_Rec_takeGiven _ _ _ _ _ _ _ _ _ hr) d_Srv_takeIn_67 ml_Srv_192 mv_Rec_takeGiven (by assumption) ⟨rfl, rfl⟩ rfl rfl (Nat.le_of_ble_eq_true rfl) (hR_of hX (by decide) (by decide)) (hf_of hX (by decide) (by decide)) ?_
    rintro _ _ _ _ ⟨rfl, rfl, rfl, rfl⟩
    exact j_zret hX d_Srv_takeIn_70 rfl (by first | exact Or.inl rfl | exact Or.inr rfl | exact b01_z _ | assumption | exact tkB_z _ _ _ _ _ | exact tkE_z _ _ _ _ _ _ _ _ | exact tkG_z _ _ | exact enS_z _ _ _ | exact enO_z _ _ _ _ _ _) (Nat.le_refl _) (Nat.le_refl _) ⟨rfl, by clear hX h hl; first | rfl | (simp_all [tkIn, b01]; done) | grind [tkIn, b01], by clear hX h hl; first | rfl | (simp_all [tkIn, b01, up_rd]; done) | grind [tkIn, b01, up_rd, chgTo_rd, chg_rd, settle_rd, bnd_rd], rfl⟩
  · have k1 : ¬ B 83 q = 1 := fun z => by rw [z] at hk; revert hk; decide
    have k2 : ¬ B 83 q = 2 := fun z => by rw [z] at hk; revert hk; decide
    have k3 : ¬ B 83 q = 3 := fun z => by rw [z] at hk; revert hk; decide
    have k4 : ¬ B 83 q = 4 := fun z => by rw [z] at hk; revert hk; decide
    refine j_tabOut (tgt := 84) h d_Srv_takeIn_10 hk (by decide) ?_
    refine j_iconst (v := 1) h d_Srv_takeIn_84 (by decide) ?_
    exact j_zret hX d_Srv_takeIn_85 rfl (by first | exact Or.inl rfl | exact Or.inr rfl | exact b01_z _ | assumption | exact tkB_z _ _ _ _ _ | exact tkE_z _ _ _ _ _ _ _ _ | exact tkG_z _ _ | exact enS_z _ _ _ | exact enO_z _ _ _ _ _ _) (Nat.le_refl _) (Nat.le_refl _) ⟨rfl, by clear hX h hl; first | rfl | (simp_all [tkIn, b01]; done) | grind [tkIn, b01], by clear hX h hl; first | rfl | (simp_all [tkIn, b01, up_rd]; done) | grind [tkIn, b01, up_rd, chgTo_rd, chg_rd, settle_rd, bnd_rd], rfl⟩
theorem d_Srv_hearAck_0 : decode b_Srv_hearAck 0 = .ok (.aload_n 0, 1) := by decide +kernel
theorem d_Srv_hearAck_1 : decode b_Srv_hearAck 1 = .ok (.getfield 26, 3) := by decide +kernel
theorem d_Srv_hearAck_4 : decode b_Srv_hearAck 4 = .ok (.aload_n 1, 1) := by decide +kernel
theorem d_Srv_hearAck_5 : decode b_Srv_hearAck 5 = .ok (.getfield 81, 3) := by decide +kernel
theorem d_Srv_hearAck_8 : decode b_Srv_hearAck 8 = .ok (.aaload, 1) := by decide +kernel
theorem d_Srv_hearAck_9 : decode b_Srv_hearAck 9 = .ok (.astore_n 2, 1) := by decide +kernel
theorem d_Srv_hearAck_10 : decode b_Srv_hearAck 10 = .ok (.aload_n 1, 1) := by decide +kernel
theorem d_Srv_hearAck_11 : decode b_Srv_hearAck 11 = .ok (.getfield 161, 3) := by decide +kernel
theorem d_Srv_hearAck_14 : decode b_Srv_hearAck 14 = .ok (.aload_n 2, 1) := by decide +kernel
theorem d_Srv_hearAck_15 : decode b_Srv_hearAck 15 = .ok (.getfield 162, 3) := by decide +kernel
theorem d_Srv_hearAck_18 : decode b_Srv_hearAck 18 = .ok (.if_icmp .gt 4, 3) := by decide +kernel
theorem d_Srv_hearAck_21 : decode b_Srv_hearAck 21 = .ok (.return_, 1) := by decide +kernel
theorem d_Srv_hearAck_22 : decode b_Srv_hearAck 22 = .ok (.aload_n 2, 1) := by decide +kernel
theorem d_Srv_hearAck_23 : decode b_Srv_hearAck 23 = .ok (.aload_n 1, 1) := by decide +kernel
theorem d_Srv_hearAck_24 : decode b_Srv_hearAck 24 = .ok (.invokevirtual 206, 3) := by decide +kernel
theorem d_Srv_hearAck_27 : decode b_Srv_hearAck 27 = .ok (.istore_n 3, 1) := by decide +kernel
theorem d_Srv_hearAck_28 : decode b_Srv_hearAck 28 = .ok (.aload_n 2, 1) := by decide +kernel
theorem d_Srv_hearAck_29 : decode b_Srv_hearAck 29 = .ok (.aload_n 1, 1) := by decide +kernel
theorem d_Srv_hearAck_30 : decode b_Srv_hearAck 30 = .ok (.invokevirtual 209, 3) := by decide +kernel
theorem d_Srv_hearAck_33 : decode b_Srv_hearAck 33 = .ok (.istore 4, 2) := by decide +kernel
theorem d_Srv_hearAck_35 : decode b_Srv_hearAck 35 = .ok (.iload_n 3, 1) := by decide +kernel
theorem d_Srv_hearAck_36 : decode b_Srv_hearAck 36 = .ok (.ifCond .ne 8, 3) := by decide +kernel
theorem d_Srv_hearAck_39 : decode b_Srv_hearAck 39 = .ok (.iload 4, 2) := by decide +kernel
theorem d_Srv_hearAck_41 : decode b_Srv_hearAck 41 = .ok (.ifCond .eq 7, 3) := by decide +kernel
theorem d_Srv_hearAck_44 : decode b_Srv_hearAck 44 = .ok (.aload_n 0, 1) := by decide +kernel
theorem d_Srv_hearAck_45 : decode b_Srv_hearAck 45 = .ok (.invokevirtual 65, 3) := by decide +kernel
theorem d_Srv_hearAck_48 : decode b_Srv_hearAck 48 = .ok (.return_, 1) := by decide +kernel
set_option maxRecDepth 100000 in
set_option maxHeartbeats 4000000 in
theorem c_Srv_hearAck (l : Launch) (K : Kx) (V : Vx) (A B C D : MI) (P : MP) (n : Nat) (cs : CS K V P n) (s : Nat) (hs : s < 2) (q : Nat) (hq : V.1 5 q) (a : Nat) (ha : a < n) (hqa : B 84 q = nI a) : Ct l K md_Srv_hearAck (2, 41) 0 0 [.ref (K.ad 1 s), .ref (K.ad 5 q)] V (bk4 A B C D) P (EQ V (none) (bk4 (hrAck A (32 * s + a) s (B 85 q) (B 86 q) (B 87 q) (B 94 q)) B C D) P) := by
  refine ct_of [(0, .ref (K.ad 1 s)), (1, .ref (K.ad 5 q))] (by decide) (Nat.le_of_ble_eq_true rfl) (ca_r (ca_r ca_n)) rfl ?_
  intro X hl hX
  have h : OkX X b_Srv_hearAck R_Srv K := hX.1
  have hN : X.nL = 5 := hX.2.1
  have hsv := cs_sv cs hs
  have hr := cs_rv cs hs ha
  refine j_aload_n h d_Srv_hearAck_0 rfl ?_
  refine j_getR h d_Srv_hearAck_1 fl_Srv_26 rfl (by assumption) (cs_rp cs hs) ?_
  refine j_aload_n h d_Srv_hearAck_4 rfl ?_
  refine j_get1e (v := nI a) h d_Srv_hearAck_5 fl_Srv_81 rfl (by assumption) hqa ?_
  refine j_recs h cs hs ha d_Srv_hearAck_8 ?_
  refine j_astore_n h d_Srv_hearAck_9 (Nat.lt_of_lt_of_eq (m := 5) (by decide) hN.symm) ?_
  refine j_aload_n h d_Srv_hearAck_10 rfl ?_
  refine j_get1 h d_Srv_hearAck_11 fl_Srv_161 rfl (by assumption) ?_
  refine j_aload_n h d_Srv_hearAck_14 rfl ?_
  refine j_get0 h d_Srv_hearAck_15 fl_Srv_162 rfl (by assumption) ?_
  refine j_ic_gt (tgt := 22) h d_Srv_hearAck_18 (by decide) (fun c1 => ?_) (fun c1 => ?_)
  · refine j_aload_n h d_Srv_hearAck_22 rfl ?_
    refine j_aload_n h d_Srv_hearAck_23 rfl ?_
    refine j_callV h (c_Rec_learnKnown _ _ _ _ _ _ _ _ _ hr _ hq) d_Srv_hearAck_24 ml_Srv_206 mv_Rec_learnKnown (by assumption) ⟨rfl, rfl⟩ rfl rfl (Nat.le_of_ble_eq_true rfl) (hR_of hX (by decide) (by decide)) (hf_of hX (by decide) (by decide)) ?_
    rintro _ _ _ _ ⟨rfl, rfl, rfl, rfl⟩
    refine j_istore_n h d_Srv_hearAck_27 (Nat.lt_of_lt_of_eq (m := 5) (by decide) hN.symm) ?_
    refine j_aload_n h d_Srv_hearAck_28 rfl ?_
    refine j_aload_n h d_Srv_hearAck_29 rfl ?_
    refine j_callV h (c_Rec_learnAcknowledged _ _ _ _ _ _ _ _ _ hr _ hq) d_Srv_hearAck_30 ml_Srv_209 mv_Rec_learnAcknowledged (by assumption) ⟨rfl, rfl⟩ rfl rfl (Nat.le_of_ble_eq_true rfl) (hR_of hX (by decide) (by decide)) (hf_of hX (by decide) (by decide)) ?_
    rintro _ _ _ _ ⟨rfl, rfl, rfl, rfl⟩
    refine j_istore h d_Srv_hearAck_33 (Nat.lt_of_lt_of_eq (m := 5) (by decide) hN.symm) ?_
    refine j_iload_n h d_Srv_hearAck_35 rfl ?_
    refine j_if_ne (tgt := 44) h d_Srv_hearAck_36 (by decide) (fun c2 => ?_) (fun c2 => ?_)
    · refine j_aload_n h d_Srv_hearAck_44 rfl ?_
      refine j_callV h (c_Srv_write _ _ _ _ _ _ _ _ _ hsv) d_Srv_hearAck_45 ml_Srv_65 mv_Srv_write (by assumption) ⟨rfl, rfl⟩ rfl rfl (Nat.le_of_ble_eq_true rfl) (hR_of hX (by decide) (by decide)) (hf_of hX (by decide) (by decide)) ?_
      rintro _ _ _ _ ⟨rfl, rfl, rfl, rfl⟩
      exact j_vret hX d_Srv_hearAck_48 rfl (Nat.le_refl _) (Nat.le_refl _) ⟨rfl, by clear hX h hl; first | rfl | (simp_all [hrAck]; done) | grind [hrAck], by clear hX h hl; first | rfl | (simp_all [hrAck, up_rd]; done) | grind [hrAck, up_rd, chgTo_rd, chg_rd, settle_rd, bnd_rd], rfl⟩
    · refine j_iload h d_Srv_hearAck_39 rfl ?_
      refine j_if_eq (tgt := 48) h d_Srv_hearAck_41 (by decide) (fun c3 => ?_) (fun c3 => ?_)
      · exact j_vret hX d_Srv_hearAck_48 rfl (Nat.le_refl _) (Nat.le_refl _) ⟨rfl, by clear hX h hl; first | rfl | (simp_all [hrAck]; done) | grind [hrAck], by clear hX h hl; first | rfl | (simp_all [hrAck, up_rd]; done) | grind [hrAck, up_rd, chgTo_rd, chg_rd, settle_rd, bnd_rd], rfl⟩
      · refine j_aload_n h d_Srv_hearAck_44 rfl ?_
        refine j_callV h (c_Srv_write _ _ _ _ _ _ _ _ _ hsv) d_Srv_hearAck_45 ml_Srv_65 mv_Srv_write (by assumption) ⟨rfl, rfl⟩ rfl rfl (Nat.le_of_ble_eq_true rfl) (hR_of hX (by decide) (by decide)) (hf_of hX (by decide) (by decide)) ?_
        rintro _ _ _ _ ⟨rfl, rfl, rfl, rfl⟩
        exact j_vret hX d_Srv_hearAck_48 rfl (Nat.le_refl _) (Nat.le_refl _) ⟨rfl, by clear hX h hl; first | rfl | (simp_all [hrAck]; done) | grind [hrAck], by clear hX h hl; first | rfl | (simp_all [hrAck, up_rd]; done) | grind [hrAck, up_rd, chgTo_rd, chg_rd, settle_rd, bnd_rd], rfl⟩
  · exact j_vret hX d_Srv_hearAck_21 rfl (Nat.le_refl _) (Nat.le_refl _) ⟨rfl, by clear hX h hl; first | rfl | (simp_all [hrAck]; done) | grind [hrAck], by clear hX h hl; first | rfl | (simp_all [hrAck, up_rd]; done) | grind [hrAck, up_rd, chgTo_rd, chg_rd, settle_rd, bnd_rd], rfl⟩
theorem d_Srv_release_0 : decode b_Srv_release 0 = .ok (.aload_n 0, 1) := by decide +kernel
theorem d_Srv_release_1 : decode b_Srv_release 1 = .ok (.getfield 26, 3) := by decide +kernel
theorem d_Srv_release_4 : decode b_Srv_release 4 = .ok (.aload_n 1, 1) := by decide +kernel
theorem d_Srv_release_5 : decode b_Srv_release 5 = .ok (.getfield 81, 3) := by decide +kernel
theorem d_Srv_release_8 : decode b_Srv_release 8 = .ok (.aaload, 1) := by decide +kernel
theorem d_Srv_release_9 : decode b_Srv_release 9 = .ok (.astore_n 2, 1) := by decide +kernel
theorem d_Srv_release_10 : decode b_Srv_release 10 = .ok (.aload_n 2, 1) := by decide +kernel
theorem d_Srv_release_11 : decode b_Srv_release 11 = .ok (.aload_n 1, 1) := by decide +kernel
theorem d_Srv_release_12 : decode b_Srv_release 12 = .ok (.getfield 84, 3) := by decide +kernel
theorem d_Srv_release_15 : decode b_Srv_release 15 = .ok (.invokevirtual 103, 3) := by decide +kernel
theorem d_Srv_release_18 : decode b_Srv_release 18 = .ok (.ifCond .eq 14, 3) := by decide +kernel
theorem d_Srv_release_21 : decode b_Srv_release 21 = .ok (.aload_n 2, 1) := by decide +kernel
theorem d_Srv_release_22 : decode b_Srv_release 22 = .ok (.getfield 133, 3) := by decide +kernel
theorem d_Srv_release_25 : decode b_Srv_release 25 = .ok (.aload_n 1, 1) := by decide +kernel
theorem d_Srv_release_26 : decode b_Srv_release 26 = .ok (.getfield 125, 3) := by decide +kernel
theorem d_Srv_release_29 : decode b_Srv_release 29 = .ok (.if_icmp .le 4, 3) := by decide +kernel
theorem d_Srv_release_32 : decode b_Srv_release 32 = .ok (.return_, 1) := by decide +kernel
theorem d_Srv_release_33 : decode b_Srv_release 33 = .ok (.aload_n 2, 1) := by decide +kernel
theorem d_Srv_release_34 : decode b_Srv_release 34 = .ok (.aload_n 1, 1) := by decide +kernel
theorem d_Srv_release_35 : decode b_Srv_release 35 = .ok (.getfield 125, 3) := by decide +kernel
theorem d_Srv_release_38 : decode b_Srv_release 38 = .ok (.putfield 133, 3) := by decide +kernel
theorem d_Srv_release_41 : decode b_Srv_release 41 = .ok (.aload_n 2, 1) := by decide +kernel
theorem d_Srv_release_42 : decode b_Srv_release 42 = .ok (.iconst 1, 1) := by decide +kernel
theorem d_Srv_release_43 : decode b_Srv_release 43 = .ok (.putfield 148, 3) := by decide +kernel
theorem d_Srv_release_46 : decode b_Srv_release 46 = .ok (.aload_n 2, 1) := by decide +kernel
theorem d_Srv_release_47 : decode b_Srv_release 47 = .ok (.aload_n 0, 1) := by decide +kernel
theorem d_Srv_release_48 : decode b_Srv_release 48 = .ok (.getfield 33, 3) := by decide +kernel
theorem d_Srv_release_51 : decode b_Srv_release 51 = .ok (.iconst 3, 1) := by decide +kernel
theorem d_Srv_release_52 : decode b_Srv_release 52 = .ok (.if_icmp .ne 14, 3) := by decide +kernel
theorem d_Srv_release_55 : decode b_Srv_release 55 = .ok (.aload_n 2, 1) := by decide +kernel
theorem d_Srv_release_56 : decode b_Srv_release 56 = .ok (.getfield 62, 3) := by decide +kernel
theorem d_Srv_release_59 : decode b_Srv_release 59 = .ok (.ifCond .eq 7, 3) := by decide +kernel
theorem d_Srv_release_62 : decode b_Srv_release 62 = .ok (.iconst 1, 1) := by decide +kernel
theorem d_Srv_release_63 : decode b_Srv_release 63 = .ok (.goto 4, 3) := by decide +kernel
theorem d_Srv_release_66 : decode b_Srv_release 66 = .ok (.iconst 3, 1) := by decide +kernel
theorem d_Srv_release_67 : decode b_Srv_release 67 = .ok (.invokevirtual 151, 3) := by decide +kernel
theorem d_Srv_release_70 : decode b_Srv_release 70 = .ok (.aload_n 0, 1) := by decide +kernel
theorem d_Srv_release_71 : decode b_Srv_release 71 = .ok (.invokevirtual 65, 3) := by decide +kernel
theorem d_Srv_release_74 : decode b_Srv_release 74 = .ok (.return_, 1) := by decide +kernel
set_option maxRecDepth 100000 in
set_option maxHeartbeats 4000000 in
theorem c_Srv_release (l : Launch) (K : Kx) (V : Vx) (A B C D : MI) (P : MP) (n : Nat) (cs : CS K V P n) (s : Nat) (hs : s < 2) (q : Nat) (hq : V.1 5 q) (a : Nat) (ha : a < n) (hqa : B 84 q = nI a) : Ct l K md_Srv_release (2, 41) 0 0 [.ref (K.ad 1 s), .ref (K.ad 5 q)] V (bk4 A B C D) P (EQ V (none) (bk4 (hrRel A (32 * s + a) s (B 82 q) (B 85 q)) B C D) P) := by
  refine ct_of [(0, .ref (K.ad 1 s)), (1, .ref (K.ad 5 q))] (by decide) (Nat.le_of_ble_eq_true rfl) (ca_r (ca_r ca_n)) rfl ?_
  intro X hl hX
  have h : OkX X b_Srv_release R_Srv K := hX.1
  have hN : X.nL = 3 := hX.2.1
  have hsv := cs_sv cs hs
  have hr := cs_rv cs hs ha
  refine j_aload_n h d_Srv_release_0 rfl ?_
  refine j_getR h d_Srv_release_1 fl_Srv_26 rfl (by assumption) (cs_rp cs hs) ?_
  refine j_aload_n h d_Srv_release_4 rfl ?_
  refine j_get1e (v := nI a) h d_Srv_release_5 fl_Srv_81 rfl (by assumption) hqa ?_
  refine j_recs h cs hs ha d_Srv_release_8 ?_
  refine j_astore_n h d_Srv_release_9 (Nat.lt_of_lt_of_eq (m := 3) (by decide) hN.symm) ?_
  refine j_aload_n h d_Srv_release_10 rfl ?_
  refine j_aload_n h d_Srv_release_11 rfl ?_
  refine j_get1 h d_Srv_release_12 fl_Srv_84 rfl (by assumption) ?_
  refine j_callV h (c_Rec_isBoundTo _ _ _ _ _ _ _ _ _ hr _) d_Srv_release_15 ml_Srv_103 mv_Rec_isBoundTo (by assumption) ⟨rfl, rfl⟩ rfl rfl (Nat.le_of_ble_eq_true rfl) (hR_of hX (by decide) (by decide)) (hf_of hX (by decide) (by decide)) ?_
  rintro _ _ _ _ ⟨rfl, rfl, rfl, rfl⟩
  refine j_if_eq (tgt := 32) h d_Srv_release_18 (by decide) (fun c1 => ?_) (fun c1 => ?_)
  · exact j_vret hX d_Srv_release_32 rfl (Nat.le_refl _) (Nat.le_refl _) ⟨rfl, by clear hX h hl; first | rfl | (simp_all [hrRel, b01]; done) | grind [hrRel, b01], by clear hX h hl; first | rfl | (simp_all [hrRel, b01, up_rd]; done) | grind [hrRel, b01, up_rd, chgTo_rd, chg_rd, settle_rd, bnd_rd], rfl⟩
  · refine j_aload_n h d_Srv_release_21 rfl ?_
    refine j_get0 h d_Srv_release_22 fl_Srv_133 rfl (by assumption) ?_
    refine j_aload_n h d_Srv_release_25 rfl ?_
    refine j_get1 h d_Srv_release_26 fl_Srv_125 rfl (by assumption) ?_
    refine j_ic_le (tgt := 33) h d_Srv_release_29 (by decide) (fun c2 => ?_) (fun c2 => ?_)
    · refine j_aload_n h d_Srv_release_33 rfl ?_
      refine j_aload_n h d_Srv_release_34 rfl ?_
      refine j_get1 h d_Srv_release_35 fl_Srv_125 rfl (by assumption) ?_
      refine j_put0 h d_Srv_release_38 fw_Srv_133 rfl rfl (by assumption) ?_
      refine j_aload_n h d_Srv_release_41 rfl ?_
      refine j_iconst (v := 1) h d_Srv_release_42 (by decide) ?_
      refine j_putZ0 h d_Srv_release_43 fw_Srv_148 rfl rfl (by assumption) (by first | exact Or.inl rfl | exact Or.inr rfl | assumption) ?_
      refine j_aload_n h d_Srv_release_46 rfl ?_
      refine j_aload_n h d_Srv_release_47 rfl ?_
      refine j_get0 h d_Srv_release_48 fl_Srv_33 rfl (by assumption) ?_
      refine j_iconst (v := 3) h d_Srv_release_51 (by decide) ?_
      refine j_ic_ne (tgt := 66) h d_Srv_release_52 (by decide) (fun c3 => ?_) (fun c3 => ?_)
      · refine j_iconst (v := 3) h d_Srv_release_66 (by decide) ?_
        refine j_callV h (c_Rec_changeTo _ _ _ _ _ _ _ _ _ hr _) d_Srv_release_67 ml_Srv_151 mv_Rec_changeTo (by assumption) ⟨rfl, rfl⟩ rfl rfl (Nat.le_of_ble_eq_true rfl) (hR_of hX (by decide) (by decide)) (hf_of hX (by decide) (by decide)) ?_
        rintro _ _ _ _ ⟨rfl, rfl, rfl, rfl⟩
        refine j_aload_n h d_Srv_release_70 rfl ?_
        refine j_callV h (c_Srv_write _ _ _ _ _ _ _ _ _ hsv) d_Srv_release_71 ml_Srv_65 mv_Srv_write (by assumption) ⟨rfl, rfl⟩ rfl rfl (Nat.le_of_ble_eq_true rfl) (hR_of hX (by decide) (by decide)) (hf_of hX (by decide) (by decide)) ?_
        rintro _ _ _ _ ⟨rfl, rfl, rfl, rfl⟩
        exact j_vret hX d_Srv_release_74 rfl (Nat.le_refl _) (Nat.le_refl _) ⟨rfl, by clear hX h hl; first | rfl | (simp_all [hrRel, b01]; done) | grind [hrRel, b01], by clear hX h hl; first | rfl | (simp_all [hrRel, b01, up_rd]; done) | grind [hrRel, b01, up_rd, chgTo_rd, chg_rd, settle_rd, bnd_rd], rfl⟩
      · refine j_aload_n h d_Srv_release_55 rfl ?_
        refine j_get0 h d_Srv_release_56 fl_Srv_62 rfl (by assumption) ?_
        refine j_if_eq (tgt := 66) h d_Srv_release_59 (by decide) (fun c4 => ?_) (fun c4 => ?_)
        · refine j_iconst (v := 3) h d_Srv_release_66 (by decide) ?_
          refine j_callV h (c_Rec_changeTo _ _ _ _ _ _ _ _ _ hr _) d_Srv_release_67 ml_Srv_151 mv_Rec_changeTo (by assumption) ⟨rfl, rfl⟩ rfl rfl (Nat.le_of_ble_eq_true rfl) (hR_of hX (by decide) (by decide)) (hf_of hX (by decide) (by decide)) ?_
          rintro _ _ _ _ ⟨rfl, rfl, rfl, rfl⟩
          refine j_aload_n h d_Srv_release_70 rfl ?_
          refine j_callV h (c_Srv_write _ _ _ _ _ _ _ _ _ hsv) d_Srv_release_71 ml_Srv_65 mv_Srv_write (by assumption) ⟨rfl, rfl⟩ rfl rfl (Nat.le_of_ble_eq_true rfl) (hR_of hX (by decide) (by decide)) (hf_of hX (by decide) (by decide)) ?_
          rintro _ _ _ _ ⟨rfl, rfl, rfl, rfl⟩
          exact j_vret hX d_Srv_release_74 rfl (Nat.le_refl _) (Nat.le_refl _) ⟨rfl, by clear hX h hl; first | rfl | (simp_all [hrRel, b01]; done) | grind [hrRel, b01], by clear hX h hl; first | rfl | (simp_all [hrRel, b01, up_rd]; done) | grind [hrRel, b01, up_rd, chgTo_rd, chg_rd, settle_rd, bnd_rd], rfl⟩
        · refine j_iconst (v := 1) h d_Srv_release_62 (by decide) ?_
          refine j_goto (tgt := 67) h d_Srv_release_63 (by decide) ?_
          refine j_callV h (c_Rec_changeTo _ _ _ _ _ _ _ _ _ hr _) d_Srv_release_67 ml_Srv_151 mv_Rec_changeTo (by assumption) ⟨rfl, rfl⟩ rfl rfl (Nat.le_of_ble_eq_true rfl) (hR_of hX (by decide) (by decide)) (hf_of hX (by decide) (by decide)) ?_
          rintro _ _ _ _ ⟨rfl, rfl, rfl, rfl⟩
          refine j_aload_n h d_Srv_release_70 rfl ?_
          refine j_callV h (c_Srv_write _ _ _ _ _ _ _ _ _ hsv) d_Srv_release_71 ml_Srv_65 mv_Srv_write (by assumption) ⟨rfl, rfl⟩ rfl rfl (Nat.le_of_ble_eq_true rfl) (hR_of hX (by decide) (by decide)) (hf_of hX (by decide) (by decide)) ?_
          rintro _ _ _ _ ⟨rfl, rfl, rfl, rfl⟩
          exact j_vret hX d_Srv_release_74 rfl (Nat.le_refl _) (Nat.le_refl _) ⟨rfl, by clear hX h hl; first | rfl | (simp_all [hrRel, b01]; done) | grind [hrRel, b01], by clear hX h hl; first | rfl | (simp_all [hrRel, b01, up_rd]; done) | grind [hrRel, b01, up_rd, chgTo_rd, chg_rd, settle_rd, bnd_rd], rfl⟩
    · exact j_vret hX d_Srv_release_32 rfl (Nat.le_refl _) (Nat.le_refl _) ⟨rfl, by clear hX h hl; first | rfl | (simp_all [hrRel, b01]; done) | grind [hrRel, b01], by clear hX h hl; first | rfl | (simp_all [hrRel, b01, up_rd]; done) | grind [hrRel, b01, up_rd, chgTo_rd, chg_rd, settle_rd, bnd_rd], rfl⟩
theorem d_Srv_renew_0 : decode b_Srv_renew 0 = .ok (.aload_n 0, 1) := by decide +kernel
theorem d_Srv_renew_1 : decode b_Srv_renew 1 = .ok (.getfield 26, 3) := by decide +kernel
theorem d_Srv_renew_4 : decode b_Srv_renew 4 = .ok (.iload_n 2, 1) := by decide +kernel
theorem d_Srv_renew_5 : decode b_Srv_renew 5 = .ok (.aaload, 1) := by decide +kernel
theorem d_Srv_renew_6 : decode b_Srv_renew 6 = .ok (.astore 4, 2) := by decide +kernel
theorem d_Srv_renew_8 : decode b_Srv_renew 8 = .ok (.aload 4, 2) := by decide +kernel
theorem d_Srv_renew_10 : decode b_Srv_renew 10 = .ok (.aload_n 1, 1) := by decide +kernel
theorem d_Srv_renew_11 : decode b_Srv_renew 11 = .ok (.getfield 84, 3) := by decide +kernel
theorem d_Srv_renew_14 : decode b_Srv_renew 14 = .ok (.invokevirtual 103, 3) := by decide +kernel
theorem d_Srv_renew_17 : decode b_Srv_renew 17 = .ok (.ifCond .ne 5, 3) := by decide +kernel
theorem d_Srv_renew_20 : decode b_Srv_renew 20 = .ok (.iconst (-1), 1) := by decide +kernel
theorem d_Srv_renew_21 : decode b_Srv_renew 21 = .ok (.ireturn, 1) := by decide +kernel
theorem d_Srv_renew_22 : decode b_Srv_renew 22 = .ok (.aload 4, 2) := by decide +kernel
theorem d_Srv_renew_24 : decode b_Srv_renew 24 = .ok (.getfield 133, 3) := by decide +kernel
theorem d_Srv_renew_27 : decode b_Srv_renew 27 = .ok (.aload_n 1, 1) := by decide +kernel
theorem d_Srv_renew_28 : decode b_Srv_renew 28 = .ok (.getfield 125, 3) := by decide +kernel
theorem d_Srv_renew_31 : decode b_Srv_renew 31 = .ok (.if_icmp .le 6, 3) := by decide +kernel
theorem d_Srv_renew_34 : decode b_Srv_renew 34 = .ok (.bipush (-2), 2) := by decide +kernel
theorem d_Srv_renew_36 : decode b_Srv_renew 36 = .ok (.ireturn, 1) := by decide +kernel
theorem d_Srv_renew_37 : decode b_Srv_renew 37 = .ok (.aload 4, 2) := by decide +kernel
theorem d_Srv_renew_39 : decode b_Srv_renew 39 = .ok (.getfield 107, 3) := by decide +kernel
theorem d_Srv_renew_42 : decode b_Srv_renew 42 = .ok (.iload_n 3, 1) := by decide +kernel
theorem d_Srv_renew_43 : decode b_Srv_renew 43 = .ok (.if_icmp .gt 5, 3) := by decide +kernel
theorem d_Srv_renew_46 : decode b_Srv_renew 46 = .ok (.iconst (-1), 1) := by decide +kernel
theorem d_Srv_renew_47 : decode b_Srv_renew 47 = .ok (.ireturn, 1) := by decide +kernel
theorem d_Srv_renew_48 : decode b_Srv_renew 48 = .ok (.iload_n 3, 1) := by decide +kernel
theorem d_Srv_renew_49 : decode b_Srv_renew 49 = .ok (.aload_n 1, 1) := by decide +kernel
theorem d_Srv_renew_50 : decode b_Srv_renew 50 = .ok (.getfield 114, 3) := by decide +kernel
theorem d_Srv_renew_53 : decode b_Srv_renew 53 = .ok (.iadd, 1) := by decide +kernel
theorem d_Srv_renew_54 : decode b_Srv_renew 54 = .ok (.istore 5, 2) := by decide +kernel
theorem d_Srv_renew_56 : decode b_Srv_renew 56 = .ok (.aload_n 0, 1) := by decide +kernel
theorem d_Srv_renew_57 : decode b_Srv_renew 57 = .ok (.getfield 33, 3) := by decide +kernel
theorem d_Srv_renew_60 : decode b_Srv_renew 60 = .ok (.iconst 2, 1) := by decide +kernel
theorem d_Srv_renew_61 : decode b_Srv_renew 61 = .ok (.if_icmp .ne 24, 3) := by decide +kernel
theorem d_Srv_renew_64 : decode b_Srv_renew 64 = .ok (.iload 5, 2) := by decide +kernel
theorem d_Srv_renew_66 : decode b_Srv_renew 66 = .ok (.aload 4, 2) := by decide +kernel
theorem d_Srv_renew_68 : decode b_Srv_renew 68 = .ok (.getfield 136, 3) := by decide +kernel
theorem d_Srv_renew_71 : decode b_Srv_renew 71 = .ok (.iload_n 3, 1) := by decide +kernel
theorem d_Srv_renew_72 : decode b_Srv_renew 72 = .ok (.invokestatic 139, 3) := by decide +kernel
theorem d_Srv_renew_75 : decode b_Srv_renew 75 = .ok (.aload_n 0, 1) := by decide +kernel
theorem d_Srv_renew_76 : decode b_Srv_renew 76 = .ok (.getfield 18, 3) := by decide +kernel
theorem d_Srv_renew_79 : decode b_Srv_renew 79 = .ok (.iadd, 1) := by decide +kernel
theorem d_Srv_renew_80 : decode b_Srv_renew 80 = .ok (.invokestatic 117, 3) := by decide +kernel
theorem d_Srv_renew_83 : decode b_Srv_renew 83 = .ok (.istore 5, 2) := by decide +kernel
theorem d_Srv_renew_85 : decode b_Srv_renew 85 = .ok (.aload 4, 2) := by decide +kernel
theorem d_Srv_renew_87 : decode b_Srv_renew 87 = .ok (.aload_n 1, 1) := by decide +kernel
theorem d_Srv_renew_88 : decode b_Srv_renew 88 = .ok (.getfield 125, 3) := by decide +kernel
theorem d_Srv_renew_91 : decode b_Srv_renew 91 = .ok (.putfield 133, 3) := by decide +kernel
theorem d_Srv_renew_94 : decode b_Srv_renew 94 = .ok (.aload 4, 2) := by decide +kernel
theorem d_Srv_renew_96 : decode b_Srv_renew 96 = .ok (.aload 4, 2) := by decide +kernel
theorem d_Srv_renew_98 : decode b_Srv_renew 98 = .ok (.getfield 107, 3) := by decide +kernel
theorem d_Srv_renew_101 : decode b_Srv_renew 101 = .ok (.iload 5, 2) := by decide +kernel
theorem d_Srv_renew_103 : decode b_Srv_renew 103 = .ok (.invokestatic 139, 3) := by decide +kernel
theorem d_Srv_renew_106 : decode b_Srv_renew 106 = .ok (.putfield 107, 3) := by decide +kernel
theorem d_Srv_renew_109 : decode b_Srv_renew 109 = .ok (.aload 4, 2) := by decide +kernel
theorem d_Srv_renew_111 : decode b_Srv_renew 111 = .ok (.invokevirtual 122, 3) := by decide +kernel
theorem d_Srv_renew_114 : decode b_Srv_renew 114 = .ok (.iload_n 2, 1) := by decide +kernel
theorem d_Srv_renew_115 : decode b_Srv_renew 115 = .ok (.ireturn, 1) := by decide +kernel
set_option maxRecDepth 100000 in
set_option maxHeartbeats 4000000 in
theorem c_Srv_renew (l : Launch) (K : Kx) (V : Vx) (A B C D : MI) (P : MP) (n : Nat) (cs : CS K V P n) (s : Nat) (hs : s < 2) (q : Nat) (hq : V.1 5 q) (a : Nat) (ha : a < n) (t : Int32) : Ct l K md_Srv_renew (1, 21) 0 0 [.ref (K.ad 1 s), .ref (K.ad 5 q), .int (nI a), .int t] V (bk4 A B C D) P (EQ V (some (.int (rnw A (32 * s + a) s a (B 62 s) t (B 82 q) (B 86 q) (B 85 q)).1)) (bk4 (rnw A (32 * s + a) s a (B 62 s) t (B 82 q) (B 86 q) (B 85 q)).2 B C D) P) := by
  refine ct_of [(0, .ref (K.ad 1 s)), (1, .ref (K.ad 5 q)), (2, .int (nI a)), (3, .int t)] (by decide) (Nat.le_of_ble_eq_true rfl) (ca_r (ca_r (ca_i (ca_i ca_n)))) rfl ?_
  intro X hl hX
  have h : OkX X b_Srv_renew R_Srv K := hX.1
  have hN : X.nL = 6 := hX.2.1
  have hsv := cs_sv cs hs
  have hr := cs_rv cs hs ha
  refine j_aload_n h d_Srv_renew_0 rfl ?_
  refine j_getR h d_Srv_renew_1 fl_Srv_26 rfl (by assumption) (cs_rp cs hs) ?_
  refine j_iload_n h d_Srv_renew_4 rfl ?_
  refine j_recs h cs hs ha d_Srv_renew_5 ?_
  refine j_astore h d_Srv_renew_6 (Nat.lt_of_lt_of_eq (m := 6) (by decide) hN.symm) ?_
  refine j_aload h d_Srv_renew_8 rfl ?_
  refine j_aload_n h d_Srv_renew_10 rfl ?_
  refine j_get1 h d_Srv_renew_11 fl_Srv_84 rfl (by assumption) ?_
  refine j_callV h (c_Rec_isBoundTo _ _ _ _ _ _ _ _ _ hr _) d_Srv_renew_14 ml_Srv_103 mv_Rec_isBoundTo (by assumption) ⟨rfl, rfl⟩ rfl rfl (Nat.le_of_ble_eq_true rfl) (hR_of hX (by decide) (by decide)) (hf_of hX (by decide) (by decide)) ?_
  rintro _ _ _ _ ⟨rfl, rfl, rfl, rfl⟩
  refine j_if_ne (tgt := 22) h d_Srv_renew_17 (by decide) (fun c1 => ?_) (fun c1 => ?_)
  · refine j_aload h d_Srv_renew_22 rfl ?_
    refine j_get0 h d_Srv_renew_24 fl_Srv_133 rfl (by assumption) ?_
    refine j_aload_n h d_Srv_renew_27 rfl ?_
    refine j_get1 h d_Srv_renew_28 fl_Srv_125 rfl (by assumption) ?_
    refine j_ic_le (tgt := 37) h d_Srv_renew_31 (by decide) (fun c2 => ?_) (fun c2 => ?_)
    · refine j_aload h d_Srv_renew_37 rfl ?_
      refine j_get0 h d_Srv_renew_39 fl_Srv_107 rfl (by assumption) ?_
      refine j_iload_n h d_Srv_renew_42 rfl ?_
      refine j_ic_gt (tgt := 48) h d_Srv_renew_43 (by decide) (fun c3 => ?_) (fun c3 => ?_)
      · refine j_iload_n h d_Srv_renew_48 rfl ?_
        refine j_aload_n h d_Srv_renew_49 rfl ?_
        refine j_get1 h d_Srv_renew_50 fl_Srv_114 rfl (by assumption) ?_
        refine j_iadd h d_Srv_renew_53 ?_
        refine j_istore h d_Srv_renew_54 (Nat.lt_of_lt_of_eq (m := 6) (by decide) hN.symm) ?_
        refine j_aload_n h d_Srv_renew_56 rfl ?_
        refine j_get0 h d_Srv_renew_57 fl_Srv_33 rfl (by assumption) ?_
        refine j_iconst (v := 2) h d_Srv_renew_60 (by decide) ?_
        refine j_ic_ne (tgt := 85) h d_Srv_renew_61 (by decide) (fun c4 => ?_) (fun c4 => ?_)
        · refine j_aload h d_Srv_renew_85 rfl ?_
          refine j_aload_n h d_Srv_renew_87 rfl ?_
          refine j_get1 h d_Srv_renew_88 fl_Srv_125 rfl (by assumption) ?_
          refine j_put0 h d_Srv_renew_91 fw_Srv_133 rfl rfl (by assumption) ?_
          refine j_aload h d_Srv_renew_94 rfl ?_
          refine j_aload h d_Srv_renew_96 rfl ?_
          refine j_get0 h d_Srv_renew_98 fl_Srv_107 rfl (by assumption) ?_
          refine j_iload h d_Srv_renew_101 rfl ?_
          refine j_mmax h d_Srv_renew_103 wm_Srv_139 (hM_of hX (by decide) (Nat.le_of_ble_eq_true rfl)) (hf_of (mc' := 0) (ms' := 0) hX (by decide) (by decide)) ?_
          refine j_put0 h d_Srv_renew_106 fw_Srv_107 rfl rfl (by assumption) ?_
          refine j_aload h d_Srv_renew_109 rfl ?_
          refine j_callV h (c_Rec_change _ _ _ _ _ _ _ _ _ hr) d_Srv_renew_111 ml_Srv_122 mv_Rec_change (by assumption) ⟨rfl, rfl⟩ rfl rfl (Nat.le_of_ble_eq_true rfl) (hR_of hX (by decide) (by decide)) (hf_of hX (by decide) (by decide)) ?_
          rintro _ _ _ _ ⟨rfl, rfl, rfl, rfl⟩
          refine j_iload_n h d_Srv_renew_114 rfl ?_
          exact j_iret hX d_Srv_renew_115 rfl (Nat.le_refl _) (Nat.le_refl _) ⟨rfl, by clear hX h hl; first | rfl | (simp_all [rnw, b01]; done) | grind [rnw, b01], by clear hX h hl; first | rfl | (simp_all [rnw, b01, up_rd]; done) | grind [rnw, b01, up_rd, chgTo_rd, chg_rd, settle_rd, bnd_rd], rfl⟩
        · refine j_iload h d_Srv_renew_64 rfl ?_
          refine j_aload h d_Srv_renew_66 rfl ?_
          refine j_get0 h d_Srv_renew_68 fl_Srv_136 rfl (by assumption) ?_
          refine j_iload_n h d_Srv_renew_71 rfl ?_
          refine j_mmax h d_Srv_renew_72 wm_Srv_139 (hM_of hX (by decide) (Nat.le_of_ble_eq_true rfl)) (hf_of (mc' := 0) (ms' := 0) hX (by decide) (by decide)) ?_
          refine j_aload_n h d_Srv_renew_75 rfl ?_
          refine j_get1 h d_Srv_renew_76 fl_Srv_18 rfl (by assumption) ?_
          refine j_iadd h d_Srv_renew_79 ?_
          refine j_mmin h d_Srv_renew_80 wm_Srv_117 (hM_of hX (by decide) (Nat.le_of_ble_eq_true rfl)) (hf_of (mc' := 0) (ms' := 0) hX (by decide) (by decide)) ?_
          refine j_istore h d_Srv_renew_83 (Nat.lt_of_lt_of_eq (m := 6) (by decide) hN.symm) ?_
          refine j_aload h d_Srv_renew_85 rfl ?_
          refine j_aload_n h d_Srv_renew_87 rfl ?_
          refine j_get1 h d_Srv_renew_88 fl_Srv_125 rfl (by assumption) ?_
          refine j_put0 h d_Srv_renew_91 fw_Srv_133 rfl rfl (by assumption) ?_
          refine j_aload h d_Srv_renew_94 rfl ?_
          refine j_aload h d_Srv_renew_96 rfl ?_
          refine j_get0 h d_Srv_renew_98 fl_Srv_107 rfl (by assumption) ?_
          refine j_iload h d_Srv_renew_101 rfl ?_
          refine j_mmax h d_Srv_renew_103 wm_Srv_139 (hM_of hX (by decide) (Nat.le_of_ble_eq_true rfl)) (hf_of (mc' := 0) (ms' := 0) hX (by decide) (by decide)) ?_
          refine j_put0 h d_Srv_renew_106 fw_Srv_107 rfl rfl (by assumption) ?_
          refine j_aload h d_Srv_renew_109 rfl ?_
          refine j_callV h (c_Rec_change _ _ _ _ _ _ _ _ _ hr) d_Srv_renew_111 ml_Srv_122 mv_Rec_change (by assumption) ⟨rfl, rfl⟩ rfl rfl (Nat.le_of_ble_eq_true rfl) (hR_of hX (by decide) (by decide)) (hf_of hX (by decide) (by decide)) ?_
          rintro _ _ _ _ ⟨rfl, rfl, rfl, rfl⟩
          refine j_iload_n h d_Srv_renew_114 rfl ?_
          exact j_iret hX d_Srv_renew_115 rfl (Nat.le_refl _) (Nat.le_refl _) ⟨rfl, by clear hX h hl; first | rfl | (simp_all [rnw, b01]; done) | grind [rnw, b01], by clear hX h hl; first | rfl | (simp_all [rnw, b01, up_rd]; done) | grind [rnw, b01, up_rd, chgTo_rd, chg_rd, settle_rd, bnd_rd], rfl⟩
      · refine j_iconst (v := -1) h d_Srv_renew_46 (by decide) ?_
        exact j_iret hX d_Srv_renew_47 rfl (Nat.le_refl _) (Nat.le_refl _) ⟨rfl, by clear hX h hl; first | rfl | (simp_all [rnw, b01]; done) | grind [rnw, b01], by clear hX h hl; first | rfl | (simp_all [rnw, b01, up_rd]; done) | grind [rnw, b01, up_rd, chgTo_rd, chg_rd, settle_rd, bnd_rd], rfl⟩
    · refine j_bipush (v := -2) h d_Srv_renew_34 (by decide) ?_
      exact j_iret hX d_Srv_renew_36 rfl (Nat.le_refl _) (Nat.le_refl _) ⟨rfl, by clear hX h hl; first | rfl | (simp_all [rnw, b01]; done) | grind [rnw, b01], by clear hX h hl; first | rfl | (simp_all [rnw, b01, up_rd]; done) | grind [rnw, b01, up_rd, chgTo_rd, chg_rd, settle_rd, bnd_rd], rfl⟩
  · refine j_iconst (v := -1) h d_Srv_renew_20 (by decide) ?_
    exact j_iret hX d_Srv_renew_21 rfl (Nat.le_refl _) (Nat.le_refl _) ⟨rfl, by clear hX h hl; first | rfl | (simp_all [rnw, b01]; done) | grind [rnw, b01], by clear hX h hl; first | rfl | (simp_all [rnw, b01, up_rd]; done) | grind [rnw, b01, up_rd, chgTo_rd, chg_rd, settle_rd, bnd_rd], rfl⟩
